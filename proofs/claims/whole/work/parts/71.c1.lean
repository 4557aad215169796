set_option maxHeartbeats 4000000 in
set_option maxRecDepth 20000 in
theorem fc_canEncode (d : Nat) {b : Nat} (hb : b < 256) : FC (d + 1) 172 (fun fx => [.int (nI b)]) (some (.int 1)) := by
  refine FC.of pm_J1_canEncode_9a6ad rfl (fun _ => rfl) (fun _ => Nat.le_of_ble_eq_true rfl) ?_
  intro fx al n g Q hQ
  show pg px_tb fx (px_body pm_J1_canEncode_9a6ad) (pm px_tb fx (d)) Q al n g 0 [.int (nI b)] [] 0 0
  refine pg_iload_n dJ1_canEncode_9a6ad_0 rfl ?_
  refine pg_if_lt (tgt := 15) dJ1_canEncode_9a6ad_1 (by decide) (fun c1 => absurd c1 (nI_pos (by omega))) (fun c1 => ?_)
  refine pg_iload_n dJ1_canEncode_9a6ad_4 rfl ?_
  refine pg_sipush dJ1_canEncode_9a6ad_5 (show (Int16.ofInt (255)).toInt32 = (255) by decide) ?_
  refine pg_icmp_gt (tgt := 15) dJ1_canEncode_9a6ad_8 (by decide) (fun c8 => absurd c8 (nI_nlt (a := 255) (b := b) (by omega) (by decide))) (fun c8 => ?_)
  refine pg_iconst dJ1_canEncode_9a6ad_11 (show Int32.ofInt (1) = (1) by decide) ?_
  refine pg_goto (tgt := 16) dJ1_canEncode_9a6ad_12 (by decide) ?_
  exact sg_iret hQ dJ1_canEncode_9a6ad_16 rfl rfl rfl
def ixF (c : Int32) : Nat → Nat → Int32
  | 0, _ => -1
  | m + 1, k => if sTx 0 k = c then nI k else ixF c m (k + 1)
theorem ixF_sg : ∀ b, b < 256 → (ixF (sb b) 12 0 < 0 ↔ isSg b = false) := by decide +kernel
set_option maxHeartbeats 4000000 in
set_option maxRecDepth 20000 in
theorem fl_indexOfChar {fx : px_F} {K : px_K} {Q : px_Q} {al : Nat → Nat} {n : Nat} {g : Nat → px_O} {b : Nat} : ∀ (m k : Nat), k + m = 12 → Q (.inl (some (.int (ixF (sb b) m k)))) al n g → pg px_tb fx (px_body pm_J1_indexOfChar_4cfef) K Q al n g 7 [.ref (fx.2.1 0), .int (nI b), .int 0, .int (nI 12), .int (sb b), .int (nI k)] [] 0 0
  | 0, k, hk, hQ => by
    obtain rfl : k = 12 := by omega
    refine pg_iload dJ1_indexOfChar_4cfef_7 rfl ?_
    refine pg_iload_n dJ1_indexOfChar_4cfef_9 rfl ?_
    refine pg_icmp_ge (tgt := 31) dJ1_indexOfChar_4cfef_10 (by decide) (fun c10 => ?_) (fun c10 => absurd (Int32.le_refl _) c10)
    refine pg_iconst dJ1_indexOfChar_4cfef_31 (show Int32.ofInt (-1) = (-1) by decide) ?_
    exact sg_iret hQ dJ1_indexOfChar_4cfef_32 rfl rfl rfl
  | m + 1, k, hk, hQ => by
    rw [ixF] at hQ
    refine pg_iload dJ1_indexOfChar_4cfef_7 rfl ?_
    refine pg_iload_n dJ1_indexOfChar_4cfef_9 rfl ?_
    refine pg_icmp_ge (tgt := 31) dJ1_indexOfChar_4cfef_10 (by decide) (fun c10 => absurd c10 (Int32.not_le.mpr (nI_lt (by omega) (by decide)))) (fun c10 => ?_)
    refine pg_aload_n dJ1_indexOfChar_4cfef_13 rfl rfl ?_
    refine pg_iload dJ1_indexOfChar_4cfef_14 rfl ?_
    refine pg_strbyt (i := 0) dJ1_indexOfChar_4cfef_16 (by decide) (vp_in_nI (show k < px_len.getD 0 0 by show k < 12; omega) (by decide)) ?_
    rw [nI_clamp (by omega)]
    show pg _ _ _ _ _ _ _ _ _ _ [.int (sTx 0 k)] _ _
    refine pg_iload dJ1_indexOfChar_4cfef_17 rfl ?_
    refine pg_icmp_ne (tgt := 25) dJ1_indexOfChar_4cfef_19 (by decide) (fun c19 => ?_) (fun c19 => ?_)
    ·
      rw [if_neg c19] at hQ
      refine pg_iinc dJ1_indexOfChar_4cfef_25 rfl (show Int32.ofInt (1) = (1) by decide) ?_
      refine pg_goto (tgt := 7) dJ1_indexOfChar_4cfef_28 (by decide) ?_
      rw [nI_1]
      exact fl_indexOfChar m (k + 1) (by omega) hQ
    ·
      refine pg_iload dJ1_indexOfChar_4cfef_22 rfl ?_
      rw [if_pos c19] at hQ
      exact sg_iret hQ dJ1_indexOfChar_4cfef_24 rfl rfl rfl
set_option maxHeartbeats 4000000 in
set_option maxRecDepth 20000 in
theorem fc_indexOfChar (d : Nat) {b : Nat} : FC (d + 1) 174 (fun fx => [.ref (fx.2.1 0), .int (nI b), .int 0, .int (nI 12)]) (some (.int (ixF (sb b) 12 0))) := by
  refine FC.of pm_J1_indexOfChar_4cfef rfl (fun _ => rfl) (fun _ => Nat.le_of_ble_eq_true rfl) ?_
  intro fx al n g Q hQ
  show pg px_tb fx (px_body pm_J1_indexOfChar_4cfef) (pm px_tb fx (d)) Q al n g 0 [.ref (fx.2.1 0), .int (nI b), .int 0, .int (nI 12), .float 0, .float 0] [] 0 0
  refine pg_iload_n dJ1_indexOfChar_4cfef_0 rfl ?_
  refine pg_i2b dJ1_indexOfChar_4cfef_1 ?_
  refine pg_istore dJ1_indexOfChar_4cfef_2 (Nat.le_of_ble_eq_true rfl) ?_
  refine pg_iload_n dJ1_indexOfChar_4cfef_4 rfl ?_
  refine pg_istore dJ1_indexOfChar_4cfef_5 (Nat.le_of_ble_eq_true rfl) ?_
  exact fl_indexOfChar 12 0 rfl hQ
set_option maxHeartbeats 4000000 in
set_option maxRecDepth 20000 in
theorem fc_indexOfL (d : Nat) {b : Nat} (hb : b < 256) : FC (d + 2) 173 (fun fx => [.ref (fx.2.1 0), .int (nI b), .int 0, .int (nI 12)]) (some (.int (ixF (sb b) 12 0))) := by
  refine FC.of pm_J1_indexOf_4cfef rfl (fun _ => rfl) (fun _ => Nat.le_of_ble_eq_true rfl) ?_
  intro fx al n g Q hQ
  show pg px_tb fx (px_body pm_J1_indexOf_4cfef) (pm px_tb fx (d + 1)) Q al n g 0 [.ref (fx.2.1 0), .int (nI b), .int 0, .int (nI 12)] [] 0 0
  refine pg_iload_n dJ1_indexOf_4cfef_0 rfl ?_
  refine fg_call dJ1_indexOf_4cfef_1 cl_J1_88 (fc_canEncode d hb) rfl rfl (Nat.le_of_ble_eq_true rfl) ⟨rfl, rfl⟩ ?_
  refine pg_if_ne (tgt := 9) dJ1_indexOf_4cfef_4 (by decide) (fun c4 => ?_) (fun c4 => absurd c4 (by decide))
  refine pg_iload_n dJ1_indexOf_4cfef_9 rfl ?_
  refine pg_iconst dJ1_indexOf_4cfef_10 (show Int32.ofInt (0) = (0) by decide) ?_
  refine fg_call dJ1_indexOf_4cfef_11 cl_J1_92 (fc_max d 0 0) rfl rfl (Nat.le_of_ble_eq_true rfl) ⟨rfl, rfl⟩ ?_
  refine pg_istore_n dJ1_indexOf_4cfef_14 (Nat.le_of_ble_eq_true rfl) ?_
  refine pg_iload_n dJ1_indexOf_4cfef_15 rfl ?_
  refine pg_aload_n dJ1_indexOf_4cfef_16 rfl rfl ?_
  refine pg_strlen (i := 0) dJ1_indexOf_4cfef_17 (by decide) ?_
  refine fg_call dJ1_indexOf_4cfef_18 cl_J1_38 (fc_min d (nI 12) (nI 12)) rfl rfl (Nat.le_of_ble_eq_true rfl) ⟨rfl, rfl⟩ ?_
  refine pg_istore_n dJ1_indexOf_4cfef_21 (Nat.le_of_ble_eq_true rfl) ?_
  refine pg_iload_n dJ1_indexOf_4cfef_22 rfl ?_
  refine pg_iload_n dJ1_indexOf_4cfef_23 rfl ?_
  refine pg_icmp_lt (tgt := 29) dJ1_indexOf_4cfef_24 (by decide) (fun c24 => ?_) (fun c24 => absurd (show (0 : Int32) < nI 12 by decide) c24)
  refine pg_aload_n dJ1_indexOf_4cfef_29 rfl rfl ?_
  refine pg_iload_n dJ1_indexOf_4cfef_30 rfl ?_
  refine pg_iload_n dJ1_indexOf_4cfef_31 rfl ?_
  refine pg_iload_n dJ1_indexOf_4cfef_32 rfl ?_
  refine fg_call dJ1_indexOf_4cfef_33 cl_J1_95 (fc_indexOfChar d) rfl rfl (Nat.le_of_ble_eq_true rfl) ⟨rfl, rfl⟩ ?_
  exact sg_iret hQ dJ1_indexOf_4cfef_36 rfl rfl rfl
set_option maxHeartbeats 4000000 in
set_option maxRecDepth 20000 in
theorem fc_indexOf2 (d : Nat) {b : Nat} (hb : b < 256) : FC (d + 3) 166 (fun fx => [.ref (fx.1 0), .int (nI b), .int 0]) (some (.int (ixF (sb b) 12 0))) := by
  refine FC.of pm_J0_indexOf_7cf53 rfl (fun _ => rfl) (fun _ => Nat.le_of_ble_eq_true rfl) ?_
  intro fx al n g Q hQ
  show pg px_tb fx (px_body pm_J0_indexOf_7cf53) (pm px_tb fx (d + 2)) Q al n g 0 [.ref (fx.1 0), .int (nI b), .int 0] [] 0 0
  have hi : 0 < 4 := by decide
  refine pg_aload_n dJ0_indexOf_7cf53_0 rfl rfl ?_
  refine fg_callT dJ0_indexOf_7cf53_1 cl_J0_492 hi (fc_isLatin1 (d + 1) (i := 0) hi) rfl rfl (Nat.le_of_ble_eq_true rfl) ⟨rfl, rfl⟩ ?_
  refine pg_if_eq (tgt := 23) dJ0_indexOf_7cf53_4 (by decide) (fun c4 => absurd c4 (by decide)) (fun c4 => ?_)
  refine pg_aload_n dJ0_indexOf_7cf53_7 rfl rfl ?_
  refine pg_strval dJ0_indexOf_7cf53_8 hi (px_big_of (List.mem_append_right _ (List.mem_of_getElem? (i := 1296) (by decide +kernel))) rfl) ?_
  refine pg_iload_n dJ0_indexOf_7cf53_11 rfl ?_
  refine pg_iload_n dJ0_indexOf_7cf53_12 rfl ?_
  refine pg_aload_n dJ0_indexOf_7cf53_13 rfl rfl ?_
  refine fg_callT dJ0_indexOf_7cf53_14 cl_J0_505 hi (fc_length d (i := 0) hi) rfl rfl (Nat.le_of_ble_eq_true rfl) ⟨rfl, rfl⟩ ?_
  refine fg_call dJ0_indexOf_7cf53_17 cl_J0_637 (fc_indexOfL d hb) rfl rfl (Nat.le_of_ble_eq_true rfl) ⟨rfl, rfl⟩ ?_
  refine pg_goto (tgt := 36) dJ0_indexOf_7cf53_20 (by decide) ?_
  exact sg_iret hQ dJ0_indexOf_7cf53_36 rfl rfl rfl
set_option maxHeartbeats 4000000 in
set_option maxRecDepth 20000 in
theorem fc_indexOf (d : Nat) {b : Nat} (hb : b < 256) : FC (d + 4) 165 (fun fx => [.ref (fx.1 0), .int (nI b)]) (some (.int (ixF (sb b) 12 0))) := by
  refine FC.of pm_J0_indexOf_0f7a4 rfl (fun _ => rfl) (fun _ => Nat.le_of_ble_eq_true rfl) ?_
  intro fx al n g Q hQ
  show pg px_tb fx (px_body pm_J0_indexOf_0f7a4) (pm px_tb fx (d + 3)) Q al n g 0 [.ref (fx.1 0), .int (nI b)] [] 0 0
  refine pg_aload_n dJ0_indexOf_0f7a4_0 rfl rfl ?_
  refine pg_iload_n dJ0_indexOf_0f7a4_1 rfl ?_
  refine pg_iconst dJ0_indexOf_0f7a4_2 (show Int32.ofInt (0) = (0) by decide) ?_
  refine fg_callT dJ0_indexOf_0f7a4_3 cl_J0_633 (show 0 < 4 by decide) (fc_indexOf2 d hb) rfl rfl (Nat.le_of_ble_eq_true rfl) ⟨rfl, rfl⟩ ?_
  exact sg_iret hQ dJ0_indexOf_0f7a4_6 rfl rfl rfl
def varOf (t : Int32) : Int32 := if t = 97 then 0 else if t = 98 then 1 else if t = 99 then 2 else if t = 100 then 3 else if t = 114 then 4 else -1
set_option maxHeartbeats 4000000 in
set_option maxRecDepth 20000 in
theorem rc_varOf (d : Nat) (t : Int32) : SC (d + 1) 86 [.int t] (some (.int (varOf t))) := by
  refine SC.of pm_X9_variableOf rfl rfl (Nat.le_of_ble_eq_true rfl) ?_
  intro fx al n g Q hQ
  show pg px_tb fx (px_body pm_X9_variableOf) (pm px_tb fx d) Q al n g 0 [.int t] [] 0 0
  refine pg_iload_n dX9_variableOf_0 rfl ?_
  by_cases h97 : t = 97
  · subst h97
    refine pg_lookup (off := 51) (tgt := 52) dX9_variableOf_1 (by decide) (by decide) (by decide) ?_
    refine pg_iconst dX9_variableOf_52 (show Int32.ofInt (0) = (0) by decide) ?_
    exact sg_iret hQ dX9_variableOf_53 rfl rfl rfl
  by_cases h98 : t = 98
  · subst h98
    refine pg_lookup (off := 53) (tgt := 54) dX9_variableOf_1 (by decide) (by decide) (by decide) ?_
    refine pg_iconst dX9_variableOf_54 (show Int32.ofInt (1) = (1) by decide) ?_
    exact sg_iret hQ dX9_variableOf_55 rfl rfl rfl
  by_cases h99 : t = 99
  · subst h99
    refine pg_lookup (off := 55) (tgt := 56) dX9_variableOf_1 (by decide) (by decide) (by decide) ?_
    refine pg_iconst dX9_variableOf_56 (show Int32.ofInt (2) = (2) by decide) ?_
    exact sg_iret hQ dX9_variableOf_57 rfl rfl rfl
  by_cases h100 : t = 100
  · subst h100
    refine pg_lookup (off := 57) (tgt := 58) dX9_variableOf_1 (by decide) (by decide) (by decide) ?_
    refine pg_iconst dX9_variableOf_58 (show Int32.ofInt (3) = (3) by decide) ?_
    exact sg_iret hQ dX9_variableOf_59 rfl rfl rfl
  by_cases h114 : t = 114
  · subst h114
    refine pg_lookup (off := 59) (tgt := 60) dX9_variableOf_1 (by decide) (by decide) (by decide) ?_
    refine pg_iconst dX9_variableOf_60 (show Int32.ofInt (4) = (4) by decide) ?_
    exact sg_iret hQ dX9_variableOf_61 rfl rfl rfl
  have hne : ¬ (97 : Int) = t.toInt ∧ ¬ (98 : Int) = t.toInt ∧ ¬ (99 : Int) = t.toInt ∧ ¬ (100 : Int) = t.toInt ∧ ¬ (114 : Int) = t.toInt := ⟨fun z => h97 (Int32.toInt_inj.mp z.symm), fun z => h98 (Int32.toInt_inj.mp z.symm), fun z => h99 (Int32.toInt_inj.mp z.symm), fun z => h100 (Int32.toInt_inj.mp z.symm), fun z => h114 (Int32.toInt_inj.mp z.symm)⟩
  refine pg_lookup (off := 61) (tgt := 62) dX9_variableOf_1 (by decide) (by simp [Op.lookupswitch.offset, hne]) (by decide) ?_
  rw [show varOf t = -1 from by simp [varOf, h97, h98, h99, h100, h114]] at hQ
  refine pg_iconst dX9_variableOf_62 (show Int32.ofInt (-1) = (-1) by decide) ?_
  exact sg_iret hQ dX9_variableOf_63 rfl rfl rfl
def lvlOf (t : Int32) : Int32 := if t = 37 then 2 else if t = 42 then 2 else if t = 43 then 1 else if t = 45 then 1 else if t = 47 then 2 else if t = 60 then 0 else -1
set_option maxHeartbeats 4000000 in
set_option maxRecDepth 20000 in
theorem rc_lvlOf (d : Nat) (t : Int32) : SC (d + 1) 87 [.int t] (some (.int (lvlOf t))) := by
  refine SC.of pm_X9_levelOf rfl rfl (Nat.le_of_ble_eq_true rfl) ?_
  intro fx al n g Q hQ
  show pg px_tb fx (px_body pm_X9_levelOf) (pm px_tb fx d) Q al n g 0 [.int t] [] 0 0
  refine pg_iload_n dX9_levelOf_0 rfl ?_
  by_cases h37 : t = 37
  · subst h37
    refine pg_lookup (off := 63) (tgt := 64) dX9_levelOf_1 (by decide) (by decide) (by decide) ?_
    refine pg_iconst dX9_levelOf_64 (show Int32.ofInt (2) = (2) by decide) ?_
    exact sg_iret hQ dX9_levelOf_65 rfl rfl rfl
  by_cases h42 : t = 42
  · subst h42
    refine pg_lookup (off := 63) (tgt := 64) dX9_levelOf_1 (by decide) (by decide) (by decide) ?_
    refine pg_iconst dX9_levelOf_64 (show Int32.ofInt (2) = (2) by decide) ?_
    exact sg_iret hQ dX9_levelOf_65 rfl rfl rfl
  by_cases h43 : t = 43
  · subst h43
    refine pg_lookup (off := 61) (tgt := 62) dX9_levelOf_1 (by decide) (by decide) (by decide) ?_
    refine pg_iconst dX9_levelOf_62 (show Int32.ofInt (1) = (1) by decide) ?_
    exact sg_iret hQ dX9_levelOf_63 rfl rfl rfl
  by_cases h45 : t = 45
  · subst h45
    refine pg_lookup (off := 61) (tgt := 62) dX9_levelOf_1 (by decide) (by decide) (by decide) ?_
    refine pg_iconst dX9_levelOf_62 (show Int32.ofInt (1) = (1) by decide) ?_
    exact sg_iret hQ dX9_levelOf_63 rfl rfl rfl
  by_cases h47 : t = 47
  · subst h47
    refine pg_lookup (off := 63) (tgt := 64) dX9_levelOf_1 (by decide) (by decide) (by decide) ?_
    refine pg_iconst dX9_levelOf_64 (show Int32.ofInt (2) = (2) by decide) ?_
    exact sg_iret hQ dX9_levelOf_65 rfl rfl rfl
  by_cases h60 : t = 60
  · subst h60
    refine pg_lookup (off := 59) (tgt := 60) dX9_levelOf_1 (by decide) (by decide) (by decide) ?_
    refine pg_iconst dX9_levelOf_60 (show Int32.ofInt (0) = (0) by decide) ?_
    exact sg_iret hQ dX9_levelOf_61 rfl rfl rfl
  have hne : ¬ (37 : Int) = t.toInt ∧ ¬ (42 : Int) = t.toInt ∧ ¬ (43 : Int) = t.toInt ∧ ¬ (45 : Int) = t.toInt ∧ ¬ (47 : Int) = t.toInt ∧ ¬ (60 : Int) = t.toInt := ⟨fun z => h37 (Int32.toInt_inj.mp z.symm), fun z => h42 (Int32.toInt_inj.mp z.symm), fun z => h43 (Int32.toInt_inj.mp z.symm), fun z => h45 (Int32.toInt_inj.mp z.symm), fun z => h47 (Int32.toInt_inj.mp z.symm), fun z => h60 (Int32.toInt_inj.mp z.symm)⟩
  refine pg_lookup (off := 65) (tgt := 66) dX9_levelOf_1 (by decide) (by simp [Op.lookupswitch.offset, hne]) (by decide) ?_
  rw [show lvlOf t = -1 from by simp [lvlOf, h37, h42, h43, h45, h47, h60]] at hQ
  refine pg_iconst dX9_levelOf_66 (show Int32.ofInt (-1) = (-1) by decide) ?_
  exact sg_iret hQ dX9_levelOf_67 rfl rfl rfl
def sklOf (t : Int32) : Int32 := if t = 42 then 4 else if t = 43 then 2 else if t = 45 then 2 else if t = 60 then 16 else 8
set_option maxHeartbeats 4000000 in
set_option maxRecDepth 20000 in
theorem rc_sklOf (d : Nat) (t : Int32) : SC (d + 1) 88 [.int t] (some (.int (sklOf t))) := by
  refine SC.of pm_X9_skillOf rfl rfl (Nat.le_of_ble_eq_true rfl) ?_
  intro fx al n g Q hQ
  show pg px_tb fx (px_body pm_X9_skillOf) (pm px_tb fx d) Q al n g 0 [.int t] [] 0 0
  refine pg_iload_n dX9_skillOf_0 rfl ?_
  by_cases h42 : t = 42
  · subst h42
    refine pg_lookup (off := 48) (tgt := 49) dX9_skillOf_1 (by decide) (by decide) (by decide) ?_
    refine pg_iconst dX9_skillOf_49 (show Int32.ofInt (4) = (4) by decide) ?_
    exact sg_iret hQ dX9_skillOf_50 rfl rfl rfl
  by_cases h43 : t = 43
  · subst h43
    refine pg_lookup (off := 46) (tgt := 47) dX9_skillOf_1 (by decide) (by decide) (by decide) ?_
    refine pg_iconst dX9_skillOf_47 (show Int32.ofInt (2) = (2) by decide) ?_
    exact sg_iret hQ dX9_skillOf_48 rfl rfl rfl
  by_cases h45 : t = 45
  · subst h45
    refine pg_lookup (off := 46) (tgt := 47) dX9_skillOf_1 (by decide) (by decide) (by decide) ?_
    refine pg_iconst dX9_skillOf_47 (show Int32.ofInt (2) = (2) by decide) ?_
    exact sg_iret hQ dX9_skillOf_48 rfl rfl rfl
  by_cases h60 : t = 60
  · subst h60
    refine pg_lookup (off := 43) (tgt := 44) dX9_skillOf_1 (by decide) (by decide) (by decide) ?_
    refine pg_bipush dX9_skillOf_44 (show (Int8.ofInt (16)).toInt32 = (16) by decide) ?_
    exact sg_iret hQ dX9_skillOf_46 rfl rfl rfl
  have hne : ¬ (42 : Int) = t.toInt ∧ ¬ (43 : Int) = t.toInt ∧ ¬ (45 : Int) = t.toInt ∧ ¬ (60 : Int) = t.toInt := ⟨fun z => h42 (Int32.toInt_inj.mp z.symm), fun z => h43 (Int32.toInt_inj.mp z.symm), fun z => h45 (Int32.toInt_inj.mp z.symm), fun z => h60 (Int32.toInt_inj.mp z.symm)⟩
  refine pg_lookup (off := 50) (tgt := 51) dX9_skillOf_1 (by decide) (by simp [Op.lookupswitch.offset, hne]) (by decide) ?_
  rw [show sklOf t = 8 from by simp [sklOf, h42, h43, h45, h60]] at hQ
  refine pg_bipush dX9_skillOf_51 (show (Int8.ofInt (8)).toInt32 = (8) by decide) ?_
  exact sg_iret hQ dX9_skillOf_53 rfl rfl rfl
