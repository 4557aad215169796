def eqA (f : Nat → Int32) (x y : Nat) : Nat → Nat → Bool
  | 0, _ => true
  | m + 1, k => decide (f (x + k) = f (y + k)) && eqA f x y m (k + 1)
def alkR (ar : Nat → Nat → Int32) (t a b P : Nat) (tok : Int32) : Bool := if a = b then false else if ar 16 (10 * a + t) = 0 ∨ ¬ ar 16 (10 * a + t) = ar 16 (10 * b + t) ∨ ar 16 (10 * a + t) < tok then false else eqA (ar 17) (120 * (10 * a + t)) (120 * (10 * b + t)) P 0
set_option maxHeartbeats 4000000 in
set_option maxRecDepth 20000 in
theorem rl_alike {fx : px_F} {dd : Nat} {Q : px_Q} {al : Nat → Nat} {n : Nat} {g0 : Nat → px_O} {r : Nat} {sc : Nat → Int32} {ar : Nat → Nat → Int32} {t a b P : Nat} {tok : Int32} (ht : t < 10) (ha : a < 8) (hb : b < 8) (hP : ar 16 (10 * a + t) = nI P) (hP2 : P ≤ 120) : ∀ (m k : Nat), k + m = P → (∀ g2, RR al n g2 r sc ar → rf_fr r g0 g2 → Q (.inl (some (.int (zB (eqA (ar 17) (120 * (10 * a + t)) (120 * (10 * b + t)) m k))))) al n g2) → pr fx (px_body pm_X10_alike) dd Q al n g0 r sc ar 107 [.ref (al r), .int (nI t), .int (nI a), .int (nI b), .int tok, .int (nI (10 * a + t)), .int (nI (10 * b + t)), .int (nI k)] []
  | 0, k, hk, hQ => by
    obtain rfl : k = P := by omega
    refine pr_iload dX10_alike_107 rfl ?_
    refine pr_aload_n dX10_alike_109 rfl rfl ?_
    refine pr_getA dX10_alike_110 fk_X10_64 rfl ?_
    refine pr_iload dX10_alike_113 rfl ?_
    refine pr_iald (v := (nI k)) (j := 10 * a + t) dX10_alike_115 (by decide) rfl rfl (by show 10 * a + t < 80; omega) hP ?_
    refine pr_icmp_ge (tgt := 156) dX10_alike_116 (by decide) (fun c116 => ?_) (fun c116 => absurd (Int32.le_refl _) c116)
    refine pr_iconst dX10_alike_156 (show Int32.ofInt (1) = (1) by decide) ?_
    exact pr_iret hQ dX10_alike_157 rfl rfl rfl rfl rfl
  | m + 1, k, hk, hQ => by
    rw [eqA] at hQ
    refine pr_iload dX10_alike_107 rfl ?_
    refine pr_aload_n dX10_alike_109 rfl rfl ?_
    refine pr_getA dX10_alike_110 fk_X10_64 rfl ?_
    refine pr_iload dX10_alike_113 rfl ?_
    refine pr_iald (v := (nI P)) (j := 10 * a + t) dX10_alike_115 (by decide) rfl rfl (by show 10 * a + t < 80; omega) hP ?_
    refine pr_icmp_ge (tgt := 156) dX10_alike_116 (by decide) (fun c116 => absurd c116 (Int32.not_le.mpr (nI_lt (by omega) (by omega)))) (fun c116 => ?_)
    refine pr_aload_n dX10_alike_119 rfl rfl ?_
    refine pr_getA dX10_alike_120 fk_X10_67 rfl ?_
    refine pr_bipush dX10_alike_123 (show (Int8.ofInt (120)).toInt32 = (120) by decide) ?_
    refine pr_iload dX10_alike_125 rfl ?_
    refine pr_imul dX10_alike_127 ?_
    refine pr_iload dX10_alike_128 rfl ?_
    refine pr_iadd dX10_alike_130 ?_
    refine pr_iald (v := (ar 17 (120 * (10 * a + t) + k))) (j := 120 * (10 * a + t) + k) dX10_alike_131 (by decide) rfl (ix_mul 120 (10 * a + t) k) (by show 120 * (10 * a + t) + k < 9600; omega) rfl ?_
    refine pr_aload_n dX10_alike_132 rfl rfl ?_
    refine pr_getA dX10_alike_133 fk_X10_67 rfl ?_
    refine pr_bipush dX10_alike_136 (show (Int8.ofInt (120)).toInt32 = (120) by decide) ?_
    refine pr_iload dX10_alike_138 rfl ?_
    refine pr_imul dX10_alike_140 ?_
    refine pr_iload dX10_alike_141 rfl ?_
    refine pr_iadd dX10_alike_143 ?_
    refine pr_iald (v := (ar 17 (120 * (10 * b + t) + k))) (j := 120 * (10 * b + t) + k) dX10_alike_144 (by decide) rfl (ix_mul 120 (10 * b + t) k) (by show 120 * (10 * b + t) + k < 9600; omega) rfl ?_
    refine pr_icmp_eq (tgt := 150) dX10_alike_145 (by decide) (fun c145 => ?_) (fun c145 => ?_)
    ·
      rw [decide_eq_true c145, Bool.true_and] at hQ
      refine pr_iinc dX10_alike_150 rfl (show Int32.ofInt (1) = (1) by decide) ?_
      refine pr_goto (tgt := 107) dX10_alike_153 (by decide) ?_
      rw [nI_1]
      exact rl_alike ht ha hb hP hP2 m (k + 1) (by omega) hQ
    ·
      refine pr_iconst dX10_alike_148 (show Int32.ofInt (0) = (0) by decide) ?_
      rw [decide_eq_false c145, Bool.false_and] at hQ
      exact pr_iret hQ dX10_alike_149 rfl rfl rfl rfl rfl
set_option maxHeartbeats 4000000 in
set_option maxRecDepth 20000 in
theorem rc_alike_ok (d : Nat) (sc : Nat → Int32) (ar : Nat → Nat → Int32) {T : Nat} (hT : sc 30 = nI T) (h10 : T ≤ 10) {t a b P : Nat} {tok : Int32} (ht : t < T) (ha : a < 8) (hb : b < 8) (hP : ar 16 (10 * a + t) = nI P) (hP2 : P ≤ 120) : RC (d + 3) 146 [.int (nI t), .int (nI a), .int (nI b), .int tok] sc ar (some (.int (zB (alkR ar t a b P tok)))) (upd sc 0 0) (ar) := by
  refine RC.of pm_X10_alike rfl rfl (Nat.le_of_ble_eq_true rfl) ?_
  intro fx al n g0 r Q hQ
  show pr fx (px_body pm_X10_alike) (d + 2) Q al n g0 r sc ar 0 [.ref (al r), .int (nI t), .int (nI a), .int (nI b), .int tok, .float 0, .float 0, .float 0] []
  unfold alkR at hQ
  refine pr_aload_n dX10_alike_0 rfl rfl ?_
  refine pr_iconst dX10_alike_1 (show Int32.ofInt (0) = (0) by decide) ?_
  refine pr_put dX10_alike_2 fk_X10_79 rfl ⟨_, _, _, rfl, rfl⟩ rfl rfl ?_
  refine pr_aload_n dX10_alike_5 rfl rfl ?_
  refine pr_aload_n dX10_alike_6 rfl rfl ?_
  refine pr_iload_n dX10_alike_7 rfl ?_
  refine pr_call dX10_alike_8 cl_X10_248 (rc_noTask_f d (sc := upd sc 0 0) ar (T := T) hT h10 ht) rfl rfl (Nat.le_of_ble_eq_true rfl) ⟨rfl, rfl⟩ ?_
  refine pr_if_ne (tgt := 28) dX10_alike_11 (by decide) (fun c11 => absurd c11 (by decide)) (fun _ => ?_)
  refine pr_iload_n dX10_alike_14 rfl ?_
  refine pr_callSC dX10_alike_15 cl_X10_258 (rc_noLearner_f d ha) rfl rfl (Nat.le_of_ble_eq_true rfl) ⟨rfl, rfl⟩ ?_
  refine pr_if_ne (tgt := 28) dX10_alike_18 (by decide) (fun c18 => absurd c18 (by decide)) (fun _ => ?_)
  refine pr_iload_n dX10_alike_21 rfl ?_
  refine pr_callSC dX10_alike_22 cl_X10_258 (rc_noLearner_f d hb) rfl rfl (Nat.le_of_ble_eq_true rfl) ⟨rfl, rfl⟩ ?_
  refine pr_if_eq (tgt := 32) dX10_alike_25 (by decide) (fun _ => ?_) (fun c25 => absurd c25 (by decide))
  refine pr_iconst dX10_alike_32 (show Int32.ofInt (0) = (0) by decide) ?_
  refine pr_iconst dX10_alike_33 (show Int32.ofInt (1) = (1) by decide) ?_
  refine pr_call dX10_alike_34 cl_X10_180 (rc_throwsIf_f _ _ _ _) rfl rfl (Nat.le_of_ble_eq_true rfl) ⟨rfl, rfl⟩ ?_
  refine pr_if_ne (tgt := 45) dX10_alike_37 (by decide) (fun c37 => absurd c37 (by decide)) (fun _ => ?_)
  refine pr_iload_n dX10_alike_40 rfl ?_
  refine pr_iload_n dX10_alike_41 rfl ?_
  refine pr_icmp_ne (tgt := 47) dX10_alike_42 (by decide) (fun c42 => ?_) (fun c42 => ?_)
  ·
    have hab : ¬ a = b := fun z => c42 (by rw [z])
    refine pr_bipush dX10_alike_47 (show (Int8.ofInt (10)).toInt32 = (10) by decide) ?_
    refine pr_iload_n dX10_alike_49 rfl ?_
    refine pr_imul dX10_alike_50 ?_
    refine pr_iload_n dX10_alike_51 rfl ?_
    refine pr_iadd dX10_alike_52 ?_
    rw [show (10 : Int32) * nI a + nI t = nI (10 * a + t) from ix_mul 10 a t]
    refine pr_istore dX10_alike_53 (Nat.le_of_ble_eq_true rfl) ?_
    refine pr_bipush dX10_alike_55 (show (Int8.ofInt (10)).toInt32 = (10) by decide) ?_
    refine pr_iload_n dX10_alike_57 rfl ?_
    refine pr_imul dX10_alike_58 ?_
    refine pr_iload_n dX10_alike_59 rfl ?_
    refine pr_iadd dX10_alike_60 ?_
    rw [show (10 : Int32) * nI b + nI t = nI (10 * b + t) from ix_mul 10 b t]
    refine pr_istore dX10_alike_61 (Nat.le_of_ble_eq_true rfl) ?_
    refine pr_aload_n dX10_alike_63 rfl rfl ?_
    refine pr_getA dX10_alike_64 fk_X10_64 rfl ?_
    refine pr_iload dX10_alike_67 rfl ?_
    refine pr_iald (v := (ar 16 (10 * a + t))) (j := 10 * a + t) dX10_alike_69 (by decide) rfl rfl (by show 10 * a + t < 80; omega) rfl ?_
    refine pr_if_eq (tgt := 102) dX10_alike_70 (by decide) (fun c70 => ?_) (fun c70 => ?_)
    ·
      refine pr_iconst dX10_alike_102 (show Int32.ofInt (0) = (0) by decide) ?_
      rw [if_neg hab, if_pos (Or.inl c70)] at hQ
      exact pr_iret hQ dX10_alike_103 rfl rfl rfl rfl rfl
    ·
      refine pr_aload_n dX10_alike_73 rfl rfl ?_
      refine pr_getA dX10_alike_74 fk_X10_64 rfl ?_
      refine pr_iload dX10_alike_77 rfl ?_
      refine pr_iald (v := (ar 16 (10 * a + t))) (j := 10 * a + t) dX10_alike_79 (by decide) rfl rfl (by show 10 * a + t < 80; omega) rfl ?_
      refine pr_aload_n dX10_alike_80 rfl rfl ?_
      refine pr_getA dX10_alike_81 fk_X10_64 rfl ?_
      refine pr_iload dX10_alike_84 rfl ?_
      refine pr_iald (v := (ar 16 (10 * b + t))) (j := 10 * b + t) dX10_alike_86 (by decide) rfl rfl (by show 10 * b + t < 80; omega) rfl ?_
      refine pr_icmp_ne (tgt := 102) dX10_alike_87 (by decide) (fun c87 => ?_) (fun c87 => ?_)
      ·
        refine pr_iconst dX10_alike_102 (show Int32.ofInt (0) = (0) by decide) ?_
        rw [if_neg hab, if_pos (Or.inr (Or.inl c87))] at hQ
        exact pr_iret hQ dX10_alike_103 rfl rfl rfl rfl rfl
      ·
        refine pr_aload_n dX10_alike_90 rfl rfl ?_
        refine pr_getA dX10_alike_91 fk_X10_64 rfl ?_
        refine pr_iload dX10_alike_94 rfl ?_
        refine pr_iald (v := (ar 16 (10 * a + t))) (j := 10 * a + t) dX10_alike_96 (by decide) rfl rfl (by show 10 * a + t < 80; omega) rfl ?_
        refine pr_iload dX10_alike_97 rfl ?_
        refine pr_icmp_ge (tgt := 104) dX10_alike_99 (by decide) (fun c99 => ?_) (fun c99 => ?_)
        ·
          have c999 := Int32.not_lt.mpr c99
          rw [if_neg hab, if_neg (fun z => z.elim c70 (fun z => z.elim (fun z => z c87) (Int32.not_lt.mpr c99)))] at hQ
          refine pr_iconst dX10_alike_104 (show Int32.ofInt (0) = (0) by decide) ?_
          refine pr_istore dX10_alike_105 (Nat.le_of_ble_eq_true rfl) ?_
          exact rl_alike (fx := fx) (by omega) ha hb hP hP2 P 0 (by omega) hQ
        ·
          have c999 := Int32.not_le.mp c99
          refine pr_iconst dX10_alike_102 (show Int32.ofInt (0) = (0) by decide) ?_
          rw [if_neg hab, if_pos (Or.inr (Or.inr c999))] at hQ
          exact pr_iret hQ dX10_alike_103 rfl rfl rfl rfl rfl
  ·
    refine pr_iconst dX10_alike_45 (show Int32.ofInt (0) = (0) by decide) ?_
    rw [if_pos ((nI_eq (by omega) (by omega)).mp c42)] at hQ
    exact pr_iret hQ dX10_alike_46 rfl rfl rfl rfl rfl
set_option maxHeartbeats 4000000 in
set_option maxRecDepth 20000 in
theorem rc_alike_bad1 (d : Nat) (sc : Nat → Int32) (ar : Nat → Nat → Int32) {t : Int32} (a b tok : Int32) (ht : ¬ (0 ≤ t ∧ t ≤ sc 30 - 1)) : RC (d + 3) 146 [.int t, .int a, .int b, .int tok] sc ar (some (.int 0)) (upd (upd sc 0 0) 0 1) (ar) := by
  refine RC.of pm_X10_alike rfl rfl (Nat.le_of_ble_eq_true rfl) ?_
  intro fx al n g0 r Q hQ
  show pr fx (px_body pm_X10_alike) (d + 2) Q al n g0 r sc ar 0 [.ref (al r), .int t, .int a, .int b, .int tok, .float 0, .float 0, .float 0] []
  refine pr_aload_n dX10_alike_0 rfl rfl ?_
  refine pr_iconst dX10_alike_1 (show Int32.ofInt (0) = (0) by decide) ?_
  refine pr_put dX10_alike_2 fk_X10_79 rfl ⟨_, _, _, rfl, rfl⟩ rfl rfl ?_
  refine pr_aload_n dX10_alike_5 rfl rfl ?_
  refine pr_aload_n dX10_alike_6 rfl rfl ?_
  refine pr_iload_n dX10_alike_7 rfl ?_
  refine pr_call dX10_alike_8 cl_X10_248 (rc_noTask_t d (sc := upd sc 0 0) ar ht) rfl rfl (Nat.le_of_ble_eq_true rfl) ⟨rfl, rfl⟩ ?_
  refine pr_if_ne (tgt := 28) dX10_alike_11 (by decide) (fun _ => ?_) (fun c11 => absurd c11 (by decide))
  refine pr_iconst dX10_alike_28 (show Int32.ofInt (1) = (1) by decide) ?_
  refine pr_goto (tgt := 33) dX10_alike_29 (by decide) ?_
  refine pr_iconst dX10_alike_33 (show Int32.ofInt (1) = (1) by decide) ?_
  refine pr_call dX10_alike_34 cl_X10_180 (rc_throwsIf_t _ _ _ _) rfl rfl (Nat.le_of_ble_eq_true rfl) ⟨rfl, rfl⟩ ?_
  refine pr_if_ne (tgt := 45) dX10_alike_37 (by decide) (fun _ => ?_) (fun c37 => absurd c37 (by decide))
  refine pr_iconst dX10_alike_45 (show Int32.ofInt (0) = (0) by decide) ?_
  exact pr_iret hQ dX10_alike_46 rfl rfl rfl rfl rfl
set_option maxHeartbeats 4000000 in
set_option maxRecDepth 20000 in
theorem rc_alike_bad2 (d : Nat) (sc : Nat → Int32) (ar : Nat → Nat → Int32) {T : Nat} (hT : sc 30 = nI T) (h10 : T ≤ 10) {t : Nat} {a : Int32} (b tok : Int32) (ht : t < T) (ha : ¬ (0 ≤ a ∧ a ≤ 7)) : RC (d + 3) 146 [.int (nI t), .int a, .int b, .int tok] sc ar (some (.int 0)) (upd (upd sc 0 0) 0 1) (ar) := by
  refine RC.of pm_X10_alike rfl rfl (Nat.le_of_ble_eq_true rfl) ?_
  intro fx al n g0 r Q hQ
  show pr fx (px_body pm_X10_alike) (d + 2) Q al n g0 r sc ar 0 [.ref (al r), .int (nI t), .int a, .int b, .int tok, .float 0, .float 0, .float 0] []
  refine pr_aload_n dX10_alike_0 rfl rfl ?_
  refine pr_iconst dX10_alike_1 (show Int32.ofInt (0) = (0) by decide) ?_
  refine pr_put dX10_alike_2 fk_X10_79 rfl ⟨_, _, _, rfl, rfl⟩ rfl rfl ?_
  refine pr_aload_n dX10_alike_5 rfl rfl ?_
  refine pr_aload_n dX10_alike_6 rfl rfl ?_
  refine pr_iload_n dX10_alike_7 rfl ?_
  refine pr_call dX10_alike_8 cl_X10_248 (rc_noTask_f d (sc := upd sc 0 0) ar (T := T) hT h10 ht) rfl rfl (Nat.le_of_ble_eq_true rfl) ⟨rfl, rfl⟩ ?_
  refine pr_if_ne (tgt := 28) dX10_alike_11 (by decide) (fun c11 => absurd c11 (by decide)) (fun _ => ?_)
  refine pr_iload_n dX10_alike_14 rfl ?_
  refine pr_callSC dX10_alike_15 cl_X10_258 (rc_noLearner_t d ha) rfl rfl (Nat.le_of_ble_eq_true rfl) ⟨rfl, rfl⟩ ?_
  refine pr_if_ne (tgt := 28) dX10_alike_18 (by decide) (fun _ => ?_) (fun c18 => absurd c18 (by decide))
  refine pr_iconst dX10_alike_28 (show Int32.ofInt (1) = (1) by decide) ?_
  refine pr_goto (tgt := 33) dX10_alike_29 (by decide) ?_
  refine pr_iconst dX10_alike_33 (show Int32.ofInt (1) = (1) by decide) ?_
  refine pr_call dX10_alike_34 cl_X10_180 (rc_throwsIf_t _ _ _ _) rfl rfl (Nat.le_of_ble_eq_true rfl) ⟨rfl, rfl⟩ ?_
  refine pr_if_ne (tgt := 45) dX10_alike_37 (by decide) (fun _ => ?_) (fun c37 => absurd c37 (by decide))
  refine pr_iconst dX10_alike_45 (show Int32.ofInt (0) = (0) by decide) ?_
  exact pr_iret hQ dX10_alike_46 rfl rfl rfl rfl rfl
set_option maxHeartbeats 4000000 in
set_option maxRecDepth 20000 in
theorem rc_alike_bad3 (d : Nat) (sc : Nat → Int32) (ar : Nat → Nat → Int32) {T : Nat} (hT : sc 30 = nI T) (h10 : T ≤ 10) {t a : Nat} {b : Int32} (tok : Int32) (ht : t < T) (ha : a < 8) (hb : ¬ (0 ≤ b ∧ b ≤ 7)) : RC (d + 3) 146 [.int (nI t), .int (nI a), .int b, .int tok] sc ar (some (.int 0)) (upd (upd sc 0 0) 0 1) (ar) := by
  refine RC.of pm_X10_alike rfl rfl (Nat.le_of_ble_eq_true rfl) ?_
  intro fx al n g0 r Q hQ
  show pr fx (px_body pm_X10_alike) (d + 2) Q al n g0 r sc ar 0 [.ref (al r), .int (nI t), .int (nI a), .int b, .int tok, .float 0, .float 0, .float 0] []
  refine pr_aload_n dX10_alike_0 rfl rfl ?_
  refine pr_iconst dX10_alike_1 (show Int32.ofInt (0) = (0) by decide) ?_
  refine pr_put dX10_alike_2 fk_X10_79 rfl ⟨_, _, _, rfl, rfl⟩ rfl rfl ?_
  refine pr_aload_n dX10_alike_5 rfl rfl ?_
  refine pr_aload_n dX10_alike_6 rfl rfl ?_
  refine pr_iload_n dX10_alike_7 rfl ?_
  refine pr_call dX10_alike_8 cl_X10_248 (rc_noTask_f d (sc := upd sc 0 0) ar (T := T) hT h10 ht) rfl rfl (Nat.le_of_ble_eq_true rfl) ⟨rfl, rfl⟩ ?_
  refine pr_if_ne (tgt := 28) dX10_alike_11 (by decide) (fun c11 => absurd c11 (by decide)) (fun _ => ?_)
  refine pr_iload_n dX10_alike_14 rfl ?_
  refine pr_callSC dX10_alike_15 cl_X10_258 (rc_noLearner_f d ha) rfl rfl (Nat.le_of_ble_eq_true rfl) ⟨rfl, rfl⟩ ?_
  refine pr_if_ne (tgt := 28) dX10_alike_18 (by decide) (fun c18 => absurd c18 (by decide)) (fun _ => ?_)
  refine pr_iload_n dX10_alike_21 rfl ?_
  refine pr_callSC dX10_alike_22 cl_X10_258 (rc_noLearner_t d hb) rfl rfl (Nat.le_of_ble_eq_true rfl) ⟨rfl, rfl⟩ ?_
  refine pr_if_eq (tgt := 32) dX10_alike_25 (by decide) (fun c25 => absurd c25 (by decide)) (fun _ => ?_)
  refine pr_iconst dX10_alike_28 (show Int32.ofInt (1) = (1) by decide) ?_
  refine pr_goto (tgt := 33) dX10_alike_29 (by decide) ?_
  refine pr_iconst dX10_alike_33 (show Int32.ofInt (1) = (1) by decide) ?_
  refine pr_call dX10_alike_34 cl_X10_180 (rc_throwsIf_t _ _ _ _) rfl rfl (Nat.le_of_ble_eq_true rfl) ⟨rfl, rfl⟩ ?_
  refine pr_if_ne (tgt := 45) dX10_alike_37 (by decide) (fun _ => ?_) (fun c37 => absurd c37 (by decide))
  refine pr_iconst dX10_alike_45 (show Int32.ofInt (0) = (0) by decide) ?_
  exact pr_iret hQ dX10_alike_46 rfl rfl rfl rfl rfl
def wFill (f : Nat → Int32) (k : Nat) : Nat → Int32 := fun j => if j < k then -1 else f j
theorem wFill_0 (f : Nat → Int32) : wFill f 0 = f := by funext j; unfold wFill; rw [if_neg (by omega)]
theorem wFill_1 (f : Nat → Int32) (k : Nat) : upd (wFill f k) k (-1) = wFill f (k + 1) := by
  funext j
  by_cases e : j = k
  · subst e; rw [pk_us]; unfold wFill; rw [if_pos (by omega)]
  · rw [pk_un e]; unfold wFill
    by_cases c : j < k
    · rw [if_pos c, if_pos (by omega)]
    · rw [if_neg c, if_neg (by omega)]
set_option maxHeartbeats 4000000 in
set_option maxRecDepth 20000 in
theorem rl_wInit {fx : px_F} {dd : Nat} {Q : px_Q} {al : Nat → Nat} {n : Nat} {g0 : Nat → px_O} {r : Nat} {sc : Nat → Int32} {ar : Nat → Nat → Int32} {l s : Nat} (kk : pr fx (px_body pm_X10_wish) dd Q al n g0 r sc (va_up ar 19 (wFill (ar 19) 256)) 59 [.ref (al r), .int (nI l), .int (nI s), .int (nI 256), .float 0, .float 0, .float 0] []) : ∀ (m k : Nat), k + m = 256 → pr fx (px_body pm_X10_wish) dd Q al n g0 r sc (va_up ar 19 (wFill (ar 19) k)) 39 [.ref (al r), .int (nI l), .int (nI s), .int (nI k), .float 0, .float 0, .float 0] []
  | 0, k, hk => by
    obtain rfl : k = 256 := by omega
    refine pr_iload_n dX10_wish_39 rfl ?_
    refine pr_sipush dX10_wish_40 (show (Int16.ofInt (256)).toInt32 = (256) by decide) ?_
    refine pr_icmp_ge (tgt := 59) dX10_wish_43 (by decide) (fun c43 => ?_) (fun c43 => absurd (show (256 : Int32) ≤ nI 256 by decide) c43)
    exact kk
  | m + 1, k, hk => by
    have ih := rl_wInit kk m (k + 1) (by omega)
    rw [← wFill_1] at ih
    refine pr_iload_n dX10_wish_39 rfl ?_
    refine pr_sipush dX10_wish_40 (show (Int16.ofInt (256)).toInt32 = (256) by decide) ?_
    refine pr_icmp_ge (tgt := 59) dX10_wish_43 (by decide) (fun c43 => absurd c43 (nI_ge (a := k) (b := 256) (by omega) (by decide))) (fun c43 => ?_)
    refine pr_aload_n dX10_wish_46 rfl rfl ?_
    refine pr_getA dX10_wish_47 fk_X10_73 rfl ?_
    refine pr_iload_n dX10_wish_50 rfl ?_
    refine pr_iconst dX10_wish_51 (show Int32.ofInt (-1) = (-1) by decide) ?_
    refine pr_iast (j := k) dX10_wish_52 (by decide) rfl rfl (by show k < 256; omega) ?_
    rw [va_3]
    refine pr_iinc dX10_wish_53 rfl (show Int32.ofInt (1) = (1) by decide) ?_
    refine pr_goto (tgt := 39) dX10_wish_56 (by decide) ?_
    rw [nI_1]
    exact ih
set_option maxHeartbeats 4000000 in
set_option maxRecDepth 20000 in
theorem rp_wish_ok (d : Nat) (sc : Nat → Int32) (ar : Nat → Nat → Int32) {T : Nat} (hT : sc 30 = nI T) (h10 : T ≤ 10) {l s : Nat} (hl : l < 8) (hs : s < 8) (hsh : ∀ t, t < T → ∃ b, b < 256 ∧ ar 10 t = nI b) : RP (d + 3) 140 [.int (nI l), .int (nI s)] sc ar (fun res sc2 ar2 => (∀ b, b < 256 → rCans (ar 18) l 8 = nI b → res = some (.int (wN (ar 9) (ar 10) T s 256 0 (upd (wFill (ar 19) 256) b 0)))) ∧ sc2 = upd sc 0 0 ∧ ∃ f, ar2 = va_up ar 19 f) := by
  refine RP.of pm_X10_wish rfl rfl (Nat.le_of_ble_eq_true rfl) ?_
  intro fx al n g0 r Q hQ
  show pr fx (px_body pm_X10_wish) (d + 2) Q al n g0 r sc ar 0 [.ref (al r), .int (nI l), .int (nI s), .float 0, .float 0, .float 0, .float 0] []
  refine pr_aload_n dX10_wish_0 rfl rfl ?_
  refine pr_iconst dX10_wish_1 (show Int32.ofInt (0) = (0) by decide) ?_
  refine pr_put dX10_wish_2 fk_X10_79 rfl ⟨_, _, _, rfl, rfl⟩ rfl rfl ?_
  refine pr_aload_n dX10_wish_5 rfl rfl ?_
  refine pr_iload_n dX10_wish_6 rfl ?_
  refine pr_callSC dX10_wish_7 cl_X10_258 (rc_noLearner_f d hl) rfl rfl (Nat.le_of_ble_eq_true rfl) ⟨rfl, rfl⟩ ?_
  refine pr_if_ne (tgt := 23) dX10_wish_10 (by decide) (fun c10 => absurd c10 (by decide)) (fun _ => ?_)
  refine pr_iload_n dX10_wish_13 rfl ?_
  refine pr_iconst dX10_wish_14 (show Int32.ofInt (0) = (0) by decide) ?_
  refine pr_bipush dX10_wish_15 (show (Int8.ofInt (7)).toInt32 = (7) by decide) ?_
  refine pr_callSC dX10_wish_17 cl_X10_104 (rc_in_t (d + 1) (nI_7 hs).1 (nI_7 hs).2) rfl rfl (Nat.le_of_ble_eq_true rfl) ⟨rfl, rfl⟩ ?_
  refine pr_if_ne (tgt := 27) dX10_wish_20 (by decide) (fun _ => ?_) (fun c20 => absurd c20 (by decide))
  refine pr_iconst dX10_wish_27 (show Int32.ofInt (0) = (0) by decide) ?_
  refine pr_iconst dX10_wish_28 (show Int32.ofInt (1) = (1) by decide) ?_
  refine pr_call dX10_wish_29 cl_X10_180 (rc_throwsIf_f _ _ _ _) rfl rfl (Nat.le_of_ble_eq_true rfl) ⟨rfl, rfl⟩ ?_
  refine pr_if_eq (tgt := 37) dX10_wish_32 (by decide) (fun _ => ?_) (fun c32 => absurd c32 (by decide))
  refine pr_iconst dX10_wish_37 (show Int32.ofInt (0) = (0) by decide) ?_
  refine pr_istore_n dX10_wish_38 (Nat.le_of_ble_eq_true rfl) ?_
  have key := rl_wInit (fx := fx) (dd := d + 2) (Q := Q) (al := al) (n := n) (g0 := g0) (r := r) (sc := upd sc 0 0) (ar := ar) (l := l) (s := s) ?_ 256 0 (by omega)
  · rw [wFill_0, va_id] at key
    exact key
  · obtain ⟨b, hb, e⟩ := rCans_nat (ar 18) l 8 (Nat.le_refl _)
    refine pr_aload_n dX10_wish_59 rfl rfl ?_
    refine pr_getA dX10_wish_60 fk_X10_73 rfl ?_
    refine pr_aload_n dX10_wish_63 rfl rfl ?_
    refine pr_iload_n dX10_wish_64 rfl ?_
    refine pr_call dX10_wish_65 cl_X10_276 (rc_cans (d + 1) (upd sc 0 0) _ hl) rfl rfl (Nat.le_of_ble_eq_true rfl) ⟨rfl, rfl⟩ ?_
    rw [show rCans ((va_up ar 19 (wFill (ar 19) 256)) 18) l 8 = nI b from e]
    refine pr_iconst dX10_wish_68 (show Int32.ofInt (0) = (0) by decide) ?_
    refine pr_iast (j := b) dX10_wish_69 (by decide) rfl rfl (by show b < 256; omega) ?_
    rw [va_3]
    refine pr_iconst dX10_wish_70 (show Int32.ofInt (0) = (0) by decide) ?_
    refine pr_istore_n dX10_wish_71 (Nat.le_of_ble_eq_true rfl) ?_
    refine rl_wN (fx := fx) (sc := upd sc 0 0) (ar := ar) hs hT h10 hsh 256 0 _ _ _ _ (by omega) (fun g2 f2 hR hF => ?_)
    refine hQ _ _ _ g2 ⟨fun b2 hb2 e2 => ?_, rfl, f2, rfl⟩ hR hF
    have : b2 = b := (nI_eq (by omega) (by omega)).mp (e2.symm.trans e)
    subst this
    rfl
set_option maxHeartbeats 4000000 in
set_option maxRecDepth 20000 in
theorem rc_wish_bad1 (d : Nat) (sc : Nat → Int32) (ar : Nat → Nat → Int32) {l : Int32} (s : Int32) (hl : ¬ (0 ≤ l ∧ l ≤ 7)) : RC (d + 3) 140 [.int l, .int s] sc ar (some (.int 0)) (upd (upd sc 0 0) 0 1) (ar) := by
  refine RC.of pm_X10_wish rfl rfl (Nat.le_of_ble_eq_true rfl) ?_
  intro fx al n g0 r Q hQ
  show pr fx (px_body pm_X10_wish) (d + 2) Q al n g0 r sc ar 0 [.ref (al r), .int l, .int s, .float 0, .float 0, .float 0, .float 0] []
  refine pr_aload_n dX10_wish_0 rfl rfl ?_
  refine pr_iconst dX10_wish_1 (show Int32.ofInt (0) = (0) by decide) ?_
  refine pr_put dX10_wish_2 fk_X10_79 rfl ⟨_, _, _, rfl, rfl⟩ rfl rfl ?_
  refine pr_aload_n dX10_wish_5 rfl rfl ?_
  refine pr_iload_n dX10_wish_6 rfl ?_
  refine pr_callSC dX10_wish_7 cl_X10_258 (rc_noLearner_t d hl) rfl rfl (Nat.le_of_ble_eq_true rfl) ⟨rfl, rfl⟩ ?_
  refine pr_if_ne (tgt := 23) dX10_wish_10 (by decide) (fun _ => ?_) (fun c10 => absurd c10 (by decide))
  refine pr_iconst dX10_wish_23 (show Int32.ofInt (1) = (1) by decide) ?_
  refine pr_goto (tgt := 28) dX10_wish_24 (by decide) ?_
  refine pr_iconst dX10_wish_28 (show Int32.ofInt (1) = (1) by decide) ?_
  refine pr_call dX10_wish_29 cl_X10_180 (rc_throwsIf_t _ _ _ _) rfl rfl (Nat.le_of_ble_eq_true rfl) ⟨rfl, rfl⟩ ?_
  refine pr_if_eq (tgt := 37) dX10_wish_32 (by decide) (fun c32 => absurd c32 (by decide)) (fun _ => ?_)
  refine pr_iconst dX10_wish_35 (show Int32.ofInt (0) = (0) by decide) ?_
  exact pr_iret hQ dX10_wish_36 rfl rfl rfl rfl rfl
set_option maxHeartbeats 4000000 in
set_option maxRecDepth 20000 in
theorem rc_wish_bad2 (d : Nat) (sc : Nat → Int32) (ar : Nat → Nat → Int32) {l : Nat} {s : Int32} (hl : l < 8) (hs : ¬ (0 ≤ s ∧ s ≤ 7)) : RC (d + 3) 140 [.int (nI l), .int s] sc ar (some (.int 0)) (upd (upd sc 0 0) 0 1) (ar) := by
  refine RC.of pm_X10_wish rfl rfl (Nat.le_of_ble_eq_true rfl) ?_
  intro fx al n g0 r Q hQ
  show pr fx (px_body pm_X10_wish) (d + 2) Q al n g0 r sc ar 0 [.ref (al r), .int (nI l), .int s, .float 0, .float 0, .float 0, .float 0] []
  refine pr_aload_n dX10_wish_0 rfl rfl ?_
  refine pr_iconst dX10_wish_1 (show Int32.ofInt (0) = (0) by decide) ?_
  refine pr_put dX10_wish_2 fk_X10_79 rfl ⟨_, _, _, rfl, rfl⟩ rfl rfl ?_
  refine pr_aload_n dX10_wish_5 rfl rfl ?_
  refine pr_iload_n dX10_wish_6 rfl ?_
  refine pr_callSC dX10_wish_7 cl_X10_258 (rc_noLearner_f d hl) rfl rfl (Nat.le_of_ble_eq_true rfl) ⟨rfl, rfl⟩ ?_
  refine pr_if_ne (tgt := 23) dX10_wish_10 (by decide) (fun c10 => absurd c10 (by decide)) (fun _ => ?_)
  refine pr_iload_n dX10_wish_13 rfl ?_
  refine pr_iconst dX10_wish_14 (show Int32.ofInt (0) = (0) by decide) ?_
  refine pr_bipush dX10_wish_15 (show (Int8.ofInt (7)).toInt32 = (7) by decide) ?_
  refine pr_callSC dX10_wish_17 cl_X10_104 (rc_in_f (d + 1) hs) rfl rfl (Nat.le_of_ble_eq_true rfl) ⟨rfl, rfl⟩ ?_
  refine pr_if_ne (tgt := 27) dX10_wish_20 (by decide) (fun c20 => absurd c20 (by decide)) (fun _ => ?_)
  refine pr_iconst dX10_wish_23 (show Int32.ofInt (1) = (1) by decide) ?_
  refine pr_goto (tgt := 28) dX10_wish_24 (by decide) ?_
  refine pr_iconst dX10_wish_28 (show Int32.ofInt (1) = (1) by decide) ?_
  refine pr_call dX10_wish_29 cl_X10_180 (rc_throwsIf_t _ _ _ _) rfl rfl (Nat.le_of_ble_eq_true rfl) ⟨rfl, rfl⟩ ?_
  refine pr_if_eq (tgt := 37) dX10_wish_32 (by decide) (fun c32 => absurd c32 (by decide)) (fun _ => ?_)
  refine pr_iconst dX10_wish_35 (show Int32.ofInt (0) = (0) by decide) ?_
  exact pr_iret hQ dX10_wish_36 rfl rfl rfl rfl rfl
