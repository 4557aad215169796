/-- five words as bytes, the highest first, as the reference keeps them -/
def w5 (a b c d e : Int32) : Nat → Int32
  | 0 => a
  | 1 => b
  | 2 => c
  | 3 => d
  | _ => e
def rByte (w : Nat → Int32) (k : Nat) : Int32 := vp_nar .byte ((w (k / 4)) >>> ((24 - 8 * nI (k % 4)) &&& 31)).toInt8.toInt32
def rTape (f : Nat → Int32) (L : Nat) (w : Nat → Int32) (k : Nat) : Nat → Int32 := fun j => if L ≤ j ∧ j < L + k then rByte w (j - L) else f j
theorem rTape_0 (f : Nat → Int32) (L : Nat) (w : Nat → Int32) : rTape f L w 0 = f := by
  funext j
  unfold rTape
  rw [if_neg (by omega)]
theorem rTape_1 (f : Nat → Int32) (L : Nat) (w : Nat → Int32) (k : Nat) : upd (rTape f L w k) (L + k) (rByte w k) = rTape f L w (k + 1) := by
  funext j
  by_cases e : j = L + k
  · subst e
    rw [pk_us]
    unfold rTape
    rw [if_pos (by omega), Nat.add_sub_cancel_left]
  · rw [pk_un e]
    unfold rTape
    by_cases h : L ≤ j ∧ j < L + k
    · rw [if_pos h, if_pos (by omega)]
    · rw [if_neg h, if_neg (by omega)]
set_option maxHeartbeats 4000000 in
set_option maxRecDepth 20000 in
theorem rl_feed {fx : px_F} {dd : Nat} {Q : px_Q} {al : Nat → Nat} {n : Nat} {g0 : Nat → px_O} {r : Nat} {sc : Nat → Int32} {ar : Nat → Nat → Int32} {L : Nat} {a b c d e : Int32} (hL : sc 2 = nI L) (h400 : L + 20 ≤ 400) (hQ : ∀ res sc2 ar2 g2, (fun res sc2 ar2 => res = some (.int (nI (L + 20))) ∧ sc2 = upd (upd sc 0 0) 2 (nI (L + 20)) ∧ (∀ a, a ≠ 0 → a ≠ 1 → ar2 a = ar a) ∧ ar2 0 = rTape (ar 0) L (w5 a b c d e) 20) res sc2 ar2 → RR al n g2 r sc2 ar2 → rf_fr r g0 g2 → Q (.inl res) al n g2) : ∀ (m k : Nat) (ar2 : Nat → Nat → Int32), k + m = 20 → (∀ x, x ≠ 0 → x ≠ 1 → ar2 x = ar x) → ar2 0 = rTape (ar 0) L (w5 a b c d e) k → (∀ j, j < 5 → ar2 1 j = w5 a b c d e j) → pr fx (px_body pm_X10_feed) dd Q al n g0 r (upd sc 0 0) ar2 60 [.ref (al r), .int a, .int b, .int c, .int d, .int e, .int (nI k)] []
  | 0, k, ar2, hk, h1, h2, h3 => by
    obtain rfl : k = 20 := by omega
    refine pr_iload dX10_feed_60 rfl ?_
    refine pr_bipush dX10_feed_62 (show (Int8.ofInt (20)).toInt32 = (20) by decide) ?_
    refine pr_icmp_ge (tgt := 106) dX10_feed_64 (by decide) (fun c64 => ?_) (fun c64 => absurd (show (20 : Int32) ≤ nI 20 by decide) c64)
    refine pr_aload_n dX10_feed_106 rfl rfl ?_
    refine pr_dup dX10_feed_107 rfl ?_
    refine pr_getS (v := nI L) dX10_feed_108 fk_X10_82 rfl hL ?_
    refine pr_bipush dX10_feed_111 (show (Int8.ofInt (20)).toInt32 = (20) by decide) ?_
    refine pr_iadd dX10_feed_113 ?_
    rw [show nI L + 20 = nI (L + 20) from nI_add L 20]
    refine pr_put dX10_feed_114 fk_X10_82 rfl ⟨_, _, _, rfl, rfl⟩ rfl rfl ?_
    refine pr_aload_n dX10_feed_117 rfl rfl ?_
    refine pr_getS (v := nI (L + 20)) dX10_feed_118 fk_X10_82 rfl rfl ?_
    exact pr_iretP hQ dX10_feed_121 rfl rfl ⟨rfl, rfl, h1, h2⟩
  | m + 1, k, ar2, hk, h1, h2, h3 => by
    have ih := rl_feed (fx := fx) (dd := dd) hL h400 hQ m (k + 1)
    refine pr_iload dX10_feed_60 rfl ?_
    refine pr_bipush dX10_feed_62 (show (Int8.ofInt (20)).toInt32 = (20) by decide) ?_
    refine pr_icmp_ge (tgt := 106) dX10_feed_64 (by decide) (fun c64 => absurd c64 (nI_ge (a := k) (b := 20) (by omega) (by decide))) (fun c64 => ?_)
    refine pr_aload_n dX10_feed_67 rfl rfl ?_
    refine pr_getA dX10_feed_68 fk_X10_9 rfl ?_
    refine pr_aload_n dX10_feed_71 rfl rfl ?_
    refine pr_getS (v := nI L) dX10_feed_72 fk_X10_82 rfl hL ?_
    refine pr_iload dX10_feed_75 rfl ?_
    refine pr_iadd dX10_feed_77 ?_
    refine pr_aload_n dX10_feed_78 rfl rfl ?_
    refine pr_getA dX10_feed_79 fk_X10_17 rfl ?_
    refine pr_iload dX10_feed_82 rfl ?_
    refine pr_iconst dX10_feed_84 (show Int32.ofInt (4) = (4) by decide) ?_
    refine pr_idiv dX10_feed_85 (by decide) ?_
    rw [show nI k / 4 = nI (k / 4) from pk_div (d := 4) (by omega) (by decide) (by decide)]
    refine pr_iald (j := k / 4) dX10_feed_86 (by decide) rfl rfl (by show k / 4 < 5; omega) rfl ?_
    rw [h3 (k / 4) (by omega)]
    refine pr_bipush dX10_feed_87 (show (Int8.ofInt (24)).toInt32 = (24) by decide) ?_
    refine pr_bipush dX10_feed_89 (show (Int8.ofInt (8)).toInt32 = (8) by decide) ?_
    refine pr_iload dX10_feed_91 rfl ?_
    refine pr_iconst dX10_feed_93 (show Int32.ofInt (4) = (4) by decide) ?_
    refine pr_irem dX10_feed_94 (by decide) ?_
    rw [show nI k - nI k / 4 * 4 = nI (k % 4) from pk_rem (d := 4) (by omega) (by decide) (by decide)]
    refine pr_imul dX10_feed_95 ?_
    refine pr_isub dX10_feed_96 ?_
    refine pr_ishr dX10_feed_97 ?_
    refine pr_i2b dX10_feed_98 ?_
    refine pr_bast (j := L + k) dX10_feed_99 (by decide) rfl (nI_add L k) (by show L + k < 400; omega) ?_
    refine pr_iinc dX10_feed_100 rfl (show Int32.ofInt (1) = (1) by decide) ?_
    refine pr_goto (tgt := 60) dX10_feed_103 (by decide) ?_
    rw [nI_1]
    refine ih _ (by omega) (fun x x0 x1 => by rw [va_up_ne _ _ x0]; exact h1 x x0 x1) ?_ (fun j hj => by rw [va_up_ne _ _ (by decide)]; exact h3 j hj)
    rw [va_up_self, h2]
    exact rTape_1 _ _ _ _
set_option maxHeartbeats 4000000 in
set_option maxRecDepth 20000 in
theorem rp_feed_ok (D : Nat) (sc : Nat → Int32) (ar : Nat → Nat → Int32) {L : Nat} (a b c d e : Int32) (hL : sc 2 = nI L) (h400 : L + 20 ≤ 400) : RP (D + 1) 93 [.int a, .int b, .int c, .int d, .int e] sc ar (fun res sc2 ar2 => res = some (.int (nI (L + 20))) ∧ sc2 = upd (upd sc 0 0) 2 (nI (L + 20)) ∧ (∀ a, a ≠ 0 → a ≠ 1 → ar2 a = ar a) ∧ ar2 0 = rTape (ar 0) L (w5 a b c d e) 20) := by
  refine RP.of pm_X10_feed rfl rfl (Nat.le_of_ble_eq_true rfl) ?_
  intro fx al n g0 r Q hQ
  show pr fx (px_body pm_X10_feed) (D) Q al n g0 r sc ar 0 [.ref (al r), .int a, .int b, .int c, .int d, .int e, .float 0] []
  refine pr_aload_n dX10_feed_0 rfl rfl ?_
  refine pr_iconst dX10_feed_1 (show Int32.ofInt (0) = (0) by decide) ?_
  refine pr_put dX10_feed_2 fk_X10_79 rfl ⟨_, _, _, rfl, rfl⟩ rfl rfl ?_
  refine pr_aload_n dX10_feed_5 rfl rfl ?_
  refine pr_getS (v := nI L) dX10_feed_6 fk_X10_82 rfl hL ?_
  refine pr_bipush dX10_feed_9 (show (Int8.ofInt (20)).toInt32 = (20) by decide) ?_
  refine pr_iadd dX10_feed_11 ?_
  rw [show nI L + 20 = nI (L + 20) from nI_add L 20]
  refine pr_sipush dX10_feed_12 (show (Int16.ofInt (400)).toInt32 = (400) by decide) ?_
  refine pr_icmp_le (tgt := 20) dX10_feed_15 (by decide) (fun c15 => ?_) (fun c15 => absurd ((nI_leI (a := L + 20) (b := 400) (by omega) (by omega)).mpr h400) c15)
  refine pr_aload_n dX10_feed_20 rfl rfl ?_
  refine pr_getA dX10_feed_21 fk_X10_17 rfl ?_
  refine pr_iconst dX10_feed_24 (show Int32.ofInt (0) = (0) by decide) ?_
  refine pr_iload_n dX10_feed_25 rfl ?_
  refine pr_iast (j := 0) dX10_feed_26 (by decide) rfl rfl (by decide) ?_
  refine pr_aload_n dX10_feed_27 rfl rfl ?_
  refine pr_getA dX10_feed_28 fk_X10_17 rfl ?_
  refine pr_iconst dX10_feed_31 (show Int32.ofInt (1) = (1) by decide) ?_
  refine pr_iload_n dX10_feed_32 rfl ?_
  refine pr_iast (j := 1) dX10_feed_33 (by decide) rfl rfl (by decide) ?_
  refine pr_aload_n dX10_feed_34 rfl rfl ?_
  refine pr_getA dX10_feed_35 fk_X10_17 rfl ?_
  refine pr_iconst dX10_feed_38 (show Int32.ofInt (2) = (2) by decide) ?_
  refine pr_iload_n dX10_feed_39 rfl ?_
  refine pr_iast (j := 2) dX10_feed_40 (by decide) rfl rfl (by decide) ?_
  refine pr_aload_n dX10_feed_41 rfl rfl ?_
  refine pr_getA dX10_feed_42 fk_X10_17 rfl ?_
  refine pr_iconst dX10_feed_45 (show Int32.ofInt (3) = (3) by decide) ?_
  refine pr_iload dX10_feed_46 rfl ?_
  refine pr_iast (j := 3) dX10_feed_48 (by decide) rfl rfl (by decide) ?_
  refine pr_aload_n dX10_feed_49 rfl rfl ?_
  refine pr_getA dX10_feed_50 fk_X10_17 rfl ?_
  refine pr_iconst dX10_feed_53 (show Int32.ofInt (4) = (4) by decide) ?_
  refine pr_iload dX10_feed_54 rfl ?_
  refine pr_iast (j := 4) dX10_feed_56 (by decide) rfl rfl (by decide) ?_
  refine pr_iconst dX10_feed_57 (show Int32.ofInt (0) = (0) by decide) ?_
  refine pr_istore dX10_feed_58 (Nat.le_of_ble_eq_true rfl) ?_
  refine rl_feed hL h400 hQ 20 0 _ rfl (fun x x0 x1 => ?_) ?_ (fun j hj => ?_)
  · simp only [va_up_ne _ _ x1]
  · rw [rTape_0]; rfl
  · match j, hj with
    | 0, _ => rfl
    | 1, _ => rfl
    | 2, _ => rfl
    | 3, _ => rfl
    | 4, _ => rfl
    | j + 5, hj => omega
set_option maxHeartbeats 4000000 in
set_option maxRecDepth 20000 in
theorem rc_feed_no (D : Nat) (sc : Nat → Int32) (ar : Nat → Nat → Int32) {L : Nat} (a b c d e : Int32) (hL : sc 2 = nI L) (h400 : ¬ L + 20 ≤ 400) (hb : L ≤ 400) : RC (D + 1) 93 [.int a, .int b, .int c, .int d, .int e] sc ar (some (.int (-1))) (upd sc 0 0) (ar) := by
  refine RC.of pm_X10_feed rfl rfl (Nat.le_of_ble_eq_true rfl) ?_
  intro fx al n g0 r Q hQ
  show pr fx (px_body pm_X10_feed) (D) Q al n g0 r sc ar 0 [.ref (al r), .int a, .int b, .int c, .int d, .int e, .float 0] []
  refine pr_aload_n dX10_feed_0 rfl rfl ?_
  refine pr_iconst dX10_feed_1 (show Int32.ofInt (0) = (0) by decide) ?_
  refine pr_put dX10_feed_2 fk_X10_79 rfl ⟨_, _, _, rfl, rfl⟩ rfl rfl ?_
  refine pr_aload_n dX10_feed_5 rfl rfl ?_
  refine pr_getS (v := nI L) dX10_feed_6 fk_X10_82 rfl hL ?_
  refine pr_bipush dX10_feed_9 (show (Int8.ofInt (20)).toInt32 = (20) by decide) ?_
  refine pr_iadd dX10_feed_11 ?_
  rw [show nI L + 20 = nI (L + 20) from nI_add L 20]
  refine pr_sipush dX10_feed_12 (show (Int16.ofInt (400)).toInt32 = (400) by decide) ?_
  refine pr_icmp_le (tgt := 20) dX10_feed_15 (by decide) (fun c15 => absurd c15 (fun z => h400 ((nI_leI (a := L + 20) (b := 400) (by omega) (by omega)).mp z))) (fun c15 => ?_)
  refine pr_iconst dX10_feed_18 (show Int32.ofInt (-1) = (-1) by decide) ?_
  exact pr_iret hQ dX10_feed_19 rfl rfl rfl rfl rfl
