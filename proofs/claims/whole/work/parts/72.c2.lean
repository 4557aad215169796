theorem up2_up2 (sc : Nat → Nat → Int32) (c k : Nat) (v w : Int32) : up2 (up2 sc c k v) c k w = up2 sc c k w := by
  unfold up2
  funext d
  by_cases e : d = c
  · subst e; rw [va_up_self, va_up_self, va_up_self, upd_upd]
  · rw [va_up_ne _ _ e, va_up_ne _ _ e, va_up_ne _ _ e]
theorem up2_id (sc : Nat → Nat → Int32) (c k : Nat) : up2 sc c k (sc c k) = sc := by
  unfold up2
  funext d
  by_cases e : d = c
  · subst e; rw [va_up_self]; funext j; rw [upd_at]; split
    · rename_i h; rw [h]
    · rfl
  · rw [va_up_ne _ _ e]
theorem isBl_eq {b : Nat} : isBl b = true ↔ b = 32 := by
  unfold isBl inR
  rw [Bool.and_eq_true, decide_eq_true_iff, decide_eq_true_iff]
  omega
/-- the class's tape -/
def tB (sc ar : Nat → Nat → Int32) (B : Nat → Nat) (e : Nat) : Prop := sc 1 1 = nI e ∧ e ≤ 400 ∧ ∀ j, j < e → ar 2 j = nI (B j) ∧ B j < 256
def apW (f : Nat → Int32) (e : Nat) (x : Int32) : Nat → Int32 := upd (upd (upd (upd f e ((x >>> (nI 24 &&& 31)) &&& 255)) (e + 1) ((x >>> (nI 16 &&& 31)) &&& 255)) (e + 2) ((x >>> (nI 8 &&& 31)) &&& 255)) (e + 3) ((x >>> (nI 0 &&& 31)) &&& 255)
set_option maxHeartbeats 4000000 in
set_option maxRecDepth 20000 in
theorem cl_app1 {fx : px_F} {dd : Nat} {Q : px_Q} {al : Nat → Nat} {n : Nat} {g0 : Nat → px_O} {sc ar : Nat → Nat → Int32} {sl : Value} {tf : Nat → Option Nat} {x : Int32} {e s : Nat} (he : e < 400) (hs : s ≤ 24) (f : Nat → Int32) (kk : pc fx (px_body pm_X7_append) (dd) Q al n g0 (up2 sc 1 1 (nI (e + 1))) (va_up ar 2 (upd f e ((x >>> (nI s &&& 31)) &&& 255))) sl tf 3 [.ref (al 1), .int x, .int (nI s + -8)] []) : pc fx (px_body pm_X7_append) (dd) Q al n g0 (up2 sc 1 1 (nI e)) (va_up ar 2 f) sl tf 3 [.ref (al 1), .int x, .int (nI s)] [] := by
  refine pc_iload_n dX7_append_3 rfl ?_
  refine pc_if_lt (tgt := 49) dX7_append_4 (by decide) (fun c4 => absurd c4 (nI_pos (by omega))) (fun c4 => ?_)
  refine pc_aload_n dX7_append_7 rfl rfl ?_
  refine pc_getS (c := 1) (v := (nI e)) dX7_append_8 fk_X7_15 (by decide) rfl rfl rfl ?_
  refine pc_sipush dX7_append_11 (show (Int16.ofInt (400)).toInt32 = (400) by decide) ?_
  refine pc_icmp_ge (tgt := 49) dX7_append_14 (by decide) (fun c14 => absurd c14 (nI_ge (a := e) (b := 400) (by omega) (by decide))) (fun c14 => ?_)
  refine pc_aload_n dX7_append_17 rfl rfl ?_
  refine pc_getR (c := 1) (d := 2) dX7_append_18 fk_X7_9 (by decide) rfl rfl ?_
  refine pc_aload_n dX7_append_21 rfl rfl ?_
  refine pc_getS (c := 1) (v := (nI e)) dX7_append_22 fk_X7_15 (by decide) rfl rfl rfl ?_
  refine pc_iload_n dX7_append_25 rfl ?_
  refine pc_iload_n dX7_append_26 rfl ?_
  refine pc_ishr dX7_append_27 ?_
  refine pc_sipush dX7_append_28 (show (Int16.ofInt (255)).toInt32 = (255) by decide) ?_
  refine pc_iand dX7_append_31 ?_
  refine pc_iast (c := 2) (j := e) dX7_append_32 (by decide) rfl rfl rfl he (by decide) ?_
  rw [va_3]
  refine pc_aload_n dX7_append_33 rfl rfl ?_
  refine pc_dup dX7_append_34 rfl ?_
  refine pc_getS (c := 1) (v := (nI e)) dX7_append_35 fk_X7_15 (by decide) rfl rfl rfl ?_
  refine pc_iconst dX7_append_38 (show Int32.ofInt (1) = (1) by decide) ?_
  refine pc_iadd dX7_append_39 ?_
  rw [nI_1]
  refine pc_put (c := 1) dX7_append_40 fk_X7_15 (by decide) rfl rfl ⟨_, _, _, rfl, rfl⟩ rfl rfl ?_
  rw [up2_up2]
  refine pc_iinc dX7_append_43 rfl (show Int32.ofInt (-8) = (-8) by decide) ?_
  refine pc_goto (tgt := 3) dX7_append_46 (by decide) ?_
  exact kk
set_option maxHeartbeats 4000000 in
set_option maxRecDepth 20000 in
theorem cp_append (d : Nat) (sc ar : Nat → Nat → Int32) (sl : Value) (tf : Nat → Option Nat) (x : Int32) {e : Nat} (he : sc 1 1 = nI e) (h4 : e + 4 ≤ 400) : CP (d + 1) 50 (fun al => [.ref (al 1), .int x]) noD sc ar sl tf (fun res sc2 ar2 => res = none ∧ sc2 = up2 sc 1 1 (nI (e + 4)) ∧ ar2 = va_up ar 2 (apW (ar 2) e x)) := by
  refine CP.of pm_X7_append rfl (fun _ => rfl) (fun _ => Nat.le_of_ble_eq_true rfl) ?_
  intro fx al n g0 Q _ _ hQ
  refine pc_bipush dX7_append_0 (show (Int8.ofInt (24)).toInt32 = (24) by decide) ?_
  refine pc_istore_n dX7_append_2 (Nat.le_of_ble_eq_true rfl) ?_
  suffices h9 : pc fx (px_body pm_X7_append) (d) Q al n g0 (up2 sc 1 1 (nI e)) (va_up ar 2 (ar 2)) sl tf 3 [.ref (al 1), .int x, .int (nI 24)] [] by
    rw [← he, up2_id, va_id] at h9
    exact h9
  refine cl_app1 (s := 24) (by omega) (by decide) _ ?_
  rw [show nI 24 + -8 = nI 16 from by decide]
  refine cl_app1 (s := 16) (by omega) (by decide) _ ?_
  rw [show nI 16 + -8 = nI 8 from by decide]
  refine cl_app1 (s := 8) (by omega) (by decide) _ ?_
  rw [show nI 8 + -8 = nI 0 from by decide]
  refine cl_app1 (s := 0) (by omega) (by decide) _ ?_
  refine pc_iload_n dX7_append_3 rfl ?_
  refine pc_if_lt (tgt := 49) dX7_append_4 (by decide) (fun c4 => ?_) (fun c4 => absurd (show nI 0 + -8 < 0 by decide) c4)
  exact pc_vret hQ dX7_append_49 rfl ⟨rfl, rfl, rfl⟩
set_option maxHeartbeats 4000000 in
set_option maxRecDepth 20000 in
theorem cp_hasLetter (d : Nat) (sc ar : Nat → Nat → Int32) (sl : Value) (tf : Nat → Option Nat) {B : Nat → Nat} {e : Nat} (hB : tB sc ar B e) {p : Nat} (hp : p < 2 ^ 30) : CP (d + 1) 51 (fun al => [.ref (al 1), .int (nI p)]) noD (sc) (ar) sl tf (fun res sc2 ar2 => res = some (.int (zB (decide (p < e) && isL (B p)))) ∧ sc2 = sc ∧ ar2 = ar) := by
  refine CP.of pm_X7_hasLetter rfl (fun _ => rfl) (fun _ => Nat.le_of_ble_eq_true rfl) ?_
  intro fx al n g0 Q hn36 _ hQ
  show pc fx (px_body pm_X7_hasLetter) (d) Q al n g0 (sc) (ar) sl tf 0 [.ref (al 1), .int (nI p)] []
  refine pc_iload_n dX7_hasLetter_0 rfl ?_
  refine pc_if_lt (tgt := 38) dX7_hasLetter_1 (by decide) (fun c1 => absurd c1 (nI_pos (by omega))) (fun c1 => ?_)
  refine pc_iload_n dX7_hasLetter_4 rfl ?_
  refine pc_aload_n dX7_hasLetter_5 rfl rfl ?_
  refine pc_getS (c := 1) (v := nI e) dX7_hasLetter_6 fk_X7_15 (by decide) rfl rfl hB.1 ?_
  refine pc_icmp_ge (tgt := 38) dX7_hasLetter_9 (by decide) (fun c9 => ?_) (fun c9 => ?_)
  ·
    have c99 := Int32.not_lt.mpr c9
    refine pc_iconst dX7_hasLetter_38 (show Int32.ofInt (0) = (0) by decide) ?_
    exact pc_iret hQ dX7_hasLetter_39 rfl rfl ⟨by rw [decide_eq_false (fun z => by have := (nI_leI (a := e) (b := p) (by have := hB.2.1; omega) (by omega)).mp c9; omega)]; rfl, rfl, rfl⟩
  ·
    have c99 := Int32.not_le.mp c9
    have hpe : p < e := (nI_ltI (by omega) (by have := hB.2.1; omega)).mp c99
    refine pc_aload_n dX7_hasLetter_12 rfl rfl ?_
    refine pc_getR (c := 1) (d := 2) dX7_hasLetter_13 fk_X7_9 (by decide) rfl rfl ?_
    refine pc_iload_n dX7_hasLetter_16 rfl ?_
    refine pc_iald (c := 2) (v := (nI (B p))) (j := p) dX7_hasLetter_17 (by decide) rfl rfl rfl (by have := hB.2.1; omega) (by decide) (hB.2.2 p hpe).1 ?_
    refine pc_bipush dX7_hasLetter_18 (show (Int8.ofInt (97)).toInt32 = (97) by decide) ?_
    refine pc_icmp_lt (tgt := 38) dX7_hasLetter_20 (by decide) (fun c20 => ?_) (fun c20 => ?_)
    ·
      have c209 := Int32.not_le.mpr c20
      refine pc_iconst dX7_hasLetter_38 (show Int32.ofInt (0) = (0) by decide) ?_
      exact pc_iret hQ dX7_hasLetter_39 rfl rfl ⟨by rw [decide_eq_true hpe]; unfold isL inR; rw [decide_eq_false (show ¬ 97 ≤ B p from fun z => nI_nlt (a := B p) (b := 97) (by omega) (by have := (hB.2.2 p hpe).2; omega) c20)]; rfl, rfl, rfl⟩
    ·
      have c209 := Int32.not_lt.mp c20
      refine pc_aload_n dX7_hasLetter_23 rfl rfl ?_
      refine pc_getR (c := 1) (d := 2) dX7_hasLetter_24 fk_X7_9 (by decide) rfl rfl ?_
      refine pc_iload_n dX7_hasLetter_27 rfl ?_
      refine pc_iald (c := 2) (v := (nI (B p))) (j := p) dX7_hasLetter_28 (by decide) rfl rfl rfl (by have := hB.2.1; omega) (by decide) (hB.2.2 p hpe).1 ?_
      refine pc_bipush dX7_hasLetter_29 (show (Int8.ofInt (122)).toInt32 = (122) by decide) ?_
      refine pc_icmp_gt (tgt := 38) dX7_hasLetter_31 (by decide) (fun c31 => ?_) (fun c31 => ?_)
      ·
        have c319 := Int32.not_le.mpr c31
        refine pc_iconst dX7_hasLetter_38 (show Int32.ofInt (0) = (0) by decide) ?_
        exact pc_iret hQ dX7_hasLetter_39 rfl rfl ⟨by rw [decide_eq_true hpe]; unfold isL inR; rw [decide_eq_false (show ¬ B p ≤ 122 from fun z => nI_nlt (a := 122) (b := B p) (by omega) (by decide) c31), Bool.and_false]; rfl, rfl, rfl⟩
      ·
        have c319 := Int32.not_lt.mp c31
        refine pc_iconst dX7_hasLetter_34 (show Int32.ofInt (1) = (1) by decide) ?_
        refine pc_goto (tgt := 39) dX7_hasLetter_35 (by decide) ?_
        exact pc_iret hQ dX7_hasLetter_39 rfl rfl ⟨by rw [decide_eq_true hpe]; unfold isL inR; rw [decide_eq_true (show 97 ≤ B p from (nI_leI (a := 97) (b := B p) (by decide) (by have := (hB.2.2 p hpe).2; omega)).mp c209), decide_eq_true (show B p ≤ 122 from (nI_leI (a := B p) (b := 122) (by have := (hB.2.2 p hpe).2; omega) (by decide)).mp c319)]; rfl, rfl, rfl⟩
set_option maxHeartbeats 4000000 in
set_option maxRecDepth 20000 in
theorem cp_hasDigit (d : Nat) (sc ar : Nat → Nat → Int32) (sl : Value) (tf : Nat → Option Nat) {B : Nat → Nat} {e : Nat} (hB : tB sc ar B e) {p : Nat} (hp : p < 2 ^ 30) : CP (d + 1) 52 (fun al => [.ref (al 1), .int (nI p)]) noD (sc) (ar) sl tf (fun res sc2 ar2 => res = some (.int (zB (decide (p < e) && isD (B p)))) ∧ sc2 = sc ∧ ar2 = ar) := by
  refine CP.of pm_X7_hasDigit rfl (fun _ => rfl) (fun _ => Nat.le_of_ble_eq_true rfl) ?_
  intro fx al n g0 Q hn36 _ hQ
  show pc fx (px_body pm_X7_hasDigit) (d) Q al n g0 (sc) (ar) sl tf 0 [.ref (al 1), .int (nI p)] []
  refine pc_iload_n dX7_hasDigit_0 rfl ?_
  refine pc_if_lt (tgt := 38) dX7_hasDigit_1 (by decide) (fun c1 => absurd c1 (nI_pos (by omega))) (fun c1 => ?_)
  refine pc_iload_n dX7_hasDigit_4 rfl ?_
  refine pc_aload_n dX7_hasDigit_5 rfl rfl ?_
  refine pc_getS (c := 1) (v := nI e) dX7_hasDigit_6 fk_X7_15 (by decide) rfl rfl hB.1 ?_
  refine pc_icmp_ge (tgt := 38) dX7_hasDigit_9 (by decide) (fun c9 => ?_) (fun c9 => ?_)
  ·
    have c99 := Int32.not_lt.mpr c9
    refine pc_iconst dX7_hasDigit_38 (show Int32.ofInt (0) = (0) by decide) ?_
    exact pc_iret hQ dX7_hasDigit_39 rfl rfl ⟨by rw [decide_eq_false (fun z => by have := (nI_leI (a := e) (b := p) (by have := hB.2.1; omega) (by omega)).mp c9; omega)]; rfl, rfl, rfl⟩
  ·
    have c99 := Int32.not_le.mp c9
    have hpe : p < e := (nI_ltI (by omega) (by have := hB.2.1; omega)).mp c99
    refine pc_aload_n dX7_hasDigit_12 rfl rfl ?_
    refine pc_getR (c := 1) (d := 2) dX7_hasDigit_13 fk_X7_9 (by decide) rfl rfl ?_
    refine pc_iload_n dX7_hasDigit_16 rfl ?_
    refine pc_iald (c := 2) (v := (nI (B p))) (j := p) dX7_hasDigit_17 (by decide) rfl rfl rfl (by have := hB.2.1; omega) (by decide) (hB.2.2 p hpe).1 ?_
    refine pc_bipush dX7_hasDigit_18 (show (Int8.ofInt (48)).toInt32 = (48) by decide) ?_
    refine pc_icmp_lt (tgt := 38) dX7_hasDigit_20 (by decide) (fun c20 => ?_) (fun c20 => ?_)
    ·
      have c209 := Int32.not_le.mpr c20
      refine pc_iconst dX7_hasDigit_38 (show Int32.ofInt (0) = (0) by decide) ?_
      exact pc_iret hQ dX7_hasDigit_39 rfl rfl ⟨by rw [decide_eq_true hpe]; unfold isD inR; rw [decide_eq_false (show ¬ 48 ≤ B p from fun z => nI_nlt (a := B p) (b := 48) (by omega) (by have := (hB.2.2 p hpe).2; omega) c20)]; rfl, rfl, rfl⟩
    ·
      have c209 := Int32.not_lt.mp c20
      refine pc_aload_n dX7_hasDigit_23 rfl rfl ?_
      refine pc_getR (c := 1) (d := 2) dX7_hasDigit_24 fk_X7_9 (by decide) rfl rfl ?_
      refine pc_iload_n dX7_hasDigit_27 rfl ?_
      refine pc_iald (c := 2) (v := (nI (B p))) (j := p) dX7_hasDigit_28 (by decide) rfl rfl rfl (by have := hB.2.1; omega) (by decide) (hB.2.2 p hpe).1 ?_
      refine pc_bipush dX7_hasDigit_29 (show (Int8.ofInt (57)).toInt32 = (57) by decide) ?_
      refine pc_icmp_gt (tgt := 38) dX7_hasDigit_31 (by decide) (fun c31 => ?_) (fun c31 => ?_)
      ·
        have c319 := Int32.not_le.mpr c31
        refine pc_iconst dX7_hasDigit_38 (show Int32.ofInt (0) = (0) by decide) ?_
        exact pc_iret hQ dX7_hasDigit_39 rfl rfl ⟨by rw [decide_eq_true hpe]; unfold isD inR; rw [decide_eq_false (show ¬ B p ≤ 57 from fun z => nI_nlt (a := 57) (b := B p) (by omega) (by decide) c31), Bool.and_false]; rfl, rfl, rfl⟩
      ·
        have c319 := Int32.not_lt.mp c31
        refine pc_iconst dX7_hasDigit_34 (show Int32.ofInt (1) = (1) by decide) ?_
        refine pc_goto (tgt := 39) dX7_hasDigit_35 (by decide) ?_
        exact pc_iret hQ dX7_hasDigit_39 rfl rfl ⟨by rw [decide_eq_true hpe]; unfold isD inR; rw [decide_eq_true (show 48 ≤ B p from (nI_leI (a := 48) (b := B p) (by decide) (by have := (hB.2.2 p hpe).2; omega)).mp c209), decide_eq_true (show B p ≤ 57 from (nI_leI (a := B p) (b := 57) (by have := (hB.2.2 p hpe).2; omega) (by decide)).mp c319)]; rfl, rfl, rfl⟩
def wE2 (B : Nat → Nat) (b i : Nat) : Nat → Nat → Bool
  | 0, _ => true
  | m + 1, k => decide (nI (B (b + k)) = sTx i k) && wE2 B b i m (k + 1)
theorem wE_wE2 (B : Nat → Nat) (b i : Nat) : ∀ m k, wE B b i (k + m) = (wE B b i k && wE2 B b i m k)
  | 0, k => by rw [wE2, Bool.and_true, Nat.add_zero]
  | m + 1, k => by
    rw [wE2, show k + (m + 1) = (k + 1) + m from by omega, wE_wE2 B b i m (k + 1), wE, Bool.and_assoc]
theorem px_len_lt : ∀ i, i < 4 → px_len.getD i 0 < 2 ^ 30 := by decide +kernel
set_option maxHeartbeats 4000000 in
set_option maxRecDepth 20000 in
theorem cl_hasWord {fx : px_F} {dd : Nat} {Q : px_Q} {al : Nat → Nat} {n : Nat} {g0 : Nat → px_O} {sc ar : Nat → Nat → Int32} {sl : Value} {tf : Nat → Option Nat} {B : Nat → Nat} {e : Nat} (hB : tB sc ar B e) {i b L : Nat} (hi : i < 4) (hL : L = px_len.getD i 0) (hbe : b + L ≤ e) : ∀ (m k : Nat), k + m = L → (∀ res sc2 ar2 g2, (fun res sc2 ar2 => res = some (.int (zB (wE2 B b i m k))) ∧ sc2 = sc ∧ ar2 = ar) res sc2 ar2 → CR al n g2 sc2 ar2 sl tf → cfr g0 g2 → Q (.inl res) al n g2) → pc fx (px_body pm_X7_hasWord) (dd + 4) Q al n g0 (sc) (ar) sl tf 27 [.ref (al 1), .ref (fx.1 i), .int (nI b), .int (nI L), .int (nI k)] []
  | 0, k, hk, hQ => by
    obtain rfl : k = L := by omega
    refine pc_iload dX7_hasWord_27 rfl ?_
    refine pc_iload_n dX7_hasWord_29 rfl ?_
    refine pc_icmp_ge (tgt := 59) dX7_hasWord_30 (by decide) (fun c30 => ?_) (fun c30 => absurd (Int32.le_refl _) c30)
    refine pc_iconst dX7_hasWord_59 (show Int32.ofInt (1) = (1) by decide) ?_
    exact pc_iret hQ dX7_hasWord_60 rfl rfl ⟨rfl, rfl, rfl⟩
  | m + 1, k, hk, hQ => by
    have hB4 := hB.2.1
    have hBk := hB.2.2 (b + k) (by omega)
    rw [wE2] at hQ
    refine pc_iload dX7_hasWord_27 rfl ?_
    refine pc_iload_n dX7_hasWord_29 rfl ?_
    refine pc_icmp_ge (tgt := 59) dX7_hasWord_30 (by decide) (fun c30 => absurd c30 (Int32.not_le.mpr (nI_lt (by omega) (by omega)))) (fun c30 => ?_)
    refine pc_aload_n dX7_hasWord_33 rfl rfl ?_
    refine pc_getR (c := 1) (d := 2) dX7_hasWord_34 fk_X7_9 (by decide) rfl rfl ?_
    refine pc_iload_n dX7_hasWord_37 rfl ?_
    refine pc_iload dX7_hasWord_38 rfl ?_
    refine pc_iadd dX7_hasWord_40 ?_
    rw [nI_add]
    refine pc_iald (c := 2) (v := (nI (B (b + k)))) (j := b + k) dX7_hasWord_41 (by decide) rfl rfl rfl (by omega) (by decide) hBk.1 ?_
    refine pc_aload_n dX7_hasWord_42 rfl rfl ?_
    refine pc_iload dX7_hasWord_43 rfl ?_
    refine pc_callT (i := i) dX7_hasWord_45 cl_X7_25 hi (fc_charAt dd hi (show k < px_len.getD i 0 by omega)) rfl rfl (Nat.le_of_ble_eq_true rfl) ⟨rfl, rfl⟩ ?_
    refine pc_icmp_eq (tgt := 53) dX7_hasWord_48 (by decide) (fun c48 => ?_) (fun c48 => ?_)
    ·
      rw [decide_eq_true c48, Bool.true_and] at hQ
      refine pc_iinc dX7_hasWord_53 rfl (show Int32.ofInt (1) = (1) by decide) ?_
      refine pc_goto (tgt := 27) dX7_hasWord_56 (by decide) ?_
      rw [nI_1]
      exact cl_hasWord hB hi hL hbe m (k + 1) (by omega) hQ
    ·
      refine pc_iconst dX7_hasWord_51 (show Int32.ofInt (0) = (0) by decide) ?_
      exact pc_iret hQ dX7_hasWord_52 rfl rfl ⟨by rw [decide_eq_false c48]; rfl, rfl, rfl⟩
set_option maxHeartbeats 4000000 in
set_option maxRecDepth 20000 in
theorem cp_hasWord {fx : px_F} (d : Nat) (sc ar : Nat → Nat → Int32) (sl : Value) (tf : Nat → Option Nat) {B : Nat → Nat} {e : Nat} (hB : tB sc ar B e) {i b a : Nat} (hi : i < 4) (hab : b ≤ a) (hae : a ≤ e) : ∀ (al : Nat → Nat) (n : Nat) (g : Nat → px_O) (Q : px_Q), CR al n g sc ar sl tf → (∀ g2, CR al n g2 sc ar sl tf → cfr g g2 → Q (.inl (some (.int (zB (wIs B b a i))))) al n g2) → pm px_tb fx (d + 5) 53 [.ref (al 1), .ref (fx.1 i), .int (nI b), .int (nI (a - b))] al n g Q := by
  intro al n g Q hR hQ0
  have hQ : (∀ res sc2 ar2 g2, (fun res sc2 ar2 => res = some (.int (zB (wIs B b a i))) ∧ sc2 = sc ∧ ar2 = ar) res sc2 ar2 → CR al n g2 sc2 ar2 sl tf → cfr g g2 → Q (.inl res) al n g2) := fun res sc2 ar2 g2 h hR2 hF2 => by obtain ⟨rfl, rfl, rfl⟩ := h; exact hQ0 g2 hR2 hF2
  refine ⟨pm_X7_hasWord, rfl, rfl, Nat.le_of_ble_eq_true rfl, ?_⟩
  have hB4 := hB.2.1
  have hl := px_len_lt i hi
  refine (?_ : pc fx (px_body pm_X7_hasWord) (d + 4) Q al n g (sc) (ar) sl tf 0 [.ref (al 1), .ref (fx.1 i), .int (nI b), .int (nI (a - b)), .float 0] []) g hR cfr.rf
  refine pc_iload_n dX7_hasWord_0 rfl ?_
  refine pc_aload_n dX7_hasWord_1 rfl rfl ?_
  refine pc_callT (i := i) dX7_hasWord_2 cl_X7_19 hi (fc_length (d + 2) hi) rfl rfl (Nat.le_of_ble_eq_true rfl) ⟨rfl, rfl⟩ ?_
  refine pc_icmp_ne (tgt := 22) dX7_hasWord_5 (by decide) (fun c5 => ?_) (fun c5 => ?_)
  ·
    refine pc_iconst dX7_hasWord_22 (show Int32.ofInt (0) = (0) by decide) ?_
    exact pc_iret hQ dX7_hasWord_23 rfl rfl ⟨by unfold wIs; rw [decide_eq_false (fun z => c5 (by rw [z]))]; rfl, rfl, rfl⟩
  ·
    refine pc_iload_n dX7_hasWord_8 rfl ?_
    refine pc_if_lt (tgt := 22) dX7_hasWord_9 (by decide) (fun c9 => absurd c9 (nI_pos (by omega))) (fun c9 => ?_)
    refine pc_iload_n dX7_hasWord_12 rfl ?_
    refine pc_iload_n dX7_hasWord_13 rfl ?_
    refine pc_iadd dX7_hasWord_14 ?_
    rw [nI_add]
    refine pc_aload_n dX7_hasWord_15 rfl rfl ?_
    refine pc_getS (c := 1) (v := nI e) dX7_hasWord_16 fk_X7_15 (by decide) rfl rfl hB.1 ?_
    refine pc_icmp_le (tgt := 24) dX7_hasWord_19 (by decide) (fun c19 => ?_) (fun c19 => absurd (nI_le (show b + (a - b) ≤ e by omega) (by omega)) c19)
    have hL : a - b = px_len.getD i 0 := (nI_eq (by omega) (by omega)).mp c5
    refine pc_iconst dX7_hasWord_24 (show Int32.ofInt (0) = (0) by decide) ?_
    refine pc_istore dX7_hasWord_25 (Nat.le_of_ble_eq_true rfl) ?_
    refine cl_hasWord (dd := d) hB hi hL (by omega) (a - b) 0 (by omega) (fun res sc2 ar2 g2 h hR2 hF2 => hQ res sc2 ar2 g2 ⟨?_, h.2⟩ hR2 hF2)
    rw [h.1]
    have e2 := wE_wE2 B b i (a - b) 0
    rw [Nat.zero_add] at e2
    unfold wIs
    rw [← hL, decide_eq_true rfl, Bool.true_and, e2, wE, Bool.true_and]
set_option maxHeartbeats 4000000 in
set_option maxRecDepth 20000 in
theorem cl_passBlanks {fx : px_F} {dd : Nat} {Q : px_Q} {al : Nat → Nat} {n : Nat} {g0 : Nat → px_O} {sc ar : Nat → Nat → Int32} {sl : Value} {tf : Nat → Option Nat} {B : Nat → Nat} {e : Nat} (hB : tB sc ar B e) : ∀ (m p : Nat), p + m = e → (∀ res sc2 ar2 g2, (fun res sc2 ar2 => res = none ∧ sc2 = up2 sc 4 3 (nI (spn isBl B m p)) ∧ ar2 = ar) res sc2 ar2 → CR al n g2 sc2 ar2 sl tf → cfr g0 g2 → Q (.inl res) al n g2) → pc fx (px_body pm_X6_passBlanks) (dd) Q al n g0 (up2 sc 4 3 (nI p)) (ar) sl tf 0 [.ref (al 4), .ref (al 1)] []
  | 0, p, hp, hQ => by
    obtain rfl : p = e := by omega
    have hB4 := hB.2.1
    refine pc_aload_n dX6_passBlanks_0 rfl rfl ?_
    refine pc_getS (c := 4) (v := (nI p)) dX6_passBlanks_1 fk_X6_18 (by decide) rfl rfl rfl ?_
    refine pc_aload_n dX6_passBlanks_4 rfl rfl ?_
    refine pc_getSN (c := 1) (v := nI p) dX6_passBlanks_5 fk_X6_33 (by decide) rfl rfl hB.1 ?_
    refine pc_icmp_ge (tgt := 38) dX6_passBlanks_8 (by decide) (fun c8 => ?_) (fun c8 => absurd (Int32.le_refl _) c8)
    exact pc_vret hQ dX6_passBlanks_38 rfl ⟨rfl, rfl, rfl⟩
  | m + 1, p, hp, hQ => by
    have hB4 := hB.2.1
    have hBp := hB.2.2 p (by omega)
    rw [spn] at hQ
    refine pc_aload_n dX6_passBlanks_0 rfl rfl ?_
    refine pc_getS (c := 4) (v := (nI p)) dX6_passBlanks_1 fk_X6_18 (by decide) rfl rfl rfl ?_
    refine pc_aload_n dX6_passBlanks_4 rfl rfl ?_
    refine pc_getSN (c := 1) (v := (nI e)) dX6_passBlanks_5 fk_X6_33 (by decide) rfl rfl hB.1 ?_
    refine pc_icmp_ge (tgt := 38) dX6_passBlanks_8 (by decide) (fun c8 => absurd c8 (Int32.not_le.mpr (nI_lt (by omega) (by omega)))) (fun c8 => ?_)
    refine pc_aload_n dX6_passBlanks_11 rfl rfl ?_
    refine pc_getRN (c := 1) (d := 2) dX6_passBlanks_12 fk_X6_36 (by decide) rfl rfl ?_
    refine pc_aload_n dX6_passBlanks_15 rfl rfl ?_
    refine pc_getS (c := 4) (v := (nI p)) dX6_passBlanks_16 fk_X6_18 (by decide) rfl rfl rfl ?_
    refine pc_iald (c := 2) (v := (nI (B p))) (j := p) dX6_passBlanks_19 (by decide) rfl rfl rfl (by omega) (by decide) hBp.1 ?_
    refine pc_bipush dX6_passBlanks_20 (show (Int8.ofInt (32)).toInt32 = (32) by decide) ?_
    refine pc_icmp_ne (tgt := 38) dX6_passBlanks_22 (by decide) (fun c22 => ?_) (fun c22 => ?_)
    ·
      rw [if_neg (show ¬ isBl (B p) = true from fun z => c22 (by rw [isBl_eq.mp z]; rfl))] at hQ
      exact pc_vret hQ dX6_passBlanks_38 rfl ⟨rfl, rfl, rfl⟩
    ·
      rw [if_pos (isBl_eq.mpr ((nI_eq (a := B p) (b := 32) (by omega) (by decide)).mp c22))] at hQ
      refine pc_aload_n dX6_passBlanks_25 rfl rfl ?_
      refine pc_dup dX6_passBlanks_26 rfl ?_
      refine pc_getS (c := 4) (v := (nI p)) dX6_passBlanks_27 fk_X6_18 (by decide) rfl rfl rfl ?_
      refine pc_iconst dX6_passBlanks_30 (show Int32.ofInt (1) = (1) by decide) ?_
      refine pc_iadd dX6_passBlanks_31 ?_
      rw [nI_1]
      refine pc_put (c := 4) dX6_passBlanks_32 fk_X6_18 (by decide) rfl rfl ⟨_, _, _, rfl, rfl⟩ rfl rfl ?_
      rw [up2_up2]
      refine pc_goto (tgt := 0) dX6_passBlanks_35 (by decide) ?_
      exact cl_passBlanks hB m (p + 1) (by omega) hQ
set_option maxHeartbeats 4000000 in
set_option maxRecDepth 20000 in
theorem cp_passBlanks (d : Nat) (sc ar : Nat → Nat → Int32) (sl : Value) (tf : Nat → Option Nat) {B : Nat → Nat} {e : Nat} (hB : tB sc ar B e) {p : Nat} (hp : sc 4 3 = nI p) (hpe : p ≤ e) : CP (d + 1) 45 (fun al => [.ref (al 4), .ref (al 1)]) noD sc ar sl tf (fun res sc2 ar2 => res = none ∧ sc2 = up2 sc 4 3 (nI (spn isBl B (e - p) p)) ∧ ar2 = ar) := by
  refine CP.of pm_X6_passBlanks rfl (fun _ => rfl) (fun _ => Nat.le_of_ble_eq_true rfl) ?_
  intro fx al n g0 Q _ _ hQ
  have key := cl_passBlanks (fx := fx) (dd := d) hB (e - p) p (by omega) hQ
  rw [← hp, up2_id] at key
  exact key
theorem varOf_no {t : Int32} : varOf t = -1 ↔ isVar t = false := by
  unfold varOf
  by_cases h1 : t = 97
  · subst h1; decide
  by_cases h2 : t = 98
  · subst h2; decide
  by_cases h3 : t = 99
  · subst h3; decide
  by_cases h4 : t = 100
  · subst h4; decide
  by_cases h5 : t = 114
  · subst h5; decide
  rw [if_neg h1, if_neg h2, if_neg h3, if_neg h4, if_neg h5]
  refine ⟨fun _ => ?_, fun _ => rfl⟩
  cases hv : isVar t with
  | false => rfl
  | true =>
    exfalso
    have h := vN_of hv
    rcases vN_cases t with e | e | e | e | e <;> rw [e] at h <;> contradiction
set_option maxHeartbeats 4000000 in
set_option maxRecDepth 20000 in
theorem cl_takeWord {fx : px_F} {dd : Nat} {Q : px_Q} {al : Nat → Nat} {n : Nat} {g0 : Nat → px_O} {sc ar : Nat → Nat → Int32} {sl : Value} {tf : Nat → Option Nat} {B : Nat → Nat} {e : Nat} (hB : tB sc ar B e) {b : Nat} (kk : pc fx (px_body pm_X6_takeWord) (dd + 1) Q al n g0 (up2 sc 4 3 (nI (spn isL B (e - b) b))) (ar) sl tf 40 [.ref (al 4), .ref (al 1), .int (nI b), .float 0, .float 0] []) : ∀ (m p : Nat), p + m = e → spn isL B m p = spn isL B (e - b) b → pc fx (px_body pm_X6_takeWord) (dd + 1) Q al n g0 (up2 sc 4 3 (nI p)) (ar) sl tf 5 [.ref (al 4), .ref (al 1), .int (nI b), .float 0, .float 0] []
  | 0, p, hp, hs => by
    obtain rfl : p = e := by omega
    have hB4 := hB.2.1
    rw [spn] at hs
    rw [← hs] at kk
    refine pc_aload_n dX6_takeWord_5 rfl rfl ?_
    refine pc_getS (c := 4) (v := (nI p)) dX6_takeWord_6 fk_X6_18 (by decide) rfl rfl rfl ?_
    refine pc_aload_n dX6_takeWord_9 rfl rfl ?_
    refine pc_getSN (c := 1) (v := nI p) dX6_takeWord_10 fk_X6_33 (by decide) rfl rfl hB.1 ?_
    refine pc_icmp_ge (tgt := 40) dX6_takeWord_13 (by decide) (fun c13 => ?_) (fun c13 => absurd (Int32.le_refl _) c13)
    exact kk
  | m + 1, p, hp, hs => by
    have hB4 := hB.2.1
    have hBX : tB (up2 sc 4 3 (nI p)) ar B e := hB
    rw [spn] at hs
    refine pc_aload_n dX6_takeWord_5 rfl rfl ?_
    refine pc_getS (c := 4) (v := (nI p)) dX6_takeWord_6 fk_X6_18 (by decide) rfl rfl rfl ?_
    refine pc_aload_n dX6_takeWord_9 rfl rfl ?_
    refine pc_getSN (c := 1) (v := (nI e)) dX6_takeWord_10 fk_X6_33 (by decide) rfl rfl hB.1 ?_
    refine pc_icmp_ge (tgt := 40) dX6_takeWord_13 (by decide) (fun c13 => absurd c13 (Int32.not_le.mpr (nI_lt (by omega) (by omega)))) (fun c13 => ?_)
    refine pc_aload_n dX6_takeWord_16 rfl rfl ?_
    refine pc_aload_n dX6_takeWord_17 rfl rfl ?_
    refine pc_getS (c := 4) (v := (nI p)) dX6_takeWord_18 fk_X6_18 (by decide) rfl rfl rfl ?_
    refine pc_callN (c := 1) (As := fun al => [.int (nI p)]) dX6_takeWord_21 cl_X6_39 (by decide) rfl (cp_hasLetter dd _ _ _ _ hBX (p := p) (by omega)) (fun _ _ => trivial) rfl rfl (Nat.le_of_ble_eq_true rfl) ⟨rfl, rfl⟩ (fun res sc2 ar2 hn => ?_)
    obtain ⟨rfl, rfl, rfl⟩ := hn
    rw [decide_eq_true (show p < e by omega), Bool.true_and]
    refine pc_if_eq (tgt := 40) dX6_takeWord_24 (by decide) (fun c24 => ?_) (fun c24 => ?_)
    ·
      rw [if_neg (by rw [zB_0.mp c24]; decide)] at hs
      rw [← hs] at kk
      exact kk
    ·
      rw [if_pos (zB_n0 c24)] at hs
      refine pc_aload_n dX6_takeWord_27 rfl rfl ?_
      refine pc_dup dX6_takeWord_28 rfl ?_
      refine pc_getS (c := 4) (v := (nI p)) dX6_takeWord_29 fk_X6_18 (by decide) rfl rfl rfl ?_
      refine pc_iconst dX6_takeWord_32 (show Int32.ofInt (1) = (1) by decide) ?_
      refine pc_iadd dX6_takeWord_33 ?_
      rw [nI_1]
      refine pc_put (c := 4) dX6_takeWord_34 fk_X6_18 (by decide) rfl rfl ⟨_, _, _, rfl, rfl⟩ rfl rfl ?_
      rw [up2_up2]
      refine pc_goto (tgt := 5) dX6_takeWord_37 (by decide) ?_
      exact cl_takeWord hB kk m (p + 1) (by omega) hs
set_option maxHeartbeats 4000000 in
set_option maxRecDepth 20000 in
theorem cp_takeWord (d : Nat) (sc ar : Nat → Nat → Int32) (sl : Value) (tf : Nat → Option Nat) {B : Nat → Nat} {e : Nat} (hB : tB sc ar B e) {b : Nat} (hb : sc 4 3 = nI b) (hbe : ¬ b = e) (hble : b ≤ e) (hl : isL (B b) = true) : CP (d + 6) 47 (fun al => [.ref (al 4), .ref (al 1)]) noD (sc) (ar) sl tf (fun res sc2 ar2 => res = some (.int (lexT B e b)) ∧ sc2 = up2 sc 4 3 (nI (spn isL B (e - b) b)) ∧ ar2 = ar) := by
  refine CP.of pm_X6_takeWord rfl (fun _ => rfl) (fun _ => Nat.le_of_ble_eq_true rfl) ?_
  intro fx al n g0 Q hn36 _ hQ
  show pc fx (px_body pm_X6_takeWord) (d + 5) Q al n g0 (sc) (ar) sl tf 0 [.ref (al 4), .ref (al 1), .float 0, .float 0, .float 0] []
  have hB4 := hB.2.1
  have hsp := spn_ge isL B (e - b) b
  refine pc_aload_n dX6_takeWord_0 rfl rfl ?_
  refine pc_getS (c := 4) (v := (nI b)) dX6_takeWord_1 fk_X6_18 (by decide) rfl rfl hb ?_
  refine pc_istore_n dX6_takeWord_4 (Nat.le_of_ble_eq_true rfl) ?_
  have hBX : tB (up2 sc 4 3 (nI (spn isL B (e - b) b))) ar B e := hB
  have key := cl_takeWord (fx := fx) (dd := d + 4) (Q := Q) (al := al) (n := n) (g0 := g0) (sl := sl) (tf := tf) hB (b := b) ?_ (e - b) b (by omega) rfl
  · rw [← hb, up2_id] at key
    rw [hb] at key
    exact key
  · refine pc_aload_n dX6_takeWord_40 rfl rfl ?_
    refine pc_getS (c := 4) (v := (nI (spn isL B (e - b) b))) dX6_takeWord_41 fk_X6_18 (by decide) rfl rfl rfl ?_
    refine pc_iload_n dX6_takeWord_44 rfl ?_
    refine pc_isub dX6_takeWord_45 ?_
    rw [show nI (spn isL B (e - b) b) - nI b = nI ((spn isL B (e - b) b) - b) from pk_sub (by omega)]
    refine pc_istore_n dX6_takeWord_46 (Nat.le_of_ble_eq_true rfl) ?_
    refine pc_iload_n dX6_takeWord_47 rfl ?_
    refine pc_iconst dX6_takeWord_48 (show Int32.ofInt (1) = (1) by decide) ?_
    refine pc_icmp_ne (tgt := 77) dX6_takeWord_49 (by decide) (fun c49 => ?_) (fun c49 => ?_)
    ·
      have hone : ¬ (spn isL B (e - b) b) = b + 1 := fun z => c49 (by rw [z, Nat.add_sub_cancel_left]; rfl)
      refine pc_aload_n dX6_takeWord_77 rfl rfl ?_
      refine pc_ldcS (i := 1) dX6_takeWord_78 (List.mem_of_getElem? (i := 1) rfl) ?_
      refine pc_iload_n dX6_takeWord_80 rfl ?_
      refine pc_iload_n dX6_takeWord_81 rfl ?_
      refine (fun g hR hF => ?_ : pc fx (px_body pm_X6_takeWord) (d + 5) Q al n g0 (up2 sc 4 3 (nI (spn isL B (e - b) b))) ar sl tf 82 [.ref (al 4), .ref (al 1), .int (nI b), .int (nI ((spn isL B (e - b) b) - b)), .float 0] [.int (nI ((spn isL B (e - b) b) - b)), .int (nI b), .ref (fx.1 1), .ref (al 1)])
      refine pg_callVN (pm_mono px_tb fx (d + 5)) (As := [.ref (fx.1 1), .int (nI b), .int (nI ((spn isL B (e - b) b) - b))]) dX6_takeWord_82 cl_X6_65 (by have := hR.1; omega) ((hR.2 1 (by decide)).trans (cObj_o rfl)) rfl (Nat.le_of_ble_eq_true rfl) (Nat.zero_le _) (Nat.zero_le _) ?_
      refine cp_hasWord (fx := fx) d (up2 sc 4 3 (nI (spn isL B (e - b) b))) ar sl tf hBX (i := 1) (b := b) (a := (spn isL B (e - b) b)) (by decide) (by omega) (by omega) al n g _ hR (fun g2 hR2 hF2 => ?_)
      refine (?_ : pc fx (px_body pm_X6_takeWord) (d + 5) Q al n g0 (up2 sc 4 3 (nI (spn isL B (e - b) b))) ar sl tf 85 [.ref (al 4), .ref (al 1), .int (nI b), .int (nI ((spn isL B (e - b) b) - b)), .float 0] [.int (zB (wIs B b (spn isL B (e - b) b) 1))]) g2 hR2 (hF.tr hF2)
      refine pc_if_eq (tgt := 92) dX6_takeWord_85 (by decide) (fun c85 => ?_) (fun c85 => ?_)
      ·
        refine pc_aload_n dX6_takeWord_92 rfl rfl ?_
        refine pc_ldcS (i := 2) dX6_takeWord_93 (List.mem_of_getElem? (i := 2) rfl) ?_
        refine pc_iload_n dX6_takeWord_95 rfl ?_
        refine pc_iload_n dX6_takeWord_96 rfl ?_
        refine (fun g hR hF => ?_ : pc fx (px_body pm_X6_takeWord) (d + 5) Q al n g0 (up2 sc 4 3 (nI (spn isL B (e - b) b))) ar sl tf 97 [.ref (al 4), .ref (al 1), .int (nI b), .int (nI ((spn isL B (e - b) b) - b)), .float 0] [.int (nI ((spn isL B (e - b) b) - b)), .int (nI b), .ref (fx.1 2), .ref (al 1)])
        refine pg_callVN (pm_mono px_tb fx (d + 5)) (As := [.ref (fx.1 2), .int (nI b), .int (nI ((spn isL B (e - b) b) - b))]) dX6_takeWord_97 cl_X6_65 (by have := hR.1; omega) ((hR.2 1 (by decide)).trans (cObj_o rfl)) rfl (Nat.le_of_ble_eq_true rfl) (Nat.zero_le _) (Nat.zero_le _) ?_
        refine cp_hasWord (fx := fx) d (up2 sc 4 3 (nI (spn isL B (e - b) b))) ar sl tf hBX (i := 2) (b := b) (a := (spn isL B (e - b) b)) (by decide) (by omega) (by omega) al n g _ hR (fun g2 hR2 hF2 => ?_)
        refine (?_ : pc fx (px_body pm_X6_takeWord) (d + 5) Q al n g0 (up2 sc 4 3 (nI (spn isL B (e - b) b))) ar sl tf 100 [.ref (al 4), .ref (al 1), .int (nI b), .int (nI ((spn isL B (e - b) b) - b)), .float 0] [.int (zB (wIs B b (spn isL B (e - b) b) 2))]) g2 hR2 (hF.tr hF2)
        refine pc_if_eq (tgt := 107) dX6_takeWord_100 (by decide) (fun c100 => ?_) (fun c100 => ?_)
        ·
          refine pc_aload_n dX6_takeWord_107 rfl rfl ?_
          refine pc_ldcS (i := 3) dX6_takeWord_108 (List.mem_of_getElem? (i := 3) rfl) ?_
          refine pc_iload_n dX6_takeWord_110 rfl ?_
          refine pc_iload_n dX6_takeWord_111 rfl ?_
          refine (fun g hR hF => ?_ : pc fx (px_body pm_X6_takeWord) (d + 5) Q al n g0 (up2 sc 4 3 (nI (spn isL B (e - b) b))) ar sl tf 112 [.ref (al 4), .ref (al 1), .int (nI b), .int (nI ((spn isL B (e - b) b) - b)), .float 0] [.int (nI ((spn isL B (e - b) b) - b)), .int (nI b), .ref (fx.1 3), .ref (al 1)])
          refine pg_callVN (pm_mono px_tb fx (d + 5)) (As := [.ref (fx.1 3), .int (nI b), .int (nI ((spn isL B (e - b) b) - b))]) dX6_takeWord_112 cl_X6_65 (by have := hR.1; omega) ((hR.2 1 (by decide)).trans (cObj_o rfl)) rfl (Nat.le_of_ble_eq_true rfl) (Nat.zero_le _) (Nat.zero_le _) ?_
          refine cp_hasWord (fx := fx) d (up2 sc 4 3 (nI (spn isL B (e - b) b))) ar sl tf hBX (i := 3) (b := b) (a := (spn isL B (e - b) b)) (by decide) (by omega) (by omega) al n g _ hR (fun g2 hR2 hF2 => ?_)
          refine (?_ : pc fx (px_body pm_X6_takeWord) (d + 5) Q al n g0 (up2 sc 4 3 (nI (spn isL B (e - b) b))) ar sl tf 115 [.ref (al 4), .ref (al 1), .int (nI b), .int (nI ((spn isL B (e - b) b) - b)), .float 0] [.int (zB (wIs B b (spn isL B (e - b) b) 3))]) g2 hR2 (hF.tr hF2)
          refine pc_if_eq (tgt := 124) dX6_takeWord_115 (by decide) (fun c115 => ?_) (fun c115 => ?_)
          ·
            refine pc_bipush dX6_takeWord_124 (show (Int8.ofInt (-2)).toInt32 = (-2) by decide) ?_
            exact pc_iret hQ dX6_takeWord_126 rfl rfl ⟨by rw [lexT_l hbe hl, if_neg hone, if_neg (by rw [zB_0.mp c85]; decide), if_neg (by rw [zB_0.mp c100]; decide), if_neg (by rw [zB_0.mp c115]; decide)], rfl, rfl⟩
          ·
            refine pc_sipush dX6_takeWord_118 (show (Int16.ofInt (258)).toInt32 = (258) by decide) ?_
            refine pc_goto (tgt := 126) dX6_takeWord_121 (by decide) ?_
            exact pc_iret hQ dX6_takeWord_126 rfl rfl ⟨by rw [lexT_l hbe hl, if_neg hone, if_neg (by rw [zB_0.mp c85]; decide), if_neg (by rw [zB_0.mp c100]; decide), if_pos (zB_n0 c115)], rfl, rfl⟩
        ·
          refine pc_sipush dX6_takeWord_103 (show (Int16.ofInt (257)).toInt32 = (257) by decide) ?_
          exact pc_iret hQ dX6_takeWord_106 rfl rfl ⟨by rw [lexT_l hbe hl, if_neg hone, if_neg (by rw [zB_0.mp c85]; decide), if_pos (zB_n0 c100)], rfl, rfl⟩
      ·
        refine pc_sipush dX6_takeWord_88 (show (Int16.ofInt (256)).toInt32 = (256) by decide) ?_
        exact pc_iret hQ dX6_takeWord_91 rfl rfl ⟨by rw [lexT_l hbe hl, if_neg hone, if_pos (zB_n0 c85)], rfl, rfl⟩
    ·
      have hone : (spn isL B (e - b) b) = b + 1 := by
        have := (nI_eq (a := (spn isL B (e - b) b) - b) (b := 1) (by omega) (by decide)).mp c49
        omega
      refine pc_aload_n dX6_takeWord_52 rfl rfl ?_
      refine pc_getRN (c := 1) (d := 2) dX6_takeWord_53 fk_X6_36 (by decide) rfl rfl ?_
      refine pc_iload_n dX6_takeWord_56 rfl ?_
      refine pc_iald (c := 2) (v := (nI (B b))) (j := b) dX6_takeWord_57 (by decide) rfl rfl rfl (by omega) (by decide) (hB.2.2 b (by omega)).1 ?_
      refine pc_istore dX6_takeWord_58 (Nat.le_of_ble_eq_true rfl) ?_
      refine pc_iload dX6_takeWord_60 rfl ?_
      refine pc_callSCN dX6_takeWord_62 cl_X6_60 (rc_varOf (d + 4) _) rfl rfl (Nat.le_of_ble_eq_true rfl) ⟨rfl, rfl⟩ ?_
      refine pc_iconst dX6_takeWord_65 (show Int32.ofInt (-1) = (-1) by decide) ?_
      refine pc_icmp_ne (tgt := 74) dX6_takeWord_66 (by decide) (fun c66 => ?_) (fun c66 => ?_)
      ·
        refine pc_iload dX6_takeWord_74 rfl ?_
        exact pc_iret hQ dX6_takeWord_76 rfl rfl ⟨by rw [lexT_l hbe hl, if_pos hone, if_pos (Bool.of_not_eq_false (fun z => c66 (varOf_no.mpr z)))], rfl, rfl⟩
      ·
        refine pc_bipush dX6_takeWord_69 (show (Int8.ofInt (-2)).toInt32 = (-2) by decide) ?_
        refine pc_goto (tgt := 76) dX6_takeWord_71 (by decide) ?_
        exact pc_iret hQ dX6_takeWord_76 rfl rfl ⟨by rw [lexT_l hbe hl, if_pos hone, if_neg (by rw [varOf_no.mp c66]; decide)], rfl, rfl⟩
theorem isD_48 {b : Nat} (h : isD b = true) : 48 ≤ b := by
  unfold isD inR at h
  rw [Bool.and_eq_true, decide_eq_true_iff, decide_eq_true_iff] at h
  exact h.1
def nmI (B : Nat → Nat) (b : Nat) : Nat → Int32
  | 0 => 0
  | k + 1 => nmI B b k * 10 + nI (B (b + k)) - 48
theorem nmI_num (B : Nat → Nat) (b : Nat) : ∀ k, (∀ j, j < k → 48 ≤ B (b + j)) → nmI B b k = nI (num B b k)
  | 0, _ => rfl
  | k + 1, h => by
    have hk := h k (by omega)
    rw [nmI, num, nmI_num B b k (fun j hj => h j (by omega)), show (10 : Int32) = nI 10 from rfl, pk_mul, nI_add, show (48 : Int32) = nI 48 from rfl, pk_sub (by omega)]
    congr 1
    omega
theorem spn_all (c : Nat → Bool) (B : Nat → Nat) : ∀ m p j, p ≤ j → j < spn c B m p → c (B j) = true
  | 0, p, j, h1, h2 => by rw [spn] at h2; omega
  | m + 1, p, j, h1, h2 => by
    rw [spn] at h2
    by_cases e : c (B p) = true
    · rw [if_pos e] at h2
      by_cases e2 : j = p
      · rw [e2]; exact e
      · exact spn_all c B m (p + 1) j (by omega) h2
    · rw [if_neg e] at h2; omega
set_option maxHeartbeats 4000000 in
set_option maxRecDepth 20000 in
theorem cl_takeNumber {fx : px_F} {dd : Nat} {Q : px_Q} {al : Nat → Nat} {n : Nat} {g0 : Nat → px_O} {sc ar : Nat → Nat → Int32} {sl : Value} {tf : Nat → Option Nat} {B : Nat → Nat} {e : Nat} (hB : tB sc ar B e) {b : Nat} (kk : pc fx (px_body pm_X6_takeNumber) (dd + 1) Q al n g0 (up2 sc 4 3 (nI (spn isD B (e - b) b))) (ar) sl tf 60 [.ref (al 4), .ref (al 1), .int (nI b), .int (nmI B b ((spn isD B (e - b) b) - b))] []) : ∀ (m p : Nat), p + m = e → b ≤ p → spn isD B m p = spn isD B (e - b) b → pc fx (px_body pm_X6_takeNumber) (dd + 1) Q al n g0 (up2 sc 4 3 (nI p)) (ar) sl tf 7 [.ref (al 4), .ref (al 1), .int (nI b), .int (nmI B b (p - b))] []
  | 0, p, hp, hbp, hs => by
    obtain rfl : p = e := by omega
    have hB4 := hB.2.1
    rw [spn] at hs
    rw [← hs] at kk
    refine pc_aload_n dX6_takeNumber_7 rfl rfl ?_
    refine pc_getS (c := 4) (v := (nI p)) dX6_takeNumber_8 fk_X6_18 (by decide) rfl rfl rfl ?_
    refine pc_aload_n dX6_takeNumber_11 rfl rfl ?_
    refine pc_getSN (c := 1) (v := nI p) dX6_takeNumber_12 fk_X6_33 (by decide) rfl rfl hB.1 ?_
    refine pc_icmp_ge (tgt := 60) dX6_takeNumber_15 (by decide) (fun c15 => ?_) (fun c15 => absurd (Int32.le_refl _) c15)
    exact kk
  | m + 1, p, hp, hbp, hs => by
    have hB4 := hB.2.1
    have hBX : tB (up2 sc 4 3 (nI p)) ar B e := hB
    rw [spn] at hs
    refine pc_aload_n dX6_takeNumber_7 rfl rfl ?_
    refine pc_getS (c := 4) (v := (nI p)) dX6_takeNumber_8 fk_X6_18 (by decide) rfl rfl rfl ?_
    refine pc_aload_n dX6_takeNumber_11 rfl rfl ?_
    refine pc_getSN (c := 1) (v := (nI e)) dX6_takeNumber_12 fk_X6_33 (by decide) rfl rfl hB.1 ?_
    refine pc_icmp_ge (tgt := 60) dX6_takeNumber_15 (by decide) (fun c15 => absurd c15 (Int32.not_le.mpr (nI_lt (by omega) (by omega)))) (fun c15 => ?_)
    refine pc_aload_n dX6_takeNumber_18 rfl rfl ?_
    refine pc_aload_n dX6_takeNumber_19 rfl rfl ?_
    refine pc_getS (c := 4) (v := (nI p)) dX6_takeNumber_20 fk_X6_18 (by decide) rfl rfl rfl ?_
    refine pc_callN (c := 1) (As := fun al => [.int (nI p)]) dX6_takeNumber_23 cl_X6_46 (by decide) rfl (cp_hasDigit dd _ _ _ _ hBX (p := p) (by omega)) (fun _ _ => trivial) rfl rfl (Nat.le_of_ble_eq_true rfl) ⟨rfl, rfl⟩ (fun res sc2 ar2 hn => ?_)
    obtain ⟨rfl, rfl, rfl⟩ := hn
    rw [decide_eq_true (show p < e by omega), Bool.true_and]
    refine pc_if_eq (tgt := 60) dX6_takeNumber_26 (by decide) (fun c26 => ?_) (fun c26 => ?_)
    ·
      rw [if_neg (by rw [zB_0.mp c26]; decide)] at hs
      rw [← hs] at kk
      exact kk
    ·
      rw [if_pos (zB_n0 c26)] at hs
      refine pc_iload_n dX6_takeNumber_29 rfl ?_
      refine pc_bipush dX6_takeNumber_30 (show (Int8.ofInt (10)).toInt32 = (10) by decide) ?_
      refine pc_imul dX6_takeNumber_32 ?_
      refine pc_aload_n dX6_takeNumber_33 rfl rfl ?_
      refine pc_getRN (c := 1) (d := 2) dX6_takeNumber_34 fk_X6_36 (by decide) rfl rfl ?_
      refine pc_aload_n dX6_takeNumber_37 rfl rfl ?_
      refine pc_getS (c := 4) (v := (nI p)) dX6_takeNumber_38 fk_X6_18 (by decide) rfl rfl rfl ?_
      refine pc_iald (c := 2) (v := (nI (B p))) (j := p) dX6_takeNumber_41 (by decide) rfl rfl rfl (by omega) (by decide) (hB.2.2 p (by omega)).1 ?_
      refine pc_iadd dX6_takeNumber_42 ?_
      refine pc_bipush dX6_takeNumber_43 (show (Int8.ofInt (48)).toInt32 = (48) by decide) ?_
      refine pc_isub dX6_takeNumber_45 ?_
      rw [show nmI B b (p - b) * 10 + nI (B p) - 48 = nmI B b (p + 1 - b) from by rw [show p + 1 - b = (p - b) + 1 from by omega, nmI, show b + (p - b) = p from by omega]]
      refine pc_istore_n dX6_takeNumber_46 (Nat.le_of_ble_eq_true rfl) ?_
      refine pc_aload_n dX6_takeNumber_47 rfl rfl ?_
      refine pc_dup dX6_takeNumber_48 rfl ?_
      refine pc_getS (c := 4) (v := (nI p)) dX6_takeNumber_49 fk_X6_18 (by decide) rfl rfl rfl ?_
      refine pc_iconst dX6_takeNumber_52 (show Int32.ofInt (1) = (1) by decide) ?_
      refine pc_iadd dX6_takeNumber_53 ?_
      rw [nI_1]
      refine pc_put (c := 4) dX6_takeNumber_54 fk_X6_18 (by decide) rfl rfl ⟨_, _, _, rfl, rfl⟩ rfl rfl ?_
      rw [up2_up2]
      refine pc_goto (tgt := 7) dX6_takeNumber_57 (by decide) ?_
      exact cl_takeNumber hB kk m (p + 1) (by omega) (by omega) hs
set_option maxHeartbeats 4000000 in
set_option maxRecDepth 20000 in
theorem cp_takeNumber (d : Nat) (sc ar : Nat → Nat → Int32) (sl : Value) (tf : Nat → Option Nat) {B : Nat → Nat} {e : Nat} (hB : tB sc ar B e) {b : Nat} (hb : sc 4 3 = nI b) (hbe : ¬ b = e) (hble : b ≤ e) (hl : isL (B b) = false) (hd : isD (B b) = true) : CP (d + 2) 48 (fun al => [.ref (al 4), .ref (al 1)]) noD (sc) (ar) sl tf (fun res sc2 ar2 => res = some (.int (lexT B e b)) ∧ sc2 = up2 sc 4 3 (nI (spn isD B (e - b) b)) ∧ ar2 = ar) := by
  refine CP.of pm_X6_takeNumber rfl (fun _ => rfl) (fun _ => Nat.le_of_ble_eq_true rfl) ?_
  intro fx al n g0 Q hn36 _ hQ
  show pc fx (px_body pm_X6_takeNumber) (d + 1) Q al n g0 (sc) (ar) sl tf 0 [.ref (al 4), .ref (al 1), .float 0, .float 0] []
  have hB4 := hB.2.1
  have hsp := spn_ge isD B (e - b) b
  refine pc_aload_n dX6_takeNumber_0 rfl rfl ?_
  refine pc_getS (c := 4) (v := (nI b)) dX6_takeNumber_1 fk_X6_18 (by decide) rfl rfl hb ?_
  refine pc_istore_n dX6_takeNumber_4 (Nat.le_of_ble_eq_true rfl) ?_
  refine pc_iconst dX6_takeNumber_5 (show Int32.ofInt (0) = (0) by decide) ?_
  refine pc_istore_n dX6_takeNumber_6 (Nat.le_of_ble_eq_true rfl) ?_
  have hBX : tB (up2 sc 4 3 (nI (spn isD B (e - b) b))) ar B e := hB
  have key := cl_takeNumber (fx := fx) (dd := d) (Q := Q) (al := al) (n := n) (g0 := g0) (sl := sl) (tf := tf) hB (b := b) ?_ (e - b) b (by omega) (Nat.le_refl _) rfl
  · rw [← hb, up2_id, Nat.sub_self] at key
    rw [hb] at key
    exact key
  · refine pc_aload_n dX6_takeNumber_60 rfl rfl ?_
    refine pc_getS (c := 4) (v := (nI (spn isD B (e - b) b))) dX6_takeNumber_61 fk_X6_18 (by decide) rfl rfl rfl ?_
    refine pc_iload_n dX6_takeNumber_64 rfl ?_
    refine pc_isub dX6_takeNumber_65 ?_
    rw [show nI (spn isD B (e - b) b) - nI b = nI ((spn isD B (e - b) b) - b) from pk_sub (by omega)]
    refine pc_bipush dX6_takeNumber_66 (show (Int8.ofInt (6)).toInt32 = (6) by decide) ?_
    refine pc_icmp_le (tgt := 76) dX6_takeNumber_68 (by decide) (fun c68 => ?_) (fun c68 => ?_)
    ·
      have c689 := Int32.not_lt.mpr c68
      refine pc_sipush dX6_takeNumber_76 (show (Int16.ofInt (1000)).toInt32 = (1000) by decide) ?_
      refine pc_iload_n dX6_takeNumber_79 rfl ?_
      refine pc_iadd dX6_takeNumber_80 ?_
      have h6 : ¬ b + 6 < (spn isD B (e - b) b) := by
        have := (nI_leI (a := (spn isD B (e - b) b) - b) (b := 6) (by omega) (by decide)).mp c68
        omega
      exact pc_iret hQ dX6_takeNumber_81 rfl rfl ⟨by rw [lexT_d hbe hl hd, if_neg h6, nmI_num B b ((spn isD B (e - b) b) - b) (fun j hj => isD_48 (spn_all isD B (e - b) b (b + j) (by omega) (by omega))), show (1000 : Int32) = nI 1000 from rfl, nI_add], rfl, rfl⟩
    ·
      have c689 := Int32.not_le.mp c68
      refine pc_bipush dX6_takeNumber_71 (show (Int8.ofInt (-2)).toInt32 = (-2) by decide) ?_
      refine pc_goto (tgt := 81) dX6_takeNumber_73 (by decide) ?_
      have h6 : b + 6 < (spn isD B (e - b) b) := by
        have : ¬ (spn isD B (e - b) b) - b ≤ 6 := fun z => absurd (nI_le z (by decide)) c68
        omega
      exact pc_iret hQ dX6_takeNumber_81 rfl rfl ⟨by rw [lexT_d hbe hl hd, if_pos h6], rfl, rfl⟩
