theorem pk_daast {fx : px_F} {bd : px_B} {dd : Nat} {Q : px_Q} {al : Nat → Nat} {n : Nat} {g0 : Nat → px_O} {sc ar : Nat → Nat → Int32} {sl : Value} {tf : Nat → Option Nat} {p : Nat} {ls st : List Value} {uc us : Nat} {a t L j j2 ci : Nat} {f : Nat → Option Nat} {f2 : Nat → Value} {i : Int32} (h0 : decode bd.2.1 p = .ok (.aastore, 1)) (ha : 36 ≤ a) (hn : a < n) (h2 : 36 ≤ j2) (hn2 : j2 < n) (h3 : (t = 4 ∧ ci = 1) ∨ (t = 5 ∧ ci = 5) ∨ (t = 6 ∧ ci = 8)) (h4 : g0 a = .inl (t, L, .inr (.inr (.inr (.inr f))))) (h5 : g0 j2 = .inr (ci, f2)) (hi : i = nI j) (hj : j < L) (hL : L < 2 ^ 31) (kk : pk fx bd dd Q al n (va_up g0 a (.inl (t, L, .inr (.inr (.inr (.inr (va_up f j (some (al j2)))))))) ) sc ar sl tf (p + 1) ls st uc us) : pk fx bd dd Q al n g0 sc ar sl tf p ls (.ref (al j2) :: .int i :: .ref (al a) :: st) uc us := fun g hR hF => by
  subst hi
  refine pg_aast h0 hn hn2 h3 ((hF a ha).trans h4) ((hF j2 h2).trans h5) (vp_in_nI hj hL) ?_
  rw [nI_clamp (by omega)]
  exact kk _ (hR.dy ha) hF.up
theorem pk_tfast {fx : px_F} {bd : px_B} {dd : Nat} {Q : px_Q} {al : Nat → Nat} {n : Nat} {g0 : Nat → px_O} {sc ar : Nat → Nat → Int32} {sl : Value} {tf : Nat → Option Nat} {p : Nat} {ls st : List Value} {uc us : Nat} {j j2 : Nat} {f2 : Nat → Value} {i : Int32} (h0 : decode bd.2.1 p = .ok (.aastore, 1)) (h2 : 36 ≤ j2) (hn2 : j2 < n) (h5 : g0 j2 = .inr (8, f2)) (hi : i = nI j) (hj : j < 10) (kk : pk fx bd dd Q al n g0 sc ar sl (va_up tf j (some (al j2))) (p + 1) ls st uc us) : pk fx bd dd Q al n g0 sc ar sl tf p ls (.ref (al j2) :: .int i :: .ref (al 18) :: st) uc us := fun g hR hF => by
  subst hi
  refine pg_aast (t := 6) (ci := 8) (len := 10) (f := tf) h0 (by have := hR.1; omega) hn2 (Or.inr (Or.inr ⟨rfl, rfl⟩)) (hR.2 18 (by decide)) ((hF j2 h2).trans h5) (vp_in_nI hj (by decide)) ?_
  rw [nI_clamp (by omega)]
  exact kk _ hR.tf (hF.put (by decide))
theorem rf_R (x : Option Nat) : px_isR (va_rf x) = true := by cases x <;> rfl
theorem rf_0 {x : Option Nat} (h : va_rf x = .null) : x = none := by cases x with
  | none => rfl
  | some a => cases h
theorem rf_1 {x : Option Nat} {a : Nat} (h : va_rf x = .ref a) : x = some a := by cases x with
  | none => cases h
  | some b => cases h; rfl
/-- a task of the class's in the heap -/
def TK (al : Nat → Nat) (n : Nat) (g : Nat → px_O) (T : Nat) (nd sh : Int32) (w y : Nat) (WA WB WR : Nat → Int32) (Y F : Nat → Option Nat) : Prop := 36 ≤ T ∧ T + 6 ≤ n ∧ (∃ f, g T = .inr (8, f) ∧ f 0 = .int nd ∧ f 1 = .int sh ∧ f 2 = .ref (al (T + 1)) ∧ f 3 = .ref (al (T + 2)) ∧ f 4 = .ref (al (T + 3)) ∧ f 5 = .ref (al (T + 4)) ∧ f 6 = .ref (al (T + 5)) ∧ f 7 = .int (nI w) ∧ f 8 = .int (nI y)) ∧ g (T + 1) = .inl (0, 6, .inl WA) ∧ g (T + 2) = .inl (0, 6, .inl WB) ∧ g (T + 3) = .inl (0, 6, .inl WR) ∧ g (T + 4) = .inl (5, 10, .inr (.inr (.inr (.inr Y)))) ∧ g (T + 5) = .inl (5, 8, .inr (.inr (.inr (.inr F))))
theorem TK.fr {al al2 : Nat → Nat} {n n2 : Nat} {g g2 : Nat → px_O} {T : Nat} {nd sh : Int32} {w y : Nat} {WA WB WR : Nat → Int32} {Y F : Nat → Option Nat} (h : TK al n g T nd sh w y WA WB WR Y F) (hn : n ≤ n2) (ha : ∀ k, k < n → al2 k = al k) (hg : ∀ k, T ≤ k → k < T + 6 → g2 k = g k) : TK al2 n2 g2 T nd sh w y WA WB WR Y F := by
  obtain ⟨p1, p2, ⟨f, q0, q1, q2, q3, q4, q5, q6, q7, q8, q9⟩, r1, r2, r3, r4, r5⟩ := h
  refine ⟨p1, by omega, ⟨f, by rw [hg T (by omega) (by omega)]; exact q0, q1, q2, ?_, ?_, ?_, ?_, ?_, q8, q9⟩, ?_, ?_, ?_, ?_, ?_⟩
  · rw [ha _ (by omega)]; exact q3
  · rw [ha _ (by omega)]; exact q4
  · rw [ha _ (by omega)]; exact q5
  · rw [ha _ (by omega)]; exact q6
  · rw [ha _ (by omega)]; exact q7
  · rw [hg _ (by omega) (by omega)]; exact r1
  · rw [hg _ (by omega) (by omega)]; exact r2
  · rw [hg _ (by omega) (by omega)]; exact r3
  · rw [hg _ (by omega) (by omega)]; exact r4
  · rw [hg _ (by omega) (by omega)]; exact r5
theorem PG.fr2 {al al2 : Nat → Nat} {n n2 : Nat} {g g2 : Nat → px_O} {P m L : Nat} {S O A : Nat → Int32} {bd : Bool} (h : PG al n g P m L S O A bd) (hn : n ≤ n2) (ha : ∀ k, k < n → al2 k = al k) (hg : ∀ k, P ≤ k → k < P + 4 → g2 k = g k) : PG al2 n2 g2 P m L S O A bd := by
  obtain ⟨h1, h2, ⟨f, q0, q1, q2, q3, q4⟩, h4, h5, h6⟩ := h
  refine ⟨h1, by omega, ⟨f, by rw [hg P (by omega) (by omega)]; exact q0, ?_, ?_, ?_, q4⟩, ?_, ?_, ?_⟩
  · rw [ha _ (by omega)]; exact q1
  · rw [ha _ (by omega)]; exact q2
  · rw [ha _ (by omega)]; exact q3
  · rw [hg _ (by omega) (by omega)]; exact h4
  · rw [hg _ (by omega) (by omega)]; exact h5
  · rw [hg _ (by omega) (by omega)]; exact h6
set_option maxHeartbeats 4000000 in
set_option maxRecDepth 20000 in
theorem dp_isPassedBy (d : Nat) {T : Nat} {nd sh : Int32} {w y : Nat} {WA WB WR : Nat → Int32} {Y F : Nat → Option Nat} {l : Nat} (hl : l < 8) : DP (d + 1) 56 (fun al => [.ref (al T), .int (nI l)]) (fun al n g => TK al (n) (g) T nd sh (w) (y) (WA) (WB) (WR) (Y) (F)) (some (.int (zB (F l).isSome))) := by
  refine DP.of pm_X8_isPassedBy rfl (fun _ => rfl) (fun _ => Nat.le_of_ble_eq_true rfl) ?_
  intro fx al n g Q ⟨p1, p2, ⟨f, q0, q1, q2, q3, q4, q5, q6, q7, q8, q9⟩, r1, r2, r3, r4, r5⟩ hQ
  show pg px_tb fx (px_body pm_X8_isPassedBy) (pm px_tb fx (d)) Q al n g 0 [.ref (al T), .int (nI l)] [] 0 0
  refine pg_aload_n dX8_isPassedBy_0 rfl rfl ?_
  refine pg_get dX8_isPassedBy_1 fk_X8_27 (by omega) q0 q7 ?_
  refine pg_iload_n dX8_isPassedBy_4 rfl ?_
  refine pg_aald dX8_isPassedBy_5 (by omega) (by decide) (by decide) r5 (vp_in_nI (n := l) hl (by decide)) ?_
  rw [nI_clamp (show l < 2 ^ 31 by omega)]
  refine pg_ifnull (tgt := 13) dX8_isPassedBy_6 (by decide) (rf_R _) (fun c6 => ?_) (fun a6 c6 => ?_)
  ·
    refine pg_iconst dX8_isPassedBy_13 (show Int32.ofInt (0) = (0) by decide) ?_
    rw [rf_0 c6] at hQ
    exact pg_iret dX8_isPassedBy_14 rfl rfl (Nat.zero_le _) (Nat.zero_le _) hQ
  ·
    refine pg_iconst dX8_isPassedBy_9 (show Int32.ofInt (1) = (1) by decide) ?_
    refine pg_goto (tgt := 14) dX8_isPassedBy_10 (by decide) ?_
    rw [rf_1 c6] at hQ
    exact pg_iret dX8_isPassedBy_14 rfl rfl (Nat.zero_le _) (Nat.zero_le _) hQ
set_option maxHeartbeats 4000000 in
set_option maxRecDepth 20000 in
theorem dp_isOpenTo (d : Nat) {T : Nat} {nd sh : Int32} {w y : Nat} {WA WB WR : Nat → Int32} {Y F : Nat → Option Nat} {ab : Int32} : DP (d + 1) 57 (fun al => [.ref (al T), .int ab]) (fun al n g => TK al (n) (g) T nd sh (w) (y) (WA) (WB) (WR) (Y) (F)) (some (.int (zB (decide (nd &&& (ab ^^^ -1) = 0))))) := by
  refine DP.of pm_X8_isOpenTo rfl (fun _ => rfl) (fun _ => Nat.le_of_ble_eq_true rfl) ?_
  intro fx al n g Q ⟨p1, p2, ⟨f, q0, q1, q2, q3, q4, q5, q6, q7, q8, q9⟩, r1, r2, r3, r4, r5⟩ hQ
  show pg px_tb fx (px_body pm_X8_isOpenTo) (pm px_tb fx (d)) Q al n g 0 [.ref (al T), .int ab] [] 0 0
  refine pg_aload_n dX8_isOpenTo_0 rfl rfl ?_
  refine pg_get dX8_isOpenTo_1 fk_X8_30 (by omega) q0 q1 ?_
  refine pg_iload_n dX8_isOpenTo_4 rfl ?_
  refine pg_iconst dX8_isOpenTo_5 (show Int32.ofInt (-1) = (-1) by decide) ?_
  refine pg_ixor dX8_isOpenTo_6 ?_
  refine pg_iand dX8_isOpenTo_7 ?_
  refine pg_if_ne (tgt := 15) dX8_isOpenTo_8 (by decide) (fun c8 => ?_) (fun c8 => ?_)
  ·
    refine pg_iconst dX8_isOpenTo_15 (show Int32.ofInt (0) = (0) by decide) ?_
    rw [decide_eq_false c8] at hQ
    exact pg_iret dX8_isOpenTo_16 rfl rfl (Nat.zero_le _) (Nat.zero_le _) hQ
  ·
    refine pg_iconst dX8_isOpenTo_11 (show Int32.ofInt (1) = (1) by decide) ?_
    refine pg_goto (tgt := 16) dX8_isOpenTo_12 (by decide) ?_
    rw [decide_eq_true c8] at hQ
    exact pg_iret dX8_isOpenTo_16 rfl rfl (Nat.zero_le _) (Nat.zero_le _) hQ
def fpC (F : Nat → Option Nat) : Nat → Int32
  | 0 => 0
  | k + 1 => fpC F k + (if (F k).isSome = true then 1 else 0)
set_option maxHeartbeats 4000000 in
set_option maxRecDepth 20000 in
theorem dl_passed {fx : px_F} {d : Nat} {Q : px_Q} {al : Nat → Nat} {n : Nat} {g : Nat → px_O} {T : Nat} {nd sh : Int32} {w y : Nat} {WA WB WR : Nat → Int32} {Y F : Nat → Option Nat} (hD : TK al (n) (g) T nd sh (w) (y) (WA) (WB) (WR) (Y) (F)) (hQ : Q (.inl (some (.int (fpC F 8)))) al n g) : ∀ (m i : Nat), i + m = 8 → pg px_tb fx (px_body pm_X8_learnersPassed) (pm px_tb fx (d)) Q al n g 4 [.ref (al T), .int (fpC F i), .int (nI i)] [] 0 0
  | 0, i, hk => by
    obtain rfl : i = 8 := by omega
    refine pg_iload_n dX8_learnersPassed_4 rfl ?_
    refine pg_bipush dX8_learnersPassed_5 (show (Int8.ofInt (8)).toInt32 = (8) by decide) ?_
    refine pg_icmp_ge (tgt := 28) dX8_learnersPassed_7 (by decide) (fun c7 => ?_) (fun c7 => absurd (by decide) c7)
    refine pg_iload_n dX8_learnersPassed_28 rfl ?_
    exact pg_iret dX8_learnersPassed_29 rfl rfl (Nat.zero_le _) (Nat.zero_le _) hQ
  | m + 1, i, hk => by
    have ih := dl_passed (fx := fx) (d := d) hD hQ m (i + 1) (by omega)
    rw [fpC] at ih
    obtain ⟨p1, p2, ⟨f, q0, q1, q2, q3, q4, q5, q6, q7, q8, q9⟩, r1, r2, r3, r4, r5⟩ := hD
    refine pg_iload_n dX8_learnersPassed_4 rfl ?_
    refine pg_bipush dX8_learnersPassed_5 (show (Int8.ofInt (8)).toInt32 = (8) by decide) ?_
    refine pg_icmp_ge (tgt := 28) dX8_learnersPassed_7 (by decide) (fun c7 => absurd c7 (Int32.not_le.mpr (nI_lt (show i < 8 by omega) (by decide)))) (fun c7 => ?_)
    refine pg_aload_n dX8_learnersPassed_10 rfl rfl ?_
    refine pg_get dX8_learnersPassed_11 fk_X8_27 (by omega) q0 q7 ?_
    refine pg_iload_n dX8_learnersPassed_14 rfl ?_
    refine pg_aald dX8_learnersPassed_15 (by omega) (by decide) (by decide) r5 (vp_in_nI (n := i) (by omega) (by decide)) ?_
    rw [nI_clamp (show i < 2 ^ 31 by omega)]
    refine pg_ifnull (tgt := 22) dX8_learnersPassed_16 (by decide) (rf_R _) (fun c16 => ?_) (fun a16 c16 => ?_)
    ·
      refine pg_iinc dX8_learnersPassed_22 rfl (show Int32.ofInt (1) = (1) by decide) ?_
      refine pg_goto (tgt := 4) dX8_learnersPassed_25 (by decide) ?_
      rw [nI_1]
      rw [rf_0 c16, if_neg (by decide), Int32.add_zero] at ih
      exact ih
    ·
      refine pg_iinc dX8_learnersPassed_19 rfl (show Int32.ofInt (1) = (1) by decide) ?_
      refine pg_iinc dX8_learnersPassed_22 rfl (show Int32.ofInt (1) = (1) by decide) ?_
      refine pg_goto (tgt := 4) dX8_learnersPassed_25 (by decide) ?_
      rw [nI_1]
      rw [rf_1 c16, if_pos (show (some a16).isSome = true from rfl)] at ih
      exact ih
set_option maxHeartbeats 4000000 in
set_option maxRecDepth 20000 in
theorem dp_learnersPassed (d : Nat) {T : Nat} {nd sh : Int32} {w y : Nat} {WA WB WR : Nat → Int32} {Y F : Nat → Option Nat} : DP (d + 1) 58 (fun al => [.ref (al T)]) (fun al n g => TK al (n) (g) T nd sh (w) (y) (WA) (WB) (WR) (Y) (F)) (some (.int (fpC F 8))) := by
  refine DP.of pm_X8_learnersPassed rfl (fun _ => rfl) (fun _ => Nat.le_of_ble_eq_true rfl) ?_
  intro fx al n g Q hD hQ
  show pg px_tb fx (px_body pm_X8_learnersPassed) (pm px_tb fx (d)) Q al n g 0 [.ref (al T), .float 0, .float 0] [] 0 0
  refine pg_iconst dX8_learnersPassed_0 (show Int32.ofInt (0) = (0) by decide) ?_
  refine pg_istore_n dX8_learnersPassed_1 (Nat.le_of_ble_eq_true rfl) ?_
  refine pg_iconst dX8_learnersPassed_2 (show Int32.ofInt (0) = (0) by decide) ?_
  refine pg_istore_n dX8_learnersPassed_3 (Nat.le_of_ble_eq_true rfl) ?_
  exact dl_passed hD hQ 8 0 (by omega)
/-- whether one of a task's ways has the shape -/
def wyH (mY : Nat → Nat) (SY : Nat → Nat → Int32) (m : Nat) (S : Nat → Int32) : Nat → Nat → Bool
  | 0, _ => false
  | j + 1, i => (decide (mY i = m) && shA (SY i) 0 S 0 (mY i) (mY i) 0) || wyH mY SY m S j (i + 1)
/-- the programs that a row of references names -/
def YP (al : Nat → Nat) (n : Nat) (g : Nat → px_O) (y : Nat) (Y : Nat → Option Nat) (PY mY LY : Nat → Nat) (SY OY AY : Nat → Nat → Int32) : Prop := ∀ i, i < y → Y i = some (al (PY i)) ∧ mY i ≤ 120 ∧ PG al n g (PY i) (mY i) (LY i) (SY i) (OY i) (AY i) (bD (mY i) (SY i))
set_option maxHeartbeats 4000000 in
set_option maxRecDepth 20000 in
theorem dl_hasWay {fx : px_F} {d : Nat} {Q : px_Q} {al : Nat → Nat} {n : Nat} {g : Nat → px_O} {T : Nat} {nd sh : Int32} {w y : Nat} {WA WB WR : Nat → Int32} {Y F : Nat → Option Nat} {PY mY LY : Nat → Nat} {SY OY AY : Nat → Nat → Int32} {P m L : Nat} {S O A : Nat → Int32} (hy : y ≤ 10) (hm : m ≤ 120) (hD : TK al (n) (g) T nd sh (w) (y) (WA) (WB) (WR) (Y) (F)) (hP : PG al n g P m L S O A (bD m S)) (hY : YP al n g y Y PY mY LY SY OY AY) : ∀ (j i : Nat), i + j = y → Q (.inl (some (.int (zB (wyH mY SY m S j i))))) al n g → pg px_tb fx (px_body pm_X8_hasWayOfShape) (pm px_tb fx (d + 3)) Q al n g 2 [.ref (al T), .ref (al P), .int (nI i)] [] 0 0
  | 0, i, hk, hQ => by
    obtain rfl : i = y := by omega
    obtain ⟨p1, p2, ⟨f, q0, q1, q2, q3, q4, q5, q6, q7, q8, q9⟩, r1, r2, r3, r4, r5⟩ := hD
    refine pg_iload_n dX8_hasWayOfShape_2 rfl ?_
    refine pg_aload_n dX8_hasWayOfShape_3 rfl rfl ?_
    refine pg_get dX8_hasWayOfShape_4 fk_X8_40 (by omega) q0 q9 ?_
    refine pg_icmp_ge (tgt := 31) dX8_hasWayOfShape_7 (by decide) (fun c7 => ?_) (fun c7 => absurd (Int32.le_refl _) c7)
    refine pg_iconst dX8_hasWayOfShape_31 (show Int32.ofInt (0) = (0) by decide) ?_
    exact pg_iret dX8_hasWayOfShape_32 rfl rfl (Nat.zero_le _) (Nat.zero_le _) hQ
  | j + 1, i, hk, hQ => by
    rw [wyH] at hQ
    obtain ⟨y1, y2, y3⟩ := hY i (by omega)
    have hD9 := hD
    obtain ⟨p1, p2, ⟨f, q0, q1, q2, q3, q4, q5, q6, q7, q8, q9⟩, r1, r2, r3, r4, r5⟩ := hD
    obtain ⟨u1, u2, ⟨f2, u3, _⟩, _⟩ := id y3
    refine pg_iload_n dX8_hasWayOfShape_2 rfl ?_
    refine pg_aload_n dX8_hasWayOfShape_3 rfl rfl ?_
    refine pg_get dX8_hasWayOfShape_4 fk_X8_40 (by omega) q0 q9 ?_
    refine pg_icmp_ge (tgt := 31) dX8_hasWayOfShape_7 (by decide) (fun c7 => absurd c7 (Int32.not_le.mpr (nI_lt (show i < y by omega) (by omega)))) (fun c7 => ?_)
    refine pg_aload_n dX8_hasWayOfShape_10 rfl rfl ?_
    refine pg_get dX8_hasWayOfShape_11 fk_X8_23 (by omega) q0 q6 ?_
    refine pg_iload_n dX8_hasWayOfShape_14 rfl ?_
    refine pg_aald dX8_hasWayOfShape_15 (by omega) (by decide) (by decide) r4 (vp_in_nI (n := i) (by omega) (by decide)) ?_
    rw [nI_clamp (show i < 2 ^ 31 by omega)]
    rw [y1]
    refine pg_aload_n dX8_hasWayOfShape_16 rfl rfl ?_
    refine pg_callDN (j := PY i) (As := fun al => [.ref (al P)]) dX8_hasWayOfShape_17 cl_X8_47 (by omega) u3 (dp_hasShapeOf d (P := PY i) (P2 := P) (by omega) (by omega)) ⟨y3, hP⟩ rfl rfl (Nat.le_of_ble_eq_true rfl) ⟨rfl, rfl⟩ (Nat.zero_le _) (Nat.zero_le _) ?_
    cases hc : (decide (mY i = m) && shA (SY i) 0 S 0 (mY i) (mY i) 0)
    ·
      rw [hc, Bool.false_or] at hQ
      refine pg_if_eq (tgt := 25) dX8_hasWayOfShape_20 (by decide) (fun _ => ?_) (fun c20 => absurd c20 (by decide))
      refine pg_iinc dX8_hasWayOfShape_25 rfl (show Int32.ofInt (1) = (1) by decide) ?_
      refine pg_goto (tgt := 2) dX8_hasWayOfShape_28 (by decide) ?_
      rw [nI_1]
      exact dl_hasWay hy hm hD9 hP hY j (i + 1) (by omega) hQ
    ·
      rw [hc, Bool.true_or] at hQ
      refine pg_if_eq (tgt := 25) dX8_hasWayOfShape_20 (by decide) (fun c20 => absurd c20 (by decide)) (fun _ => ?_)
      refine pg_iconst dX8_hasWayOfShape_23 (show Int32.ofInt (1) = (1) by decide) ?_
      exact pg_iret dX8_hasWayOfShape_24 rfl rfl (Nat.zero_le _) (Nat.zero_le _) hQ
set_option maxHeartbeats 4000000 in
set_option maxRecDepth 20000 in
theorem dp_hasWay (d : Nat) {T : Nat} {nd sh : Int32} {w y : Nat} {WA WB WR : Nat → Int32} {Y F : Nat → Option Nat} {PY mY LY : Nat → Nat} {SY OY AY : Nat → Nat → Int32} {P m L : Nat} {S O A : Nat → Int32} (hy : y ≤ 10) (hm : m ≤ 120) : DP (d + 4) 60 (fun al => [.ref (al T), .ref (al P)]) (fun al n g => TK al (n) (g) T nd sh (w) (y) (WA) (WB) (WR) (Y) (F) ∧ PG al n g P m L S O A (bD m S) ∧ YP al n g y Y PY mY LY SY OY AY) (some (.int (zB (wyH mY SY m S y 0)))) := by
  refine DP.of pm_X8_hasWayOfShape rfl (fun _ => rfl) (fun _ => Nat.le_of_ble_eq_true rfl) ?_
  intro fx al n g Q hD hQ
  show pg px_tb fx (px_body pm_X8_hasWayOfShape) (pm px_tb fx (d + 3)) Q al n g 0 [.ref (al T), .ref (al P), .float 0] [] 0 0
  refine pg_iconst dX8_hasWayOfShape_0 (show Int32.ofInt (0) = (0) by decide) ?_
  refine pg_istore_n dX8_hasWayOfShape_1 (Nat.le_of_ble_eq_true rfl) ?_
  exact dl_hasWay hy hm hD.1 hD.2.1 hD.2.2 y 0 (by omega) hQ
set_option maxHeartbeats 4000000 in
set_option maxRecDepth 20000 in
theorem kp_addWorld_full {fx : px_F} {d : Nat} {Q : px_Q} {al : Nat → Nat} {n : Nat} {g0 : Nat → px_O} {sc ar : Nat → Nat → Int32} {sl : Value} {tf : Nat → Option Nat} {T : Nat} {nd sh : Int32} {w y : Nat} {WA WB WR : Nat → Int32} {Y F : Nat → Option Nat} (hD : TK al (n) (g0) T nd sh (w) (y) (WA) (WB) (WR) (Y) (F)) (hw : w = 6) (a b r : Int32) (hQ : kq Q (.inl (some (.int (-1)))) al (n) (g0) (sc) (ar) (sl) (tf)) : kp fx (d + 1) 55 [.ref (al T), .int a, .int b, .int r] Q al n (g0) (sc) (ar) (sl) (tf) := by
  refine kp.of pm_X8_addWorld rfl rfl (Nat.le_of_ble_eq_true rfl) ?_
  show pk fx (px_body pm_X8_addWorld) (d) Q al (n) (g0) (sc) (ar) (sl) (tf) 0 [.ref (al T), .int a, .int b, .int r] [] 0 0
  obtain ⟨p1, p2, ⟨f, q0, q1, q2, q3, q4, q5, q6, q7, q8, q9⟩, r1, r2, r3, r4, r5⟩ := hD
  refine pk_aload_n dX8_addWorld_0 rfl rfl ?_
  refine pk_dget (j := T) dX8_addWorld_1 fk_X8_37 p1 (by omega) q0 q8 ?_
  refine pk_bipush dX8_addWorld_4 (show (Int8.ofInt (6)).toInt32 = (6) by decide) ?_
  refine pk_icmp_lt (tgt := 11) dX8_addWorld_6 (by decide) (fun c6 => absurd c6 (by rw [hw]; decide)) (fun c6 => ?_)
  refine pk_iconst dX8_addWorld_9 (show Int32.ofInt (-1) = (-1) by decide) ?_
  exact pk_iret dX8_addWorld_10 rfl rfl (Nat.le_of_ble_eq_true rfl) (Nat.le_of_ble_eq_true rfl) hQ
set_option maxHeartbeats 4000000 in
set_option maxRecDepth 20000 in
theorem kp_addWorld {fx : px_F} {d : Nat} {Q : px_Q} {al : Nat → Nat} {n : Nat} {g0 : Nat → px_O} {sc ar : Nat → Nat → Int32} {sl : Value} {tf : Nat → Option Nat} {T : Nat} {nd sh : Int32} {w y : Nat} {WA WB WR : Nat → Int32} {Y F : Nat → Option Nat} (hD : TK al (n) (g0) T nd sh (w) (y) (WA) (WB) (WR) (Y) (F)) (hw : w < 6) (a b r : Int32) (hQ : ∀ g2, TK al (n) (g2) T nd sh (w + 1) (y) (upd WA w a) (upd WB w b) (upd WR w r) (Y) (F) → (∀ k, (k < T ∨ T + 6 ≤ k) → g2 k = g0 k) → kq Q (.inl (some (.int (nI w)))) al (n) (g2) (sc) (ar) (sl) (tf)) : kp fx (d + 1) 55 [.ref (al T), .int a, .int b, .int r] Q al n (g0) (sc) (ar) (sl) (tf) := by
  refine kp.of pm_X8_addWorld rfl rfl (Nat.le_of_ble_eq_true rfl) ?_
  show pk fx (px_body pm_X8_addWorld) (d) Q al (n) (g0) (sc) (ar) (sl) (tf) 0 [.ref (al T), .int a, .int b, .int r] [] 0 0
  obtain ⟨p1, p2, ⟨f, q0, q1, q2, q3, q4, q5, q6, q7, q8, q9⟩, r1, r2, r3, r4, r5⟩ := hD
  refine pk_aload_n dX8_addWorld_0 rfl rfl ?_
  refine pk_dget (j := T) dX8_addWorld_1 fk_X8_37 p1 (by omega) q0 q8 ?_
  refine pk_bipush dX8_addWorld_4 (show (Int8.ofInt (6)).toInt32 = (6) by decide) ?_
  refine pk_icmp_lt (tgt := 11) dX8_addWorld_6 (by decide) (fun c6 => ?_) (fun c6 => absurd (nI_lt (b := 6) hw (by decide)) c6)
  refine pk_aload_n dX8_addWorld_11 rfl rfl ?_
  refine pk_dget (j := T) dX8_addWorld_12 fk_X8_9 p1 (by omega) q0 q3 ?_
  refine pk_aload_n dX8_addWorld_15 rfl rfl ?_
  refine pk_dget (j := T) dX8_addWorld_16 fk_X8_37 p1 (by omega) q0 q8 ?_
  refine pk_iload_n dX8_addWorld_19 rfl ?_
  refine pk_dast (j := w) dX8_addWorld_20 (by omega) (by omega) r1 rfl hw (by decide) ?_
  refine pk_aload_n dX8_addWorld_21 rfl rfl ?_
  refine pk_dget (j := T) dX8_addWorld_22 fk_X8_15 p1 (by omega) ((va_up_ne _ _ (by omega)).trans q0) q4 ?_
  refine pk_aload_n dX8_addWorld_25 rfl rfl ?_
  refine pk_dget (j := T) dX8_addWorld_26 fk_X8_37 p1 (by omega) ((va_up_ne _ _ (by omega)).trans q0) q8 ?_
  refine pk_iload_n dX8_addWorld_29 rfl ?_
  refine pk_dast (j := w) dX8_addWorld_30 (by omega) (by omega) ((va_up_ne _ _ (by omega)).trans r2) rfl hw (by decide) ?_
  refine pk_aload_n dX8_addWorld_31 rfl rfl ?_
  refine pk_dget (j := T) dX8_addWorld_32 fk_X8_18 p1 (by omega) ((va_up_ne _ _ (by omega)).trans ((va_up_ne _ _ (by omega)).trans q0)) q5 ?_
  refine pk_aload_n dX8_addWorld_35 rfl rfl ?_
  refine pk_dget (j := T) dX8_addWorld_36 fk_X8_37 p1 (by omega) ((va_up_ne _ _ (by omega)).trans ((va_up_ne _ _ (by omega)).trans q0)) q8 ?_
  refine pk_iload_n dX8_addWorld_39 rfl ?_
  refine pk_dast (j := w) dX8_addWorld_40 (by omega) (by omega) ((va_up_ne _ _ (by omega)).trans ((va_up_ne _ _ (by omega)).trans r3)) rfl hw (by decide) ?_
  refine pk_aload_n dX8_addWorld_41 rfl rfl ?_
  refine pk_dup dX8_addWorld_42 rfl ?_
  refine pk_dget (j := T) dX8_addWorld_43 fk_X8_37 p1 (by omega) ((va_up_ne _ _ (by omega)).trans ((va_up_ne _ _ (by omega)).trans ((va_up_ne _ _ (by omega)).trans q0))) q8 ?_
  refine pk_iconst dX8_addWorld_46 (show Int32.ofInt (1) = (1) by decide) ?_
  refine pk_iadd dX8_addWorld_47 ?_
  rw [nI_1]
  refine pk_dput (j := T) dX8_addWorld_48 fk_X8_37 p1 (by omega) ((va_up_ne _ _ (by omega)).trans ((va_up_ne _ _ (by omega)).trans ((va_up_ne _ _ (by omega)).trans q0))) ⟨_, _, _, rfl, rfl⟩ rfl rfl ?_
  refine pk_aload_n dX8_addWorld_51 rfl rfl ?_
  refine pk_dget (j := T) dX8_addWorld_52 fk_X8_37 p1 (by omega) (va_up_self _ _ _) (va_up_self _ _ _) ?_
  refine pk_iconst dX8_addWorld_55 (show Int32.ofInt (1) = (1) by decide) ?_
  refine pk_isub dX8_addWorld_56 ?_
  rw [show nI (w + 1) - 1 = nI w from pr1 (J := w + 1) (by omega)]
  refine pk_iret dX8_addWorld_57 rfl rfl (Nat.le_of_ble_eq_true rfl) (Nat.le_of_ble_eq_true rfl) ?_
  refine hQ _ ⟨p1, p2, ⟨_, va_up_self _ _ _, q1, q2, q3, q4, q5, q6, q7, rfl, q9⟩, ?_, ?_, ?_, ?_, ?_⟩ (fun k hk => ?_)
  · simp (disch := omega) only [va_up_self, va_up_ne]
  · simp (disch := omega) only [va_up_self, va_up_ne]
  · simp (disch := omega) only [va_up_self, va_up_ne]
  · simp (disch := omega) only [va_up_self, va_up_ne]; exact r4
  · simp (disch := omega) only [va_up_self, va_up_ne]; exact r5
  · simp (disch := omega) only [va_up_self, va_up_ne]
theorem TK.F {al : Nat → Nat} {n : Nat} {g : Nat → px_O} {T : Nat} {nd sh : Int32} {w y : Nat} {WA WB WR : Nat → Int32} {Y F F2 : Nat → Option Nat} (h : TK al n g T nd sh w y WA WB WR Y F) : TK al n (va_up g (T + 5) (.inl (5, 8, .inr (.inr (.inr (.inr F2)))))) T nd sh w y WA WB WR Y F2 := by
  obtain ⟨p1, p2, ⟨f, q0, q1, q2, q3, q4, q5, q6, q7, q8, q9⟩, r1, r2, r3, r4, r5⟩ := h
  refine ⟨p1, p2, ⟨f, by rw [va_up_ne _ _ (by omega)]; exact q0, q1, q2, q3, q4, q5, q6, q7, q8, q9⟩, ?_, ?_, ?_, ?_, va_up_self _ _ _⟩
  · rw [va_up_ne _ _ (by omega)]; exact r1
  · rw [va_up_ne _ _ (by omega)]; exact r2
  · rw [va_up_ne _ _ (by omega)]; exact r3
  · rw [va_up_ne _ _ (by omega)]; exact r4
set_option maxHeartbeats 4000000 in
set_option maxRecDepth 20000 in
theorem kl_keep2 {fx : px_F} {d : Nat} {Q : px_Q} {al : Nat → Nat} {n : Nat} {g0 : Nat → px_O} {sc ar : Nat → Nat → Int32} {sl : Value} {tf : Nat → Option Nat} {T : Nat} {nd sh : Int32} {w y : Nat} {WA WB WR : Nat → Int32} {Y F : Nat → Option Nat} {PY mY LY : Nat → Nat} {SY OY AY : Nat → Nat → Int32} {P m L : Nat} {S O A : Nat → Int32} (hy : y ≤ 10) (hm : m ≤ 120) (hD : TK al (n) (g0) T nd sh (w) (y) (WA) (WB) (WR) (Y) (F)) (hP : PG al n g0 P m L S O A (bD m S)) (hY : YP al n g0 y Y PY mY LY SY OY AY) {l : Int32} (hPT : P < T ∨ T + 6 ≤ P) (hQ : ∀ g2 y2 Y2, ((wyH mY SY m S y 0 = true ∨ y = 10) → y2 = y ∧ Y2 = Y) → (¬ (wyH mY SY m S y 0 = true ∨ y = 10) → y2 = y + 1 ∧ Y2 = va_up Y y (some (al P))) → TK al (n) (g2) T nd sh (w) (y2) (WA) (WB) (WR) (Y2) (F) → (∀ k, (k < T ∨ T + 6 ≤ k) → g2 k = g0 k) → kq Q (.inl none) al (n) (g2) (sc) (ar) (sl) (tf)) : pk fx (px_body pm_X8_keepPass) (d + 4) Q al (n) (g0) (sc) (ar) (sl) (tf) 16 [.ref (al T), .int l, .ref (al P)] [] 0 0 := by
  have hD9 := hD
  obtain ⟨p1, p2, ⟨f, q0, q1, q2, q3, q4, q5, q6, q7, q8, q9⟩, r1, r2, r3, r4, r5⟩ := hD
  obtain ⟨u1, u2, ⟨f2, u3, _⟩, _⟩ := id hP
  refine pk_aload_n dX8_keepPass_16 rfl rfl ?_
  refine pk_dget (j := T) dX8_keepPass_17 fk_X8_40 p1 (by omega) q0 q9 ?_
  refine pk_bipush dX8_keepPass_20 (show (Int8.ofInt (10)).toInt32 = (10) by decide) ?_
  refine pk_icmp_ge (tgt := 53) dX8_keepPass_22 (by decide) (fun c22 => ?_) (fun c22 => ?_)
  ·
    have c229 := Int32.not_lt.mpr c22
    refine pk_vret dX8_keepPass_53 rfl (Nat.le_of_ble_eq_true rfl) (Nat.le_of_ble_eq_true rfl) ?_
    exact hQ _ y Y (fun _ => ⟨rfl, rfl⟩) (fun z => absurd (Or.inr (by
      by_cases z : y < 10
      · exact absurd c22 (nI_ge (b := 10) z (by decide))
      · omega)) z) hD9 (fun _ _ => rfl)
  ·
    have c229 := Int32.not_le.mp c22
    refine pk_aload_n dX8_keepPass_25 rfl rfl ?_
    refine pk_aload_n dX8_keepPass_26 rfl rfl ?_
    refine pk_callD (As := fun al => [.ref (al P)]) dX8_keepPass_27 cl_X8_43 p1 (by omega) q0 (dp_hasWay d (T := T) (P := P) hy hm) (fun g hF => ⟨hD9.fr (Nat.le_refl _) (fun _ _ => rfl) (fun k h1 h2 => hF k (by omega)), hP.fr hF, fun i hi => ⟨(hY i hi).1, (hY i hi).2.1, (hY i hi).2.2.fr hF⟩⟩) rfl rfl (Nat.le_of_ble_eq_true rfl) ⟨rfl, rfl⟩ (Nat.le_of_ble_eq_true rfl) (Nat.le_of_ble_eq_true rfl) ?_
    cases hc : wyH mY SY m S y 0
    ·
      refine pk_if_ne (tgt := 53) dX8_keepPass_30 (by decide) (fun c30 => absurd c30 (by decide)) (fun _ => ?_)
      refine pk_aload_n dX8_keepPass_33 rfl rfl ?_
      refine pk_dget (j := T) dX8_keepPass_34 fk_X8_23 p1 (by omega) q0 q6 ?_
      refine pk_aload_n dX8_keepPass_37 rfl rfl ?_
      refine pk_dget (j := T) dX8_keepPass_38 fk_X8_40 p1 (by omega) q0 q9 ?_
      refine pk_aload_n dX8_keepPass_41 rfl rfl ?_
      have hy2 : y < 10 := by
        by_cases z : y < 10
        · exact z
        · exact absurd (show (10 : Int32) ≤ nI y by rw [show y = 10 by omega]; decide) c22
      refine pk_daast (j := y) dX8_keepPass_42 (by omega) (by omega) u1 (by omega) (Or.inr (Or.inl ⟨rfl, rfl⟩)) r4 u3 rfl hy2 (by decide) ?_
      refine pk_aload_n dX8_keepPass_43 rfl rfl ?_
      refine pk_dup dX8_keepPass_44 rfl ?_
      refine pk_dget (j := T) dX8_keepPass_45 fk_X8_40 p1 (by omega) ((va_up_ne _ _ (by omega)).trans q0) q9 ?_
      refine pk_iconst dX8_keepPass_48 (show Int32.ofInt (1) = (1) by decide) ?_
      refine pk_iadd dX8_keepPass_49 ?_
      rw [nI_1]
      refine pk_dput (j := T) dX8_keepPass_50 fk_X8_40 p1 (by omega) ((va_up_ne _ _ (by omega)).trans q0) ⟨_, _, _, rfl, rfl⟩ rfl rfl ?_
      refine pk_vret dX8_keepPass_53 rfl (Nat.le_of_ble_eq_true rfl) (Nat.le_of_ble_eq_true rfl) ?_
      refine hQ _ (y + 1) _ (fun z => z.elim (fun z => by rw [hc] at z; cases z) (fun z => by omega)) (fun _ => ⟨rfl, rfl⟩) ⟨p1, p2, ⟨_, va_up_self _ _ _, q1, q2, q3, q4, q5, q6, q7, q8, rfl⟩, ?_, ?_, ?_, ?_, ?_⟩ (fun k hk => ?_)
      · simp (disch := omega) only [va_up_self, va_up_ne]; exact r1
      · simp (disch := omega) only [va_up_self, va_up_ne]; exact r2
      · simp (disch := omega) only [va_up_self, va_up_ne]; exact r3
      · simp (disch := omega) only [va_up_self, va_up_ne]
      · simp (disch := omega) only [va_up_self, va_up_ne]; exact r5
      · simp (disch := omega) only [va_up_self, va_up_ne]
    ·
      refine pk_if_ne (tgt := 53) dX8_keepPass_30 (by decide) (fun _ => ?_) (fun c30 => absurd c30 (by decide))
      refine pk_vret dX8_keepPass_53 rfl (Nat.le_of_ble_eq_true rfl) (Nat.le_of_ble_eq_true rfl) ?_
      exact hQ _ y Y (fun _ => ⟨rfl, rfl⟩) (fun z => absurd (Or.inl hc) z) hD9 (fun _ _ => rfl)
set_option maxHeartbeats 4000000 in
set_option maxRecDepth 20000 in
theorem kp_keepPass {fx : px_F} {d : Nat} {Q : px_Q} {al : Nat → Nat} {n : Nat} {g0 : Nat → px_O} {sc ar : Nat → Nat → Int32} {sl : Value} {tf : Nat → Option Nat} {T : Nat} {nd sh : Int32} {w y : Nat} {WA WB WR : Nat → Int32} {Y F : Nat → Option Nat} {PY mY LY : Nat → Nat} {SY OY AY : Nat → Nat → Int32} {P m L : Nat} {S O A : Nat → Int32} (hy : y ≤ 10) (hm : m ≤ 120) (hD : TK al (n) (g0) T nd sh (w) (y) (WA) (WB) (WR) (Y) (F)) (hP : PG al n g0 P m L S O A (bD m S)) (hY : YP al n g0 y Y PY mY LY SY OY AY) {l : Nat} (hl : l < 8) (hPT : P < T ∨ T + 6 ≤ P) (hPT2 : ∀ k, P ≤ k → k < P + 4 → k ≠ T + 5) (hYT : ∀ i, i < y → ∀ k, PY i ≤ k → k < PY i + 4 → k ≠ T + 5) (hQ : ∀ g2 y2 Y2 F2, ((wyH mY SY m S y 0 = true ∨ y = 10) → y2 = y ∧ Y2 = Y) → (¬ (wyH mY SY m S y 0 = true ∨ y = 10) → y2 = y + 1 ∧ Y2 = va_up Y y (some (al P))) → F2 = (if F l = none then va_up F l (some (al P)) else F) → TK al (n) (g2) T nd sh (w) (y2) (WA) (WB) (WR) (Y2) (F2) → (∀ k, (k < T ∨ T + 6 ≤ k) → g2 k = g0 k) → kq Q (.inl none) al (n) (g2) (sc) (ar) (sl) (tf)) : kp fx (d + 5) 59 [.ref (al T), .int (nI l), .ref (al P)] Q al n (g0) (sc) (ar) (sl) (tf) := by
  refine kp.of pm_X8_keepPass rfl rfl (Nat.le_of_ble_eq_true rfl) ?_
  show pk fx (px_body pm_X8_keepPass) (d + 4) Q al (n) (g0) (sc) (ar) (sl) (tf) 0 [.ref (al T), .int (nI l), .ref (al P)] [] 0 0
  have hD9 := hD
  obtain ⟨p1, p2, ⟨f, q0, q1, q2, q3, q4, q5, q6, q7, q8, q9⟩, r1, r2, r3, r4, r5⟩ := hD
  obtain ⟨u1, u2, ⟨f2, u3, _⟩, _⟩ := id hP
  refine pk_aload_n dX8_keepPass_0 rfl rfl ?_
  refine pk_dget (j := T) dX8_keepPass_1 fk_X8_27 p1 (by omega) q0 q7 ?_
  refine pk_iload_n dX8_keepPass_4 rfl ?_
  refine pk_daald (j := l) dX8_keepPass_5 (by omega) (by omega) (by decide) (by decide) r5 rfl hl (by decide) ?_
  refine pk_ifnonnull (tgt := 16) dX8_keepPass_6 (by decide) (rf_R _) (fun a6 c6 => ?_) (fun c6 => ?_)
  ·
    refine kl_keep2 (F := F) hy hm hD9 hP hY hPT (fun g2 y2 Y2 e1 e2 h1 h2 => hQ g2 y2 Y2 _ e1 e2 (by rw [rf_1 c6, if_neg (by intro z; cases z)]) h1 h2)
  ·
    refine pk_aload_n dX8_keepPass_9 rfl rfl ?_
    refine pk_dget (j := T) dX8_keepPass_10 fk_X8_27 p1 (by omega) q0 q7 ?_
    refine pk_iload_n dX8_keepPass_13 rfl ?_
    refine pk_aload_n dX8_keepPass_14 rfl rfl ?_
    refine pk_daast (j := l) dX8_keepPass_15 (by omega) (by omega) u1 (by omega) (Or.inr (Or.inl ⟨rfl, rfl⟩)) r5 u3 rfl hl (by decide) ?_
    refine kl_keep2 (F := va_up F l (some (al P))) hy hm hD9.F (hP.fr2 (Nat.le_refl _) (fun _ _ => rfl) (fun k h1 h2 => va_up_ne _ _ (hPT2 k h1 h2))) (fun i hi => ⟨(hY i hi).1, (hY i hi).2.1, (hY i hi).2.2.fr2 (Nat.le_refl _) (fun _ _ => rfl) (fun k h1 h2 => va_up_ne _ _ (hYT i hi k h1 h2))⟩) hPT (fun g2 y2 Y2 e1 e2 h1 h2 => hQ g2 y2 Y2 _ e1 e2 (by rw [if_pos (rf_0 c6)]) h1 (fun k hk => (h2 k hk).trans (va_up_ne _ _ (by omega))))
set_option maxHeartbeats 4000000 in
set_option maxRecDepth 20000 in
theorem kp_taskInit {fx : px_F} {d : Nat} {Q : px_Q} {al : Nat → Nat} {n : Nat} {g0 : Nat → px_O} {sc ar : Nat → Nat → Int32} {sl : Value} {tf : Nat → Option Nat} {T : Nat} (p1 : 36 ≤ T) (hn : T + 1 = n) (gT : g0 T = .inr (8, fun k => defaultValue (px_ty 8 k))) (nd sh : Int32) (hQ : ∀ (al2 : Nat → Nat) (g2 : Nat → px_O), (∀ j, j < n → al2 j = al j) → TK al2 (n + 5) g2 T nd sh 0 0 (fun _ => 0) (fun _ => 0) (fun _ => 0) (fun _ => none) (fun _ => none) → (∀ k, k < T → g2 k = g0 k) → kq Q (.inl none) al2 (n + 5) (g2) (sc) (ar) (sl) (tf)) : kp fx (d + 1) 54 [.ref (al T), .int nd, .int sh] Q al n (g0) (sc) (ar) (sl) (tf) := by
  refine kp.of pm_X8_init rfl rfl (Nat.le_of_ble_eq_true rfl) ?_
  show pk fx (px_body pm_X8_init) (d) Q al (n) (g0) (sc) (ar) (sl) (tf) 0 [.ref (al T), .int nd, .int sh] [] 0 0
  refine pk_aload_n dX8_init_0 rfl rfl ?_
  refine pk_objInit dX8_init_1 oi_X8 (Nat.le_of_ble_eq_true rfl) ?_
  refine pk_aload_n dX8_init_4 rfl rfl ?_
  refine pk_bipush dX8_init_5 (show (Int8.ofInt (6)).toInt32 = (6) by decide) ?_
  refine pk_newi (N := 6) dX8_init_7 rfl (by decide) (Nat.le_of_ble_eq_true rfl) (Nat.le_of_ble_eq_true rfl) (fun a1 ha1 => ?_)
  rw [← ha1 T (by omega)]
  refine pk_putF (j := T) dX8_init_9 fk_X8_9 ⟨_, _, _, rfl, rfl⟩ rfl rfl p1 (by omega) ((va_up_ne _ _ (by omega)).trans gT) rfl rfl ?_
  refine pk_aload_n dX8_init_12 rfl rfl ?_
  refine pk_bipush dX8_init_13 (show (Int8.ofInt (6)).toInt32 = (6) by decide) ?_
  refine pk_newi (N := 6) dX8_init_15 rfl (by decide) (Nat.le_of_ble_eq_true rfl) (Nat.le_of_ble_eq_true rfl) (fun a2 ha2 => ?_)
  rw [← ha2 T (by omega)]
  refine pk_putF (j := T) dX8_init_17 fk_X8_15 ⟨_, _, _, rfl, rfl⟩ rfl rfl p1 (by omega) ((va_up_ne _ _ (by omega)).trans (va_up_self _ _ _)) rfl rfl ?_
  refine pk_aload_n dX8_init_20 rfl rfl ?_
  refine pk_bipush dX8_init_21 (show (Int8.ofInt (6)).toInt32 = (6) by decide) ?_
  refine pk_newi (N := 6) dX8_init_23 rfl (by decide) (Nat.le_of_ble_eq_true rfl) (Nat.le_of_ble_eq_true rfl) (fun a3 ha3 => ?_)
  rw [← ha3 T (by omega)]
  refine pk_putF (j := T) dX8_init_25 fk_X8_18 ⟨_, _, _, rfl, rfl⟩ rfl rfl p1 (by omega) ((va_up_ne _ _ (by omega)).trans (va_up_self _ _ _)) rfl rfl ?_
  refine pk_aload_n dX8_init_28 rfl rfl ?_
  refine pk_bipush dX8_init_29 (show (Int8.ofInt (10)).toInt32 = (10) by decide) ?_
  refine pk_newq (N := 10) (t := 5) dX8_init_31 (Or.inr (Or.inl ⟨rfl, rfl⟩)) ck_X8_21 rfl (by decide) (Nat.le_of_ble_eq_true rfl) (Nat.le_of_ble_eq_true rfl) (fun a4 ha4 => ?_)
  rw [← ha4 T (by omega)]
  refine pk_putF (j := T) dX8_init_34 fk_X8_23 ⟨_, _, _, rfl, rfl⟩ rfl rfl p1 (by omega) ((va_up_ne _ _ (by omega)).trans (va_up_self _ _ _)) rfl rfl ?_
  refine pk_aload_n dX8_init_37 rfl rfl ?_
  refine pk_bipush dX8_init_38 (show (Int8.ofInt (8)).toInt32 = (8) by decide) ?_
  refine pk_newq (N := 8) (t := 5) dX8_init_40 (Or.inr (Or.inl ⟨rfl, rfl⟩)) ck_X8_21 rfl (by decide) (Nat.le_of_ble_eq_true rfl) (Nat.le_of_ble_eq_true rfl) (fun a5 ha5 => ?_)
  rw [← ha5 T (by omega)]
  refine pk_putF (j := T) dX8_init_43 fk_X8_27 ⟨_, _, _, rfl, rfl⟩ rfl rfl p1 (by omega) ((va_up_ne _ _ (by omega)).trans (va_up_self _ _ _)) rfl rfl ?_
  refine pk_aload_n dX8_init_46 rfl rfl ?_
  refine pk_iload_n dX8_init_47 rfl ?_
  refine pk_putF (j := T) dX8_init_48 fk_X8_30 ⟨_, _, _, rfl, rfl⟩ rfl rfl p1 (by omega) (va_up_self _ _ _) rfl rfl ?_
  refine pk_aload_n dX8_init_51 rfl rfl ?_
  refine pk_iload_n dX8_init_52 rfl ?_
  refine pk_putF (j := T) dX8_init_53 fk_X8_34 ⟨_, _, _, rfl, rfl⟩ rfl rfl p1 (by omega) (va_up_self _ _ _) rfl rfl ?_
  refine pk_vret dX8_init_56 rfl (Nat.le_of_ble_eq_true rfl) (Nat.le_of_ble_eq_true rfl) ?_
  have e1 : a5 (T + 1) = a1 n := by rw [hn, ha5 n (by omega), ha4 n (by omega), ha3 n (by omega), ha2 n (by omega)]
  have e2 : a5 (T + 2) = a2 (n + 1) := by rw [show T + 2 = n + 1 by omega, ha5 (n + 1) (by omega), ha4 (n + 1) (by omega), ha3 (n + 1) (by omega)]
  have e3 : a5 (T + 3) = a3 (n + 1 + 1) := by rw [show T + 3 = n + 1 + 1 by omega, ha5 (n + 1 + 1) (by omega), ha4 (n + 1 + 1) (by omega)]
  have e4 : a5 (T + 4) = a4 (n + 1 + 1 + 1) := by rw [show T + 4 = n + 1 + 1 + 1 by omega, ha5 (n + 1 + 1 + 1) (by omega)]
  have e5 : a5 (T + 5) = a5 (n + 1 + 1 + 1 + 1) := by rw [show T + 5 = n + 1 + 1 + 1 + 1 by omega]
  refine hQ a5 _ (fun j hj => by rw [ha5 j (by omega), ha4 j (by omega), ha3 j (by omega), ha2 j (by omega), ha1 j (by omega)]) ⟨p1, by omega, ⟨_, va_up_self _ _ _, rfl, rfl, ?_, ?_, ?_, ?_, ?_, rfl, rfl⟩, ?_, ?_, ?_, ?_, ?_⟩ (fun k hk => ?_)
  · rw [e1]; rfl
  · rw [e2]; rfl
  · rw [e3]; rfl
  · rw [e4]; rfl
  · rw [e5]; rfl
  · rw [show T + 1 = n by omega]; simp (disch := omega) only [va_up_self, va_up_ne]
  · rw [show T + 2 = n + 1 by omega]; simp (disch := omega) only [va_up_self, va_up_ne]
  · rw [show T + 3 = n + 1 + 1 by omega]; simp (disch := omega) only [va_up_self, va_up_ne]
  · rw [show T + 4 = n + 1 + 1 + 1 by omega]; simp (disch := omega) only [va_up_self, va_up_ne]
  · rw [show T + 5 = n + 1 + 1 + 1 + 1 by omega]; simp (disch := omega) only [va_up_self, va_up_ne]
  · simp (disch := omega) only [va_up_self, va_up_ne]
