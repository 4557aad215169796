theorem fcd_cg {S S2 : Nat → Int32} {f f2 N : Nat} (h : ∀ k, k < N → S (f + k) = S2 (f2 + k)) : ∀ m k, k + m ≤ N → fcd S f m k = fcd S2 f2 m k
  | 0, _, _ => rfl
  | m + 1, k, hk => by rw [fcd, fcd, h k (by omega), fcd_cg h m (k + 1) (by omega)]
theorem shp_cg {S S2 : Nat → Int32} {f f2 N : Nat} (h : ∀ k, k < N → S (f + k) = S2 (f2 + k)) {i : Nat} (hi : i < N) : shp S f N i = shp S2 f2 N i := by
  unfold shp
  rw [fcd_cg h N 0 (by omega), h i hi]
theorem shA_cg {S S2 U U2 : Nat → Int32} {f f2 e e2 N : Nat} (h : ∀ k, k < N → S (f + k) = S2 (f2 + k)) (h2 : ∀ k, k < N → U (e + k) = U2 (e2 + k)) : ∀ m k, k + m ≤ N → shA S f U e N m k = shA S2 f2 U2 e2 N m k
  | 0, _, _ => rfl
  | m + 1, k, hk => by rw [shA, shA, shp_cg h (show k < N by omega), shp_cg h2 (show k < N by omega), shA_cg h h2 m (k + 1) (by omega)]
theorem kAny_wyH {wM W U S : Nat → Int32} {t m y : Nat} {mY : Nat → Nat} {SY : Nat → Nat → Int32} (hm : m ≤ 120) (hM : ∀ i, i < y → wM (10 * t + i) = nI (mY i) ∧ mY i ≤ 120) (hW : ∀ i, i < y → ∀ k, k < mY i → W (120 * (10 * t + i) + k) = SY i k) (hU : ∀ k, k < m → U k = S k) : ∀ j i, i + j ≤ y → kAny wM W U t m j i = wyH mY SY m S j i
  | 0, _, _ => rfl
  | j + 1, i, hi => by
    rw [kAny, wyH, kAny_wyH hm hM hW hU j (i + 1) (by omega), (hM i (by omega)).1]
    have hi1 := (hM i (by omega)).2
    by_cases c : mY i = m
    · rw [decide_eq_true (show nI (mY i) = nI m by rw [c]), decide_eq_true c, c, shA_cg (S2 := SY i) (f2 := 0) (U2 := S) (e2 := 0) (fun k hk => by rw [Nat.zero_add]; exact hW i (by omega) k (by omega)) (fun k hk => by rw [Nat.zero_add]; exact hU k hk) m 0 (by omega)]
    · rw [decide_eq_false (fun z => c ((nI_eq (by omega) (by omega)).mp z)), decide_eq_false c, Bool.false_and, Bool.false_and]
theorem atL_cg {m : Nat} {S S2 A A2 B B2 R R2 : Nat → Int32} {w : Nat} (hS : ∀ k, k < m → S k = S2 k) (h : ∀ i, i < w → A i = A2 i ∧ B i = B2 i ∧ R i = R2 i) : ∀ j i all, i + j ≤ w → atL m S A B R j i all = atL m S2 A2 B2 R2 j i all
  | 0, _, _, _ => rfl
  | j + 1, i, all, hi => by
    obtain ⟨h1, h2, h3⟩ := h i (by omega)
    rw [atL, atL, h1, h2, h3, runC_cg hS, atL_cg hS h j (i + 1) _ (by omega)]
theorem cnS_nat {f : Nat → Int32} {l : Nat} {all : Int32} {q : Nat} (hl : l < 8) (hq : q ≤ 16) (h : ∀ j, j < 64 → ∃ c, c ≤ 64 ∧ f j = nI c) : ∀ k, k ≤ 8 → ∀ j, j < 64 → ∃ c, c ≤ 64 ∧ cnS f l all (nI q) k j = nI c
  | 0, _ => h
  | k + 1, hk => fun j hj => by
    have ih := cnS_nat (all := all) hl hq h k (by omega)
    rw [cnS]
    by_cases z : (all >>> (nI k &&& 31)) &&& 1 = 1
    · rw [if_pos z]
      by_cases e : j = 8 * l + k
      · subst e
        rw [pk_us]
        obtain ⟨c, hc, ec⟩ := ih (8 * l + k) hj
        rw [ec, nI_add]
        by_cases z2 : nI (c + q) < 64
        · rw [if_pos z2]
          refine ⟨c + q, ?_, rfl⟩
          by_cases z3 : c + q ≤ 64
          · exact z3
          · exact absurd z2 (nI_nlt (b := 64) (by omega) (by omega))
        · rw [if_neg z2]; exact ⟨64, Nat.le_refl _, rfl⟩
      · rw [pk_un e]; exact ih j hj
    · rw [if_neg z]; exact ih j hj
theorem kpR_1 {ar : Nat → Nat → Int32} {t m W a : Nat} (h1 : a ≠ 13) (h2 : a ≠ 14) (h3 : a ≠ 15) : kpR ar t m W a = ar a := by
  unfold kpR
  split
  · rfl
  · unfold kpA
    rw [va_up_ne _ _ h1, va_up_ne _ _ h3, va_up_ne _ _ h2]
theorem kpR_2 {ar : Nat → Nat → Int32} {t m W : Nat} (h : kAny (ar 14) (ar 15) (ar 3) t m W 0 = true ∨ W = 10) : kpR ar t m W = ar := if_pos h
theorem kpR_3 {ar : Nat → Nat → Int32} {t m W : Nat} (h : ¬ (kAny (ar 14) (ar 15) (ar 3) t m W 0 = true ∨ W = 10)) : kpR ar t m W 13 = upd (ar 13) t (nI (W + 1)) ∧ kpR ar t m W 14 = upd (ar 14) (10 * t + W) (nI m) ∧ kpR ar t m W 15 = wyS (ar 15) (ar 3) (120 * (10 * t + W)) m := by
  unfold kpR
  rw [if_neg h]
  unfold kpA
  exact ⟨rfl, rfl, rfl⟩
theorem psR_1 {ar : Nat → Nat → Int32} {t l m : Nat} {all b : Int32} {a : Nat} (h1 : a ≠ 16) (h2 : a ≠ 17) (h3 : a ≠ 18) : psR ar t l m all b a = ar a := by
  unfold psR
  split
  · rfl
  · rw [va_up_ne _ _ h3, va_up_ne _ _ h2, va_up_ne _ _ h1]
theorem psR_2 {ar : Nat → Nat → Int32} {t l m : Nat} {all b : Int32} (h : 0 < ar 16 (10 * l + t)) : psR ar t l m all b = ar := if_pos h
theorem psR_3 {ar : Nat → Nat → Int32} {t l m : Nat} {all b : Int32} (h : ¬ 0 < ar 16 (10 * l + t)) : psR ar t l m all b 16 = upd (ar 16) (10 * l + t) (nI m) ∧ psR ar t l m all b 17 = wyS (ar 17) (fun i => shp (ar 3) 0 m i) (120 * (10 * l + t)) m ∧ psR ar t l m all b 18 = cnS (ar 18) l all b 8 := by
  unfold psR
  rw [if_neg h]
  exact ⟨rfl, rfl, rfl⟩
theorem wyS_in {W S : Nat → Int32} {b m k : Nat} (h : k < m) : wyS W S b m (b + k) = S k := by
  unfold wyS
  rw [if_pos (by omega), Nat.add_sub_cancel_left]
theorem wyS_out {W S : Nat → Int32} {b m j : Nat} (h : j < b ∨ b + m ≤ j) : wyS W S b m j = W j := by
  unfold wyS
  rw [if_neg (by omega)]
set_option maxHeartbeats 4000000 in
set_option maxRecDepth 20000 in
theorem op_attempt {fx : px_F} {al : Nat → Nat} {n : Nat} {g : Nat → px_O} {c0 : Int32} (h : REL al n g c0) (t l hd : Int32) : pm px_tb fx 1733 69 (.ref (al 0) :: [.int t, .int l, .int hd]) al n g (QJ fx al n g 135 [.int t, .int l, .int hd] (fun E => if E = "java/lang/IndexOutOfBoundsException" then 1 else if E = "java/lang/IllegalStateException" then 2 else 0)) := by
  obtain ⟨sc, ar, sl, tf, rsc, rar, TT, Tc, fz, h, _⟩ := h
  obtain ⟨hCR, hRR, hn, ho, ⟨B, e, b1, b2, b3⟩, ⟨n1, n2, n3, n4, n5, n6, n7⟩, hLX, hS, hT, hDj, hZ⟩ := id h
  rcases idx_case (N := TT) (by omega) t with ⟨t, ht, rfl⟩ | ⟨z1, z2⟩
  · rcases in8 l with ⟨l, hl, rfl⟩ | ⟨z1, z2⟩
    · rcases hS with ⟨rfl, s2⟩ | ⟨P, m, S, rfl, s2, s3, s4⟩
      · refine op_go (d := 2) h (by decide) (kp_attempt_bad3 (d := 0) n5 n7 ht (hT t ht).1 hl hd ?_)
        exact op_c h 0 (Or.inr ⟨_, rfl, rfl, by decide⟩) (d := 1733) (by decide) (rc_attempt_bad3 rsc rar hd n6 n7 ht hl s2) (fun z => absurd z (by decide)) (u00 rsc 2) rfl
      · obtain ⟨hP59, hm0, hPfz, L, O, A, hP, hO⟩ := id s2
        have hm1 := hO.1
        obtain ⟨x1, x2, x3, x4, w, y, WA, WB, WR, Y, F, PY, mY, SY, PF, mF, SF, hK, hw, hy, hF⟩ := id (hT t ht).2
        have ht10 : t < 10 := by omega
        by_cases hw0 : w = 0
        · refine op_go (d := 8) h (by decide) (kp_attempt_none (d := 0) n5 n7 ht hK hP hO hw.1 (hT t ht).1 hl hw0 ?_)
          exact op_c h (-1) (Or.inl ⟨rfl, rfl⟩) (d := 1733) (by decide) (rc_attempt_none rsc rar hd n6 n7 ht hl s3 hm0 (by rw [hw.2.1, hw0]; rfl)) (fun _ => rfl) (u0 rsc) rfl
        · obtain ⟨LY, OY, AY, hY⟩ := YP.of hy.2.2
          have hRP := rp_attempt_ok rsc rar hd n6 n7 ht hl s3 hm0 hw.1 hw.2.1 (by omega) hy.1 hy.2.1
          have hat : atL m (rar 3) (wA (rar 12) t 0) (wA (rar 12) t 1) (wA (rar 12) t 2) w 0 0 = atL m S WA WB WR w 0 0 := atL_cg s4 (fun i hi => hw.2.2 i hi) w 0 0 (by omega)
          rw [hat] at hRP
          have hnb : ∀ P9, (∀ k, P9 ≤ k → k < P9 + 4 → fz k = true) → ∀ k, P9 ≤ k → k < P9 + 4 → (k < Tc t ∨ Tc t + 6 ≤ k) := fun P9 z k k1 k2 => by
            by_cases c : k < Tc t ∨ Tc t + 6 ≤ k
            · exact c
            · have := z k k1 k2
              rw [x2 k (by omega) (by omega)] at this; cases this
          refine op_go (d := 8) h (by decide) (kp_attempt_ok (d := 0) n5 n7 ht hK hP hO hw.1 (hT t ht).1 hl (by omega) hy.1 hY (hnb P hPfz P (by omega) (by omega)) (fun k k1 k2 => by have := hnb P hPfz k k1 k2; omega) (fun i hi k k1 k2 => by have := hnb (PY i) (hy.2.2 i hi).2.1.2.2.1 k k1 k2; omega) (fun x sc2 ar2 hx hM => ?_) (fun all sc1 ar1 g2 y2 Y2 F2 hx hM c1 c2 c3 hK2 hg2 => ?_))
          · refine op_v h _ (Or.inl ⟨rfl, rfl⟩) (d := 1733) (by decide) hRP (fun l hl => hM.2 _ (by omega) (by omega)) (fun res rsc2 rar2 hp => ?_)
            rcases hp with ⟨w9, e1, rfl, a1, t1, s1, o1, h1, V, rfl, rfl⟩ | ⟨e1, _⟩
            · rw [hx] at e1
              cases e1
              refine ⟨⟨_, rfl, fun _ => rfl⟩, rfl, BX.mf ⟨B, e, b1, b2, b3⟩ (hM.1 1 1 (by decide)) (hM.2 2 (by decide) (by decide)) rfl rfl, ⟨?_, ?_, ?_, ?_, ?_, n6, n7⟩, fun a z1 z2 => va_up_ne _ _ (by omega), rfl, rfl, rfl, rfl⟩
              · rw [hM.1 0 8 (by decide)]; exact n1
              · rw [hM.1 0 10 (by decide)]; exact n2
              · rw [hM.1 0 11 (by decide)]; show sc 0 11 + 1 = rsc 31 + 1; rw [n3]
              · rw [hM.1 0 12 (by decide)]; exact n4
              · rw [hM.1 0 9 (by decide)]; exact n5
            · rw [hx] at e1; cases e1
          · refine op_t h ht 0 hg2 (d := 1733) (by decide) hRP (fun res rsc2 rar2 hp => ?_)
            rcases hp with ⟨w9, e1, _⟩ | ⟨_, rfl, a1, t1, s1, o1, h1, V, rfl, hr2⟩
            · rw [hx] at e1; cases e1
            · rw [hx] at hr2
              replace hr2 : rar2 = psR (kpR (va_up rar 8 V) t m y) t l m all (if hd = 0 then 16 else 4) := hr2
              have hMY : ∀ i, i < y → rar 14 (10 * t + i) = nI (mY i) ∧ mY i ≤ 120 := fun i hi => ⟨(hy.2.2 i hi).2.2.1, (hY i hi).2.1⟩
              have hany : kAny (rar 14) (rar 15) (rar 3) t m y 0 = wyH mY SY m S y 0 := kAny_wyH hm1 hMY (fun i hi => (hy.2.2 i hi).2.2.2) s4 y 0 (by omega)
              have hby : ∃ q, q ≤ 16 ∧ (if hd = 0 then (16 : Int32) else 4) = nI q := by
                by_cases z : hd = 0
                · rw [if_pos z]; exact ⟨16, by decide, rfl⟩
                · rw [if_neg z]; exact ⟨4, by decide, rfl⟩
              -- the rows behind keeping
              have K1 : ∀ a, a ≠ 8 → a ≠ 13 → a ≠ 14 → a ≠ 15 → kpR (va_up rar 8 V) t m y a = rar a := fun a z0 z1 z2 z3 => by rw [kpR_1 z1 z2 z3, va_up_ne _ _ z0]
              have K2 : (wyH mY SY m S y 0 = true ∨ y = 10) → ∀ a, a ≠ 8 → kpR (va_up rar 8 V) t m y a = rar a := fun z a z0 => by
                rw [kpR_2 (by rw [← hany] at z; exact z), va_up_ne _ _ z0]
              have K3 : ¬ (wyH mY SY m S y 0 = true ∨ y = 10) → kpR (va_up rar 8 V) t m y 13 = upd (rar 13) t (nI (y + 1)) ∧ kpR (va_up rar 8 V) t m y 14 = upd (rar 14) (10 * t + y) (nI m) ∧ kpR (va_up rar 8 V) t m y 15 = wyS (rar 15) (rar 3) (120 * (10 * t + y)) m := fun z => kpR_3 (ar := va_up rar 8 V) (by rw [← hany] at z; exact z)
              have hfp : (F l).isSome = decide (0 < rar 16 (10 * l + t)) := (hF l hl).is
              have h16 : kpR (va_up rar 8 V) t m y 16 = rar 16 := K1 16 (by decide) (by decide) (by decide) (by decide)
              -- and behind the pass
              have P1 : ∀ a, a ≠ 16 → a ≠ 17 → a ≠ 18 → rar2 a = kpR (va_up rar 8 V) t m y a := fun a z1 z2 z3 => by rw [hr2, psR_1 z1 z2 z3]
              have P2 : ¬ F l = none → ∀ a, rar2 a = kpR (va_up rar 8 V) t m y a := fun z a => by
                rw [hr2, psR_2]
                rw [h16]
                cases hz : F l with
                | none => exact absurd hz z
                | some v =>
                  rw [hz] at hfp
                  exact of_decide_eq_true hfp.symm
              have P3 : F l = none → rar2 16 = upd (rar 16) (10 * l + t) (nI m) ∧ rar2 17 = wyS (rar 17) (fun i => shp (rar 3) 0 m i) (120 * (10 * l + t)) m ∧ rar2 18 = cnS (rar 18) l all (if hd = 0 then 16 else 4) 8 := fun z => by
                have q : ¬ 0 < kpR (va_up rar 8 V) t m y 16 (10 * l + t) := by
                  rw [h16]
                  rw [z] at hfp
                  exact of_decide_eq_false hfp.symm
                have := psR_3 (ar := kpR (va_up rar 8 V) t m y) (l := l) (m := m) (all := all) (b := if hd = 0 then 16 else 4) q
                rw [← hr2, h16, K1 17 (by decide) (by decide) (by decide) (by decide), K1 3 (by decide) (by decide) (by decide) (by decide), K1 18 (by decide) (by decide) (by decide) (by decide)] at this
                exact this
              have Q9 : ∀ a, 9 ≤ a → a ≤ 12 → rar2 a = rar a := fun a z1 z2 => by rw [P1 a (by omega) (by omega) (by omega), K1 a (by omega) (by omega) (by omega) (by omega)]
              have Q3 : ∀ a, a < 8 → rar2 a = rar a := fun a z1 => by rw [P1 a (by omega) (by omega) (by omega), K1 a (by omega) (by omega) (by omega) (by omega)]
              have Q16 : ¬ F l = none → rar2 16 = rar 16 ∧ rar2 17 = rar 17 ∧ rar2 18 = rar 18 := fun z => by
                rw [P2 z, P2 z, P2 z]
                exact ⟨K1 16 (by decide) (by decide) (by decide) (by decide), K1 17 (by decide) (by decide) (by decide) (by decide), K1 18 (by decide) (by decide) (by decide) (by decide)⟩
              have Q13 : (wyH mY SY m S y 0 = true ∨ y = 10) → rar2 13 = rar 13 ∧ rar2 14 = rar 14 ∧ rar2 15 = rar 15 := fun z => by
                rw [P1 13 (by decide) (by decide) (by decide), P1 14 (by decide) (by decide) (by decide), P1 15 (by decide) (by decide) (by decide)]
                exact ⟨K2 z 13 (by decide), K2 z 14 (by decide), K2 z 15 (by decide)⟩
              have Q14 : ¬ (wyH mY SY m S y 0 = true ∨ y = 10) → rar2 13 = upd (rar 13) t (nI (y + 1)) ∧ rar2 14 = upd (rar 14) (10 * t + y) (nI m) ∧ rar2 15 = wyS (rar 15) (rar 3) (120 * (10 * t + y)) m := fun z => by
                rw [P1 13 (by decide) (by decide) (by decide), P1 14 (by decide) (by decide) (by decide), P1 15 (by decide) (by decide) (by decide)]
                exact K3 z
              have hy10 := hy.1
              have hfr : ∀ {P9 m9 : Nat} {S9 : Nat → Int32}, PX al n g fz P9 m9 S9 → PX al n g2 fz P9 m9 S9 := fun hp => hp.fr (Nat.le_refl _) (fun _ _ => rfl) (fun k _ _ z2 => hg2 k (by
                by_cases c : k < Tc t ∨ Tc t + 6 ≤ k
                · exact c
                · rw [x2 k (by omega) (by omega)] at z2; cases z2)) (fun _ _ z => z)
              refine ⟨rfl, rfl, BX.mf ⟨B, e, b1, b2, b3⟩ (hM.1 1 1 (by decide)) ?_ rfl (Q3 0 (by decide)), ⟨?_, ?_, ?_, ?_, ?_, n6, n7⟩, ?_, ⟨rfl, Q3 3 (by decide), Q3 4 (by decide), Q3 5 (by decide)⟩, fun t2 z1 z2 => ?_, ?_⟩
              · have e2 : ar1 2 = ar 2 := hM.2 2 (by decide) (by decide)
                by_cases z : F l = none
                · rw [if_pos z, va_up_ne _ _ (by omega)]; exact e2
                · rw [if_neg z]; exact e2
              · show sc1 0 8 = rsc 7
                rw [hM.1 0 8 (by decide)]; exact n1
              · show sc1 0 10 = rsc 17
                rw [hM.1 0 10 (by decide)]; exact n2
              · show sc1 0 11 = rsc 31 + 1
                rw [hM.1 0 11 (by decide), ← n3]; rfl
              · show sc1 0 12 + 1 = rsc 32 + 1
                rw [hM.1 0 12 (by decide), ← n4]; rfl
              · show sc1 0 9 = nI TT
                rw [hM.1 0 9 (by decide)]; exact n5
              · -- what the learners can
                by_cases z : F l = none
                · rw [if_pos z]
                  obtain ⟨_, _, e18⟩ := P3 z
                  refine ⟨fun l2 hl2 k hk => ?_, ?_⟩
                  · rw [e18]
                    by_cases el : l2 = l
                    · subst el
                      rw [va_up_self, hM.2 (21 + 2 * l2) (by omega) (by omega)]
                      exact cnS_cg (hLX.1 l2 hl) 8 (Nat.le_refl _) k hk
                    · rw [va_up_ne _ _ (by omega), hM.2 _ (by omega) (by omega), cnS_fr 8 (Nat.le_refl _) _ (by omega)]
                      exact hLX.1 l2 hl2 k hk
                  · rw [e18]
                    obtain ⟨q, q1, q2⟩ := hby
                    rw [q2]
                    exact cnS_nat hl q1 hLX.2 8 (Nat.le_refl _)
                · rw [if_neg z]
                  obtain ⟨_, _, e18⟩ := Q16 z
                  rw [show LX ar1 rar2 ↔ LX ar1 rar2 from Iff.rfl]
                  refine ⟨fun l2 hl2 k hk => ?_, fun j hj => ?_⟩
                  · rw [e18, hM.2 _ (by omega) (by omega)]; exact hLX.1 l2 hl2 k hk
                  · rw [e18]; exact hLX.2 j hj
              · -- the other tasks
                refine ⟨by rw [Q9 9 (by decide) (by decide)], by rw [Q9 10 (by decide) (by decide)], by rw [Q9 11 (by decide) (by decide)], fun _ _ _ => by rw [Q9 12 (by decide) (by decide)], ?_, fun i hi => ?_, fun i hi k hk => ?_, fun l2 hl2 => ?_, fun l2 hl2 k hk => ?_⟩
                · by_cases z : wyH mY SY m S y 0 = true ∨ y = 10
                  · rw [(Q13 z).1]
                  · rw [(Q14 z).1, pk_un z2]
                · by_cases z : wyH mY SY m S y 0 = true ∨ y = 10
                  · rw [(Q13 z).2.1]
                  · rw [(Q14 z).2.1, pk_un (by omega)]
                · by_cases z : wyH mY SY m S y 0 = true ∨ y = 10
                  · rw [(Q13 z).2.2]
                  · rw [(Q14 z).2.2, wyS_out (by omega)]
                · by_cases z : F l = none
                  · rw [(P3 z).1, pk_un (by omega)]
                  · rw [(Q16 z).1]
                · by_cases z : F l = none
                  · rw [(P3 z).2.1, wyS_out (by omega)]
                  · rw [(Q16 z).2.1]
              · -- this task
                refine ⟨x1, x2, by rw [Q9 9 (by decide) (by decide)]; exact x3, by rw [Q9 10 (by decide) (by decide)]; exact x4, w, y2, WA, WB, WR, Y2, F2, fun i => if i = y then P else PY i, fun i => if i = y then m else mY i, fun i => if i = y then S else SY i, fun i => if i = l ∧ F l = none then P else PF i, fun i => if i = l ∧ F l = none then m else mF i, fun i => if i = l ∧ F l = none then S else SF i, by rw [Q9 9 (by decide) (by decide), Q9 10 (by decide) (by decide)]; exact hK2, ⟨hw.1, by rw [Q9 11 (by decide) (by decide)]; exact hw.2.1, fun i hi => by rw [Q9 12 (by decide) (by decide)]; exact hw.2.2 i hi⟩, ?_, fun l2 hl2 => ?_⟩
                · by_cases z : wyH mY SY m S y 0 = true ∨ y = 10
                  · obtain ⟨rfl, rfl⟩ := c1 z
                    refine ⟨hy.1, by rw [(Q13 z).1]; exact hy.2.1, fun i hi => ?_⟩
                    have ne : ¬ i = y2 := by omega
                    simp only [if_neg ne]
                    obtain ⟨e1, e2, e3, e4⟩ := hy.2.2 i hi
                    exact ⟨e1, hfr e2, by rw [(Q13 z).2.1]; exact e3, fun k hk => by rw [(Q13 z).2.2]; exact e4 k hk⟩
                  · obtain ⟨rfl, rfl⟩ := c2 z
                    have ylt : y < 10 := by
                      by_cases z2 : y = 10
                      · exact absurd (Or.inr z2) z
                      · omega
                    refine ⟨by omega, by rw [(Q14 z).1, pk_us], fun i hi => ?_⟩
                    by_cases ei : i = y
                    · subst ei
                      simp only [if_pos]
                      exact ⟨va_up_self _ _ _, hfr s2, by rw [(Q14 z).2.1, pk_us], fun k hk => by rw [(Q14 z).2.2, wyS_in hk]; exact s4 k hk⟩
                    · simp only [if_neg ei]
                      obtain ⟨e1, e2, e3, e4⟩ := hy.2.2 i (by omega)
                      have := (hMY i (by omega)).2
                      exact ⟨by rw [va_up_ne _ _ ei]; exact e1, hfr e2, by rw [(Q14 z).2.1, pk_un (by omega)]; exact e3, fun k hk => by rw [(Q14 z).2.2, wyS_out (by omega)]; exact e4 k hk⟩
                · by_cases z : F l = none
                  · rw [c3, if_pos z]
                    by_cases el : l2 = l
                    · subst el
                      simp only [z, and_self, if_true]
                      exact Or.inr ⟨va_up_self _ _ _, hfr s2, by rw [(P3 z).1, pk_us], fun k hk => by rw [(P3 z).2.1, wyS_in hk]; exact shp_cg (fun k hk => by rw [Nat.zero_add]; exact s4 k hk) hk⟩
                    · simp only [if_neg (show ¬ (l2 = l ∧ F l = none) from fun q => el q.1)]
                      rw [va_up_ne _ _ el]
                      rcases hF l2 hl2 with ⟨e1, e2⟩ | ⟨e1, e2, e3, e4⟩
                      · exact Or.inl ⟨e1, by rw [(P3 z).1, pk_un (by omega)]; exact e2⟩
                      · have hm9 : mF l2 ≤ 120 := by
                          obtain ⟨_, _, _, L9, O9, A9, _, hO9⟩ := e2
                          exact hO9.1
                        exact Or.inr ⟨e1, hfr e2, by rw [(P3 z).1, pk_un (by omega)]; exact e3, fun k hk => by rw [(P3 z).2.1, wyS_out (by omega)]; exact e4 k hk⟩
                  · rw [c3, if_neg z]
                    simp only [if_neg (show ¬ (l2 = l ∧ F l = none) from fun q => z q.2)]
                    rcases hF l2 hl2 with ⟨e1, e2⟩ | ⟨e1, e2, e3, e4⟩
                    · exact Or.inl ⟨e1, by rw [(Q16 z).1]; exact e2⟩
                    · exact Or.inr ⟨e1, hfr e2, by rw [(Q16 z).1]; exact e3, fun k hk => by rw [(Q16 z).2.1]; exact e4 k hk⟩
    · refine op_go (d := 2) h (by decide) (kp_attempt_bad2 (d := 0) n5 n7 ht (hT t ht).1 hd z1 ?_)
      exact op_c h 0 (Or.inr ⟨_, rfl, rfl, by decide⟩) (d := 1733) (by decide) (rc_attempt_bad2 rsc rar hd n6 n7 ht z2) (fun z => absurd z (by decide)) (u00 rsc 1) rfl
  · rw [← n5] at z1
    rw [← n6] at z2
    refine op_go (d := 2) h (by decide) (kp_attempt_bad1 (d := 0) l hd z1 ?_)
    exact op_c h 0 (Or.inr ⟨_, rfl, rfl, by decide⟩) (d := 1733) (by decide) (rc_attempt_bad1 rsc rar l hd z2) (fun z => absurd z (by decide)) (u00 rsc 1) rfl
