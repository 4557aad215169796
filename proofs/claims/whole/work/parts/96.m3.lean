theorem ed_cg {S S2 W W2 : Nat → Int32} {n m : Nat} (h1 : ∀ k, k < n → S k = S2 k) (h2 : ∀ k, k < m → W k = W2 k) : ∀ a, a ≤ n → ∀ b, b ≤ m → ed S W n m a b = ed S2 W2 n m a b
  | 0, _, b, _ => rfl
  | a + 1, ha, 0, _ => rfl
  | a + 1, ha, b + 1, hb => by
    rw [ed_ss, ed_ss, ed_cg h1 h2 a (by omega) b (by omega), ed_cg h1 h2 (a + 1) ha b (by omega), ed_cg h1 h2 a (by omega) (b + 1) hb, h1 _ (by omega), h2 _ (by omega)]
termination_by a _ b => a + b
theorem cpx_cg {S S2 W W2 : Nat → Int32} {M : Nat} (h1 : ∀ k, k < M → S k = S2 k) (h2 : ∀ k, k < M → W k = W2 k) : ∀ k c, c + k ≤ M → cpx S W k c = cpx S2 W2 k c
  | 0, _, _ => rfl
  | k + 1, c, hc => by rw [cpx, cpx, h1 c (by omega), h2 c (by omega), cpx_cg h1 h2 k (c + 1) (by omega)]
theorem hkn_cg {S S2 W W2 : Nat → Int32} {n m : Nat} (h1 : ∀ k, k < n → S k = S2 k) (h2 : ∀ k, k < m → W k = W2 k) (c : Nat) : hkn S W n m c = hkn S2 W2 n m c := by
  unfold hkn
  rw [ed_cg h1 h2 _ (by omega) _ (by omega), ed_cg h1 h2 n (Nat.le_refl _) m (Nat.le_refl _), ed_cg h1 h2 (n - c) (by omega) _ (by omega)]
theorem hBest_cg {D D2 : Nat → Nat} {y : Nat} (h : ∀ i, i < y → D i = D2 i) : ∀ j i b, i + j ≤ y → hBest D j i b = hBest D2 j i b
  | 0, _, _, _ => rfl
  | j + 1, i, b, hi => by
    rw [hBest, hBest]
    have : hStp D i b = hStp D2 i b := by
      rcases b with _ | ⟨v, l⟩
      · rw [hStp, hStp, h i (by omega)]
      · rw [hStp, hStp, h i (by omega)]
    rw [this]
    exact hBest_cg h j (i + 1) _ (by omega)
theorem hAns_cg {S S2 : Nat → Int32} {W W2 : Nat → Nat → Int32} {m y : Nat} {M : Nat → Nat} {D : Nat → Nat} (h1 : ∀ k, k < m → S k = S2 k) (h2 : ∀ i, i < y → ∀ k, k < M i → W i k = W2 i k) (q : Int32) {b : Option (Nat × Nat)} (hb : okB D y b) : hAns S W m M q b = hAns S2 W2 m M q b := by
  rcases b with _ | ⟨v, l⟩
  · rfl
  · have hv := (hb v l rfl).1
    have hc := cpx_cg (S := S) (S2 := S2) (W := W v) (W2 := W2 v) (M := min m (M v)) (fun k hk => h1 k (by omega)) (fun k hk => h2 v hv k (by omega)) (min m (M v)) 0 (by omega)
    rw [hAns, hAns, hc, hkn_cg h1 (h2 v hv)]
    by_cases z : hkn S2 (W2 v) m (M v) (cpx S2 (W2 v) (min m (M v)) 0) = 2
    · rw [if_pos z, if_pos z]
    · rw [if_neg z, if_neg z]
      have hlt : cpx S2 (W2 v) (min m (M v)) 0 < M v := by
        by_cases w : cpx S2 (W2 v) (min m (M v)) 0 < M v
        · exact w
        · refine absurd ?_ z
          unfold hkn
          rw [if_neg (fun x => w x.2.1), if_neg (fun x => w x.1)]
      rw [h2 v hv _ hlt]
/-- the ways of a task's, as rows -/
theorem YP.of {al : Nat → Nat} {n : Nat} {g : Nat → px_O} {fz : Nat → Bool} {rar : Nat → Nat → Int32} {t y : Nat} {Y : Nat → Option Nat} {PY mY : Nat → Nat} {SY : Nat → Nat → Int32} (h : ∀ i, i < y → WX al n g fz rar t i (Y i) (PY i) (mY i) (SY i)) : ∃ LY OY AY, YP al n g y Y PY mY LY SY OY AY := by
  have hx : ∀ i, ∃ L O A, i < y → PG al n g (PY i) (mY i) L (SY i) O A (bD (mY i) (SY i)) ∧ POK (mY i) L (SY i) O A := fun i => by
    by_cases hi : i < y
    · obtain ⟨_, _, _, L, O, A, z1, z2⟩ := (h i hi).2.1
      exact ⟨L, O, A, fun _ => ⟨z1, z2⟩⟩
    · exact ⟨0, fun _ => 0, fun _ => 0, fun z => absurd z hi⟩
  refine ⟨fun i => (hx i).choose, fun i => (hx i).choose_spec.choose, fun i => (hx i).choose_spec.choose_spec.choose, fun i hi => ?_⟩
  have := (hx i).choose_spec.choose_spec.choose_spec hi
  exact ⟨(h i hi).1, this.2.1, this.1⟩
set_option maxHeartbeats 4000000 in
set_option maxRecDepth 20000 in
theorem op_hint {fx : px_F} {al : Nat → Nat} {n : Nat} {g : Nat → px_O} {c0 : Int32} (h : REL al n g c0) (t q : Int32) : pm px_tb fx 1733 75 (.ref (al 0) :: [.int t, .int q]) al n g (QJ fx al n g 145 [.int t, .int q] (fun E => if E = "java/lang/IndexOutOfBoundsException" then 1 else if E = "java/lang/IllegalStateException" then 2 else if E = "java/util/NoSuchElementException" then 3 else 0)) := by
  obtain ⟨sc, ar, sl, tf, rsc, rar, TT, Tc, fz, h, _⟩ := h
  obtain ⟨hCR, hRR, hn, ho, ⟨B, e, b1, b2, b3⟩, ⟨n1, n2, n3, n4, n5, n6, n7⟩, hLX, hS, hT, hDj, hZ⟩ := id h
  rcases idx_case (N := TT) (by omega) t with ⟨t, ht, rfl⟩ | ⟨z1, z2⟩
  · rcases hS with ⟨rfl, e2⟩ | ⟨P, m, S, rfl, e2, e3, e4⟩
    · refine op_go (d := 2) h (by decide) (kp_hint_bad2 (d := 0) n5 n7 ht (hT t ht).1 q ?_)
      exact op_c h 0 (Or.inr ⟨_, rfl, rfl, by decide⟩) (d := 1733) (by decide) (rc_hint_bad2 rsc rar q n6 n7 ht e2) (fun z => absurd z (by decide)) (u00 rsc 2) rfl
    · obtain ⟨_, hm0, _, L, O, A, hP, hO⟩ := id e2
      have hm1 := hO.1
      by_cases hq : 0 ≤ q ∧ q ≤ 4
      · obtain ⟨x1, x2, x3, x4, w, y, WA, WB, WR, Y, F, PY, mY, SY, PF, mF, SF, hK, hw, hy, hF⟩ := id (hT t ht).2
        obtain ⟨LY, OY, AY, hY⟩ := YP.of hy.2.2
        have hMY : ∀ i, i < y → rar 14 (10 * t + i) = nI (mY i) ∧ mY i ≤ 120 := fun i hi => ⟨(hy.2.2 i hi).2.2.1, (hY i hi).2.1⟩
        refine op_go (d := 6) h (by decide) (kp_hint_ok (d := 0) n5 n7 ht hy.1 hm1 hK hP hY (hT t ht).1 hq (fun sc2 ar2 hf => ?_))
        refine op_v h _ (Or.inl ⟨rfl, rfl⟩) (d := 1733) (by decide) (rp_hint_ok rsc rar n6 n7 ht e3.1 hm0 hm1 hy.1 hy.2.1 hMY hq) (fun l hl => hf.2 _ (by omega) (by omega)) (fun res rsc2 rar2 hp => ?_)
        obtain ⟨rfl, r1, r2, f, rfl⟩ := hp
        refine ⟨⟨_, rfl, fun _ => ?_⟩, r1, BX.mf ⟨B, e, b1, b2, b3⟩ (hf.1 1 1 (by decide)) (hf.2 2 (by decide) (by decide)) (r2 2 (by decide) (by decide) (by decide) (by decide)) rfl, ⟨?_, ?_, ?_, ?_, ?_, ?_, n7⟩, fun a z1 z2 => va_up_ne _ _ (by omega), r2 16 (by decide) (by decide) (by decide) (by decide), rfl, rfl, rfl⟩
        · have hbb := okB.all (D := dY m S mY SY) (y := y) y 0 none (by omega) (fun _ _ z => by cases z)
          have hw9 : ∀ i, i < y → ∀ k, k < mY i → wyT rar (10 * t + i) k = SY i k := fun i hi k hk => (hy.2.2 i hi).2.2.2 k hk
          rw [hBest_cg (D := wyD rar m t mY) (D2 := dY m S mY SY) (y := y) (fun i hi => ?_) y 0 none (by omega)]
          · exact hAns_cg e4 hw9 q hbb
          · show ed (rar 3) (wyT rar (10 * t + i)) m (mY i) m (mY i) = ed S (SY i) m (mY i) m (mY i)
            exact ed_cg e4 (hw9 i hi) m (Nat.le_refl _) (mY i) (Nat.le_refl _)
        · rw [hf.1 0 8 (by decide), r2 7 (by decide) (by decide) (by decide) (by decide)]; exact n1
        · rw [hf.1 0 10 (by decide), r2 17 (by decide) (by decide) (by decide) (by decide)]; exact n2
        · rw [hf.1 0 11 (by decide), r2 31 (by decide) (by decide) (by decide) (by decide)]; exact n3
        · rw [hf.1 0 12 (by decide), r2 32 (by decide) (by decide) (by decide) (by decide)]; exact n4
        · rw [hf.1 0 9 (by decide)]; exact n5
        · rw [r2 30 (by decide) (by decide) (by decide) (by decide)]; exact n6
      · refine op_go (d := 2) h (by decide) (kp_hint_bad3 (d := 0) n5 n7 ht (hT t ht).1 hq ?_)
        exact op_c h 0 (Or.inr ⟨_, rfl, rfl, by decide⟩) (d := 1733) (by decide) (rc_hint_bad3 rsc rar n6 n7 ht (by rw [e3.1]; exact nI_ne0 hm0 (by omega)) hq) (fun z => absurd z (by decide)) (u00 rsc 3) rfl
  · rw [← n5] at z1
    rw [← n6] at z2
    refine op_go (d := 2) h (by decide) (kp_hint_bad1 (d := 0) q z1 ?_)
    exact op_c h 0 (Or.inr ⟨_, rfl, rfl, by decide⟩) (d := 1733) (by decide) (rc_hint_bad1 rsc rar q z2) (fun z => absurd z (by decide)) (u00 rsc 1) rfl
theorem rf_a_lt {k a : Nat} (h : rf_a k = some a) : a < 21 := by
  unfold rf_a at h
  split at h <;> first | (cases h; decide) | cases h
set_option maxHeartbeats 4000000 in
set_option maxRecDepth 20000 in
theorem op_read {fx : px_F} {al : Nat → Nat} {n : Nat} {g : Nat → px_O} {c0 : Int32} (h : REL al n g c0) : pm px_tb fx 1733 64 [.ref (al 0)] al n g (QJ fx al n g 112 [] (fun E => if E = "java/lang/IllegalArgumentException" then 1 else 0)) := by
  obtain ⟨sc, ar, sl, tf, rsc, rar, TT, Tc, fz, h, _⟩ := h
  obtain ⟨hCR, hRR, hn, ho, ⟨B, e, b1, b2, b3⟩, ⟨n1, n2, n3, n4, n5, n6, n7⟩, hLX, hS, hT, hDj, hZ⟩ := id h
  obtain ⟨b, j, hP, _, hj⟩ := pP_tot (T := tk B e) tk_120 860 0 0 0 (by decide) (by decide) (by decide)
  have hB9 : ∀ i, i < e → rar 0 i = sb (B i) ∧ B i < 256 := fun i hi => ⟨b3 i hi, (b1.2.2 i hi).2⟩
  by_cases hg : b = true ∧ tk B e j = 0
  · obtain ⟨rfl, hz⟩ := hg
    refine op_go (d := 1727) h (by decide) (kp_read_ok b1 hP hz (by omega) (fun al2 g2 sc2 ar2 L S O A hf ha hPG hO hS2 hg2 => ?_))
    intro g1 hC1 hF1
    refine ⟨by omega, ha, by rw [hF1 58 (by decide), hg2 58 (by omega)], by rw [hF1 36 (by decide), hg2 36 (by omega)], nI j, 0, Or.inl ⟨rfl, rfl⟩, fun g3 hg3 ho3 => ?_⟩
    have hE : ∀ k, 36 ≤ k → k < n → k ≠ 58 → g3 k = g k := fun k z1 z2 z3 => by rw [hg3 k z3, hF1 k z1, hg2 k z2]
    have hRR3 : RR al2 (n + 4) g3 36 rsc rar := by
      refine ⟨by omega, ?_, fun a ha9 => by rw [hE _ (by omega) (by omega) (by omega)]; exact hRR.2.2 a ha9⟩
      rw [hE 36 (by decide) (by omega) (by decide), hRR.2.1]
      congr 2
      funext k
      unfold rf_F
      split
      · rename_i a hk
        rw [ha _ (by have := rf_a_lt hk; omega)]
      · rfl
    have hj9 : 0 < j := (pP_lt 860 0 0 0 j (by decide) hP).1
    have := rp_read_ok rsc rar b2 b1.2.1 hB9 hP hz fx al2 (n + 4) g3 36 (fun o3 al3 n3 g4 => al3 = al2 ∧ n3 = n + 4 ∧ g4 58 = g3 58 ∧ ∃ b : Int32, o3 = .inl (some (.int b)) ∧ ((0 : Int32) = 0 → b = nI j) ∧ REL al3 n3 g4 0) hRR3 (fun res rsc2 rar2 g4 hp hR4 hF4 => ?_)
    · exact pm_le this 862
    · obtain ⟨rfl, ⟨r0, r2, r7, r16, r17, r30, r31, r32⟩, ra, r3, rok⟩ := hp
      refine ⟨rfl, rfl, hF4 58 (Or.inr (by decide)), _, rfl, fun _ => rfl, up2 (up2 (up2 sc2 1 1 0) 0 8 (-1)) 0 10 (sc2 0 10 + 1), ar2, .ref (al2 n), tf, rsc2, rar2, TT, Tc, fun k => if k < n then fz k else decide (k < n + 4), ?_, r0⟩
      have hD4 : ∀ k, 59 ≤ k → k < n → g4 k = g k := fun k z1 z2 => by rw [hF4 k (Or.inr (by omega)), hE k (by omega) z2 (by omega)]
      have hN4 : ∀ k, n ≤ k → g4 k = g2 k := fun k z1 => by rw [hF4 k (Or.inr (by omega)), hg3 k (by omega), hF1 k (by omega)]
      refine ⟨hC1.al (fun _ _ => rfl) (fun k hk => by rw [hF4 k (Or.inl (by omega)), hg3 k (by omega)]) (by omega), hR4, by omega, ?_, ⟨B, 0, ⟨rfl, by decide, fun i hi => by omega⟩, r2, fun i hi => by omega⟩, ⟨?_, ?_, ?_, ?_, ?_, by rw [r30]; exact n6, n7⟩, ⟨fun l hl k hk => ?_, fun i hi => ?_⟩, Or.inr ⟨n, j, S, rfl, ?_, rok, fun k hk => by rw [r3 k hk, hS2 k hk]⟩, fun t ht => ?_, hDj, hZ.ra (ra 11 (by decide) (by decide) (by decide) (by decide) (by decide) (by decide)) (ra 13 (by decide) (by decide) (by decide) (by decide) (by decide) (by decide)) (ra 16 (by decide) (by decide) (by decide) (by decide) (by decide) (by decide))⟩
      · obtain ⟨fo, e9⟩ := ho3
        exact ⟨fo, by rw [hF4 58 (Or.inr (by decide))]; exact e9⟩
      · show (-1 : Int32) = rsc2 7
        exact r7.symm
      · show sc2 0 10 + 1 = rsc2 17
        rw [r17, ← n2, hf.1 0 10 (by decide) (by decide)]
      · show sc2 0 11 = rsc2 31
        rw [r31, ← n3, hf.1 0 11 (by decide) (by decide)]
      · show sc2 0 12 = rsc2 32
        rw [r32, ← n4, hf.1 0 12 (by decide) (by decide)]
      · show sc2 0 9 = nI TT
        rw [hf.1 0 9 (by decide) (by decide)]; exact n5
      · rw [hf.2 _ (by omega) (by omega) (by omega) (by omega), ra 18 (by decide) (by decide) (by decide) (by decide) (by decide) (by decide)]; exact hLX.1 l hl k hk
      · rw [ra 18 (by decide) (by decide) (by decide) (by decide) (by decide) (by decide)]; exact hLX.2 i hi
      · exact ⟨hn, hj9, fun k z1 z2 => by show (if k < n then fz k else decide (k < n + 4)) = true; rw [if_neg (by omega), decide_eq_true z2], L, O, A, hPG.fr2 (Nat.le_refl _) (fun _ _ => rfl) (fun k z1 z2 => hN4 k z1), hO⟩
      · obtain ⟨t1, t2⟩ := hT t ht
        have hlt : Tc t + 6 ≤ n := by
          obtain ⟨x1, x2, x3, x4, w, y, WA, WB, WR, Y, F, PY, mY, SY, PF, mF, SF, hK, hw, hy, hF⟩ := id (hT t ht).2
          exact hK.2.1
        refine ⟨by rw [t1, ha _ (by omega)], TX.ra0 ?_ (fun a z1 z2 => ra a (by omega) (by omega) (by omega) (by omega) (by omega) (by omega))⟩
        have h59 := t2.1
        exact t2.fr (by omega) ha (fun k z0 z1 _ => hD4 k z0 z1) (fun k z1 z2 => by rw [if_pos z1]; exact z2) (fun k z1 z2 => hD4 k (by omega) (by omega)) (fun k z0 z1 z2 => by rw [if_pos z0]; exact t2.2.1 k z1 z2)
  · refine op_go (d := 1727) h (by decide) (kp_read_bad b1 hP hg (fun sc2 ar2 hf => ?_))
    refine op_v h 0 (Or.inr ⟨_, rfl, rfl, by decide⟩) (d := 871) (by decide) (rp_read_bad rsc rar b2 b1.2.1 hB9 hP hg) (fun l hl => hf.2 _ (by omega) (by omega) (by omega) (by omega)) (fun res rsc2 rar2 hp => ?_)
    obtain ⟨rfl, ⟨r0, r2, r7, r16, r17, r30, r31, r32⟩, ra⟩ := hp
    refine ⟨⟨_, rfl, fun z => absurd z (by decide)⟩, r0, ⟨B, 0, ⟨rfl, by decide, fun i hi => by omega⟩, r2, fun i hi => by omega⟩, ⟨?_, ?_, ?_, ?_, ?_, by rw [r30]; exact n6, n7⟩, fun a z1 z2 => ra a (by omega), r16, ra 3 (by decide), ra 4 (by decide), ra 5 (by decide)⟩
    · show nI (ps B e j) = rsc2 7
      exact r7.symm
    · show sc2 0 10 = rsc2 17
      rw [r17, ← n2, hf.1 0 10 (by decide) (by decide)]
    · show sc2 0 11 = rsc2 31
      rw [r31, ← n3, hf.1 0 11 (by decide) (by decide)]
    · show sc2 0 12 = rsc2 32
      rw [r32, ← n4, hf.1 0 12 (by decide) (by decide)]
    · show sc2 0 9 = nI TT
      rw [hf.1 0 9 (by decide) (by decide)]; exact n5
