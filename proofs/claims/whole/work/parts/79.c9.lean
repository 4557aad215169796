section SIM2
variable {fx : px_F} {d : Nat} {Q : px_Q} {al : Nat → Nat} {n : Nat} {g0 : Nat → px_O} {sl : Value} {tf : Nat → Option Nat} {P m L : Nat} {S O A : Nat → Int32} {bd : Bool} {a b : Int32} {sc0 ar0 : Nat → Nat → Int32}
/-- an expression at a statement's begin -/
theorem sm_ex0 (hP : PG al n g0 P m L S O A bd) (hL : L ≤ 121) {T : Nat → Int32} {f dp i j p : Nat} (h : pP T f 3 dp i = some (true, j)) (hC : Cd T O A f 3 dp false none i p) (hpL : p + nO T f 3 dp false i ≤ L) (hj : j ≤ 120) {V St : Nat → Int32} {s : Int32} {t c : Nat} {sc ar : Nat → Nat → Int32} (hM : MT sc0 ar0 V 0 St t s sc ar) (hc : c + nO T f 3 dp false i < 1000000)
    (hk : ∀ v, (eX T V f 3 dp none i s).1 = some v → ∀ c2 St2 sc2 ar2, c2 ≤ c + nO T f 3 dp false i → MT sc0 ar0 V 1 St2 t (eX T V f 3 dp none i s).2 sc2 ar2 → St2 0 = v → JL fx (d + 5) Q al n g0 sl tf P a b (nI (p + nO T f 3 dp false i)) c2 sc2 ar2)
    (hz : (eX T V f 3 dp none i s).1 = none → ∀ c2 v sc2 ar2, c2 ≤ c + nO T f 3 dp false i → MO sc0 ar0 V 1 t (eX T V f 3 dp none i s).2 sc2 ar2 → JL fx (d + 5) Q al n g0 sl tf P a b v c2 sc2 ar2) : JL fx (d + 5) Q al n g0 sl tf P a b (nI p) c sc ar := by
  have := (pP_lt _ _ _ _ _ (by decide) h).1
  exact sm_expr hP hL f 3 dp none i j p 0 V St s t c sc ar (by decide) (by decide) (fun _ _ z => by cases z) h hC (by simp only [Option.isSome_none]; omega) (by simp only [Option.isSome_none, Bool.false_eq_true, if_false]; omega) hM (fun _ _ z => by cases z) (by simp only [Option.isSome_none]; omega) (fun v hv c2 St2 sc2 ar2 h1 h2 h3 _ => hk v hv c2 St2 sc2 ar2 h1 h2 h3) (fun hv c2 v sc2 ar2 h1 h2 => hz hv c2 v sc2 ar2 h1 h2)
theorem sm_loop (hP : PG al n g0 P m L S O A bd) (hL : L ≤ 121) {T : Nat → Int32} {f dp : Nat} {lp : Bool} {i q w p : Nat} (hq : pP T f 3 dp (i + 1) = some (true, q)) (hw9 : w ≤ 120) (hqw : q ≤ w) (c1 : O p = 4) (c2 : A p = (if lp = true then 192 else 64)) (c3 : Cd T O A f 3 dp false none (i + 1) (p + 1)) (c4 : O (p + 1 + nO T f 3 dp false (i + 1)) = 5) (c5 : A (p + 1 + nO T f 3 dp false (i + 1)) = nI (p + 3 + nO T f 3 dp false (i + 1) + nO T f 2 dp false q)) (c7 : O (p + 2 + nO T f 3 dp false (i + 1) + nO T f 2 dp false q) = 6) (c8 : A (p + 2 + nO T f 3 dp false (i + 1) + nO T f 2 dp false q) = nI p) (hpL : p + 3 + nO T f 3 dp false (i + 1) + nO T f 2 dp false q ≤ L)
    (hB : ∀ (V St : Nat → Int32) (s : Int32) (t c : Nat) (sc ar : Nat → Nat → Int32), MT sc0 ar0 V 0 St t s sc ar → c + nO T f 2 dp false q + 122 * (1001 - t) < 999000 → ((dX T f 2 dp true q V t s).1 = 0 → ∀ c2 St2 sc2 ar2, c2 ≤ c + nO T f 2 dp false q + 122 * ((dX T f 2 dp true q V t s).2.2.1 - t) → MT sc0 ar0 (dX T f 2 dp true q V t s).2.1 0 St2 (dX T f 2 dp true q V t s).2.2.1 (dX T f 2 dp true q V t s).2.2.2 sc2 ar2 → JL fx (d + 5) Q al n g0 sl tf P a b (nI (p + 2 + nO T f 3 dp false (i + 1) + nO T f 2 dp false q)) c2 sc2 ar2) → (¬ (dX T f 2 dp true q V t s).1 = 0 → ∀ c2 v sc2 ar2, c2 ≤ c + nO T f 2 dp false q + 122 * ((dX T f 2 dp true q V t s).2.2.1 - t) → MO sc0 ar0 (dX T f 2 dp true q V t s).2.1 (dX T f 2 dp true q V t s).1 (dX T f 2 dp true q V t s).2.2.1 (dX T f 2 dp true q V t s).2.2.2 sc2 ar2 → JL fx (d + 5) Q al n g0 sl tf P a b v c2 sc2 ar2) → JL fx (d + 5) Q al n g0 sl tf P a b (nI (p + 2 + nO T f 3 dp false (i + 1))) c sc ar) :
    ∀ (mm : Nat) (V St : Nat → Int32) (s : Int32) (t c : Nat) (sc ar : Nat → Nat → Int32) (X : StX), 1001 ≤ t + mm → MT sc0 ar0 V 0 St t s sc ar → c + (nO T f 3 dp false (i + 1) + nO T f 2 dp false q + 3) + 122 * (1001 - t) < 999000 → wL (fun V1 s1 => eX T V1 f 3 dp none (i + 1) s1) (fun V1 t1 s1 => dX T f 2 dp true q V1 t1 s1) (if lp = true then 192 else 64) mm V t s = X → (X.1 = 0 → ∀ c2 St2 sc2 ar2, c2 ≤ c + (nO T f 3 dp false (i + 1) + nO T f 2 dp false q + 3) + 122 * (X.2.2.1 - t) → MT sc0 ar0 X.2.1 0 St2 X.2.2.1 X.2.2.2 sc2 ar2 → JL fx (d + 5) Q al n g0 sl tf P a b (nI (p + 3 + nO T f 3 dp false (i + 1) + nO T f 2 dp false q)) c2 sc2 ar2) → (¬ X.1 = 0 → ∀ c2 v sc2 ar2, c2 ≤ c + (nO T f 3 dp false (i + 1) + nO T f 2 dp false q + 3) + 122 * (X.2.2.1 - t) → MO sc0 ar0 X.2.1 X.1 X.2.2.1 X.2.2.2 sc2 ar2 → JL fx (d + 5) Q al n g0 sl tf P a b v c2 sc2 ar2) → JL fx (d + 5) Q al n g0 sl tf P a b (nI p) c sc ar
  | 0, V, St, s, t, c, sc, ar, X, h1, hM, hc, hX, hk, hz => by have := hM.2.2.2.2.2.1; omega
  | mm + 1, V, St, s, t, c, sc, ar, X, h1, hM, hc, hX, hk, hz => by
    have ht := hM.2.2.2.2.2.1
    rw [wL] at hX
    by_cases ht0 : t = 1000
    · subst ht0
      rw [if_pos rfl] at hX
      subst hX
      exact sm_end hP hL hM (by omega) (by omega) c1 c2 (cp_tStep0 (t := 0) d _ _ hM) (fun v sc4 ar4 hM4 => hz (show ¬ (2 : Nat) = 0 by decide) (c + 1) v sc4 ar4 (by omega) hM4)
    rw [if_neg ht0] at hX
    refine sm_one hP hL hM (by omega) (by omega) c1 c2 (cp_tStep d _ _ hM (by omega)) (fun sc4 ar4 hM4 => ?_)
    refine sm_ex0 hP hL hq c3 (by omega) (by omega) hM4 (by omega) ?_ ?_
    · intro v hv c5' St5 sc5 ar5 hc5 hM5 hS5
      rw [bX_s hv] at hX
      refine sm_one hP hL hM5 (by omega) (by omega) c4 c5 (cp_tSkip d _ _ hM5) (fun sc6 ar6 hM6 => ?_)
      rw [hS5]
      by_cases hv0 : v = 0
      · rw [if_pos hv0] at hX ⊢
        subst hX
        exact hk rfl (c5' + 1) _ sc6 ar6 (by show _ ≤ c + _ + 122 * (t + 1 - t); omega) hM6
      · rw [if_neg hv0] at hX ⊢
        have hmo := dX_mono T f 2 dp true q V (t + 1) (eX T V f 3 dp none (i + 1) (s ||| (if lp = true then 192 else 64))).2
        rw [show p + 1 + nO T f 3 dp false (i + 1) + 1 = p + 2 + nO T f 3 dp false (i + 1) from by omega]
        refine hB V _ _ (t + 1) (c5' + 1) sc6 ar6 hM6 (by omega) ?_ ?_
        · intro h0 c7' St7 sc7 ar7 hc7 hM7
          rw [nX_0 h0] at hX
          have ht7 := hM7.2.2.2.2.2.1
          refine sm_one hP hL hM7 (by omega) (by omega) c7 c8 (cp_tJump d _ _ hM7) (fun sc8 ar8 hM8 => ?_)
          have hmo2 : (dX T f 2 dp true q V (t + 1) (eX T V f 3 dp none (i + 1) (s ||| (if lp = true then 192 else 64))).2).2.2.1 ≤ X.2.2.1 := by
            rw [← hX]; exact wL_mono (fun V t s => dX_mono T f 2 dp true q V t s) _ _ _ _
          refine sm_loop hP hL hq hw9 hqw c1 c2 c3 c4 c5 c7 c8 hpL hB mm _ _ _ _ (c7' + 1) sc8 ar8 X (by omega) hM8 (by omega) hX ?_ ?_
          · intro h9 c9 St9 sc9 ar9 hc9 hM9
            exact hk h9 c9 St9 sc9 ar9 (by omega) hM9
          · intro h9 c9 v9 sc9 ar9 hc9 hM9
            exact hz h9 c9 v9 sc9 ar9 (by omega) hM9
        · intro h0 c7' v7 sc7 ar7 hc7 hM7
          rw [nX_1 h0] at hX
          subst hX
          exact hz h0 c7' v7 sc7 ar7 (by omega) hM7
    · intro hv c5' v5 sc5 ar5 hc5 hM5
      rw [bX_n hv] at hX
      subst hX
      exact hz (show ¬ (1 : Nat) = 0 by decide) c5' v5 sc5 ar5 (by show _ ≤ c + _ + 122 * (t + 1 - t); omega) hM5
theorem sm_stmt (hP : PG al n g0 P m L S O A bd) (hL : L ≤ 121) {T : Nat → Int32} : ∀ (f kd dp : Nat) (lp : Bool) (i j p : Nat) (V St : Nat → Int32) (s : Int32) (t c : Nat) (sc ar : Nat → Nat → Int32) (X : StX), kd < 3 → pP T f kd dp i = some (true, j) → Cd T O A f kd dp lp none i p → p + nO T f kd dp false i ≤ L → j ≤ 120 → MT sc0 ar0 V 0 St t s sc ar → c + nO T f kd dp false i + 122 * (1001 - t) < 999000 → dX T f kd dp lp i V t s = X → (X.1 = 0 → ∀ c2 St2 sc2 ar2, c2 ≤ c + nO T f kd dp false i + 122 * (X.2.2.1 - t) → MT sc0 ar0 X.2.1 0 St2 X.2.2.1 X.2.2.2 sc2 ar2 → JL fx (d + 5) Q al n g0 sl tf P a b (nI (p + nO T f kd dp false i)) c2 sc2 ar2) → (¬ X.1 = 0 → ∀ c2 v sc2 ar2, c2 ≤ c + nO T f kd dp false i + 122 * (X.2.2.1 - t) → MO sc0 ar0 X.2.1 X.1 X.2.2.1 X.2.2.2 sc2 ar2 → JL fx (d + 5) Q al n g0 sl tf P a b v c2 sc2 ar2) → JL fx (d + 5) Q al n g0 sl tf P a b (nI p) c sc ar
  | 0, _, _, _, _, _, _, _, _, _, _, _, _, _, _, _, h, _, _, _, _, _, _, _, _ => by rw [pP] at h; cases h
  | f + 1, kd, dp, lp, i, j, p, V, St, s, t, c, sc, ar, X, hk7, h, hC, hpL, hj, hM, hc, hX, hk, hz => by
    have IH := sm_stmt hP hL (T := T) f
    have ht := hM.2.2.2.2.2.1
    match kd, hk7, h, hC, hpL, hc, hX, hk, hz with
    | 0, _, h, hC, hpL, hc, hX, hk, hz =>
      obtain ⟨q, h1, h2⟩ := pP_t0 h
      have l1 := (pP_lt _ _ _ _ _ (by decide) h1).1
      rw [nO, pE_of h1] at hpL hc hk hz
      rw [dX, pE_of h1] at hX
      rw [Cd, pE_of h1] at hC
      have hqj : q ≤ j := by
        rcases h2 with ⟨_, h2⟩ | ⟨_, rfl⟩
        · have := (pP_lt _ _ _ _ _ (by decide) h2).1; omega
        · exact Nat.le_refl _
      have hmo := dX_mono T f 1 dp lp i V t s
      refine IH 1 dp lp i q p V St s t c sc ar _ (by decide) h1 hC.1 (by omega) (by omega) hM (by omega) rfl ?_ ?_
      · intro h0 c2 St2 sc2 ar2 hc2 hM2
        have ht2 := hM2.2.2.2.2.2.1
        rw [nX_0 h0] at hX
        rcases h2 with ⟨c9, h2⟩ | ⟨c9, rfl⟩
        · simp only [if_pos c9] at hpL hc hk hz hX
          have hmo2 : (dX T f 1 dp lp i V t s).2.2.1 ≤ X.2.2.1 := by rw [← hX]; exact dX_mono _ _ _ _ _ _ _ _ _
          refine IH 0 dp lp (q + 1) j _ _ St2 _ _ c2 sc2 ar2 X (by decide) h2 (hC.2 c9) (by omega) hj hM2 (by omega) hX ?_ ?_
          · intro h9 c3 St3 sc3 ar3 hc3 hM3
            rw [Nat.add_assoc]
            exact hk h9 c3 St3 sc3 ar3 (by omega) hM3
          · intro h9 c3 v3 sc3 ar3 hc3 hM3
            exact hz h9 c3 v3 sc3 ar3 (by omega) hM3
        · simp only [if_neg c9, Nat.add_zero] at hpL hc hk hz hX
          subst hX
          exact hk rfl c2 St2 sc2 ar2 hc2 hM2
      · intro h0 c2 v2 sc2 ar2 hc2 hM2
        rw [nX_1 h0] at hX
        subst hX
        exact hz h0 c2 v2 sc2 ar2 (by omega) hM2
    | 1, _, h, hC, hpL, hc, hX, hk, hz =>
      rw [nO] at hpL hc hk hz
      rw [dX] at hX
      rw [Cd] at hC
      rcases pP_t1 h with ⟨hv, h1, h2⟩ | ⟨hv, cc, q, w, h1, h2, h3⟩
      · simp only [if_pos hv] at hpL hc hk hz
        rw [if_neg (fun z => by rw [z] at hv; exact absurd hv (by decide))] at hX
        obtain ⟨c1, c2, c3, c4, c5⟩ := hC.1 hv
        by_cases ht0 : t = 1000
        · subst ht0
          rw [if_pos rfl] at hX
          subst hX
          exact sm_end hP hL hM (by omega) (by omega) c1 c2 (cp_tStep0 (t := 0) d _ _ hM) (fun v sc4 ar4 hM4 => hz (show ¬ (2 : Nat) = 0 by decide) (c + 1) v sc4 ar4 (by omega) hM4)
        rw [if_neg ht0, if_neg (fun z => by rw [z] at hv; exact absurd hv (by decide))] at hX
        refine sm_one hP hL hM (by omega) (by omega) c1 c2 (cp_tStep d _ _ hM (by omega)) (fun sc4 ar4 hM4 => ?_)
        refine sm_ex0 hP hL h2 c3 (by omega) hj hM4 (by omega) ?_ ?_
        · intro v hv5 c5' St5 sc5 ar5 hc5 hM5 hS5
          rw [bX_s hv5] at hX
          subst hX
          refine sm_one hP hL hM5 (by omega) (by omega) c4 c5 (cp_tStore d _ hv hM5) (fun sc6 ar6 hM6 => ?_)
          rw [hS5] at hM6
          rw [show p + 1 + nO T f 3 dp false (i + 2) + 1 = p + (nO T f 3 dp false (i + 2) + 2) from by omega]
          exact hk rfl (c5' + 1) _ sc6 ar6 (by show _ ≤ c + _ + 122 * (t + 1 - t); omega) hM6
        · intro hv5 c5' v5 sc5 ar5 hc5 hM5
          rw [bX_n hv5] at hX
          subst hX
          exact hz (show ¬ (1 : Nat) = 0 by decide) c5' v5 sc5 ar5 (by show _ ≤ c + _ + 122 * (t + 1 - t); omega) hM5
      · have l1 := (pP_lt _ _ _ _ _ (by decide) h1).1
        have l2 := (pP_lt _ _ _ _ _ (by decide) h2).1
        simp only [if_neg hv] at hpL hc hk hz
        rw [pE_of h1, pE_of h2] at hpL hc hk hz hX hC
        rcases cc with cc | cc
        · have ne6 : ¬ T i = nI 256 := fun z => absurd (cc.symm.trans z) (by decide)
          simp only [if_neg ne6] at hpL hc hk hz hX
          have hwj : w ≤ j := by
            rcases h3 with ⟨_, _, h3⟩ | ⟨_, rfl⟩
            · have := (pP_lt _ _ _ _ _ (by decide) h3).1; omega
            · exact Nat.le_refl _
          obtain ⟨c1, c2, c3, c4, c5, c6, c7⟩ := hC.2.2 cc
          by_cases ht0 : t = 1000
          · subst ht0
            rw [if_pos rfl] at hX
            subst hX
            exact sm_end hP hL hM (by omega) (by omega) c1 c2 (cp_tStep0 (t := 0) d _ _ hM) (fun v sc4 ar4 hM4 => hz (show ¬ (2 : Nat) = 0 by decide) (c + 1) v sc4 ar4 (by omega) hM4)
          rw [if_neg ht0, if_pos cc] at hX
          refine sm_one hP hL hM (by omega) (by omega) c1 c2 (cp_tStep d _ _ hM (by omega)) (fun sc4 ar4 hM4 => ?_)
          refine sm_ex0 hP hL h1 c3 (by omega) (by omega) hM4 (by omega) ?_ ?_
          · intro v hv5 c5' St5 sc5 ar5 hc5 hM5 hS5
            rw [bX_s hv5] at hX
            refine sm_one hP hL hM5 (by omega) (by omega) c4 rfl (cp_tSkip d _ _ hM5) (fun sc6 ar6 hM6 => ?_)
            rw [hS5]
            by_cases hv0 : v = 0
            · rw [if_pos hv0] at hX ⊢
              rcases h3 with ⟨_, c9, h3⟩ | ⟨c9, rfl⟩
              · simp only [if_pos c9] at hpL hc hk hz hX
                obtain ⟨d1, d2, d3, d4⟩ := c6 c9
                have hmo : t + 1 ≤ X.2.2.1 := by rw [← hX]; exact dX_mono _ _ _ _ _ _ _ _ _
                rw [d1]
                refine IH 2 dp lp (w + 1) j _ _ _ _ (t + 1) (c5' + 1) sc6 ar6 X (by decide) h3 d4 (by omega) hj hM6 (by omega) hX ?_ ?_
                · intro h9 c8 St8 sc8 ar8 hc8 hM8
                  have r9 := hk h9 c8 St8 sc8 ar8 (by omega) hM8
                  rw [show p + (nO T f 3 dp false (i + 1) + nO T f 2 dp false q + 2 + (nO T f 2 dp false (w + 1) + 1)) = p + 3 + nO T f 3 dp false (i + 1) + nO T f 2 dp false q + nO T f 2 dp false (w + 1) from by omega] at r9
                  exact r9
                · intro h9 c8 v8 sc8 ar8 hc8 hM8
                  exact hz h9 c8 v8 sc8 ar8 (by omega) hM8
              · have c9' : ¬ T j = nI 258 := fun z => c9 ⟨cc, z⟩
                simp only [if_neg c9', Nat.add_zero] at hpL hc hk hz hX
                subst hX
                rw [c7 c9', show p + 2 + nO T f 3 dp false (i + 1) + nO T f 2 dp false q = p + (nO T f 3 dp false (i + 1) + nO T f 2 dp false q + 2) from by omega]
                exact hk rfl (c5' + 1) _ sc6 ar6 (by show _ ≤ c + _ + 122 * (t + 1 - t); omega) hM6
            · rw [if_neg hv0] at hX ⊢
              have hmo : t + 1 ≤ X.2.2.1 := by rw [← hX]; exact dX_mono _ _ _ _ _ _ _ _ _
              rw [show p + 1 + nO T f 3 dp false (i + 1) + 1 = p + 2 + nO T f 3 dp false (i + 1) from by omega]
              refine IH 2 dp lp q w _ _ _ _ (t + 1) (c5' + 1) sc6 ar6 X (by decide) h2 c5 (by omega) (by omega) hM6 (by omega) hX ?_ ?_
              · intro h9 c8 St8 sc8 ar8 hc8 hM8
                rcases h3 with ⟨_, c9, h3⟩ | ⟨c9, rfl⟩
                · simp only [if_pos c9] at hpL hc hk hz
                  obtain ⟨d1, d2, d3, d4⟩ := c6 c9
                  refine sm_one hP hL hM8 (by omega) (by have := hM8.2.2.2.2.2.1; omega) d2 d3 (cp_tJump d _ _ hM8) (fun sc9 ar9 hM9 => ?_)
                  have r9 := hk h9 (c8 + 1) _ sc9 ar9 (by omega) hM9
                  rw [show p + (nO T f 3 dp false (i + 1) + nO T f 2 dp false q + 2 + (nO T f 2 dp false (w + 1) + 1)) = p + 3 + nO T f 3 dp false (i + 1) + nO T f 2 dp false q + nO T f 2 dp false (w + 1) from by omega] at r9
                  exact r9
                · have c9' : ¬ T j = nI 258 := fun z => c9 ⟨cc, z⟩
                  simp only [if_neg c9', Nat.add_zero] at hpL hc hk hz
                  have r9 := hk h9 c8 St8 sc8 ar8 (by omega) hM8
                  rw [show p + (nO T f 3 dp false (i + 1) + nO T f 2 dp false q + 2) = p + 2 + nO T f 3 dp false (i + 1) + nO T f 2 dp false q from by omega] at r9
                  exact r9
              · intro h9 c8 v8 sc8 ar8 hc8 hM8
                exact hz h9 c8 v8 sc8 ar8 (by split <;> omega) hM8
          · intro hv5 c5' v5 sc5 ar5 hc5 hM5
            rw [bX_n hv5] at hX
            subst hX
            exact hz (show ¬ (1 : Nat) = 0 by decide) c5' v5 sc5 ar5 (by show _ ≤ c + _ + 122 * (t + 1 - t); omega) hM5
        · obtain ⟨_, rfl⟩ := h3.resolve_left (fun z => absurd (cc.symm.trans z.1) (by decide))
          simp only [if_pos cc] at hpL hc hk hz hX
          obtain ⟨c1, c2, c3, c4, c5, c6, c7, c8⟩ := hC.2.1 cc
          refine sm_loop hP hL h1 hj (by omega) c1 c2 c3 c4 c5 c7 c8 (by omega) (fun V St s t c sc ar hM hc hk hz => IH 2 dp true q j _ V St s t c sc ar _ (by decide) h2 c6 (by omega) hj hM hc rfl hk hz) 1001 V St s t c sc ar X (by omega) hM hc hX ?_ hz
          intro h9 c8' St8 sc8 ar8 hc8 hM8
          have r9 := hk h9 c8' St8 sc8 ar8 hc8 hM8
          rw [show p + (nO T f 3 dp false (i + 1) + nO T f 2 dp false q + 3) = p + 3 + nO T f 3 dp false (i + 1) + nO T f 2 dp false q from by omega] at r9
          exact r9
    | 2, _, h, hC, hpL, hc, hX, hk, hz =>
      obtain ⟨c0, hd, q, h1, h2, rfl⟩ := pP_t2 h
      rw [nO] at hpL hc hk hz
      rw [dX_2] at hX
      rw [Cd] at hC
      exact IH 0 (dp + 1) lp (i + 1) q p V St s t c sc ar X (by decide) h1 hC hpL (by omega) hM hc hX hk hz
end SIM2
