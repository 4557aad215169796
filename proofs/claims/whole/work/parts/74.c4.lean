/-- how many operations a kind makes -/
def nO (T : Nat → Int32) : Nat → Nat → Nat → Bool → Nat → Nat
  | 0, _, _, _, _ => 0
  | f + 1, 0, dp, _, i => nO T f 1 dp false i + (if T (pE T f 1 dp i) = nI 59 then nO T f 0 dp false (pE T f 1 dp i + 1) else 0)
  | f + 1, 1, dp, _, i => if isVar (T i) = true then nO T f 3 dp false (i + 2) + 2 else if T i = nI 256 then nO T f 3 dp false (i + 1) + nO T f 2 dp false (pE T f 3 dp (i + 1)) + 3 else nO T f 3 dp false (i + 1) + nO T f 2 dp false (pE T f 3 dp (i + 1)) + 2 + (if T (pE T f 2 dp (pE T f 3 dp (i + 1))) = nI 258 then nO T f 2 dp false ((pE T f 2 dp (pE T f 3 dp (i + 1))) + 1) + 1 else 0)
  | f + 1, 2, dp, _, i => nO T f 0 (dp + 1) false (i + 1)
  | f + 1, 3, dp, _, i => nO T f 4 dp false i + (if T (pE T f 4 dp i) = nI 60 then nO T f 4 dp false (pE T f 4 dp i + 1) + 1 else 0)
  | f + 1, 4, dp, ac, i => nO T f 5 dp false i + (if ac = true then 1 else 0) + (if T (pE T f 5 dp i) = nI 43 ∨ T (pE T f 5 dp i) = nI 45 then nO T f 4 dp true (pE T f 5 dp i + 1) else 0)
  | f + 1, 5, dp, ac, i => nO T f 6 dp false i + (if ac = true then 1 else 0) + (if T (pE T f 6 dp i) = nI 42 ∨ T (pE T f 6 dp i) = nI 47 ∨ T (pE T f 6 dp i) = nI 37 then nO T f 5 dp true (pE T f 6 dp i + 1) else 0)
  | f + 1, _, dp, _, i => if isVar (T i) = true ∨ 1000 ≤ T i then 1 else nO T f 3 (dp + 1) false (i + 1)
theorem nO_6 (T : Nat → Int32) (f dp : Nat) (ac : Bool) (i : Nat) : nO T (f + 1) 6 dp ac i = if isVar (T i) = true ∨ 1000 ≤ T i then 1 else nO T f 3 (dp + 1) false (i + 1) := by
  rw [nO] <;> (intro z; cases z)
/-- the operations are no more than the tokens; if as many, the tokens are odd in number -/
theorem nO_le {T : Nat → Int32} : ∀ (f kd dp : Nat) (ac : Bool) (i j : Nat), kd < 7 → pP T f kd dp i = some (true, j) → nO T f kd dp ac i + (if kd = 2 then 2 else 0) ≤ (j - i) + (if ac = true then 1 else 0) ∧ (nO T f kd dp ac i + (if kd = 2 then 2 else 0) = (j - i) + (if ac = true then 1 else 0) → (j - i) % 2 = 1)
  | 0, _, _, _, _, _, _, h => by rw [pP] at h; cases h
  | f + 1, kd, dp, ac, i, j, hk, h => by
    have IH := nO_le (T := T) f
    have hac : (if ac = true then 1 else 0) ≤ 1 := by split <;> omega
    match kd, hk, h with
    | 0, _, h =>
      obtain ⟨q, h1, h2⟩ := pP_t0 h
      have l1 := (pP_lt _ _ _ _ _ (by decide) h1).1
      have a := IH 1 dp false i q (by decide) h1
      rw [if_neg (by decide), if_neg (by decide)] at a
      rw [nO, pE_of h1, if_neg (show ¬ 0 = 2 by decide)]
      rcases h2 with ⟨c, h2⟩ | ⟨c, rfl⟩
      · have l2 := (pP_lt _ _ _ _ _ (by decide) h2).1
        have b := IH 0 dp false (q + 1) j (by decide) h2
        rw [if_neg (by decide), if_neg (by decide)] at b
        rw [if_pos c]; omega
      · rw [if_neg c]; omega
    | 1, _, h =>
      rw [nO, if_neg (show ¬ 1 = 2 by decide)]
      rcases pP_t1 h with ⟨hv, h1, h2⟩ | ⟨hv, c, q, w, h1, h2, h3⟩
      · have l2 := (pP_lt _ _ _ _ _ (by decide) h2).1
        have a := IH 3 dp false (i + 2) j (by decide) h2
        rw [if_neg (by decide), if_neg (by decide)] at a
        rw [if_pos hv]; omega
      · have l1 := (pP_lt _ _ _ _ _ (by decide) h1).1
        have l2 := (pP_lt _ _ _ _ _ (by decide) h2).1
        have a := IH 3 dp false (i + 1) q (by decide) h1
        have b := IH 2 dp false q w (by decide) h2
        rw [if_neg (by decide), if_neg (by decide)] at a
        rw [if_pos rfl, if_neg (by decide)] at b
        rw [if_neg hv, pE_of h1, pE_of h2]
        rcases c with c | c
        · rw [if_neg (fun z => absurd (c.symm.trans z) (by decide))]
          rcases h3 with ⟨_, c3, h3⟩ | ⟨c3, rfl⟩
          · have l3 := (pP_lt _ _ _ _ _ (by decide) h3).1
            have d := IH 2 dp false (w + 1) j (by decide) h3
            rw [if_pos rfl, if_neg (by decide)] at d
            rw [if_pos c3]; omega
          · rw [if_neg (fun z => c3 ⟨c, z⟩)]; omega
        · rw [if_pos c]
          obtain ⟨_, rfl⟩ := h3.resolve_left (fun z => absurd (c.symm.trans z.1) (by decide))
          omega
    | 2, _, h =>
      obtain ⟨c, hd, q, h1, h2, rfl⟩ := pP_t2 h
      have l1 := (pP_lt _ _ _ _ _ (by decide) h1).1
      have a := IH 0 (dp + 1) false (i + 1) q (by decide) h1
      rw [if_neg (by decide), if_neg (by decide)] at a
      rw [nO, if_pos rfl]; omega
    | 3, _, h =>
      obtain ⟨q, h1, h2⟩ := pP_t3 h
      have l1 := (pP_lt _ _ _ _ _ (by decide) h1).1
      have a := IH 4 dp false i q (by decide) h1
      rw [if_neg (by decide), if_neg (by decide)] at a
      rw [nO, pE_of h1, if_neg (show ¬ 3 = 2 by decide)]
      rcases h2 with ⟨c, h2⟩ | ⟨c, rfl⟩
      · have l2 := (pP_lt _ _ _ _ _ (by decide) h2).1
        have b := IH 4 dp false (q + 1) j (by decide) h2
        rw [if_neg (by decide), if_neg (by decide)] at b
        rw [if_pos c]; omega
      · rw [if_neg c]; omega
    | 4, _, h =>
      obtain ⟨q, h1, h2⟩ := pP_t4 h
      have l1 := (pP_lt _ _ _ _ _ (by decide) h1).1
      have a := IH 5 dp false i q (by decide) h1
      rw [if_neg (by decide), if_neg (by decide)] at a
      rw [nO, pE_of h1, if_neg (show ¬ 4 = 2 by decide)]
      rcases h2 with ⟨c, h2⟩ | ⟨c, rfl⟩
      · have l2 := (pP_lt _ _ _ _ _ (by decide) h2).1
        have b := IH 4 dp true (q + 1) j (by decide) h2
        rw [if_neg (by decide), if_pos rfl] at b
        rw [if_pos c]; omega
      · rw [if_neg c]; omega
    | 5, _, h =>
      obtain ⟨q, h1, h2⟩ := pP_t5 h
      have l1 := (pP_lt _ _ _ _ _ (by decide) h1).1
      have a := IH 6 dp false i q (by decide) h1
      rw [if_neg (by decide), if_neg (by decide)] at a
      rw [nO, pE_of h1, if_neg (show ¬ 5 = 2 by decide)]
      rcases h2 with ⟨c, h2⟩ | ⟨c, rfl⟩
      · have l2 := (pP_lt _ _ _ _ _ (by decide) h2).1
        have b := IH 5 dp true (q + 1) j (by decide) h2
        rw [if_neg (by decide), if_pos rfl] at b
        rw [if_pos c]; omega
      · rw [if_neg c]; omega
    | 6, _, h =>
      rw [nO_6, if_neg (show ¬ 6 = 2 by decide)]
      rcases pP_t6 h with ⟨c, rfl⟩ | ⟨c0, c, hd, q, h1, h2, rfl⟩
      · rw [if_pos c]; omega
      · have l1 := (pP_lt _ _ _ _ _ (by decide) h1).1
        have a := IH 3 (dp + 1) false (i + 1) q (by decide) h1
        rw [if_neg (by decide), if_neg (by decide)] at a
        rw [if_neg c0]; omega
/-- the operations of a kind from p on; acc: the sign that stood ahead of it -/
def Cd (T O A : Nat → Int32) : Nat → Nat → Nat → Bool → Option Int32 → Nat → Nat → Prop
  | 0, _, _, _, _, _, _ => True
  | f + 1, 0, dp, lp, _, i, p => Cd T O A f 1 dp lp none i p ∧ (T (pE T f 1 dp i) = nI 59 → Cd T O A f 0 dp lp none (pE T f 1 dp i + 1) (p + nO T f 1 dp false i))
  | f + 1, 1, dp, lp, _, i, p => (isVar (T i) = true → O p = 4 ∧ A p = 1 ∧ Cd T O A f 3 dp false none (i + 2) (p + 1) ∧ O (p + 1 + nO T f 3 dp false (i + 2)) = 3 ∧ A (p + 1 + nO T f 3 dp false (i + 2)) = varOf (T i))
      ∧ (T i = nI 256 → O p = 4 ∧ A p = (if lp = true then 192 else 64) ∧ Cd T O A f 3 dp false none (i + 1) (p + 1) ∧ O (p + 1 + nO T f 3 dp false (i + 1)) = 5 ∧ A (p + 1 + nO T f 3 dp false (i + 1)) = nI (p + 3 + nO T f 3 dp false (i + 1) + nO T f 2 dp false (pE T f 3 dp (i + 1))) ∧ Cd T O A f 2 dp true none (pE T f 3 dp (i + 1)) (p + 2 + nO T f 3 dp false (i + 1)) ∧ O (p + 2 + nO T f 3 dp false (i + 1) + nO T f 2 dp false (pE T f 3 dp (i + 1))) = 6 ∧ A (p + 2 + nO T f 3 dp false (i + 1) + nO T f 2 dp false (pE T f 3 dp (i + 1))) = nI p)
      ∧ (T i = nI 257 → O p = 4 ∧ A p = 32 ∧ Cd T O A f 3 dp false none (i + 1) (p + 1) ∧ O (p + 1 + nO T f 3 dp false (i + 1)) = 5 ∧ Cd T O A f 2 dp lp none (pE T f 3 dp (i + 1)) (p + 2 + nO T f 3 dp false (i + 1)) ∧ (T (pE T f 2 dp (pE T f 3 dp (i + 1))) = nI 258 → A (p + 1 + nO T f 3 dp false (i + 1)) = nI (p + 3 + nO T f 3 dp false (i + 1) + nO T f 2 dp false (pE T f 3 dp (i + 1))) ∧ O (p + 2 + nO T f 3 dp false (i + 1) + nO T f 2 dp false (pE T f 3 dp (i + 1))) = 6 ∧ A (p + 2 + nO T f 3 dp false (i + 1) + nO T f 2 dp false (pE T f 3 dp (i + 1))) = nI (p + 3 + nO T f 3 dp false (i + 1) + nO T f 2 dp false (pE T f 3 dp (i + 1)) + nO T f 2 dp false ((pE T f 2 dp (pE T f 3 dp (i + 1))) + 1)) ∧ Cd T O A f 2 dp lp none ((pE T f 2 dp (pE T f 3 dp (i + 1))) + 1) (p + 3 + nO T f 3 dp false (i + 1) + nO T f 2 dp false (pE T f 3 dp (i + 1)))) ∧ (¬ T (pE T f 2 dp (pE T f 3 dp (i + 1))) = nI 258 → A (p + 1 + nO T f 3 dp false (i + 1)) = nI (p + 2 + nO T f 3 dp false (i + 1) + nO T f 2 dp false (pE T f 3 dp (i + 1)))))
  | f + 1, 2, dp, lp, _, i, p => Cd T O A f 0 (dp + 1) lp none (i + 1) p
  | f + 1, 3, dp, _, _, i, p => Cd T O A f 4 dp false none i p ∧ (T (pE T f 4 dp i) = nI 60 → Cd T O A f 4 dp false none (pE T f 4 dp i + 1) (p + nO T f 4 dp false i) ∧ O (p + nO T f 4 dp false i + nO T f 4 dp false (pE T f 4 dp i + 1)) = 60 ∧ A (p + nO T f 4 dp false i + nO T f 4 dp false (pE T f 4 dp i + 1)) = 16)
  | f + 1, 4, dp, _, acc, i, p => Cd T O A f 5 dp false none i p ∧ (∀ sg, acc = some sg → O (p + nO T f 5 dp false i) = sg ∧ A (p + nO T f 5 dp false i) = sklOf sg) ∧ (T (pE T f 5 dp i) = nI 43 ∨ T (pE T f 5 dp i) = nI 45 → Cd T O A f 4 dp false (some (T (pE T f 5 dp i))) (pE T f 5 dp i + 1) (p + nO T f 5 dp false i + (if acc.isSome = true then 1 else 0)))
  | f + 1, 5, dp, _, acc, i, p => Cd T O A f 6 dp false none i p ∧ (∀ sg, acc = some sg → O (p + nO T f 6 dp false i) = sg ∧ A (p + nO T f 6 dp false i) = sklOf sg) ∧ (T (pE T f 6 dp i) = nI 42 ∨ T (pE T f 6 dp i) = nI 47 ∨ T (pE T f 6 dp i) = nI 37 → Cd T O A f 5 dp false (some (T (pE T f 6 dp i))) (pE T f 6 dp i + 1) (p + nO T f 6 dp false i + (if acc.isSome = true then 1 else 0)))
  | f + 1, _, dp, _, _, i, p => (1000 ≤ T i → O p = 1 ∧ A p = T i - 1000) ∧ (¬ 1000 ≤ T i → isVar (T i) = true → O p = 2 ∧ A p = varOf (T i)) ∧ (¬ (isVar (T i) = true ∨ 1000 ≤ T i) → Cd T O A f 3 (dp + 1) false none (i + 1) p)
theorem Cd_6 (T O A : Nat → Int32) (f dp : Nat) (lp : Bool) (acc : Option Int32) (i p : Nat) : Cd T O A (f + 1) 6 dp lp acc i p = ((1000 ≤ T i → O p = 1 ∧ A p = T i - 1000) ∧ (¬ 1000 ≤ T i → isVar (T i) = true → O p = 2 ∧ A p = varOf (T i)) ∧ (¬ (isVar (T i) = true ∨ 1000 ≤ T i) → Cd T O A f 3 (dp + 1) false none (i + 1) p)) := by
  rw [Cd] <;> (intro z; cases z)
theorem Cd_cong {T O A O' A' : Nat → Int32} : ∀ (f kd dp : Nat) (lp : Bool) (acc : Option Int32) (i j p : Nat), kd < 7 → pP T f kd dp i = some (true, j) → (∀ x, p ≤ x → x < p + nO T f kd dp acc.isSome i → O' x = O x ∧ A' x = A x) → Cd T O A f kd dp lp acc i p → Cd T O' A' f kd dp lp acc i p
  | 0, _, _, _, _, _, _, _, _, h, _, _ => by rw [pP] at h; cases h
  | f + 1, kd, dp, lp, acc, i, j, p, hk, h, hc, hC => by
    have IH := Cd_cong (T := T) (O := O) (A := A) (O' := O') (A' := A') f
    match kd, hk, h, hc, hC with
    | 0, _, h, hc, hC =>
      obtain ⟨q, h1, h2⟩ := pP_t0 h
      rw [nO, pE_of h1] at hc
      rw [Cd, pE_of h1] at hC ⊢
      refine ⟨IH 1 dp lp none i q p (by decide) h1 (fun x a b => hc x a (by simp only [Option.isSome] at b; omega)) hC.1, fun c => ?_⟩
      obtain ⟨_, h2⟩ := h2.resolve_right (fun z => z.1 c)
      rw [if_pos c] at hc
      exact IH 0 dp lp none (q + 1) j _ (by decide) h2 (fun x a b => hc x (by omega) (by simp only [Option.isSome] at b; omega)) (hC.2 c)
    | 1, _, h, hc, hC =>
      rw [nO] at hc
      rw [Cd] at hC ⊢
      rcases pP_t1 h with ⟨hv, h1, h2⟩ | ⟨hv, c, q, w, h1, h2, h3⟩
      · refine ⟨fun _ => ?_, fun z => by rw [z] at hv; exact absurd hv (by decide), fun z => by rw [z] at hv; exact absurd hv (by decide)⟩
        rw [if_pos hv] at hc
        obtain ⟨c1, c2, c3, c4, c5⟩ := hC.1 hv
        have e1 := hc p (by omega) (by omega)
        have e2 := hc (p + 1 + nO T f 3 dp false (i + 2)) (by omega) (by omega)
        exact ⟨e1.1.trans c1, e1.2.trans c2, IH 3 dp false none (i + 2) j (p + 1) (by decide) h2 (fun x a b => hc x (by omega) (by simp only [Option.isSome] at b; omega)) c3, e2.1.trans c4, e2.2.trans c5⟩
      · rw [if_neg hv] at hc
        rw [pE_of h1, pE_of h2] at hc hC ⊢
        refine ⟨fun z => absurd z hv, fun z => ?_, fun z => ?_⟩
        · rw [if_pos z] at hc
          obtain ⟨c1, c2, c3, c4, c5, c6, c7, c8⟩ := hC.2.1 z
          have e1 := hc p (by omega) (by omega)
          have e2 := hc (p + 1 + nO T f 3 dp false (i + 1)) (by omega) (by omega)
          have e3 := hc (p + 2 + nO T f 3 dp false (i + 1) + nO T f 2 dp false q) (by omega) (by omega)
          exact ⟨e1.1.trans c1, e1.2.trans c2, IH 3 dp false none (i + 1) q (p + 1) (by decide) h1 (fun x a b => hc x (by omega) (by simp only [Option.isSome] at b; omega)) c3, e2.1.trans c4, e2.2.trans c5, IH 2 dp true none q w _ (by decide) h2 (fun x a b => hc x (by omega) (by simp only [Option.isSome] at b; omega)) c6, e3.1.trans c7, e3.2.trans c8⟩
        · rw [if_neg (fun z2 => absurd (z.symm.trans z2) (by decide))] at hc
          obtain ⟨c1, c2, c3, c4, c5, c6, c7⟩ := hC.2.2 z
          have e1 := hc p (by omega) (by omega)
          have e2 := hc (p + 1 + nO T f 3 dp false (i + 1)) (by omega) (by omega)
          refine ⟨e1.1.trans c1, e1.2.trans c2, IH 3 dp false none (i + 1) q (p + 1) (by decide) h1 (fun x a b => hc x (by omega) (by simp only [Option.isSome] at b; omega)) c3, e2.1.trans c4, IH 2 dp lp none q w _ (by decide) h2 (fun x a b => hc x (by omega) (by simp only [Option.isSome] at b; omega)) c5, fun y => ?_, fun y => e2.2.trans (c7 y)⟩
          rw [if_pos y] at hc
          obtain ⟨_, _, h3⟩ := h3.resolve_right (fun u => u.1 ⟨z, y⟩)
          obtain ⟨d1, d2, d3, d4⟩ := c6 y
          have e3 := hc (p + 2 + nO T f 3 dp false (i + 1) + nO T f 2 dp false q) (by omega) (by omega)
          exact ⟨e2.2.trans d1, e3.1.trans d2, e3.2.trans d3, IH 2 dp lp none (w + 1) j _ (by decide) h3 (fun x a b => hc x (by omega) (by simp only [Option.isSome] at b; omega)) d4⟩
    | 2, _, h, hc, hC =>
      obtain ⟨c, hd, q, h1, h2, rfl⟩ := pP_t2 h
      rw [nO] at hc
      rw [Cd] at hC ⊢
      exact IH 0 (dp + 1) lp none (i + 1) q p (by decide) h1 hc hC
    | 3, _, h, hc, hC =>
      obtain ⟨q, h1, h2⟩ := pP_t3 h
      rw [nO, pE_of h1] at hc
      rw [Cd, pE_of h1] at hC ⊢
      refine ⟨IH 4 dp false none i q p (by decide) h1 (fun x a b => hc x a (by simp only [Option.isSome] at b; omega)) hC.1, fun c => ?_⟩
      obtain ⟨_, h2⟩ := h2.resolve_right (fun z => z.1 c)
      rw [if_pos c] at hc
      obtain ⟨c1, c2, c3⟩ := hC.2 c
      have e1 := hc (p + nO T f 4 dp false i + nO T f 4 dp false (q + 1)) (by omega) (by omega)
      exact ⟨IH 4 dp false none (q + 1) j _ (by decide) h2 (fun x a b => hc x (by omega) (by simp only [Option.isSome] at b; omega)) c1, e1.1.trans c2, e1.2.trans c3⟩
    | 4, _, h, hc, hC =>
      obtain ⟨q, h1, h2⟩ := pP_t4 h
      rw [nO, pE_of h1] at hc
      rw [Cd, pE_of h1] at hC ⊢
      refine ⟨IH 5 dp false none i q p (by decide) h1 (fun x a b => hc x a (by simp only [Option.isSome] at b; omega)) hC.1, fun sg hs => ?_, fun c => ?_⟩
      · obtain ⟨c1, c2⟩ := hC.2.1 sg hs
        rw [hs, Option.isSome_some, if_pos rfl] at hc
        have e1 := hc (p + nO T f 5 dp false i) (by omega) (by omega)
        exact ⟨e1.1.trans c1, e1.2.trans c2⟩
      · obtain ⟨_, h2⟩ := h2.resolve_right (fun z => z.1 c)
        rw [if_pos c] at hc
        exact IH 4 dp false (some (T q)) (q + 1) j _ (by decide) h2 (fun x a b => hc x (by omega) (by simp only [Option.isSome_some] at b; omega)) (hC.2.2 c)
    | 5, _, h, hc, hC =>
      obtain ⟨q, h1, h2⟩ := pP_t5 h
      rw [nO, pE_of h1] at hc
      rw [Cd, pE_of h1] at hC ⊢
      refine ⟨IH 6 dp false none i q p (by decide) h1 (fun x a b => hc x a (by simp only [Option.isSome] at b; omega)) hC.1, fun sg hs => ?_, fun c => ?_⟩
      · obtain ⟨c1, c2⟩ := hC.2.1 sg hs
        rw [hs, Option.isSome_some, if_pos rfl] at hc
        have e1 := hc (p + nO T f 6 dp false i) (by omega) (by omega)
        exact ⟨e1.1.trans c1, e1.2.trans c2⟩
      · obtain ⟨_, h2⟩ := h2.resolve_right (fun z => z.1 c)
        rw [if_pos c] at hc
        exact IH 5 dp false (some (T q)) (q + 1) j _ (by decide) h2 (fun x a b => hc x (by omega) (by simp only [Option.isSome_some] at b; omega)) (hC.2.2 c)
    | 6, _, h, hc, hC =>
      rw [nO_6] at hc
      rw [Cd_6] at hC ⊢
      rcases pP_t6 h with ⟨c, rfl⟩ | ⟨c0, c, hd, q, h1, h2, rfl⟩
      · rw [if_pos c] at hc
        have e1 := hc p (by omega) (by omega)
        exact ⟨fun z => ⟨e1.1.trans (hC.1 z).1, e1.2.trans (hC.1 z).2⟩, fun z y => ⟨e1.1.trans (hC.2.1 z y).1, e1.2.trans (hC.2.1 z y).2⟩, fun z => absurd c z⟩
      · rw [if_neg c0] at hc
        exact ⟨fun z => absurd (Or.inr z) c0, fun _ z => absurd (Or.inl z) c0, fun z => IH 3 (dp + 1) false none (i + 1) q p (by decide) h1 hc (hC.2.2 z)⟩
