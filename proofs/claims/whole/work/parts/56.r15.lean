/-- where a kind ends -/
def pE (T : Nat → Int32) (f kd dp i : Nat) : Nat := match pP T f kd dp i with
  | some q => q.2
  | none => i
theorem pE_of {T : Nat → Int32} {f kd dp i : Nat} {b : Bool} {j : Nat} (h : pP T f kd dp i = some (b, j)) : pE T f kd dp i = j := by unfold pE; rw [h]
theorem pP_t0 {T : Nat → Int32} {f dp i j : Nat} (h : pP T (f + 1) 0 dp i = some (true, j)) : ∃ q, pP T f 1 dp i = some (true, q) ∧ (T q = nI 59 ∧ pP T f 0 dp (q + 1) = some (true, j) ∨ ¬ T q = nI 59 ∧ j = q) := by
  rw [pP] at h
  cases hz : pP T f 1 dp i with
  | none => rw [hz] at h; cases h
  | some q =>
    rw [hz, Option.bind_some] at h
    obtain ⟨b, q⟩ := q
    cases b with
    | false => rw [if_pos rfl] at h; cases h
    | true =>
      rw [if_neg (fun z => Bool.noConfusion z)] at h
      refine ⟨q, rfl, ?_⟩
      by_cases c : T q = nI 59
      · rw [if_pos c] at h; exact Or.inl ⟨c, h⟩
      · rw [if_neg c] at h; cases h; exact Or.inr ⟨c, rfl⟩
theorem pP_t1 {T : Nat → Int32} {f dp i j : Nat} (h : pP T (f + 1) 1 dp i = some (true, j)) : (isVar (T i) = true ∧ T (i + 1) = nI 61 ∧ pP T f 3 dp (i + 2) = some (true, j)) ∨ (¬ isVar (T i) = true ∧ (T i = nI 257 ∨ T i = nI 256) ∧ ∃ q w, pP T f 3 dp (i + 1) = some (true, q) ∧ pP T f 2 dp q = some (true, w) ∧ (T i = nI 257 ∧ T w = nI 258 ∧ pP T f 2 dp (w + 1) = some (true, j) ∨ ¬ (T i = nI 257 ∧ T w = nI 258) ∧ j = w)) := by
  rw [pP] at h
  by_cases c : isVar (T i) = true
  · rw [if_pos c] at h
    by_cases c2 : T (i + 1) = nI 61
    · rw [if_pos c2] at h; exact Or.inl ⟨c, c2, h⟩
    · rw [if_neg c2] at h; cases h
  · rw [if_neg c] at h
    by_cases c2 : T i = nI 257 ∨ T i = nI 256
    · rw [if_pos c2] at h
      cases hz : pP T f 3 dp (i + 1) with
      | none => rw [hz] at h; cases h
      | some q =>
        rw [hz, Option.bind_some] at h
        obtain ⟨b, q⟩ := q
        cases b with
        | false => rw [if_pos rfl] at h; cases h
        | true =>
          rw [if_neg (fun z => Bool.noConfusion z)] at h
          cases hy : pP T f 2 dp q with
          | none => simp only [hy] at h; cases h
          | some w =>
            simp only [hy, Option.bind_some] at h
            obtain ⟨b, w⟩ := w
            cases b with
            | false => rw [if_pos rfl] at h; cases h
            | true =>
              rw [if_neg (fun z => Bool.noConfusion z)] at h
              refine Or.inr ⟨c, c2, q, w, rfl, hy, ?_⟩
              by_cases c3 : T i = nI 257 ∧ T w = nI 258
              · rw [if_pos c3] at h; exact Or.inl ⟨c3.1, c3.2, h⟩
              · rw [if_neg c3] at h; cases h; exact Or.inr ⟨c3, rfl⟩
    · rw [if_neg c2] at h; cases h
theorem pP_t2 {T : Nat → Int32} {f dp i j : Nat} (h : pP T (f + 1) 2 dp i = some (true, j)) : T i = nI 123 ∧ dp < 10 ∧ ∃ q, pP T f 0 (dp + 1) (i + 1) = some (true, q) ∧ T q = nI 125 ∧ j = q + 1 := by
  rw [pP] at h
  by_cases c : T i = nI 123 ∧ dp < 10
  · rw [if_pos c] at h
    cases hz : pP T f 0 (dp + 1) (i + 1) with
    | none => rw [hz] at h; cases h
    | some q =>
      rw [hz, Option.bind_some] at h
      obtain ⟨b, q⟩ := q
      cases b with
      | false => rw [if_pos rfl] at h; cases h
      | true =>
        rw [if_neg (fun z => Bool.noConfusion z)] at h
        by_cases c2 : T q = nI 125
        · rw [if_pos c2] at h; cases h; exact ⟨c.1, c.2, q, rfl, c2, rfl⟩
        · rw [if_neg c2] at h; cases h
  · rw [if_neg c] at h; cases h
theorem pP_t6 {T : Nat → Int32} {f dp i j : Nat} (h : pP T (f + 1) 6 dp i = some (true, j)) : ((isVar (T i) = true ∨ 1000 ≤ T i) ∧ j = i + 1) ∨ (¬ (isVar (T i) = true ∨ 1000 ≤ T i) ∧ T i = nI 40 ∧ dp < 10 ∧ ∃ q, pP T f 3 (dp + 1) (i + 1) = some (true, q) ∧ T q = nI 41 ∧ j = q + 1) := by
  rw [pP_6] at h
  by_cases c0 : isVar (T i) = true ∨ 1000 ≤ T i
  · rw [if_pos c0] at h; cases h; exact Or.inl ⟨c0, rfl⟩
  · rw [if_neg c0] at h
    by_cases c : T i = nI 40 ∧ dp < 10
    · rw [if_pos c] at h
      cases hz : pP T f 3 (dp + 1) (i + 1) with
      | none => rw [hz] at h; cases h
      | some q =>
        rw [hz, Option.bind_some] at h
        obtain ⟨b, q⟩ := q
        cases b with
        | false => rw [if_pos rfl] at h; cases h
        | true =>
          rw [if_neg (fun z => Bool.noConfusion z)] at h
          by_cases c2 : T q = nI 41
          · rw [if_pos c2] at h; cases h; exact Or.inr ⟨c0, c.1, c.2, q, rfl, c2, rfl⟩
          · rw [if_neg c2] at h; cases h
    · rw [if_neg c] at h; cases h
theorem pP_t3 {T : Nat → Int32} {f dp i j : Nat} (h : pP T (f + 1) 3 dp i = some (true, j)) : ∃ q, pP T f 4 dp i = some (true, q) ∧ ((T q = nI 60) ∧ pP T f 4 dp (q + 1) = some (true, j) ∨ ¬ (T q = nI 60) ∧ j = q) := by
  rw [pP] at h
  cases hz : pP T f 4 dp i with
  | none => rw [hz] at h; cases h
  | some q =>
    rw [hz, Option.bind_some] at h
    obtain ⟨b, q⟩ := q
    cases b with
    | false => rw [if_pos rfl] at h; cases h
    | true =>
      rw [if_neg (fun z => Bool.noConfusion z)] at h
      refine ⟨q, rfl, ?_⟩
      by_cases c : T q = nI 60
      · rw [if_pos c] at h; exact Or.inl ⟨c, h⟩
      · rw [if_neg c] at h; cases h; exact Or.inr ⟨c, rfl⟩
theorem pP_t4 {T : Nat → Int32} {f dp i j : Nat} (h : pP T (f + 1) 4 dp i = some (true, j)) : ∃ q, pP T f 5 dp i = some (true, q) ∧ ((T q = nI 43 ∨ T q = nI 45) ∧ pP T f 4 dp (q + 1) = some (true, j) ∨ ¬ (T q = nI 43 ∨ T q = nI 45) ∧ j = q) := by
  rw [pP] at h
  cases hz : pP T f 5 dp i with
  | none => rw [hz] at h; cases h
  | some q =>
    rw [hz, Option.bind_some] at h
    obtain ⟨b, q⟩ := q
    cases b with
    | false => rw [if_pos rfl] at h; cases h
    | true =>
      rw [if_neg (fun z => Bool.noConfusion z)] at h
      refine ⟨q, rfl, ?_⟩
      by_cases c : T q = nI 43 ∨ T q = nI 45
      · rw [if_pos c] at h; exact Or.inl ⟨c, h⟩
      · rw [if_neg c] at h; cases h; exact Or.inr ⟨c, rfl⟩
theorem pP_t5 {T : Nat → Int32} {f dp i j : Nat} (h : pP T (f + 1) 5 dp i = some (true, j)) : ∃ q, pP T f 6 dp i = some (true, q) ∧ ((T q = nI 42 ∨ T q = nI 47 ∨ T q = nI 37) ∧ pP T f 5 dp (q + 1) = some (true, j) ∨ ¬ (T q = nI 42 ∨ T q = nI 47 ∨ T q = nI 37) ∧ j = q) := by
  rw [pP] at h
  cases hz : pP T f 6 dp i with
  | none => rw [hz] at h; cases h
  | some q =>
    rw [hz, Option.bind_some] at h
    obtain ⟨b, q⟩ := q
    cases b with
    | false => rw [if_pos rfl] at h; cases h
    | true =>
      rw [if_neg (fun z => Bool.noConfusion z)] at h
      refine ⟨q, rfl, ?_⟩
      by_cases c : T q = nI 42 ∨ T q = nI 47 ∨ T q = nI 37
      · rw [if_pos c] at h; exact Or.inl ⟨c, h⟩
      · rw [if_neg c] at h; cases h; exact Or.inr ⟨c, rfl⟩
theorem pP_lt {T : Nat → Int32} : ∀ (f kd dp i j : Nat), kd < 7 → pP T f kd dp i = some (true, j) → i < j ∧ ¬ T (j - 1) = 0 ∧ ¬ T i = 0
  | 0, _, _, _, _, _, h => by rw [pP] at h; cases h
  | f + 1, kd, dp, i, j, hk, h => by
    have IH := pP_lt (T := T) f
    match kd, hk, h with
    | 0, _, h =>
      obtain ⟨q, h1, h2⟩ := pP_t0 h
      have a := IH _ _ _ _ (by decide) h1
      rcases h2 with ⟨_, h2⟩ | ⟨_, rfl⟩
      · have b := IH _ _ _ _ (by decide) h2
        exact ⟨by omega, b.2.1, a.2.2⟩
      · exact a
    | 1, _, h =>
      rcases pP_t1 h with ⟨c, _, h2⟩ | ⟨_, c, q, w, h1, h2, h3⟩
      · have b := IH _ _ _ _ (by decide) h2
        exact ⟨by omega, b.2.1, (isVar_pos c).1⟩
      · have a := IH _ _ _ _ (by decide) h1
        have b := IH _ _ _ _ (by decide) h2
        have c0 : ¬ T i = 0 := c.elim (fun z => (lit_pos z (by decide) (by decide)).1) (fun z => (lit_pos z (by decide) (by decide)).1)
        rcases h3 with ⟨_, _, h3⟩ | ⟨_, rfl⟩
        · have e := IH _ _ _ _ (by decide) h3
          exact ⟨by omega, e.2.1, c0⟩
        · exact ⟨by omega, b.2.1, c0⟩
    | 2, _, h =>
      obtain ⟨c, _, q, h1, h2, rfl⟩ := pP_t2 h
      have a := IH _ _ _ _ (by decide) h1
      exact ⟨by omega, (lit_pos h2 (by decide) (by decide)).1, (lit_pos c (by decide) (by decide)).1⟩
    | 3, _, h =>
      obtain ⟨q, h1, h2⟩ := pP_t3 h
      have a := IH _ _ _ _ (by decide) h1
      rcases h2 with ⟨_, h2⟩ | ⟨_, rfl⟩
      · have b := IH _ _ _ _ (by decide) h2
        exact ⟨by omega, b.2.1, a.2.2⟩
      · exact a
    | 4, _, h =>
      obtain ⟨q, h1, h2⟩ := pP_t4 h
      have a := IH _ _ _ _ (by decide) h1
      rcases h2 with ⟨_, h2⟩ | ⟨_, rfl⟩
      · have b := IH _ _ _ _ (by decide) h2
        exact ⟨by omega, b.2.1, a.2.2⟩
      · exact a
    | 5, _, h =>
      obtain ⟨q, h1, h2⟩ := pP_t5 h
      have a := IH _ _ _ _ (by decide) h1
      rcases h2 with ⟨_, h2⟩ | ⟨_, rfl⟩
      · have b := IH _ _ _ _ (by decide) h2
        exact ⟨by omega, b.2.1, a.2.2⟩
      · exact a
    | 6, _, h =>
      rcases pP_t6 h with ⟨c, rfl⟩ | ⟨_, c, _, q, h1, h2, rfl⟩
      · have z := (c.elim isVar_pos big_pos).1
        exact ⟨by omega, z, z⟩
      · have a := IH _ _ _ _ (by decide) h1
        exact ⟨by omega, (lit_pos h2 (by decide) (by decide)).1, (lit_pos c (by decide) (by decide)).1⟩
/-- with so much fuel the grammar comes to an end -/
theorem pP_tot {T : Nat → Int32} (hT : T 120 = 0 ∨ T 120 = -2) : ∀ (f kd dp i : Nat), kd < 7 → i ≤ 120 → 7 * (121 - i) + (7 - kd) ≤ f → ∃ b j, pP T f kd dp i = some (b, j) ∧ i ≤ j ∧ j ≤ 120
  | 0, _, _, _, _, _, h => by omega
  | f + 1, kd, dp, i, hk, hi, h => by
    have IH := pP_tot hT f
    have lt : ∀ {k c : Nat}, k ≤ 120 → T k = nI c → 0 < c → c < 2 ^ 31 → k < 120 := fun {k c} hk h h0 h1 => by
      rcases Nat.lt_or_ge k 120 with z | z
      · exact z
      · obtain rfl : k = 120 := by omega
        have := lit_pos h h0 h1
        exact hT.elim (fun z => absurd z this.1) (fun z => absurd z this.2)
    have ltv : (isVar (T i) = true ∨ 1000 ≤ T i) → i < 120 := fun c => by
      rcases Nat.lt_or_ge i 120 with z | z
      · exact z
      · obtain rfl : i = 120 := by omega
        have := c.elim isVar_pos big_pos
        exact hT.elim (fun z => absurd z this.1) (fun z => absurd z this.2)
    match kd, hk with
    | 0, _ =>
      obtain ⟨b, q, h1, g1, g2⟩ := IH 1 dp i (by decide) hi (by omega)
      rw [pP, h1, Option.bind_some]
      cases b with
      | false => exact ⟨_, _, if_pos rfl, g1, g2⟩
      | true =>
        rw [if_neg (fun z => Bool.noConfusion z)]
        by_cases c : T q = nI 59
        · have := lt g2 c (by decide) (by decide)
          have := (pP_lt _ _ _ _ _ (by decide) h1).1
          obtain ⟨b, j, h2, g3, g4⟩ := IH 0 dp (q + 1) (by decide) (by omega) (by omega)
          rw [if_pos c]; exact ⟨b, j, h2, by omega, g4⟩
        · rw [if_neg c]; exact ⟨_, _, rfl, g1, g2⟩
    | 1, _ =>
      rw [pP]
      by_cases c : isVar (T i) = true
      · rw [if_pos c]
        have := ltv (Or.inl c)
        by_cases c2 : T (i + 1) = nI 61
        · have := lt (k := i + 1) (by omega) c2 (by decide) (by decide)
          obtain ⟨b, j, h2, g3, g4⟩ := IH 3 dp (i + 2) (by decide) (by omega) (by omega)
          rw [if_pos c2]; exact ⟨b, j, h2, by omega, g4⟩
        · rw [if_neg c2]; exact ⟨_, _, rfl, by omega, by omega⟩
      · rw [if_neg c]
        by_cases c2 : T i = nI 257 ∨ T i = nI 256
        · have hi2 : i < 120 := c2.elim (fun z => lt hi z (by decide) (by decide)) (fun z => lt hi z (by decide) (by decide))
          obtain ⟨b, q, h1, g1, g2⟩ := IH 3 dp (i + 1) (by decide) (by omega) (by omega)
          rw [if_pos c2, h1, Option.bind_some]
          cases b with
          | false => exact ⟨_, _, if_pos rfl, by omega, g2⟩
          | true =>
            rw [if_neg (fun z => Bool.noConfusion z)]
            obtain ⟨b, w, h3, g3, g4⟩ := IH 2 dp q (by decide) (by omega) (by omega)
            simp only [h3, Option.bind_some]
            cases b with
            | false => exact ⟨_, _, if_pos rfl, by omega, g4⟩
            | true =>
              rw [if_neg (fun z => Bool.noConfusion z)]
              by_cases c3 : T i = nI 257 ∧ T w = nI 258
              · have := lt g4 c3.2 (by decide) (by decide)
                obtain ⟨b, j, h5, g5, g6⟩ := IH 2 dp (w + 1) (by decide) (by omega) (by omega)
                rw [if_pos c3]; exact ⟨b, j, h5, by omega, g6⟩
              · rw [if_neg c3]; exact ⟨_, _, rfl, by omega, g4⟩
        · rw [if_neg c2]; exact ⟨_, _, rfl, by omega, hi⟩
    | 2, _ =>
      rw [pP]
      by_cases c : T i = nI 123 ∧ dp < 10
      · have := lt hi c.1 (by decide) (by decide)
        obtain ⟨b, q, h1, g1, g2⟩ := IH 0 (dp + 1) (i + 1) (by decide) (by omega) (by omega)
        rw [if_pos c, h1, Option.bind_some]
        cases b with
        | false => exact ⟨_, _, if_pos rfl, by omega, g2⟩
        | true =>
          rw [if_neg (fun z => Bool.noConfusion z)]
          by_cases c2 : T q = nI 125
          · have := lt g2 c2 (by decide) (by decide)
            rw [if_pos c2]; exact ⟨_, _, rfl, by omega, by omega⟩
          · rw [if_neg c2]; exact ⟨_, _, rfl, by omega, g2⟩
      · rw [if_neg c]; exact ⟨_, _, rfl, by omega, hi⟩
    | 3, _ =>
      obtain ⟨b, q, h1, g1, g2⟩ := IH 4 dp i (by decide) hi (by omega)
      rw [pP, h1, Option.bind_some]
      cases b with
      | false => exact ⟨_, _, if_pos rfl, g1, g2⟩
      | true =>
        rw [if_neg (fun z => Bool.noConfusion z)]
        by_cases c : T q = nI 60
        · have : q < 120 := lt g2 c (by decide) (by decide)
          have := (pP_lt _ _ _ _ _ (by decide) h1).1
          obtain ⟨b, j, h2, g3, g4⟩ := IH 4 dp (q + 1) (by decide) (by omega) (by omega)
          rw [if_pos c]; exact ⟨b, j, h2, by omega, g4⟩
        · rw [if_neg c]; exact ⟨_, _, rfl, g1, g2⟩
    | 4, _ =>
      obtain ⟨b, q, h1, g1, g2⟩ := IH 5 dp i (by decide) hi (by omega)
      rw [pP, h1, Option.bind_some]
      cases b with
      | false => exact ⟨_, _, if_pos rfl, g1, g2⟩
      | true =>
        rw [if_neg (fun z => Bool.noConfusion z)]
        by_cases c : T q = nI 43 ∨ T q = nI 45
        · have : q < 120 := c.elim (fun z => lt g2 z (by decide) (by decide)) (fun z => lt g2 z (by decide) (by decide))
          have := (pP_lt _ _ _ _ _ (by decide) h1).1
          obtain ⟨b, j, h2, g3, g4⟩ := IH 4 dp (q + 1) (by decide) (by omega) (by omega)
          rw [if_pos c]; exact ⟨b, j, h2, by omega, g4⟩
        · rw [if_neg c]; exact ⟨_, _, rfl, g1, g2⟩
    | 5, _ =>
      obtain ⟨b, q, h1, g1, g2⟩ := IH 6 dp i (by decide) hi (by omega)
      rw [pP, h1, Option.bind_some]
      cases b with
      | false => exact ⟨_, _, if_pos rfl, g1, g2⟩
      | true =>
        rw [if_neg (fun z => Bool.noConfusion z)]
        by_cases c : T q = nI 42 ∨ T q = nI 47 ∨ T q = nI 37
        · have : q < 120 := c.elim (fun z => lt g2 z (by decide) (by decide)) (fun z => z.elim (fun z => lt g2 z (by decide) (by decide)) (fun z => lt g2 z (by decide) (by decide)))
          have := (pP_lt _ _ _ _ _ (by decide) h1).1
          obtain ⟨b, j, h2, g3, g4⟩ := IH 5 dp (q + 1) (by decide) (by omega) (by omega)
          rw [if_pos c]; exact ⟨b, j, h2, by omega, g4⟩
        · rw [if_neg c]; exact ⟨_, _, rfl, g1, g2⟩
    | 6, _ =>
      rw [pP_6]
      by_cases c0 : isVar (T i) = true ∨ 1000 ≤ T i
      · rw [if_pos c0]; exact ⟨_, _, rfl, by omega, ltv c0⟩
      · rw [if_neg c0]
        by_cases c : T i = nI 40 ∧ dp < 10
        · have := lt hi c.1 (by decide) (by decide)
          obtain ⟨b, q, h1, g1, g2⟩ := IH 3 (dp + 1) (i + 1) (by decide) (by omega) (by omega)
          rw [if_pos c, h1, Option.bind_some]
          cases b with
          | false => exact ⟨_, _, if_pos rfl, by omega, g2⟩
          | true =>
            rw [if_neg (fun z => Bool.noConfusion z)]
            by_cases c2 : T q = nI 41
            · have := lt g2 c2 (by decide) (by decide)
              rw [if_pos c2]; exact ⟨_, _, rfl, by omega, by omega⟩
            · rw [if_neg c2]; exact ⟨_, _, rfl, by omega, g2⟩
        · rw [if_neg c]; exact ⟨_, _, rfl, by omega, hi⟩
/-- the tokens of a slate; 0 behind them -/
def tz (m : Nat) (S : Nat → Int32) : Nat → Int32 := fun k => if k < m then S k else 0
theorem tz_lt {m : Nat} {S : Nat → Int32} {k : Nat} (h : k < m) : tz m S k = S k := if_pos h
theorem tz_in {m : Nat} {S : Nat → Int32} {k : Nat} (h : ¬ tz m S k = 0) : k < m := by
  rcases Nat.lt_or_ge k m with z | z
  · exact z
  · exact absurd (if_neg (by omega)) h
theorem pP_in {m : Nat} {S : Nat → Int32} {f kd dp i j : Nat} (hk : kd < 7) (h : pP (tz m S) f kd dp i = some (true, j)) : i < j ∧ j ≤ m ∧ i < m := by
  obtain ⟨a, b, c⟩ := pP_lt _ _ _ _ _ hk h
  have := tz_in b
  have := tz_in c
  omega
theorem lit_in {m : Nat} {S : Nat → Int32} {k c : Nat} (h : tz m S k = nI c) (h0 : 0 < c) (h1 : c < 2 ^ 31) : k < m := tz_in (lit_pos h h0 h1).1
/-- the value of a token that is a variable -/
def vN (t : Int32) : Nat := if t = 98 then 98 else if t = 99 then 99 else if t = 100 then 100 else if t = 114 then 114 else 97
theorem vN_of {t : Int32} (h : isVar t = true) : t = nI (vN t) := by
  unfold isVar at h
  rw [Bool.or_eq_true, Bool.and_eq_true, decide_eq_true_iff, decide_eq_true_iff, decide_eq_true_iff] at h
  rcases h with h | h
  · obtain ⟨j, hj, rfl⟩ := nI_of2 (x := t) (M := 100) (n := 100) (by decide) (Int32.not_lt.mpr (Int32.le_trans (by decide) h.1)) h.2
    have h1 : 97 ≤ j := (nI_leI (a := 97) (b := j) (by decide) (by omega)).mp h.1
    have h2 : j = 97 ∨ j = 98 ∨ j = 99 ∨ j = 100 := by omega
    rcases h2 with rfl | rfl | rfl | rfl <;> decide
  · subst h; decide
theorem vN_lt (t : Int32) : vN t < 128 := by unfold vN; repeat (first | decide | split)
def bX {α : Type} (r : Option Int32 × Int32) (k0 : Int32 → α) (k1 : Int32 → Int32 → α) : α := match r.1 with
  | none => k0 r.2
  | some v => k1 v r.2
theorem bX_n {α : Type} {r : Option Int32 × Int32} {k0 : Int32 → α} {k1 : Int32 → Int32 → α} (h : r.1 = none) : bX r k0 k1 = k0 r.2 := by unfold bX; rw [h]
theorem bX_s {α : Type} {r : Option Int32 × Int32} {k0 : Int32 → α} {k1 : Int32 → Int32 → α} {v : Int32} (h : r.1 = some v) : bX r k0 k1 = k1 v r.2 := by unfold bX; rw [h]
def tmC (acc : Option (Int32 × Int32)) (w s : Int32) : Option Int32 × Int32 := match acc with
  | none => (some w, s)
  | some (sg, v) => if sg = nI 42 then (some (v * w), s ||| 4) else if w = 0 then (none, s ||| 8) else (some (if sg = nI 47 then v / w else v - v / w * w), s ||| 8)
def smC (acc : Option (Int32 × Int32)) (w s : Int32) : Int32 × Int32 := match acc with
  | none => (w, s)
  | some (sg, v) => (if sg = nI 43 then v + w else v - w, s ||| 2)
/-- what an expression comes to: its value (none: a division by zero), and the skills shown -/
def eX (T V : Nat → Int32) : Nat → Nat → Nat → Option (Int32 × Int32) → Nat → Int32 → Option Int32 × Int32
  | 0, _, _, _, _, s => (none, s)
  | f + 1, 3, dp, _, i, s => bX (eX T V f 4 dp none i s) (fun s1 => (none, s1)) (fun v s1 => if T (pE T f 4 dp i) = nI 60 then bX (eX T V f 4 dp none (pE T f 4 dp i + 1) s1) (fun s2 => (none, s2)) (fun w s2 => (some (if v < w then 1 else 0), s2 ||| 16)) else (some v, s1))
  | f + 1, 4, dp, acc, i, s => bX (eX T V f 5 dp none i s) (fun s1 => (none, s1)) (fun w s1 => if T (pE T f 5 dp i) = nI 43 ∨ T (pE T f 5 dp i) = nI 45 then eX T V f 4 dp (some (T (pE T f 5 dp i), (smC acc w s1).1)) (pE T f 5 dp i + 1) (smC acc w s1).2 else (some (smC acc w s1).1, (smC acc w s1).2))
  | f + 1, 5, dp, acc, i, s => bX (eX T V f 6 dp none i s) (fun s1 => (none, s1)) (fun w s1 => bX (tmC acc w s1) (fun s2 => (none, s2)) (fun x s2 => if T (pE T f 6 dp i) = nI 42 ∨ T (pE T f 6 dp i) = nI 47 ∨ T (pE T f 6 dp i) = nI 37 then eX T V f 5 dp (some (T (pE T f 6 dp i), x)) (pE T f 6 dp i + 1) s2 else (some x, s2)))
  | f + 1, _, dp, _, i, s => if 1000 ≤ T i then (some (T i - 1000), s) else if T i = nI 40 then eX T V f 3 (dp + 1) none (i + 1) s else (some (V (vN (T i))), s)
theorem eX_6 (T V : Nat → Int32) (f dp : Nat) (acc : Option (Int32 × Int32)) (i : Nat) (s : Int32) : eX T V (f + 1) 6 dp acc i s = if 1000 ≤ T i then (some (T i - 1000), s) else if T i = nI 40 then eX T V f 3 (dp + 1) none (i + 1) s else (some (V (vN (T i))), s) := by
  rw [eX] <;> (intro z; cases z)
/-- the reference while it runs: at, steps, shown, isOver, ended -/
def IX (sc0 : Nat → Int32) (a t s o h : Int32) : Nat → Int32 := fun k => if k = 21 then a else if k = 22 then t else if k = 23 then s else if k = 25 then o else if k = 24 then h else sc0 k
theorem IX_21 (sc0 : Nat → Int32) (a t s o h x : Int32) : upd (IX sc0 a t s o h) 21 x = IX sc0 x t s o h := by
  funext k
  rw [upd_at]
  by_cases e : k = 21
  · subst e; rfl
  · rw [if_neg e]; unfold IX; simp only [if_neg e]
theorem IX_22 (sc0 : Nat → Int32) (a t s o h x : Int32) : upd (IX sc0 a t s o h) 22 x = IX sc0 a x s o h := by
  funext k
  rw [upd_at]
  by_cases e : k = 22
  · subst e; rfl
  · rw [if_neg e]; unfold IX; simp only [if_neg e]
theorem IX_23 (sc0 : Nat → Int32) (a t s o h x : Int32) : upd (IX sc0 a t s o h) 23 x = IX sc0 a t x o h := by
  funext k
  rw [upd_at]
  by_cases e : k = 23
  · subst e; rfl
  · rw [if_neg e]; unfold IX; simp only [if_neg e]
theorem IX_25 (sc0 : Nat → Int32) (a t s o h x : Int32) : upd (IX sc0 a t s o h) 25 x = IX sc0 a t s x h := by
  funext k
  rw [upd_at]
  by_cases e : k = 25
  · subst e; rfl
  · rw [if_neg e]; unfold IX; simp only [if_neg e]
theorem IX_24 (sc0 : Nat → Int32) (a t s o h x : Int32) : upd (IX sc0 a t s o h) 24 x = IX sc0 a t s o x := by
  funext k
  rw [upd_at]
  by_cases e : k = 24
  · subst e; rfl
  · rw [if_neg e]; unfold IX; simp only [if_neg e]
theorem va_val (ar : Nat → Nat → Int32) (V W : Nat → Int32) : va_up (va_up ar 8 V) 8 W = va_up ar 8 W := by
  funext a
  by_cases e : a = 8
  · subst e; rw [va_up_self, va_up_self]
  · rw [va_up_ne _ _ e, va_up_ne _ _ e, va_up_ne _ _ e]
def eM : Nat → Nat
  | 3 => 121
  | 4 => 120
  | 5 => 119
  | _ => 118
def eQ (sc0 : Nat → Int32) (ar0 : Nat → Nat → Int32) (V : Nat → Int32) (t h : Int32) (j : Nat) (x : Option Int32 × Int32) : Option Value → (Nat → Int32) → (Nat → Nat → Int32) → Prop := fun res sc2 ar2 => ar2 = va_up ar0 8 V ∧ ((∃ v, x.1 = some v ∧ res = some (.int v) ∧ sc2 = IX sc0 (nI j) t x.2 0 h) ∨ (x.1 = none ∧ ∃ v a, res = some (.int v) ∧ sc2 = IX sc0 a t x.2 1 1))
def eH (m : Nat) (sc0 : Nat → Int32) (ar0 : Nat → Nat → Int32) (f D : Nat) : Prop := ∀ f0, f0 ≤ f → ∀ kd, 3 ≤ kd → kd < 7 → ∀ dp i j V t s h, pP (tz m (ar0 3)) f0 kd dp i = some (true, j) → RP D (eM kd) [] (IX sc0 (nI i) t s 0 h) (va_up ar0 8 V) (eQ sc0 ar0 V t h j (eX (tz m (ar0 3)) V f0 kd dp none i s))
