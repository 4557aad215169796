abbrev StX : Type := Nat × (Nat → Int32) × Nat × Int32
def nX (r : StX) (k : (Nat → Int32) → Nat → Int32 → StX) : StX := if r.1 = 0 then k r.2.1 r.2.2.1 r.2.2.2 else r
theorem nX_0 {r : StX} {k : (Nat → Int32) → Nat → Int32 → StX} (h : r.1 = 0) : nX r k = k r.2.1 r.2.2.1 r.2.2.2 := if_pos h
theorem nX_1 {r : StX} {k : (Nat → Int32) → Nat → Int32 → StX} (h : ¬ r.1 = 0) : nX r k = r := if_neg h
theorem rb_burn1 (d : Nat) (sc0 : Nat → Int32) (ar : Nat → Nat → Int32) (a s : Int32) : RC (d + 2) 117 [] (IX sc0 a (nI 1000) s 0 0) ar (some (.int 0)) (IX sc0 a (nI 1000) s 1 (nI 2)) ar := by
  have := rc_burns d (IX sc0 a (nI 1000) s 0 0) ar
  rw [if_pos (show IX sc0 a (nI 1000) s 0 0 22 = 1000 from rfl), IX_25, IX_24] at this
  exact this
theorem rb_burn2 (d : Nat) (sc0 : Nat → Int32) (ar : Nat → Nat → Int32) (a s : Int32) {t : Nat} (ht : t < 1000) : RC (d + 2) 117 [] (IX sc0 a (nI t) s 0 0) ar (some (.int 1)) (IX sc0 a (nI (t + 1)) s 0 0) ar := by
  have h := rc_burns d (IX sc0 a (nI t) s 0 0) ar
  have ne : ¬ IX sc0 a (nI t) s 0 0 22 = 1000 := fun z => by have := (nI_eq (a := t) (b := 1000) (by omega) (by decide)).mp z; omega
  rw [if_neg ne, IX_22, show IX sc0 a (nI t) s 0 0 22 + 1 = nI (t + 1) from nI_1 t, decide_eq_false ne] at h
  exact h
/-- a loop: its condition, its body, the skill it shows -/
def wL (E : (Nat → Int32) → Int32 → Option Int32 × Int32) (Bd : (Nat → Int32) → Nat → Int32 → StX) (wb : Int32) : Nat → (Nat → Int32) → Nat → Int32 → StX
  | 0, V, t, s => (2, V, t, s)
  | m + 1, V, t, s => if t = 1000 then (2, V, t, s) else bX (E V (s ||| wb)) (fun s1 => (1, V, t + 1, s1)) (fun v s1 => if v = 0 then (0, V, t + 1, s1) else nX (Bd V (t + 1) s1) (fun V2 t2 s2 => wL E Bd wb m V2 t2 s2))
/-- a run: how it ended (0: it goes on, or is done), the variables, the steps, the skills -/
def dX (T : Nat → Int32) : Nat → Nat → Nat → Bool → Nat → (Nat → Int32) → Nat → Int32 → StX
  | 0, _, _, _, _, V, t, s => (2, V, t, s)
  | f + 1, 0, dp, lp, i, V, t, s => nX (dX T f 1 dp lp i V t s) (fun V1 t1 s1 => if T (pE T f 1 dp i) = nI 59 then dX T f 0 dp lp (pE T f 1 dp i + 1) V1 t1 s1 else (0, V1, t1, s1))
  | f + 1, 1, dp, lp, i, V, t, s => if T i = nI 256 then wL (fun V1 s1 => eX T V1 f 3 dp none (i + 1) s1) (fun V1 t1 s1 => dX T f 2 dp true (pE T f 3 dp (i + 1)) V1 t1 s1) (if lp = true then 192 else 64) 1001 V t s
      else if t = 1000 then (2, V, t, s)
      else if T i = nI 257 then bX (eX T V f 3 dp none (i + 1) (s ||| 32)) (fun s1 => (1, V, t + 1, s1)) (fun v s1 => if v = 0 then (if T (pE T f 2 dp (pE T f 3 dp (i + 1))) = nI 258 then dX T f 2 dp lp (pE T f 2 dp (pE T f 3 dp (i + 1)) + 1) V (t + 1) s1 else (0, V, t + 1, s1)) else dX T f 2 dp lp (pE T f 3 dp (i + 1)) V (t + 1) s1)
      else bX (eX T V f 3 dp none (i + 2) (s ||| 1)) (fun s1 => (1, V, t + 1, s1)) (fun v s1 => (0, upd V (vN (T i)) v, t + 1, s1))
  | f + 1, _, dp, lp, i, V, t, s => dX T f 0 (dp + 1) lp (i + 1) V t s
theorem dX_2 (T : Nat → Int32) (f dp : Nat) (lp : Bool) (i : Nat) (V : Nat → Int32) (t : Nat) (s : Int32) : dX T (f + 1) 2 dp lp i V t s = dX T f 0 (dp + 1) lp (i + 1) V t s := by
  rw [dX] <;> (intro z; cases z)
/-- the braces' ends (C) and the loops within loops (W), as the grammar has them -/
def pK (T C W : Nat → Int32) : Nat → Nat → Nat → Bool → Nat → Prop
  | 0, _, _, _, _ => True
  | f + 1, 0, dp, lp, i => pK T C W f 1 dp lp i ∧ (T (pE T f 1 dp i) = nI 59 → pK T C W f 0 dp lp (pE T f 1 dp i + 1))
  | f + 1, 1, dp, lp, i => (T i = nI 257 → pK T C W f 2 dp lp (pE T f 3 dp (i + 1)) ∧ (T (pE T f 2 dp (pE T f 3 dp (i + 1))) = nI 258 → pK T C W f 2 dp lp (pE T f 2 dp (pE T f 3 dp (i + 1)) + 1))) ∧ (T i = nI 256 → W i = zB lp ∧ pK T C W f 2 dp true (pE T f 3 dp (i + 1)))
  | f + 1, _, dp, lp, i => C i + 1 = nI (pE T f 0 (dp + 1) (i + 1) + 1) ∧ pK T C W f 0 (dp + 1) lp (i + 1)
theorem pK_2 (T C W : Nat → Int32) (f dp : Nat) (lp : Bool) (i : Nat) : pK T C W (f + 1) 2 dp lp i = (C i + 1 = nI (pE T f 0 (dp + 1) (i + 1) + 1) ∧ pK T C W f 0 (dp + 1) lp (i + 1)) := by
  rw [pK] <;> (intro z; cases z)
def bQ (sc0 : Nat → Int32) (ar0 : Nat → Nat → Int32) (j : Nat) (x : StX) : Option Value → (Nat → Int32) → (Nat → Nat → Int32) → Prop := fun res sc2 ar2 => res = none ∧ x.2.2.1 ≤ 1000 ∧ ar2 = va_up ar0 8 x.2.1 ∧ ((x.1 = 0 ∧ sc2 = IX sc0 (nI j) (nI x.2.2.1) x.2.2.2 0 0) ∨ (¬ x.1 = 0 ∧ ∃ a, sc2 = IX sc0 a (nI x.2.2.1) x.2.2.2 1 (nI x.1)))
def bH (m : Nat) (sc0 : Nat → Int32) (ar0 : Nat → Nat → Int32) (f D : Nat) : Prop := (∀ f0, f0 ≤ f → ∀ dp lp i j V t s, pP (tz m (ar0 3)) f0 0 dp i = some (true, j) → pK (tz m (ar0 3)) (ar0 4) (ar0 5) f0 0 dp lp i → t ≤ 1000 → RP D 122 [] (IX sc0 (nI i) (nI t) s 0 0) (va_up ar0 8 V) (bQ sc0 ar0 j (dX (tz m (ar0 3)) f0 0 dp lp i V t s)))
  ∧ (∀ f0, f0 ≤ f → ∀ dp lp i j V t s, pP (tz m (ar0 3)) f0 1 dp i = some (true, j) → pK (tz m (ar0 3)) (ar0 4) (ar0 5) f0 1 dp lp i → t ≤ 1000 → RP D 124 [] (IX sc0 (nI i) (nI t) s 0 0) (va_up ar0 8 V) (bQ sc0 ar0 j (dX (tz m (ar0 3)) f0 1 dp lp i V t s)))
  ∧ (∀ f0, f0 ≤ f → ∀ dp lp i j V t s, pP (tz m (ar0 3)) f0 2 dp i = some (true, j) → pK (tz m (ar0 3)) (ar0 4) (ar0 5) f0 2 dp lp i → t ≤ 1000 → RP D 123 [.int 1] (IX sc0 (nI i) (nI t) s 0 0) (va_up ar0 8 V) (bQ sc0 ar0 j (dX (tz m (ar0 3)) f0 2 dp lp i V t s)))
  ∧ (∀ f0, f0 ≤ f → ∀ dp lp i j V t s, pP (tz m (ar0 3)) f0 2 dp i = some (true, j) → pK (tz m (ar0 3)) (ar0 4) (ar0 5) f0 2 dp lp i → t ≤ 1000 → RP D 123 [.int 0] (IX sc0 (nI i) (nI t) s 0 0) (va_up ar0 8 V) (bQ sc0 ar0 j (0, V, t, s)))
theorem wL_mono {E : (Nat → Int32) → Int32 → Option Int32 × Int32} {Bd : (Nat → Int32) → Nat → Int32 → StX} {wb : Int32} (hB : ∀ V t s, t ≤ (Bd V t s).2.2.1) : ∀ m V t s, t ≤ (wL E Bd wb m V t s).2.2.1
  | 0, V, t, s => Nat.le_refl _
  | m + 1, V, t, s => by
    rw [wL]
    by_cases ht : t = 1000
    · rw [if_pos ht]; exact Nat.le_refl _
    rw [if_neg ht]
    cases h : (E V (s ||| wb)).1 with
    | none => rw [bX_n h]; exact Nat.le_succ _
    | some v =>
      rw [bX_s h]
      by_cases hv : v = 0
      · rw [if_pos hv]; exact Nat.le_succ _
      rw [if_neg hv]
      have := hB V (t + 1) (E V (s ||| wb)).2
      by_cases h0 : (Bd V (t + 1) (E V (s ||| wb)).2).1 = 0
      · rw [nX_0 h0]
        have := wL_mono (E := E) (wb := wb) hB m (Bd V (t + 1) (E V (s ||| wb)).2).2.1 (Bd V (t + 1) (E V (s ||| wb)).2).2.2.1 (Bd V (t + 1) (E V (s ||| wb)).2).2.2.2
        omega
      · rw [nX_1 h0]; omega
theorem dX_mono (T : Nat → Int32) : ∀ f kd dp lp i V t s, t ≤ (dX T f kd dp lp i V t s).2.2.1
  | 0, _, _, _, _, _, _, _ => by rw [dX]; exact Nat.le_refl _
  | f + 1, 0, dp, lp, i, V, t, s => by
    rw [dX]
    have h1 := dX_mono T f 1 dp lp i V t s
    by_cases h0 : (dX T f 1 dp lp i V t s).1 = 0
    · rw [nX_0 h0]
      by_cases c : T (pE T f 1 dp i) = nI 59
      · rw [if_pos c]; exact Nat.le_trans h1 (dX_mono T f 0 dp lp _ _ _ _)
      · rw [if_neg c]; exact h1
    · rw [nX_1 h0]; exact h1
  | f + 1, 1, dp, lp, i, V, t, s => by
    rw [dX]
    by_cases c : T i = nI 256
    · rw [if_pos c]; exact wL_mono (fun V t s => dX_mono T f 2 dp true _ V t s) _ _ _ _
    rw [if_neg c]
    by_cases c2 : t = 1000
    · rw [if_pos c2]; exact Nat.le_refl _
    rw [if_neg c2]
    by_cases c3 : T i = nI 257
    · rw [if_pos c3]
      cases h : (eX T V f 3 dp none (i + 1) (s ||| 32)).1 with
      | none => rw [bX_n h]; exact Nat.le_succ _
      | some v =>
        rw [bX_s h]
        by_cases hv : v = 0
        · rw [if_pos hv]
          by_cases c4 : T (pE T f 2 dp (pE T f 3 dp (i + 1))) = nI 258
          · rw [if_pos c4]; exact Nat.le_trans (Nat.le_succ _) (dX_mono T f 2 dp lp _ _ _ _)
          · rw [if_neg c4]; exact Nat.le_succ _
        · rw [if_neg hv]; exact Nat.le_trans (Nat.le_succ _) (dX_mono T f 2 dp lp _ _ _ _)
    · rw [if_neg c3]
      cases h : (eX T V f 3 dp none (i + 2) (s ||| 1)).1 with
      | none => rw [bX_n h]; exact Nat.le_succ _
      | some v => rw [bX_s h]; exact Nat.le_succ _
  | f + 1, kd + 2, dp, lp, i, V, t, s => by
    rw [show dX T (f + 1) (kd + 2) dp lp i V t s = dX T f 0 (dp + 1) lp (i + 1) V t s from by rw [dX] <;> (intro z; omega)]
    exact dX_mono T f 0 _ _ _ _ _ _
set_option maxHeartbeats 4000000 in
set_option maxRecDepth 20000 in
theorem rl_block {m : Nat} {sc0 : Nat → Int32} {ar0 : Nat → Nat → Int32} {f : Nat} (hm : sc0 16 = nI m) (hm2 : m ≤ 120) (H : bH m sc0 ar0 f (2 * f + 11)) : ∀ f1, f1 ≤ f + 1 → ∀ dp lp i j V t s X fx al n g0 r Q, pP (tz m (ar0 3)) f1 0 dp i = some (true, j) → pK (tz m (ar0 3)) (ar0 4) (ar0 5) f1 0 dp lp i → t ≤ 1000 → dX (tz m (ar0 3)) f1 0 dp lp i V t s = X → (∀ res sc2 ar2 g2, bQ sc0 ar0 j X res sc2 ar2 → RR al n g2 r sc2 ar2 → rf_fr r g0 g2 → Q (.inl res) al n g2) → pr fx (px_body pm_X10_block) (2 * f + 11) Q al n g0 r (IX sc0 (nI i) (nI t) s 0 0) (va_up ar0 8 V) 0 [.ref (al r)] []
  | 0, _, _, _, _, _, _, _, _, _, _, _, _, _, _, _, h, _, _, _, _ => by rw [pP] at h; cases h
  | f1 + 1, hf, dp, lp, i, j, V, t, s, X, fx, al, n, g0, r, Q, h, hK, ht, hX, hQ => by
    obtain ⟨q, hq, hr⟩ := pP_t0 h
    rw [dX, pE_of hq] at hX
    rw [pK, pE_of hq] at hK
    have hq9 := pP_in (by decide) hq
    refine pr_aload_n dX10_block_0 rfl rfl ?_
    refine pr_callP dX10_block_1 cl_X10_225 (H.2.1 f1 (by omega) dp lp i q V t s hq hK.1 ht) rfl rfl (Nat.le_of_ble_eq_true rfl) ⟨rfl, rfl⟩ (fun res sc2 ar2 hn => ?_)
    rcases hn with ⟨rfl, hth0, rfl, ⟨h0, rfl⟩ | ⟨h0, a, rfl⟩⟩
    ·
      refine pr_aload_n dX10_block_4 rfl rfl ?_
      refine pr_getS (v := (0)) dX10_block_5 fk_X10_193 rfl rfl ?_
      refine pr_if_ne (tgt := 36) dX10_block_8 (by decide) (fun c8 => absurd c8 (by decide)) (fun _ => ?_)
      refine pr_aload_n dX10_block_11 rfl rfl ?_
      refine pr_getS (v := (nI q)) dX10_block_12 fk_X10_207 rfl rfl ?_
      refine pr_aload_n dX10_block_15 rfl rfl ?_
      refine pr_getS (v := (nI m)) dX10_block_16 fk_X10_184 rfl hm ?_
      refine pr_icmp_eq (tgt := 36) dX10_block_19 (by decide) (fun c19 => ?_) (fun c19 => ?_)
      ·
        obtain ⟨hn, rfl⟩ := hr.resolve_left (fun z => by have e9 := (nI_eq (a := q) (b := m) (by omega) (by omega)).mp c19; have := lit_in z.1 (by decide) (by decide); omega)
        rw [nX_0 h0, if_neg hn] at hX
        subst hX
        exact pr_vretP hQ dX10_block_36 rfl ⟨rfl, hth0, rfl, Or.inl ⟨rfl, rfl⟩⟩
      ·
        have hq2 : q < m := by
          have z : ¬ q = m := fun z => c19 (by rw [z])
          omega
        refine pr_aload_n dX10_block_22 rfl rfl ?_
        refine pr_getA dX10_block_23 fk_X10_24 rfl ?_
        refine pr_aload_n dX10_block_26 rfl rfl ?_
        refine pr_getS (v := (nI q)) dX10_block_27 fk_X10_207 rfl rfl ?_
        refine pr_iald (v := (tz m (ar0 3) q)) (j := q) dX10_block_30 (by decide) rfl rfl (by show q < 120; omega) (tz_lt (by omega)).symm ?_
        refine pr_bipush dX10_block_31 (show (Int8.ofInt (59)).toInt32 = (59) by decide) ?_
        refine pr_icmp_eq (tgt := 37) dX10_block_33 (by decide) (fun c33 => ?_) (fun c33 => ?_)
        ·
          obtain ⟨_, hq3⟩ := hr.resolve_right (fun z => z.1 c33)
          rw [nX_0 h0, if_pos (show tz m (ar0 3) q = nI 59 from c33)] at hX
          refine pr_aload_n dX10_block_37 rfl rfl ?_
          refine pr_dup dX10_block_38 rfl ?_
          refine pr_getS (v := (nI q)) dX10_block_39 fk_X10_207 rfl rfl ?_
          refine pr_iconst dX10_block_42 (show Int32.ofInt (1) = (1) by decide) ?_
          refine pr_iadd dX10_block_43 ?_
          rw [nI_1]
          refine pr_put dX10_block_44 fk_X10_207 rfl ⟨_, _, _, rfl, rfl⟩ rfl rfl ?_
          rw [IX_21]
          refine pr_goto (tgt := 0) dX10_block_47 (by decide) ?_
          exact rl_block hm hm2 H f1 (by omega) dp lp (q + 1) j _ _ _ X fx al n g0 r Q hq3 (hK.2 c33) hth0 hX hQ
        ·
          obtain ⟨hn, rfl⟩ := hr.resolve_left (fun z => c33 z.1)
          rw [nX_0 h0, if_neg hn] at hX
          subst hX
          exact pr_vretP hQ dX10_block_36 rfl ⟨rfl, hth0, rfl, Or.inl ⟨rfl, rfl⟩⟩
    ·
      refine pr_aload_n dX10_block_4 rfl rfl ?_
      refine pr_getS (v := (1)) dX10_block_5 fk_X10_193 rfl rfl ?_
      refine pr_if_ne (tgt := 36) dX10_block_8 (by decide) (fun _ => ?_) (fun c8 => absurd c8 (by decide))
      rw [nX_1 h0] at hX
      subst hX
      exact pr_vretP hQ dX10_block_36 rfl ⟨rfl, hth0, rfl, Or.inr ⟨h0, _, rfl⟩⟩
set_option maxHeartbeats 4000000 in
set_option maxRecDepth 20000 in
theorem rb_braces1 {m : Nat} {sc0 : Nat → Int32} {ar0 : Nat → Nat → Int32} {f : Nat} (hm : sc0 16 = nI m) (hm2 : m ≤ 120) (H : bH m sc0 ar0 f (2 * f + 11)) {f1 : Nat} (hf : f1 ≤ f) {dp : Nat} {lp : Bool} {i j : Nat} {V : Nat → Int32} {t : Nat} {s : Int32} (h : pP (tz m (ar0 3)) (f1 + 1) 2 dp i = some (true, j)) (hK : pK (tz m (ar0 3)) (ar0 4) (ar0 5) (f1 + 1) 2 dp lp i) (ht : t ≤ 1000) : RP (2 * f + 13) 123 [.int 1] (IX sc0 (nI i) (nI t) s 0 0) (va_up ar0 8 V) (bQ sc0 ar0 j (dX (tz m (ar0 3)) (f1 + 1) 2 dp lp i V t s)) := by
  refine RP.of pm_X10_braces rfl rfl (Nat.le_of_ble_eq_true rfl) ?_
  intro fx al n g0 r Q hQ
  show pr fx (px_body pm_X10_braces) (2 * f + 12) Q al n g0 r (IX sc0 (nI i) (nI t) s 0 0) (va_up ar0 8 V) 0 [.ref (al r), .int 1, .float 0] []
  generalize hX : dX (tz m (ar0 3)) (f1 + 1) 2 dp lp i V t s = X at hQ
  obtain ⟨hti, hdp, q, hq, htq, rfl⟩ := pP_t2 h
  rw [pK_2, pE_of hq] at hK
  have hi := lit_in hti (by decide) (by decide)
  rw [dX_2] at hX
  refine pr_aload_n dX10_braces_0 rfl rfl ?_
  refine pr_getA dX10_braces_1 fk_X10_27 rfl ?_
  refine pr_aload_n dX10_braces_4 rfl rfl ?_
  refine pr_getS (v := (nI i)) dX10_braces_5 fk_X10_207 rfl rfl ?_
  refine pr_iald (v := (ar0 4 i)) (j := i) dX10_braces_8 (by decide) rfl rfl (by show i < 120; omega) rfl ?_
  refine pr_istore_n dX10_braces_9 (Nat.le_of_ble_eq_true rfl) ?_
  refine pr_aload_n dX10_braces_10 rfl rfl ?_
  refine pr_dup dX10_braces_11 rfl ?_
  refine pr_getS (v := (nI i)) dX10_braces_12 fk_X10_207 rfl rfl ?_
  refine pr_iconst dX10_braces_15 (show Int32.ofInt (1) = (1) by decide) ?_
  refine pr_iadd dX10_braces_16 ?_
  rw [nI_1]
  refine pr_put dX10_braces_17 fk_X10_207 rfl ⟨_, _, _, rfl, rfl⟩ rfl rfl ?_
  rw [IX_21]
  refine pr_iload_n dX10_braces_20 rfl ?_
  refine pr_if_eq (tgt := 28) dX10_braces_21 (by decide) (fun c21 => absurd c21 (by decide)) (fun _ => ?_)
  refine pr_aload_n dX10_braces_24 rfl rfl ?_
  refine pr_callP dX10_braces_25 cl_X10_228 ((H.1 f1 hf (dp + 1) lp (i + 1) q V t s hq hK.2 ht).le (by omega)) rfl rfl (Nat.le_of_ble_eq_true rfl) ⟨rfl, rfl⟩ (fun res sc2 ar2 hn => ?_)
  rcases hn with ⟨rfl, hth0, rfl, ⟨h0, rfl⟩ | ⟨h0, a, rfl⟩⟩
  ·
    refine pr_aload_n dX10_braces_28 rfl rfl ?_
    refine pr_getS (v := (0)) dX10_braces_29 fk_X10_193 rfl rfl ?_
    refine pr_if_ne (tgt := 42) dX10_braces_32 (by decide) (fun c32 => absurd c32 (by decide)) (fun _ => ?_)
    refine pr_aload_n dX10_braces_35 rfl rfl ?_
    refine pr_iload_n dX10_braces_36 rfl ?_
    refine pr_iconst dX10_braces_37 (show Int32.ofInt (1) = (1) by decide) ?_
    refine pr_iadd dX10_braces_38 ?_
    rw [hK.1]
    refine pr_put dX10_braces_39 fk_X10_207 rfl ⟨_, _, _, rfl, rfl⟩ rfl rfl ?_
    rw [IX_21]
    subst hX
    exact pr_vretP hQ dX10_braces_42 rfl ⟨rfl, hth0, rfl, Or.inl ⟨h0, rfl⟩⟩
  ·
    refine pr_aload_n dX10_braces_28 rfl rfl ?_
    refine pr_getS (v := (1)) dX10_braces_29 fk_X10_193 rfl rfl ?_
    refine pr_if_ne (tgt := 42) dX10_braces_32 (by decide) (fun _ => ?_) (fun c32 => absurd c32 (by decide))
    subst hX
    exact pr_vretP hQ dX10_braces_42 rfl ⟨rfl, hth0, rfl, Or.inr ⟨h0, _, rfl⟩⟩
set_option maxHeartbeats 4000000 in
set_option maxRecDepth 20000 in
theorem rb_braces0 {m : Nat} {sc0 : Nat → Int32} {ar0 : Nat → Nat → Int32} {f : Nat} (hm : sc0 16 = nI m) (hm2 : m ≤ 120) (H : bH m sc0 ar0 f (2 * f + 11)) {f1 : Nat} (hf : f1 ≤ f) {dp : Nat} {lp : Bool} {i j : Nat} {V : Nat → Int32} {t : Nat} {s : Int32} (h : pP (tz m (ar0 3)) (f1 + 1) 2 dp i = some (true, j)) (hK : pK (tz m (ar0 3)) (ar0 4) (ar0 5) (f1 + 1) 2 dp lp i) (ht : t ≤ 1000) : RP (2 * f + 13) 123 [.int 0] (IX sc0 (nI i) (nI t) s 0 0) (va_up ar0 8 V) (bQ sc0 ar0 j ((0, V, t, s))) := by
  refine RP.of pm_X10_braces rfl rfl (Nat.le_of_ble_eq_true rfl) ?_
  intro fx al n g0 r Q hQ
  show pr fx (px_body pm_X10_braces) (2 * f + 12) Q al n g0 r (IX sc0 (nI i) (nI t) s 0 0) (va_up ar0 8 V) 0 [.ref (al r), .int 0, .float 0] []
  generalize hX : (0, V, t, s) = X at hQ
  obtain ⟨hti, hdp, q, hq, htq, rfl⟩ := pP_t2 h
  rw [pK_2, pE_of hq] at hK
  have hi := lit_in hti (by decide) (by decide)
  refine pr_aload_n dX10_braces_0 rfl rfl ?_
  refine pr_getA dX10_braces_1 fk_X10_27 rfl ?_
  refine pr_aload_n dX10_braces_4 rfl rfl ?_
  refine pr_getS (v := (nI i)) dX10_braces_5 fk_X10_207 rfl rfl ?_
  refine pr_iald (v := (ar0 4 i)) (j := i) dX10_braces_8 (by decide) rfl rfl (by show i < 120; omega) rfl ?_
  refine pr_istore_n dX10_braces_9 (Nat.le_of_ble_eq_true rfl) ?_
  refine pr_aload_n dX10_braces_10 rfl rfl ?_
  refine pr_dup dX10_braces_11 rfl ?_
  refine pr_getS (v := (nI i)) dX10_braces_12 fk_X10_207 rfl rfl ?_
  refine pr_iconst dX10_braces_15 (show Int32.ofInt (1) = (1) by decide) ?_
  refine pr_iadd dX10_braces_16 ?_
  rw [nI_1]
  refine pr_put dX10_braces_17 fk_X10_207 rfl ⟨_, _, _, rfl, rfl⟩ rfl rfl ?_
  rw [IX_21]
  refine pr_iload_n dX10_braces_20 rfl ?_
  refine pr_if_eq (tgt := 28) dX10_braces_21 (by decide) (fun _ => ?_) (fun c21 => absurd c21 (by decide))
  refine pr_aload_n dX10_braces_28 rfl rfl ?_
  refine pr_getS (v := (0)) dX10_braces_29 fk_X10_193 rfl rfl ?_
  refine pr_if_ne (tgt := 42) dX10_braces_32 (by decide) (fun c32 => absurd c32 (by decide)) (fun _ => ?_)
  refine pr_aload_n dX10_braces_35 rfl rfl ?_
  refine pr_iload_n dX10_braces_36 rfl ?_
  refine pr_iconst dX10_braces_37 (show Int32.ofInt (1) = (1) by decide) ?_
  refine pr_iadd dX10_braces_38 ?_
  rw [hK.1]
  refine pr_put dX10_braces_39 fk_X10_207 rfl ⟨_, _, _, rfl, rfl⟩ rfl rfl ?_
  rw [IX_21]
  subst hX
  exact pr_vretP hQ dX10_braces_42 rfl ⟨rfl, ht, rfl, Or.inl ⟨rfl, rfl⟩⟩
set_option maxHeartbeats 4000000 in
set_option maxRecDepth 20000 in
theorem rl_loops {m : Nat} {sc0 : Nat → Int32} {ar0 : Nat → Nat → Int32} {f : Nat} (hm : sc0 16 = nI m) (hm2 : m ≤ 120) (H : bH m sc0 ar0 f (2 * f + 11)) {f1 : Nat} (hf : f1 ≤ f) {dp : Nat} {lp : Bool} {i q j : Nat} (hi : i < m) (hq : pP (tz m (ar0 3)) f1 3 dp (i + 1) = some (true, q)) (hw : pP (tz m (ar0 3)) f1 2 dp q = some (true, j)) (hW : ar0 5 i = zB lp) (hK : pK (tz m (ar0 3)) (ar0 4) (ar0 5) f1 2 dp true q) : ∀ (mm : Nat) (V : Nat → Int32) (t : Nat) (s : Int32) (X : StX) (a0 : Int32) (l2 : Value) fx al n g0 r Q, 1001 ≤ t + mm → t ≤ 1000 → wL (fun V1 s1 => eX (tz m (ar0 3)) V1 f1 3 dp none (i + 1) s1) (fun V1 t1 s1 => dX (tz m (ar0 3)) f1 2 dp true q V1 t1 s1) (if lp = true then 192 else 64) mm V t s = X → (∀ res sc2 ar2 g2, bQ sc0 ar0 j X res sc2 ar2 → RR al n g2 r sc2 ar2 → rf_fr r g0 g2 → Q (.inl res) al n g2) → pr fx (px_body pm_X10_loops) (2 * f + 11) Q al n g0 r (IX sc0 a0 (nI t) s 0 0) (va_up ar0 8 V) 5 [.ref (al r), .int (nI i), l2] []
  | 0, _, _, _, _, _, _, _, _, _, _, _, _, h1, h2, _, _ => by omega
  | mm + 1, V, t, s, X, a0, l2, fx, al, n, g0, r, Q, h1, h2, hX, hQ => by
    rw [wL] at hX
    by_cases ht : t = 1000
    · subst ht
      rw [if_pos rfl] at hX
      refine pr_aload_n dX10_loops_5 rfl rfl ?_
      refine pr_call dX10_loops_6 cl_X10_234 (rb_burn1 (2 * f + 9) sc0 _ a0 s) rfl rfl (Nat.le_of_ble_eq_true rfl) ⟨rfl, rfl⟩ ?_
      refine pr_if_eq (tgt := 86) dX10_loops_9 (by decide) (fun _ => ?_) (fun c9 => absurd c9 (by decide))
      subst hX
      exact pr_vretP hQ dX10_loops_86 rfl ⟨rfl, (Nat.le_refl 1000), rfl, Or.inr ⟨(show ¬ (2 : Nat) = 0 by decide), _, rfl⟩⟩
    rw [if_neg ht] at hX
    have hq9 := pP_in (by decide) hq
    have hw9 := pP_in (by decide) hw
    cases hlp : lp
    · rw [hlp] at hW
      rw [show (if lp = true then (192 : Int32) else 64) = 64 from by rw [hlp]; rfl] at hX
      refine pr_aload_n dX10_loops_5 rfl rfl ?_
      refine pr_call dX10_loops_6 cl_X10_234 (rb_burn2 (2 * f + 9) sc0 _ a0 s (t := t) (by omega)) rfl rfl (Nat.le_of_ble_eq_true rfl) ⟨rfl, rfl⟩ ?_
      refine pr_if_eq (tgt := 86) dX10_loops_9 (by decide) (fun c9 => absurd c9 (by decide)) (fun _ => ?_)
      refine pr_aload_n dX10_loops_12 rfl rfl ?_
      refine pr_dup dX10_loops_13 rfl ?_
      refine pr_getS (v := s) dX10_loops_14 fk_X10_216 rfl rfl ?_
      refine pr_aload_n dX10_loops_17 rfl rfl ?_
      refine pr_getA dX10_loops_18 fk_X10_30 rfl ?_
      refine pr_iload_n dX10_loops_21 rfl ?_
      refine pr_zald (v := (zB false)) (j := i) dX10_loops_22 (by decide) rfl rfl (by show i < 120; omega) hW ?_
      refine pr_if_eq (tgt := 32) dX10_loops_23 (by decide) (fun c23 => ?_) (fun c23 => absurd rfl c23)
      refine pr_bipush dX10_loops_32 (show (Int8.ofInt (64)).toInt32 = (64) by decide) ?_
      refine pr_ior dX10_loops_34 ?_
      refine pr_put dX10_loops_35 fk_X10_216 rfl ⟨_, _, _, rfl, rfl⟩ rfl rfl ?_
      rw [IX_23]
      refine pr_aload_n dX10_loops_38 rfl rfl ?_
      refine pr_iload_n dX10_loops_39 rfl ?_
      refine pr_iconst dX10_loops_40 (show Int32.ofInt (1) = (1) by decide) ?_
      refine pr_iadd dX10_loops_41 ?_
      rw [nI_1]
      refine pr_put dX10_loops_42 fk_X10_207 rfl ⟨_, _, _, rfl, rfl⟩ rfl rfl ?_
      rw [IX_21]
      refine pr_aload_n dX10_loops_45 rfl rfl ?_
      refine pr_callP dX10_loops_46 cl_X10_210 ((eH_all (ar0 := ar0) hm hm2 f f1 hf 3 (by decide) (by decide) dp (i + 1) q V (nI (t + 1)) (s ||| 64) 0 hq).le (by omega)) rfl rfl (Nat.le_of_ble_eq_true rfl) ⟨rfl, rfl⟩ (fun res sc2 ar2 hn => ?_)
      rcases hn with ⟨rfl, ⟨v, hv, rfl, rfl⟩ | ⟨hv, v, a, rfl, rfl⟩⟩
      ·
        refine pr_if_eq (tgt := 56) dX10_loops_49 (by decide) (fun c49 => ?_) (fun c49 => ?_)
        ·
          refine pr_iconst dX10_loops_56 (show Int32.ofInt (0) = (0) by decide) ?_
          refine pr_istore_n dX10_loops_57 (Nat.le_of_ble_eq_true rfl) ?_
          refine pr_aload_n dX10_loops_58 rfl rfl ?_
          refine pr_getS (v := (0)) dX10_loops_59 fk_X10_193 rfl rfl ?_
          refine pr_if_eq (tgt := 66) dX10_loops_62 (by decide) (fun _ => ?_) (fun c62 => absurd c62 (by decide))
          rw [bX_s hv, if_pos c49] at hX
          refine pr_aload_n dX10_loops_66 rfl rfl ?_
          refine pr_iload_n dX10_loops_67 rfl ?_
          refine pr_callP dX10_loops_68 cl_X10_237 (H.2.2.2 f1 hf dp true q j V (t + 1) _ hw hK (by omega)) rfl rfl (Nat.le_of_ble_eq_true rfl) ⟨rfl, rfl⟩ (fun res sc2 ar2 hn => ?_)
          rcases hn with ⟨rfl, ht9, rfl, ⟨h0, rfl⟩ | ⟨h0, a, rfl⟩⟩
          rotate_left
          · exact absurd rfl h0
          refine pr_aload_n dX10_loops_71 rfl rfl ?_
          refine pr_getS (v := (0)) dX10_loops_72 fk_X10_193 rfl rfl ?_
          refine pr_if_ne (tgt := 82) dX10_loops_75 (by decide) (fun c75 => absurd c75 (by decide)) (fun _ => ?_)
          refine pr_iload_n dX10_loops_78 rfl ?_
          refine pr_if_ne (tgt := 83) dX10_loops_79 (by decide) (fun c79 => absurd c79 (by decide)) (fun _ => ?_)
          subst hX
          exact pr_vretP hQ dX10_loops_82 rfl ⟨rfl, (by show t + 1 ≤ 1000; omega), rfl, Or.inl ⟨rfl, rfl⟩⟩
        ·
          refine pr_iconst dX10_loops_52 (show Int32.ofInt (1) = (1) by decide) ?_
          refine pr_goto (tgt := 57) dX10_loops_53 (by decide) ?_
          refine pr_istore_n dX10_loops_57 (Nat.le_of_ble_eq_true rfl) ?_
          refine pr_aload_n dX10_loops_58 rfl rfl ?_
          refine pr_getS (v := (0)) dX10_loops_59 fk_X10_193 rfl rfl ?_
          refine pr_if_eq (tgt := 66) dX10_loops_62 (by decide) (fun _ => ?_) (fun c62 => absurd c62 (by decide))
          rw [bX_s hv, if_neg c49] at hX
          refine pr_aload_n dX10_loops_66 rfl rfl ?_
          refine pr_iload_n dX10_loops_67 rfl ?_
          refine pr_callP dX10_loops_68 cl_X10_237 (H.2.2.1 f1 hf dp true q j V (t + 1) _ hw hK (by omega)) rfl rfl (Nat.le_of_ble_eq_true rfl) ⟨rfl, rfl⟩ (fun res sc2 ar2 hn => ?_)
          rcases hn with ⟨rfl, hth0, rfl, ⟨h0, rfl⟩ | ⟨h0, a2, rfl⟩⟩
          ·
            refine pr_aload_n dX10_loops_71 rfl rfl ?_
            refine pr_getS (v := (0)) dX10_loops_72 fk_X10_193 rfl rfl ?_
            refine pr_if_ne (tgt := 82) dX10_loops_75 (by decide) (fun c75 => absurd c75 (by decide)) (fun _ => ?_)
            refine pr_iload_n dX10_loops_78 rfl ?_
            refine pr_if_ne (tgt := 83) dX10_loops_79 (by decide) (fun _ => ?_) (fun c79 => absurd c79 (by decide))
            rw [nX_0 h0] at hX
            refine pr_goto (tgt := 5) dX10_loops_83 (by decide) ?_
            exact rl_loops (lp := false) hm hm2 H hf hi hq hw hW hK mm _ _ _ X _ _ fx al n g0 r Q (by have := dX_mono (tz m (ar0 3)) f1 2 dp true q V (t + 1) (eX (tz m (ar0 3)) V f1 3 dp none (i + 1) (s ||| 64)).2; omega) hth0 hX hQ
          ·
            refine pr_aload_n dX10_loops_71 rfl rfl ?_
            refine pr_getS (v := (1)) dX10_loops_72 fk_X10_193 rfl rfl ?_
            refine pr_if_ne (tgt := 82) dX10_loops_75 (by decide) (fun _ => ?_) (fun c75 => absurd c75 (by decide))
            rw [nX_1 h0] at hX
            subst hX
            exact pr_vretP hQ dX10_loops_82 rfl ⟨rfl, hth0, rfl, Or.inr ⟨h0, _, rfl⟩⟩
      ·
        refine pr_if_eq (tgt := 56) dX10_loops_49 (by decide) (fun c49 => ?_) (fun c49 => ?_)
        ·
          refine pr_iconst dX10_loops_56 (show Int32.ofInt (0) = (0) by decide) ?_
          refine pr_istore_n dX10_loops_57 (Nat.le_of_ble_eq_true rfl) ?_
          refine pr_aload_n dX10_loops_58 rfl rfl ?_
          refine pr_getS (v := (1)) dX10_loops_59 fk_X10_193 rfl rfl ?_
          refine pr_if_eq (tgt := 66) dX10_loops_62 (by decide) (fun c62 => absurd c62 (by decide)) (fun _ => ?_)
          rw [bX_n hv] at hX
          subst hX
          exact pr_vretP hQ dX10_loops_65 rfl ⟨rfl, (by show t + 1 ≤ 1000; omega), rfl, Or.inr ⟨(show ¬ (1 : Nat) = 0 by decide), _, rfl⟩⟩
        ·
          refine pr_iconst dX10_loops_52 (show Int32.ofInt (1) = (1) by decide) ?_
          refine pr_goto (tgt := 57) dX10_loops_53 (by decide) ?_
          refine pr_istore_n dX10_loops_57 (Nat.le_of_ble_eq_true rfl) ?_
          refine pr_aload_n dX10_loops_58 rfl rfl ?_
          refine pr_getS (v := (1)) dX10_loops_59 fk_X10_193 rfl rfl ?_
          refine pr_if_eq (tgt := 66) dX10_loops_62 (by decide) (fun c62 => absurd c62 (by decide)) (fun _ => ?_)
          rw [bX_n hv] at hX
          subst hX
          exact pr_vretP hQ dX10_loops_65 rfl ⟨rfl, (by show t + 1 ≤ 1000; omega), rfl, Or.inr ⟨(show ¬ (1 : Nat) = 0 by decide), _, rfl⟩⟩
    · rw [hlp] at hW
      rw [show (if lp = true then (192 : Int32) else 64) = 192 from by rw [hlp]; rfl] at hX
      refine pr_aload_n dX10_loops_5 rfl rfl ?_
      refine pr_call dX10_loops_6 cl_X10_234 (rb_burn2 (2 * f + 9) sc0 _ a0 s (t := t) (by omega)) rfl rfl (Nat.le_of_ble_eq_true rfl) ⟨rfl, rfl⟩ ?_
      refine pr_if_eq (tgt := 86) dX10_loops_9 (by decide) (fun c9 => absurd c9 (by decide)) (fun _ => ?_)
      refine pr_aload_n dX10_loops_12 rfl rfl ?_
      refine pr_dup dX10_loops_13 rfl ?_
      refine pr_getS (v := s) dX10_loops_14 fk_X10_216 rfl rfl ?_
      refine pr_aload_n dX10_loops_17 rfl rfl ?_
      refine pr_getA dX10_loops_18 fk_X10_30 rfl ?_
      refine pr_iload_n dX10_loops_21 rfl ?_
      refine pr_zald (v := (zB true)) (j := i) dX10_loops_22 (by decide) rfl rfl (by show i < 120; omega) hW ?_
      refine pr_if_eq (tgt := 32) dX10_loops_23 (by decide) (fun c23 => absurd c23 (by decide)) (fun c23 => ?_)
      refine pr_sipush dX10_loops_26 (show (Int16.ofInt (192)).toInt32 = (192) by decide) ?_
      refine pr_goto (tgt := 34) dX10_loops_29 (by decide) ?_
      refine pr_ior dX10_loops_34 ?_
      refine pr_put dX10_loops_35 fk_X10_216 rfl ⟨_, _, _, rfl, rfl⟩ rfl rfl ?_
      rw [IX_23]
      refine pr_aload_n dX10_loops_38 rfl rfl ?_
      refine pr_iload_n dX10_loops_39 rfl ?_
      refine pr_iconst dX10_loops_40 (show Int32.ofInt (1) = (1) by decide) ?_
      refine pr_iadd dX10_loops_41 ?_
      rw [nI_1]
      refine pr_put dX10_loops_42 fk_X10_207 rfl ⟨_, _, _, rfl, rfl⟩ rfl rfl ?_
      rw [IX_21]
      refine pr_aload_n dX10_loops_45 rfl rfl ?_
      refine pr_callP dX10_loops_46 cl_X10_210 ((eH_all (ar0 := ar0) hm hm2 f f1 hf 3 (by decide) (by decide) dp (i + 1) q V (nI (t + 1)) (s ||| 192) 0 hq).le (by omega)) rfl rfl (Nat.le_of_ble_eq_true rfl) ⟨rfl, rfl⟩ (fun res sc2 ar2 hn => ?_)
      rcases hn with ⟨rfl, ⟨v, hv, rfl, rfl⟩ | ⟨hv, v, a, rfl, rfl⟩⟩
      ·
        refine pr_if_eq (tgt := 56) dX10_loops_49 (by decide) (fun c49 => ?_) (fun c49 => ?_)
        ·
          refine pr_iconst dX10_loops_56 (show Int32.ofInt (0) = (0) by decide) ?_
          refine pr_istore_n dX10_loops_57 (Nat.le_of_ble_eq_true rfl) ?_
          refine pr_aload_n dX10_loops_58 rfl rfl ?_
          refine pr_getS (v := (0)) dX10_loops_59 fk_X10_193 rfl rfl ?_
          refine pr_if_eq (tgt := 66) dX10_loops_62 (by decide) (fun _ => ?_) (fun c62 => absurd c62 (by decide))
          rw [bX_s hv, if_pos c49] at hX
          refine pr_aload_n dX10_loops_66 rfl rfl ?_
          refine pr_iload_n dX10_loops_67 rfl ?_
          refine pr_callP dX10_loops_68 cl_X10_237 (H.2.2.2 f1 hf dp true q j V (t + 1) _ hw hK (by omega)) rfl rfl (Nat.le_of_ble_eq_true rfl) ⟨rfl, rfl⟩ (fun res sc2 ar2 hn => ?_)
          rcases hn with ⟨rfl, ht9, rfl, ⟨h0, rfl⟩ | ⟨h0, a, rfl⟩⟩
          rotate_left
          · exact absurd rfl h0
          refine pr_aload_n dX10_loops_71 rfl rfl ?_
          refine pr_getS (v := (0)) dX10_loops_72 fk_X10_193 rfl rfl ?_
          refine pr_if_ne (tgt := 82) dX10_loops_75 (by decide) (fun c75 => absurd c75 (by decide)) (fun _ => ?_)
          refine pr_iload_n dX10_loops_78 rfl ?_
          refine pr_if_ne (tgt := 83) dX10_loops_79 (by decide) (fun c79 => absurd c79 (by decide)) (fun _ => ?_)
          subst hX
          exact pr_vretP hQ dX10_loops_82 rfl ⟨rfl, (by show t + 1 ≤ 1000; omega), rfl, Or.inl ⟨rfl, rfl⟩⟩
        ·
          refine pr_iconst dX10_loops_52 (show Int32.ofInt (1) = (1) by decide) ?_
          refine pr_goto (tgt := 57) dX10_loops_53 (by decide) ?_
          refine pr_istore_n dX10_loops_57 (Nat.le_of_ble_eq_true rfl) ?_
          refine pr_aload_n dX10_loops_58 rfl rfl ?_
          refine pr_getS (v := (0)) dX10_loops_59 fk_X10_193 rfl rfl ?_
          refine pr_if_eq (tgt := 66) dX10_loops_62 (by decide) (fun _ => ?_) (fun c62 => absurd c62 (by decide))
          rw [bX_s hv, if_neg c49] at hX
          refine pr_aload_n dX10_loops_66 rfl rfl ?_
          refine pr_iload_n dX10_loops_67 rfl ?_
          refine pr_callP dX10_loops_68 cl_X10_237 (H.2.2.1 f1 hf dp true q j V (t + 1) _ hw hK (by omega)) rfl rfl (Nat.le_of_ble_eq_true rfl) ⟨rfl, rfl⟩ (fun res sc2 ar2 hn => ?_)
          rcases hn with ⟨rfl, hth0, rfl, ⟨h0, rfl⟩ | ⟨h0, a2, rfl⟩⟩
          ·
            refine pr_aload_n dX10_loops_71 rfl rfl ?_
            refine pr_getS (v := (0)) dX10_loops_72 fk_X10_193 rfl rfl ?_
            refine pr_if_ne (tgt := 82) dX10_loops_75 (by decide) (fun c75 => absurd c75 (by decide)) (fun _ => ?_)
            refine pr_iload_n dX10_loops_78 rfl ?_
            refine pr_if_ne (tgt := 83) dX10_loops_79 (by decide) (fun _ => ?_) (fun c79 => absurd c79 (by decide))
            rw [nX_0 h0] at hX
            refine pr_goto (tgt := 5) dX10_loops_83 (by decide) ?_
            exact rl_loops (lp := true) hm hm2 H hf hi hq hw hW hK mm _ _ _ X _ _ fx al n g0 r Q (by have := dX_mono (tz m (ar0 3)) f1 2 dp true q V (t + 1) (eX (tz m (ar0 3)) V f1 3 dp none (i + 1) (s ||| 192)).2; omega) hth0 hX hQ
          ·
            refine pr_aload_n dX10_loops_71 rfl rfl ?_
            refine pr_getS (v := (1)) dX10_loops_72 fk_X10_193 rfl rfl ?_
            refine pr_if_ne (tgt := 82) dX10_loops_75 (by decide) (fun _ => ?_) (fun c75 => absurd c75 (by decide))
            rw [nX_1 h0] at hX
            subst hX
            exact pr_vretP hQ dX10_loops_82 rfl ⟨rfl, hth0, rfl, Or.inr ⟨h0, _, rfl⟩⟩
      ·
        refine pr_if_eq (tgt := 56) dX10_loops_49 (by decide) (fun c49 => ?_) (fun c49 => ?_)
        ·
          refine pr_iconst dX10_loops_56 (show Int32.ofInt (0) = (0) by decide) ?_
          refine pr_istore_n dX10_loops_57 (Nat.le_of_ble_eq_true rfl) ?_
          refine pr_aload_n dX10_loops_58 rfl rfl ?_
          refine pr_getS (v := (1)) dX10_loops_59 fk_X10_193 rfl rfl ?_
          refine pr_if_eq (tgt := 66) dX10_loops_62 (by decide) (fun c62 => absurd c62 (by decide)) (fun _ => ?_)
          rw [bX_n hv] at hX
          subst hX
          exact pr_vretP hQ dX10_loops_65 rfl ⟨rfl, (by show t + 1 ≤ 1000; omega), rfl, Or.inr ⟨(show ¬ (1 : Nat) = 0 by decide), _, rfl⟩⟩
        ·
          refine pr_iconst dX10_loops_52 (show Int32.ofInt (1) = (1) by decide) ?_
          refine pr_goto (tgt := 57) dX10_loops_53 (by decide) ?_
          refine pr_istore_n dX10_loops_57 (Nat.le_of_ble_eq_true rfl) ?_
          refine pr_aload_n dX10_loops_58 rfl rfl ?_
          refine pr_getS (v := (1)) dX10_loops_59 fk_X10_193 rfl rfl ?_
          refine pr_if_eq (tgt := 66) dX10_loops_62 (by decide) (fun c62 => absurd c62 (by decide)) (fun _ => ?_)
          rw [bX_n hv] at hX
          subst hX
          exact pr_vretP hQ dX10_loops_65 rfl ⟨rfl, (by show t + 1 ≤ 1000; omega), rfl, Or.inr ⟨(show ¬ (1 : Nat) = 0 by decide), _, rfl⟩⟩
set_option maxHeartbeats 4000000 in
set_option maxRecDepth 20000 in
theorem rb_does {m : Nat} {sc0 : Nat → Int32} {ar0 : Nat → Nat → Int32} {f : Nat} (hm : sc0 16 = nI m) (hm2 : m ≤ 120) (H : bH m sc0 ar0 f (2 * f + 11)) {f1 : Nat} (hf : f1 ≤ f) {dp : Nat} {lp : Bool} {i j : Nat} {V : Nat → Int32} {t : Nat} {s : Int32} (h : pP (tz m (ar0 3)) (f1 + 1) 1 dp i = some (true, j)) (hK : pK (tz m (ar0 3)) (ar0 4) (ar0 5) (f1 + 1) 1 dp lp i) (ht : t ≤ 1000) : RP (2 * f + 13) 124 [] (IX sc0 (nI i) (nI t) s 0 0) (va_up ar0 8 V) (bQ sc0 ar0 j (dX (tz m (ar0 3)) (f1 + 1) 1 dp lp i V t s)) := by
  refine RP.of pm_X10_does rfl rfl (Nat.le_of_ble_eq_true rfl) ?_
  intro fx al n g0 r Q hQ
  show pr fx (px_body pm_X10_does) (2 * f + 12) Q al n g0 r (IX sc0 (nI i) (nI t) s 0 0) (va_up ar0 8 V) 0 [.ref (al r), .float 0, .float 0] []
  generalize hX : dX (tz m (ar0 3)) (f1 + 1) 1 dp lp i V t s = X at hQ
  have hi := pP_in (by decide) h
  rw [dX] at hX
  rw [pK] at hK
  refine pr_aload_n dX10_does_0 rfl rfl ?_
  refine pr_getA dX10_does_1 fk_X10_24 rfl ?_
  refine pr_aload_n dX10_does_4 rfl rfl ?_
  refine pr_getS (v := (nI i)) dX10_does_5 fk_X10_207 rfl rfl ?_
  refine pr_iald (v := (tz m (ar0 3) i)) (j := i) dX10_does_8 (by decide) rfl rfl (by show i < 120; omega) (tz_lt (by omega)).symm ?_
  refine pr_istore_n dX10_does_9 (Nat.le_of_ble_eq_true rfl) ?_
  refine pr_iload_n dX10_does_10 rfl ?_
  refine pr_sipush dX10_does_11 (show (Int16.ofInt (256)).toInt32 = (256) by decide) ?_
  refine pr_icmp_ne (tgt := 22) dX10_does_14 (by decide) (fun c14 => ?_) (fun c14 => ?_)
  ·
    rw [if_neg (show ¬ tz m (ar0 3) i = nI 256 from c14)] at hX
    by_cases htt : t = 1000
    · subst htt
      rw [if_pos rfl] at hX
      refine pr_aload_n dX10_does_22 rfl rfl ?_
      refine pr_call dX10_does_23 cl_X10_234 (rb_burn1 (2 * f + 10) sc0 _ (nI i) s) rfl rfl (Nat.le_of_ble_eq_true rfl) ⟨rfl, rfl⟩ ?_
      refine pr_if_ne (tgt := 30) dX10_does_26 (by decide) (fun c26 => absurd c26 (by decide)) (fun _ => ?_)
      subst hX
      exact pr_vretP hQ dX10_does_29 rfl ⟨rfl, (Nat.le_refl 1000), rfl, Or.inr ⟨(show ¬ (2 : Nat) = 0 by decide), _, rfl⟩⟩
    · rw [if_neg htt] at hX
      refine pr_aload_n dX10_does_22 rfl rfl ?_
      refine pr_call dX10_does_23 cl_X10_234 (rb_burn2 (2 * f + 10) sc0 _ (nI i) s (t := t) (by omega)) rfl rfl (Nat.le_of_ble_eq_true rfl) ⟨rfl, rfl⟩ ?_
      refine pr_if_ne (tgt := 30) dX10_does_26 (by decide) (fun _ => ?_) (fun c26 => absurd c26 (by decide))
      refine pr_aload_n dX10_does_30 rfl rfl ?_
      refine pr_dup dX10_does_31 rfl ?_
      refine pr_getS (v := (nI i)) dX10_does_32 fk_X10_207 rfl rfl ?_
      refine pr_iconst dX10_does_35 (show Int32.ofInt (1) = (1) by decide) ?_
      refine pr_iadd dX10_does_36 ?_
      rw [nI_1]
      refine pr_put dX10_does_37 fk_X10_207 rfl ⟨_, _, _, rfl, rfl⟩ rfl rfl ?_
      rw [IX_21]
      refine pr_iload_n dX10_does_40 rfl ?_
      refine pr_sipush dX10_does_41 (show (Int16.ofInt (257)).toInt32 = (257) by decide) ?_
      refine pr_icmp_ne (tgt := 142) dX10_does_44 (by decide) (fun c44 => ?_) (fun c44 => ?_)
      ·
        have h257 : ¬ tz m (ar0 3) i = nI 257 := c44
        rw [if_neg h257] at hX
        obtain ⟨hiv, hi1, hq⟩ := (pP_t1 h).resolve_right (fun z => z.2.1.elim h257 c14)
        have hq9 := pP_in (by decide) hq
        refine pr_aload_n dX10_does_142 rfl rfl ?_
        refine pr_dup dX10_does_143 rfl ?_
        refine pr_getS (v := s) dX10_does_144 fk_X10_216 rfl rfl ?_
        refine pr_iconst dX10_does_147 (show Int32.ofInt (1) = (1) by decide) ?_
        refine pr_ior dX10_does_148 ?_
        refine pr_put dX10_does_149 fk_X10_216 rfl ⟨_, _, _, rfl, rfl⟩ rfl rfl ?_
        rw [IX_23]
        refine pr_aload_n dX10_does_152 rfl rfl ?_
        refine pr_dup dX10_does_153 rfl ?_
        refine pr_getS (v := (nI (i + 1))) dX10_does_154 fk_X10_207 rfl rfl ?_
        refine pr_iconst dX10_does_157 (show Int32.ofInt (1) = (1) by decide) ?_
        refine pr_iadd dX10_does_158 ?_
        rw [nI_1]
        refine pr_put dX10_does_159 fk_X10_207 rfl ⟨_, _, _, rfl, rfl⟩ rfl rfl ?_
        rw [IX_21]
        refine pr_aload_n dX10_does_162 rfl rfl ?_
        refine pr_callP dX10_does_163 cl_X10_210 ((eH_all (ar0 := ar0) hm hm2 f f1 hf 3 (by decide) (by decide) dp (i + 2) j V (nI (t + 1)) (s ||| 1) 0 hq).le (by omega)) rfl rfl (Nat.le_of_ble_eq_true rfl) ⟨rfl, rfl⟩ (fun res sc2 ar2 hn => ?_)
        rcases hn with ⟨rfl, ⟨v, hv, rfl, rfl⟩ | ⟨hv, v, a, rfl, rfl⟩⟩
        ·
          refine pr_istore_n dX10_does_166 (Nat.le_of_ble_eq_true rfl) ?_
          refine pr_aload_n dX10_does_167 rfl rfl ?_
          refine pr_getS (v := (0)) dX10_does_168 fk_X10_193 rfl rfl ?_
          refine pr_if_ne (tgt := 181) dX10_does_171 (by decide) (fun c171 => absurd c171 (by decide)) (fun _ => ?_)
          refine pr_aload_n dX10_does_174 rfl rfl ?_
          refine pr_getA dX10_does_175 fk_X10_40 rfl ?_
          refine pr_iload_n dX10_does_178 rfl ?_
          refine pr_iload_n dX10_does_179 rfl ?_
          refine pr_iast (j := vN (tz m (ar0 3) i)) dX10_does_180 (by decide) rfl (vN_of hiv) (by show _ < 128; exact vN_lt _) ?_
          rw [va_val]
          rw [bX_s hv] at hX
          subst hX
          exact pr_vretP hQ dX10_does_181 rfl ⟨rfl, (by show t + 1 ≤ 1000; omega), rfl, Or.inl ⟨rfl, rfl⟩⟩
        ·
          refine pr_istore_n dX10_does_166 (Nat.le_of_ble_eq_true rfl) ?_
          refine pr_aload_n dX10_does_167 rfl rfl ?_
          refine pr_getS (v := (1)) dX10_does_168 fk_X10_193 rfl rfl ?_
          refine pr_if_ne (tgt := 181) dX10_does_171 (by decide) (fun _ => ?_) (fun c171 => absurd c171 (by decide))
          rw [bX_n hv] at hX
          subst hX
          exact pr_vretP hQ dX10_does_181 rfl ⟨rfl, (by show t + 1 ≤ 1000; omega), rfl, Or.inr ⟨(show ¬ (1 : Nat) = 0 by decide), _, rfl⟩⟩
      ·
        have h257 : tz m (ar0 3) i = nI 257 := c44
        rw [if_pos h257] at hX
        obtain ⟨hnv, _, q, w, hq, hw, hr⟩ := (pP_t1 h).resolve_left (fun z => by rw [h257] at z; exact absurd z.1 (by decide))
        have hK1 := hK.1 h257
        rw [pE_of hq, pE_of hw] at hX hK1
        have hq9 := pP_in (by decide) hq
        have hw9 := pP_in (by decide) hw
        refine pr_aload_n dX10_does_47 rfl rfl ?_
        refine pr_dup dX10_does_48 rfl ?_
        refine pr_getS (v := s) dX10_does_49 fk_X10_216 rfl rfl ?_
        refine pr_bipush dX10_does_52 (show (Int8.ofInt (32)).toInt32 = (32) by decide) ?_
        refine pr_ior dX10_does_54 ?_
        refine pr_put dX10_does_55 fk_X10_216 rfl ⟨_, _, _, rfl, rfl⟩ rfl rfl ?_
        rw [IX_23]
        refine pr_aload_n dX10_does_58 rfl rfl ?_
        refine pr_callP dX10_does_59 cl_X10_210 ((eH_all (ar0 := ar0) hm hm2 f f1 hf 3 (by decide) (by decide) dp (i + 1) q V (nI (t + 1)) (s ||| 32) 0 hq).le (by omega)) rfl rfl (Nat.le_of_ble_eq_true rfl) ⟨rfl, rfl⟩ (fun res sc2 ar2 hn => ?_)
        rcases hn with ⟨rfl, ⟨v, hv, rfl, rfl⟩ | ⟨hv, v, a, rfl, rfl⟩⟩
        ·
          refine pr_if_eq (tgt := 69) dX10_does_62 (by decide) (fun c62 => ?_) (fun c62 => ?_)
          ·
            refine pr_iconst dX10_does_69 (show Int32.ofInt (0) = (0) by decide) ?_
            refine pr_istore_n dX10_does_70 (Nat.le_of_ble_eq_true rfl) ?_
            refine pr_aload_n dX10_does_71 rfl rfl ?_
            refine pr_getS (v := (0)) dX10_does_72 fk_X10_193 rfl rfl ?_
            refine pr_if_eq (tgt := 79) dX10_does_75 (by decide) (fun _ => ?_) (fun c75 => absurd c75 (by decide))
            rw [bX_s hv, if_pos c62] at hX
            refine pr_aload_n dX10_does_79 rfl rfl ?_
            refine pr_iload_n dX10_does_80 rfl ?_
            refine pr_callP dX10_does_81 cl_X10_237 ((H.2.2.2 f1 hf dp lp q w V (t + 1) _ hw hK1.1 (by omega)).le (by omega)) rfl rfl (Nat.le_of_ble_eq_true rfl) ⟨rfl, rfl⟩ (fun res sc2 ar2 hn => ?_)
            rcases hn with ⟨rfl, ht9, rfl, ⟨h0, rfl⟩ | ⟨h0, a, rfl⟩⟩
            rotate_left
            · exact absurd rfl h0
            refine pr_aload_n dX10_does_84 rfl rfl ?_
            refine pr_getS (v := (0)) dX10_does_85 fk_X10_193 rfl rfl ?_
            refine pr_if_ne (tgt := 117) dX10_does_88 (by decide) (fun c88 => absurd c88 (by decide)) (fun _ => ?_)
            refine pr_aload_n dX10_does_91 rfl rfl ?_
            refine pr_getS (v := (nI w)) dX10_does_92 fk_X10_207 rfl rfl ?_
            refine pr_aload_n dX10_does_95 rfl rfl ?_
            refine pr_getS (v := (nI m)) dX10_does_96 fk_X10_184 rfl hm ?_
            refine pr_icmp_eq (tgt := 117) dX10_does_99 (by decide) (fun c99 => ?_) (fun c99 => ?_)
            ·
              obtain ⟨hn, rfl⟩ := hr.resolve_left (fun z => by have e9 := (nI_eq (a := w) (b := m) (by omega) (by omega)).mp c99; have := lit_in z.2.1 (by decide) (by decide); omega)
              rw [if_neg (fun z => hn ⟨h257, z⟩)] at hX
              subst hX
              exact pr_vretP hQ dX10_does_117 rfl ⟨rfl, (by show t + 1 ≤ 1000; omega), rfl, Or.inl ⟨rfl, rfl⟩⟩
            ·
              have hw2 : w < m := by
                have z : ¬ w = m := fun z => c99 (by rw [z])
                omega
              refine pr_aload_n dX10_does_102 rfl rfl ?_
              refine pr_getA dX10_does_103 fk_X10_24 rfl ?_
              refine pr_aload_n dX10_does_106 rfl rfl ?_
              refine pr_getS (v := (nI w)) dX10_does_107 fk_X10_207 rfl rfl ?_
              refine pr_iald (v := (tz m (ar0 3) w)) (j := w) dX10_does_110 (by decide) rfl rfl (by show w < 120; omega) (tz_lt (by omega)).symm ?_
              refine pr_sipush dX10_does_111 (show (Int16.ofInt (258)).toInt32 = (258) by decide) ?_
              refine pr_icmp_eq (tgt := 118) dX10_does_114 (by decide) (fun c114 => ?_) (fun c114 => ?_)
              ·
                obtain ⟨_, _, hj⟩ := hr.resolve_right (fun z => z.1 ⟨h257, c114⟩)
                rw [if_pos (show tz m (ar0 3) w = nI 258 from c114)] at hX
                refine pr_aload_n dX10_does_118 rfl rfl ?_
                refine pr_dup dX10_does_119 rfl ?_
                refine pr_getS (v := (nI w)) dX10_does_120 fk_X10_207 rfl rfl ?_
                refine pr_iconst dX10_does_123 (show Int32.ofInt (1) = (1) by decide) ?_
                refine pr_iadd dX10_does_124 ?_
                rw [nI_1]
                refine pr_put dX10_does_125 fk_X10_207 rfl ⟨_, _, _, rfl, rfl⟩ rfl rfl ?_
                rw [IX_21]
                refine pr_aload_n dX10_does_128 rfl rfl ?_
                refine pr_iload_n dX10_does_129 rfl ?_
                refine pr_if_ne (tgt := 137) dX10_does_130 (by decide) (fun c130 => absurd c130 (by decide)) (fun _ => ?_)
                refine pr_iconst dX10_does_133 (show Int32.ofInt (1) = (1) by decide) ?_
                refine pr_goto (tgt := 138) dX10_does_134 (by decide) ?_
                refine pr_callP dX10_does_138 cl_X10_237 ((H.2.2.1 f1 hf dp lp (w + 1) j V (t + 1) _ hj (hK1.2 c114) (by omega)).le (by omega)) rfl rfl (Nat.le_of_ble_eq_true rfl) ⟨rfl, rfl⟩ (fun res sc2 ar2 hn => ?_)
                rcases hn with ⟨rfl, hth1, rfl, ⟨h1, rfl⟩ | ⟨h1, a3, rfl⟩⟩
                ·
                  subst hX
                  exact pr_vretP hQ dX10_does_141 rfl ⟨rfl, hth1, rfl, Or.inl ⟨h1, rfl⟩⟩
                ·
                  subst hX
                  exact pr_vretP hQ dX10_does_141 rfl ⟨rfl, hth1, rfl, Or.inr ⟨h1, _, rfl⟩⟩
              ·
                obtain ⟨hn, rfl⟩ := hr.resolve_left (fun z => c114 z.2.1)
                rw [if_neg (fun z => hn ⟨h257, z⟩)] at hX
                subst hX
                exact pr_vretP hQ dX10_does_117 rfl ⟨rfl, (by show t + 1 ≤ 1000; omega), rfl, Or.inl ⟨rfl, rfl⟩⟩
          ·
            refine pr_iconst dX10_does_65 (show Int32.ofInt (1) = (1) by decide) ?_
            refine pr_goto (tgt := 70) dX10_does_66 (by decide) ?_
            refine pr_istore_n dX10_does_70 (Nat.le_of_ble_eq_true rfl) ?_
            refine pr_aload_n dX10_does_71 rfl rfl ?_
            refine pr_getS (v := (0)) dX10_does_72 fk_X10_193 rfl rfl ?_
            refine pr_if_eq (tgt := 79) dX10_does_75 (by decide) (fun _ => ?_) (fun c75 => absurd c75 (by decide))
            rw [bX_s hv, if_neg c62] at hX
            refine pr_aload_n dX10_does_79 rfl rfl ?_
            refine pr_iload_n dX10_does_80 rfl ?_
            refine pr_callP dX10_does_81 cl_X10_237 ((H.2.2.1 f1 hf dp lp q w V (t + 1) _ hw hK1.1 (by omega)).le (by omega)) rfl rfl (Nat.le_of_ble_eq_true rfl) ⟨rfl, rfl⟩ (fun res sc2 ar2 hn => ?_)
            rcases hn with ⟨rfl, hth0, rfl, ⟨h0, rfl⟩ | ⟨h0, a2, rfl⟩⟩
            ·
              refine pr_aload_n dX10_does_84 rfl rfl ?_
              refine pr_getS (v := (0)) dX10_does_85 fk_X10_193 rfl rfl ?_
              refine pr_if_ne (tgt := 117) dX10_does_88 (by decide) (fun c88 => absurd c88 (by decide)) (fun _ => ?_)
              refine pr_aload_n dX10_does_91 rfl rfl ?_
              refine pr_getS (v := (nI w)) dX10_does_92 fk_X10_207 rfl rfl ?_
              refine pr_aload_n dX10_does_95 rfl rfl ?_
              refine pr_getS (v := (nI m)) dX10_does_96 fk_X10_184 rfl hm ?_
              refine pr_icmp_eq (tgt := 117) dX10_does_99 (by decide) (fun c99 => ?_) (fun c99 => ?_)
              ·
                obtain ⟨hn, rfl⟩ := hr.resolve_left (fun z => by have e9 := (nI_eq (a := w) (b := m) (by omega) (by omega)).mp c99; have := lit_in z.2.1 (by decide) (by decide); omega)
                subst hX
                exact pr_vretP hQ dX10_does_117 rfl ⟨rfl, hth0, rfl, Or.inl ⟨h0, rfl⟩⟩
              ·
                have hw2 : w < m := by
                  have z : ¬ w = m := fun z => c99 (by rw [z])
                  omega
                refine pr_aload_n dX10_does_102 rfl rfl ?_
                refine pr_getA dX10_does_103 fk_X10_24 rfl ?_
                refine pr_aload_n dX10_does_106 rfl rfl ?_
                refine pr_getS (v := (nI w)) dX10_does_107 fk_X10_207 rfl rfl ?_
                refine pr_iald (v := (tz m (ar0 3) w)) (j := w) dX10_does_110 (by decide) rfl rfl (by show w < 120; omega) (tz_lt (by omega)).symm ?_
                refine pr_sipush dX10_does_111 (show (Int16.ofInt (258)).toInt32 = (258) by decide) ?_
                refine pr_icmp_eq (tgt := 118) dX10_does_114 (by decide) (fun c114 => ?_) (fun c114 => ?_)
                ·
                  obtain ⟨_, _, hj⟩ := hr.resolve_right (fun z => z.1 ⟨h257, c114⟩)
                  refine pr_aload_n dX10_does_118 rfl rfl ?_
                  refine pr_dup dX10_does_119 rfl ?_
                  refine pr_getS (v := (nI w)) dX10_does_120 fk_X10_207 rfl rfl ?_
                  refine pr_iconst dX10_does_123 (show Int32.ofInt (1) = (1) by decide) ?_
                  refine pr_iadd dX10_does_124 ?_
                  rw [nI_1]
                  refine pr_put dX10_does_125 fk_X10_207 rfl ⟨_, _, _, rfl, rfl⟩ rfl rfl ?_
                  rw [IX_21]
                  refine pr_aload_n dX10_does_128 rfl rfl ?_
                  refine pr_iload_n dX10_does_129 rfl ?_
                  refine pr_if_ne (tgt := 137) dX10_does_130 (by decide) (fun _ => ?_) (fun c130 => absurd c130 (by decide))
                  refine pr_iconst dX10_does_137 (show Int32.ofInt (0) = (0) by decide) ?_
                  refine pr_callP dX10_does_138 cl_X10_237 ((H.2.2.2 f1 hf dp lp (w + 1) j _ _ _ hj (hK1.2 c114) hth0).le (by omega)) rfl rfl (Nat.le_of_ble_eq_true rfl) ⟨rfl, rfl⟩ (fun res sc2 ar2 hn => ?_)
                  rcases hn with ⟨rfl, ht9, rfl, ⟨h1, rfl⟩ | ⟨h1, a, rfl⟩⟩
                  rotate_left
                  · exact absurd rfl h1
                  subst hX
                  exact pr_vretP hQ dX10_does_141 rfl ⟨rfl, hth0, rfl, Or.inl ⟨h0, rfl⟩⟩
                ·
                  obtain ⟨hn, rfl⟩ := hr.resolve_left (fun z => c114 z.2.1)
                  subst hX
                  exact pr_vretP hQ dX10_does_117 rfl ⟨rfl, hth0, rfl, Or.inl ⟨h0, rfl⟩⟩
            ·
              refine pr_aload_n dX10_does_84 rfl rfl ?_
              refine pr_getS (v := (1)) dX10_does_85 fk_X10_193 rfl rfl ?_
              refine pr_if_ne (tgt := 117) dX10_does_88 (by decide) (fun _ => ?_) (fun c88 => absurd c88 (by decide))
              subst hX
              exact pr_vretP hQ dX10_does_117 rfl ⟨rfl, hth0, rfl, Or.inr ⟨h0, _, rfl⟩⟩
        ·
          refine pr_if_eq (tgt := 69) dX10_does_62 (by decide) (fun c62 => ?_) (fun c62 => ?_)
          ·
            refine pr_iconst dX10_does_69 (show Int32.ofInt (0) = (0) by decide) ?_
            refine pr_istore_n dX10_does_70 (Nat.le_of_ble_eq_true rfl) ?_
            refine pr_aload_n dX10_does_71 rfl rfl ?_
            refine pr_getS (v := (1)) dX10_does_72 fk_X10_193 rfl rfl ?_
            refine pr_if_eq (tgt := 79) dX10_does_75 (by decide) (fun c75 => absurd c75 (by decide)) (fun _ => ?_)
            rw [bX_n hv] at hX
            subst hX
            exact pr_vretP hQ dX10_does_78 rfl ⟨rfl, (by show t + 1 ≤ 1000; omega), rfl, Or.inr ⟨(show ¬ (1 : Nat) = 0 by decide), _, rfl⟩⟩
          ·
            refine pr_iconst dX10_does_65 (show Int32.ofInt (1) = (1) by decide) ?_
            refine pr_goto (tgt := 70) dX10_does_66 (by decide) ?_
            refine pr_istore_n dX10_does_70 (Nat.le_of_ble_eq_true rfl) ?_
            refine pr_aload_n dX10_does_71 rfl rfl ?_
            refine pr_getS (v := (1)) dX10_does_72 fk_X10_193 rfl rfl ?_
            refine pr_if_eq (tgt := 79) dX10_does_75 (by decide) (fun c75 => absurd c75 (by decide)) (fun _ => ?_)
            rw [bX_n hv] at hX
            subst hX
            exact pr_vretP hQ dX10_does_78 rfl ⟨rfl, (by show t + 1 ≤ 1000; omega), rfl, Or.inr ⟨(show ¬ (1 : Nat) = 0 by decide), _, rfl⟩⟩
  ·
    rw [if_pos (show tz m (ar0 3) i = nI 256 from c14)] at hX
    obtain ⟨hnv, h257, q, w, hq, hw, hr⟩ := (pP_t1 h).resolve_left (fun z => by rw [show tz m (ar0 3) i = 256 from c14] at z; exact absurd z.1 (by decide))
    obtain ⟨_, rfl⟩ := hr.resolve_left (fun z => by rw [show tz m (ar0 3) i = 256 from c14] at z; exact absurd z.1 (by decide))
    have hK1 := hK.2 c14
    rw [pE_of hq] at hX hK1
    refine pr_aload_n dX10_does_17 rfl rfl ?_
    have hL : RP (2 * f + 12) 125 [] (IX sc0 (nI i) (nI t) s 0 0) (va_up ar0 8 V) (bQ sc0 ar0 j X) := by
      refine RP.of pm_X10_loops rfl rfl (Nat.le_of_ble_eq_true rfl) (fun fx al n g0 r Q hQ => ?_)
      refine pr_aload_n dX10_loops_0 rfl rfl ?_
      refine pr_getS (v := nI i) dX10_loops_1 fk_X10_207 rfl rfl ?_
      refine pr_istore_n dX10_loops_4 (Nat.le_of_ble_eq_true rfl) ?_
      exact rl_loops hm hm2 H hf hi.2.2 hq hw hK1.1 hK1.2 1001 V t s X _ _ fx al n g0 r Q (by omega) ht hX hQ
    refine pr_callP dX10_does_18 cl_X10_231 hL rfl rfl (Nat.le_of_ble_eq_true rfl) ⟨rfl, rfl⟩ (fun res sc2 ar2 hn => ?_)
    obtain ⟨rfl, hn⟩ := hn
    exact pr_vretP hQ dX10_does_21 rfl ⟨rfl, hn⟩
theorem bH_all {m : Nat} {sc0 : Nat → Int32} {ar0 : Nat → Nat → Int32} (hm : sc0 16 = nI m) (hm2 : m ≤ 120) : ∀ f, bH m sc0 ar0 f (2 * f + 11)
  | 0 => by
    refine ⟨fun f0 h0 dp lp i j V t s hp => ?_, fun f0 h0 dp lp i j V t s hp => ?_, fun f0 h0 dp lp i j V t s hp => ?_, fun f0 h0 dp lp i j V t s hp => ?_⟩ <;> (obtain rfl : f0 = 0 := Nat.le_zero.mp h0) <;> rw [pP] at hp <;> cases hp
  | f + 1 => by
    have H := bH_all (ar0 := ar0) hm hm2 f
    refine ⟨fun f0 h0 dp lp i j V t s hp hK ht => ?_, fun f0 h0 dp lp i j V t s hp hK ht => ?_, fun f0 h0 dp lp i j V t s hp hK ht => ?_, fun f0 h0 dp lp i j V t s hp hK ht => ?_⟩ <;> cases f0 with
    | zero => rw [pP] at hp; cases hp
    | succ f1 => first | exact rb_does hm hm2 H (by omega) hp hK ht | exact rb_braces1 hm hm2 H (by omega) hp hK ht | exact rb_braces0 hm hm2 H (by omega) hp hK ht | exact (RP.of (post := bQ sc0 ar0 j (dX (tz m (ar0 3)) (f1 + 1) 0 dp lp i V t s)) pm_X10_block rfl rfl (Nat.le_of_ble_eq_true rfl) (fun fx al n g0 r Q hQ => rl_block hm hm2 H (f1 + 1) h0 dp lp i j V t s _ fx al n g0 r Q hp hK ht rfl hQ)).le (by omega)
