def vEq (V V' : Nat → Int32) : Prop := ∀ t, V (vN t) = V' (vN t)
theorem eX_cong {T V V' : Nat → Int32} (hV : vEq V V') : ∀ f, eX T V f = eX T V' f
  | 0 => by funext kd dp acc i s; rw [eX, eX]
  | f + 1 => by
    have IH := eX_cong (T := T) hV f
    funext kd dp acc i s
    match kd with
    | 0 => rw [eX, eX, IH, hV] <;> (intro z; cases z)
    | 1 => rw [eX, eX, IH, hV] <;> (intro z; cases z)
    | 2 => rw [eX, eX, IH, hV] <;> (intro z; cases z)
    | 3 => rw [eX, eX, IH]
    | 4 => rw [eX, eX, IH]
    | 5 => rw [eX, eX, IH]
    | kd + 6 => rw [eX, eX, IH, hV] <;> (intro z; omega)
def xEq (x y : StX) : Prop := x.1 = y.1 ∧ vEq x.2.1 y.2.1 ∧ x.2.2 = y.2.2
theorem nX_cong {x y : StX} {k k' : (Nat → Int32) → Nat → Int32 → StX} (h : xEq x y) (hk : ∀ V V' t s, vEq V V' → xEq (k V t s) (k' V' t s)) : xEq (nX x k) (nX y k') := by
  by_cases h0 : x.1 = 0
  · rw [nX_0 h0, nX_0 (h.1 ▸ h0), h.2.2]; exact hk _ _ _ _ h.2.1
  · rw [nX_1 h0, nX_1 (h.1 ▸ h0)]; exact h
theorem bX_cong {r : Option Int32 × Int32} {k0 k0' : Int32 → StX} {k1 k1' : Int32 → Int32 → StX} (h0 : ∀ s, xEq (k0 s) (k0' s)) (h1 : ∀ v s, xEq (k1 v s) (k1' v s)) : xEq (bX r k0 k1) (bX r k0' k1') := by
  cases h : r.1 with
  | none => rw [bX_n h, bX_n h]; exact h0 _
  | some v => rw [bX_s h, bX_s h]; exact h1 _ _
theorem xEq.mk {o t : Nat} {V V' : Nat → Int32} {s : Int32} (h : vEq V V') : xEq (o, V, t, s) (o, V', t, s) := ⟨rfl, h, rfl⟩
theorem xEq.ite {p : Prop} [Decidable p] {a b a' b' : StX} (h1 : xEq a a') (h2 : xEq b b') : xEq (if p then a else b) (if p then a' else b') := by split <;> assumption
theorem wL_cong {E : (Nat → Int32) → Int32 → Option Int32 × Int32} {Bd : (Nat → Int32) → Nat → Int32 → StX} {wb : Int32} (hE : ∀ V V' s, vEq V V' → E V s = E V' s) (hB : ∀ V V' t s, vEq V V' → xEq (Bd V t s) (Bd V' t s)) : ∀ m V V' t s, vEq V V' → xEq (wL E Bd wb m V t s) (wL E Bd wb m V' t s)
  | 0, V, V', t, s, h => xEq.mk h
  | m + 1, V, V', t, s, h => by
    rw [wL, wL, hE V V' _ h]
    exact xEq.ite (xEq.mk h) (bX_cong (fun s => xEq.mk h) (fun v s => xEq.ite (xEq.mk h) (nX_cong (hB V V' _ _ h) (fun V V' t s h => wL_cong hE hB m V V' t s h))))
theorem dX_cong {T : Nat → Int32} : ∀ f kd dp lp i V V' t s, vEq V V' → xEq (dX T f kd dp lp i V t s) (dX T f kd dp lp i V' t s)
  | 0, _, _, _, _, V, V', _, _, h => by rw [dX, dX]; exact xEq.mk h
  | f + 1, 0, dp, lp, i, V, V', t, s, h => by
    rw [dX, dX]
    exact nX_cong (dX_cong f 1 dp lp i V V' t s h) (fun V V' t s h => xEq.ite (dX_cong f 0 dp lp _ V V' t s h) (xEq.mk h))
  | f + 1, 1, dp, lp, i, V, V', t, s, h => by
    rw [dX, dX, eX_cong h]
    refine xEq.ite (wL_cong (fun V V' s h => by rw [eX_cong h]) (fun V V' t s h => dX_cong f 2 dp true _ V V' t s h) _ _ _ _ _ h) (xEq.ite (xEq.mk h) (xEq.ite (bX_cong (fun s => xEq.mk h) (fun v s => xEq.ite (xEq.ite (dX_cong f 2 dp lp _ V V' _ _ h) (xEq.mk h)) (dX_cong f 2 dp lp _ V V' _ _ h))) (bX_cong (fun s => xEq.mk h) (fun v s => xEq.mk ?_))))
    intro u
    simp only [upd_at]
    split
    · rfl
    · exact h u
  | f + 1, kd + 2, dp, lp, i, V, V', t, s, h => by
    have e : ∀ V, dX T (f + 1) (kd + 2) dp lp i V t s = dX T f 0 (dp + 1) lp (i + 1) V t s := fun V => by rw [dX] <;> (intro z; omega)
    rw [e, e]
    exact dX_cong f 0 _ _ _ V V' _ _ h
theorem vN_cases (t : Int32) : vN t = 97 ∨ vN t = 98 ∨ vN t = 99 ∨ vN t = 100 ∨ vN t = 114 := by
  unfold vN
  by_cases h1 : t = 98
  · rw [if_pos h1]; decide
  rw [if_neg h1]
  by_cases h2 : t = 99
  · rw [if_pos h2]; decide
  rw [if_neg h2]
  by_cases h3 : t = 100
  · rw [if_pos h3]; decide
  rw [if_neg h3]
  by_cases h4 : t = 114
  · rw [if_pos h4]; decide
  rw [if_neg h4]; decide
theorem vS_eq (V V' : Nat → Int32) (a b : Int32) : vEq (vS V a b) (vS V' a b) := by
  intro t
  rcases vN_cases t with h | h | h | h | h <;> (rw [h]; rfl)
/-- a run, whatever stood in the variables before -/
def runC (m : Nat) (S : Nat → Int32) (a b : Int32) : StX := runX m S (fun _ => 0) a b
theorem runX_eq (m : Nat) (S V : Nat → Int32) (a b : Int32) : xEq (runX m S V a b) (runC m S a b) := dX_cong _ _ _ _ _ _ _ _ _ (vS_eq V (fun _ => 0) a b)
theorem xEq.r {x y : StX} (h : xEq x y) : x.2.1 114 = y.2.1 114 := h.2.1 114
theorem runA_eq {x y : StX} (h : xEq x y) (w : Int32) : runA x w = runA y w := by
  unfold runA
  rw [h.1, h.r, h.2.2]
/-- a static method that looks at the reference's rows -/
def RS (d k : Nat) (As : (Nat → Nat) → Nat → List Value) (sc : Nat → Int32) (ar : Nat → Nat → Int32) (res : Option Value) : Prop := ∀ (fx : px_F) (al : Nat → Nat) (n : Nat) (g : Nat → px_O) (r : Nat) (Q : px_Q), RR al n g r sc ar → (∀ g2, RR al n g2 r sc ar → rf_fr r g g2 → Q (.inl res) al n g2) → pm px_tb fx d k (As al r) al n g Q
theorem RS.of {d k : Nat} {As : (Nat → Nat) → Nat → List Value} {sc : Nat → Int32} {ar : Nat → Nat → Int32} {res : Option Value} (m : px_M) (hm : px_tb k = some m) (hi : ∀ al r, (As al r).all px_isI = true) (hl : ∀ al r, (As al r).length ≤ m.2.2.1)
    (h : ∀ fx al n g0 r Q, (∀ g2, RR al n g2 r sc ar → rf_fr r g0 g2 → Q (.inl res) al n g2) → pr fx (px_body m) d Q al n g0 r sc ar 0 (px_in (As al r) m.2.2.1) []) : RS (d + 1) k As sc ar res :=
  fun fx al n g r Q hR hQ => ⟨m, hm, hi al r, hl al r, h fx al n g r Q hQ g hR rf_fr.rf⟩
theorem pr_callRS {fx : px_F} {bd : px_B} {dd : Nat} {Q : px_Q} {al : Nat → Nat} {n : Nat} {g0 : Nat → px_O} {r : Nat} {sc : Nat → Int32} {ar : Nat → Nat → Int32} {pc : Nat} {ls st : List Value} {idx k : Nat} {As : (Nat → Nat) → Nat → List Value} {st0 : List Value} {res : Option Value} (h0 : decode bd.2.1 pc = .ok (.invokestatic idx, 3)) {na : Nat} (h1 : px_cS px_tb bd.1 idx k na) (hC : RS dd k As sc ar res) (hn : (As al r).length = na) (h4 : st0 = (As al r).reverse ++ st) (h5 : (st.map fun v => v.category).sum ≤ 8) (hz : px_mc px_tb k = 0 ∧ px_ms px_tb k = 0)
    (kk : pr fx bd dd Q al n g0 r sc ar (pc + 3) ls (res.toList ++ st)) : pr fx bd dd Q al n g0 r sc ar pc ls st0 := fun g hR hF => by
  refine pg_callS (pm_mono px_tb fx dd) (idx := idx) (k := k) (As := As al r) h0 (hn ▸ h1) h4 h5 (by rw [hz.1]; exact Nat.zero_le _) (by rw [hz.2]; exact Nat.zero_le _) ?_
  rw [hz.1, hz.2]
  exact hC fx al n g r _ hR (fun g2 hR2 hF2 => kk g2 hR2 (hF.tr hF2))
/-- the first c or d of a program (0: none) -/
def fcd (S : Nat → Int32) (fr : Nat) : Nat → Nat → Int32
  | 0, _ => 0
  | m + 1, k => if S (fr + k) = 99 ∨ S (fr + k) = 100 then S (fr + k) else fcd S fr m (k + 1)
/-- a token of a program's shape -/
def shp (S : Nat → Int32) (fr n i : Nat) : Int32 := if S (fr + i) = 99 ∨ S (fr + i) = 100 then (if fcd S fr n 0 = 0 then S (fr + i) else if fcd S fr n 0 = S (fr + i) then 99 else 100) else S (fr + i)
set_option maxHeartbeats 4000000 in
set_option maxRecDepth 20000 in
theorem rl_shaped {fx : px_F} {dd : Nat} {Q : px_Q} {al : Nat → Nat} {nn : Nat} {g0 : Nat → px_O} {r : Nat} {sc : Nat → Int32} {ar : Nat → Nat → Int32} {a fr n i : Nat} {t : Int32} (ha : a < 21) (hta : rf_tag a = 0) (hfr : fr + n ≤ rf_len a) (hl : rf_len a < 2 ^ 30) : ∀ (m k : Nat), k + m = n → (∀ g2, RR al nn g2 r sc ar → rf_fr r g0 g2 → Q (.inl (some (.int (if fcd (ar a) fr m k = 0 then t else if fcd (ar a) fr m k = t then 99 else 100)))) al nn g2) → pr fx (px_body pm_X10_shaped) dd Q al nn g0 r sc ar 27 [.ref (al (r + 1 + a)), .int (nI fr), .int (nI n), .int (nI i), .int t, .int (nI k)] []
  | 0, k, hk, hQ => by
    obtain rfl : k = n := by omega
    refine pr_iload dX10_shaped_27 rfl ?_
    refine pr_iload_n dX10_shaped_29 rfl ?_
    refine pr_icmp_ge (tgt := 80) dX10_shaped_30 (by decide) (fun c30 => ?_) (fun c30 => absurd (Int32.le_refl _) c30)
    refine pr_iload dX10_shaped_80 rfl ?_
    exact pr_iret hQ dX10_shaped_82 rfl rfl rfl rfl rfl
  | m + 1, k, hk, hQ => by
    rw [fcd] at hQ
    refine pr_iload dX10_shaped_27 rfl ?_
    refine pr_iload_n dX10_shaped_29 rfl ?_
    refine pr_icmp_ge (tgt := 80) dX10_shaped_30 (by decide) (fun c30 => absurd c30 (Int32.not_le.mpr (nI_lt (by omega) (by omega)))) (fun c30 => ?_)
    refine pr_aload_n dX10_shaped_33 rfl rfl ?_
    refine pr_iload_n dX10_shaped_34 rfl ?_
    refine pr_iload dX10_shaped_35 rfl ?_
    refine pr_iadd dX10_shaped_37 ?_
    refine pr_iald (v := ar a (fr + k)) (j := fr + k) dX10_shaped_38 ha hta (nI_add fr k) (by omega) rfl ?_
    refine pr_bipush dX10_shaped_39 (show (Int8.ofInt (99)).toInt32 = (99) by decide) ?_
    refine pr_icmp_eq (tgt := 55) dX10_shaped_41 (by decide) (fun c41 => ?_) (fun c41 => ?_)
    ·
      refine pr_aload_n dX10_shaped_55 rfl rfl ?_
      refine pr_iload_n dX10_shaped_56 rfl ?_
      refine pr_iload dX10_shaped_57 rfl ?_
      refine pr_iadd dX10_shaped_59 ?_
      refine pr_iald (v := ar a (fr + k)) (j := fr + k) dX10_shaped_60 ha hta (nI_add fr k) (by omega) rfl ?_
      refine pr_iload dX10_shaped_61 rfl ?_
      refine pr_icmp_ne (tgt := 71) dX10_shaped_63 (by decide) (fun c63 => ?_) (fun c63 => ?_)
      ·
        refine pr_bipush dX10_shaped_71 (show (Int8.ofInt (100)).toInt32 = (100) by decide) ?_
        rw [if_pos (Or.inl c41), if_neg (show ¬ ar a (fr + k) = 0 from fun z => absurd (c41.symm.trans z) (by decide)), if_neg c63] at hQ
        exact pr_iret hQ dX10_shaped_73 rfl rfl rfl rfl rfl
      ·
        refine pr_bipush dX10_shaped_66 (show (Int8.ofInt (99)).toInt32 = (99) by decide) ?_
        refine pr_goto (tgt := 73) dX10_shaped_68 (by decide) ?_
        rw [if_pos (Or.inl c41), if_neg (show ¬ ar a (fr + k) = 0 from fun z => absurd (c41.symm.trans z) (by decide)), if_pos c63] at hQ
        exact pr_iret hQ dX10_shaped_73 rfl rfl rfl rfl rfl
    ·
      refine pr_aload_n dX10_shaped_44 rfl rfl ?_
      refine pr_iload_n dX10_shaped_45 rfl ?_
      refine pr_iload dX10_shaped_46 rfl ?_
      refine pr_iadd dX10_shaped_48 ?_
      refine pr_iald (v := ar a (fr + k)) (j := fr + k) dX10_shaped_49 ha hta (nI_add fr k) (by omega) rfl ?_
      refine pr_bipush dX10_shaped_50 (show (Int8.ofInt (100)).toInt32 = (100) by decide) ?_
      refine pr_icmp_ne (tgt := 74) dX10_shaped_52 (by decide) (fun c52 => ?_) (fun c52 => ?_)
      ·
        rw [if_neg (show ¬ (ar a (fr + k) = 99 ∨ ar a (fr + k) = 100) from fun z => z.elim c41 c52)] at hQ
        refine pr_iinc dX10_shaped_74 rfl (show Int32.ofInt (1) = (1) by decide) ?_
        refine pr_goto (tgt := 27) dX10_shaped_77 (by decide) ?_
        rw [nI_1]
        exact rl_shaped ha hta hfr hl m (k + 1) (by omega) hQ
      ·
        refine pr_aload_n dX10_shaped_55 rfl rfl ?_
        refine pr_iload_n dX10_shaped_56 rfl ?_
        refine pr_iload dX10_shaped_57 rfl ?_
        refine pr_iadd dX10_shaped_59 ?_
        refine pr_iald (v := ar a (fr + k)) (j := fr + k) dX10_shaped_60 ha hta (nI_add fr k) (by omega) rfl ?_
        refine pr_iload dX10_shaped_61 rfl ?_
        refine pr_icmp_ne (tgt := 71) dX10_shaped_63 (by decide) (fun c63 => ?_) (fun c63 => ?_)
        ·
          refine pr_bipush dX10_shaped_71 (show (Int8.ofInt (100)).toInt32 = (100) by decide) ?_
          rw [if_pos (Or.inr c52), if_neg (show ¬ ar a (fr + k) = 0 from fun z => absurd (c52.symm.trans z) (by decide)), if_neg c63] at hQ
          exact pr_iret hQ dX10_shaped_73 rfl rfl rfl rfl rfl
        ·
          refine pr_bipush dX10_shaped_66 (show (Int8.ofInt (99)).toInt32 = (99) by decide) ?_
          refine pr_goto (tgt := 73) dX10_shaped_68 (by decide) ?_
          rw [if_pos (Or.inr c52), if_neg (show ¬ ar a (fr + k) = 0 from fun z => absurd (c52.symm.trans z) (by decide)), if_pos c63] at hQ
          exact pr_iret hQ dX10_shaped_73 rfl rfl rfl rfl rfl
set_option maxHeartbeats 4000000 in
set_option maxRecDepth 20000 in
theorem rs_shaped (d : Nat) (sc : Nat → Int32) (ar : Nat → Nat → Int32) {a fr n i : Nat} (ha : a < 21) (hta : rf_tag a = 0) (hfr : fr + n ≤ rf_len a) (hl : rf_len a < 2 ^ 30) (hi : i < n) : RS (d + 1) 132 (fun al r => [.ref (al (r + 1 + a)), .int (nI fr), .int (nI n), .int (nI i)]) sc ar (some (.int (shp (ar a) fr n i))) := by
  refine RS.of pm_X10_shaped rfl (fun _ _ => rfl) (fun _ _ => Nat.le_of_ble_eq_true rfl) ?_
  intro fx al nn g0 r Q hQ
  show pr fx (px_body pm_X10_shaped) d Q al nn g0 r sc ar 0 [.ref (al (r + 1 + a)), .int (nI fr), .int (nI n), .int (nI i), .float 0, .float 0] []
  unfold shp at hQ
  refine pr_aload_n dX10_shaped_0 rfl rfl ?_
  refine pr_iload_n dX10_shaped_1 rfl ?_
  refine pr_iload_n dX10_shaped_2 rfl ?_
  refine pr_iadd dX10_shaped_3 ?_
  refine pr_iald (v := ar a (fr + i)) (j := fr + i) dX10_shaped_4 ha hta (nI_add fr i) (by omega) rfl ?_
  refine pr_istore dX10_shaped_5 (Nat.le_of_ble_eq_true rfl) ?_
  refine pr_iload dX10_shaped_7 rfl ?_
  refine pr_bipush dX10_shaped_9 (show (Int8.ofInt (99)).toInt32 = (99) by decide) ?_
  refine pr_icmp_eq (tgt := 24) dX10_shaped_11 (by decide) (fun c11 => ?_) (fun c11 => ?_)
  ·
    refine pr_iconst dX10_shaped_24 (show Int32.ofInt (0) = (0) by decide) ?_
    refine pr_istore dX10_shaped_25 (Nat.le_of_ble_eq_true rfl) ?_
    rw [if_pos (Or.inl c11)] at hQ
    exact rl_shaped (fx := fx) ha hta hfr hl n 0 (by omega) hQ
  ·
    refine pr_iload dX10_shaped_14 rfl ?_
    refine pr_bipush dX10_shaped_16 (show (Int8.ofInt (100)).toInt32 = (100) by decide) ?_
    refine pr_icmp_eq (tgt := 24) dX10_shaped_18 (by decide) (fun c18 => ?_) (fun c18 => ?_)
    ·
      refine pr_iconst dX10_shaped_24 (show Int32.ofInt (0) = (0) by decide) ?_
      refine pr_istore dX10_shaped_25 (Nat.le_of_ble_eq_true rfl) ?_
      rw [if_pos (Or.inr c18)] at hQ
      exact rl_shaped (fx := fx) ha hta hfr hl n 0 (by omega) hQ
    ·
      refine pr_iload dX10_shaped_21 rfl ?_
      rw [if_neg (fun z => z.elim c11 c18)] at hQ
      exact pr_iret hQ dX10_shaped_23 rfl rfl rfl rfl rfl
/-- whether two programs have one shape from token k on -/
def shA (S1 : Nat → Int32) (f1 : Nat) (S2 : Nat → Int32) (f2 n : Nat) : Nat → Nat → Bool
  | 0, _ => true
  | m + 1, k => decide (shp S1 f1 n k = shp S2 f2 n k) && shA S1 f1 S2 f2 n m (k + 1)
set_option maxHeartbeats 4000000 in
set_option maxRecDepth 20000 in
theorem rl_isShape {fx : px_F} {dd : Nat} {Q : px_Q} {al : Nat → Nat} {n : Nat} {g0 : Nat → px_O} {r : Nat} {sc : Nat → Int32} {ar : Nat → Nat → Int32} {m w : Nat} (hm : sc 16 = nI m) (hm2 : m ≤ 120) (hw : w < 100) : ∀ (mm k : Nat), k + mm = m → (∀ g2, RR al n g2 r sc ar → rf_fr r g0 g2 → Q (.inl (some (.int (zB (shA (ar 15) (120 * w) (ar 3) 0 m mm k))))) al n g2) → pr fx (px_body pm_X10_isShape) (dd + 1) Q al n g0 r sc ar 17 [.ref (al r), .int (nI w), .int (nI k)] []
  | 0, k, hk, hQ => by
    obtain rfl : k = m := by omega
    refine pr_iload_n dX10_isShape_17 rfl ?_
    refine pr_aload_n dX10_isShape_18 rfl rfl ?_
    refine pr_getS (v := nI k) dX10_isShape_19 fk_X10_184 rfl hm ?_
    refine pr_icmp_ge (tgt := 65) dX10_isShape_22 (by decide) (fun c22 => ?_) (fun c22 => absurd (Int32.le_refl _) c22)
    refine pr_iconst dX10_isShape_65 (show Int32.ofInt (1) = (1) by decide) ?_
    exact pr_iret hQ dX10_isShape_66 rfl rfl rfl rfl rfl
  | mm + 1, k, hk, hQ => by
    rw [shA] at hQ
    have hlw : rf_len 15 = 12000 := rfl
    have hls : rf_len 3 = 120 := rfl
    refine pr_iload_n dX10_isShape_17 rfl ?_
    refine pr_aload_n dX10_isShape_18 rfl rfl ?_
    refine pr_getS (v := nI m) dX10_isShape_19 fk_X10_184 rfl hm ?_
    refine pr_icmp_ge (tgt := 65) dX10_isShape_22 (by decide) (fun c22 => absurd c22 (Int32.not_le.mpr (nI_lt (by omega) (by omega)))) (fun c22 => ?_)
    refine pr_aload_n dX10_isShape_25 rfl rfl ?_
    refine pr_getA dX10_isShape_26 fk_X10_61 rfl ?_
    refine pr_bipush dX10_isShape_29 (show (Int8.ofInt (120)).toInt32 = (120) by decide) ?_
    refine pr_iload_n dX10_isShape_31 rfl ?_
    refine pr_imul dX10_isShape_32 ?_
    rw [show (120 : Int32) * nI w = nI (120 * w) from pk_mul 120 w]
    refine pr_aload_n dX10_isShape_33 rfl rfl ?_
    refine pr_getS (v := nI m) dX10_isShape_34 fk_X10_184 rfl hm ?_
    refine pr_iload_n dX10_isShape_37 rfl ?_
    refine pr_callRS (As := fun al r => [.ref (al (r + 1 + 15)), .int (nI (120 * w)), .int (nI m), .int (nI k)]) dX10_isShape_38 cl_X10_251 (rs_shaped dd sc ar (a := 15) (fr := 120 * w) (by decide) rfl (by omega) (by decide) (by omega)) rfl rfl (Nat.le_of_ble_eq_true rfl) ⟨rfl, rfl⟩ ?_
    refine pr_aload_n dX10_isShape_41 rfl rfl ?_
    refine pr_getA dX10_isShape_42 fk_X10_24 rfl ?_
    refine pr_iconst dX10_isShape_45 (show Int32.ofInt (0) = (0) by decide) ?_
    refine pr_aload_n dX10_isShape_46 rfl rfl ?_
    refine pr_getS (v := nI m) dX10_isShape_47 fk_X10_184 rfl hm ?_
    refine pr_iload_n dX10_isShape_50 rfl ?_
    refine pr_callRS (As := fun al r => [.ref (al (r + 1 + 3)), .int (nI (0)), .int (nI m), .int (nI k)]) dX10_isShape_51 cl_X10_251 (rs_shaped dd sc ar (a := 3) (fr := 0) (by decide) rfl (by omega) (by decide) (by omega)) rfl rfl (Nat.le_of_ble_eq_true rfl) ⟨rfl, rfl⟩ ?_
    refine pr_icmp_eq (tgt := 59) dX10_isShape_54 (by decide) (fun c54 => ?_) (fun c54 => ?_)
    ·
      rw [decide_eq_true c54, Bool.true_and] at hQ
      refine pr_iinc dX10_isShape_59 rfl (show Int32.ofInt (1) = (1) by decide) ?_
      refine pr_goto (tgt := 17) dX10_isShape_62 (by decide) ?_
      rw [nI_1]
      exact rl_isShape hm hm2 hw mm (k + 1) (by omega) hQ
    ·
      refine pr_iconst dX10_isShape_57 (show Int32.ofInt (0) = (0) by decide) ?_
      rw [decide_eq_false c54, Bool.false_and] at hQ
      exact pr_iret hQ dX10_isShape_58 rfl rfl rfl rfl rfl
set_option maxHeartbeats 4000000 in
set_option maxRecDepth 20000 in
theorem rc_isShape (d : Nat) (sc : Nat → Int32) (ar : Nat → Nat → Int32) {m w : Nat} (hm : sc 16 = nI m) (hm2 : m ≤ 120) (hw : w < 100) : RC (d + 2) 133 [.int (nI w)] sc ar (some (.int (zB (decide (ar 14 w = nI m) && shA (ar 15) (120 * w) (ar 3) 0 m m 0)))) sc ar := by
  refine RC.of pm_X10_isShape rfl rfl (Nat.le_of_ble_eq_true rfl) ?_
  intro fx al n g0 r Q hQ
  show pr fx (px_body pm_X10_isShape) (d + 1) Q al n g0 r sc ar 0 [.ref (al r), .int (nI w), .float 0] []
  refine pr_aload_n dX10_isShape_0 rfl rfl ?_
  refine pr_getA dX10_isShape_1 fk_X10_58 rfl ?_
  refine pr_iload_n dX10_isShape_4 rfl ?_
  refine pr_iald (v := (ar 14 w)) (j := w) dX10_isShape_5 (by decide) rfl rfl (by show w < 100; omega) rfl ?_
  refine pr_aload_n dX10_isShape_6 rfl rfl ?_
  refine pr_getS (v := nI m) dX10_isShape_7 fk_X10_184 rfl hm ?_
  refine pr_icmp_eq (tgt := 15) dX10_isShape_10 (by decide) (fun c10 => ?_) (fun c10 => ?_)
  ·
    rw [decide_eq_true c10, Bool.true_and] at hQ
    refine pr_iconst dX10_isShape_15 (show Int32.ofInt (0) = (0) by decide) ?_
    refine pr_istore_n dX10_isShape_16 (Nat.le_of_ble_eq_true rfl) ?_
    exact rl_isShape hm hm2 hw m 0 (by omega) hQ
  ·
    refine pr_iconst dX10_isShape_13 (show Int32.ofInt (0) = (0) by decide) ?_
    rw [decide_eq_false c10, Bool.false_and] at hQ
    exact pr_iret hQ dX10_isShape_14 rfl rfl rfl rfl rfl
/-- whether one of a task's ways from w on has the slate's shape -/
def kAny (wM W S : Nat → Int32) (t m : Nat) : Nat → Nat → Bool
  | 0, _ => false
  | j + 1, w => (decide (wM (10 * t + w) = nI m) && shA W (120 * (10 * t + w)) S 0 m m 0) || kAny wM W S t m j (w + 1)
def wyS (W S : Nat → Int32) (b k : Nat) : Nat → Int32 := fun j => if b ≤ j ∧ j < b + k then S (j - b) else W j
theorem wyS_0 (W S : Nat → Int32) (b : Nat) : wyS W S b 0 = W := by funext j; unfold wyS; rw [if_neg (by omega)]
theorem wyS_1 (W S : Nat → Int32) (b k : Nat) : upd (wyS W S b k) (b + k) (S k) = wyS W S b (k + 1) := by
  funext j
  by_cases e : j = b + k
  · subst e; rw [pk_us]; unfold wyS; rw [if_pos (by omega), Nat.add_sub_cancel_left]
  · rw [pk_un e]; unfold wyS
    by_cases c : b ≤ j ∧ j < b + k
    · rw [if_pos c, if_pos (by omega)]
    · rw [if_neg c, if_neg (by omega)]
/-- the reference's rows behind keeps -/
def kpA (ar : Nat → Nat → Int32) (t m W : Nat) : Nat → Nat → Int32 := va_up (va_up (va_up ar 14 (upd (ar 14) (10 * t + W) (nI m))) 15 (wyS (ar 15) (ar 3) (120 * (10 * t + W)) m)) 13 (upd (ar 13) t (nI (W + 1)))
def kpR (ar : Nat → Nat → Int32) (t m W : Nat) : Nat → Nat → Int32 := if kAny (ar 14) (ar 15) (ar 3) t m W 0 = true ∨ W = 10 then ar else kpA ar t m W
set_option maxHeartbeats 4000000 in
set_option maxRecDepth 20000 in
theorem rl_kcopy {fx : px_F} {dd : Nat} {Q : px_Q} {al : Nat → Nat} {n : Nat} {g0 : Nat → px_O} {r : Nat} {sc : Nat → Int32} {ar : Nat → Nat → Int32} {t m w : Nat} {l1 : Value} (hm : sc 16 = nI m) (hm2 : m ≤ 120) (hw : w < 100) (kk : pr fx (px_body pm_X10_keeps) dd Q al n g0 r sc (va_up ar 15 (wyS (ar 15) (ar 3) (120 * w) m)) 99 [.ref (al r), .int (nI t), .int (nI w), .int (nI m)] []) : ∀ (mm k : Nat), k + mm = m → pr fx (px_body pm_X10_keeps) dd Q al n g0 r sc (va_up ar 15 (wyS (ar 15) (ar 3) (120 * w) k)) 68 [.ref (al r), .int (nI t), .int (nI w), .int (nI k)] []
  | 0, k, hk => by
    obtain rfl : k = m := by omega
    refine pr_iload_n dX10_keeps_68 rfl ?_
    refine pr_aload_n dX10_keeps_69 rfl rfl ?_
    refine pr_getS (v := nI k) dX10_keeps_70 fk_X10_184 rfl hm ?_
    refine pr_icmp_ge (tgt := 99) dX10_keeps_73 (by decide) (fun c73 => ?_) (fun c73 => absurd (Int32.le_refl _) c73)
    exact kk
  | mm + 1, k, hk => by
    have ih := rl_kcopy (l1 := l1) hm hm2 hw kk mm (k + 1) (by omega)
    rw [← wyS_1] at ih
    refine pr_iload_n dX10_keeps_68 rfl ?_
    refine pr_aload_n dX10_keeps_69 rfl rfl ?_
    refine pr_getS (v := nI m) dX10_keeps_70 fk_X10_184 rfl hm ?_
    refine pr_icmp_ge (tgt := 99) dX10_keeps_73 (by decide) (fun c73 => absurd c73 (Int32.not_le.mpr (nI_lt (by omega) (by omega)))) (fun c73 => ?_)
    refine pr_aload_n dX10_keeps_76 rfl rfl ?_
    refine pr_getA dX10_keeps_77 fk_X10_61 rfl ?_
    refine pr_bipush dX10_keeps_80 (show (Int8.ofInt (120)).toInt32 = (120) by decide) ?_
    refine pr_iload_n dX10_keeps_82 rfl ?_
    refine pr_imul dX10_keeps_83 ?_
    refine pr_iload_n dX10_keeps_84 rfl ?_
    refine pr_iadd dX10_keeps_85 ?_
    refine pr_aload_n dX10_keeps_86 rfl rfl ?_
    refine pr_getA dX10_keeps_87 fk_X10_24 rfl ?_
    refine pr_iload_n dX10_keeps_90 rfl ?_
    refine pr_iald (j := k) dX10_keeps_91 (by decide) rfl rfl (by show k < 120; omega) rfl ?_
    refine pr_iast (j := 120 * w + k) dX10_keeps_92 (by decide) rfl (ix_mul 120 w k) (by show 120 * w + k < 12000; omega) ?_
    rw [va_3]
    refine pr_iinc dX10_keeps_93 rfl (show Int32.ofInt (1) = (1) by decide) ?_
    refine pr_goto (tgt := 68) dX10_keeps_96 (by decide) ?_
    rw [nI_1]
    exact ih
set_option maxHeartbeats 4000000 in
set_option maxRecDepth 20000 in
theorem rl_keeps {fx : px_F} {dd : Nat} {Q : px_Q} {al : Nat → Nat} {n : Nat} {g0 : Nat → px_O} {r : Nat} {sc : Nat → Int32} {ar : Nat → Nat → Int32} {t m W : Nat} {l3 : Value} (hm : sc 16 = nI m) (hm2 : m ≤ 120) (ht : t < 10) (hW : W ≤ 10) (h13 : ar 13 t = nI W) : ∀ (j w : Nat), w + j = W → (∀ g2, RR al n g2 r sc (if kAny (ar 14) (ar 15) (ar 3) t m j w = true ∨ W = 10 then ar else kpA ar t m W) → rf_fr r g0 g2 → Q (.inl none) al n g2) → pr fx (px_body pm_X10_keeps) (dd + 2) Q al n g0 r sc ar 2 [.ref (al r), .int (nI t), .int (nI w), l3] []
  | 0, w, hk, hQ => by
    obtain rfl : w = W := by omega
    refine pr_iload_n dX10_keeps_2 rfl ?_
    refine pr_aload_n dX10_keeps_3 rfl rfl ?_
    refine pr_getA dX10_keeps_4 fk_X10_55 rfl ?_
    refine pr_iload_n dX10_keeps_7 rfl ?_
    refine pr_iald (v := (nI w)) (j := t) dX10_keeps_8 (by decide) rfl rfl (by show t < 10; omega) h13 ?_
    refine pr_icmp_ge (tgt := 32) dX10_keeps_9 (by decide) (fun c9 => ?_) (fun c9 => absurd (Int32.le_refl _) c9)
    refine pr_aload_n dX10_keeps_32 rfl rfl ?_
    refine pr_getA dX10_keeps_33 fk_X10_55 rfl ?_
    refine pr_iload_n dX10_keeps_36 rfl ?_
    refine pr_iald (v := (nI w)) (j := t) dX10_keeps_37 (by decide) rfl rfl (by show t < 10; omega) h13 ?_
    refine pr_bipush dX10_keeps_38 (show (Int8.ofInt (10)).toInt32 = (10) by decide) ?_
    refine pr_icmp_ne (tgt := 44) dX10_keeps_40 (by decide) (fun c40 => ?_) (fun c40 => ?_)
    ·
      have hw9 : w < 10 := by
        have : ¬ w = 10 := fun z => c40 (by rw [z]; rfl)
        omega
      rw [if_neg (fun z => z.elim (fun z => by rw [kAny] at z; cases z) (fun z => by omega))] at hQ
      refine pr_bipush dX10_keeps_44 (show (Int8.ofInt (10)).toInt32 = (10) by decide) ?_
      refine pr_iload_n dX10_keeps_46 rfl ?_
      refine pr_imul dX10_keeps_47 ?_
      refine pr_aload_n dX10_keeps_48 rfl rfl ?_
      refine pr_getA dX10_keeps_49 fk_X10_55 rfl ?_
      refine pr_iload_n dX10_keeps_52 rfl ?_
      refine pr_iald (v := (nI w)) (j := t) dX10_keeps_53 (by decide) rfl rfl (by show t < 10; omega) h13 ?_
      refine pr_iadd dX10_keeps_54 ?_
      rw [show (10 : Int32) * nI t + nI w = nI (10 * t + w) from ix_mul 10 t w]
      refine pr_istore_n dX10_keeps_55 (Nat.le_of_ble_eq_true rfl) ?_
      refine pr_aload_n dX10_keeps_56 rfl rfl ?_
      refine pr_getA dX10_keeps_57 fk_X10_58 rfl ?_
      refine pr_iload_n dX10_keeps_60 rfl ?_
      refine pr_aload_n dX10_keeps_61 rfl rfl ?_
      refine pr_getS (v := nI m) dX10_keeps_62 fk_X10_184 rfl hm ?_
      refine pr_iast (j := 10 * t + w) dX10_keeps_65 (by decide) rfl rfl (by show 10 * t + w < 100; omega) ?_
      refine pr_iconst dX10_keeps_66 (show Int32.ofInt (0) = (0) by decide) ?_
      refine pr_istore_n dX10_keeps_67 (Nat.le_of_ble_eq_true rfl) ?_
      have key := rl_kcopy (fx := fx) (dd := dd + 2) (Q := Q) (al := al) (n := n) (g0 := g0) (r := r) (sc := sc) (ar := va_up ar 14 (upd (ar 14) (10 * t + w) (nI m))) (t := t) (m := m) (w := 10 * t + w) (l1 := .null) hm hm2 (by omega) ?_ m 0 (by omega)
      · rw [wyS_0, va_id] at key
        exact key
      · refine pr_aload_n dX10_keeps_99 rfl rfl ?_
        refine pr_getA dX10_keeps_100 fk_X10_55 rfl ?_
        refine pr_iload_n dX10_keeps_103 rfl ?_
        refine pr_dup2 dX10_keeps_104 rfl rfl ?_
        refine pr_iald (v := (nI w)) (j := t) dX10_keeps_105 (by decide) rfl rfl (by show t < 10; omega) h13 ?_
        refine pr_iconst dX10_keeps_106 (show Int32.ofInt (1) = (1) by decide) ?_
        refine pr_iadd dX10_keeps_107 ?_
        rw [nI_1]
        refine pr_iast (j := t) dX10_keeps_108 (by decide) rfl rfl (by show t < 10; omega) ?_
        exact pr_vret hQ dX10_keeps_109 rfl rfl rfl rfl
    ·
      rw [if_pos (Or.inr ((nI_eq (a := w) (b := 10) (by omega) (by decide)).mp c40))] at hQ
      exact pr_vret hQ dX10_keeps_43 rfl rfl rfl rfl
  | j + 1, w, hk, hQ => by
    rw [kAny] at hQ
    refine pr_iload_n dX10_keeps_2 rfl ?_
    refine pr_aload_n dX10_keeps_3 rfl rfl ?_
    refine pr_getA dX10_keeps_4 fk_X10_55 rfl ?_
    refine pr_iload_n dX10_keeps_7 rfl ?_
    refine pr_iald (v := (nI W)) (j := t) dX10_keeps_8 (by decide) rfl rfl (by show t < 10; omega) h13 ?_
    refine pr_icmp_ge (tgt := 32) dX10_keeps_9 (by decide) (fun c9 => absurd c9 (Int32.not_le.mpr (nI_lt (by omega) (by omega)))) (fun c9 => ?_)
    refine pr_aload_n dX10_keeps_12 rfl rfl ?_
    refine pr_bipush dX10_keeps_13 (show (Int8.ofInt (10)).toInt32 = (10) by decide) ?_
    refine pr_iload_n dX10_keeps_15 rfl ?_
    refine pr_imul dX10_keeps_16 ?_
    refine pr_iload_n dX10_keeps_17 rfl ?_
    refine pr_iadd dX10_keeps_18 ?_
    rw [show (10 : Int32) * nI t + nI w = nI (10 * t + w) from ix_mul 10 t w]
    refine pr_call dX10_keeps_19 cl_X10_255 (rc_isShape dd sc ar (w := 10 * t + w) hm hm2 (by omega)) rfl rfl (Nat.le_of_ble_eq_true rfl) ⟨rfl, rfl⟩ ?_
    refine pr_if_eq (tgt := 26) dX10_keeps_22 (by decide) (fun c22 => ?_) (fun c22 => ?_)
    ·
      rw [zB_0.mp c22, Bool.false_or] at hQ
      refine pr_iinc dX10_keeps_26 rfl (show Int32.ofInt (1) = (1) by decide) ?_
      refine pr_goto (tgt := 2) dX10_keeps_29 (by decide) ?_
      rw [nI_1]
      exact rl_keeps hm hm2 ht hW h13 j (w + 1) (by omega) hQ
    ·
      rw [if_pos (Or.inl (by rw [zB_n0 c22, Bool.true_or]))] at hQ
      exact pr_vret hQ dX10_keeps_25 rfl rfl rfl rfl
set_option maxHeartbeats 4000000 in
set_option maxRecDepth 20000 in
theorem rc_keeps (d : Nat) (sc : Nat → Int32) (ar : Nat → Nat → Int32) {t m W : Nat} (hm : sc 16 = nI m) (hm2 : m ≤ 120) (ht : t < 10) (hW : W ≤ 10) (h13 : ar 13 t = nI W) : RC (d + 3) 134 [.int (nI t)] sc ar none sc (kpR ar t m W) := by
  refine RC.of pm_X10_keeps rfl rfl (Nat.le_of_ble_eq_true rfl) ?_
  intro fx al n g0 r Q hQ
  show pr fx (px_body pm_X10_keeps) (d + 2) Q al n g0 r sc ar 0 [.ref (al r), .int (nI t), .float 0, .float 0] []
  refine pr_iconst dX10_keeps_0 (show Int32.ofInt (0) = (0) by decide) ?_
  refine pr_istore_n dX10_keeps_1 (Nat.le_of_ble_eq_true rfl) ?_
  exact rl_keeps hm hm2 ht hW h13 W 0 (by omega) hQ
