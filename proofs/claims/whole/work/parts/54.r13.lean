/-- the grammar: kinds 0 BLOCK, 1 DO, 2 braces, 3 EXPR, 4 SUM, 5 TERM, 6 FACTOR; dp deep, from token i on: whether it stands there, and the token behind it or the first wrong one; none: out of fuel -/
def pP (T : Nat → Int32) : Nat → Nat → Nat → Nat → Option (Bool × Nat)
  | 0, _, _, _ => none
  | f + 1, 0, dp, i => (pP T f 1 dp i).bind (fun q => if q.1 = false then some (false, q.2) else if T q.2 = nI 59 then pP T f 0 dp (q.2 + 1) else some (true, q.2))
  | f + 1, 1, dp, i => if isVar (T i) = true then (if T (i + 1) = nI 61 then pP T f 3 dp (i + 2) else some (false, i + 1))
      else if T i = nI 257 ∨ T i = nI 256 then (pP T f 3 dp (i + 1)).bind (fun q => if q.1 = false then some (false, q.2) else (pP T f 2 dp q.2).bind (fun w => if w.1 = false then some (false, w.2) else if T i = nI 257 ∧ T w.2 = nI 258 then pP T f 2 dp (w.2 + 1) else some (true, w.2)))
      else some (false, i)
  | f + 1, 2, dp, i => if T i = nI 123 ∧ dp < 10 then (pP T f 0 (dp + 1) (i + 1)).bind (fun q => if q.1 = false then some (false, q.2) else if T q.2 = nI 125 then some (true, q.2 + 1) else some (false, q.2)) else some (false, i)
  | f + 1, 3, dp, i => (pP T f 4 dp i).bind (fun q => if q.1 = false then some (false, q.2) else if T q.2 = nI 60 then pP T f 4 dp (q.2 + 1) else some (true, q.2))
  | f + 1, 4, dp, i => (pP T f 5 dp i).bind (fun q => if q.1 = false then some (false, q.2) else if T q.2 = nI 43 ∨ T q.2 = nI 45 then pP T f 4 dp (q.2 + 1) else some (true, q.2))
  | f + 1, 5, dp, i => (pP T f 6 dp i).bind (fun q => if q.1 = false then some (false, q.2) else if T q.2 = nI 42 ∨ T q.2 = nI 47 ∨ T q.2 = nI 37 then pP T f 5 dp (q.2 + 1) else some (true, q.2))
  | f + 1, _, dp, i => if isVar (T i) = true ∨ 1000 ≤ T i then some (true, i + 1)
      else if T i = nI 40 ∧ dp < 10 then (pP T f 3 (dp + 1) (i + 1)).bind (fun q => if q.1 = false then some (false, q.2) else if T q.2 = nI 41 then some (true, q.2 + 1) else some (false, q.2)) else some (false, i)
/-- the reference's method of a kind -/
def kM : Nat → Nat
  | 0 => 105
  | 1 => 107
  | 2 => 106
  | 3 => 108
  | 4 => 109
  | 5 => 110
  | _ => 111
def pQ (B : Nat → Nat) (e : Nat) (sc0 : Nat → Int32) (ar0 : Nat → Nat → Int32) (dp : Nat) (b : Bool) (j : Nat) : Option Value → (Nat → Int32) → (Nat → Nat → Int32) → Prop := fun res sc2 ar2 => res = some (.int (zB b)) ∧ ∃ dp2, PS B e sc0 ar0 j dp2 sc2 ar2 ∧ (b = true → dp2 = dp)
theorem isVar_pos {t : Int32} (h : isVar t = true) : ¬ t = 0 ∧ ¬ t = -2 := by
  constructor
  · intro z; rw [z] at h; exact absurd h (by decide)
  · intro z; rw [z] at h; exact absurd h (by decide)
theorem big_pos {t : Int32} (h : 1000 ≤ t) : ¬ t = 0 ∧ ¬ t = -2 := by
  constructor
  · intro z; rw [z] at h; exact absurd h (by decide)
  · intro z; rw [z] at h; exact absurd h (by decide)
theorem lit_pos {t : Int32} {c : Nat} (h : t = nI c) (h0 : 0 < c) (h1 : c < 2 ^ 31) : ¬ t = 0 ∧ ¬ t = -2 := ⟨fun z => nI_ne0 h0 h1 (h.symm.trans z), fun z => nI_pos h1 (by rw [← h, z]; decide)⟩
/-- what the kinds' methods do, with fuel up to f -/
def pH (B : Nat → Nat) (e : Nat) (sc0 : Nat → Int32) (ar0 : Nat → Nat → Int32) (f D : Nat) : Prop := ∀ f0, f0 ≤ f → ∀ kd, kd < 7 → ∀ dp i b j sc ar, PS B e sc0 ar0 i dp sc ar → pP (tk B e) f0 kd dp i = some (b, j) → RP D (kM kd) [] sc ar (pQ B e sc0 ar0 dp b j)
set_option maxHeartbeats 4000000 in
set_option maxRecDepth 20000 in
theorem rl_rBlock {B : Nat → Nat} {e : Nat} {sc0 : Nat → Int32} {ar0 : Nat → Nat → Int32} {f : Nat} (H : pH B e sc0 ar0 f (f + 10)) : ∀ f1, f1 ≤ f + 1 → ∀ dp i b j sc ar fx al n g0 r Q, PS B e sc0 ar0 i dp sc ar → pP (tk B e) f1 0 dp i = some (b, j) → (∀ res sc2 ar2 g2, pQ B e sc0 ar0 dp b j res sc2 ar2 → RR al n g2 r sc2 ar2 → rf_fr r g0 g2 → Q (.inl res) al n g2) → pr fx (px_body pm_X10_readBlock) (f + 10) Q al n g0 r sc ar 0 [.ref (al r)] []
  | 0, _, _, _, _, _, _, _, _, _, _, _, _, _, _, h, _ => by rw [pP] at h; cases h
  | f1 + 1, hf, dp, i, b, j, sc, ar, fx, al, n, g0, r, Q, hS, h, hQ => by
    rw [pP] at h
    cases hqq : pP (tk B e) f1 1 dp i with
    | none => rw [hqq] at h; cases h
    | some q =>
      rw [hqq, Option.bind_some] at h
      have hqq : pP (tk B e) f1 1 dp i = some (q.1, q.2) := hqq
      refine pr_aload_n dX10_readBlock_0 rfl rfl ?_
      refine pr_callP dX10_readBlock_1 cl_X10_152 (H f1 (by omega) 1 (by decide) dp i q.1 q.2 _ _ hS hqq) rfl rfl (Nat.le_of_ble_eq_true rfl) ⟨rfl, rfl⟩ (fun res sc2 ar2 hn => ?_)
      obtain ⟨rfl, dpq, hS, hdpq⟩ := hn
      refine pr_if_ne (tgt := 9) dX10_readBlock_4 (by decide) (fun c4 => ?_) (fun c4 => ?_)
      ·
        have hb : q.1 = true := zB_n0 c4
        rw [if_neg (by rw [hb]; decide)] at h
        refine pr_aload_n dX10_readBlock_9 rfl rfl ?_
        refine pr_getS (v := rT (tk B e q.2)) dX10_readBlock_10 fk_X10_137 rfl hS.2.2.2.2.2.1 ?_
        refine pr_bipush dX10_readBlock_13 (show (Int8.ofInt (59)).toInt32 = (59) by decide) ?_
        refine pr_icmp_eq (tgt := 20) dX10_readBlock_15 (by decide) (fun c15 => ?_) (fun c15 => ?_)
        ·
          have ht : tk B e q.2 = nI 59 := (rT_eq (by decide) (by decide)).mp c15
          rw [if_pos (ht)] at h
          refine pr_aload_n dX10_readBlock_20 rfl rfl ?_
          refine pr_callP dX10_readBlock_21 cl_X10_143 (rp_accept (f + 2) hS (lit_pos ht (by decide) (by decide)).1 (lit_pos ht (by decide) (by decide)).2) rfl rfl (Nat.le_of_ble_eq_true rfl) ⟨rfl, rfl⟩ (fun res sc2 ar2 hn => ?_)
          obtain ⟨rfl, hS⟩ := hn
          refine pr_goto (tgt := 0) dX10_readBlock_24 (by decide) ?_
          exact rl_rBlock H f1 (by omega) dp (q.2 + 1) b j _ _ fx al n g0 r Q (hdpq hb ▸ hS) h hQ
        ·
          refine pr_iconst dX10_readBlock_18 (show Int32.ofInt (1) = (1) by decide) ?_
          rw [if_neg (fun z => c15 ((rT_eq (by decide) (by decide)).mpr z))] at h
          cases h
          exact pr_iretP hQ dX10_readBlock_19 rfl rfl ⟨rfl, dpq, hS, fun _ => hdpq hb⟩
      ·
        refine pr_iconst dX10_readBlock_7 (show Int32.ofInt (0) = (0) by decide) ?_
        have hb : q.1 = false := zB_0.mp c4
        rw [if_pos hb] at h
        cases h
        exact pr_iretP hQ dX10_readBlock_8 rfl rfl ⟨rfl, dpq, hS, fun z => by cases z⟩
set_option maxHeartbeats 4000000 in
set_option maxRecDepth 20000 in
theorem rl_rSum {B : Nat → Nat} {e : Nat} {sc0 : Nat → Int32} {ar0 : Nat → Nat → Int32} {f : Nat} (H : pH B e sc0 ar0 f (f + 10)) : ∀ f1, f1 ≤ f + 1 → ∀ dp i b j sc ar fx al n g0 r Q, PS B e sc0 ar0 i dp sc ar → pP (tk B e) f1 4 dp i = some (b, j) → (∀ res sc2 ar2 g2, pQ B e sc0 ar0 dp b j res sc2 ar2 → RR al n g2 r sc2 ar2 → rf_fr r g0 g2 → Q (.inl res) al n g2) → pr fx (px_body pm_X10_readSum) (f + 10) Q al n g0 r sc ar 0 [.ref (al r)] []
  | 0, _, _, _, _, _, _, _, _, _, _, _, _, _, _, h, _ => by rw [pP] at h; cases h
  | f1 + 1, hf, dp, i, b, j, sc, ar, fx, al, n, g0, r, Q, hS, h, hQ => by
    rw [pP] at h
    cases hqq : pP (tk B e) f1 5 dp i with
    | none => rw [hqq] at h; cases h
    | some q =>
      rw [hqq, Option.bind_some] at h
      have hqq : pP (tk B e) f1 5 dp i = some (q.1, q.2) := hqq
      refine pr_aload_n dX10_readSum_0 rfl rfl ?_
      refine pr_callP dX10_readSum_1 cl_X10_174 (H f1 (by omega) 5 (by decide) dp i q.1 q.2 _ _ hS hqq) rfl rfl (Nat.le_of_ble_eq_true rfl) ⟨rfl, rfl⟩ (fun res sc2 ar2 hn => ?_)
      obtain ⟨rfl, dpq, hS, hdpq⟩ := hn
      refine pr_if_ne (tgt := 9) dX10_readSum_4 (by decide) (fun c4 => ?_) (fun c4 => ?_)
      ·
        have hb : q.1 = true := zB_n0 c4
        rw [if_neg (by rw [hb]; decide)] at h
        refine pr_aload_n dX10_readSum_9 rfl rfl ?_
        refine pr_getS (v := rT (tk B e q.2)) dX10_readSum_10 fk_X10_137 rfl hS.2.2.2.2.2.1 ?_
        refine pr_bipush dX10_readSum_13 (show (Int8.ofInt (43)).toInt32 = (43) by decide) ?_
        refine pr_icmp_eq (tgt := 29) dX10_readSum_15 (by decide) (fun c15 => ?_) (fun c15 => ?_)
        ·
          have ht : tk B e q.2 = nI 43 := (rT_eq (by decide) (by decide)).mp c15
          rw [if_pos (Or.inl ht)] at h
          refine pr_aload_n dX10_readSum_29 rfl rfl ?_
          refine pr_callP dX10_readSum_30 cl_X10_143 (rp_accept (f + 2) hS (lit_pos ht (by decide) (by decide)).1 (lit_pos ht (by decide) (by decide)).2) rfl rfl (Nat.le_of_ble_eq_true rfl) ⟨rfl, rfl⟩ (fun res sc2 ar2 hn => ?_)
          obtain ⟨rfl, hS⟩ := hn
          refine pr_goto (tgt := 0) dX10_readSum_33 (by decide) ?_
          exact rl_rSum H f1 (by omega) dp (q.2 + 1) b j _ _ fx al n g0 r Q (hdpq hb ▸ hS) h hQ
        ·
          refine pr_aload_n dX10_readSum_18 rfl rfl ?_
          refine pr_getS (v := rT (tk B e q.2)) dX10_readSum_19 fk_X10_137 rfl hS.2.2.2.2.2.1 ?_
          refine pr_bipush dX10_readSum_22 (show (Int8.ofInt (45)).toInt32 = (45) by decide) ?_
          refine pr_icmp_eq (tgt := 29) dX10_readSum_24 (by decide) (fun c24 => ?_) (fun c24 => ?_)
          ·
            have ht : tk B e q.2 = nI 45 := (rT_eq (by decide) (by decide)).mp c24
            rw [if_pos (Or.inr ht)] at h
            refine pr_aload_n dX10_readSum_29 rfl rfl ?_
            refine pr_callP dX10_readSum_30 cl_X10_143 (rp_accept (f + 2) hS (lit_pos ht (by decide) (by decide)).1 (lit_pos ht (by decide) (by decide)).2) rfl rfl (Nat.le_of_ble_eq_true rfl) ⟨rfl, rfl⟩ (fun res sc2 ar2 hn => ?_)
            obtain ⟨rfl, hS⟩ := hn
            refine pr_goto (tgt := 0) dX10_readSum_33 (by decide) ?_
            exact rl_rSum H f1 (by omega) dp (q.2 + 1) b j _ _ fx al n g0 r Q (hdpq hb ▸ hS) h hQ
          ·
            refine pr_iconst dX10_readSum_27 (show Int32.ofInt (1) = (1) by decide) ?_
            rw [if_neg (fun z => z.elim (fun z => c15 ((rT_eq (by decide) (by decide)).mpr z)) (fun z => c24 ((rT_eq (by decide) (by decide)).mpr z)))] at h
            cases h
            exact pr_iretP hQ dX10_readSum_28 rfl rfl ⟨rfl, dpq, hS, fun _ => hdpq hb⟩
      ·
        refine pr_iconst dX10_readSum_7 (show Int32.ofInt (0) = (0) by decide) ?_
        have hb : q.1 = false := zB_0.mp c4
        rw [if_pos hb] at h
        cases h
        exact pr_iretP hQ dX10_readSum_8 rfl rfl ⟨rfl, dpq, hS, fun z => by cases z⟩
set_option maxHeartbeats 4000000 in
set_option maxRecDepth 20000 in
theorem rl_rTerm {B : Nat → Nat} {e : Nat} {sc0 : Nat → Int32} {ar0 : Nat → Nat → Int32} {f : Nat} (H : pH B e sc0 ar0 f (f + 10)) : ∀ f1, f1 ≤ f + 1 → ∀ dp i b j sc ar fx al n g0 r Q, PS B e sc0 ar0 i dp sc ar → pP (tk B e) f1 5 dp i = some (b, j) → (∀ res sc2 ar2 g2, pQ B e sc0 ar0 dp b j res sc2 ar2 → RR al n g2 r sc2 ar2 → rf_fr r g0 g2 → Q (.inl res) al n g2) → pr fx (px_body pm_X10_readTerm) (f + 10) Q al n g0 r sc ar 0 [.ref (al r)] []
  | 0, _, _, _, _, _, _, _, _, _, _, _, _, _, _, h, _ => by rw [pP] at h; cases h
  | f1 + 1, hf, dp, i, b, j, sc, ar, fx, al, n, g0, r, Q, hS, h, hQ => by
    rw [pP] at h
    cases hqq : pP (tk B e) f1 6 dp i with
    | none => rw [hqq] at h; cases h
    | some q =>
      rw [hqq, Option.bind_some] at h
      have hqq : pP (tk B e) f1 6 dp i = some (q.1, q.2) := hqq
      refine pr_aload_n dX10_readTerm_0 rfl rfl ?_
      refine pr_callP dX10_readTerm_1 cl_X10_177 (H f1 (by omega) 6 (by decide) dp i q.1 q.2 _ _ hS hqq) rfl rfl (Nat.le_of_ble_eq_true rfl) ⟨rfl, rfl⟩ (fun res sc2 ar2 hn => ?_)
      obtain ⟨rfl, dpq, hS, hdpq⟩ := hn
      refine pr_if_ne (tgt := 9) dX10_readTerm_4 (by decide) (fun c4 => ?_) (fun c4 => ?_)
      ·
        have hb : q.1 = true := zB_n0 c4
        rw [if_neg (by rw [hb]; decide)] at h
        refine pr_aload_n dX10_readTerm_9 rfl rfl ?_
        refine pr_getS (v := rT (tk B e q.2)) dX10_readTerm_10 fk_X10_137 rfl hS.2.2.2.2.2.1 ?_
        refine pr_bipush dX10_readTerm_13 (show (Int8.ofInt (42)).toInt32 = (42) by decide) ?_
        refine pr_icmp_eq (tgt := 38) dX10_readTerm_15 (by decide) (fun c15 => ?_) (fun c15 => ?_)
        ·
          have ht : tk B e q.2 = nI 42 := (rT_eq (by decide) (by decide)).mp c15
          rw [if_pos (Or.inl ht)] at h
          refine pr_aload_n dX10_readTerm_38 rfl rfl ?_
          refine pr_callP dX10_readTerm_39 cl_X10_143 (rp_accept (f + 2) hS (lit_pos ht (by decide) (by decide)).1 (lit_pos ht (by decide) (by decide)).2) rfl rfl (Nat.le_of_ble_eq_true rfl) ⟨rfl, rfl⟩ (fun res sc2 ar2 hn => ?_)
          obtain ⟨rfl, hS⟩ := hn
          refine pr_goto (tgt := 0) dX10_readTerm_42 (by decide) ?_
          exact rl_rTerm H f1 (by omega) dp (q.2 + 1) b j _ _ fx al n g0 r Q (hdpq hb ▸ hS) h hQ
        ·
          refine pr_aload_n dX10_readTerm_18 rfl rfl ?_
          refine pr_getS (v := rT (tk B e q.2)) dX10_readTerm_19 fk_X10_137 rfl hS.2.2.2.2.2.1 ?_
          refine pr_bipush dX10_readTerm_22 (show (Int8.ofInt (47)).toInt32 = (47) by decide) ?_
          refine pr_icmp_eq (tgt := 38) dX10_readTerm_24 (by decide) (fun c24 => ?_) (fun c24 => ?_)
          ·
            have ht : tk B e q.2 = nI 47 := (rT_eq (by decide) (by decide)).mp c24
            rw [if_pos (Or.inr (Or.inl ht))] at h
            refine pr_aload_n dX10_readTerm_38 rfl rfl ?_
            refine pr_callP dX10_readTerm_39 cl_X10_143 (rp_accept (f + 2) hS (lit_pos ht (by decide) (by decide)).1 (lit_pos ht (by decide) (by decide)).2) rfl rfl (Nat.le_of_ble_eq_true rfl) ⟨rfl, rfl⟩ (fun res sc2 ar2 hn => ?_)
            obtain ⟨rfl, hS⟩ := hn
            refine pr_goto (tgt := 0) dX10_readTerm_42 (by decide) ?_
            exact rl_rTerm H f1 (by omega) dp (q.2 + 1) b j _ _ fx al n g0 r Q (hdpq hb ▸ hS) h hQ
          ·
            refine pr_aload_n dX10_readTerm_27 rfl rfl ?_
            refine pr_getS (v := rT (tk B e q.2)) dX10_readTerm_28 fk_X10_137 rfl hS.2.2.2.2.2.1 ?_
            refine pr_bipush dX10_readTerm_31 (show (Int8.ofInt (37)).toInt32 = (37) by decide) ?_
            refine pr_icmp_eq (tgt := 38) dX10_readTerm_33 (by decide) (fun c33 => ?_) (fun c33 => ?_)
            ·
              have ht : tk B e q.2 = nI 37 := (rT_eq (by decide) (by decide)).mp c33
              rw [if_pos (Or.inr (Or.inr ht))] at h
              refine pr_aload_n dX10_readTerm_38 rfl rfl ?_
              refine pr_callP dX10_readTerm_39 cl_X10_143 (rp_accept (f + 2) hS (lit_pos ht (by decide) (by decide)).1 (lit_pos ht (by decide) (by decide)).2) rfl rfl (Nat.le_of_ble_eq_true rfl) ⟨rfl, rfl⟩ (fun res sc2 ar2 hn => ?_)
              obtain ⟨rfl, hS⟩ := hn
              refine pr_goto (tgt := 0) dX10_readTerm_42 (by decide) ?_
              exact rl_rTerm H f1 (by omega) dp (q.2 + 1) b j _ _ fx al n g0 r Q (hdpq hb ▸ hS) h hQ
            ·
              refine pr_iconst dX10_readTerm_36 (show Int32.ofInt (1) = (1) by decide) ?_
              rw [if_neg (fun z => z.elim (fun z => c15 ((rT_eq (by decide) (by decide)).mpr z)) (fun z => z.elim (fun z => c24 ((rT_eq (by decide) (by decide)).mpr z)) (fun z => c33 ((rT_eq (by decide) (by decide)).mpr z))))] at h
              cases h
              exact pr_iretP hQ dX10_readTerm_37 rfl rfl ⟨rfl, dpq, hS, fun _ => hdpq hb⟩
      ·
        refine pr_iconst dX10_readTerm_7 (show Int32.ofInt (0) = (0) by decide) ?_
        have hb : q.1 = false := zB_0.mp c4
        rw [if_pos hb] at h
        cases h
        exact pr_iretP hQ dX10_readTerm_8 rfl rfl ⟨rfl, dpq, hS, fun z => by cases z⟩
