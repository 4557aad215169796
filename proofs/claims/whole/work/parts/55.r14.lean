theorem pP_6 (T : Nat → Int32) (f dp i : Nat) : pP T (f + 1) 6 dp i = if isVar (T i) = true ∨ 1000 ≤ T i then some (true, i + 1) else if T i = nI 40 ∧ dp < 10 then (pP T f 3 (dp + 1) (i + 1)).bind (fun q => if q.1 = false then some (false, q.2) else if T q.2 = nI 41 then some (true, q.2 + 1) else some (false, q.2)) else some (false, i) := by
  rw [pP] <;> (intro z; cases z)
set_option maxHeartbeats 4000000 in
set_option maxRecDepth 20000 in
theorem rk_expr {B : Nat → Nat} {e : Nat} {sc0 : Nat → Int32} {ar0 : Nat → Nat → Int32} {f : Nat} (H : pH B e sc0 ar0 f (f + 10)) {f1 : Nat} (hf : f1 ≤ f) {dp i : Nat} {b : Bool} {j : Nat} {sc : Nat → Int32} {ar : Nat → Nat → Int32} (hS : PS B e sc0 ar0 i dp sc ar) (h : pP (tk B e) (f1 + 1) 3 dp i = some (b, j)) : RP (f + 11) 108 [] sc ar (pQ B e sc0 ar0 dp b j) := by
  refine RP.of pm_X10_readExpr rfl rfl (Nat.le_of_ble_eq_true rfl) ?_
  intro fx al n g0 r Q hQ
  show pr fx (px_body pm_X10_readExpr) (f + 10) Q al n g0 r sc ar 0 [.ref (al r)] []
  rw [pP] at h
  cases hqq : pP (tk B e) f1 4 dp i with
  | none => rw [hqq] at h; cases h
  | some q =>
    rw [hqq, Option.bind_some] at h
    have hqq : pP (tk B e) f1 4 dp i = some (q.1, q.2) := hqq
    refine pr_aload_n dX10_readExpr_0 rfl rfl ?_
    refine pr_callP dX10_readExpr_1 cl_X10_171 (H f1 (by omega) 4 (by decide) dp i q.1 q.2 _ _ hS hqq) rfl rfl (Nat.le_of_ble_eq_true rfl) ⟨rfl, rfl⟩ (fun res sc2 ar2 hn => ?_)
    obtain ⟨rfl, dpq, hS, hdpq⟩ := hn
    refine pr_if_ne (tgt := 9) dX10_readExpr_4 (by decide) (fun c4 => ?_) (fun c4 => ?_)
    ·
      have hb : q.1 = true := zB_n0 c4
      rw [if_neg (by rw [hb]; decide)] at h
      refine pr_aload_n dX10_readExpr_9 rfl rfl ?_
      refine pr_getS (v := rT (tk B e q.2)) dX10_readExpr_10 fk_X10_137 rfl hS.2.2.2.2.2.1 ?_
      refine pr_bipush dX10_readExpr_13 (show (Int8.ofInt (60)).toInt32 = (60) by decide) ?_
      refine pr_icmp_eq (tgt := 20) dX10_readExpr_15 (by decide) (fun c15 => ?_) (fun c15 => ?_)
      ·
        have ht : tk B e q.2 = nI 60 := (rT_eq (by decide) (by decide)).mp c15
        rw [if_pos ht] at h
        refine pr_aload_n dX10_readExpr_20 rfl rfl ?_
        refine pr_callP dX10_readExpr_21 cl_X10_143 (rp_accept (f + 2) hS (lit_pos ht (by decide) (by decide)).1 (lit_pos ht (by decide) (by decide)).2) rfl rfl (Nat.le_of_ble_eq_true rfl) ⟨rfl, rfl⟩ (fun res sc2 ar2 hn => ?_)
        obtain ⟨rfl, hS⟩ := hn
        refine pr_aload_n dX10_readExpr_24 rfl rfl ?_
        refine pr_callP dX10_readExpr_25 cl_X10_171 (H f1 (by omega) 4 (by decide) dp (q.2 + 1) b j _ _ (hdpq hb ▸ hS) h) rfl rfl (Nat.le_of_ble_eq_true rfl) ⟨rfl, rfl⟩ (fun res sc2 ar2 hn => ?_)
        obtain ⟨rfl, dp2, hS, hd2⟩ := hn
        exact pr_iretP hQ dX10_readExpr_28 rfl (zB_nar b) ⟨rfl, dp2, hS, hd2⟩
      ·
        refine pr_iconst dX10_readExpr_18 (show Int32.ofInt (1) = (1) by decide) ?_
        rw [if_neg (fun z => c15 ((rT_eq (by decide) (by decide)).mpr z))] at h
        cases h
        exact pr_iretP hQ dX10_readExpr_19 rfl rfl ⟨rfl, dpq, hS, fun _ => hdpq hb⟩
    ·
      refine pr_iconst dX10_readExpr_7 (show Int32.ofInt (0) = (0) by decide) ?_
      have hb : q.1 = false := zB_0.mp c4
      rw [if_pos hb] at h
      cases h
      exact pr_iretP hQ dX10_readExpr_8 rfl rfl ⟨rfl, dpq, hS, fun z => by cases z⟩
set_option maxHeartbeats 4000000 in
set_option maxRecDepth 20000 in
theorem rk_braces {B : Nat → Nat} {e : Nat} {sc0 : Nat → Int32} {ar0 : Nat → Nat → Int32} {f : Nat} (H : pH B e sc0 ar0 f (f + 10)) {f1 : Nat} (hf : f1 ≤ f) {dp i : Nat} {b : Bool} {j : Nat} {sc : Nat → Int32} {ar : Nat → Nat → Int32} (hS : PS B e sc0 ar0 i dp sc ar) (h : pP (tk B e) (f1 + 1) 2 dp i = some (b, j)) : RP (f + 11) 106 [] sc ar (pQ B e sc0 ar0 dp b j) := by
  refine RP.of pm_X10_readBraces rfl rfl (Nat.le_of_ble_eq_true rfl) ?_
  intro fx al n g0 r Q hQ
  show pr fx (px_body pm_X10_readBraces) (f + 10) Q al n g0 r sc ar 0 [.ref (al r)] []
  rw [pP] at h
  refine pr_aload_n dX10_readBraces_0 rfl rfl ?_
  refine pr_bipush dX10_readBraces_1 (show (Int8.ofInt (123)).toInt32 = (123) by decide) ?_
  refine pr_callP dX10_readBraces_3 cl_X10_156 (rp_opens (f + 1) hS (c := 123) (by decide) (by decide)) rfl rfl (Nat.le_of_ble_eq_true rfl) ⟨rfl, rfl⟩ (fun res sc2 ar2 hn => ?_)
  rcases hn with ⟨ht, hd, rfl, hS⟩ | ⟨hno, rfl, hS⟩
  ·
    refine pr_if_eq (tgt := 29) dX10_readBraces_6 (by decide) (fun c6 => absurd c6 (by decide)) (fun _ => ?_)
    refine pr_aload_n dX10_readBraces_9 rfl rfl ?_
    obtain ⟨q, hqq, h⟩ : ∃ q : Bool × Nat, pP (tk B e) f1 0 (dp + 1) (i + 1) = some (q.1, q.2) ∧ (if q.1 = false then some (false, q.2) else if tk B e q.2 = nI 125 then some (true, q.2 + 1) else some (false, q.2)) = some (b, j) := by
      rw [if_pos ⟨ht, hd⟩] at h
      cases hz : pP (tk B e) f1 0 (dp + 1) (i + 1) with
      | none => rw [hz] at h; cases h
      | some q => rw [hz, Option.bind_some] at h; exact ⟨q, rfl, h⟩
    refine pr_callP dX10_readBraces_10 cl_X10_159 (H f1 (by omega) 0 (by decide) (dp + 1) (i + 1) q.1 q.2 _ _ hS hqq) rfl rfl (Nat.le_of_ble_eq_true rfl) ⟨rfl, rfl⟩ (fun res sc2 ar2 hn => ?_)
    obtain ⟨rfl, dpq, hS, hdpq⟩ := hn
    refine pr_if_eq (tgt := 29) dX10_readBraces_13 (by decide) (fun c13 => ?_) (fun c13 => ?_)
    ·
      refine pr_iconst dX10_readBraces_29 (show Int32.ofInt (0) = (0) by decide) ?_
      have hb : q.1 = false := zB_0.mp c13
      rw [if_pos hb] at h
      cases h
      exact pr_iretP hQ dX10_readBraces_30 rfl rfl ⟨rfl, _, hS, fun z => by cases z⟩
    ·
      have hb : q.1 = true := zB_n0 c13
      rw [if_neg (by rw [hb]; decide)] at h
      refine pr_aload_n dX10_readBraces_16 rfl rfl ?_
      refine pr_bipush dX10_readBraces_17 (show (Int8.ofInt (125)).toInt32 = (125) by decide) ?_
      refine pr_callP dX10_readBraces_19 cl_X10_162 (rp_closes f (hdpq hb ▸ hS) (c := 125) (by decide) (by decide) (by omega)) rfl rfl (Nat.le_of_ble_eq_true rfl) ⟨rfl, rfl⟩ (fun res sc2 ar2 hn => ?_)
      rcases hn with ⟨ht2, rfl, hS⟩ | ⟨ht2, rfl, hS⟩
      ·
        refine pr_if_eq (tgt := 29) dX10_readBraces_22 (by decide) (fun c22 => absurd c22 (by decide)) (fun _ => ?_)
        refine pr_iconst dX10_readBraces_25 (show Int32.ofInt (1) = (1) by decide) ?_
        refine pr_goto (tgt := 30) dX10_readBraces_26 (by decide) ?_
        rw [if_pos ht2] at h
        cases h
        exact pr_iretP hQ dX10_readBraces_30 rfl rfl ⟨rfl, _, hS, fun _ => rfl⟩
      ·
        refine pr_if_eq (tgt := 29) dX10_readBraces_22 (by decide) (fun _ => ?_) (fun c22 => absurd c22 (by decide))
        refine pr_iconst dX10_readBraces_29 (show Int32.ofInt (0) = (0) by decide) ?_
        rw [if_neg ht2] at h
        cases h
        exact pr_iretP hQ dX10_readBraces_30 rfl rfl ⟨rfl, _, hS, fun z => by cases z⟩
  ·
    refine pr_if_eq (tgt := 29) dX10_readBraces_6 (by decide) (fun _ => ?_) (fun c6 => absurd c6 (by decide))
    refine pr_iconst dX10_readBraces_29 (show Int32.ofInt (0) = (0) by decide) ?_
    rw [if_neg hno] at h
    cases h
    exact pr_iretP hQ dX10_readBraces_30 rfl rfl ⟨rfl, _, hS, fun z => by cases z⟩
set_option maxHeartbeats 4000000 in
set_option maxRecDepth 20000 in
theorem rk_factor {B : Nat → Nat} {e : Nat} {sc0 : Nat → Int32} {ar0 : Nat → Nat → Int32} {f : Nat} (H : pH B e sc0 ar0 f (f + 10)) {f1 : Nat} (hf : f1 ≤ f) {dp i : Nat} {b : Bool} {j : Nat} {sc : Nat → Int32} {ar : Nat → Nat → Int32} (hS : PS B e sc0 ar0 i dp sc ar) (h : pP (tk B e) (f1 + 1) 6 dp i = some (b, j)) : RP (f + 11) 111 [] sc ar (pQ B e sc0 ar0 dp b j) := by
  refine RP.of pm_X10_readFactor rfl rfl (Nat.le_of_ble_eq_true rfl) ?_
  intro fx al n g0 r Q hQ
  show pr fx (px_body pm_X10_readFactor) (f + 10) Q al n g0 r sc ar 0 [.ref (al r)] []
  rw [pP_6] at h
  refine pr_aload_n dX10_readFactor_0 rfl rfl ?_
  refine pr_getS (v := rT (tk B e i)) dX10_readFactor_1 fk_X10_137 rfl hS.2.2.2.2.2.1 ?_
  refine pr_callSC dX10_readFactor_4 cl_X10_117 (rc_isVariable (f + 8) _) rfl rfl (Nat.le_of_ble_eq_true rfl) ⟨rfl, rfl⟩ ?_
  rw [rT_var]
  refine pr_if_ne (tgt := 20) dX10_readFactor_7 (by decide) (fun c7 => ?_) (fun c7 => ?_)
  ·
    have hv : isVar (tk B e i) = true ∨ 1000 ≤ tk B e i := Or.inl (zB_n0 c7)
    rw [if_pos hv] at h
    have hpos := hv.elim isVar_pos big_pos
    refine pr_aload_n dX10_readFactor_20 rfl rfl ?_
    refine pr_callP dX10_readFactor_21 cl_X10_143 (rp_accept (f + 2) hS (hpos).1 (hpos).2) rfl rfl (Nat.le_of_ble_eq_true rfl) ⟨rfl, rfl⟩ (fun res sc2 ar2 hn => ?_)
    obtain ⟨rfl, hS⟩ := hn
    refine pr_iconst dX10_readFactor_24 (show Int32.ofInt (1) = (1) by decide) ?_
    cases h
    exact pr_iretP hQ dX10_readFactor_25 rfl rfl ⟨rfl, dp, hS, fun _ => rfl⟩
  ·
    refine pr_aload_n dX10_readFactor_10 rfl rfl ?_
    refine pr_getS (v := rT (tk B e i)) dX10_readFactor_11 fk_X10_137 rfl hS.2.2.2.2.2.1 ?_
    refine pr_sipush dX10_readFactor_14 (show (Int16.ofInt (1000)).toInt32 = (1000) by decide) ?_
    refine pr_icmp_lt (tgt := 26) dX10_readFactor_17 (by decide) (fun c17 => ?_) (fun c17 => ?_)
    ·
      have c179 := Int32.not_le.mpr c17
      rw [if_neg (fun z => z.elim (fun z => by rw [zB_0.mp c7] at z; cases z) (fun z => Int32.not_le.mpr c17 ((rT_big _).mpr z)))] at h
      refine pr_aload_n dX10_readFactor_26 rfl rfl ?_
      refine pr_bipush dX10_readFactor_27 (show (Int8.ofInt (40)).toInt32 = (40) by decide) ?_
      refine pr_callP dX10_readFactor_29 cl_X10_156 (rp_opens (f + 1) hS (c := 40) (by decide) (by decide)) rfl rfl (Nat.le_of_ble_eq_true rfl) ⟨rfl, rfl⟩ (fun res sc2 ar2 hn => ?_)
      rcases hn with ⟨ht, hd, rfl, hS⟩ | ⟨hno, rfl, hS⟩
      ·
        refine pr_if_eq (tgt := 55) dX10_readFactor_32 (by decide) (fun c32 => absurd c32 (by decide)) (fun _ => ?_)
        refine pr_aload_n dX10_readFactor_35 rfl rfl ?_
        obtain ⟨q, hqq, h⟩ : ∃ q : Bool × Nat, pP (tk B e) f1 3 (dp + 1) (i + 1) = some (q.1, q.2) ∧ (if q.1 = false then some (false, q.2) else if tk B e q.2 = nI 41 then some (true, q.2 + 1) else some (false, q.2)) = some (b, j) := by
          rw [if_pos ⟨ht, hd⟩] at h
          cases hz : pP (tk B e) f1 3 (dp + 1) (i + 1) with
          | none => rw [hz] at h; cases h
          | some q => rw [hz, Option.bind_some] at h; exact ⟨q, rfl, h⟩
        refine pr_callP dX10_readFactor_36 cl_X10_165 (H f1 (by omega) 3 (by decide) (dp + 1) (i + 1) q.1 q.2 _ _ hS hqq) rfl rfl (Nat.le_of_ble_eq_true rfl) ⟨rfl, rfl⟩ (fun res sc2 ar2 hn => ?_)
        obtain ⟨rfl, dpq, hS, hdpq⟩ := hn
        refine pr_if_eq (tgt := 55) dX10_readFactor_39 (by decide) (fun c39 => ?_) (fun c39 => ?_)
        ·
          refine pr_iconst dX10_readFactor_55 (show Int32.ofInt (0) = (0) by decide) ?_
          have hb : q.1 = false := zB_0.mp c39
          rw [if_pos hb] at h
          cases h
          exact pr_iretP hQ dX10_readFactor_56 rfl rfl ⟨rfl, _, hS, fun z => by cases z⟩
        ·
          have hb : q.1 = true := zB_n0 c39
          rw [if_neg (by rw [hb]; decide)] at h
          refine pr_aload_n dX10_readFactor_42 rfl rfl ?_
          refine pr_bipush dX10_readFactor_43 (show (Int8.ofInt (41)).toInt32 = (41) by decide) ?_
          refine pr_callP dX10_readFactor_45 cl_X10_162 (rp_closes f (hdpq hb ▸ hS) (c := 41) (by decide) (by decide) (by omega)) rfl rfl (Nat.le_of_ble_eq_true rfl) ⟨rfl, rfl⟩ (fun res sc2 ar2 hn => ?_)
          rcases hn with ⟨ht2, rfl, hS⟩ | ⟨ht2, rfl, hS⟩
          ·
            refine pr_if_eq (tgt := 55) dX10_readFactor_48 (by decide) (fun c48 => absurd c48 (by decide)) (fun _ => ?_)
            refine pr_iconst dX10_readFactor_51 (show Int32.ofInt (1) = (1) by decide) ?_
            refine pr_goto (tgt := 56) dX10_readFactor_52 (by decide) ?_
            rw [if_pos ht2] at h
            cases h
            exact pr_iretP hQ dX10_readFactor_56 rfl rfl ⟨rfl, _, hS, fun _ => rfl⟩
          ·
            refine pr_if_eq (tgt := 55) dX10_readFactor_48 (by decide) (fun _ => ?_) (fun c48 => absurd c48 (by decide))
            refine pr_iconst dX10_readFactor_55 (show Int32.ofInt (0) = (0) by decide) ?_
            rw [if_neg ht2] at h
            cases h
            exact pr_iretP hQ dX10_readFactor_56 rfl rfl ⟨rfl, _, hS, fun z => by cases z⟩
      ·
        refine pr_if_eq (tgt := 55) dX10_readFactor_32 (by decide) (fun _ => ?_) (fun c32 => absurd c32 (by decide))
        refine pr_iconst dX10_readFactor_55 (show Int32.ofInt (0) = (0) by decide) ?_
        rw [if_neg hno] at h
        cases h
        exact pr_iretP hQ dX10_readFactor_56 rfl rfl ⟨rfl, _, hS, fun z => by cases z⟩
    ·
      have c179 := Int32.not_lt.mp c17
      have hv : isVar (tk B e i) = true ∨ 1000 ≤ tk B e i := Or.inr ((rT_big _).mp c179)
      rw [if_pos hv] at h
      have hpos := hv.elim isVar_pos big_pos
      refine pr_aload_n dX10_readFactor_20 rfl rfl ?_
      refine pr_callP dX10_readFactor_21 cl_X10_143 (rp_accept (f + 2) hS (hpos).1 (hpos).2) rfl rfl (Nat.le_of_ble_eq_true rfl) ⟨rfl, rfl⟩ (fun res sc2 ar2 hn => ?_)
      obtain ⟨rfl, hS⟩ := hn
      refine pr_iconst dX10_readFactor_24 (show Int32.ofInt (1) = (1) by decide) ?_
      cases h
      exact pr_iretP hQ dX10_readFactor_25 rfl rfl ⟨rfl, dp, hS, fun _ => rfl⟩
set_option maxHeartbeats 4000000 in
set_option maxRecDepth 20000 in
theorem rk_do {B : Nat → Nat} {e : Nat} {sc0 : Nat → Int32} {ar0 : Nat → Nat → Int32} {f : Nat} (H : pH B e sc0 ar0 f (f + 10)) {f1 : Nat} (hf : f1 ≤ f) {dp i : Nat} {b : Bool} {j : Nat} {sc : Nat → Int32} {ar : Nat → Nat → Int32} (hS : PS B e sc0 ar0 i dp sc ar) (h : pP (tk B e) (f1 + 1) 1 dp i = some (b, j)) : RP (f + 11) 107 [] sc ar (pQ B e sc0 ar0 dp b j) := by
  refine RP.of pm_X10_readDo rfl rfl (Nat.le_of_ble_eq_true rfl) ?_
  intro fx al n g0 r Q hQ
  show pr fx (px_body pm_X10_readDo) (f + 10) Q al n g0 r sc ar 0 [.ref (al r), .float 0] []
  rw [pP] at h
  refine pr_aload_n dX10_readDo_0 rfl rfl ?_
  refine pr_getS (v := rT (tk B e i)) dX10_readDo_1 fk_X10_137 rfl hS.2.2.2.2.2.1 ?_
  refine pr_callSC dX10_readDo_4 cl_X10_117 (rc_isVariable (f + 8) _) rfl rfl (Nat.le_of_ble_eq_true rfl) ⟨rfl, rfl⟩ ?_
  rw [rT_var]
  refine pr_if_eq (tgt := 36) dX10_readDo_7 (by decide) (fun c7 => ?_) (fun c7 => ?_)
  ·
    have hv : ¬ isVar (tk B e i) = true := by rw [zB_0.mp c7]; decide
    rw [if_neg hv] at h
    refine pr_aload_n dX10_readDo_36 rfl rfl ?_
    refine pr_getS (v := rT (tk B e i)) dX10_readDo_37 fk_X10_137 rfl hS.2.2.2.2.2.1 ?_
    refine pr_sipush dX10_readDo_40 (show (Int16.ofInt (257)).toInt32 = (257) by decide) ?_
    refine pr_icmp_ne (tgt := 50) dX10_readDo_43 (by decide) (fun c43 => ?_) (fun c43 => ?_)
    ·
      refine pr_iconst dX10_readDo_50 (show Int32.ofInt (0) = (0) by decide) ?_
      refine pr_istore_n dX10_readDo_51 (Nat.le_of_ble_eq_true rfl) ?_
      refine pr_iload_n dX10_readDo_52 rfl ?_
      refine pr_if_ne (tgt := 68) dX10_readDo_53 (by decide) (fun c53 => absurd c53 (by decide)) (fun _ => ?_)
      refine pr_aload_n dX10_readDo_56 rfl rfl ?_
      refine pr_getS (v := rT (tk B e i)) dX10_readDo_57 fk_X10_137 rfl hS.2.2.2.2.2.1 ?_
      refine pr_sipush dX10_readDo_60 (show (Int16.ofInt (256)).toInt32 = (256) by decide) ?_
      refine pr_icmp_eq (tgt := 68) dX10_readDo_63 (by decide) (fun c63 => ?_) (fun c63 => ?_)
      ·
        have ht : tk B e i = nI 256 := (rT_eq (by decide) (by decide)).mp c63
        rw [if_pos (Or.inr ht)] at h
        have hpos := lit_pos ht (by decide) (by decide)
        obtain ⟨q, hqq, h⟩ : ∃ q : Bool × Nat, pP (tk B e) f1 3 dp (i + 1) = some (q.1, q.2) ∧ (if q.1 = false then some (false, q.2) else (pP (tk B e) f1 2 dp q.2).bind (fun w => if w.1 = false then some (false, w.2) else if tk B e i = nI 257 ∧ tk B e w.2 = nI 258 then pP (tk B e) f1 2 dp (w.2 + 1) else some (true, w.2))) = some (b, j) := by
          cases hz : pP (tk B e) f1 3 dp (i + 1) with
          | none => rw [hz] at h; cases h
          | some q => rw [hz, Option.bind_some] at h; exact ⟨q, rfl, h⟩
        refine pr_aload_n dX10_readDo_68 rfl rfl ?_
        refine pr_callP dX10_readDo_69 cl_X10_143 (rp_accept (f + 2) hS (hpos).1 (hpos).2) rfl rfl (Nat.le_of_ble_eq_true rfl) ⟨rfl, rfl⟩ (fun res sc2 ar2 hn => ?_)
        obtain ⟨rfl, hS⟩ := hn
        refine pr_aload_n dX10_readDo_72 rfl rfl ?_
        refine pr_callP dX10_readDo_73 cl_X10_165 (H f1 (by omega) 3 (by decide) dp (i + 1) q.1 q.2 _ _ hS hqq) rfl rfl (Nat.le_of_ble_eq_true rfl) ⟨rfl, rfl⟩ (fun res sc2 ar2 hn => ?_)
        obtain ⟨rfl, dpq, hS, hdpq⟩ := hn
        refine pr_if_eq (tgt := 86) dX10_readDo_76 (by decide) (fun c76 => ?_) (fun c76 => ?_)
        ·
          refine pr_iconst dX10_readDo_86 (show Int32.ofInt (0) = (0) by decide) ?_
          have hb : q.1 = false := zB_0.mp c76
          rw [if_pos hb] at h
          cases h
          exact pr_iretP hQ dX10_readDo_87 rfl rfl ⟨rfl, _, hS, fun z => by cases z⟩
        ·
          have hb : q.1 = true := zB_n0 c76
          rw [if_neg (by rw [hb]; decide)] at h
          obtain ⟨w, hqw, h⟩ : ∃ w : Bool × Nat, pP (tk B e) f1 2 dp q.2 = some (w.1, w.2) ∧ (if w.1 = false then some (false, w.2) else if tk B e i = nI 257 ∧ tk B e w.2 = nI 258 then pP (tk B e) f1 2 dp (w.2 + 1) else some (true, w.2)) = some (b, j) := by
            cases hz : pP (tk B e) f1 2 dp q.2 with
            | none => rw [hz] at h; cases h
            | some w => rw [hz, Option.bind_some] at h; exact ⟨w, rfl, h⟩
          refine pr_aload_n dX10_readDo_79 rfl rfl ?_
          refine pr_callP dX10_readDo_80 cl_X10_168 (H f1 (by omega) 2 (by decide) dp (q.2) w.1 w.2 _ _ (hdpq hb ▸ hS) hqw) rfl rfl (Nat.le_of_ble_eq_true rfl) ⟨rfl, rfl⟩ (fun res sc2 ar2 hn => ?_)
          obtain ⟨rfl, dpw, hS, hdpw⟩ := hn
          refine pr_if_ne (tgt := 88) dX10_readDo_83 (by decide) (fun c83 => ?_) (fun c83 => ?_)
          ·
            have hb2 : w.1 = true := zB_n0 c83
            rw [if_neg (by rw [hb2]; decide)] at h
            refine pr_iload_n dX10_readDo_88 rfl ?_
            refine pr_if_eq (tgt := 102) dX10_readDo_89 (by decide) (fun _ => ?_) (fun c89 => absurd c89 (by decide))
            refine pr_iconst dX10_readDo_102 (show Int32.ofInt (1) = (1) by decide) ?_
            rw [if_neg (fun z => c43 ((rT_eq (by decide) (by decide)).mpr z.1))] at h
            cases h
            exact pr_iretP hQ dX10_readDo_103 rfl rfl ⟨rfl, _, hS, fun _ => hdpw hb2⟩
          ·
            refine pr_iconst dX10_readDo_86 (show Int32.ofInt (0) = (0) by decide) ?_
            have hb2 : w.1 = false := zB_0.mp c83
            rw [if_pos hb2] at h
            cases h
            exact pr_iretP hQ dX10_readDo_87 rfl rfl ⟨rfl, _, hS, fun z => by cases z⟩
      ·
        refine pr_iconst dX10_readDo_66 (show Int32.ofInt (0) = (0) by decide) ?_
        rw [if_neg (fun z => z.elim (fun z => c43 ((rT_eq (by decide) (by decide)).mpr z)) (fun z => c63 ((rT_eq (by decide) (by decide)).mpr z)))] at h
        cases h
        exact pr_iretP hQ dX10_readDo_67 rfl rfl ⟨rfl, _, hS, fun z => by cases z⟩
    ·
      refine pr_iconst dX10_readDo_46 (show Int32.ofInt (1) = (1) by decide) ?_
      refine pr_goto (tgt := 51) dX10_readDo_47 (by decide) ?_
      refine pr_istore_n dX10_readDo_51 (Nat.le_of_ble_eq_true rfl) ?_
      refine pr_iload_n dX10_readDo_52 rfl ?_
      refine pr_if_ne (tgt := 68) dX10_readDo_53 (by decide) (fun _ => ?_) (fun c53 => absurd c53 (by decide))
      have ht : tk B e i = nI 257 := (rT_eq (by decide) (by decide)).mp c43
      rw [if_pos (Or.inl ht)] at h
      have hpos := lit_pos ht (by decide) (by decide)
      obtain ⟨q, hqq, h⟩ : ∃ q : Bool × Nat, pP (tk B e) f1 3 dp (i + 1) = some (q.1, q.2) ∧ (if q.1 = false then some (false, q.2) else (pP (tk B e) f1 2 dp q.2).bind (fun w => if w.1 = false then some (false, w.2) else if tk B e i = nI 257 ∧ tk B e w.2 = nI 258 then pP (tk B e) f1 2 dp (w.2 + 1) else some (true, w.2))) = some (b, j) := by
        cases hz : pP (tk B e) f1 3 dp (i + 1) with
        | none => rw [hz] at h; cases h
        | some q => rw [hz, Option.bind_some] at h; exact ⟨q, rfl, h⟩
      refine pr_aload_n dX10_readDo_68 rfl rfl ?_
      refine pr_callP dX10_readDo_69 cl_X10_143 (rp_accept (f + 2) hS (hpos).1 (hpos).2) rfl rfl (Nat.le_of_ble_eq_true rfl) ⟨rfl, rfl⟩ (fun res sc2 ar2 hn => ?_)
      obtain ⟨rfl, hS⟩ := hn
      refine pr_aload_n dX10_readDo_72 rfl rfl ?_
      refine pr_callP dX10_readDo_73 cl_X10_165 (H f1 (by omega) 3 (by decide) dp (i + 1) q.1 q.2 _ _ hS hqq) rfl rfl (Nat.le_of_ble_eq_true rfl) ⟨rfl, rfl⟩ (fun res sc2 ar2 hn => ?_)
      obtain ⟨rfl, dpq, hS, hdpq⟩ := hn
      refine pr_if_eq (tgt := 86) dX10_readDo_76 (by decide) (fun c76 => ?_) (fun c76 => ?_)
      ·
        refine pr_iconst dX10_readDo_86 (show Int32.ofInt (0) = (0) by decide) ?_
        have hb : q.1 = false := zB_0.mp c76
        rw [if_pos hb] at h
        cases h
        exact pr_iretP hQ dX10_readDo_87 rfl rfl ⟨rfl, _, hS, fun z => by cases z⟩
      ·
        have hb : q.1 = true := zB_n0 c76
        rw [if_neg (by rw [hb]; decide)] at h
        obtain ⟨w, hqw, h⟩ : ∃ w : Bool × Nat, pP (tk B e) f1 2 dp q.2 = some (w.1, w.2) ∧ (if w.1 = false then some (false, w.2) else if tk B e i = nI 257 ∧ tk B e w.2 = nI 258 then pP (tk B e) f1 2 dp (w.2 + 1) else some (true, w.2)) = some (b, j) := by
          cases hz : pP (tk B e) f1 2 dp q.2 with
          | none => rw [hz] at h; cases h
          | some w => rw [hz, Option.bind_some] at h; exact ⟨w, rfl, h⟩
        refine pr_aload_n dX10_readDo_79 rfl rfl ?_
        refine pr_callP dX10_readDo_80 cl_X10_168 (H f1 (by omega) 2 (by decide) dp (q.2) w.1 w.2 _ _ (hdpq hb ▸ hS) hqw) rfl rfl (Nat.le_of_ble_eq_true rfl) ⟨rfl, rfl⟩ (fun res sc2 ar2 hn => ?_)
        obtain ⟨rfl, dpw, hS, hdpw⟩ := hn
        refine pr_if_ne (tgt := 88) dX10_readDo_83 (by decide) (fun c83 => ?_) (fun c83 => ?_)
        ·
          have hb2 : w.1 = true := zB_n0 c83
          rw [if_neg (by rw [hb2]; decide)] at h
          refine pr_iload_n dX10_readDo_88 rfl ?_
          refine pr_if_eq (tgt := 102) dX10_readDo_89 (by decide) (fun c89 => absurd c89 (by decide)) (fun _ => ?_)
          refine pr_aload_n dX10_readDo_92 rfl rfl ?_
          refine pr_getS (v := rT (tk B e w.2)) dX10_readDo_93 fk_X10_137 rfl hS.2.2.2.2.2.1 ?_
          refine pr_sipush dX10_readDo_96 (show (Int16.ofInt (258)).toInt32 = (258) by decide) ?_
          refine pr_icmp_eq (tgt := 104) dX10_readDo_99 (by decide) (fun c99 => ?_) (fun c99 => ?_)
          ·
            have ht3 : tk B e w.2 = nI 258 := (rT_eq (by decide) (by decide)).mp c99
            rw [if_pos ⟨ht, ht3⟩] at h
            refine pr_aload_n dX10_readDo_104 rfl rfl ?_
            refine pr_callP dX10_readDo_105 cl_X10_143 (rp_accept (f + 2) hS (lit_pos ht3 (by decide) (by decide)).1 (lit_pos ht3 (by decide) (by decide)).2) rfl rfl (Nat.le_of_ble_eq_true rfl) ⟨rfl, rfl⟩ (fun res sc2 ar2 hn => ?_)
            obtain ⟨rfl, hS⟩ := hn
            refine pr_aload_n dX10_readDo_108 rfl rfl ?_
            refine pr_callP dX10_readDo_109 cl_X10_168 (H f1 (by omega) 2 (by decide) dp (w.2 + 1) b j _ _ (hdpw hb2 ▸ hS) h) rfl rfl (Nat.le_of_ble_eq_true rfl) ⟨rfl, rfl⟩ (fun res sc2 ar2 hn => ?_)
            obtain ⟨rfl, dp2, hS, hd2⟩ := hn
            exact pr_iretP hQ dX10_readDo_112 rfl (zB_nar b) ⟨rfl, dp2, hS, hd2⟩
          ·
            refine pr_iconst dX10_readDo_102 (show Int32.ofInt (1) = (1) by decide) ?_
            rw [if_neg (fun z => c99 ((rT_eq (by decide) (by decide)).mpr z.2))] at h
            cases h
            exact pr_iretP hQ dX10_readDo_103 rfl rfl ⟨rfl, _, hS, fun _ => hdpw hb2⟩
        ·
          refine pr_iconst dX10_readDo_86 (show Int32.ofInt (0) = (0) by decide) ?_
          have hb2 : w.1 = false := zB_0.mp c83
          rw [if_pos hb2] at h
          cases h
          exact pr_iretP hQ dX10_readDo_87 rfl rfl ⟨rfl, _, hS, fun z => by cases z⟩
  ·
    have hv : isVar (tk B e i) = true := zB_n0 c7
    rw [if_pos hv] at h
    have hpos := isVar_pos hv
    refine pr_aload_n dX10_readDo_10 rfl rfl ?_
    refine pr_callP dX10_readDo_11 cl_X10_143 (rp_accept (f + 2) hS (hpos).1 (hpos).2) rfl rfl (Nat.le_of_ble_eq_true rfl) ⟨rfl, rfl⟩ (fun res sc2 ar2 hn => ?_)
    obtain ⟨rfl, hS⟩ := hn
    refine pr_aload_n dX10_readDo_14 rfl rfl ?_
    refine pr_bipush dX10_readDo_15 (show (Int8.ofInt (61)).toInt32 = (61) by decide) ?_
    refine pr_callP dX10_readDo_17 cl_X10_149 (rp_need (f + 1) hS (c := 61) (by decide) (by decide)) rfl rfl (Nat.le_of_ble_eq_true rfl) ⟨rfl, rfl⟩ (fun res sc2 ar2 hn => ?_)
    rcases hn with ⟨ht2, rfl, hS⟩ | ⟨ht2, rfl, hS⟩
    ·
      rw [if_pos ht2] at h
      refine pr_if_eq (tgt := 34) dX10_readDo_20 (by decide) (fun c20 => absurd c20 (by decide)) (fun _ => ?_)
      refine pr_aload_n dX10_readDo_23 rfl rfl ?_
      refine pr_callP dX10_readDo_24 cl_X10_165 (H f1 (by omega) 3 (by decide) dp (i + 2) b j _ _ hS h) rfl rfl (Nat.le_of_ble_eq_true rfl) ⟨rfl, rfl⟩ (fun res sc2 ar2 hn => ?_)
      obtain ⟨rfl, dp2, hS, hd2⟩ := hn
      refine pr_if_eq (tgt := 34) dX10_readDo_27 (by decide) (fun c27 => ?_) (fun c27 => ?_)
      ·
        refine pr_iconst dX10_readDo_34 (show Int32.ofInt (0) = (0) by decide) ?_
        have hb : b = false := zB_0.mp c27
        exact pr_iretP hQ dX10_readDo_35 rfl rfl ⟨by rw [hb]; rfl, _, hS, hd2⟩
      ·
        refine pr_iconst dX10_readDo_30 (show Int32.ofInt (1) = (1) by decide) ?_
        refine pr_goto (tgt := 35) dX10_readDo_31 (by decide) ?_
        have hb : b = true := zB_n0 c27
        exact pr_iretP hQ dX10_readDo_35 rfl rfl ⟨by rw [hb]; rfl, _, hS, hd2⟩
    ·
      refine pr_if_eq (tgt := 34) dX10_readDo_20 (by decide) (fun _ => ?_) (fun c20 => absurd c20 (by decide))
      refine pr_iconst dX10_readDo_34 (show Int32.ofInt (0) = (0) by decide) ?_
      rw [if_neg ht2] at h
      cases h
      exact pr_iretP hQ dX10_readDo_35 rfl rfl ⟨rfl, _, hS, fun z => by cases z⟩
/-- all kinds, with any fuel -/
theorem pH_all (B : Nat → Nat) (e : Nat) (sc0 : Nat → Int32) (ar0 : Nat → Nat → Int32) : ∀ f, pH B e sc0 ar0 f (f + 10)
  | 0 => fun f0 h0 kd hk dp i b j sc ar hS h => by
    obtain rfl : f0 = 0 := by omega
    rw [pP] at h
    cases h
  | f + 1 => fun f0 h0 kd hk dp i b j sc ar hS h => by
    have H := pH_all B e sc0 ar0 f
    cases f0 with
    | zero => rw [pP] at h; cases h
    | succ f1 =>
      match kd, hk with
      | 0, _ =>
        refine RP.of pm_X10_readBlock rfl rfl (Nat.le_of_ble_eq_true rfl) (fun fx al n g0 r Q hQ => ?_)
        exact rl_rBlock H (f1 + 1) h0 dp i b j sc ar fx al n g0 r Q hS h hQ
      | 1, _ => exact rk_do H (by omega) hS h
      | 2, _ => exact rk_braces H (by omega) hS h
      | 3, _ => exact rk_expr H (by omega) hS h
      | 4, _ =>
        refine RP.of pm_X10_readSum rfl rfl (Nat.le_of_ble_eq_true rfl) (fun fx al n g0 r Q hQ => ?_)
        exact rl_rSum H (f1 + 1) h0 dp i b j sc ar fx al n g0 r Q hS h hQ
      | 5, _ =>
        refine RP.of pm_X10_readTerm rfl rfl (Nat.le_of_ble_eq_true rfl) (fun fx al n g0 r Q hQ => ?_)
        exact rl_rTerm H (f1 + 1) h0 dp i b j sc ar fx al n g0 r Q hS h hQ
      | 6, _ => exact rk_factor H (by omega) hS h
      | kd + 7, hk => omega
