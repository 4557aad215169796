/-- the variables as a run begins -/
def vZ (V : Nat → Int32) (k : Nat) : Nat → Int32 := fun j => if 97 ≤ j ∧ j < k then 0 else V j
theorem vZ_0 (V : Nat → Int32) : vZ V 97 = V := by
  funext j; unfold vZ; rw [if_neg (by omega)]
theorem vZ_1 (V : Nat → Int32) {k : Nat} (h : 97 ≤ k) : upd (vZ V k) k 0 = vZ V (k + 1) := by
  funext j
  by_cases e : j = k
  · subst e; rw [pk_us]; unfold vZ; rw [if_pos (by omega)]
  · rw [pk_un e]; unfold vZ
    by_cases c : 97 ≤ j ∧ j < k
    · rw [if_pos c, if_pos (by omega)]
    · rw [if_neg c, if_neg (by omega)]
def vS (V : Nat → Int32) (a b : Int32) : Nat → Int32 := upd (upd (vZ V 115) 97 a) 98 b
theorem IX_mk (sc : Nat → Int32) (a t s o h : Int32) : upd (upd (upd (upd (upd sc 21 a) 22 t) 23 s) 24 h) 25 o = IX sc a t s o h := by
  funext k
  unfold IX
  simp only [upd_at]
  by_cases e1 : k = 25
  · subst e1; rfl
  · by_cases e2 : k = 24
    · subst e2; rfl
    · by_cases e3 : k = 23
      · subst e3; rfl
      · simp only [if_neg e1, if_neg e2, if_neg e3]
        by_cases e4 : k = 22
        · subst e4; rfl
        · simp only [if_neg e4]
theorem va_id (ar : Nat → Nat → Int32) (a : Nat) : va_up ar a (ar a) = ar := by
  funext b
  by_cases e : b = a
  · subst e; rw [va_up_self]
  · rw [va_up_ne _ _ e]
def runX (m : Nat) (S V : Nat → Int32) (a b : Int32) : StX := dX (tz m S) 860 0 0 false 0 (vS V a b) 0 0
def okS (sc : Nat → Int32) (ar : Nat → Nat → Int32) (m : Nat) : Prop := sc 16 = nI m ∧ m ≤ 120 ∧ (0 < m → pP (tz m (ar 3)) 860 0 0 0 = some (true, m) ∧ pK (tz m (ar 3)) (ar 4) (ar 5) 860 0 0 false 0)
set_option maxHeartbeats 4000000 in
set_option maxRecDepth 20000 in
theorem rl_runs {fx : px_F} {Q : px_Q} {al : Nat → Nat} {n : Nat} {g0 : Nat → px_O} {r : Nat} {sc : Nat → Int32} {ar : Nat → Nat → Int32} {m : Nat} {a b : Int32} (hm : okS sc ar m) (h0 : 0 < m) (hQ : ∀ res sc2 ar2 g2, bQ sc ar m (runX m (ar 3) (ar 8) a b) res sc2 ar2 → RR al n g2 r sc2 ar2 → rf_fr r g0 g2 → Q (.inl res) al n g2) : ∀ (mm k : Nat), k + mm = 115 → 97 ≤ k → pr fx (px_body pm_X10_runs) 1731 Q al n g0 r sc (va_up ar 8 (vZ (ar 8) k)) 3 [.ref (al r), .int a, .int b, .int (nI k)] []
  | 0, k, hk, hk2 => by
    obtain rfl : k = 115 := by omega
    refine pr_iload_n dX10_runs_3 rfl ?_
    refine pr_bipush dX10_runs_4 (show (Int8.ofInt (114)).toInt32 = (114) by decide) ?_
    refine pr_icmp_gt (tgt := 22) dX10_runs_6 (by decide) (fun c6 => ?_) (fun c6 => absurd (show (114 : Int32) < nI 115 by decide) c6)
    refine pr_aload_n dX10_runs_22 rfl rfl ?_
    refine pr_getA dX10_runs_23 fk_X10_40 rfl ?_
    refine pr_bipush dX10_runs_26 (show (Int8.ofInt (97)).toInt32 = (97) by decide) ?_
    refine pr_iload_n dX10_runs_28 rfl ?_
    refine pr_iast (j := 97) dX10_runs_29 (by decide) rfl rfl (by decide) ?_
    rw [va_val]
    refine pr_aload_n dX10_runs_30 rfl rfl ?_
    refine pr_getA dX10_runs_31 fk_X10_40 rfl ?_
    refine pr_bipush dX10_runs_34 (show (Int8.ofInt (98)).toInt32 = (98) by decide) ?_
    refine pr_iload_n dX10_runs_36 rfl ?_
    refine pr_iast (j := 98) dX10_runs_37 (by decide) rfl rfl (by decide) ?_
    rw [va_val]
    refine pr_aload_n dX10_runs_38 rfl rfl ?_
    refine pr_iconst dX10_runs_39 (show Int32.ofInt (0) = (0) by decide) ?_
    refine pr_put dX10_runs_40 fk_X10_207 rfl ⟨_, _, _, rfl, rfl⟩ rfl rfl ?_
    refine pr_aload_n dX10_runs_43 rfl rfl ?_
    refine pr_iconst dX10_runs_44 (show Int32.ofInt (0) = (0) by decide) ?_
    refine pr_put dX10_runs_45 fk_X10_200 rfl ⟨_, _, _, rfl, rfl⟩ rfl rfl ?_
    refine pr_aload_n dX10_runs_48 rfl rfl ?_
    refine pr_iconst dX10_runs_49 (show Int32.ofInt (0) = (0) by decide) ?_
    refine pr_put dX10_runs_50 fk_X10_216 rfl ⟨_, _, _, rfl, rfl⟩ rfl rfl ?_
    refine pr_aload_n dX10_runs_53 rfl rfl ?_
    refine pr_iconst dX10_runs_54 (show Int32.ofInt (0) = (0) by decide) ?_
    refine pr_put dX10_runs_55 fk_X10_197 rfl ⟨_, _, _, rfl, rfl⟩ rfl rfl ?_
    refine pr_aload_n dX10_runs_58 rfl rfl ?_
    refine pr_iconst dX10_runs_59 (show Int32.ofInt (0) = (0) by decide) ?_
    refine pr_put dX10_runs_60 fk_X10_193 rfl ⟨_, _, _, rfl, rfl⟩ rfl rfl ?_
    rw [IX_mk]
    refine pr_aload_n dX10_runs_63 rfl rfl ?_
    refine pr_callP dX10_runs_64 cl_X10_228 ((bH_all (ar0 := ar) hm.1 hm.2.1 860).1 860 (Nat.le_refl _) 0 false 0 m (vS (ar 8) a b) 0 0 (hm.2.2 h0).1 (hm.2.2 h0).2 (by decide)) rfl rfl (Nat.le_of_ble_eq_true rfl) ⟨rfl, rfl⟩ (fun res sc2 ar2 hn => ?_)
    obtain ⟨rfl, hn⟩ := hn
    exact pr_vretP hQ dX10_runs_67 rfl ⟨rfl, hn⟩
  | mm + 1, k, hk, hk2 => by
    refine pr_iload_n dX10_runs_3 rfl ?_
    refine pr_bipush dX10_runs_4 (show (Int8.ofInt (114)).toInt32 = (114) by decide) ?_
    refine pr_icmp_gt (tgt := 22) dX10_runs_6 (by decide) (fun c6 => absurd c6 (nI_nlt (a := 114) (b := k) (by omega) (by decide))) (fun c6 => ?_)
    refine pr_aload_n dX10_runs_9 rfl rfl ?_
    refine pr_getA dX10_runs_10 fk_X10_40 rfl ?_
    refine pr_iload_n dX10_runs_13 rfl ?_
    refine pr_iconst dX10_runs_14 (show Int32.ofInt (0) = (0) by decide) ?_
    refine pr_iast (j := k) dX10_runs_15 (by decide) rfl rfl (by show k < 128; omega) ?_
    rw [va_val]
    refine pr_iinc dX10_runs_16 rfl (show Int32.ofInt (1) = (1) by decide) ?_
    refine pr_goto (tgt := 3) dX10_runs_19 (by decide) ?_
    rw [nI_1]
    have ih := rl_runs (fx := fx) (sc := sc) (ar := ar) (a := a) (b := b) hm h0 hQ mm (k + 1) (by omega) (by omega)
    rw [← vZ_1 (ar 8) (by omega)] at ih
    exact ih
set_option maxHeartbeats 4000000 in
set_option maxRecDepth 20000 in
theorem rp_runs {sc : Nat → Int32} {ar : Nat → Nat → Int32} {m : Nat} (a b : Int32) (hm : okS sc ar m) (h0 : 0 < m) : RP 1732 126 [.int a, .int b] sc ar (bQ sc ar m (runX m (ar 3) (ar 8) a b)) := by
  refine RP.of pm_X10_runs rfl rfl (Nat.le_of_ble_eq_true rfl) ?_
  intro fx al n g0 r Q hQ
  show pr fx (px_body pm_X10_runs) 1731 Q al n g0 r sc ar 0 [.ref (al r), .int a, .int b, .float 0] []
  refine pr_bipush dX10_runs_0 (show (Int8.ofInt (97)).toInt32 = (97) by decide) ?_
  refine pr_istore_n dX10_runs_2 (Nat.le_of_ble_eq_true rfl) ?_
  have h := rl_runs (fx := fx) (a := a) (b := b) hm h0 hQ 18 97 rfl (Nat.le_refl _)
  rw [vZ_0, va_id] at h
  exact h
theorem bQ.flat {sc : Nat → Int32} {ar : Nat → Nat → Int32} {j : Nat} {x : StX} {res : Option Value} {sc2 : Nat → Int32} {ar2 : Nat → Nat → Int32} (h : bQ sc ar j x res sc2 ar2) : res = none ∧ ar2 = va_up ar 8 x.2.1 ∧ ∃ a o, sc2 = IX sc a (nI x.2.2.1) x.2.2.2 o (nI x.1) := by
  obtain ⟨h1, h2, h3, ⟨h4, h5⟩ | ⟨h4, a9, h5⟩⟩ := h
  · exact ⟨h1, h3, nI j, 0, by rw [h5, h4]; rfl⟩
  · exact ⟨h1, h3, a9, 1, h5⟩
def runA (x : StX) (w : Int32) : Int32 := if w = 0 then nI x.1 else if w = 1 then x.2.1 114 else if w = 2 then nI x.2.2.1 else x.2.2.2
theorem okS.thr {sc : Nat → Int32} {ar : Nat → Nat → Int32} {m : Nat} (h : okS sc ar m) (v : Int32) : okS (upd sc 0 v) ar m := h
set_option maxHeartbeats 4000000 in
set_option maxRecDepth 20000 in
theorem rp_run_ok (sc : Nat → Int32) (ar : Nat → Nat → Int32) {m : Nat} (a b : Int32) {w : Int32} (hm : okS sc ar m) (h0 : 0 < m) (hw : 0 ≤ w ∧ w ≤ 3) : RP (1733) 127 [.int a, .int b, .int w] sc ar (fun res sc2 ar2 => res = some (.int (runA (runX m (ar 3) (ar 8) a b) w)) ∧ ar2 = va_up ar 8 (runX m (ar 3) (ar 8) a b).2.1 ∧ ∃ a0 o, sc2 = IX (upd sc 0 0) a0 (nI (runX m (ar 3) (ar 8) a b).2.2.1) (runX m (ar 3) (ar 8) a b).2.2.2 o (nI (runX m (ar 3) (ar 8) a b).1)) := by
  refine RP.of pm_X10_run rfl rfl (Nat.le_of_ble_eq_true rfl) ?_
  intro fx al n g0 r Q hQ
  show pr fx (px_body pm_X10_run) (1732) Q al n g0 r sc ar 0 [.ref (al r), .int a, .int b, .int w] []
  have hm0 : ¬ nI m = 0 := nI_ne0 h0 (by have := hm.2.1; omega)
  refine pr_aload_n dX10_run_0 rfl rfl ?_
  refine pr_iconst dX10_run_1 (show Int32.ofInt (0) = (0) by decide) ?_
  refine pr_put dX10_run_2 fk_X10_79 rfl ⟨_, _, _, rfl, rfl⟩ rfl rfl ?_
  refine pr_aload_n dX10_run_5 rfl rfl ?_
  refine pr_aload_n dX10_run_6 rfl rfl ?_
  refine pr_getS (v := nI m) dX10_run_7 fk_X10_184 rfl hm.1 ?_
  refine pr_if_ne (tgt := 17) dX10_run_10 (by decide) (fun c10 => ?_) (fun c10 => absurd c10 hm0)
  refine pr_iconst dX10_run_17 (show Int32.ofInt (0) = (0) by decide) ?_
  refine pr_iconst dX10_run_18 (show Int32.ofInt (1) = (1) by decide) ?_
  refine pr_call dX10_run_19 cl_X10_180 (rc_throwsIf_f _ _ _ _) rfl rfl (Nat.le_of_ble_eq_true rfl) ⟨rfl, rfl⟩ ?_
  refine pr_if_ne (tgt := 47) dX10_run_22 (by decide) (fun c22 => absurd c22 (by decide)) (fun _ => ?_)
  refine pr_aload_n dX10_run_25 rfl rfl ?_
  refine pr_iload_n dX10_run_26 rfl ?_
  refine pr_iconst dX10_run_27 (show Int32.ofInt (0) = (0) by decide) ?_
  refine pr_iconst dX10_run_28 (show Int32.ofInt (3) = (3) by decide) ?_
  refine pr_callSC dX10_run_29 cl_X10_104 (rc_in_t 1731 hw.1 hw.2) rfl rfl (Nat.le_of_ble_eq_true rfl) ⟨rfl, rfl⟩ ?_
  refine pr_if_ne (tgt := 39) dX10_run_32 (by decide) (fun _ => ?_) (fun c32 => absurd c32 (by decide))
  refine pr_iconst dX10_run_39 (show Int32.ofInt (0) = (0) by decide) ?_
  refine pr_iconst dX10_run_40 (show Int32.ofInt (2) = (2) by decide) ?_
  refine pr_call dX10_run_41 cl_X10_180 (rc_throwsIf_f _ _ _ _) rfl rfl (Nat.le_of_ble_eq_true rfl) ⟨rfl, rfl⟩ ?_
  refine pr_if_eq (tgt := 49) dX10_run_44 (by decide) (fun _ => ?_) (fun c44 => absurd c44 (by decide))
  refine pr_aload_n dX10_run_49 rfl rfl ?_
  refine pr_iload_n dX10_run_50 rfl ?_
  refine pr_iload_n dX10_run_51 rfl ?_
  refine pr_callP dX10_run_52 cl_X10_241 (rp_runs a b (hm.thr 0) h0) rfl rfl (Nat.le_of_ble_eq_true rfl) ⟨rfl, rfl⟩ (fun res sc2 ar2 hn => ?_)
  obtain ⟨rfl, rfl, a0, o, rfl⟩ := hn.flat
  refine pr_iload_n dX10_run_55 rfl ?_
  refine pr_if_ne (tgt := 66) dX10_run_56 (by decide) (fun c56 => ?_) (fun c56 => ?_)
  ·
    refine pr_iload_n dX10_run_66 rfl ?_
    refine pr_iconst dX10_run_67 (show Int32.ofInt (1) = (1) by decide) ?_
    refine pr_icmp_ne (tgt := 81) dX10_run_68 (by decide) (fun c68 => ?_) (fun c68 => ?_)
    ·
      refine pr_iload_n dX10_run_81 rfl ?_
      refine pr_iconst dX10_run_82 (show Int32.ofInt (2) = (2) by decide) ?_
      refine pr_icmp_ne (tgt := 93) dX10_run_83 (by decide) (fun c83 => ?_) (fun c83 => ?_)
      ·
        refine pr_aload_n dX10_run_93 rfl rfl ?_
        refine pr_getS (v := (runX m (ar 3) (ar 8) a b).2.2.2) dX10_run_94 fk_X10_216 rfl rfl ?_
        refine pr_iretP hQ dX10_run_97 rfl rfl ⟨?_, rfl, _, _, rfl⟩
        unfold runA
        rw [if_neg c56, if_neg c68, if_neg c83]
      ·
        refine pr_aload_n dX10_run_86 rfl rfl ?_
        refine pr_getS (v := (nI (runX m (ar 3) (ar 8) a b).2.2.1)) dX10_run_87 fk_X10_200 rfl rfl ?_
        refine pr_goto (tgt := 97) dX10_run_90 (by decide) ?_
        refine pr_iretP hQ dX10_run_97 rfl rfl ⟨?_, rfl, _, _, rfl⟩
        unfold runA
        rw [if_neg c56, if_neg c68, if_pos c83]
    ·
      refine pr_aload_n dX10_run_71 rfl rfl ?_
      refine pr_getA dX10_run_72 fk_X10_40 rfl ?_
      refine pr_bipush dX10_run_75 (show (Int8.ofInt (114)).toInt32 = (114) by decide) ?_
      refine pr_iald (v := ((runX m (ar 3) (ar 8) a b).2.1 114)) (j := 114) dX10_run_77 (by decide) rfl rfl (by decide) rfl ?_
      refine pr_goto (tgt := 97) dX10_run_78 (by decide) ?_
      refine pr_iretP hQ dX10_run_97 rfl rfl ⟨?_, rfl, _, _, rfl⟩
      unfold runA
      rw [if_neg c56, if_pos c68]
  ·
    refine pr_aload_n dX10_run_59 rfl rfl ?_
    refine pr_getS (v := (nI (runX m (ar 3) (ar 8) a b).1)) dX10_run_60 fk_X10_197 rfl rfl ?_
    refine pr_goto (tgt := 97) dX10_run_63 (by decide) ?_
    refine pr_iretP hQ dX10_run_97 rfl rfl ⟨?_, rfl, _, _, rfl⟩
    unfold runA
    rw [if_pos c56]
set_option maxHeartbeats 4000000 in
set_option maxRecDepth 20000 in
theorem rc_run_no (sc : Nat → Int32) (ar : Nat → Nat → Int32) (a b w : Int32) (hm : sc 16 = 0) : RC (1731 + 2) 127 [.int a, .int b, .int w] sc ar (some (.int 0)) (upd (upd sc 0 0) 0 1) (ar) := by
  refine RC.of pm_X10_run rfl rfl (Nat.le_of_ble_eq_true rfl) ?_
  intro fx al n g0 r Q hQ
  show pr fx (px_body pm_X10_run) (1732) Q al n g0 r sc ar 0 [.ref (al r), .int a, .int b, .int w] []
  refine pr_aload_n dX10_run_0 rfl rfl ?_
  refine pr_iconst dX10_run_1 (show Int32.ofInt (0) = (0) by decide) ?_
  refine pr_put dX10_run_2 fk_X10_79 rfl ⟨_, _, _, rfl, rfl⟩ rfl rfl ?_
  refine pr_aload_n dX10_run_5 rfl rfl ?_
  refine pr_aload_n dX10_run_6 rfl rfl ?_
  refine pr_getS (v := 0) dX10_run_7 fk_X10_184 rfl hm ?_
  refine pr_if_ne (tgt := 17) dX10_run_10 (by decide) (fun c10 => absurd rfl c10) (fun c10 => ?_)
  refine pr_iconst dX10_run_13 (show Int32.ofInt (1) = (1) by decide) ?_
  refine pr_goto (tgt := 18) dX10_run_14 (by decide) ?_
  refine pr_iconst dX10_run_18 (show Int32.ofInt (1) = (1) by decide) ?_
  refine pr_call dX10_run_19 cl_X10_180 (rc_throwsIf_t _ _ _ _) rfl rfl (Nat.le_of_ble_eq_true rfl) ⟨rfl, rfl⟩ ?_
  refine pr_if_ne (tgt := 47) dX10_run_22 (by decide) (fun _ => ?_) (fun c22 => absurd c22 (by decide))
  refine pr_iconst dX10_run_47 (show Int32.ofInt (0) = (0) by decide) ?_
  exact pr_iret hQ dX10_run_48 rfl rfl rfl rfl rfl
set_option maxHeartbeats 4000000 in
set_option maxRecDepth 20000 in
theorem rc_run_bad (sc : Nat → Int32) (ar : Nat → Nat → Int32) (a b : Int32) {w : Int32} (hm : ¬ sc 16 = 0) (hw : ¬ (0 ≤ w ∧ w ≤ 3)) : RC (1733) 127 [.int a, .int b, .int w] sc ar (some (.int 0)) (upd (upd sc 0 0) 0 2) (ar) := by
  refine RC.of pm_X10_run rfl rfl (Nat.le_of_ble_eq_true rfl) ?_
  intro fx al n g0 r Q hQ
  show pr fx (px_body pm_X10_run) (1732) Q al n g0 r sc ar 0 [.ref (al r), .int a, .int b, .int w] []
  refine pr_aload_n dX10_run_0 rfl rfl ?_
  refine pr_iconst dX10_run_1 (show Int32.ofInt (0) = (0) by decide) ?_
  refine pr_put dX10_run_2 fk_X10_79 rfl ⟨_, _, _, rfl, rfl⟩ rfl rfl ?_
  refine pr_aload_n dX10_run_5 rfl rfl ?_
  refine pr_aload_n dX10_run_6 rfl rfl ?_
  refine pr_getS (v := (sc 16)) dX10_run_7 fk_X10_184 rfl rfl ?_
  refine pr_if_ne (tgt := 17) dX10_run_10 (by decide) (fun c10 => ?_) (fun c10 => absurd c10 hm)
  refine pr_iconst dX10_run_17 (show Int32.ofInt (0) = (0) by decide) ?_
  refine pr_iconst dX10_run_18 (show Int32.ofInt (1) = (1) by decide) ?_
  refine pr_call dX10_run_19 cl_X10_180 (rc_throwsIf_f _ _ _ _) rfl rfl (Nat.le_of_ble_eq_true rfl) ⟨rfl, rfl⟩ ?_
  refine pr_if_ne (tgt := 47) dX10_run_22 (by decide) (fun c22 => absurd c22 (by decide)) (fun _ => ?_)
  refine pr_aload_n dX10_run_25 rfl rfl ?_
  refine pr_iload_n dX10_run_26 rfl ?_
  refine pr_iconst dX10_run_27 (show Int32.ofInt (0) = (0) by decide) ?_
  refine pr_iconst dX10_run_28 (show Int32.ofInt (3) = (3) by decide) ?_
  refine pr_callSC dX10_run_29 cl_X10_104 (rc_in_f 1731 hw) rfl rfl (Nat.le_of_ble_eq_true rfl) ⟨rfl, rfl⟩ ?_
  refine pr_if_ne (tgt := 39) dX10_run_32 (by decide) (fun c32 => absurd c32 (by decide)) (fun _ => ?_)
  refine pr_iconst dX10_run_35 (show Int32.ofInt (1) = (1) by decide) ?_
  refine pr_goto (tgt := 40) dX10_run_36 (by decide) ?_
  refine pr_iconst dX10_run_40 (show Int32.ofInt (2) = (2) by decide) ?_
  refine pr_call dX10_run_41 cl_X10_180 (rc_throwsIf_t _ _ _ _) rfl rfl (Nat.le_of_ble_eq_true rfl) ⟨rfl, rfl⟩ ?_
  refine pr_if_eq (tgt := 49) dX10_run_44 (by decide) (fun c44 => absurd c44 (by decide)) (fun _ => ?_)
  refine pr_iconst dX10_run_47 (show Int32.ofInt (0) = (0) by decide) ?_
  exact pr_iret hQ dX10_run_48 rfl rfl rfl rfl rfl
