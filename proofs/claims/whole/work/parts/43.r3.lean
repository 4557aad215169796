theorem rc_in_t (d : Nat) {v lo hi : Int32} (h1 : lo ≤ v) (h2 : v ≤ hi) : SC (d + 1) 92 [.int v, .int lo, .int hi] (some (.int 1)) := by
  have h := rc_in d v lo hi
  rwa [zB_t (by simp [h1, h2])] at h
theorem rc_in_f (d : Nat) {v lo hi : Int32} (h : ¬ (lo ≤ v ∧ v ≤ hi)) : SC (d + 1) 92 [.int v, .int lo, .int hi] (some (.int 0)) := by
  have h9 := rc_in d v lo hi
  rwa [zB_f (by simpa using h)] at h9
theorem nI_7 {l : Nat} (h : l < 8) : (0 : Int32) ≤ nI l ∧ nI l ≤ 7 := ⟨nI_pos' (by omega), (nI_leI (a := l) (b := 7) (by omega) (by omega)).mpr (by omega)⟩
theorem rc_noLearner_f (d : Nat) {l : Nat} (h : l < 8) : SC (d + 2) 129 [.int (nI l)] (some (.int 0)) := by
  have h9 := rc_noLearner d (nI l)
  rwa [zB_f (by simp [nI_7 h])] at h9
theorem rc_noLearner_t (d : Nat) {v : Int32} (h : ¬ (0 ≤ v ∧ v ≤ 7)) : SC (d + 2) 129 [.int v] (some (.int 1)) := by
  have h9 := rc_noLearner d v
  rwa [zB_t (by by_cases h1 : 0 ≤ v <;> by_cases h2 : v ≤ 7 <;> simp_all)] at h9
theorem rc_throwsIf_f (d : Nat) (sc : Nat → Int32) (ar : Nat → Nat → Int32) (c : Int32) : RC (d + 1) 91 [.int 0, .int c] sc ar (some (.int 0)) sc ar := rc_throwsIf d sc ar false c
theorem rc_throwsIf_t (d : Nat) (sc : Nat → Int32) (ar : Nat → Nat → Int32) (c : Int32) : RC (d + 1) 91 [.int 1, .int c] sc ar (some (.int 1)) (upd sc 0 c) ar := rc_throwsIf d sc ar true c
theorem nI_task {sc : Nat → Int32} {T t : Nat} (hT : sc 30 = nI T) (h10 : T ≤ 10) (h : t < T) : (0 : Int32) ≤ nI t ∧ nI t ≤ sc 30 - 1 := by
  refine ⟨nI_pos' (by omega), ?_⟩
  rw [hT, show nI T - 1 = nI (T - 1) from pk_sub (a := T) (b := 1) (by omega)]
  exact (nI_leI (by omega) (by omega)).mpr (by omega)
theorem rc_noTask_f (d : Nat) {sc : Nat → Int32} (ar : Nat → Nat → Int32) {T t : Nat} (hT : sc 30 = nI T) (h10 : T ≤ 10) (h : t < T) : RC (d + 2) 128 [.int (nI t)] sc ar (some (.int 0)) sc ar := by
  have h9 := rc_noTask d sc ar (nI t)
  rwa [zB_f (by simp [nI_task hT h10 h])] at h9
theorem rc_noTask_t (d : Nat) {sc : Nat → Int32} (ar : Nat → Nat → Int32) {v : Int32} (h : ¬ (0 ≤ v ∧ v ≤ sc 30 - 1)) : RC (d + 2) 128 [.int v] sc ar (some (.int 1)) sc ar := by
  have h9 := rc_noTask d sc ar v
  rwa [zB_t (by by_cases h1 : 0 ≤ v <;> by_cases h2 : v ≤ sc 30 - 1 <;> simp_all)] at h9
set_option maxHeartbeats 4000000 in
set_option maxRecDepth 20000 in
theorem rc_can_ok (d : Nat) (sc : Nat → Int32) (ar : Nat → Nat → Int32) {l s : Nat} (hl : l < 8) (hs : s < 8) : RC (d + 3) 136 [.int (nI l), .int (nI s)] sc ar (some (.int (ar 18 (8 * l + s)))) (upd sc 0 0) (ar) := by
  refine RC.of pm_X10_can rfl rfl (Nat.le_of_ble_eq_true rfl) ?_
  intro fx al n g0 r Q hQ
  show pr fx (px_body pm_X10_can) (d + 2) Q al n g0 r sc ar 0 [.ref (al r), .int (nI l), .int (nI s)] []
  refine pr_aload_n dX10_can_0 rfl rfl ?_
  refine pr_iconst dX10_can_1 (show Int32.ofInt (0) = (0) by decide) ?_
  refine pr_put dX10_can_2 fk_X10_79 rfl ⟨_, _, _, rfl, rfl⟩ rfl rfl ?_
  refine pr_aload_n dX10_can_5 rfl rfl ?_
  refine pr_iload_n dX10_can_6 rfl ?_
  refine pr_callSC dX10_can_7 cl_X10_258 (rc_noLearner_f d hl) rfl rfl (Nat.le_of_ble_eq_true rfl) ⟨rfl, rfl⟩ ?_
  refine pr_if_ne (tgt := 23) dX10_can_10 (by decide) (fun c10 => absurd c10 (by decide)) (fun _ => ?_)
  refine pr_iload_n dX10_can_13 rfl ?_
  refine pr_iconst dX10_can_14 (show Int32.ofInt (0) = (0) by decide) ?_
  refine pr_bipush dX10_can_15 (show (Int8.ofInt (7)).toInt32 = (7) by decide) ?_
  refine pr_callSC dX10_can_17 cl_X10_104 (rc_in_t (d + 1) (nI_7 hs).1 (nI_7 hs).2) rfl rfl (Nat.le_of_ble_eq_true rfl) ⟨rfl, rfl⟩ ?_
  refine pr_if_ne (tgt := 27) dX10_can_20 (by decide) (fun _ => ?_) (fun c20 => absurd c20 (by decide))
  refine pr_iconst dX10_can_27 (show Int32.ofInt (0) = (0) by decide) ?_
  refine pr_iconst dX10_can_28 (show Int32.ofInt (1) = (1) by decide) ?_
  refine pr_call dX10_can_29 cl_X10_180 (rc_throwsIf_f _ _ _ _) rfl rfl (Nat.le_of_ble_eq_true rfl) ⟨rfl, rfl⟩ ?_
  refine pr_if_eq (tgt := 39) dX10_can_32 (by decide) (fun _ => ?_) (fun c32 => absurd c32 (by decide))
  refine pr_aload_n dX10_can_39 rfl rfl ?_
  refine pr_getA dX10_can_40 fk_X10_70 rfl ?_
  refine pr_bipush dX10_can_43 (show (Int8.ofInt (8)).toInt32 = (8) by decide) ?_
  refine pr_iload_n dX10_can_45 rfl ?_
  refine pr_imul dX10_can_46 ?_
  refine pr_iload_n dX10_can_47 rfl ?_
  refine pr_iadd dX10_can_48 ?_
  refine pr_iald (j := 8 * l + s) dX10_can_49 (by decide) rfl (ix_mul 8 l s) (by show 8 * l + s < 64; omega) rfl ?_
  exact pr_iret hQ dX10_can_50 rfl rfl rfl rfl rfl
set_option maxHeartbeats 4000000 in
set_option maxRecDepth 20000 in
theorem rc_can_bad1 (d : Nat) (sc : Nat → Int32) (ar : Nat → Nat → Int32) {l : Int32} (s : Int32) (hl : ¬ (0 ≤ l ∧ l ≤ 7)) : RC (d + 3) 136 [.int l, .int s] sc ar (some (.int 0)) (upd (upd sc 0 0) 0 1) (ar) := by
  refine RC.of pm_X10_can rfl rfl (Nat.le_of_ble_eq_true rfl) ?_
  intro fx al n g0 r Q hQ
  show pr fx (px_body pm_X10_can) (d + 2) Q al n g0 r sc ar 0 [.ref (al r), .int l, .int s] []
  refine pr_aload_n dX10_can_0 rfl rfl ?_
  refine pr_iconst dX10_can_1 (show Int32.ofInt (0) = (0) by decide) ?_
  refine pr_put dX10_can_2 fk_X10_79 rfl ⟨_, _, _, rfl, rfl⟩ rfl rfl ?_
  refine pr_aload_n dX10_can_5 rfl rfl ?_
  refine pr_iload_n dX10_can_6 rfl ?_
  refine pr_callSC dX10_can_7 cl_X10_258 (rc_noLearner_t d hl) rfl rfl (Nat.le_of_ble_eq_true rfl) ⟨rfl, rfl⟩ ?_
  refine pr_if_ne (tgt := 23) dX10_can_10 (by decide) (fun _ => ?_) (fun c10 => absurd c10 (by decide))
  refine pr_iconst dX10_can_23 (show Int32.ofInt (1) = (1) by decide) ?_
  refine pr_goto (tgt := 28) dX10_can_24 (by decide) ?_
  refine pr_iconst dX10_can_28 (show Int32.ofInt (1) = (1) by decide) ?_
  refine pr_call dX10_can_29 cl_X10_180 (rc_throwsIf_t _ _ _ _) rfl rfl (Nat.le_of_ble_eq_true rfl) ⟨rfl, rfl⟩ ?_
  refine pr_if_eq (tgt := 39) dX10_can_32 (by decide) (fun c32 => absurd c32 (by decide)) (fun _ => ?_)
  refine pr_iconst dX10_can_35 (show Int32.ofInt (0) = (0) by decide) ?_
  refine pr_goto (tgt := 50) dX10_can_36 (by decide) ?_
  exact pr_iret hQ dX10_can_50 rfl rfl rfl rfl rfl
set_option maxHeartbeats 4000000 in
set_option maxRecDepth 20000 in
theorem rc_can_bad2 (d : Nat) (sc : Nat → Int32) (ar : Nat → Nat → Int32) {l : Nat} {s : Int32} (hl : l < 8) (hs : ¬ (0 ≤ s ∧ s ≤ 7)) : RC (d + 3) 136 [.int (nI l), .int s] sc ar (some (.int 0)) (upd (upd sc 0 0) 0 1) (ar) := by
  refine RC.of pm_X10_can rfl rfl (Nat.le_of_ble_eq_true rfl) ?_
  intro fx al n g0 r Q hQ
  show pr fx (px_body pm_X10_can) (d + 2) Q al n g0 r sc ar 0 [.ref (al r), .int (nI l), .int s] []
  refine pr_aload_n dX10_can_0 rfl rfl ?_
  refine pr_iconst dX10_can_1 (show Int32.ofInt (0) = (0) by decide) ?_
  refine pr_put dX10_can_2 fk_X10_79 rfl ⟨_, _, _, rfl, rfl⟩ rfl rfl ?_
  refine pr_aload_n dX10_can_5 rfl rfl ?_
  refine pr_iload_n dX10_can_6 rfl ?_
  refine pr_callSC dX10_can_7 cl_X10_258 (rc_noLearner_f d hl) rfl rfl (Nat.le_of_ble_eq_true rfl) ⟨rfl, rfl⟩ ?_
  refine pr_if_ne (tgt := 23) dX10_can_10 (by decide) (fun c10 => absurd c10 (by decide)) (fun _ => ?_)
  refine pr_iload_n dX10_can_13 rfl ?_
  refine pr_iconst dX10_can_14 (show Int32.ofInt (0) = (0) by decide) ?_
  refine pr_bipush dX10_can_15 (show (Int8.ofInt (7)).toInt32 = (7) by decide) ?_
  refine pr_callSC dX10_can_17 cl_X10_104 (rc_in_f (d + 1) hs) rfl rfl (Nat.le_of_ble_eq_true rfl) ⟨rfl, rfl⟩ ?_
  refine pr_if_ne (tgt := 27) dX10_can_20 (by decide) (fun c20 => absurd c20 (by decide)) (fun _ => ?_)
  refine pr_iconst dX10_can_23 (show Int32.ofInt (1) = (1) by decide) ?_
  refine pr_goto (tgt := 28) dX10_can_24 (by decide) ?_
  refine pr_iconst dX10_can_28 (show Int32.ofInt (1) = (1) by decide) ?_
  refine pr_call dX10_can_29 cl_X10_180 (rc_throwsIf_t _ _ _ _) rfl rfl (Nat.le_of_ble_eq_true rfl) ⟨rfl, rfl⟩ ?_
  refine pr_if_eq (tgt := 39) dX10_can_32 (by decide) (fun c32 => absurd c32 (by decide)) (fun _ => ?_)
  refine pr_iconst dX10_can_35 (show Int32.ofInt (0) = (0) by decide) ?_
  refine pr_goto (tgt := 50) dX10_can_36 (by decide) ?_
  exact pr_iret hQ dX10_can_50 rfl rfl rfl rfl rfl
set_option maxHeartbeats 4000000 in
set_option maxRecDepth 20000 in
theorem rc_passed_ok (d : Nat) (sc : Nat → Int32) (ar : Nat → Nat → Int32) {T : Nat} (hT : sc 30 = nI T) (h10 : T ≤ 10) {l t : Nat} (hl : l < 8) (ht : t < T) : RC (d + 3) 137 [.int (nI l), .int (nI t)] sc ar (some (.int (zB (decide (0 < ar 16 (10 * l + t)))))) (upd sc 0 0) (ar) := by
  refine RC.of pm_X10_passed rfl rfl (Nat.le_of_ble_eq_true rfl) ?_
  intro fx al n g0 r Q hQ
  show pr fx (px_body pm_X10_passed) (d + 2) Q al n g0 r sc ar 0 [.ref (al r), .int (nI l), .int (nI t)] []
  refine pr_aload_n dX10_passed_0 rfl rfl ?_
  refine pr_iconst dX10_passed_1 (show Int32.ofInt (0) = (0) by decide) ?_
  refine pr_put dX10_passed_2 fk_X10_79 rfl ⟨_, _, _, rfl, rfl⟩ rfl rfl ?_
  refine pr_aload_n dX10_passed_5 rfl rfl ?_
  refine pr_iload_n dX10_passed_6 rfl ?_
  refine pr_callSC dX10_passed_7 cl_X10_258 (rc_noLearner_f d hl) rfl rfl (Nat.le_of_ble_eq_true rfl) ⟨rfl, rfl⟩ ?_
  refine pr_if_ne (tgt := 21) dX10_passed_10 (by decide) (fun c10 => absurd c10 (by decide)) (fun _ => ?_)
  refine pr_aload_n dX10_passed_13 rfl rfl ?_
  refine pr_iload_n dX10_passed_14 rfl ?_
  refine pr_call dX10_passed_15 cl_X10_248 (rc_noTask_f d (sc := upd sc 0 0) ar (T := T) hT h10 ht) rfl rfl (Nat.le_of_ble_eq_true rfl) ⟨rfl, rfl⟩ ?_
  refine pr_if_eq (tgt := 25) dX10_passed_18 (by decide) (fun _ => ?_) (fun c18 => absurd c18 (by decide))
  refine pr_iconst dX10_passed_25 (show Int32.ofInt (0) = (0) by decide) ?_
  refine pr_iconst dX10_passed_26 (show Int32.ofInt (1) = (1) by decide) ?_
  refine pr_call dX10_passed_27 cl_X10_180 (rc_throwsIf_f _ _ _ _) rfl rfl (Nat.le_of_ble_eq_true rfl) ⟨rfl, rfl⟩ ?_
  refine pr_if_ne (tgt := 51) dX10_passed_30 (by decide) (fun c30 => absurd c30 (by decide)) (fun _ => ?_)
  refine pr_aload_n dX10_passed_33 rfl rfl ?_
  refine pr_getA dX10_passed_34 fk_X10_64 rfl ?_
  refine pr_bipush dX10_passed_37 (show (Int8.ofInt (10)).toInt32 = (10) by decide) ?_
  refine pr_iload_n dX10_passed_39 rfl ?_
  refine pr_imul dX10_passed_40 ?_
  refine pr_iload_n dX10_passed_41 rfl ?_
  refine pr_iadd dX10_passed_42 ?_
  refine pr_iald (j := 10 * l + t) dX10_passed_43 (by decide) rfl (ix_mul 10 l t) (by show 10 * l + t < 80; omega) rfl ?_
  refine pr_if_le (tgt := 51) dX10_passed_44 (by decide) (fun c44 => ?_) (fun c44 => ?_)
  ·
    have c449 := Int32.not_lt.mpr c44
    refine pr_iconst dX10_passed_51 (show Int32.ofInt (0) = (0) by decide) ?_
    exact pr_iret hQ dX10_passed_52 rfl rfl (by simp [zB, c44, c449]) rfl rfl
  ·
    have c449 := Int32.not_le.mp c44
    refine pr_iconst dX10_passed_47 (show Int32.ofInt (1) = (1) by decide) ?_
    refine pr_goto (tgt := 52) dX10_passed_48 (by decide) ?_
    exact pr_iret hQ dX10_passed_52 rfl rfl (by simp [zB, c44, c449]) rfl rfl
set_option maxHeartbeats 4000000 in
set_option maxRecDepth 20000 in
theorem rc_passed_bad1 (d : Nat) (sc : Nat → Int32) (ar : Nat → Nat → Int32) {l : Int32} (t : Int32) (hl : ¬ (0 ≤ l ∧ l ≤ 7)) : RC (d + 3) 137 [.int l, .int t] sc ar (some (.int 0)) (upd (upd sc 0 0) 0 1) (ar) := by
  refine RC.of pm_X10_passed rfl rfl (Nat.le_of_ble_eq_true rfl) ?_
  intro fx al n g0 r Q hQ
  show pr fx (px_body pm_X10_passed) (d + 2) Q al n g0 r sc ar 0 [.ref (al r), .int l, .int t] []
  refine pr_aload_n dX10_passed_0 rfl rfl ?_
  refine pr_iconst dX10_passed_1 (show Int32.ofInt (0) = (0) by decide) ?_
  refine pr_put dX10_passed_2 fk_X10_79 rfl ⟨_, _, _, rfl, rfl⟩ rfl rfl ?_
  refine pr_aload_n dX10_passed_5 rfl rfl ?_
  refine pr_iload_n dX10_passed_6 rfl ?_
  refine pr_callSC dX10_passed_7 cl_X10_258 (rc_noLearner_t d hl) rfl rfl (Nat.le_of_ble_eq_true rfl) ⟨rfl, rfl⟩ ?_
  refine pr_if_ne (tgt := 21) dX10_passed_10 (by decide) (fun _ => ?_) (fun c10 => absurd c10 (by decide))
  refine pr_iconst dX10_passed_21 (show Int32.ofInt (1) = (1) by decide) ?_
  refine pr_goto (tgt := 26) dX10_passed_22 (by decide) ?_
  refine pr_iconst dX10_passed_26 (show Int32.ofInt (1) = (1) by decide) ?_
  refine pr_call dX10_passed_27 cl_X10_180 (rc_throwsIf_t _ _ _ _) rfl rfl (Nat.le_of_ble_eq_true rfl) ⟨rfl, rfl⟩ ?_
  refine pr_if_ne (tgt := 51) dX10_passed_30 (by decide) (fun _ => ?_) (fun c30 => absurd c30 (by decide))
  refine pr_iconst dX10_passed_51 (show Int32.ofInt (0) = (0) by decide) ?_
  exact pr_iret hQ dX10_passed_52 rfl rfl rfl rfl rfl
set_option maxHeartbeats 4000000 in
set_option maxRecDepth 20000 in
theorem rc_passed_bad2 (d : Nat) (sc : Nat → Int32) (ar : Nat → Nat → Int32) {l : Nat} {t : Int32} (hl : l < 8) (ht : ¬ (0 ≤ t ∧ t ≤ sc 30 - 1)) : RC (d + 3) 137 [.int (nI l), .int t] sc ar (some (.int 0)) (upd (upd sc 0 0) 0 1) (ar) := by
  refine RC.of pm_X10_passed rfl rfl (Nat.le_of_ble_eq_true rfl) ?_
  intro fx al n g0 r Q hQ
  show pr fx (px_body pm_X10_passed) (d + 2) Q al n g0 r sc ar 0 [.ref (al r), .int (nI l), .int t] []
  refine pr_aload_n dX10_passed_0 rfl rfl ?_
  refine pr_iconst dX10_passed_1 (show Int32.ofInt (0) = (0) by decide) ?_
  refine pr_put dX10_passed_2 fk_X10_79 rfl ⟨_, _, _, rfl, rfl⟩ rfl rfl ?_
  refine pr_aload_n dX10_passed_5 rfl rfl ?_
  refine pr_iload_n dX10_passed_6 rfl ?_
  refine pr_callSC dX10_passed_7 cl_X10_258 (rc_noLearner_f d hl) rfl rfl (Nat.le_of_ble_eq_true rfl) ⟨rfl, rfl⟩ ?_
  refine pr_if_ne (tgt := 21) dX10_passed_10 (by decide) (fun c10 => absurd c10 (by decide)) (fun _ => ?_)
  refine pr_aload_n dX10_passed_13 rfl rfl ?_
  refine pr_iload_n dX10_passed_14 rfl ?_
  refine pr_call dX10_passed_15 cl_X10_248 (rc_noTask_t d (sc := upd sc 0 0) ar ht) rfl rfl (Nat.le_of_ble_eq_true rfl) ⟨rfl, rfl⟩ ?_
  refine pr_if_eq (tgt := 25) dX10_passed_18 (by decide) (fun c18 => absurd c18 (by decide)) (fun _ => ?_)
  refine pr_iconst dX10_passed_21 (show Int32.ofInt (1) = (1) by decide) ?_
  refine pr_goto (tgt := 26) dX10_passed_22 (by decide) ?_
  refine pr_iconst dX10_passed_26 (show Int32.ofInt (1) = (1) by decide) ?_
  refine pr_call dX10_passed_27 cl_X10_180 (rc_throwsIf_t _ _ _ _) rfl rfl (Nat.le_of_ble_eq_true rfl) ⟨rfl, rfl⟩ ?_
  refine pr_if_ne (tgt := 51) dX10_passed_30 (by decide) (fun _ => ?_) (fun c30 => absurd c30 (by decide))
  refine pr_iconst dX10_passed_51 (show Int32.ofInt (0) = (0) by decide) ?_
  exact pr_iret hQ dX10_passed_52 rfl rfl rfl rfl rfl
set_option maxHeartbeats 4000000 in
set_option maxRecDepth 20000 in
theorem rc_task_ok (d : Nat) (sc : Nat → Int32) (ar : Nat → Nat → Int32) {T a b : Nat} (hT : sc 30 = nI T) (h10 : T < 10) (ha : a < 256) (hb : b < 256) : RC (d + 2) 130 [.int (nI a), .int (nI b)] sc ar (some (.int (nI T))) (upd (upd sc 0 0) 30 (nI (T + 1))) (va_up (va_up ar 9 (upd (ar 9) T (nI a))) 10 (upd (ar 10) T (nI b))) := by
  refine RC.of pm_X10_task rfl rfl (Nat.le_of_ble_eq_true rfl) ?_
  intro fx al n g0 r Q hQ
  show pr fx (px_body pm_X10_task) (d + 1) Q al n g0 r sc ar 0 [.ref (al r), .int (nI a), .int (nI b)] []
  have hA : (0 : Int32) ≤ nI a ∧ nI a ≤ 255 := ⟨nI_pos' (by omega), (nI_leI (a := a) (b := 255) (by omega) (by omega)).mpr (by omega)⟩
  have hB : (0 : Int32) ≤ nI b ∧ nI b ≤ 255 := ⟨nI_pos' (by omega), (nI_leI (a := b) (b := 255) (by omega) (by omega)).mpr (by omega)⟩
  have h9 : ¬ nI T = 10 := fun z => by have := (nI_eq (a := T) (b := 10) (by omega) (by omega)).mp z; omega
  refine pr_aload_n dX10_task_0 rfl rfl ?_
  refine pr_iconst dX10_task_1 (show Int32.ofInt (0) = (0) by decide) ?_
  refine pr_put dX10_task_2 fk_X10_79 rfl ⟨_, _, _, rfl, rfl⟩ rfl rfl ?_
  refine pr_aload_n dX10_task_5 rfl rfl ?_
  refine pr_iload_n dX10_task_6 rfl ?_
  refine pr_iconst dX10_task_7 (show Int32.ofInt (0) = (0) by decide) ?_
  refine pr_sipush dX10_task_8 (show (Int16.ofInt (255)).toInt32 = (255) by decide) ?_
  refine pr_callSC dX10_task_11 cl_X10_104 (rc_in_t d hA.1 hA.2) rfl rfl (Nat.le_of_ble_eq_true rfl) ⟨rfl, rfl⟩ ?_
  refine pr_if_eq (tgt := 28) dX10_task_14 (by decide) (fun c14 => absurd c14 (by decide)) (fun _ => ?_)
  refine pr_iload_n dX10_task_17 rfl ?_
  refine pr_iconst dX10_task_18 (show Int32.ofInt (0) = (0) by decide) ?_
  refine pr_sipush dX10_task_19 (show (Int16.ofInt (255)).toInt32 = (255) by decide) ?_
  refine pr_callSC dX10_task_22 cl_X10_104 (rc_in_t d hB.1 hB.2) rfl rfl (Nat.le_of_ble_eq_true rfl) ⟨rfl, rfl⟩ ?_
  refine pr_if_ne (tgt := 32) dX10_task_25 (by decide) (fun _ => ?_) (fun c25 => absurd c25 (by decide))
  refine pr_iconst dX10_task_32 (show Int32.ofInt (0) = (0) by decide) ?_
  refine pr_iconst dX10_task_33 (show Int32.ofInt (1) = (1) by decide) ?_
  refine pr_call dX10_task_34 cl_X10_180 (rc_throwsIf_f _ _ _ _) rfl rfl (Nat.le_of_ble_eq_true rfl) ⟨rfl, rfl⟩ ?_
  refine pr_if_ne (tgt := 62) dX10_task_37 (by decide) (fun c37 => absurd c37 (by decide)) (fun _ => ?_)
  refine pr_aload_n dX10_task_40 rfl rfl ?_
  refine pr_aload_n dX10_task_41 rfl rfl ?_
  refine pr_getS (v := nI T) dX10_task_42 fk_X10_245 rfl hT ?_
  refine pr_bipush dX10_task_45 (show (Int8.ofInt (10)).toInt32 = (10) by decide) ?_
  refine pr_icmp_ne (tgt := 54) dX10_task_47 (by decide) (fun c47 => ?_) (fun c47 => absurd c47 h9)
  refine pr_iconst dX10_task_54 (show Int32.ofInt (0) = (0) by decide) ?_
  refine pr_iconst dX10_task_55 (show Int32.ofInt (2) = (2) by decide) ?_
  refine pr_call dX10_task_56 cl_X10_180 (rc_throwsIf_f _ _ _ _) rfl rfl (Nat.le_of_ble_eq_true rfl) ⟨rfl, rfl⟩ ?_
  refine pr_if_eq (tgt := 64) dX10_task_59 (by decide) (fun _ => ?_) (fun c59 => absurd c59 (by decide))
  refine pr_aload_n dX10_task_64 rfl rfl ?_
  refine pr_getA dX10_task_65 fk_X10_43 rfl ?_
  refine pr_aload_n dX10_task_68 rfl rfl ?_
  refine pr_getS (v := nI T) dX10_task_69 fk_X10_245 rfl hT ?_
  refine pr_iload_n dX10_task_72 rfl ?_
  refine pr_iast (j := T) dX10_task_73 (by decide) rfl rfl (by show T < 10; omega) ?_
  refine pr_aload_n dX10_task_74 rfl rfl ?_
  refine pr_getA dX10_task_75 fk_X10_46 rfl ?_
  refine pr_aload_n dX10_task_78 rfl rfl ?_
  refine pr_getS (v := nI T) dX10_task_79 fk_X10_245 rfl hT ?_
  refine pr_iload_n dX10_task_82 rfl ?_
  refine pr_iast (j := T) dX10_task_83 (by decide) rfl rfl (by show T < 10; omega) ?_
  refine pr_aload_n dX10_task_84 rfl rfl ?_
  refine pr_dup dX10_task_85 rfl ?_
  refine pr_getS (v := nI T) dX10_task_86 fk_X10_245 rfl hT ?_
  refine pr_iconst dX10_task_89 (show Int32.ofInt (1) = (1) by decide) ?_
  refine pr_iadd dX10_task_90 ?_
  rw [nI_1]
  refine pr_put dX10_task_91 fk_X10_245 rfl ⟨_, _, _, rfl, rfl⟩ rfl rfl ?_
  refine pr_aload_n dX10_task_94 rfl rfl ?_
  refine pr_getS (v := nI (T + 1)) dX10_task_95 fk_X10_245 rfl rfl ?_
  refine pr_iconst dX10_task_98 (show Int32.ofInt (1) = (1) by decide) ?_
  refine pr_isub dX10_task_99 ?_
  rw [show nI (T + 1) - 1 = nI T from nI_pred T]
  exact pr_iret hQ dX10_task_100 rfl rfl rfl rfl rfl
set_option maxHeartbeats 4000000 in
set_option maxRecDepth 20000 in
theorem rc_task_bad1 (d : Nat) (sc : Nat → Int32) (ar : Nat → Nat → Int32) {a : Int32} (b : Int32) (ha : ¬ (0 ≤ a ∧ a ≤ 255)) : RC (d + 2) 130 [.int a, .int b] sc ar (some (.int 0)) (upd (upd sc 0 0) 0 1) (ar) := by
  refine RC.of pm_X10_task rfl rfl (Nat.le_of_ble_eq_true rfl) ?_
  intro fx al n g0 r Q hQ
  show pr fx (px_body pm_X10_task) (d + 1) Q al n g0 r sc ar 0 [.ref (al r), .int a, .int b] []
  refine pr_aload_n dX10_task_0 rfl rfl ?_
  refine pr_iconst dX10_task_1 (show Int32.ofInt (0) = (0) by decide) ?_
  refine pr_put dX10_task_2 fk_X10_79 rfl ⟨_, _, _, rfl, rfl⟩ rfl rfl ?_
  refine pr_aload_n dX10_task_5 rfl rfl ?_
  refine pr_iload_n dX10_task_6 rfl ?_
  refine pr_iconst dX10_task_7 (show Int32.ofInt (0) = (0) by decide) ?_
  refine pr_sipush dX10_task_8 (show (Int16.ofInt (255)).toInt32 = (255) by decide) ?_
  refine pr_callSC dX10_task_11 cl_X10_104 (rc_in_f d ha) rfl rfl (Nat.le_of_ble_eq_true rfl) ⟨rfl, rfl⟩ ?_
  refine pr_if_eq (tgt := 28) dX10_task_14 (by decide) (fun _ => ?_) (fun c14 => absurd c14 (by decide))
  refine pr_iconst dX10_task_28 (show Int32.ofInt (1) = (1) by decide) ?_
  refine pr_goto (tgt := 33) dX10_task_29 (by decide) ?_
  refine pr_iconst dX10_task_33 (show Int32.ofInt (1) = (1) by decide) ?_
  refine pr_call dX10_task_34 cl_X10_180 (rc_throwsIf_t _ _ _ _) rfl rfl (Nat.le_of_ble_eq_true rfl) ⟨rfl, rfl⟩ ?_
  refine pr_if_ne (tgt := 62) dX10_task_37 (by decide) (fun _ => ?_) (fun c37 => absurd c37 (by decide))
  refine pr_iconst dX10_task_62 (show Int32.ofInt (0) = (0) by decide) ?_
  exact pr_iret hQ dX10_task_63 rfl rfl rfl rfl rfl
set_option maxHeartbeats 4000000 in
set_option maxRecDepth 20000 in
theorem rc_task_bad2 (d : Nat) (sc : Nat → Int32) (ar : Nat → Nat → Int32) {a b : Int32} (ha : 0 ≤ a ∧ a ≤ 255) (hb : ¬ (0 ≤ b ∧ b ≤ 255)) : RC (d + 2) 130 [.int a, .int b] sc ar (some (.int 0)) (upd (upd sc 0 0) 0 1) (ar) := by
  refine RC.of pm_X10_task rfl rfl (Nat.le_of_ble_eq_true rfl) ?_
  intro fx al n g0 r Q hQ
  show pr fx (px_body pm_X10_task) (d + 1) Q al n g0 r sc ar 0 [.ref (al r), .int a, .int b] []
  refine pr_aload_n dX10_task_0 rfl rfl ?_
  refine pr_iconst dX10_task_1 (show Int32.ofInt (0) = (0) by decide) ?_
  refine pr_put dX10_task_2 fk_X10_79 rfl ⟨_, _, _, rfl, rfl⟩ rfl rfl ?_
  refine pr_aload_n dX10_task_5 rfl rfl ?_
  refine pr_iload_n dX10_task_6 rfl ?_
  refine pr_iconst dX10_task_7 (show Int32.ofInt (0) = (0) by decide) ?_
  refine pr_sipush dX10_task_8 (show (Int16.ofInt (255)).toInt32 = (255) by decide) ?_
  refine pr_callSC dX10_task_11 cl_X10_104 (rc_in_t d ha.1 ha.2) rfl rfl (Nat.le_of_ble_eq_true rfl) ⟨rfl, rfl⟩ ?_
  refine pr_if_eq (tgt := 28) dX10_task_14 (by decide) (fun c14 => absurd c14 (by decide)) (fun _ => ?_)
  refine pr_iload_n dX10_task_17 rfl ?_
  refine pr_iconst dX10_task_18 (show Int32.ofInt (0) = (0) by decide) ?_
  refine pr_sipush dX10_task_19 (show (Int16.ofInt (255)).toInt32 = (255) by decide) ?_
  refine pr_callSC dX10_task_22 cl_X10_104 (rc_in_f d hb) rfl rfl (Nat.le_of_ble_eq_true rfl) ⟨rfl, rfl⟩ ?_
  refine pr_if_ne (tgt := 32) dX10_task_25 (by decide) (fun c25 => absurd c25 (by decide)) (fun _ => ?_)
  refine pr_iconst dX10_task_28 (show Int32.ofInt (1) = (1) by decide) ?_
  refine pr_goto (tgt := 33) dX10_task_29 (by decide) ?_
  refine pr_iconst dX10_task_33 (show Int32.ofInt (1) = (1) by decide) ?_
  refine pr_call dX10_task_34 cl_X10_180 (rc_throwsIf_t _ _ _ _) rfl rfl (Nat.le_of_ble_eq_true rfl) ⟨rfl, rfl⟩ ?_
  refine pr_if_ne (tgt := 62) dX10_task_37 (by decide) (fun _ => ?_) (fun c37 => absurd c37 (by decide))
  refine pr_iconst dX10_task_62 (show Int32.ofInt (0) = (0) by decide) ?_
  exact pr_iret hQ dX10_task_63 rfl rfl rfl rfl rfl
set_option maxHeartbeats 4000000 in
set_option maxRecDepth 20000 in
theorem rc_task_full (d : Nat) (sc : Nat → Int32) (ar : Nat → Nat → Int32) {a b : Int32} (hT : sc 30 = 10) (ha : 0 ≤ a ∧ a ≤ 255) (hb : 0 ≤ b ∧ b ≤ 255) : RC (d + 2) 130 [.int a, .int b] sc ar (some (.int 0)) (upd (upd sc 0 0) 0 2) (ar) := by
  refine RC.of pm_X10_task rfl rfl (Nat.le_of_ble_eq_true rfl) ?_
  intro fx al n g0 r Q hQ
  show pr fx (px_body pm_X10_task) (d + 1) Q al n g0 r sc ar 0 [.ref (al r), .int a, .int b] []
  refine pr_aload_n dX10_task_0 rfl rfl ?_
  refine pr_iconst dX10_task_1 (show Int32.ofInt (0) = (0) by decide) ?_
  refine pr_put dX10_task_2 fk_X10_79 rfl ⟨_, _, _, rfl, rfl⟩ rfl rfl ?_
  refine pr_aload_n dX10_task_5 rfl rfl ?_
  refine pr_iload_n dX10_task_6 rfl ?_
  refine pr_iconst dX10_task_7 (show Int32.ofInt (0) = (0) by decide) ?_
  refine pr_sipush dX10_task_8 (show (Int16.ofInt (255)).toInt32 = (255) by decide) ?_
  refine pr_callSC dX10_task_11 cl_X10_104 (rc_in_t d ha.1 ha.2) rfl rfl (Nat.le_of_ble_eq_true rfl) ⟨rfl, rfl⟩ ?_
  refine pr_if_eq (tgt := 28) dX10_task_14 (by decide) (fun c14 => absurd c14 (by decide)) (fun _ => ?_)
  refine pr_iload_n dX10_task_17 rfl ?_
  refine pr_iconst dX10_task_18 (show Int32.ofInt (0) = (0) by decide) ?_
  refine pr_sipush dX10_task_19 (show (Int16.ofInt (255)).toInt32 = (255) by decide) ?_
  refine pr_callSC dX10_task_22 cl_X10_104 (rc_in_t d hb.1 hb.2) rfl rfl (Nat.le_of_ble_eq_true rfl) ⟨rfl, rfl⟩ ?_
  refine pr_if_ne (tgt := 32) dX10_task_25 (by decide) (fun _ => ?_) (fun c25 => absurd c25 (by decide))
  refine pr_iconst dX10_task_32 (show Int32.ofInt (0) = (0) by decide) ?_
  refine pr_iconst dX10_task_33 (show Int32.ofInt (1) = (1) by decide) ?_
  refine pr_call dX10_task_34 cl_X10_180 (rc_throwsIf_f _ _ _ _) rfl rfl (Nat.le_of_ble_eq_true rfl) ⟨rfl, rfl⟩ ?_
  refine pr_if_ne (tgt := 62) dX10_task_37 (by decide) (fun c37 => absurd c37 (by decide)) (fun _ => ?_)
  refine pr_aload_n dX10_task_40 rfl rfl ?_
  refine pr_aload_n dX10_task_41 rfl rfl ?_
  refine pr_getS (v := 10) dX10_task_42 fk_X10_245 rfl hT ?_
  refine pr_bipush dX10_task_45 (show (Int8.ofInt (10)).toInt32 = (10) by decide) ?_
  refine pr_icmp_ne (tgt := 54) dX10_task_47 (by decide) (fun c47 => absurd rfl c47) (fun c47 => ?_)
  refine pr_iconst dX10_task_50 (show Int32.ofInt (1) = (1) by decide) ?_
  refine pr_goto (tgt := 55) dX10_task_51 (by decide) ?_
  refine pr_iconst dX10_task_55 (show Int32.ofInt (2) = (2) by decide) ?_
  refine pr_call dX10_task_56 cl_X10_180 (rc_throwsIf_t _ _ _ _) rfl rfl (Nat.le_of_ble_eq_true rfl) ⟨rfl, rfl⟩ ?_
  refine pr_if_eq (tgt := 64) dX10_task_59 (by decide) (fun c59 => absurd c59 (by decide)) (fun _ => ?_)
  refine pr_iconst dX10_task_62 (show Int32.ofInt (0) = (0) by decide) ?_
  exact pr_iret hQ dX10_task_63 rfl rfl rfl rfl rfl
set_option maxHeartbeats 4000000 in
set_option maxRecDepth 20000 in
theorem rc_token_ok (d : Nat) (sc : Nat → Int32) (ar : Nat → Nat → Int32) {m i : Nat} (hm : sc 16 = nI m) (h120 : m ≤ 120) (hi : i < m) : RC (d + 2) 115 [.int (nI i)] sc ar (some (.int (ar 3 i))) (upd sc 0 0) (ar) := by
  refine RC.of pm_X10_token rfl rfl (Nat.le_of_ble_eq_true rfl) ?_
  intro fx al n g0 r Q hQ
  show pr fx (px_body pm_X10_token) (d + 1) Q al n g0 r sc ar 0 [.ref (al r), .int (nI i)] []
  have h9 : (0 : Int32) ≤ nI i ∧ nI i ≤ sc 16 - 1 := by
    refine ⟨nI_pos' (by omega), ?_⟩
    rw [hm, show nI m - 1 = nI (m - 1) from pk_sub (a := m) (b := 1) (by omega)]
    exact (nI_leI (by omega) (by omega)).mpr (by omega)
  refine pr_aload_n dX10_token_0 rfl rfl ?_
  refine pr_iconst dX10_token_1 (show Int32.ofInt (0) = (0) by decide) ?_
  refine pr_put dX10_token_2 fk_X10_79 rfl ⟨_, _, _, rfl, rfl⟩ rfl rfl ?_
  refine pr_iload_n dX10_token_5 rfl ?_
  refine pr_iconst dX10_token_6 (show Int32.ofInt (0) = (0) by decide) ?_
  refine pr_aload_n dX10_token_7 rfl rfl ?_
  refine pr_getS (v := (sc 16)) dX10_token_8 fk_X10_184 rfl rfl ?_
  refine pr_iconst dX10_token_11 (show Int32.ofInt (1) = (1) by decide) ?_
  refine pr_isub dX10_token_12 ?_
  refine pr_callSC dX10_token_13 cl_X10_104 (rc_in_t d h9.1 h9.2) rfl rfl (Nat.le_of_ble_eq_true rfl) ⟨rfl, rfl⟩ ?_
  refine pr_if_eq (tgt := 28) dX10_token_16 (by decide) (fun c16 => absurd c16 (by decide)) (fun _ => ?_)
  refine pr_aload_n dX10_token_19 rfl rfl ?_
  refine pr_getA dX10_token_20 fk_X10_24 rfl ?_
  refine pr_iload_n dX10_token_23 rfl ?_
  refine pr_iald (j := i) dX10_token_24 (by decide) rfl rfl (by show i < 120; omega) rfl ?_
  refine pr_goto (tgt := 29) dX10_token_25 (by decide) ?_
  exact pr_iret hQ dX10_token_29 rfl rfl rfl rfl rfl
set_option maxHeartbeats 4000000 in
set_option maxRecDepth 20000 in
theorem rc_token_no (d : Nat) (sc : Nat → Int32) (ar : Nat → Nat → Int32) {i : Int32} (hi : ¬ (0 ≤ i ∧ i ≤ sc 16 - 1)) : RC (d + 2) 115 [.int i] sc ar (some (.int (-1))) (upd sc 0 0) (ar) := by
  refine RC.of pm_X10_token rfl rfl (Nat.le_of_ble_eq_true rfl) ?_
  intro fx al n g0 r Q hQ
  show pr fx (px_body pm_X10_token) (d + 1) Q al n g0 r sc ar 0 [.ref (al r), .int i] []
  refine pr_aload_n dX10_token_0 rfl rfl ?_
  refine pr_iconst dX10_token_1 (show Int32.ofInt (0) = (0) by decide) ?_
  refine pr_put dX10_token_2 fk_X10_79 rfl ⟨_, _, _, rfl, rfl⟩ rfl rfl ?_
  refine pr_iload_n dX10_token_5 rfl ?_
  refine pr_iconst dX10_token_6 (show Int32.ofInt (0) = (0) by decide) ?_
  refine pr_aload_n dX10_token_7 rfl rfl ?_
  refine pr_getS (v := (sc 16)) dX10_token_8 fk_X10_184 rfl rfl ?_
  refine pr_iconst dX10_token_11 (show Int32.ofInt (1) = (1) by decide) ?_
  refine pr_isub dX10_token_12 ?_
  refine pr_callSC dX10_token_13 cl_X10_104 (rc_in_f d hi) rfl rfl (Nat.le_of_ble_eq_true rfl) ⟨rfl, rfl⟩ ?_
  refine pr_if_eq (tgt := 28) dX10_token_16 (by decide) (fun _ => ?_) (fun c16 => absurd c16 (by decide))
  refine pr_iconst dX10_token_28 (show Int32.ofInt (-1) = (-1) by decide) ?_
  exact pr_iret hQ dX10_token_29 rfl rfl rfl rfl rfl
