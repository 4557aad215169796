def zB (b : Bool) : Int32 := if b then 1 else 0
theorem zB_t {b : Bool} (h : b = true) : zB b = 1 := by rw [h]; rfl
theorem zB_f {b : Bool} (h : b = false) : zB b = 0 := by rw [h]; rfl
theorem zB_0 {b : Bool} : zB b = 0 ↔ b = false := by cases b <;> decide
theorem zB_nar (b : Bool) : narrow .boolean (.int (zB b)) = .int (zB b) := by cases b <;> rfl
theorem sg_iret {fx : px_F} {bd : px_B} {K : px_K} {Q : px_Q} {al : Nat → Nat} {n : Nat} {g : Nat → px_O} {pc : Nat} {ls : List Value} {x : Int32} {ty : FieldType} {res : Option Value} (hQ : Q (.inl res) al n g) (h0 : decode bd.2.1 pc = .ok (.ireturn, 1)) (h1 : bd.2.2.1 = some ty) (h2 : narrow ty (.int x) = .int x) (e1 : some (.int x) = res) : pg px_tb fx bd K Q al n g pc ls [.int x] 0 0 := by
  subst e1
  exact pg_iret h0 h1 h2 (Nat.zero_le _) (Nat.zero_le _) hQ
theorem sg_call {fx : px_F} {bd : px_B} {d : Nat} {Q : px_Q} {al : Nat → Nat} {n : Nat} {g : Nat → px_O} {pc : Nat} {ls st : List Value} {idx k : Nat} {As st0 : List Value} {res : Option Value} (h0 : decode bd.2.1 pc = .ok (.invokestatic idx, 3)) {na : Nat} (h1 : px_cS px_tb bd.1 idx k na) (hC : SC d k As res) (hn : As.length = na) (h4 : st0 = As.reverse ++ st) (h5 : (st.map fun v => v.category).sum ≤ 8) (hz : px_mc px_tb k = 0 ∧ px_ms px_tb k = 0)
    (kk : pg px_tb fx bd (pm px_tb fx d) Q al n g (pc + 3) ls (res.toList ++ st) 0 0) : pg px_tb fx bd (pm px_tb fx d) Q al n g pc ls st0 0 0 := by
  refine pg_callS (pm_mono px_tb fx d) (idx := idx) (k := k) (As := As) h0 (hn ▸ h1) h4 h5 (by rw [hz.1]; exact Nat.zero_le _) (by rw [hz.2]; exact Nat.zero_le _) ?_
  rw [hz.1, hz.2]
  exact hC fx al n g _ kk
set_option maxHeartbeats 4000000 in
set_option maxRecDepth 20000 in
theorem rc_in (d : Nat) (v lo hi : Int32) : SC (d + 1) 92 [.int v, .int lo, .int hi] (some (.int (zB (decide (lo ≤ v) && decide (v ≤ hi))))) := by
  refine SC.of pm_X10_in rfl rfl (Nat.le_of_ble_eq_true rfl) ?_
  intro fx al n g Q hQ
  show pg px_tb fx (px_body pm_X10_in) (pm px_tb fx (d)) Q al n g 0 [.int v, .int lo, .int hi] [] 0 0
  refine pg_iload_n dX10_in_0 rfl ?_
  refine pg_iload_n dX10_in_1 rfl ?_
  refine pg_icmp_lt (tgt := 14) dX10_in_2 (by decide) (fun c2 => ?_) (fun c2 => ?_)
  ·
    have c29 := Int32.not_le.mpr c2
    refine pg_iconst dX10_in_14 (show Int32.ofInt (0) = (0) by decide) ?_
    exact sg_iret hQ dX10_in_15 rfl rfl (by simp only [zB]; split <;> first | rfl | (exfalso; (simp only [Bool.and_eq_true, Bool.or_eq_true, Bool.not_eq_true, Bool.and_eq_false_iff, Bool.or_eq_false_iff, Bool.not_eq_false, decide_eq_true_eq, decide_eq_false_iff_not, Int32.not_lt, Int32.not_le, Int32.lt_iff_toInt_lt, Int32.le_iff_toInt_le] at *; omega)))
  ·
    have c29 := Int32.not_lt.mp c2
    refine pg_iload_n dX10_in_5 rfl ?_
    refine pg_iload_n dX10_in_6 rfl ?_
    refine pg_icmp_gt (tgt := 14) dX10_in_7 (by decide) (fun c7 => ?_) (fun c7 => ?_)
    ·
      have c79 := Int32.not_le.mpr c7
      refine pg_iconst dX10_in_14 (show Int32.ofInt (0) = (0) by decide) ?_
      exact sg_iret hQ dX10_in_15 rfl rfl (by simp only [zB]; split <;> first | rfl | (exfalso; (simp only [Bool.and_eq_true, Bool.or_eq_true, Bool.not_eq_true, Bool.and_eq_false_iff, Bool.or_eq_false_iff, Bool.not_eq_false, decide_eq_true_eq, decide_eq_false_iff_not, Int32.not_lt, Int32.not_le, Int32.lt_iff_toInt_lt, Int32.le_iff_toInt_le] at *; omega)))
    ·
      have c79 := Int32.not_lt.mp c7
      refine pg_iconst dX10_in_10 (show Int32.ofInt (1) = (1) by decide) ?_
      refine pg_goto (tgt := 15) dX10_in_11 (by decide) ?_
      exact sg_iret hQ dX10_in_15 rfl rfl (by simp only [zB]; split <;> first | rfl | (exfalso; (simp only [Bool.and_eq_true, Bool.or_eq_true, Bool.not_eq_true, Bool.and_eq_false_iff, Bool.or_eq_false_iff, Bool.not_eq_false, decide_eq_true_eq, decide_eq_false_iff_not, Int32.not_lt, Int32.not_le, Int32.lt_iff_toInt_lt, Int32.le_iff_toInt_le] at *; omega)))
def isVar (t : Int32) : Bool := (decide (97 ≤ t) && decide (t ≤ 100)) || decide (t = 114)
set_option maxHeartbeats 4000000 in
set_option maxRecDepth 20000 in
theorem rc_isVariable (d : Nat) (t : Int32) : SC (d + 2) 97 [.int t] (some (.int (zB (isVar t)))) := by
  refine SC.of pm_X10_isVariable rfl rfl (Nat.le_of_ble_eq_true rfl) ?_
  intro fx al n g Q hQ
  show pg px_tb fx (px_body pm_X10_isVariable) (pm px_tb fx (d + 1)) Q al n g 0 [.int t] [] 0 0
  refine pg_iload_n dX10_isVariable_0 rfl ?_
  refine pg_bipush dX10_isVariable_1 (show (Int8.ofInt (97)).toInt32 = (97) by decide) ?_
  refine pg_bipush dX10_isVariable_3 (show (Int8.ofInt (100)).toInt32 = (100) by decide) ?_
  refine sg_call dX10_isVariable_5 cl_X10_104 (rc_in d t 97 100) rfl rfl (Nat.le_of_ble_eq_true rfl) ⟨rfl, rfl⟩ ?_
  refine pg_if_ne (tgt := 17) dX10_isVariable_8 (by decide) (fun c8 => ?_) (fun c8 => ?_)
  ·
    refine pg_iconst dX10_isVariable_17 (show Int32.ofInt (1) = (1) by decide) ?_
    refine pg_goto (tgt := 22) dX10_isVariable_18 (by decide) ?_
    exact sg_iret hQ dX10_isVariable_22 rfl rfl (by simp_all [zB, isVar])
  ·
    refine pg_iload_n dX10_isVariable_11 rfl ?_
    refine pg_bipush dX10_isVariable_12 (show (Int8.ofInt (114)).toInt32 = (114) by decide) ?_
    refine pg_icmp_ne (tgt := 21) dX10_isVariable_14 (by decide) (fun c14 => ?_) (fun c14 => ?_)
    ·
      refine pg_iconst dX10_isVariable_21 (show Int32.ofInt (0) = (0) by decide) ?_
      exact sg_iret hQ dX10_isVariable_22 rfl rfl (by simp_all [zB, isVar])
    ·
      refine pg_iconst dX10_isVariable_17 (show Int32.ofInt (1) = (1) by decide) ?_
      refine pg_goto (tgt := 22) dX10_isVariable_18 (by decide) ?_
      exact sg_iret hQ dX10_isVariable_22 rfl rfl (by simp_all [zB, isVar])
set_option maxHeartbeats 4000000 in
set_option maxRecDepth 20000 in
theorem rc_noLearner (d : Nat) (v : Int32) : SC (d + 2) 129 [.int v] (some (.int (zB (!(decide (0 ≤ v) && decide (v ≤ 7)))))) := by
  refine SC.of pm_X10_noLearner rfl rfl (Nat.le_of_ble_eq_true rfl) ?_
  intro fx al n g Q hQ
  show pg px_tb fx (px_body pm_X10_noLearner) (pm px_tb fx (d + 1)) Q al n g 0 [.int v] [] 0 0
  refine pg_iload_n dX10_noLearner_0 rfl ?_
  refine pg_iconst dX10_noLearner_1 (show Int32.ofInt (0) = (0) by decide) ?_
  refine pg_bipush dX10_noLearner_2 (show (Int8.ofInt (7)).toInt32 = (7) by decide) ?_
  refine sg_call dX10_noLearner_4 cl_X10_104 (rc_in d v 0 7) rfl rfl (Nat.le_of_ble_eq_true rfl) ⟨rfl, rfl⟩ ?_
  refine pg_if_ne (tgt := 14) dX10_noLearner_7 (by decide) (fun c7 => ?_) (fun c7 => ?_)
  ·
    refine pg_iconst dX10_noLearner_14 (show Int32.ofInt (0) = (0) by decide) ?_
    exact sg_iret hQ dX10_noLearner_15 rfl rfl (by simp_all [zB])
  ·
    refine pg_iconst dX10_noLearner_10 (show Int32.ofInt (1) = (1) by decide) ?_
    refine pg_goto (tgt := 15) dX10_noLearner_11 (by decide) ?_
    exact sg_iret hQ dX10_noLearner_15 rfl rfl (by simp_all [zB])
set_option maxHeartbeats 4000000 in
set_option maxRecDepth 20000 in
theorem rc_placeOf (d : Nat) (i j : Int32) : SC (d + 1) 142 [.int i, .int j] (some (.int (121 * i + j))) := by
  refine SC.of pm_X10_placeOf rfl rfl (Nat.le_of_ble_eq_true rfl) ?_
  intro fx al n g Q hQ
  show pg px_tb fx (px_body pm_X10_placeOf) (pm px_tb fx (d)) Q al n g 0 [.int i, .int j] [] 0 0
  refine pg_bipush dX10_placeOf_0 (show (Int8.ofInt (121)).toInt32 = (121) by decide) ?_
  refine pg_iload_n dX10_placeOf_2 rfl ?_
  refine pg_imul dX10_placeOf_3 ?_
  refine pg_iload_n dX10_placeOf_4 rfl ?_
  refine pg_iadd dX10_placeOf_5 ?_
  exact sg_iret hQ dX10_placeOf_6 rfl rfl rfl
set_option maxHeartbeats 4000000 in
set_option maxRecDepth 20000 in
theorem rc_thrown (d : Nat) (sc : Nat → Int32) (ar : Nat → Nat → Int32) : RC (d + 1) 90 [] sc ar (some (.int (sc 0))) (sc) (ar) := by
  refine RC.of pm_X10_thrown rfl rfl (Nat.le_of_ble_eq_true rfl) ?_
  intro fx al n g0 r Q hQ
  show pr fx (px_body pm_X10_thrown) (d) Q al n g0 r sc ar 0 [.ref (al r)] []
  refine pr_aload_n dX10_thrown_0 rfl rfl ?_
  refine pr_getS (v := (sc 0)) dX10_thrown_1 fk_X10_79 rfl rfl ?_
  exact pr_iret hQ dX10_thrown_4 rfl rfl rfl rfl rfl
set_option maxHeartbeats 4000000 in
set_option maxRecDepth 20000 in
theorem rc_throwsIf (d : Nat) (sc : Nat → Int32) (ar : Nat → Nat → Int32) (b : Bool) (c : Int32) : RC (d + 1) 91 [.int (zB b), .int c] sc ar (some (.int (zB b))) (if b then upd sc 0 c else sc) (ar) := by
  refine RC.of pm_X10_throwsIf rfl rfl (Nat.le_of_ble_eq_true rfl) ?_
  intro fx al n g0 r Q hQ
  show pr fx (px_body pm_X10_throwsIf) (d) Q al n g0 r sc ar 0 [.ref (al r), .int (zB b), .int c] []
  refine pr_iload_n dX10_throwsIf_0 rfl ?_
  refine pr_if_eq (tgt := 9) dX10_throwsIf_1 (by decide) (fun c1 => ?_) (fun c1 => ?_)
  ·
    refine pr_iload_n dX10_throwsIf_9 rfl ?_
    exact pr_iret hQ dX10_throwsIf_10 rfl (zB_nar b) rfl (by simp_all [zB]) rfl
  ·
    refine pr_aload_n dX10_throwsIf_4 rfl rfl ?_
    refine pr_iload_n dX10_throwsIf_5 rfl ?_
    refine pr_put dX10_throwsIf_6 fk_X10_79 rfl ⟨_, _, _, rfl, rfl⟩ rfl rfl ?_
    refine pr_iload_n dX10_throwsIf_9 rfl ?_
    exact pr_iret hQ dX10_throwsIf_10 rfl (zB_nar b) rfl (by simp_all [zB]) rfl
set_option maxHeartbeats 4000000 in
set_option maxRecDepth 20000 in
theorem rc_fault (d : Nat) (sc : Nat → Int32) (ar : Nat → Nat → Int32) : RC (d + 1) 114 [] sc ar (some (.int (sc 7))) (upd sc 0 0) (ar) := by
  refine RC.of pm_X10_fault rfl rfl (Nat.le_of_ble_eq_true rfl) ?_
  intro fx al n g0 r Q hQ
  show pr fx (px_body pm_X10_fault) (d) Q al n g0 r sc ar 0 [.ref (al r)] []
  refine pr_aload_n dX10_fault_0 rfl rfl ?_
  refine pr_iconst dX10_fault_1 (show Int32.ofInt (0) = (0) by decide) ?_
  refine pr_put dX10_fault_2 fk_X10_79 rfl ⟨_, _, _, rfl, rfl⟩ rfl rfl ?_
  refine pr_aload_n dX10_fault_5 rfl rfl ?_
  refine pr_getS (v := (sc 7)) dX10_fault_6 fk_X10_13 rfl rfl ?_
  exact pr_iret hQ dX10_fault_9 rfl rfl rfl rfl rfl
set_option maxHeartbeats 4000000 in
set_option maxRecDepth 20000 in
theorem rc_ends (d : Nat) (sc : Nat → Int32) (ar : Nat → Nat → Int32) (h : Int32) : RC (d + 1) 116 [.int h] sc ar (none) (upd (upd sc 25 1) 24 h) (ar) := by
  refine RC.of pm_X10_ends rfl rfl (Nat.le_of_ble_eq_true rfl) ?_
  intro fx al n g0 r Q hQ
  show pr fx (px_body pm_X10_ends) (d) Q al n g0 r sc ar 0 [.ref (al r), .int h] []
  refine pr_aload_n dX10_ends_0 rfl rfl ?_
  refine pr_iconst dX10_ends_1 (show Int32.ofInt (1) = (1) by decide) ?_
  refine pr_put dX10_ends_2 fk_X10_193 rfl ⟨_, _, _, rfl, rfl⟩ rfl rfl ?_
  refine pr_aload_n dX10_ends_5 rfl rfl ?_
  refine pr_iload_n dX10_ends_6 rfl ?_
  refine pr_put dX10_ends_7 fk_X10_197 rfl ⟨_, _, _, rfl, rfl⟩ rfl rfl ?_
  exact pr_vret hQ dX10_ends_10 rfl rfl rfl rfl
set_option maxHeartbeats 4000000 in
set_option maxRecDepth 20000 in
theorem rc_noTask (d : Nat) (sc : Nat → Int32) (ar : Nat → Nat → Int32) (v : Int32) : RC (d + 2) 128 [.int v] sc ar (some (.int (zB (!(decide (0 ≤ v) && decide (v ≤ sc 30 - 1)))))) (sc) (ar) := by
  refine RC.of pm_X10_noTask rfl rfl (Nat.le_of_ble_eq_true rfl) ?_
  intro fx al n g0 r Q hQ
  show pr fx (px_body pm_X10_noTask) (d + 1) Q al n g0 r sc ar 0 [.ref (al r), .int v] []
  refine pr_iload_n dX10_noTask_0 rfl ?_
  refine pr_iconst dX10_noTask_1 (show Int32.ofInt (0) = (0) by decide) ?_
  refine pr_aload_n dX10_noTask_2 rfl rfl ?_
  refine pr_getS (v := (sc 30)) dX10_noTask_3 fk_X10_245 rfl rfl ?_
  refine pr_iconst dX10_noTask_6 (show Int32.ofInt (1) = (1) by decide) ?_
  refine pr_isub dX10_noTask_7 ?_
  refine pr_callSC dX10_noTask_8 cl_X10_104 (rc_in d v 0 (sc 30 - 1)) rfl rfl (Nat.le_of_ble_eq_true rfl) ⟨rfl, rfl⟩ ?_
  refine pr_if_ne (tgt := 18) dX10_noTask_11 (by decide) (fun c11 => ?_) (fun c11 => ?_)
  ·
    refine pr_iconst dX10_noTask_18 (show Int32.ofInt (0) = (0) by decide) ?_
    exact pr_iret hQ dX10_noTask_19 rfl rfl (by simp_all [zB]) rfl rfl
  ·
    refine pr_iconst dX10_noTask_14 (show Int32.ofInt (1) = (1) by decide) ?_
    refine pr_goto (tgt := 19) dX10_noTask_15 (by decide) ?_
    exact pr_iret hQ dX10_noTask_19 rfl rfl (by simp_all [zB]) rfl rfl
set_option maxHeartbeats 4000000 in
set_option maxRecDepth 20000 in
theorem rc_burns (d : Nat) (sc : Nat → Int32) (ar : Nat → Nat → Int32) : RC (d + 2) 117 [] sc ar (some (.int (zB (!decide (sc 22 = 1000))))) (if sc 22 = 1000 then upd (upd sc 25 1) 24 2 else upd sc 22 (sc 22 + 1)) (ar) := by
  refine RC.of pm_X10_burns rfl rfl (Nat.le_of_ble_eq_true rfl) ?_
  intro fx al n g0 r Q hQ
  show pr fx (px_body pm_X10_burns) (d + 1) Q al n g0 r sc ar 0 [.ref (al r)] []
  refine pr_aload_n dX10_burns_0 rfl rfl ?_
  refine pr_getS (v := (sc 22)) dX10_burns_1 fk_X10_200 rfl rfl ?_
  refine pr_sipush dX10_burns_4 (show (Int16.ofInt (1000)).toInt32 = (1000) by decide) ?_
  refine pr_icmp_ne (tgt := 17) dX10_burns_7 (by decide) (fun c7 => ?_) (fun c7 => ?_)
  ·
    refine pr_aload_n dX10_burns_17 rfl rfl ?_
    refine pr_dup dX10_burns_18 rfl ?_
    refine pr_getS (v := (sc 22)) dX10_burns_19 fk_X10_200 rfl rfl ?_
    refine pr_iconst dX10_burns_22 (show Int32.ofInt (1) = (1) by decide) ?_
    refine pr_iadd dX10_burns_23 ?_
    refine pr_put dX10_burns_24 fk_X10_200 rfl ⟨_, _, _, rfl, rfl⟩ rfl rfl ?_
    refine pr_iconst dX10_burns_27 (show Int32.ofInt (1) = (1) by decide) ?_
    exact pr_iret hQ dX10_burns_28 rfl rfl (by simp_all [zB]) (by simp_all) rfl
  ·
    refine pr_aload_n dX10_burns_10 rfl rfl ?_
    refine pr_iconst dX10_burns_11 (show Int32.ofInt (2) = (2) by decide) ?_
    refine pr_call dX10_burns_12 cl_X10_203 (rc_ends d sc ar 2) rfl rfl (Nat.le_of_ble_eq_true rfl) ⟨rfl, rfl⟩ ?_
    refine pr_iconst dX10_burns_15 (show Int32.ofInt (0) = (0) by decide) ?_
    exact pr_iret hQ dX10_burns_16 rfl rfl (by simp_all [zB]) (by simp_all) rfl
set_option maxHeartbeats 4000000 in
set_option maxRecDepth 20000 in
theorem rc_end (d : Nat) (sc : Nat → Int32) (ar : Nat → Nat → Int32) (v : Int32) : RC (d + 1) 94 [.int v] sc ar (some (.int (zB (decide (0 ≤ v) && decide (v ≤ sc 2))))) (if 0 ≤ v ∧ v ≤ sc 2 then upd (upd sc 0 0) 2 v else upd sc 0 0) (ar) := by
  refine RC.of pm_X10_end rfl rfl (Nat.le_of_ble_eq_true rfl) ?_
  intro fx al n g0 r Q hQ
  show pr fx (px_body pm_X10_end) (d) Q al n g0 r sc ar 0 [.ref (al r), .int v] []
  refine pr_aload_n dX10_end_0 rfl rfl ?_
  refine pr_iconst dX10_end_1 (show Int32.ofInt (0) = (0) by decide) ?_
  refine pr_put dX10_end_2 fk_X10_79 rfl ⟨_, _, _, rfl, rfl⟩ rfl rfl ?_
  refine pr_iload_n dX10_end_5 rfl ?_
  refine pr_if_lt (tgt := 17) dX10_end_6 (by decide) (fun c6 => ?_) (fun c6 => ?_)
  ·
    have c69 := Int32.not_le.mpr c6
    refine pr_iconst dX10_end_17 (show Int32.ofInt (0) = (0) by decide) ?_
    exact pr_iret hQ dX10_end_18 rfl rfl (by simp [zB, c6, c69]) (by simp [c6, c69]) rfl
  ·
    have c69 := Int32.not_lt.mp c6
    refine pr_iload_n dX10_end_9 rfl ?_
    refine pr_aload_n dX10_end_10 rfl rfl ?_
    refine pr_getS (v := (sc 2)) dX10_end_11 fk_X10_82 rfl rfl ?_
    refine pr_icmp_le (tgt := 19) dX10_end_14 (by decide) (fun c14 => ?_) (fun c14 => ?_)
    ·
      have c149 := Int32.not_lt.mpr c14
      refine pr_aload_n dX10_end_19 rfl rfl ?_
      refine pr_iload_n dX10_end_20 rfl ?_
      refine pr_put dX10_end_21 fk_X10_82 rfl ⟨_, _, _, rfl, rfl⟩ rfl rfl ?_
      refine pr_iconst dX10_end_24 (show Int32.ofInt (1) = (1) by decide) ?_
      exact pr_iret hQ dX10_end_25 rfl rfl (by simp [zB, c6, c69, c14, c149]) (by simp [c6, c69, c14, c149]) rfl
    ·
      have c149 := Int32.not_le.mp c14
      refine pr_iconst dX10_end_17 (show Int32.ofInt (0) = (0) by decide) ?_
      exact pr_iret hQ dX10_end_18 rfl rfl (by simp [zB, c6, c69, c14, c149]) (by simp [c6, c69, c14, c149]) rfl
