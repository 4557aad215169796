theorem ix_w (t W : Nat) : (3 : Int32) * (6 * nI t + nI W) = nI (3 * (6 * t + W)) := by
  rw [show (6 : Int32) * nI t + nI W = nI (6 * t + W) from ix_mul 6 t W]
  exact pk_mul 3 _
set_option maxHeartbeats 4000000 in
set_option maxRecDepth 20000 in
theorem rc_world_ok (d : Nat) (sc : Nat → Int32) (ar : Nat → Nat → Int32) {T : Nat} (hT : sc 30 = nI T) (h10 : T ≤ 10) {t W : Nat} (a b c : Int32) (ht : t < T) (hW : ar 11 t = nI W) (h6 : W < 6) : RC (d + 3) 131 [.int (nI t), .int a, .int b, .int c] sc ar (some (.int (nI W))) (upd sc 0 0) (va_up (va_up ar 12 (upd (upd (upd (ar 12) (3 * (6 * t + W)) a) (3 * (6 * t + W) + 1) b) (3 * (6 * t + W) + 2) c)) 11 (upd (ar 11) t (nI (W + 1)))) := by
  refine RC.of pm_X10_world rfl rfl (Nat.le_of_ble_eq_true rfl) ?_
  intro fx al n g0 r Q hQ
  show pr fx (px_body pm_X10_world) (d + 2) Q al n g0 r sc ar 0 [.ref (al r), .int (nI t), .int a, .int b, .int c, .float 0] []
  have h9 : ¬ nI W = 6 := fun z => by have := (nI_eq (a := W) (b := 6) (by omega) (by omega)).mp z; omega
  refine pr_aload_n dX10_world_0 rfl rfl ?_
  refine pr_iconst dX10_world_1 (show Int32.ofInt (0) = (0) by decide) ?_
  refine pr_put dX10_world_2 fk_X10_79 rfl ⟨_, _, _, rfl, rfl⟩ rfl rfl ?_
  refine pr_aload_n dX10_world_5 rfl rfl ?_
  refine pr_aload_n dX10_world_6 rfl rfl ?_
  refine pr_iload_n dX10_world_7 rfl ?_
  refine pr_call dX10_world_8 cl_X10_248 (rc_noTask_f d (sc := upd sc 0 0) ar (T := T) hT h10 ht) rfl rfl (Nat.le_of_ble_eq_true rfl) ⟨rfl, rfl⟩ ?_
  refine pr_iconst dX10_world_11 (show Int32.ofInt (1) = (1) by decide) ?_
  refine pr_call dX10_world_12 cl_X10_180 (rc_throwsIf_f _ _ _ _) rfl rfl (Nat.le_of_ble_eq_true rfl) ⟨rfl, rfl⟩ ?_
  refine pr_if_eq (tgt := 20) dX10_world_15 (by decide) (fun _ => ?_) (fun c15 => absurd c15 (by decide))
  refine pr_aload_n dX10_world_20 rfl rfl ?_
  refine pr_getA dX10_world_21 fk_X10_49 rfl ?_
  refine pr_iload_n dX10_world_24 rfl ?_
  refine pr_iald (j := t) dX10_world_25 (by decide) rfl rfl (by show t < 10; omega) rfl ?_
  rw [hW]
  refine pr_bipush dX10_world_26 (show (Int8.ofInt (6)).toInt32 = (6) by decide) ?_
  refine pr_icmp_ne (tgt := 33) dX10_world_28 (by decide) (fun c28 => ?_) (fun c28 => absurd c28 h9)
  refine pr_iconst dX10_world_33 (show Int32.ofInt (3) = (3) by decide) ?_
  refine pr_bipush dX10_world_34 (show (Int8.ofInt (6)).toInt32 = (6) by decide) ?_
  refine pr_iload_n dX10_world_36 rfl ?_
  refine pr_imul dX10_world_37 ?_
  refine pr_aload_n dX10_world_38 rfl rfl ?_
  refine pr_getA dX10_world_39 fk_X10_49 rfl ?_
  refine pr_iload_n dX10_world_42 rfl ?_
  refine pr_iald (j := t) dX10_world_43 (by decide) rfl rfl (by show t < 10; omega) rfl ?_
  rw [hW]
  refine pr_iadd dX10_world_44 ?_
  refine pr_imul dX10_world_45 ?_
  rw [ix_w]
  refine pr_istore dX10_world_46 (Nat.le_of_ble_eq_true rfl) ?_
  refine pr_aload_n dX10_world_48 rfl rfl ?_
  refine pr_getA dX10_world_49 fk_X10_52 rfl ?_
  refine pr_iload dX10_world_52 rfl ?_
  refine pr_iload_n dX10_world_54 rfl ?_
  refine pr_iast (j := 3 * (6 * t + W)) dX10_world_55 (by decide) rfl rfl (by show 3 * (6 * t + W) < 180; omega) ?_
  refine pr_aload_n dX10_world_56 rfl rfl ?_
  refine pr_getA dX10_world_57 fk_X10_52 rfl ?_
  refine pr_iload dX10_world_60 rfl ?_
  refine pr_iconst dX10_world_62 (show Int32.ofInt (1) = (1) by decide) ?_
  refine pr_iadd dX10_world_63 ?_
  refine pr_iload_n dX10_world_64 rfl ?_
  refine pr_iast (j := 3 * (6 * t + W) + 1) dX10_world_65 (by decide) rfl (nI_1 _) (by show 3 * (6 * t + W) + 1 < 180; omega) ?_
  refine pr_aload_n dX10_world_66 rfl rfl ?_
  refine pr_getA dX10_world_67 fk_X10_52 rfl ?_
  refine pr_iload dX10_world_70 rfl ?_
  refine pr_iconst dX10_world_72 (show Int32.ofInt (2) = (2) by decide) ?_
  refine pr_iadd dX10_world_73 ?_
  refine pr_iload dX10_world_74 rfl ?_
  refine pr_iast (j := 3 * (6 * t + W) + 2) dX10_world_76 (by decide) rfl (nI_add _ 2) (by show 3 * (6 * t + W) + 2 < 180; omega) ?_
  refine pr_aload_n dX10_world_77 rfl rfl ?_
  refine pr_getA dX10_world_78 fk_X10_49 rfl ?_
  refine pr_iload_n dX10_world_81 rfl ?_
  refine pr_dup2 dX10_world_82 rfl rfl ?_
  refine pr_iald (j := t) dX10_world_83 (by decide) rfl rfl (by show t < 10; omega) rfl ?_
  refine pr_iconst dX10_world_84 (show Int32.ofInt (1) = (1) by decide) ?_
  
  refine pr_iadd dX10_world_85 ?_
  rw [show (va_up (va_up (va_up ar 12 (upd (ar 12) (3 * (6 * t + W)) a)) 12 _) 12 _) 11 t + 1 = nI (W + 1) from (congrArg (fun z => z + 1) hW).trans (nI_1 W)]
  refine pr_iast (j := t) dX10_world_86 (by decide) rfl rfl (by show t < 10; omega) ?_
  refine pr_aload_n dX10_world_87 rfl rfl ?_
  refine pr_getA dX10_world_88 fk_X10_49 rfl ?_
  refine pr_iload_n dX10_world_91 rfl ?_
  refine pr_iald (j := t) dX10_world_92 (by decide) rfl rfl (by show t < 10; omega) rfl ?_
  rw [show (va_up _ 11 (upd _ t (nI (W + 1)))) 11 t = nI (W + 1) from (congrFun (va_up_self _ _ _) t).trans pk_us]
  refine pr_iconst dX10_world_93 (show Int32.ofInt (1) = (1) by decide) ?_
  refine pr_isub dX10_world_94 ?_
  rw [show nI (W + 1) - 1 = nI W from nI_pred W]
  exact pr_iret hQ dX10_world_95 rfl rfl rfl rfl (by funext a9; by_cases e1 : a9 = 11 <;> by_cases e2 : a9 = 12 <;> simp_all [va_up])
set_option maxHeartbeats 4000000 in
set_option maxRecDepth 20000 in
theorem rc_world_full (d : Nat) (sc : Nat → Int32) (ar : Nat → Nat → Int32) {T : Nat} (hT : sc 30 = nI T) (h10 : T ≤ 10) {t : Nat} (a b c : Int32) (ht : t < T) (hW : ar 11 t = 6) : RC (d + 3) 131 [.int (nI t), .int a, .int b, .int c] sc ar (some (.int (-1))) (upd sc 0 0) (ar) := by
  refine RC.of pm_X10_world rfl rfl (Nat.le_of_ble_eq_true rfl) ?_
  intro fx al n g0 r Q hQ
  show pr fx (px_body pm_X10_world) (d + 2) Q al n g0 r sc ar 0 [.ref (al r), .int (nI t), .int a, .int b, .int c, .float 0] []
  refine pr_aload_n dX10_world_0 rfl rfl ?_
  refine pr_iconst dX10_world_1 (show Int32.ofInt (0) = (0) by decide) ?_
  refine pr_put dX10_world_2 fk_X10_79 rfl ⟨_, _, _, rfl, rfl⟩ rfl rfl ?_
  refine pr_aload_n dX10_world_5 rfl rfl ?_
  refine pr_aload_n dX10_world_6 rfl rfl ?_
  refine pr_iload_n dX10_world_7 rfl ?_
  refine pr_call dX10_world_8 cl_X10_248 (rc_noTask_f d (sc := upd sc 0 0) ar (T := T) hT h10 ht) rfl rfl (Nat.le_of_ble_eq_true rfl) ⟨rfl, rfl⟩ ?_
  refine pr_iconst dX10_world_11 (show Int32.ofInt (1) = (1) by decide) ?_
  refine pr_call dX10_world_12 cl_X10_180 (rc_throwsIf_f _ _ _ _) rfl rfl (Nat.le_of_ble_eq_true rfl) ⟨rfl, rfl⟩ ?_
  refine pr_if_eq (tgt := 20) dX10_world_15 (by decide) (fun _ => ?_) (fun c15 => absurd c15 (by decide))
  refine pr_aload_n dX10_world_20 rfl rfl ?_
  refine pr_getA dX10_world_21 fk_X10_49 rfl ?_
  refine pr_iload_n dX10_world_24 rfl ?_
  refine pr_iald (j := t) dX10_world_25 (by decide) rfl rfl (by show t < 10; omega) rfl ?_
  rw [hW]
  refine pr_bipush dX10_world_26 (show (Int8.ofInt (6)).toInt32 = (6) by decide) ?_
  refine pr_icmp_ne (tgt := 33) dX10_world_28 (by decide) (fun c28 => absurd rfl c28) (fun c28 => ?_)
  refine pr_iconst dX10_world_31 (show Int32.ofInt (-1) = (-1) by decide) ?_
  exact pr_iret hQ dX10_world_32 rfl rfl rfl rfl rfl
set_option maxHeartbeats 4000000 in
set_option maxRecDepth 20000 in
theorem rc_world_bad (d : Nat) (sc : Nat → Int32) (ar : Nat → Nat → Int32) {t : Int32} (a b c : Int32) (ht : ¬ (0 ≤ t ∧ t ≤ sc 30 - 1)) : RC (d + 3) 131 [.int t, .int a, .int b, .int c] sc ar (some (.int 0)) (upd (upd sc 0 0) 0 1) (ar) := by
  refine RC.of pm_X10_world rfl rfl (Nat.le_of_ble_eq_true rfl) ?_
  intro fx al n g0 r Q hQ
  show pr fx (px_body pm_X10_world) (d + 2) Q al n g0 r sc ar 0 [.ref (al r), .int t, .int a, .int b, .int c, .float 0] []
  refine pr_aload_n dX10_world_0 rfl rfl ?_
  refine pr_iconst dX10_world_1 (show Int32.ofInt (0) = (0) by decide) ?_
  refine pr_put dX10_world_2 fk_X10_79 rfl ⟨_, _, _, rfl, rfl⟩ rfl rfl ?_
  refine pr_aload_n dX10_world_5 rfl rfl ?_
  refine pr_aload_n dX10_world_6 rfl rfl ?_
  refine pr_iload_n dX10_world_7 rfl ?_
  refine pr_call dX10_world_8 cl_X10_248 (rc_noTask_t d (sc := upd sc 0 0) ar ht) rfl rfl (Nat.le_of_ble_eq_true rfl) ⟨rfl, rfl⟩ ?_
  refine pr_iconst dX10_world_11 (show Int32.ofInt (1) = (1) by decide) ?_
  refine pr_call dX10_world_12 cl_X10_180 (rc_throwsIf_t _ _ _ _) rfl rfl (Nat.le_of_ble_eq_true rfl) ⟨rfl, rfl⟩ ?_
  refine pr_if_eq (tgt := 20) dX10_world_15 (by decide) (fun c15 => absurd c15 (by decide)) (fun _ => ?_)
  refine pr_iconst dX10_world_18 (show Int32.ofInt (0) = (0) by decide) ?_
  exact pr_iret hQ dX10_world_19 rfl rfl rfl rfl rfl
set_option maxHeartbeats 4000000 in
set_option maxRecDepth 20000 in
theorem rc_count0 (d : Nat) (sc : Nat → Int32) (ar : Nat → Nat → Int32) : RC (d + 1) 147 [.int 0] sc ar (some (.int (sc 30))) (upd sc 0 0) (ar) := by
  refine RC.of pm_X10_count rfl rfl (Nat.le_of_ble_eq_true rfl) ?_
  intro fx al n g0 r Q hQ
  show pr fx (px_body pm_X10_count) (d) Q al n g0 r sc ar 0 [.ref (al r), .int 0] []
  refine pr_aload_n dX10_count_0 rfl rfl ?_
  refine pr_iconst dX10_count_1 (show Int32.ofInt (0) = (0) by decide) ?_
  refine pr_put dX10_count_2 fk_X10_79 rfl ⟨_, _, _, rfl, rfl⟩ rfl rfl ?_
  refine pr_iload_n dX10_count_5 rfl ?_
  refine pr_tableIn (off := 34) (tgt := 40) dX10_count_6 (by decide) (by decide) (by decide) (by decide) ?_
  refine pr_aload_n dX10_count_40 rfl rfl ?_
  refine pr_getS (v := (sc 30)) dX10_count_41 fk_X10_245 rfl rfl ?_
  exact pr_iret hQ dX10_count_44 rfl rfl rfl rfl rfl
set_option maxHeartbeats 4000000 in
set_option maxRecDepth 20000 in
theorem rc_count1 (d : Nat) (sc : Nat → Int32) (ar : Nat → Nat → Int32) : RC (d + 1) 147 [.int 1] sc ar (some (.int (sc 16))) (upd sc 0 0) (ar) := by
  refine RC.of pm_X10_count rfl rfl (Nat.le_of_ble_eq_true rfl) ?_
  intro fx al n g0 r Q hQ
  show pr fx (px_body pm_X10_count) (d) Q al n g0 r sc ar 0 [.ref (al r), .int 1] []
  refine pr_aload_n dX10_count_0 rfl rfl ?_
  refine pr_iconst dX10_count_1 (show Int32.ofInt (0) = (0) by decide) ?_
  refine pr_put dX10_count_2 fk_X10_79 rfl ⟨_, _, _, rfl, rfl⟩ rfl rfl ?_
  refine pr_iload_n dX10_count_5 rfl ?_
  refine pr_tableIn (off := 39) (tgt := 45) dX10_count_6 (by decide) (by decide) (by decide) (by decide) ?_
  refine pr_aload_n dX10_count_45 rfl rfl ?_
  refine pr_getS (v := (sc 16)) dX10_count_46 fk_X10_184 rfl rfl ?_
  exact pr_iret hQ dX10_count_49 rfl rfl rfl rfl rfl
set_option maxHeartbeats 4000000 in
set_option maxRecDepth 20000 in
theorem rc_count2 (d : Nat) (sc : Nat → Int32) (ar : Nat → Nat → Int32) : RC (d + 1) 147 [.int 2] sc ar (some (.int (sc 17))) (upd sc 0 0) (ar) := by
  refine RC.of pm_X10_count rfl rfl (Nat.le_of_ble_eq_true rfl) ?_
  intro fx al n g0 r Q hQ
  show pr fx (px_body pm_X10_count) (d) Q al n g0 r sc ar 0 [.ref (al r), .int 2] []
  refine pr_aload_n dX10_count_0 rfl rfl ?_
  refine pr_iconst dX10_count_1 (show Int32.ofInt (0) = (0) by decide) ?_
  refine pr_put dX10_count_2 fk_X10_79 rfl ⟨_, _, _, rfl, rfl⟩ rfl rfl ?_
  refine pr_iload_n dX10_count_5 rfl ?_
  refine pr_tableIn (off := 44) (tgt := 50) dX10_count_6 (by decide) (by decide) (by decide) (by decide) ?_
  refine pr_aload_n dX10_count_50 rfl rfl ?_
  refine pr_getS (v := (sc 17)) dX10_count_51 fk_X10_187 rfl rfl ?_
  exact pr_iret hQ dX10_count_54 rfl rfl rfl rfl rfl
set_option maxHeartbeats 4000000 in
set_option maxRecDepth 20000 in
theorem rc_count3 (d : Nat) (sc : Nat → Int32) (ar : Nat → Nat → Int32) : RC (d + 1) 147 [.int 3] sc ar (some (.int (sc 31))) (upd sc 0 0) (ar) := by
  refine RC.of pm_X10_count rfl rfl (Nat.le_of_ble_eq_true rfl) ?_
  intro fx al n g0 r Q hQ
  show pr fx (px_body pm_X10_count) (d) Q al n g0 r sc ar 0 [.ref (al r), .int 3] []
  refine pr_aload_n dX10_count_0 rfl rfl ?_
  refine pr_iconst dX10_count_1 (show Int32.ofInt (0) = (0) by decide) ?_
  refine pr_put dX10_count_2 fk_X10_79 rfl ⟨_, _, _, rfl, rfl⟩ rfl rfl ?_
  refine pr_iload_n dX10_count_5 rfl ?_
  refine pr_tableIn (off := 49) (tgt := 55) dX10_count_6 (by decide) (by decide) (by decide) (by decide) ?_
  refine pr_aload_n dX10_count_55 rfl rfl ?_
  refine pr_getS (v := (sc 31)) dX10_count_56 fk_X10_261 rfl rfl ?_
  exact pr_iret hQ dX10_count_59 rfl rfl rfl rfl rfl
set_option maxHeartbeats 4000000 in
set_option maxRecDepth 20000 in
theorem rc_count4 (d : Nat) (sc : Nat → Int32) (ar : Nat → Nat → Int32) : RC (d + 1) 147 [.int 4] sc ar (some (.int (sc 32))) (upd sc 0 0) (ar) := by
  refine RC.of pm_X10_count rfl rfl (Nat.le_of_ble_eq_true rfl) ?_
  intro fx al n g0 r Q hQ
  show pr fx (px_body pm_X10_count) (d) Q al n g0 r sc ar 0 [.ref (al r), .int 4] []
  refine pr_aload_n dX10_count_0 rfl rfl ?_
  refine pr_iconst dX10_count_1 (show Int32.ofInt (0) = (0) by decide) ?_
  refine pr_put dX10_count_2 fk_X10_79 rfl ⟨_, _, _, rfl, rfl⟩ rfl rfl ?_
  refine pr_iload_n dX10_count_5 rfl ?_
  refine pr_tableIn (off := 54) (tgt := 60) dX10_count_6 (by decide) (by decide) (by decide) (by decide) ?_
  refine pr_aload_n dX10_count_60 rfl rfl ?_
  refine pr_getS (v := (sc 32)) dX10_count_61 fk_X10_264 rfl rfl ?_
  exact pr_iret hQ dX10_count_64 rfl rfl rfl rfl rfl
set_option maxHeartbeats 4000000 in
set_option maxRecDepth 20000 in
theorem rc_count_no (d : Nat) (sc : Nat → Int32) (ar : Nat → Nat → Int32) {w : Int32} (h : w.toInt < 0 ∨ 4 < w.toInt) : RC (d + 1) 147 [.int w] sc ar (some (.int (-1))) (upd sc 0 0) (ar) := by
  refine RC.of pm_X10_count rfl rfl (Nat.le_of_ble_eq_true rfl) ?_
  intro fx al n g0 r Q hQ
  show pr fx (px_body pm_X10_count) (d) Q al n g0 r sc ar 0 [.ref (al r), .int w] []
  refine pr_aload_n dX10_count_0 rfl rfl ?_
  refine pr_iconst dX10_count_1 (show Int32.ofInt (0) = (0) by decide) ?_
  refine pr_put dX10_count_2 fk_X10_79 rfl ⟨_, _, _, rfl, rfl⟩ rfl rfl ?_
  refine pr_iload_n dX10_count_5 rfl ?_
  refine pr_tableOut (tgt := 65) dX10_count_6 h (by decide) ?_
  refine pr_iconst dX10_count_65 (show Int32.ofInt (-1) = (-1) by decide) ?_
  exact pr_iret hQ dX10_count_66 rfl rfl rfl rfl rfl
/-- how many learners passed -/
def rPass (pmy : Nat → Int32) (t : Nat) : Nat → Int32
  | 0 => 0
  | k + 1 => rPass pmy t k + (if 0 < pmy (10 * k + t) then 1 else 0)
set_option maxHeartbeats 4000000 in
set_option maxRecDepth 20000 in
theorem rc_look0 (d : Nat) (sc : Nat → Int32) (ar : Nat → Nat → Int32) {T : Nat} (hT : sc 30 = nI T) (h10 : T ≤ 10) {t : Nat} (ht : t < T) : RC (d + 3) 141 [.int (nI t), .int 0] sc ar (some (.int (ar 9 t))) (upd sc 0 0) (ar) := by
  refine RC.of pm_X10_look_ rfl rfl (Nat.le_of_ble_eq_true rfl) ?_
  intro fx al n g0 r Q hQ
  show pr fx (px_body pm_X10_look_) (d + 2) Q al n g0 r sc ar 0 [.ref (al r), .int (nI t), .int 0, .float 0, .float 0] []
  refine pr_aload_n dX10_look__0 rfl rfl ?_
  refine pr_iconst dX10_look__1 (show Int32.ofInt (0) = (0) by decide) ?_
  refine pr_put dX10_look__2 fk_X10_79 rfl ⟨_, _, _, rfl, rfl⟩ rfl rfl ?_
  refine pr_aload_n dX10_look__5 rfl rfl ?_
  refine pr_aload_n dX10_look__6 rfl rfl ?_
  refine pr_iload_n dX10_look__7 rfl ?_
  refine pr_call dX10_look__8 cl_X10_248 (rc_noTask_f d (sc := upd sc 0 0) ar (T := T) hT h10 ht) rfl rfl (Nat.le_of_ble_eq_true rfl) ⟨rfl, rfl⟩ ?_
  refine pr_iconst dX10_look__11 (show Int32.ofInt (1) = (1) by decide) ?_
  refine pr_call dX10_look__12 cl_X10_180 (rc_throwsIf_f _ _ _ _) rfl rfl (Nat.le_of_ble_eq_true rfl) ⟨rfl, rfl⟩ ?_
  refine pr_if_eq (tgt := 20) dX10_look__15 (by decide) (fun _ => ?_) (fun c15 => absurd c15 (by decide))
  refine pr_iload_n dX10_look__20 rfl ?_
  refine pr_tableIn (off := 35) (tgt := 56) dX10_look__21 (by decide) (by decide) (by decide) (by decide) ?_
  refine pr_aload_n dX10_look__56 rfl rfl ?_
  refine pr_getA dX10_look__57 fk_X10_43 rfl ?_
  refine pr_iload_n dX10_look__60 rfl ?_
  refine pr_iald (j := t) dX10_look__61 (by decide) rfl rfl (by show t < 10; omega) rfl ?_
  exact pr_iret hQ dX10_look__62 rfl rfl rfl rfl rfl
set_option maxHeartbeats 4000000 in
set_option maxRecDepth 20000 in
theorem rc_look1 (d : Nat) (sc : Nat → Int32) (ar : Nat → Nat → Int32) {T : Nat} (hT : sc 30 = nI T) (h10 : T ≤ 10) {t : Nat} (ht : t < T) : RC (d + 3) 141 [.int (nI t), .int 1] sc ar (some (.int (ar 10 t))) (upd sc 0 0) (ar) := by
  refine RC.of pm_X10_look_ rfl rfl (Nat.le_of_ble_eq_true rfl) ?_
  intro fx al n g0 r Q hQ
  show pr fx (px_body pm_X10_look_) (d + 2) Q al n g0 r sc ar 0 [.ref (al r), .int (nI t), .int 1, .float 0, .float 0] []
  refine pr_aload_n dX10_look__0 rfl rfl ?_
  refine pr_iconst dX10_look__1 (show Int32.ofInt (0) = (0) by decide) ?_
  refine pr_put dX10_look__2 fk_X10_79 rfl ⟨_, _, _, rfl, rfl⟩ rfl rfl ?_
  refine pr_aload_n dX10_look__5 rfl rfl ?_
  refine pr_aload_n dX10_look__6 rfl rfl ?_
  refine pr_iload_n dX10_look__7 rfl ?_
  refine pr_call dX10_look__8 cl_X10_248 (rc_noTask_f d (sc := upd sc 0 0) ar (T := T) hT h10 ht) rfl rfl (Nat.le_of_ble_eq_true rfl) ⟨rfl, rfl⟩ ?_
  refine pr_iconst dX10_look__11 (show Int32.ofInt (1) = (1) by decide) ?_
  refine pr_call dX10_look__12 cl_X10_180 (rc_throwsIf_f _ _ _ _) rfl rfl (Nat.le_of_ble_eq_true rfl) ⟨rfl, rfl⟩ ?_
  refine pr_if_eq (tgt := 20) dX10_look__15 (by decide) (fun _ => ?_) (fun c15 => absurd c15 (by decide))
  refine pr_iload_n dX10_look__20 rfl ?_
  refine pr_tableIn (off := 42) (tgt := 63) dX10_look__21 (by decide) (by decide) (by decide) (by decide) ?_
  refine pr_aload_n dX10_look__63 rfl rfl ?_
  refine pr_getA dX10_look__64 fk_X10_46 rfl ?_
  refine pr_iload_n dX10_look__67 rfl ?_
  refine pr_iald (j := t) dX10_look__68 (by decide) rfl rfl (by show t < 10; omega) rfl ?_
  exact pr_iret hQ dX10_look__69 rfl rfl rfl rfl rfl
set_option maxHeartbeats 4000000 in
set_option maxRecDepth 20000 in
theorem rc_look2 (d : Nat) (sc : Nat → Int32) (ar : Nat → Nat → Int32) {T : Nat} (hT : sc 30 = nI T) (h10 : T ≤ 10) {t : Nat} (ht : t < T) : RC (d + 3) 141 [.int (nI t), .int 2] sc ar (some (.int (ar 11 t))) (upd sc 0 0) (ar) := by
  refine RC.of pm_X10_look_ rfl rfl (Nat.le_of_ble_eq_true rfl) ?_
  intro fx al n g0 r Q hQ
  show pr fx (px_body pm_X10_look_) (d + 2) Q al n g0 r sc ar 0 [.ref (al r), .int (nI t), .int 2, .float 0, .float 0] []
  refine pr_aload_n dX10_look__0 rfl rfl ?_
  refine pr_iconst dX10_look__1 (show Int32.ofInt (0) = (0) by decide) ?_
  refine pr_put dX10_look__2 fk_X10_79 rfl ⟨_, _, _, rfl, rfl⟩ rfl rfl ?_
  refine pr_aload_n dX10_look__5 rfl rfl ?_
  refine pr_aload_n dX10_look__6 rfl rfl ?_
  refine pr_iload_n dX10_look__7 rfl ?_
  refine pr_call dX10_look__8 cl_X10_248 (rc_noTask_f d (sc := upd sc 0 0) ar (T := T) hT h10 ht) rfl rfl (Nat.le_of_ble_eq_true rfl) ⟨rfl, rfl⟩ ?_
  refine pr_iconst dX10_look__11 (show Int32.ofInt (1) = (1) by decide) ?_
  refine pr_call dX10_look__12 cl_X10_180 (rc_throwsIf_f _ _ _ _) rfl rfl (Nat.le_of_ble_eq_true rfl) ⟨rfl, rfl⟩ ?_
  refine pr_if_eq (tgt := 20) dX10_look__15 (by decide) (fun _ => ?_) (fun c15 => absurd c15 (by decide))
  refine pr_iload_n dX10_look__20 rfl ?_
  refine pr_tableIn (off := 49) (tgt := 70) dX10_look__21 (by decide) (by decide) (by decide) (by decide) ?_
  refine pr_aload_n dX10_look__70 rfl rfl ?_
  refine pr_getA dX10_look__71 fk_X10_49 rfl ?_
  refine pr_iload_n dX10_look__74 rfl ?_
  refine pr_iald (j := t) dX10_look__75 (by decide) rfl rfl (by show t < 10; omega) rfl ?_
  exact pr_iret hQ dX10_look__76 rfl rfl rfl rfl rfl
set_option maxHeartbeats 4000000 in
set_option maxRecDepth 20000 in
theorem rc_look3 (d : Nat) (sc : Nat → Int32) (ar : Nat → Nat → Int32) {T : Nat} (hT : sc 30 = nI T) (h10 : T ≤ 10) {t : Nat} (ht : t < T) : RC (d + 3) 141 [.int (nI t), .int 3] sc ar (some (.int (ar 13 t))) (upd sc 0 0) (ar) := by
  refine RC.of pm_X10_look_ rfl rfl (Nat.le_of_ble_eq_true rfl) ?_
  intro fx al n g0 r Q hQ
  show pr fx (px_body pm_X10_look_) (d + 2) Q al n g0 r sc ar 0 [.ref (al r), .int (nI t), .int 3, .float 0, .float 0] []
  refine pr_aload_n dX10_look__0 rfl rfl ?_
  refine pr_iconst dX10_look__1 (show Int32.ofInt (0) = (0) by decide) ?_
  refine pr_put dX10_look__2 fk_X10_79 rfl ⟨_, _, _, rfl, rfl⟩ rfl rfl ?_
  refine pr_aload_n dX10_look__5 rfl rfl ?_
  refine pr_aload_n dX10_look__6 rfl rfl ?_
  refine pr_iload_n dX10_look__7 rfl ?_
  refine pr_call dX10_look__8 cl_X10_248 (rc_noTask_f d (sc := upd sc 0 0) ar (T := T) hT h10 ht) rfl rfl (Nat.le_of_ble_eq_true rfl) ⟨rfl, rfl⟩ ?_
  refine pr_iconst dX10_look__11 (show Int32.ofInt (1) = (1) by decide) ?_
  refine pr_call dX10_look__12 cl_X10_180 (rc_throwsIf_f _ _ _ _) rfl rfl (Nat.le_of_ble_eq_true rfl) ⟨rfl, rfl⟩ ?_
  refine pr_if_eq (tgt := 20) dX10_look__15 (by decide) (fun _ => ?_) (fun c15 => absurd c15 (by decide))
  refine pr_iload_n dX10_look__20 rfl ?_
  refine pr_tableIn (off := 56) (tgt := 77) dX10_look__21 (by decide) (by decide) (by decide) (by decide) ?_
  refine pr_aload_n dX10_look__77 rfl rfl ?_
  refine pr_getA dX10_look__78 fk_X10_55 rfl ?_
  refine pr_iload_n dX10_look__81 rfl ?_
  refine pr_iald (j := t) dX10_look__82 (by decide) rfl rfl (by show t < 10; omega) rfl ?_
  exact pr_iret hQ dX10_look__83 rfl rfl rfl rfl rfl
set_option maxHeartbeats 4000000 in
set_option maxRecDepth 20000 in
theorem rl_look4 {fx : px_F} {dd : Nat} {Q : px_Q} {al : Nat → Nat} {n : Nat} {g0 : Nat → px_O} {r : Nat} {sc : Nat → Int32} {ar : Nat → Nat → Int32} {t : Nat} (ht : t < 10) (hQ : ∀ g2, RR al n g2 r sc ar → rf_fr r g0 g2 → Q (.inl (some (.int (rPass (ar 16) t 8)))) al n g2) : ∀ (m k : Nat), k + m = 8 → pr fx (px_body pm_X10_look_) dd Q al n g0 r sc ar 89 [.ref (al r), .int (nI t), .int 4, .int (rPass (ar 16) t k), .int (nI k)] []
  | 0, k, hk => by
    obtain rfl : k = 8 := by omega
    refine pr_iload dX10_look__89 rfl ?_
    refine pr_bipush dX10_look__91 (show (Int8.ofInt (8)).toInt32 = (8) by decide) ?_
    refine pr_icmp_ge (tgt := 125) dX10_look__93 (by decide) (fun c93 => ?_) (fun c93 => absurd (show (8 : Int32) ≤ nI 8 by decide) c93)
    refine pr_iload_n dX10_look__125 rfl ?_
    exact pr_iret hQ dX10_look__126 rfl rfl rfl rfl rfl
  | m + 1, k, hk => by
    have ih := rl_look4 (fx := fx) (dd := dd) ht hQ m (k + 1) (by omega)
    refine pr_iload dX10_look__89 rfl ?_
    refine pr_bipush dX10_look__91 (show (Int8.ofInt (8)).toInt32 = (8) by decide) ?_
    refine pr_icmp_ge (tgt := 125) dX10_look__93 (by decide) (fun c93 => absurd c93 (nI_ge (a := k) (b := 8) (by omega) (by decide))) (fun c93 => ?_)
    refine pr_iload_n dX10_look__96 rfl ?_
    refine pr_aload_n dX10_look__97 rfl rfl ?_
    refine pr_getA dX10_look__98 fk_X10_64 rfl ?_
    refine pr_bipush dX10_look__101 (show (Int8.ofInt (10)).toInt32 = (10) by decide) ?_
    refine pr_iload dX10_look__103 rfl ?_
    refine pr_imul dX10_look__105 ?_
    refine pr_iload_n dX10_look__106 rfl ?_
    refine pr_iadd dX10_look__107 ?_
    refine pr_iald (j := 10 * k + t) dX10_look__108 (by decide) rfl (ix_mul 10 k t) (by show 10 * k + t < 80; omega) rfl ?_
    refine pr_if_le (tgt := 116) dX10_look__109 (by decide) (fun c109 => ?_) (fun c109 => ?_)
    ·
      have c1099 := Int32.not_lt.mpr c109
      refine pr_iconst dX10_look__116 (show Int32.ofInt (0) = (0) by decide) ?_
      refine pr_iadd dX10_look__117 ?_
      refine pr_istore_n dX10_look__118 (Nat.le_of_ble_eq_true rfl) ?_
      refine pr_iinc dX10_look__119 rfl (show Int32.ofInt (1) = (1) by decide) ?_
      refine pr_goto (tgt := 89) dX10_look__122 (by decide) ?_
      rw [nI_1]
      rw [rPass] at ih
      first | (rw [if_pos (by simpa [Int32.not_le] using c109)] at ih; exact ih) | (rw [if_neg (by simpa [Int32.not_lt] using c109)] at ih; exact ih)
    ·
      have c1099 := Int32.not_le.mp c109
      refine pr_iconst dX10_look__112 (show Int32.ofInt (1) = (1) by decide) ?_
      refine pr_goto (tgt := 117) dX10_look__113 (by decide) ?_
      refine pr_iadd dX10_look__117 ?_
      refine pr_istore_n dX10_look__118 (Nat.le_of_ble_eq_true rfl) ?_
      refine pr_iinc dX10_look__119 rfl (show Int32.ofInt (1) = (1) by decide) ?_
      refine pr_goto (tgt := 89) dX10_look__122 (by decide) ?_
      rw [nI_1]
      rw [rPass] at ih
      first | (rw [if_pos (by simpa [Int32.not_le] using c109)] at ih; exact ih) | (rw [if_neg (by simpa [Int32.not_lt] using c109)] at ih; exact ih)
set_option maxHeartbeats 4000000 in
set_option maxRecDepth 20000 in
theorem rc_look4 (d : Nat) (sc : Nat → Int32) (ar : Nat → Nat → Int32) {T : Nat} (hT : sc 30 = nI T) (h10 : T ≤ 10) {t : Nat} (ht : t < T) : RC (d + 3) 141 [.int (nI t), .int 4] sc ar (some (.int (rPass (ar 16) t 8))) (upd sc 0 0) (ar) := by
  refine RC.of pm_X10_look_ rfl rfl (Nat.le_of_ble_eq_true rfl) ?_
  intro fx al n g0 r Q hQ
  show pr fx (px_body pm_X10_look_) (d + 2) Q al n g0 r sc ar 0 [.ref (al r), .int (nI t), .int 4, .float 0, .float 0] []
  refine pr_aload_n dX10_look__0 rfl rfl ?_
  refine pr_iconst dX10_look__1 (show Int32.ofInt (0) = (0) by decide) ?_
  refine pr_put dX10_look__2 fk_X10_79 rfl ⟨_, _, _, rfl, rfl⟩ rfl rfl ?_
  refine pr_aload_n dX10_look__5 rfl rfl ?_
  refine pr_aload_n dX10_look__6 rfl rfl ?_
  refine pr_iload_n dX10_look__7 rfl ?_
  refine pr_call dX10_look__8 cl_X10_248 (rc_noTask_f d (sc := upd sc 0 0) ar (T := T) hT h10 ht) rfl rfl (Nat.le_of_ble_eq_true rfl) ⟨rfl, rfl⟩ ?_
  refine pr_iconst dX10_look__11 (show Int32.ofInt (1) = (1) by decide) ?_
  refine pr_call dX10_look__12 cl_X10_180 (rc_throwsIf_f _ _ _ _) rfl rfl (Nat.le_of_ble_eq_true rfl) ⟨rfl, rfl⟩ ?_
  refine pr_if_eq (tgt := 20) dX10_look__15 (by decide) (fun _ => ?_) (fun c15 => absurd c15 (by decide))
  refine pr_iload_n dX10_look__20 rfl ?_
  refine pr_tableIn (off := 63) (tgt := 84) dX10_look__21 (by decide) (by decide) (by decide) (by decide) ?_
  refine pr_iconst dX10_look__84 (show Int32.ofInt (0) = (0) by decide) ?_
  refine pr_istore_n dX10_look__85 (Nat.le_of_ble_eq_true rfl) ?_
  refine pr_iconst dX10_look__86 (show Int32.ofInt (0) = (0) by decide) ?_
  refine pr_istore dX10_look__87 (Nat.le_of_ble_eq_true rfl) ?_
  exact rl_look4 (by omega) hQ 8 0 rfl
set_option maxHeartbeats 4000000 in
set_option maxRecDepth 20000 in
theorem rc_look_no (d : Nat) (sc : Nat → Int32) (ar : Nat → Nat → Int32) {T : Nat} (hT : sc 30 = nI T) (h10 : T ≤ 10) {t : Nat} {w : Int32} (ht : t < T) (hw : w.toInt < 0 ∨ 4 < w.toInt) : RC (d + 3) 141 [.int (nI t), .int w] sc ar (some (.int 0)) (upd (upd sc 0 0) 0 2) (ar) := by
  refine RC.of pm_X10_look_ rfl rfl (Nat.le_of_ble_eq_true rfl) ?_
  intro fx al n g0 r Q hQ
  show pr fx (px_body pm_X10_look_) (d + 2) Q al n g0 r sc ar 0 [.ref (al r), .int (nI t), .int w, .float 0, .float 0] []
  refine pr_aload_n dX10_look__0 rfl rfl ?_
  refine pr_iconst dX10_look__1 (show Int32.ofInt (0) = (0) by decide) ?_
  refine pr_put dX10_look__2 fk_X10_79 rfl ⟨_, _, _, rfl, rfl⟩ rfl rfl ?_
  refine pr_aload_n dX10_look__5 rfl rfl ?_
  refine pr_aload_n dX10_look__6 rfl rfl ?_
  refine pr_iload_n dX10_look__7 rfl ?_
  refine pr_call dX10_look__8 cl_X10_248 (rc_noTask_f d (sc := upd sc 0 0) ar (T := T) hT h10 ht) rfl rfl (Nat.le_of_ble_eq_true rfl) ⟨rfl, rfl⟩ ?_
  refine pr_iconst dX10_look__11 (show Int32.ofInt (1) = (1) by decide) ?_
  refine pr_call dX10_look__12 cl_X10_180 (rc_throwsIf_f _ _ _ _) rfl rfl (Nat.le_of_ble_eq_true rfl) ⟨rfl, rfl⟩ ?_
  refine pr_if_eq (tgt := 20) dX10_look__15 (by decide) (fun _ => ?_) (fun c15 => absurd c15 (by decide))
  refine pr_iload_n dX10_look__20 rfl ?_
  refine pr_tableOut (tgt := 127) dX10_look__21 hw (by decide) ?_
  refine pr_aload_n dX10_look__127 rfl rfl ?_
  refine pr_iconst dX10_look__128 (show Int32.ofInt (2) = (2) by decide) ?_
  refine pr_put dX10_look__129 fk_X10_79 rfl ⟨_, _, _, rfl, rfl⟩ rfl rfl ?_
  refine pr_iconst dX10_look__132 (show Int32.ofInt (0) = (0) by decide) ?_
  exact pr_iret hQ dX10_look__133 rfl rfl rfl rfl rfl
set_option maxHeartbeats 4000000 in
set_option maxRecDepth 20000 in
theorem rc_look_bad (d : Nat) (sc : Nat → Int32) (ar : Nat → Nat → Int32) {t : Int32} (w : Int32) (ht : ¬ (0 ≤ t ∧ t ≤ sc 30 - 1)) : RC (d + 3) 141 [.int t, .int w] sc ar (some (.int 0)) (upd (upd sc 0 0) 0 1) (ar) := by
  refine RC.of pm_X10_look_ rfl rfl (Nat.le_of_ble_eq_true rfl) ?_
  intro fx al n g0 r Q hQ
  show pr fx (px_body pm_X10_look_) (d + 2) Q al n g0 r sc ar 0 [.ref (al r), .int t, .int w, .float 0, .float 0] []
  refine pr_aload_n dX10_look__0 rfl rfl ?_
  refine pr_iconst dX10_look__1 (show Int32.ofInt (0) = (0) by decide) ?_
  refine pr_put dX10_look__2 fk_X10_79 rfl ⟨_, _, _, rfl, rfl⟩ rfl rfl ?_
  refine pr_aload_n dX10_look__5 rfl rfl ?_
  refine pr_aload_n dX10_look__6 rfl rfl ?_
  refine pr_iload_n dX10_look__7 rfl ?_
  refine pr_call dX10_look__8 cl_X10_248 (rc_noTask_t d (sc := upd sc 0 0) ar ht) rfl rfl (Nat.le_of_ble_eq_true rfl) ⟨rfl, rfl⟩ ?_
  refine pr_iconst dX10_look__11 (show Int32.ofInt (1) = (1) by decide) ?_
  refine pr_call dX10_look__12 cl_X10_180 (rc_throwsIf_t _ _ _ _) rfl rfl (Nat.le_of_ble_eq_true rfl) ⟨rfl, rfl⟩ ?_
  refine pr_if_eq (tgt := 20) dX10_look__15 (by decide) (fun c15 => absurd c15 (by decide)) (fun _ => ?_)
  refine pr_iconst dX10_look__18 (show Int32.ofInt (0) = (0) by decide) ?_
  exact pr_iret hQ dX10_look__19 rfl rfl rfl rfl rfl
