set_option maxHeartbeats 4000000 in
set_option maxRecDepth 20000 in
theorem kp_task_bad1 {fx : px_F} {d : Nat} {Q : px_Q} {al : Nat → Nat} {n : Nat} {g0 : Nat → px_O} {sc ar : Nat → Nat → Int32} {sl : Value} {tf : Nat → Option Nat} {nd : Int32} (sh : Int32) (h1 : ¬ (0 ≤ nd ∧ nd < 256)) (hQ : kq Q (.inr "java/lang/IllegalArgumentException") al (n) (g0) (sc) (ar) (sl) (tf)) : kp fx (d + 2) 67 [.ref (al 0), .int nd, .int sh] Q al n (g0) (sc) (ar) (sl) (tf) := by
  refine kp.of pm_X9_task rfl rfl (Nat.le_of_ble_eq_true rfl) ?_
  show pk fx (px_body pm_X9_task) (d + 1) Q al (n) (g0) (sc) (ar) (sl) (tf) 0 [.ref (al 0), .int nd, .int sh] [] 0 0
  refine pk_iload_n dX9_task_0 rfl ?_
  refine pk_kS (As := [.int nd]) dX9_task_1 cl_X9_118 rfl rfl (Nat.le_of_ble_eq_true rfl) (Nat.le_of_ble_eq_true rfl) (Nat.le_of_ble_eq_true rfl) ?_
  refine kp_isSet (d := d) (kq_aft ?_)
  have e1 : (decide (0 ≤ nd) && decide (nd < 256)) = false := by
    cases z : (decide (0 ≤ nd) && decide (nd < 256))
    · rfl
    · rw [Bool.and_eq_true] at z
      exact absurd ⟨of_decide_eq_true z.1, of_decide_eq_true z.2⟩ h1
  rw [e1]
  refine pk_if_eq (tgt := 14) dX9_task_4 (by decide) (fun _ => ?_) (fun c4 => absurd c4 (by decide))
  exact pk_throwS dX9_task_14 dX9_task_17 dX9_task_18 dX9_task_20 dX9_task_23 th_X9_76_122 rfl (Nat.le_of_ble_eq_true rfl) (Nat.le_of_ble_eq_true rfl) (Nat.le_of_ble_eq_true rfl) hQ
set_option maxHeartbeats 4000000 in
set_option maxRecDepth 20000 in
theorem kp_task_bad2 {fx : px_F} {d : Nat} {Q : px_Q} {al : Nat → Nat} {n : Nat} {g0 : Nat → px_O} {sc ar : Nat → Nat → Int32} {sl : Value} {tf : Nat → Option Nat} {nd sh : Int32} (h1 : 0 ≤ nd ∧ nd < 256) (h2 : ¬ (0 ≤ sh ∧ sh < 256)) (hQ : kq Q (.inr "java/lang/IllegalArgumentException") al (n) (g0) (sc) (ar) (sl) (tf)) : kp fx (d + 2) 67 [.ref (al 0), .int nd, .int sh] Q al n (g0) (sc) (ar) (sl) (tf) := by
  refine kp.of pm_X9_task rfl rfl (Nat.le_of_ble_eq_true rfl) ?_
  show pk fx (px_body pm_X9_task) (d + 1) Q al (n) (g0) (sc) (ar) (sl) (tf) 0 [.ref (al 0), .int nd, .int sh] [] 0 0
  refine pk_iload_n dX9_task_0 rfl ?_
  refine pk_kS (As := [.int nd]) dX9_task_1 cl_X9_118 rfl rfl (Nat.le_of_ble_eq_true rfl) (Nat.le_of_ble_eq_true rfl) (Nat.le_of_ble_eq_true rfl) ?_
  refine kp_isSet (d := d) (kq_aft ?_)
  rw [decide_eq_true (show 0 ≤ nd from h1.1), decide_eq_true (show nd < 256 from h1.2)]
  refine pk_if_eq (tgt := 14) dX9_task_4 (by decide) (fun c4 => absurd c4 (by decide)) (fun _ => ?_)
  refine pk_iload_n dX9_task_7 rfl ?_
  refine pk_kS (As := [.int sh]) dX9_task_8 cl_X9_118 rfl rfl (Nat.le_of_ble_eq_true rfl) (Nat.le_of_ble_eq_true rfl) (Nat.le_of_ble_eq_true rfl) ?_
  refine kp_isSet (d := d) (kq_aft ?_)
  have e2 : (decide (0 ≤ sh) && decide (sh < 256)) = false := by
    cases z : (decide (0 ≤ sh) && decide (sh < 256))
    · rfl
    · rw [Bool.and_eq_true] at z
      exact absurd ⟨of_decide_eq_true z.1, of_decide_eq_true z.2⟩ h2
  rw [e2]
  refine pk_if_ne (tgt := 24) dX9_task_11 (by decide) (fun c11 => absurd c11 (by decide)) (fun _ => ?_)
  exact pk_throwS dX9_task_14 dX9_task_17 dX9_task_18 dX9_task_20 dX9_task_23 th_X9_76_122 rfl (Nat.le_of_ble_eq_true rfl) (Nat.le_of_ble_eq_true rfl) (Nat.le_of_ble_eq_true rfl) hQ
set_option maxHeartbeats 4000000 in
set_option maxRecDepth 20000 in
theorem kp_task_full {fx : px_F} {d : Nat} {Q : px_Q} {al : Nat → Nat} {n : Nat} {g0 : Nat → px_O} {sc ar : Nat → Nat → Int32} {sl : Value} {tf : Nat → Option Nat} {nd sh : Int32} (h1 : 0 ≤ nd ∧ nd < 256) (h2 : 0 ≤ sh ∧ sh < 256) (hT : sc 0 9 = 10) (hQ : kq Q (.inr "java/lang/UnsupportedOperationException") al (n) (g0) (sc) (ar) (sl) (tf)) : kp fx (d + 2) 67 [.ref (al 0), .int nd, .int sh] Q al n (g0) (sc) (ar) (sl) (tf) := by
  refine kp.of pm_X9_task rfl rfl (Nat.le_of_ble_eq_true rfl) ?_
  show pk fx (px_body pm_X9_task) (d + 1) Q al (n) (g0) (sc) (ar) (sl) (tf) 0 [.ref (al 0), .int nd, .int sh] [] 0 0
  refine pk_iload_n dX9_task_0 rfl ?_
  refine pk_kS (As := [.int nd]) dX9_task_1 cl_X9_118 rfl rfl (Nat.le_of_ble_eq_true rfl) (Nat.le_of_ble_eq_true rfl) (Nat.le_of_ble_eq_true rfl) ?_
  refine kp_isSet (d := d) (kq_aft ?_)
  rw [decide_eq_true (show 0 ≤ nd from h1.1), decide_eq_true (show nd < 256 from h1.2)]
  refine pk_if_eq (tgt := 14) dX9_task_4 (by decide) (fun c4 => absurd c4 (by decide)) (fun _ => ?_)
  refine pk_iload_n dX9_task_7 rfl ?_
  refine pk_kS (As := [.int sh]) dX9_task_8 cl_X9_118 rfl rfl (Nat.le_of_ble_eq_true rfl) (Nat.le_of_ble_eq_true rfl) (Nat.le_of_ble_eq_true rfl) ?_
  refine kp_isSet (d := d) (kq_aft ?_)
  rw [decide_eq_true (show 0 ≤ sh from h2.1), decide_eq_true (show sh < 256 from h2.2)]
  refine pk_if_ne (tgt := 24) dX9_task_11 (by decide) (fun _ => ?_) (fun c11 => absurd c11 (by decide))
  refine pk_aload_n dX9_task_24 rfl rfl ?_
  refine pk_getS (c := 0) (v := (10)) dX9_task_25 fk_X9_124 (by decide) rfl rfl hT ?_
  refine pk_bipush dX9_task_28 (show (Int8.ofInt (10)).toInt32 = (10) by decide) ?_
  refine pk_icmp_lt (tgt := 43) dX9_task_30 (by decide) (fun c30 => absurd c30 (by decide)) (fun c30 => ?_)
  exact pk_throwS dX9_task_33 dX9_task_36 dX9_task_37 dX9_task_39 dX9_task_42 th_X9_127_129 rfl (Nat.le_of_ble_eq_true rfl) (Nat.le_of_ble_eq_true rfl) (Nat.le_of_ble_eq_true rfl) hQ
set_option maxHeartbeats 4000000 in
set_option maxRecDepth 20000 in
theorem kp_task_ok {fx : px_F} {d : Nat} {Q : px_Q} {al : Nat → Nat} {n : Nat} {g0 : Nat → px_O} {sc ar : Nat → Nat → Int32} {sl : Value} {tf : Nat → Option Nat} {nd sh : Int32} (h1 : 0 ≤ nd ∧ nd < 256) (h2 : 0 ≤ sh ∧ sh < 256) {TT : Nat} (hT : sc 0 9 = nI TT) (hTT : TT < 10) (hn36 : 36 ≤ n) (hQ : ∀ (al2 : Nat → Nat) (g2 : Nat → px_O), (∀ j, j < n → al2 j = al j) → TK al2 (n + 6) g2 n nd sh 0 0 (fun _ => 0) (fun _ => 0) (fun _ => 0) (fun _ => none) (fun _ => none) → (∀ k, k < n → g2 k = g0 k) → kq Q (.inl (some (.int (nI TT)))) al2 (n + 6) (g2) (up2 sc 0 9 (nI (TT + 1))) (ar) (sl) (va_up tf TT (some (al2 n)))) : kp fx (d + 2) 67 [.ref (al 0), .int nd, .int sh] Q al n (g0) (sc) (ar) (sl) (tf) := by
  refine kp.of pm_X9_task rfl rfl (Nat.le_of_ble_eq_true rfl) ?_
  show pk fx (px_body pm_X9_task) (d + 1) Q al (n) (g0) (sc) (ar) (sl) (tf) 0 [.ref (al 0), .int nd, .int sh] [] 0 0
  refine pk_iload_n dX9_task_0 rfl ?_
  refine pk_kS (As := [.int nd]) dX9_task_1 cl_X9_118 rfl rfl (Nat.le_of_ble_eq_true rfl) (Nat.le_of_ble_eq_true rfl) (Nat.le_of_ble_eq_true rfl) ?_
  refine kp_isSet (d := d) (kq_aft ?_)
  rw [decide_eq_true (show 0 ≤ nd from h1.1), decide_eq_true (show nd < 256 from h1.2)]
  refine pk_if_eq (tgt := 14) dX9_task_4 (by decide) (fun c4 => absurd c4 (by decide)) (fun _ => ?_)
  refine pk_iload_n dX9_task_7 rfl ?_
  refine pk_kS (As := [.int sh]) dX9_task_8 cl_X9_118 rfl rfl (Nat.le_of_ble_eq_true rfl) (Nat.le_of_ble_eq_true rfl) (Nat.le_of_ble_eq_true rfl) ?_
  refine kp_isSet (d := d) (kq_aft ?_)
  rw [decide_eq_true (show 0 ≤ sh from h2.1), decide_eq_true (show sh < 256 from h2.2)]
  refine pk_if_ne (tgt := 24) dX9_task_11 (by decide) (fun _ => ?_) (fun c11 => absurd c11 (by decide))
  refine pk_aload_n dX9_task_24 rfl rfl ?_
  refine pk_getS (c := 0) (v := (nI TT)) dX9_task_25 fk_X9_124 (by decide) rfl rfl hT ?_
  refine pk_bipush dX9_task_28 (show (Int8.ofInt (10)).toInt32 = (10) by decide) ?_
  refine pk_icmp_lt (tgt := 43) dX9_task_30 (by decide) (fun c30 => ?_) (fun c30 => absurd (nI_lt (b := 10) hTT (by decide)) c30)
  refine pk_aload_n dX9_task_43 rfl rfl ?_
  refine pk_getR (c := 0) (d := 18) dX9_task_44 fk_X9_46 (by decide) rfl rfl ?_
  refine pk_aload_n dX9_task_47 rfl rfl ?_
  refine pk_getS (c := 0) (v := (nI TT)) dX9_task_48 fk_X9_124 (by decide) rfl rfl hT ?_
  refine pk_new dX9_task_51 nw_X9_44 (Nat.le_of_ble_eq_true rfl) (Nat.le_of_ble_eq_true rfl) (fun a1 ha1 => ?_)
  rw [← ha1 0 (by omega), ← ha1 18 (by omega)]
  refine pk_dup dX9_task_54 rfl ?_
  refine pk_iload_n dX9_task_55 rfl ?_
  refine pk_iload_n dX9_task_56 rfl ?_
  refine pk_kIN (j := n) (As := [.int nd, .int sh]) dX9_task_57 cl_X9_132 rfl rfl (Nat.le_of_ble_eq_true rfl) (Nat.le_of_ble_eq_true rfl) (Nat.le_of_ble_eq_true rfl) ?_
  refine kp_taskInit (d := d) (T := n) hn36 rfl (va_up_self _ _ _) nd sh (fun a2 g2 ha2 hK hg => kq_aftN ?_)
  rw [← ha2 0 (by omega), ← ha2 18 (by omega), ← ha2 n (by omega)]
  obtain ⟨p1, p2, ⟨f, q0, _⟩, _⟩ := id hK
  refine pk_tfast (j := TT) dX9_task_60 p1 (by omega) q0 rfl hTT ?_
  refine pk_aload_n dX9_task_61 rfl rfl ?_
  refine pk_dup dX9_task_62 rfl ?_
  refine pk_getS (c := 0) (v := (nI TT)) dX9_task_63 fk_X9_124 (by decide) rfl rfl hT ?_
  refine pk_iconst dX9_task_66 (show Int32.ofInt (1) = (1) by decide) ?_
  refine pk_iadd dX9_task_67 ?_
  rw [nI_1]
  refine pk_put (c := 0) dX9_task_68 fk_X9_124 (by decide) rfl rfl ⟨_, _, _, rfl, rfl⟩ rfl rfl ?_
  refine pk_aload_n dX9_task_71 rfl rfl ?_
  refine pk_getS (c := 0) (v := (nI (TT + 1))) dX9_task_72 fk_X9_124 (by decide) rfl rfl rfl ?_
  refine pk_iconst dX9_task_75 (show Int32.ofInt (1) = (1) by decide) ?_
  refine pk_isub dX9_task_76 ?_
  rw [show nI (TT + 1) - 1 = nI TT from pr1 (J := TT + 1) (by omega)]
  exact pk_iret dX9_task_77 rfl rfl (Nat.le_of_ble_eq_true rfl) (Nat.le_of_ble_eq_true rfl) (hQ a2 g2 (fun j hj => (ha2 j (by omega)).trans (ha1 j hj)) hK (fun k hk => (hg k hk).trans (va_up_ne _ _ (by omega))))
set_option maxHeartbeats 4000000 in
set_option maxRecDepth 20000 in
theorem kp_run0 {fx : px_F} {d : Nat} {Q : px_Q} {al : Nat → Nat} {n : Nat} {g0 : Nat → px_O} {sc ar : Nat → Nat → Int32} {tf : Nat → Option Nat} {P m L : Nat} {S O A : Nat → Int32} {bd : Bool} (hP : PG al n g0 P m L S O A bd) (hK : POK m L S O A) (a b : Int32) (hQ : ∀ sc2 ar2, MF sc ar sc2 ar2 → kq Q (.inl (some (.int (runA (runC m S a b) 0)))) al (n) (g0) (sc2) (ar2) (.ref (al P)) (tf)) : kp fx (d + 8) 66 [.ref (al 0), .int a, .int b, .int 0] Q al n (g0) (sc) (ar) (.ref (al P)) (tf) := by
  refine kp.of pm_X9_run rfl rfl (Nat.le_of_ble_eq_true rfl) ?_
  show pk fx (px_body pm_X9_run) (d + 7) Q al (n) (g0) (sc) (ar) (.ref (al P)) (tf) 0 [.ref (al 0), .int a, .int b, .int 0, .float 0] [] 0 0
  refine pk_aload_n dX9_run_0 rfl rfl ?_
  refine pk_kV (c := 0) (As := []) dX9_run_1 cl_X9_94 (by decide) rfl rfl rfl (Nat.le_of_ble_eq_true rfl) (Nat.le_of_ble_eq_true rfl) (Nat.le_of_ble_eq_true rfl) ?_
  refine kp_slate_ok (d := d + 6) (kq_aft ?_)
  refine pk_astore dX9_run_4 (Nat.le_of_ble_eq_true rfl) rfl ?_
  refine pk_iload_n dX9_run_6 rfl ?_
  refine pk_iconst dX9_run_7 (show Int32.ofInt (3) = (3) by decide) ?_
  refine pk_kS (As := [.int 0, .int 3]) dX9_run_8 cl_X9_98 rfl rfl (Nat.le_of_ble_eq_true rfl) (Nat.le_of_ble_eq_true rfl) (Nat.le_of_ble_eq_true rfl) ?_
  refine kp_checkWhat_ok (d := d + 6) (by decide) (kq_aft ?_)
  refine pk_aload_n dX9_run_11 rfl rfl ?_
  refine pk_getR (c := 0) (d := 9) dX9_run_12 fk_X9_26 (by decide) rfl rfl ?_
  refine pk_aload dX9_run_15 rfl rfl ?_
  refine pk_iload_n dX9_run_17 rfl ?_
  refine pk_iload_n dX9_run_18 rfl ?_
  refine pk_callN (c := 9) (As := fun al => [.ref (al P), .int a, .int b]) dX9_run_19 cl_X9_102 (by decide) rfl (cp_execute (d + 1) _ _ _ tf hK a b) (fun g hF => hP.fr hF) rfl rfl (Nat.le_of_ble_eq_true rfl) ⟨rfl, rfl⟩ (Nat.le_of_ble_eq_true rfl) (Nat.le_of_ble_eq_true rfl) (fun res sc2 ar2 hn => ?_)
  obtain ⟨rfl, hM⟩ := hn
  refine pk_iload_n dX9_run_22 rfl ?_
  refine pk_tableIn (tgt := 48) dX9_run_23 (by decide) (by decide) rfl (by decide) ?_
  refine pk_aload_n dX9_run_48 rfl rfl ?_
  refine pk_getR (c := 0) (d := 9) dX9_run_49 fk_X9_26 (by decide) rfl rfl ?_
  refine pk_getSN (c := 9) (v := (nI (runC m S a b).1)) dX9_run_52 fk_X9_106 (by decide) rfl rfl hM.2.2.2.2.1 ?_
  refine pk_iret dX9_run_55 rfl rfl (Nat.le_of_ble_eq_true rfl) (Nat.le_of_ble_eq_true rfl) (hQ _ _ hM.1)
set_option maxHeartbeats 4000000 in
set_option maxRecDepth 20000 in
theorem kp_run1 {fx : px_F} {d : Nat} {Q : px_Q} {al : Nat → Nat} {n : Nat} {g0 : Nat → px_O} {sc ar : Nat → Nat → Int32} {tf : Nat → Option Nat} {P m L : Nat} {S O A : Nat → Int32} {bd : Bool} (hP : PG al n g0 P m L S O A bd) (hK : POK m L S O A) (a b : Int32) (hQ : ∀ sc2 ar2, MF sc ar sc2 ar2 → kq Q (.inl (some (.int (runA (runC m S a b) 1)))) al (n) (g0) (sc2) (ar2) (.ref (al P)) (tf)) : kp fx (d + 8) 66 [.ref (al 0), .int a, .int b, .int 1] Q al n (g0) (sc) (ar) (.ref (al P)) (tf) := by
  refine kp.of pm_X9_run rfl rfl (Nat.le_of_ble_eq_true rfl) ?_
  show pk fx (px_body pm_X9_run) (d + 7) Q al (n) (g0) (sc) (ar) (.ref (al P)) (tf) 0 [.ref (al 0), .int a, .int b, .int 1, .float 0] [] 0 0
  refine pk_aload_n dX9_run_0 rfl rfl ?_
  refine pk_kV (c := 0) (As := []) dX9_run_1 cl_X9_94 (by decide) rfl rfl rfl (Nat.le_of_ble_eq_true rfl) (Nat.le_of_ble_eq_true rfl) (Nat.le_of_ble_eq_true rfl) ?_
  refine kp_slate_ok (d := d + 6) (kq_aft ?_)
  refine pk_astore dX9_run_4 (Nat.le_of_ble_eq_true rfl) rfl ?_
  refine pk_iload_n dX9_run_6 rfl ?_
  refine pk_iconst dX9_run_7 (show Int32.ofInt (3) = (3) by decide) ?_
  refine pk_kS (As := [.int 1, .int 3]) dX9_run_8 cl_X9_98 rfl rfl (Nat.le_of_ble_eq_true rfl) (Nat.le_of_ble_eq_true rfl) (Nat.le_of_ble_eq_true rfl) ?_
  refine kp_checkWhat_ok (d := d + 6) (by decide) (kq_aft ?_)
  refine pk_aload_n dX9_run_11 rfl rfl ?_
  refine pk_getR (c := 0) (d := 9) dX9_run_12 fk_X9_26 (by decide) rfl rfl ?_
  refine pk_aload dX9_run_15 rfl rfl ?_
  refine pk_iload_n dX9_run_17 rfl ?_
  refine pk_iload_n dX9_run_18 rfl ?_
  refine pk_callN (c := 9) (As := fun al => [.ref (al P), .int a, .int b]) dX9_run_19 cl_X9_102 (by decide) rfl (cp_execute (d + 1) _ _ _ tf hK a b) (fun g hF => hP.fr hF) rfl rfl (Nat.le_of_ble_eq_true rfl) ⟨rfl, rfl⟩ (Nat.le_of_ble_eq_true rfl) (Nat.le_of_ble_eq_true rfl) (fun res sc2 ar2 hn => ?_)
  obtain ⟨rfl, hM⟩ := hn
  refine pk_iload_n dX9_run_22 rfl ?_
  refine pk_tableIn (tgt := 56) dX9_run_23 (by decide) (by decide) rfl (by decide) ?_
  refine pk_aload_n dX9_run_56 rfl rfl ?_
  refine pk_getR (c := 0) (d := 9) dX9_run_57 fk_X9_26 (by decide) rfl rfl ?_
  refine pk_callN (c := 9) (As := fun al => []) dX9_run_60 cl_X9_109 (by decide) rfl (cp_result (d + 6) _ _ _ tf) (fun _ _ => trivial) rfl rfl (Nat.le_of_ble_eq_true rfl) ⟨rfl, rfl⟩ (Nat.le_of_ble_eq_true rfl) (Nat.le_of_ble_eq_true rfl) (fun res3 sc3 ar3 hn3 => ?_)
  obtain ⟨rfl, rfl, rfl⟩ := hn3
  refine pk_iret dX9_run_63 rfl rfl (Nat.le_of_ble_eq_true rfl) (Nat.le_of_ble_eq_true rfl) ?_
  rw [hM.2.1.2.2.2.2]
  exact hQ _ _ hM.1
set_option maxHeartbeats 4000000 in
set_option maxRecDepth 20000 in
theorem kp_run2 {fx : px_F} {d : Nat} {Q : px_Q} {al : Nat → Nat} {n : Nat} {g0 : Nat → px_O} {sc ar : Nat → Nat → Int32} {tf : Nat → Option Nat} {P m L : Nat} {S O A : Nat → Int32} {bd : Bool} (hP : PG al n g0 P m L S O A bd) (hK : POK m L S O A) (a b : Int32) (hQ : ∀ sc2 ar2, MF sc ar sc2 ar2 → kq Q (.inl (some (.int (runA (runC m S a b) 2)))) al (n) (g0) (sc2) (ar2) (.ref (al P)) (tf)) : kp fx (d + 8) 66 [.ref (al 0), .int a, .int b, .int 2] Q al n (g0) (sc) (ar) (.ref (al P)) (tf) := by
  refine kp.of pm_X9_run rfl rfl (Nat.le_of_ble_eq_true rfl) ?_
  show pk fx (px_body pm_X9_run) (d + 7) Q al (n) (g0) (sc) (ar) (.ref (al P)) (tf) 0 [.ref (al 0), .int a, .int b, .int 2, .float 0] [] 0 0
  refine pk_aload_n dX9_run_0 rfl rfl ?_
  refine pk_kV (c := 0) (As := []) dX9_run_1 cl_X9_94 (by decide) rfl rfl rfl (Nat.le_of_ble_eq_true rfl) (Nat.le_of_ble_eq_true rfl) (Nat.le_of_ble_eq_true rfl) ?_
  refine kp_slate_ok (d := d + 6) (kq_aft ?_)
  refine pk_astore dX9_run_4 (Nat.le_of_ble_eq_true rfl) rfl ?_
  refine pk_iload_n dX9_run_6 rfl ?_
  refine pk_iconst dX9_run_7 (show Int32.ofInt (3) = (3) by decide) ?_
  refine pk_kS (As := [.int 2, .int 3]) dX9_run_8 cl_X9_98 rfl rfl (Nat.le_of_ble_eq_true rfl) (Nat.le_of_ble_eq_true rfl) (Nat.le_of_ble_eq_true rfl) ?_
  refine kp_checkWhat_ok (d := d + 6) (by decide) (kq_aft ?_)
  refine pk_aload_n dX9_run_11 rfl rfl ?_
  refine pk_getR (c := 0) (d := 9) dX9_run_12 fk_X9_26 (by decide) rfl rfl ?_
  refine pk_aload dX9_run_15 rfl rfl ?_
  refine pk_iload_n dX9_run_17 rfl ?_
  refine pk_iload_n dX9_run_18 rfl ?_
  refine pk_callN (c := 9) (As := fun al => [.ref (al P), .int a, .int b]) dX9_run_19 cl_X9_102 (by decide) rfl (cp_execute (d + 1) _ _ _ tf hK a b) (fun g hF => hP.fr hF) rfl rfl (Nat.le_of_ble_eq_true rfl) ⟨rfl, rfl⟩ (Nat.le_of_ble_eq_true rfl) (Nat.le_of_ble_eq_true rfl) (fun res sc2 ar2 hn => ?_)
  obtain ⟨rfl, hM⟩ := hn
  refine pk_iload_n dX9_run_22 rfl ?_
  refine pk_tableIn (tgt := 64) dX9_run_23 (by decide) (by decide) rfl (by decide) ?_
  refine pk_aload_n dX9_run_64 rfl rfl ?_
  refine pk_getR (c := 0) (d := 9) dX9_run_65 fk_X9_26 (by decide) rfl rfl ?_
  refine pk_getSN (c := 9) (v := (nI (runC m S a b).2.2.1)) dX9_run_68 fk_X9_112 (by decide) rfl rfl hM.2.2.1 ?_
  refine pk_iret dX9_run_71 rfl rfl (Nat.le_of_ble_eq_true rfl) (Nat.le_of_ble_eq_true rfl) (hQ _ _ hM.1)
set_option maxHeartbeats 4000000 in
set_option maxRecDepth 20000 in
theorem kp_run3 {fx : px_F} {d : Nat} {Q : px_Q} {al : Nat → Nat} {n : Nat} {g0 : Nat → px_O} {sc ar : Nat → Nat → Int32} {tf : Nat → Option Nat} {P m L : Nat} {S O A : Nat → Int32} {bd : Bool} (hP : PG al n g0 P m L S O A bd) (hK : POK m L S O A) (a b : Int32) (hQ : ∀ sc2 ar2, MF sc ar sc2 ar2 → kq Q (.inl (some (.int (runA (runC m S a b) 3)))) al (n) (g0) (sc2) (ar2) (.ref (al P)) (tf)) : kp fx (d + 8) 66 [.ref (al 0), .int a, .int b, .int 3] Q al n (g0) (sc) (ar) (.ref (al P)) (tf) := by
  refine kp.of pm_X9_run rfl rfl (Nat.le_of_ble_eq_true rfl) ?_
  show pk fx (px_body pm_X9_run) (d + 7) Q al (n) (g0) (sc) (ar) (.ref (al P)) (tf) 0 [.ref (al 0), .int a, .int b, .int 3, .float 0] [] 0 0
  refine pk_aload_n dX9_run_0 rfl rfl ?_
  refine pk_kV (c := 0) (As := []) dX9_run_1 cl_X9_94 (by decide) rfl rfl rfl (Nat.le_of_ble_eq_true rfl) (Nat.le_of_ble_eq_true rfl) (Nat.le_of_ble_eq_true rfl) ?_
  refine kp_slate_ok (d := d + 6) (kq_aft ?_)
  refine pk_astore dX9_run_4 (Nat.le_of_ble_eq_true rfl) rfl ?_
  refine pk_iload_n dX9_run_6 rfl ?_
  refine pk_iconst dX9_run_7 (show Int32.ofInt (3) = (3) by decide) ?_
  refine pk_kS (As := [.int 3, .int 3]) dX9_run_8 cl_X9_98 rfl rfl (Nat.le_of_ble_eq_true rfl) (Nat.le_of_ble_eq_true rfl) (Nat.le_of_ble_eq_true rfl) ?_
  refine kp_checkWhat_ok (d := d + 6) (by decide) (kq_aft ?_)
  refine pk_aload_n dX9_run_11 rfl rfl ?_
  refine pk_getR (c := 0) (d := 9) dX9_run_12 fk_X9_26 (by decide) rfl rfl ?_
  refine pk_aload dX9_run_15 rfl rfl ?_
  refine pk_iload_n dX9_run_17 rfl ?_
  refine pk_iload_n dX9_run_18 rfl ?_
  refine pk_callN (c := 9) (As := fun al => [.ref (al P), .int a, .int b]) dX9_run_19 cl_X9_102 (by decide) rfl (cp_execute (d + 1) _ _ _ tf hK a b) (fun g hF => hP.fr hF) rfl rfl (Nat.le_of_ble_eq_true rfl) ⟨rfl, rfl⟩ (Nat.le_of_ble_eq_true rfl) (Nat.le_of_ble_eq_true rfl) (fun res sc2 ar2 hn => ?_)
  obtain ⟨rfl, hM⟩ := hn
  refine pk_iload_n dX9_run_22 rfl ?_
  refine pk_tableOut (tgt := 72) dX9_run_23 (by decide) (by decide) ?_
  refine pk_aload_n dX9_run_72 rfl rfl ?_
  refine pk_getR (c := 0) (d := 9) dX9_run_73 fk_X9_26 (by decide) rfl rfl ?_
  refine pk_getSN (c := 9) (v := ((runC m S a b).2.2.2)) dX9_run_76 fk_X9_115 (by decide) rfl rfl hM.2.2.2.1 ?_
  refine pk_iret dX9_run_79 rfl rfl (Nat.le_of_ble_eq_true rfl) (Nat.le_of_ble_eq_true rfl) (hQ _ _ hM.1)
set_option maxHeartbeats 4000000 in
set_option maxRecDepth 20000 in
theorem kp_run_null {fx : px_F} {d : Nat} {Q : px_Q} {al : Nat → Nat} {n : Nat} {g0 : Nat → px_O} {sc ar : Nat → Nat → Int32} {tf : Nat → Option Nat} (a b q : Int32) (hQ : kq Q (.inr "java/lang/IllegalStateException") al (n) (g0) (sc) (ar) (.null) (tf)) : kp fx (d + 2) 66 [.ref (al 0), .int a, .int b, .int q] Q al n (g0) (sc) (ar) (.null) (tf) := by
  refine kp.of pm_X9_run rfl rfl (Nat.le_of_ble_eq_true rfl) ?_
  show pk fx (px_body pm_X9_run) (d + 1) Q al (n) (g0) (sc) (ar) (.null) (tf) 0 [.ref (al 0), .int a, .int b, .int q, .float 0] [] 0 0
  refine pk_aload_n dX9_run_0 rfl rfl ?_
  refine pk_kV (c := 0) (As := []) dX9_run_1 cl_X9_94 (by decide) rfl rfl rfl (Nat.le_of_ble_eq_true rfl) (Nat.le_of_ble_eq_true rfl) (Nat.le_of_ble_eq_true rfl) ?_
  exact kp_slate_bad (d := d) (kq_exc rfl hQ)
set_option maxHeartbeats 4000000 in
set_option maxRecDepth 20000 in
theorem kp_run_bad {fx : px_F} {d : Nat} {Q : px_Q} {al : Nat → Nat} {n : Nat} {g0 : Nat → px_O} {sc ar : Nat → Nat → Int32} {tf : Nat → Option Nat} {P : Nat} (a b : Int32) {q : Int32} (hw : ¬ (0 ≤ q ∧ q ≤ 3)) (hQ : kq Q (.inr "java/util/NoSuchElementException") al (n) (g0) (sc) (ar) (.ref (al P)) (tf)) : kp fx (d + 2) 66 [.ref (al 0), .int a, .int b, .int q] Q al n (g0) (sc) (ar) (.ref (al P)) (tf) := by
  refine kp.of pm_X9_run rfl rfl (Nat.le_of_ble_eq_true rfl) ?_
  show pk fx (px_body pm_X9_run) (d + 1) Q al (n) (g0) (sc) (ar) (.ref (al P)) (tf) 0 [.ref (al 0), .int a, .int b, .int q, .float 0] [] 0 0
  refine pk_aload_n dX9_run_0 rfl rfl ?_
  refine pk_kV (c := 0) (As := []) dX9_run_1 cl_X9_94 (by decide) rfl rfl rfl (Nat.le_of_ble_eq_true rfl) (Nat.le_of_ble_eq_true rfl) (Nat.le_of_ble_eq_true rfl) ?_
  refine kp_slate_ok (d := d) (kq_aft ?_)
  refine pk_astore dX9_run_4 (Nat.le_of_ble_eq_true rfl) rfl ?_
  refine pk_iload_n dX9_run_6 rfl ?_
  refine pk_iconst dX9_run_7 (show Int32.ofInt (3) = (3) by decide) ?_
  refine pk_kS (As := [.int q, .int 3]) dX9_run_8 cl_X9_98 rfl rfl (Nat.le_of_ble_eq_true rfl) (Nat.le_of_ble_eq_true rfl) (Nat.le_of_ble_eq_true rfl) ?_
  exact kp_checkWhat_bad (d := d) hw (kq_exc rfl hQ)
set_option maxHeartbeats 4000000 in
set_option maxRecDepth 20000 in
theorem kp_wish_bad1 {fx : px_F} {d : Nat} {Q : px_Q} {al : Nat → Nat} {n : Nat} {g0 : Nat → px_O} {sc ar : Nat → Nat → Int32} {sl : Value} {tf : Nat → Option Nat} {l : Int32} (s : Int32) (hl : ¬ (0 ≤ l ∧ l < 8)) (hQ : kq Q (.inr "java/lang/IndexOutOfBoundsException") al (n) (g0) (sc) (ar) (sl) (tf)) : kp fx (d + 2) 73 [.ref (al 0), .int l, .int s] Q al n (g0) (sc) (ar) (sl) (tf) := by
  refine kp.of pm_X9_wish rfl rfl (Nat.le_of_ble_eq_true rfl) ?_
  show pk fx (px_body pm_X9_wish) (d + 1) Q al (n) (g0) (sc) (ar) (sl) (tf) 0 [.ref (al 0), .int l, .int s, .float 0] [] 0 0
  refine pk_aload_n dX9_wish_0 rfl rfl ?_
  refine pk_iload_n dX9_wish_1 rfl ?_
  refine pk_kV (c := 0) (As := [.int l]) dX9_wish_2 cl_X9_142 (by decide) rfl rfl rfl (Nat.le_of_ble_eq_true rfl) (Nat.le_of_ble_eq_true rfl) (Nat.le_of_ble_eq_true rfl) ?_
  exact kp_learnerAt_bad (d := d) hl (kq_exc rfl hQ)
set_option maxHeartbeats 4000000 in
set_option maxRecDepth 20000 in
theorem kp_wish_bad2 {fx : px_F} {d : Nat} {Q : px_Q} {al : Nat → Nat} {n : Nat} {g0 : Nat → px_O} {sc ar : Nat → Nat → Int32} {sl : Value} {tf : Nat → Option Nat} {l : Nat} {s : Int32} (hl : l < 8) (hs : ¬ (0 ≤ s ∧ s < 8)) (hQ : kq Q (.inr "java/lang/IndexOutOfBoundsException") al (n) (g0) (sc) (ar) (sl) (tf)) : kp fx (d + 2) 73 [.ref (al 0), .int (nI l), .int s] Q al n (g0) (sc) (ar) (sl) (tf) := by
  refine kp.of pm_X9_wish rfl rfl (Nat.le_of_ble_eq_true rfl) ?_
  show pk fx (px_body pm_X9_wish) (d + 1) Q al (n) (g0) (sc) (ar) (sl) (tf) 0 [.ref (al 0), .int (nI l), .int s, .float 0] [] 0 0
  refine pk_aload_n dX9_wish_0 rfl rfl ?_
  refine pk_iload_n dX9_wish_1 rfl ?_
  refine pk_kV (c := 0) (As := [.int (nI l)]) dX9_wish_2 cl_X9_142 (by decide) rfl rfl rfl (Nat.le_of_ble_eq_true rfl) (Nat.le_of_ble_eq_true rfl) (Nat.le_of_ble_eq_true rfl) ?_
  refine kp_learnerAt_ok (d := d) hl (kq_aft ?_)
  refine pk_astore_n dX9_wish_5 (Nat.le_of_ble_eq_true rfl) rfl ?_
  refine pk_iload_n dX9_wish_6 rfl ?_
  refine pk_kS (As := [.int s]) dX9_wish_7 cl_X9_175 rfl rfl (Nat.le_of_ble_eq_true rfl) (Nat.le_of_ble_eq_true rfl) (Nat.le_of_ble_eq_true rfl) ?_
  exact kp_checkSkill_bad (d := d) hs (kq_exc rfl hQ)
set_option maxHeartbeats 4000000 in
set_option maxRecDepth 20000 in
theorem kp_wish_ok {fx : px_F} {d : Nat} {Q : px_Q} {al : Nat → Nat} {n : Nat} {g0 : Nat → px_O} {sc ar : Nat → Nat → Int32} {sl : Value} {tf : Nat → Option Nat} {TT : Nat} (hT : sc 0 9 = nI TT) {Tc : Nat → Nat} {needs shows : Nat → Int32} (hTT : TT ≤ 10) (hD : TQ al n g0 tf TT Tc needs shows) (hsh : ∀ t, t < TT → ∃ b, b < 256 ∧ shows t = nI b) {l s b : Nat} (hl : l < 8) (hs : s < 8) (hb : b < 256) (hc : rCans (ar (21 + 2 * l)) 0 8 = nI b) (hQ : ∀ f2, kq Q (.inl (some (.int (cN needs shows TT s (TT + 1) 0 (upd (flT 256 (-1) (ar 17)) b 0))))) al (n) (g0) (sc) (va_up ar 17 f2) (sl) (tf)) : kp fx (d + 4) 73 [.ref (al 0), .int (nI l), .int (nI s)] Q al n (g0) (sc) (ar) (sl) (tf) := by
  refine kp.of pm_X9_wish rfl rfl (Nat.le_of_ble_eq_true rfl) ?_
  show pk fx (px_body pm_X9_wish) (d + 3) Q al (n) (g0) (sc) (ar) (sl) (tf) 0 [.ref (al 0), .int (nI l), .int (nI s), .float 0] [] 0 0
  refine pk_aload_n dX9_wish_0 rfl rfl ?_
  refine pk_iload_n dX9_wish_1 rfl ?_
  refine pk_kV (c := 0) (As := [.int (nI l)]) dX9_wish_2 cl_X9_142 (by decide) rfl rfl rfl (Nat.le_of_ble_eq_true rfl) (Nat.le_of_ble_eq_true rfl) (Nat.le_of_ble_eq_true rfl) ?_
  refine kp_learnerAt_ok (d := d + 2) hl (kq_aft ?_)
  refine pk_astore_n dX9_wish_5 (Nat.le_of_ble_eq_true rfl) rfl ?_
  refine pk_iload_n dX9_wish_6 rfl ?_
  refine pk_kS (As := [.int (nI s)]) dX9_wish_7 cl_X9_175 rfl rfl (Nat.le_of_ble_eq_true rfl) (Nat.le_of_ble_eq_true rfl) (Nat.le_of_ble_eq_true rfl) ?_
  refine kp_checkSkill_ok (d := d + 2) hs (kq_aft ?_)
  refine pk_aload_n dX9_wish_10 rfl rfl ?_
  refine pk_getR (c := 0) (d := 16) dX9_wish_11 fk_X9_40 (by decide) rfl rfl ?_
  refine pk_aload_n dX9_wish_14 rfl rfl ?_
  refine pk_getR (c := 0) (d := 18) dX9_wish_15 fk_X9_46 (by decide) rfl rfl ?_
  refine pk_aload_n dX9_wish_18 rfl rfl ?_
  refine pk_getS (c := 0) (v := (nI TT)) dX9_wish_19 fk_X9_124 (by decide) rfl rfl hT ?_
  refine pk_aload_n dX9_wish_22 rfl rfl ?_
  refine pk_callN (c := (20 + 2 * l)) (As := fun al => []) dX9_wish_23 cl_X9_181 (by omega) (lrn_c hl) (cp_able (d + 2) hl) (fun _ _ => trivial) rfl rfl (Nat.le_of_ble_eq_true rfl) ⟨rfl, rfl⟩ (Nat.le_of_ble_eq_true rfl) (Nat.le_of_ble_eq_true rfl) (fun res sc2 ar2 hn => ?_)
  obtain ⟨rfl, rfl, rfl⟩ := hn
  rw [hc]
  refine pk_iconst dX9_wish_26 (show Int32.ofInt (1) = (1) by decide) ?_
  refine pk_iload_n dX9_wish_27 rfl ?_
  refine pk_ishl dX9_wish_28 ?_
  refine pk_kVN (c := 16) (As := [.ref (al 18), .int (nI TT), .int (nI b), .int (1 <<< (nI s &&& 31))]) dX9_wish_29 cl_X9_194 (by decide) rfl rfl rfl (Nat.le_of_ble_eq_true rfl) (Nat.le_of_ble_eq_true rfl) (Nat.le_of_ble_eq_true rfl) ?_
  refine kp_fewest (d := d) hTT hD hsh hb (fun f2 => kq_aftN ?_)
  exact pk_iret dX9_wish_32 rfl rfl (Nat.le_of_ble_eq_true rfl) (Nat.le_of_ble_eq_true rfl) (hQ f2)
set_option maxHeartbeats 4000000 in
set_option maxRecDepth 20000 in
theorem kp_read_bad {fx : px_F} {Q : px_Q} {al : Nat → Nat} {n : Nat} {g0 : Nat → px_O} {sc ar : Nat → Nat → Int32} {sl : Value} {tf : Nat → Option Nat} {B : Nat → Nat} {e : Nat} (hB : tB sc ar B e) {b : Bool} {j : Nat} (hP : pP (tk B e) 860 0 0 0 = some (b, j)) (hbad : ¬ (b = true ∧ tk B e j = 0)) (hQ : ∀ sc2 ar2, psF sc ar sc2 ar2 → kq Q (.inr "java/lang/IllegalArgumentException") al (n) (g0) (up2 (up2 sc2 1 1 0) 0 8 (nI (ps B e j))) (ar2) (sl) (tf)) : kp fx (1727) 64 [.ref (al 0)] Q al n (g0) (sc) (ar) (sl) (tf) := by
  refine kp.of pm_X9_read rfl rfl (Nat.le_of_ble_eq_true rfl) ?_
  show pk fx (px_body pm_X9_read) (1726) Q al (n) (g0) (sc) (ar) (sl) (tf) 0 [.ref (al 0), .float 0] [] 0 0
  refine pk_aload_n dX9_read_0 rfl rfl ?_
  refine pk_getR (c := 0) (d := 3) dX9_read_1 fk_X9_19 (by decide) rfl rfl ?_
  refine pk_aload_n dX9_read_4 rfl rfl ?_
  refine pk_getR (c := 0) (d := 1) dX9_read_5 fk_X9_12 (by decide) rfl rfl ?_
  refine pk_kVN (c := 3) (As := [.ref (al 1)]) dX9_read_8 cl_X9_68 (by decide) rfl rfl rfl (Nat.le_of_ble_eq_true rfl) (Nat.le_of_ble_eq_true rfl) (Nat.le_of_ble_eq_true rfl) ?_
  refine kp_parse_bad hB hP hbad (fun sc2 ar2 e1 e2 e3 e4 => kq_aftN ?_)
  refine pk_astore_n dX9_read_11 (Nat.le_of_ble_eq_true rfl) rfl ?_
  refine pk_aload_n dX9_read_12 rfl rfl ?_
  refine pk_getR (c := 0) (d := 1) dX9_read_13 fk_X9_12 (by decide) rfl rfl ?_
  refine pk_iconst dX9_read_16 (show Int32.ofInt (0) = (0) by decide) ?_
  refine pk_putN (c := 1) dX9_read_17 fk_X9_61 (by decide) rfl rfl ⟨_, _, _, rfl, rfl⟩ rfl rfl ?_
  refine pk_aload_n dX9_read_20 rfl rfl ?_
  refine pk_ifnonnull (tgt := 45) dX9_read_21 (by decide) rfl (fun _ z => by cases z) (fun c21 => ?_)
  refine pk_aload_n dX9_read_24 rfl rfl ?_
  refine pk_aload_n dX9_read_25 rfl rfl ?_
  refine pk_getR (c := 0) (d := 3) dX9_read_26 fk_X9_19 (by decide) rfl rfl ?_
  refine pk_callN (c := 3) (As := fun al => []) dX9_read_29 cl_X9_72 (by decide) rfl (cp_wrongByte 1725 _ _ sl tf (j := j) e2 e3 e4) (fun _ _ => trivial) rfl rfl (Nat.le_of_ble_eq_true rfl) ⟨rfl, rfl⟩ (Nat.le_of_ble_eq_true rfl) (Nat.le_of_ble_eq_true rfl) (fun r5 s5 a5 n5 => ?_)
  obtain ⟨rfl, rfl, rfl⟩ := n5
  refine pk_put (c := 0) dX9_read_32 fk_X9_56 (by decide) rfl rfl ⟨_, _, _, rfl, rfl⟩ rfl rfl ?_
  exact pk_throwS dX9_read_35 dX9_read_38 dX9_read_39 dX9_read_41 dX9_read_44 th_X9_76_78 rfl (Nat.le_of_ble_eq_true rfl) (Nat.le_of_ble_eq_true rfl) (Nat.le_of_ble_eq_true rfl) (hQ _ _ e1)
set_option maxHeartbeats 4000000 in
set_option maxRecDepth 20000 in
theorem kp_read_ok {fx : px_F} {Q : px_Q} {al : Nat → Nat} {n : Nat} {g0 : Nat → px_O} {sc ar : Nat → Nat → Int32} {sl : Value} {tf : Nat → Option Nat} {B : Nat → Nat} {e : Nat} (hB : tB sc ar B e) {j : Nat} (hP : pP (tk B e) 860 0 0 0 = some (true, j)) (hz : tk B e j = 0) (hn36 : 36 ≤ n) (hQ : ∀ (al2 : Nat → Nat) (g2 : Nat → px_O) (sc2 ar2 : Nat → Nat → Int32) (L : Nat) (S O A : Nat → Int32), psF sc ar sc2 ar2 → (∀ k, k < n → al2 k = al k) → PG al2 (n + 4) g2 n j L S O A (bD j S) → POK j L S O A → (∀ k, k < j → S k = tk B e k) → (∀ k, k < n → g2 k = g0 k) → kq Q (.inl (some (.int (nI j)))) al2 (n + 4) (g2) (up2 (up2 (up2 sc2 1 1 0) 0 8 (-1)) 0 10 (sc2 0 10 + 1)) (ar2) (.ref (al2 n)) (tf)) : kp fx (1727) 64 [.ref (al 0)] Q al n (g0) (sc) (ar) (sl) (tf) := by
  refine kp.of pm_X9_read rfl rfl (Nat.le_of_ble_eq_true rfl) ?_
  show pk fx (px_body pm_X9_read) (1726) Q al (n) (g0) (sc) (ar) (sl) (tf) 0 [.ref (al 0), .float 0] [] 0 0
  refine pk_aload_n dX9_read_0 rfl rfl ?_
  refine pk_getR (c := 0) (d := 3) dX9_read_1 fk_X9_19 (by decide) rfl rfl ?_
  refine pk_aload_n dX9_read_4 rfl rfl ?_
  refine pk_getR (c := 0) (d := 1) dX9_read_5 fk_X9_12 (by decide) rfl rfl ?_
  refine pk_kVN (c := 3) (As := [.ref (al 1)]) dX9_read_8 cl_X9_68 (by decide) rfl rfl rfl (Nat.le_of_ble_eq_true rfl) (Nat.le_of_ble_eq_true rfl) (Nat.le_of_ble_eq_true rfl) ?_
  refine kp_parse_ok hB hP hz (fun a2 g2 sc2 ar2 L S O A e1 ha e3 e4 e5 e6 => kq_aftN ?_) hn36
  rw [← ha 0 (by omega)]
  obtain ⟨p1, p2, ⟨f, q1, _⟩, _⟩ := id e3
  refine pk_astore_n dX9_read_11 (Nat.le_of_ble_eq_true rfl) rfl ?_
  refine pk_aload_n dX9_read_12 rfl rfl ?_
  refine pk_getR (c := 0) (d := 1) dX9_read_13 fk_X9_12 (by decide) rfl rfl ?_
  refine pk_iconst dX9_read_16 (show Int32.ofInt (0) = (0) by decide) ?_
  refine pk_putN (c := 1) dX9_read_17 fk_X9_61 (by decide) rfl rfl ⟨_, _, _, rfl, rfl⟩ rfl rfl ?_
  refine pk_aload_n dX9_read_20 rfl rfl ?_
  refine pk_ifnonnull (tgt := 45) dX9_read_21 (by decide) rfl (fun a21 c21 => ?_) (fun z => by cases z)
  refine pk_aload_n dX9_read_45 rfl rfl ?_
  refine pk_iconst dX9_read_46 (show Int32.ofInt (-1) = (-1) by decide) ?_
  refine pk_put (c := 0) dX9_read_47 fk_X9_56 (by decide) rfl rfl ⟨_, _, _, rfl, rfl⟩ rfl rfl ?_
  refine pk_aload_n dX9_read_50 rfl rfl ?_
  refine pk_aload_n dX9_read_51 rfl rfl ?_
  refine pk_putL dX9_read_52 fk_X9_83 ⟨_, _, _, rfl, rfl⟩ rfl rfl ?_
  refine pk_aload_n dX9_read_55 rfl rfl ?_
  refine pk_dup dX9_read_56 rfl ?_
  refine pk_getS (c := 0) (v := (sc2 0 10)) dX9_read_57 fk_X9_87 (by decide) rfl rfl rfl ?_
  refine pk_iconst dX9_read_60 (show Int32.ofInt (1) = (1) by decide) ?_
  refine pk_iadd dX9_read_61 ?_
  refine pk_put (c := 0) dX9_read_62 fk_X9_87 (by decide) rfl rfl ⟨_, _, _, rfl, rfl⟩ rfl rfl ?_
  refine pk_aload_n dX9_read_65 rfl rfl ?_
  refine pk_callDN (j := n) (As := fun al => []) dX9_read_66 cl_X9_90 p1 (by omega) q1 (dp_size 1725 (P := n)) (fun g hF => e3.fr hF) rfl rfl (Nat.le_of_ble_eq_true rfl) ⟨rfl, rfl⟩ (Nat.le_of_ble_eq_true rfl) (Nat.le_of_ble_eq_true rfl) ?_
  exact pk_iret dX9_read_69 rfl rfl (Nat.le_of_ble_eq_true rfl) (Nat.le_of_ble_eq_true rfl) (hQ a2 g2 sc2 ar2 L S O A e1 ha e3 e4 e5 e6)
/-- the class's best task so far, and its gain -/
def cNx (sk : Nat → Bool) (gn : Nat → Int32) : Nat → Int32 × Int32
  | 0 => (-1, -1)
  | t + 1 => if sk t = false ∧ (cNx sk gn t).2 < gn t then (nI t, gn t) else cNx sk gn t
def TQ2 (al : Nat → Nat) (n : Nat) (g : Nat → px_O) (tf : Nat → Option Nat) (TT : Nat) (Tc W : Nat → Nat) (needs shows : Nat → Int32) (l : Nat) (ps : Nat → Bool) : Prop := ∀ t, t < TT → tf t = some (al (Tc t)) ∧ W t ≤ 6 ∧ ∃ y WA WB WR Y F, TK al n g (Tc t) (needs t) (shows t) (W t) y WA WB WR Y F ∧ (F l).isSome = ps t
/-- whether a task is passed over -/
def skp (W : Nat → Nat) (ps : Nat → Bool) (needs : Nat → Int32) (ab : Int32) : Nat → Bool := fun t => decide (W t = 0) || ps t || !decide (needs t &&& (ab ^^^ -1) = 0)
set_option maxHeartbeats 4000000 in
set_option maxRecDepth 20000 in
theorem kl_next {fx : px_F} {d : Nat} {Q : px_Q} {al : Nat → Nat} {n : Nat} {g0 : Nat → px_O} {sc ar : Nat → Nat → Int32} {sl : Value} {tf : Nat → Option Nat} {TT : Nat} (hT : sc 0 9 = nI TT) (hTT : TT ≤ 10) {Tc W : Nat → Nat} {needs shows : Nat → Int32} {l : Nat} {ps : Nat → Bool} (hl : l < 8) (hD : TQ2 al n g0 tf TT Tc W needs shows l ps) (hQ : kq Q (.inl (some (.int (cNx (skp W ps needs (rCans (ar (21 + 2 * l)) 0 8)) (fun t => rGain (shows t) (ar (21 + 2 * l)) 0 8) TT).1))) al (n) (g0) (sc) (ar) (sl) (tf)) : ∀ (m t : Nat) (x7 x8 : Value), t + m = TT → pk fx (px_body pm_X9_next) (d + 1) Q al (n) (g0) (sc) (ar) (sl) (tf) 20 [.ref (al 0), .int (nI l), .ref (al (20 + 2 * l)), .int (rCans (ar (21 + 2 * l)) 0 8), .int (cNx (skp W ps needs (rCans (ar (21 + 2 * l)) 0 8)) (fun t => rGain (shows t) (ar (21 + 2 * l)) 0 8) t).1, .int (cNx (skp W ps needs (rCans (ar (21 + 2 * l)) 0 8)) (fun t => rGain (shows t) (ar (21 + 2 * l)) 0 8) t).2, .int (nI t), x7, x8] [] 1 6
  | 0, t, x7, x8, hm => by
    obtain rfl : t = TT := by omega
    refine pk_iload dX9_next_20 rfl ?_
    refine pk_aload_n dX9_next_22 rfl rfl ?_
    refine pk_getS (c := 0) (v := (nI t)) dX9_next_23 fk_X9_124 (by decide) rfl rfl hT ?_
    refine pk_icmp_ge (tgt := 96) dX9_next_26 (by decide) (fun c26 => ?_) (fun c26 => absurd (Int32.le_refl _) c26)
    refine pk_iload dX9_next_96 rfl ?_
    exact pk_iret dX9_next_98 rfl rfl (Nat.le_of_ble_eq_true rfl) (Nat.le_of_ble_eq_true rfl) hQ
  | m + 1, t, x7, x8, hm => by
    have IH := fun x7 x8 => kl_next (fx := fx) (d := d) hT hTT hl hD hQ m (t + 1) x7 x8 (by omega)
    rw [cNx] at IH
    obtain ⟨e1, w6, y, WA, WB, WR, Y, F, hK, hps⟩ := hD t (by omega)
    obtain ⟨p1, p2, ⟨ff, q0, q1, q2, q3, q4, q5, q6, q7, q8, q9⟩, r1, r2, r3, r4, r5⟩ := id hK
    refine pk_iload dX9_next_20 rfl ?_
    refine pk_aload_n dX9_next_22 rfl rfl ?_
    refine pk_getS (c := 0) (v := (nI TT)) dX9_next_23 fk_X9_124 (by decide) rfl rfl hT ?_
    refine pk_icmp_ge (tgt := 96) dX9_next_26 (by decide) (fun c26 => absurd c26 (nI_ge (by omega) (by omega))) (fun c26 => ?_)
    refine pk_aload_n dX9_next_29 rfl rfl ?_
    refine pk_getR (c := 0) (d := 18) dX9_next_30 fk_X9_46 (by decide) rfl rfl ?_
    refine pk_iload dX9_next_33 rfl ?_
    refine pk_tfald (j := t) dX9_next_35 rfl (by omega) (v := .ref (al (Tc t))) (by rw [e1]; rfl) ?_
    refine pk_astore dX9_next_36 (Nat.le_of_ble_eq_true rfl) rfl ?_
    refine pk_aload dX9_next_38 rfl rfl ?_
    refine pk_dgetN (j := Tc t) dX9_next_40 fk_X9_146 p1 (by omega) q0 q8 ?_
    refine pk_if_le (tgt := 90) dX9_next_43 (by decide) (fun c43 => ?_) (fun c43 => ?_)
    ·
      have c439 := Int32.not_lt.mpr c43
      refine pk_iinc dX9_next_90 rfl (show Int32.ofInt (1) = (1) by decide) ?_
      refine pk_goto (tgt := 20) dX9_next_93 (by decide) ?_
      have s9 : (skp W ps needs (rCans (ar (21 + 2 * l)) 0 8)) t = true := by
        show (decide (W t = 0) || ps t || _) = true
        rw [decide_eq_true (show W t = 0 from by
          by_cases z : W t = 0
          · exact z
          · exact absurd c43 (nI_ge (b := W t) (a := 0) (by omega) (by omega)))]
        simp
      rw [if_neg (fun z => by rw [s9] at z; exact absurd z.1 (by decide))] at IH
      rw [nI_1]
      exact IH _ _
    ·
      have c439 := Int32.not_le.mp c43
      refine pk_aload dX9_next_46 rfl rfl ?_
      refine pk_iload_n dX9_next_48 rfl ?_
      refine pk_callDN (j := Tc t) (As := fun al => [.int (nI l)]) dX9_next_49 cl_X9_165 p1 (by omega) q0 (dp_isPassedBy d (T := Tc t) hl) (fun g hF => hK.fr (Nat.le_refl _) (fun _ _ => rfl) (fun k h1 _ => hF k (by omega))) rfl rfl (Nat.le_of_ble_eq_true rfl) ⟨rfl, rfl⟩ (Nat.le_of_ble_eq_true rfl) (Nat.le_of_ble_eq_true rfl) ?_
      refine pk_if_ne (tgt := 90) dX9_next_52 (by decide) (fun c52 => ?_) (fun c52 => ?_)
      ·
        refine pk_iinc dX9_next_90 rfl (show Int32.ofInt (1) = (1) by decide) ?_
        refine pk_goto (tgt := 20) dX9_next_93 (by decide) ?_
        have s9 : (skp W ps needs (rCans (ar (21 + 2 * l)) 0 8)) t = true := by
          show (decide (W t = 0) || ps t || _) = true
          rw [hps] at c52
          rw [zB_n0 c52]
          simp
        rw [if_neg (fun z => by rw [s9] at z; exact absurd z.1 (by decide))] at IH
        rw [nI_1]
        exact IH _ _
      ·
        refine pk_aload dX9_next_55 rfl rfl ?_
        refine pk_iload_n dX9_next_57 rfl ?_
        refine pk_callDN (j := Tc t) (As := fun al => [.int (rCans (ar (21 + 2 * l)) 0 8)]) dX9_next_58 cl_X9_184 p1 (by omega) q0 (dp_isOpenTo d (T := Tc t)) (fun g hF => hK.fr (Nat.le_refl _) (fun _ _ => rfl) (fun k h1 _ => hF k (by omega))) rfl rfl (Nat.le_of_ble_eq_true rfl) ⟨rfl, rfl⟩ (Nat.le_of_ble_eq_true rfl) (Nat.le_of_ble_eq_true rfl) ?_
        refine pk_if_eq (tgt := 90) dX9_next_61 (by decide) (fun c61 => ?_) (fun c61 => ?_)
        ·
          refine pk_iinc dX9_next_90 rfl (show Int32.ofInt (1) = (1) by decide) ?_
          refine pk_goto (tgt := 20) dX9_next_93 (by decide) ?_
          have s9 : (skp W ps needs (rCans (ar (21 + 2 * l)) 0 8)) t = true := by
            show (decide (W t = 0) || ps t || !decide (needs t &&& ((rCans (ar (21 + 2 * l)) 0 8) ^^^ -1) = 0)) = true
            rw [zB_0.mp c61]
            simp
          rw [if_neg (fun z => by rw [s9] at z; exact absurd z.1 (by decide))] at IH
          rw [nI_1]
          exact IH _ _
        ·
          refine pk_aload_n dX9_next_64 rfl rfl ?_
          refine pk_aload dX9_next_65 rfl rfl ?_
          refine pk_dgetN (j := Tc t) dX9_next_67 fk_X9_187 p1 (by omega) q0 q2 ?_
          refine pk_callN (c := (20 + 2 * l)) (As := fun al => [.int (shows t)]) dX9_next_70 cl_X9_190 (by omega) (lrn_c hl) (cp_gainOf d hl (shows t)) (fun _ _ => trivial) rfl rfl (Nat.le_of_ble_eq_true rfl) ⟨rfl, rfl⟩ (Nat.le_of_ble_eq_true rfl) (Nat.le_of_ble_eq_true rfl) (fun res sc ar hn => ?_)
          obtain ⟨rfl, rfl, rfl⟩ := hn
          refine pk_istore dX9_next_73 (Nat.le_of_ble_eq_true rfl) ?_
          refine pk_iload dX9_next_75 rfl ?_
          refine pk_iload dX9_next_77 rfl ?_
          refine pk_icmp_le (tgt := 90) dX9_next_79 (by decide) (fun c79 => ?_) (fun c79 => ?_)
          ·
            have c799 := Int32.not_lt.mpr c79
            refine pk_iinc dX9_next_90 rfl (show Int32.ofInt (1) = (1) by decide) ?_
            refine pk_goto (tgt := 20) dX9_next_93 (by decide) ?_
            have s9 : (skp W ps needs (rCans (ar (21 + 2 * l)) 0 8)) t = false := by
              show (decide (W t = 0) || ps t || !decide (needs t &&& ((rCans (ar (21 + 2 * l)) 0 8) ^^^ -1) = 0)) = false
              rw [decide_eq_false (show ¬ W t = 0 from fun z => by rw [z] at c43; exact c43 (by decide)), ← hps, zB_0.mp c52, zB_n0 c61]
              rfl
            rw [if_neg (fun z => Int32.not_lt.mpr c79 z.2)] at IH
            rw [nI_1]
            exact IH _ _
          ·
            have c799 := Int32.not_le.mp c79
            refine pk_iload dX9_next_82 rfl ?_
            refine pk_istore dX9_next_84 (Nat.le_of_ble_eq_true rfl) ?_
            refine pk_iload dX9_next_86 rfl ?_
            refine pk_istore dX9_next_88 (Nat.le_of_ble_eq_true rfl) ?_
            refine pk_iinc dX9_next_90 rfl (show Int32.ofInt (1) = (1) by decide) ?_
            refine pk_goto (tgt := 20) dX9_next_93 (by decide) ?_
            have s9 : (skp W ps needs (rCans (ar (21 + 2 * l)) 0 8)) t = false := by
              show (decide (W t = 0) || ps t || !decide (needs t &&& ((rCans (ar (21 + 2 * l)) 0 8) ^^^ -1) = 0)) = false
              rw [decide_eq_false (show ¬ W t = 0 from fun z => by rw [z] at c43; exact c43 (by decide)), ← hps, zB_0.mp c52, zB_n0 c61]
              rfl
            rw [if_pos ⟨s9, Int32.not_le.mp c79⟩] at IH
            rw [nI_1]
            exact IH _ _
set_option maxHeartbeats 4000000 in
set_option maxRecDepth 20000 in
theorem kp_next_ok {fx : px_F} {d : Nat} {Q : px_Q} {al : Nat → Nat} {n : Nat} {g0 : Nat → px_O} {sc ar : Nat → Nat → Int32} {sl : Value} {tf : Nat → Option Nat} {TT : Nat} (hT : sc 0 9 = nI TT) (hTT : TT ≤ 10) {Tc W : Nat → Nat} {needs shows : Nat → Int32} {l : Nat} {ps : Nat → Bool} (hl : l < 8) (hD : TQ2 al n g0 tf TT Tc W needs shows l ps) (hQ : kq Q (.inl (some (.int (cNx (skp W ps needs (rCans (ar (21 + 2 * l)) 0 8)) (fun t => rGain (shows t) (ar (21 + 2 * l)) 0 8) TT).1))) al (n) (g0) (sc) (ar) (sl) (tf)) : kp fx (d + 2) 72 [.ref (al 0), .int (nI l)] Q al n (g0) (sc) (ar) (sl) (tf) := by
  refine kp.of pm_X9_next rfl rfl (Nat.le_of_ble_eq_true rfl) ?_
  show pk fx (px_body pm_X9_next) (d + 1) Q al (n) (g0) (sc) (ar) (sl) (tf) 0 [.ref (al 0), .int (nI l), .float 0, .float 0, .float 0, .float 0, .float 0, .float 0, .float 0] [] 0 0
  refine pk_aload_n dX9_next_0 rfl rfl ?_
  refine pk_iload_n dX9_next_1 rfl ?_
  refine pk_kV (c := 0) (As := [.int (nI l)]) dX9_next_2 cl_X9_142 (by decide) rfl rfl rfl (Nat.le_of_ble_eq_true rfl) (Nat.le_of_ble_eq_true rfl) (Nat.le_of_ble_eq_true rfl) ?_
  refine kp_learnerAt_ok (d := d) hl (kq_aft ?_)
  refine pk_astore_n dX9_next_5 (Nat.le_of_ble_eq_true rfl) rfl ?_
  refine pk_aload_n dX9_next_6 rfl rfl ?_
  refine pk_callN (c := (20 + 2 * l)) (As := fun al => []) dX9_next_7 cl_X9_181 (by omega) (lrn_c hl) (cp_able d hl) (fun _ _ => trivial) rfl rfl (Nat.le_of_ble_eq_true rfl) ⟨rfl, rfl⟩ (Nat.le_of_ble_eq_true rfl) (Nat.le_of_ble_eq_true rfl) (fun res sc ar hn => ?_)
  obtain ⟨rfl, rfl, rfl⟩ := hn
  refine pk_istore_n dX9_next_10 (Nat.le_of_ble_eq_true rfl) ?_
  refine pk_iconst dX9_next_11 (show Int32.ofInt (-1) = (-1) by decide) ?_
  refine pk_istore dX9_next_12 (Nat.le_of_ble_eq_true rfl) ?_
  refine pk_iconst dX9_next_14 (show Int32.ofInt (-1) = (-1) by decide) ?_
  refine pk_istore dX9_next_15 (Nat.le_of_ble_eq_true rfl) ?_
  refine pk_iconst dX9_next_17 (show Int32.ofInt (0) = (0) by decide) ?_
  refine pk_istore dX9_next_18 (Nat.le_of_ble_eq_true rfl) ?_
  exact kl_next hT hTT hl hD hQ TT 0 _ _ (by omega)
set_option maxHeartbeats 4000000 in
set_option maxRecDepth 20000 in
theorem kp_next_bad {fx : px_F} {d : Nat} {Q : px_Q} {al : Nat → Nat} {n : Nat} {g0 : Nat → px_O} {sc ar : Nat → Nat → Int32} {sl : Value} {tf : Nat → Option Nat} {l : Int32} (hl : ¬ (0 ≤ l ∧ l < 8)) (hQ : kq Q (.inr "java/lang/IndexOutOfBoundsException") al (n) (g0) (sc) (ar) (sl) (tf)) : kp fx (d + 2) 72 [.ref (al 0), .int l] Q al n (g0) (sc) (ar) (sl) (tf) := by
  refine kp.of pm_X9_next rfl rfl (Nat.le_of_ble_eq_true rfl) ?_
  show pk fx (px_body pm_X9_next) (d + 1) Q al (n) (g0) (sc) (ar) (sl) (tf) 0 [.ref (al 0), .int l, .float 0, .float 0, .float 0, .float 0, .float 0, .float 0, .float 0] [] 0 0
  refine pk_aload_n dX9_next_0 rfl rfl ?_
  refine pk_iload_n dX9_next_1 rfl ?_
  refine pk_kV (c := 0) (As := [.int l]) dX9_next_2 cl_X9_142 (by decide) rfl rfl rfl (Nat.le_of_ble_eq_true rfl) (Nat.le_of_ble_eq_true rfl) (Nat.le_of_ble_eq_true rfl) ?_
  exact kp_learnerAt_bad (d := d) hl (kq_exc rfl hQ)
set_option maxHeartbeats 4000000 in
set_option maxRecDepth 20000 in
theorem kp_alike_eq {fx : px_F} {d : Nat} {Q : px_Q} {al : Nat → Nat} {n : Nat} {g0 : Nat → px_O} {sc ar : Nat → Nat → Int32} {sl : Value} {tf : Nat → Option Nat} {TT : Nat} (hT : sc 0 9 = nI TT) (hTT : TT ≤ 10) {t Tc : Nat} (ht : t < TT) (e1 : tf t = some (al Tc)) {nd sh : Int32} {w y : Nat} {WA WB WR : Nat → Int32} {Y F : Nat → Option Nat} (hK : TK al (n) (g0) Tc nd sh (w) (y) (WA) (WB) (WR) (Y) (F)) {a b : Nat} (ha : a < 8) (hb : b < 8) (hab : a = b) (tok : Int32) (hQ : kq Q (.inl (some (.int 0))) al (n) (g0) (sc) (ar) (sl) (tf)) : kp fx (d + 4) 76 [.ref (al 0), .int (nI t), .int (nI a), .int (nI b), .int tok] Q al n (g0) (sc) (ar) (sl) (tf) := by
  refine kp.of pm_X9_alike rfl rfl (Nat.le_of_ble_eq_true rfl) ?_
  show pk fx (px_body pm_X9_alike) (d + 3) Q al (n) (g0) (sc) (ar) (sl) (tf) 0 [.ref (al 0), .int (nI t), .int (nI a), .int (nI b), .int tok, .float 0, .float 0, .float 0] [] 0 0
  obtain ⟨p1, p2, ⟨f, q0, q1, q2, q3, q4, q5, q6, q7, q8, q9⟩, r1, r2, r3, r4, r5⟩ := id hK
  refine pk_aload_n dX9_alike_0 rfl rfl ?_
  refine pk_iload_n dX9_alike_1 rfl ?_
  refine pk_kV (c := 0) (As := [.int (nI t)]) dX9_alike_2 cl_X9_134 (by decide) rfl rfl rfl (Nat.le_of_ble_eq_true rfl) (Nat.le_of_ble_eq_true rfl) (Nat.le_of_ble_eq_true rfl) ?_
  refine kp_taskAt_ok (d := d + 2) hT hTT ht e1 (kq_aft ?_)
  refine pk_astore dX9_alike_5 (Nat.le_of_ble_eq_true rfl) rfl ?_
  refine pk_aload_n dX9_alike_7 rfl rfl ?_
  refine pk_iload_n dX9_alike_8 rfl ?_
  refine pk_kV (c := 0) (As := [.int (nI a)]) dX9_alike_9 cl_X9_142 (by decide) rfl rfl rfl (Nat.le_of_ble_eq_true rfl) (Nat.le_of_ble_eq_true rfl) (Nat.le_of_ble_eq_true rfl) ?_
  refine kp_learnerAt_ok (d := d + 2) ha (kq_aft ?_)
  refine pk_pop dX9_alike_12 rfl ?_
  refine pk_aload_n dX9_alike_13 rfl rfl ?_
  refine pk_iload_n dX9_alike_14 rfl ?_
  refine pk_kV (c := 0) (As := [.int (nI b)]) dX9_alike_15 cl_X9_142 (by decide) rfl rfl rfl (Nat.le_of_ble_eq_true rfl) (Nat.le_of_ble_eq_true rfl) (Nat.le_of_ble_eq_true rfl) ?_
  refine kp_learnerAt_ok (d := d + 2) hb (kq_aft ?_)
  refine pk_pop dX9_alike_18 rfl ?_
  refine pk_aload dX9_alike_19 rfl rfl ?_
  refine pk_dgetN (j := Tc) dX9_alike_21 fk_X9_232 p1 (by omega) q0 q7 ?_
  refine pk_iload_n dX9_alike_24 rfl ?_
  refine pk_daald (j := a) dX9_alike_25 (by omega) (by omega) (by decide) (by decide) r5 rfl ha (by decide) ?_
  refine pk_astore dX9_alike_26 (Nat.le_of_ble_eq_true rfl) (rf_R _) ?_
  refine pk_aload dX9_alike_28 rfl rfl ?_
  refine pk_dgetN (j := Tc) dX9_alike_30 fk_X9_232 p1 (by omega) q0 q7 ?_
  refine pk_iload_n dX9_alike_33 rfl ?_
  refine pk_daald (j := b) dX9_alike_34 (by omega) (by omega) (by decide) (by decide) r5 rfl hb (by decide) ?_
  refine pk_astore dX9_alike_35 (Nat.le_of_ble_eq_true rfl) (rf_R _) ?_
  refine pk_iload_n dX9_alike_37 rfl ?_
  refine pk_iload_n dX9_alike_38 rfl ?_
  refine pk_icmp_eq (tgt := 52) dX9_alike_39 (by decide) (fun c39 => ?_) (fun c39 => absurd (congrArg nI hab) c39)
  refine pk_iconst dX9_alike_52 (show Int32.ofInt (0) = (0) by decide) ?_
  exact pk_iret dX9_alike_53 rfl rfl (Nat.le_of_ble_eq_true rfl) (Nat.le_of_ble_eq_true rfl) hQ
set_option maxHeartbeats 4000000 in
set_option maxRecDepth 20000 in
theorem kp_alike_n1 {fx : px_F} {d : Nat} {Q : px_Q} {al : Nat → Nat} {n : Nat} {g0 : Nat → px_O} {sc ar : Nat → Nat → Int32} {sl : Value} {tf : Nat → Option Nat} {TT : Nat} (hT : sc 0 9 = nI TT) (hTT : TT ≤ 10) {t Tc : Nat} (ht : t < TT) (e1 : tf t = some (al Tc)) {nd sh : Int32} {w y : Nat} {WA WB WR : Nat → Int32} {Y F : Nat → Option Nat} (hK : TK al (n) (g0) Tc nd sh (w) (y) (WA) (WB) (WR) (Y) (F)) {a b : Nat} (ha : a < 8) (hb : b < 8) (hab : ¬ a = b) (h1 : F a = none) (tok : Int32) (hQ : kq Q (.inl (some (.int 0))) al (n) (g0) (sc) (ar) (sl) (tf)) : kp fx (d + 4) 76 [.ref (al 0), .int (nI t), .int (nI a), .int (nI b), .int tok] Q al n (g0) (sc) (ar) (sl) (tf) := by
  refine kp.of pm_X9_alike rfl rfl (Nat.le_of_ble_eq_true rfl) ?_
  show pk fx (px_body pm_X9_alike) (d + 3) Q al (n) (g0) (sc) (ar) (sl) (tf) 0 [.ref (al 0), .int (nI t), .int (nI a), .int (nI b), .int tok, .float 0, .float 0, .float 0] [] 0 0
  obtain ⟨p1, p2, ⟨f, q0, q1, q2, q3, q4, q5, q6, q7, q8, q9⟩, r1, r2, r3, r4, r5⟩ := id hK
  refine pk_aload_n dX9_alike_0 rfl rfl ?_
  refine pk_iload_n dX9_alike_1 rfl ?_
  refine pk_kV (c := 0) (As := [.int (nI t)]) dX9_alike_2 cl_X9_134 (by decide) rfl rfl rfl (Nat.le_of_ble_eq_true rfl) (Nat.le_of_ble_eq_true rfl) (Nat.le_of_ble_eq_true rfl) ?_
  refine kp_taskAt_ok (d := d + 2) hT hTT ht e1 (kq_aft ?_)
  refine pk_astore dX9_alike_5 (Nat.le_of_ble_eq_true rfl) rfl ?_
  refine pk_aload_n dX9_alike_7 rfl rfl ?_
  refine pk_iload_n dX9_alike_8 rfl ?_
  refine pk_kV (c := 0) (As := [.int (nI a)]) dX9_alike_9 cl_X9_142 (by decide) rfl rfl rfl (Nat.le_of_ble_eq_true rfl) (Nat.le_of_ble_eq_true rfl) (Nat.le_of_ble_eq_true rfl) ?_
  refine kp_learnerAt_ok (d := d + 2) ha (kq_aft ?_)
  refine pk_pop dX9_alike_12 rfl ?_
  refine pk_aload_n dX9_alike_13 rfl rfl ?_
  refine pk_iload_n dX9_alike_14 rfl ?_
  refine pk_kV (c := 0) (As := [.int (nI b)]) dX9_alike_15 cl_X9_142 (by decide) rfl rfl rfl (Nat.le_of_ble_eq_true rfl) (Nat.le_of_ble_eq_true rfl) (Nat.le_of_ble_eq_true rfl) ?_
  refine kp_learnerAt_ok (d := d + 2) hb (kq_aft ?_)
  refine pk_pop dX9_alike_18 rfl ?_
  refine pk_aload dX9_alike_19 rfl rfl ?_
  refine pk_dgetN (j := Tc) dX9_alike_21 fk_X9_232 p1 (by omega) q0 q7 ?_
  refine pk_iload_n dX9_alike_24 rfl ?_
  refine pk_daald (j := a) dX9_alike_25 (by omega) (by omega) (by decide) (by decide) r5 rfl ha (by decide) ?_
  rw [h1]
  refine pk_astore dX9_alike_26 (Nat.le_of_ble_eq_true rfl) rfl ?_
  refine pk_aload dX9_alike_28 rfl rfl ?_
  refine pk_dgetN (j := Tc) dX9_alike_30 fk_X9_232 p1 (by omega) q0 q7 ?_
  refine pk_iload_n dX9_alike_33 rfl ?_
  refine pk_daald (j := b) dX9_alike_34 (by omega) (by omega) (by decide) (by decide) r5 rfl hb (by decide) ?_
  refine pk_astore dX9_alike_35 (Nat.le_of_ble_eq_true rfl) (rf_R _) ?_
  refine pk_iload_n dX9_alike_37 rfl ?_
  refine pk_iload_n dX9_alike_38 rfl ?_
  refine pk_icmp_eq (tgt := 52) dX9_alike_39 (by decide) (fun c39 => absurd c39 (fun z => hab ((nI_eq (by omega) (by omega)).mp z))) (fun c39 => ?_)
  refine pk_aload dX9_alike_42 rfl rfl ?_
  refine pk_ifnull (tgt := 52) dX9_alike_44 (by decide) rfl (fun c44 => ?_) (fun _ z => by cases z)
  refine pk_iconst dX9_alike_52 (show Int32.ofInt (0) = (0) by decide) ?_
  exact pk_iret dX9_alike_53 rfl rfl (Nat.le_of_ble_eq_true rfl) (Nat.le_of_ble_eq_true rfl) hQ
set_option maxHeartbeats 4000000 in
set_option maxRecDepth 20000 in
theorem kp_alike_n2 {fx : px_F} {d : Nat} {Q : px_Q} {al : Nat → Nat} {n : Nat} {g0 : Nat → px_O} {sc ar : Nat → Nat → Int32} {sl : Value} {tf : Nat → Option Nat} {TT : Nat} (hT : sc 0 9 = nI TT) (hTT : TT ≤ 10) {t Tc : Nat} (ht : t < TT) (e1 : tf t = some (al Tc)) {nd sh : Int32} {w y : Nat} {WA WB WR : Nat → Int32} {Y F : Nat → Option Nat} (hK : TK al (n) (g0) Tc nd sh (w) (y) (WA) (WB) (WR) (Y) (F)) {a b : Nat} (ha : a < 8) (hb : b < 8) (hab : ¬ a = b) {P : Nat} (h1 : F a = some (al P)) (h2 : F b = none) (tok : Int32) (hQ : kq Q (.inl (some (.int 0))) al (n) (g0) (sc) (ar) (sl) (tf)) : kp fx (d + 4) 76 [.ref (al 0), .int (nI t), .int (nI a), .int (nI b), .int tok] Q al n (g0) (sc) (ar) (sl) (tf) := by
  refine kp.of pm_X9_alike rfl rfl (Nat.le_of_ble_eq_true rfl) ?_
  show pk fx (px_body pm_X9_alike) (d + 3) Q al (n) (g0) (sc) (ar) (sl) (tf) 0 [.ref (al 0), .int (nI t), .int (nI a), .int (nI b), .int tok, .float 0, .float 0, .float 0] [] 0 0
  obtain ⟨p1, p2, ⟨f, q0, q1, q2, q3, q4, q5, q6, q7, q8, q9⟩, r1, r2, r3, r4, r5⟩ := id hK
  refine pk_aload_n dX9_alike_0 rfl rfl ?_
  refine pk_iload_n dX9_alike_1 rfl ?_
  refine pk_kV (c := 0) (As := [.int (nI t)]) dX9_alike_2 cl_X9_134 (by decide) rfl rfl rfl (Nat.le_of_ble_eq_true rfl) (Nat.le_of_ble_eq_true rfl) (Nat.le_of_ble_eq_true rfl) ?_
  refine kp_taskAt_ok (d := d + 2) hT hTT ht e1 (kq_aft ?_)
  refine pk_astore dX9_alike_5 (Nat.le_of_ble_eq_true rfl) rfl ?_
  refine pk_aload_n dX9_alike_7 rfl rfl ?_
  refine pk_iload_n dX9_alike_8 rfl ?_
  refine pk_kV (c := 0) (As := [.int (nI a)]) dX9_alike_9 cl_X9_142 (by decide) rfl rfl rfl (Nat.le_of_ble_eq_true rfl) (Nat.le_of_ble_eq_true rfl) (Nat.le_of_ble_eq_true rfl) ?_
  refine kp_learnerAt_ok (d := d + 2) ha (kq_aft ?_)
  refine pk_pop dX9_alike_12 rfl ?_
  refine pk_aload_n dX9_alike_13 rfl rfl ?_
  refine pk_iload_n dX9_alike_14 rfl ?_
  refine pk_kV (c := 0) (As := [.int (nI b)]) dX9_alike_15 cl_X9_142 (by decide) rfl rfl rfl (Nat.le_of_ble_eq_true rfl) (Nat.le_of_ble_eq_true rfl) (Nat.le_of_ble_eq_true rfl) ?_
  refine kp_learnerAt_ok (d := d + 2) hb (kq_aft ?_)
  refine pk_pop dX9_alike_18 rfl ?_
  refine pk_aload dX9_alike_19 rfl rfl ?_
  refine pk_dgetN (j := Tc) dX9_alike_21 fk_X9_232 p1 (by omega) q0 q7 ?_
  refine pk_iload_n dX9_alike_24 rfl ?_
  refine pk_daald (j := a) dX9_alike_25 (by omega) (by omega) (by decide) (by decide) r5 rfl ha (by decide) ?_
  rw [h1]
  refine pk_astore dX9_alike_26 (Nat.le_of_ble_eq_true rfl) rfl ?_
  refine pk_aload dX9_alike_28 rfl rfl ?_
  refine pk_dgetN (j := Tc) dX9_alike_30 fk_X9_232 p1 (by omega) q0 q7 ?_
  refine pk_iload_n dX9_alike_33 rfl ?_
  refine pk_daald (j := b) dX9_alike_34 (by omega) (by omega) (by decide) (by decide) r5 rfl hb (by decide) ?_
  rw [h2]
  refine pk_astore dX9_alike_35 (Nat.le_of_ble_eq_true rfl) rfl ?_
  refine pk_iload_n dX9_alike_37 rfl ?_
  refine pk_iload_n dX9_alike_38 rfl ?_
  refine pk_icmp_eq (tgt := 52) dX9_alike_39 (by decide) (fun c39 => absurd c39 (fun z => hab ((nI_eq (by omega) (by omega)).mp z))) (fun c39 => ?_)
  refine pk_aload dX9_alike_42 rfl rfl ?_
  refine pk_ifnull (tgt := 52) dX9_alike_44 (by decide) rfl (fun z => by cases z) (fun a44 c44 => ?_)
  refine pk_aload dX9_alike_47 rfl rfl ?_
  refine pk_ifnonnull (tgt := 54) dX9_alike_49 (by decide) rfl (fun _ z => by cases z) (fun c49 => ?_)
  refine pk_iconst dX9_alike_52 (show Int32.ofInt (0) = (0) by decide) ?_
  exact pk_iret dX9_alike_53 rfl rfl (Nat.le_of_ble_eq_true rfl) (Nat.le_of_ble_eq_true rfl) hQ
set_option maxHeartbeats 4000000 in
set_option maxRecDepth 20000 in
theorem kp_alike_ok {fx : px_F} {d : Nat} {Q : px_Q} {al : Nat → Nat} {n : Nat} {g0 : Nat → px_O} {sc ar : Nat → Nat → Int32} {sl : Value} {tf : Nat → Option Nat} {TT : Nat} (hT : sc 0 9 = nI TT) (hTT : TT ≤ 10) {t Tc : Nat} (ht : t < TT) (e1 : tf t = some (al Tc)) {nd sh : Int32} {w y : Nat} {WA WB WR : Nat → Int32} {Y F : Nat → Option Nat} (hK : TK al (n) (g0) Tc nd sh (w) (y) (WA) (WB) (WR) (Y) (F)) {a b : Nat} (ha : a < 8) (hb : b < 8) (hab : ¬ a = b) {P P2 m m2 L L2 : Nat} {S O A S2 O2 A2 : Nat → Int32} (h1 : F a = some (al P)) (h2 : F b = some (al P2)) (hP : PG al n g0 P m L S O A (bD m S)) (hP2 : PG al n g0 P2 m2 L2 S2 O2 A2 (bD m2 S2)) (hm : m ≤ 120) (hm2 : m2 ≤ 120) (tok : Int32) (hQ : kq Q (.inl (some (.int (zB (decide (tok ≤ nI m) && (decide (m = m2) && shA S 0 S2 0 m m 0)))))) al (n) (g0) (sc) (ar) (sl) (tf)) : kp fx (d + 4) 76 [.ref (al 0), .int (nI t), .int (nI a), .int (nI b), .int tok] Q al n (g0) (sc) (ar) (sl) (tf) := by
  refine kp.of pm_X9_alike rfl rfl (Nat.le_of_ble_eq_true rfl) ?_
  show pk fx (px_body pm_X9_alike) (d + 3) Q al (n) (g0) (sc) (ar) (sl) (tf) 0 [.ref (al 0), .int (nI t), .int (nI a), .int (nI b), .int tok, .float 0, .float 0, .float 0] [] 0 0
  obtain ⟨p1, p2, ⟨f, q0, q1, q2, q3, q4, q5, q6, q7, q8, q9⟩, r1, r2, r3, r4, r5⟩ := id hK
  obtain ⟨u1, u2, ⟨f1, u3, _⟩, _⟩ := id hP
  obtain ⟨v1, v2, ⟨f2, v3, _⟩, _⟩ := id hP2
  refine pk_aload_n dX9_alike_0 rfl rfl ?_
  refine pk_iload_n dX9_alike_1 rfl ?_
  refine pk_kV (c := 0) (As := [.int (nI t)]) dX9_alike_2 cl_X9_134 (by decide) rfl rfl rfl (Nat.le_of_ble_eq_true rfl) (Nat.le_of_ble_eq_true rfl) (Nat.le_of_ble_eq_true rfl) ?_
  refine kp_taskAt_ok (d := d + 2) hT hTT ht e1 (kq_aft ?_)
  refine pk_astore dX9_alike_5 (Nat.le_of_ble_eq_true rfl) rfl ?_
  refine pk_aload_n dX9_alike_7 rfl rfl ?_
  refine pk_iload_n dX9_alike_8 rfl ?_
  refine pk_kV (c := 0) (As := [.int (nI a)]) dX9_alike_9 cl_X9_142 (by decide) rfl rfl rfl (Nat.le_of_ble_eq_true rfl) (Nat.le_of_ble_eq_true rfl) (Nat.le_of_ble_eq_true rfl) ?_
  refine kp_learnerAt_ok (d := d + 2) ha (kq_aft ?_)
  refine pk_pop dX9_alike_12 rfl ?_
  refine pk_aload_n dX9_alike_13 rfl rfl ?_
  refine pk_iload_n dX9_alike_14 rfl ?_
  refine pk_kV (c := 0) (As := [.int (nI b)]) dX9_alike_15 cl_X9_142 (by decide) rfl rfl rfl (Nat.le_of_ble_eq_true rfl) (Nat.le_of_ble_eq_true rfl) (Nat.le_of_ble_eq_true rfl) ?_
  refine kp_learnerAt_ok (d := d + 2) hb (kq_aft ?_)
  refine pk_pop dX9_alike_18 rfl ?_
  refine pk_aload dX9_alike_19 rfl rfl ?_
  refine pk_dgetN (j := Tc) dX9_alike_21 fk_X9_232 p1 (by omega) q0 q7 ?_
  refine pk_iload_n dX9_alike_24 rfl ?_
  refine pk_daald (j := a) dX9_alike_25 (by omega) (by omega) (by decide) (by decide) r5 rfl ha (by decide) ?_
  rw [h1]
  refine pk_astore dX9_alike_26 (Nat.le_of_ble_eq_true rfl) rfl ?_
  refine pk_aload dX9_alike_28 rfl rfl ?_
  refine pk_dgetN (j := Tc) dX9_alike_30 fk_X9_232 p1 (by omega) q0 q7 ?_
  refine pk_iload_n dX9_alike_33 rfl ?_
  refine pk_daald (j := b) dX9_alike_34 (by omega) (by omega) (by decide) (by decide) r5 rfl hb (by decide) ?_
  rw [h2]
  refine pk_astore dX9_alike_35 (Nat.le_of_ble_eq_true rfl) rfl ?_
  refine pk_iload_n dX9_alike_37 rfl ?_
  refine pk_iload_n dX9_alike_38 rfl ?_
  refine pk_icmp_eq (tgt := 52) dX9_alike_39 (by decide) (fun c39 => absurd c39 (fun z => hab ((nI_eq (by omega) (by omega)).mp z))) (fun c39 => ?_)
  refine pk_aload dX9_alike_42 rfl rfl ?_
  refine pk_ifnull (tgt := 52) dX9_alike_44 (by decide) rfl (fun z => by cases z) (fun a44 c44 => ?_)
  refine pk_aload dX9_alike_47 rfl rfl ?_
  refine pk_ifnonnull (tgt := 54) dX9_alike_49 (by decide) rfl (fun a49 c49 => ?_) (fun z => by cases z)
  refine pk_aload dX9_alike_54 rfl rfl ?_
  refine pk_callDN (j := P) (As := fun al => []) dX9_alike_56 cl_X9_90 u1 (by omega) u3 (dp_size (d + 2) (P := P)) (fun g hF => hP.fr hF) rfl rfl (Nat.le_of_ble_eq_true rfl) ⟨rfl, rfl⟩ (Nat.le_of_ble_eq_true rfl) (Nat.le_of_ble_eq_true rfl) ?_
  refine pk_iload dX9_alike_59 rfl ?_
  refine pk_icmp_lt (tgt := 78) dX9_alike_61 (by decide) (fun c61 => ?_) (fun c61 => ?_)
  ·
    have c619 := Int32.not_le.mpr c61
    refine pk_iconst dX9_alike_78 (show Int32.ofInt (0) = (0) by decide) ?_
    rw [decide_eq_false (Int32.not_le.mpr c61), Bool.false_and] at hQ
    exact pk_iret dX9_alike_79 rfl rfl (Nat.le_of_ble_eq_true rfl) (Nat.le_of_ble_eq_true rfl) hQ
  ·
    have c619 := Int32.not_lt.mp c61
    refine pk_aload dX9_alike_64 rfl rfl ?_
    refine pk_aload dX9_alike_66 rfl rfl ?_
    refine pk_callDN (j := P) (As := fun al => [.ref (al P2)]) dX9_alike_68 cl_X9_235 u1 (by omega) u3 (dp_hasShapeOf d (P := P) (P2 := P2) (by omega) (by omega)) (fun g hF => ⟨hP.fr hF, hP2.fr hF⟩) rfl rfl (Nat.le_of_ble_eq_true rfl) ⟨rfl, rfl⟩ (Nat.le_of_ble_eq_true rfl) (Nat.le_of_ble_eq_true rfl) ?_
    refine pk_if_eq (tgt := 78) dX9_alike_71 (by decide) (fun c71 => ?_) (fun c71 => ?_)
    ·
      refine pk_iconst dX9_alike_78 (show Int32.ofInt (0) = (0) by decide) ?_
      rw [zB_0.mp c71, Bool.and_false] at hQ
      exact pk_iret dX9_alike_79 rfl rfl (Nat.le_of_ble_eq_true rfl) (Nat.le_of_ble_eq_true rfl) hQ
    ·
      refine pk_iconst dX9_alike_74 (show Int32.ofInt (1) = (1) by decide) ?_
      refine pk_goto (tgt := 79) dX9_alike_75 (by decide) ?_
      rw [decide_eq_true (Int32.not_lt.mp c61), zB_n0 c71] at hQ
      exact pk_iret dX9_alike_79 rfl rfl (Nat.le_of_ble_eq_true rfl) (Nat.le_of_ble_eq_true rfl) hQ
set_option maxHeartbeats 4000000 in
set_option maxRecDepth 20000 in
theorem kp_alike_bad1 {fx : px_F} {d : Nat} {Q : px_Q} {al : Nat → Nat} {n : Nat} {g0 : Nat → px_O} {sc ar : Nat → Nat → Int32} {sl : Value} {tf : Nat → Option Nat} {t : Int32} (a b tok : Int32) (ht : ¬ (0 ≤ t ∧ t < sc 0 9)) (hQ : kq Q (.inr "java/lang/IndexOutOfBoundsException") al (n) (g0) (sc) (ar) (sl) (tf)) : kp fx (d + 2) 76 [.ref (al 0), .int t, .int a, .int b, .int tok] Q al n (g0) (sc) (ar) (sl) (tf) := by
  refine kp.of pm_X9_alike rfl rfl (Nat.le_of_ble_eq_true rfl) ?_
  show pk fx (px_body pm_X9_alike) (d + 1) Q al (n) (g0) (sc) (ar) (sl) (tf) 0 [.ref (al 0), .int t, .int a, .int b, .int tok, .float 0, .float 0, .float 0] [] 0 0
  refine pk_aload_n dX9_alike_0 rfl rfl ?_
  refine pk_iload_n dX9_alike_1 rfl ?_
  refine pk_kV (c := 0) (As := [.int t]) dX9_alike_2 cl_X9_134 (by decide) rfl rfl rfl (Nat.le_of_ble_eq_true rfl) (Nat.le_of_ble_eq_true rfl) (Nat.le_of_ble_eq_true rfl) ?_
  exact kp_taskAt_bad (d := d) ht (kq_exc rfl hQ)
set_option maxHeartbeats 4000000 in
set_option maxRecDepth 20000 in
theorem kp_alike_bad2 {fx : px_F} {d : Nat} {Q : px_Q} {al : Nat → Nat} {n : Nat} {g0 : Nat → px_O} {sc ar : Nat → Nat → Int32} {sl : Value} {tf : Nat → Option Nat} {TT : Nat} (hT : sc 0 9 = nI TT) (hTT : TT ≤ 10) {t Tc : Nat} (ht : t < TT) (e1 : tf t = some (al Tc)) {a : Int32} (b tok : Int32) (ha : ¬ (0 ≤ a ∧ a < 8)) (hQ : kq Q (.inr "java/lang/IndexOutOfBoundsException") al (n) (g0) (sc) (ar) (sl) (tf)) : kp fx (d + 2) 76 [.ref (al 0), .int (nI t), .int a, .int b, .int tok] Q al n (g0) (sc) (ar) (sl) (tf) := by
  refine kp.of pm_X9_alike rfl rfl (Nat.le_of_ble_eq_true rfl) ?_
  show pk fx (px_body pm_X9_alike) (d + 1) Q al (n) (g0) (sc) (ar) (sl) (tf) 0 [.ref (al 0), .int (nI t), .int a, .int b, .int tok, .float 0, .float 0, .float 0] [] 0 0
  refine pk_aload_n dX9_alike_0 rfl rfl ?_
  refine pk_iload_n dX9_alike_1 rfl ?_
  refine pk_kV (c := 0) (As := [.int (nI t)]) dX9_alike_2 cl_X9_134 (by decide) rfl rfl rfl (Nat.le_of_ble_eq_true rfl) (Nat.le_of_ble_eq_true rfl) (Nat.le_of_ble_eq_true rfl) ?_
  refine kp_taskAt_ok (d := d) hT hTT ht e1 (kq_aft ?_)
  refine pk_astore dX9_alike_5 (Nat.le_of_ble_eq_true rfl) rfl ?_
  refine pk_aload_n dX9_alike_7 rfl rfl ?_
  refine pk_iload_n dX9_alike_8 rfl ?_
  refine pk_kV (c := 0) (As := [.int a]) dX9_alike_9 cl_X9_142 (by decide) rfl rfl rfl (Nat.le_of_ble_eq_true rfl) (Nat.le_of_ble_eq_true rfl) (Nat.le_of_ble_eq_true rfl) ?_
  exact kp_learnerAt_bad (d := d) ha (kq_exc rfl hQ)
set_option maxHeartbeats 4000000 in
set_option maxRecDepth 20000 in
theorem kp_alike_bad3 {fx : px_F} {d : Nat} {Q : px_Q} {al : Nat → Nat} {n : Nat} {g0 : Nat → px_O} {sc ar : Nat → Nat → Int32} {sl : Value} {tf : Nat → Option Nat} {TT : Nat} (hT : sc 0 9 = nI TT) (hTT : TT ≤ 10) {t Tc : Nat} (ht : t < TT) (e1 : tf t = some (al Tc)) {a : Nat} {b : Int32} (tok : Int32) (ha : a < 8) (hb : ¬ (0 ≤ b ∧ b < 8)) (hQ : kq Q (.inr "java/lang/IndexOutOfBoundsException") al (n) (g0) (sc) (ar) (sl) (tf)) : kp fx (d + 2) 76 [.ref (al 0), .int (nI t), .int (nI a), .int b, .int tok] Q al n (g0) (sc) (ar) (sl) (tf) := by
  refine kp.of pm_X9_alike rfl rfl (Nat.le_of_ble_eq_true rfl) ?_
  show pk fx (px_body pm_X9_alike) (d + 1) Q al (n) (g0) (sc) (ar) (sl) (tf) 0 [.ref (al 0), .int (nI t), .int (nI a), .int b, .int tok, .float 0, .float 0, .float 0] [] 0 0
  refine pk_aload_n dX9_alike_0 rfl rfl ?_
  refine pk_iload_n dX9_alike_1 rfl ?_
  refine pk_kV (c := 0) (As := [.int (nI t)]) dX9_alike_2 cl_X9_134 (by decide) rfl rfl rfl (Nat.le_of_ble_eq_true rfl) (Nat.le_of_ble_eq_true rfl) (Nat.le_of_ble_eq_true rfl) ?_
  refine kp_taskAt_ok (d := d) hT hTT ht e1 (kq_aft ?_)
  refine pk_astore dX9_alike_5 (Nat.le_of_ble_eq_true rfl) rfl ?_
  refine pk_aload_n dX9_alike_7 rfl rfl ?_
  refine pk_iload_n dX9_alike_8 rfl ?_
  refine pk_kV (c := 0) (As := [.int (nI a)]) dX9_alike_9 cl_X9_142 (by decide) rfl rfl rfl (Nat.le_of_ble_eq_true rfl) (Nat.le_of_ble_eq_true rfl) (Nat.le_of_ble_eq_true rfl) ?_
  refine kp_learnerAt_ok (d := d) ha (kq_aft ?_)
  refine pk_pop dX9_alike_12 rfl ?_
  refine pk_aload_n dX9_alike_13 rfl rfl ?_
  refine pk_iload_n dX9_alike_14 rfl ?_
  refine pk_kV (c := 0) (As := [.int b]) dX9_alike_15 cl_X9_142 (by decide) rfl rfl rfl (Nat.le_of_ble_eq_true rfl) (Nat.le_of_ble_eq_true rfl) (Nat.le_of_ble_eq_true rfl) ?_
  exact kp_learnerAt_bad (d := d) hb (kq_exc rfl hQ)
