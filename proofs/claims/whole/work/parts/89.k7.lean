set_option maxHeartbeats 4000000 in
set_option maxRecDepth 20000 in
theorem kp_taskAt_ok {fx : px_F} {d : Nat} {Q : px_Q} {al : Nat → Nat} {n : Nat} {g0 : Nat → px_O} {sc ar : Nat → Nat → Int32} {sl : Value} {tf : Nat → Option Nat} {TT : Nat} (hT : sc 0 9 = nI TT) (hTT : TT ≤ 10) {t Tc : Nat} (ht : t < TT) (e1 : tf t = some (al Tc)) (hQ : kq Q (.inl (some (.ref (al Tc)))) al (n) (g0) (sc) (ar) (sl) (tf)) : kp fx (d + 1) 80 [.ref (al 0), .int (nI t)] Q al n (g0) (sc) (ar) (sl) (tf) := by
  refine kp.of pm_X9_taskAt rfl rfl (Nat.le_of_ble_eq_true rfl) ?_
  show pk fx (px_body pm_X9_taskAt) (d) Q al (n) (g0) (sc) (ar) (sl) (tf) 0 [.ref (al 0), .int (nI t)] [] 0 0
  refine pk_iload_n dX9_taskAt_0 rfl ?_
  refine pk_if_lt (tgt := 12) dX9_taskAt_1 (by decide) (fun c1 => absurd c1 (nI_pos (by omega))) (fun c1 => ?_)
  refine pk_iload_n dX9_taskAt_4 rfl ?_
  refine pk_aload_n dX9_taskAt_5 rfl rfl ?_
  refine pk_getS (c := 0) (v := (nI TT)) dX9_taskAt_6 fk_X9_124 (by decide) rfl rfl hT ?_
  refine pk_icmp_lt (tgt := 22) dX9_taskAt_9 (by decide) (fun c9 => ?_) (fun c9 => absurd (nI_lt ht (by omega)) c9)
  refine pk_aload_n dX9_taskAt_22 rfl rfl ?_
  refine pk_getR (c := 0) (d := 18) dX9_taskAt_23 fk_X9_46 (by decide) rfl rfl ?_
  refine pk_iload_n dX9_taskAt_26 rfl ?_
  refine pk_tfald (j := t) dX9_taskAt_27 rfl (by omega) (v := .ref (al Tc)) (by rw [e1]; rfl) ?_
  exact pk_aret dX9_taskAt_28 rfl (Or.inl ⟨_, rfl⟩) rfl (Nat.le_of_ble_eq_true rfl) (Nat.le_of_ble_eq_true rfl) hQ
set_option maxHeartbeats 4000000 in
set_option maxRecDepth 20000 in
theorem kp_taskAt_bad {fx : px_F} {d : Nat} {Q : px_Q} {al : Nat → Nat} {n : Nat} {g0 : Nat → px_O} {sc ar : Nat → Nat → Int32} {sl : Value} {tf : Nat → Option Nat} {t : Int32} (ht : ¬ (0 ≤ t ∧ t < sc 0 9)) (hQ : kq Q (.inr "java/lang/IndexOutOfBoundsException") al (n) (g0) (sc) (ar) (sl) (tf)) : kp fx (d + 1) 80 [.ref (al 0), .int t] Q al n (g0) (sc) (ar) (sl) (tf) := by
  refine kp.of pm_X9_taskAt rfl rfl (Nat.le_of_ble_eq_true rfl) ?_
  show pk fx (px_body pm_X9_taskAt) (d) Q al (n) (g0) (sc) (ar) (sl) (tf) 0 [.ref (al 0), .int t] [] 0 0
  refine pk_iload_n dX9_taskAt_0 rfl ?_
  refine pk_if_lt (tgt := 12) dX9_taskAt_1 (by decide) (fun c1 => ?_) (fun c1 => ?_)
  ·
    have c19 := Int32.not_le.mpr c1
    exact pk_throwS dX9_taskAt_12 dX9_taskAt_15 dX9_taskAt_16 dX9_taskAt_18 dX9_taskAt_21 th_X9_239_241 rfl (Nat.le_of_ble_eq_true rfl) (Nat.le_of_ble_eq_true rfl) (Nat.le_of_ble_eq_true rfl) hQ
  ·
    have c19 := Int32.not_lt.mp c1
    refine pk_iload_n dX9_taskAt_4 rfl ?_
    refine pk_aload_n dX9_taskAt_5 rfl rfl ?_
    refine pk_getS (c := 0) (v := (sc 0 9)) dX9_taskAt_6 fk_X9_124 (by decide) rfl rfl rfl ?_
    refine pk_icmp_lt (tgt := 22) dX9_taskAt_9 (by decide) (fun c9 => absurd c9 (fun z => ht ⟨Int32.not_lt.mp c1, z⟩)) (fun c9 => ?_)
    exact pk_throwS dX9_taskAt_12 dX9_taskAt_15 dX9_taskAt_16 dX9_taskAt_18 dX9_taskAt_21 th_X9_239_241 rfl (Nat.le_of_ble_eq_true rfl) (Nat.le_of_ble_eq_true rfl) (Nat.le_of_ble_eq_true rfl) hQ
set_option maxHeartbeats 4000000 in
set_option maxRecDepth 20000 in
theorem kp_learnerAt_ok {fx : px_F} {d : Nat} {Q : px_Q} {al : Nat → Nat} {n : Nat} {g0 : Nat → px_O} {sc ar : Nat → Nat → Int32} {sl : Value} {tf : Nat → Option Nat} {l : Nat} (hl : l < 8) (hQ : kq Q (.inl (some (.ref (al (20 + 2 * l))))) al (n) (g0) (sc) (ar) (sl) (tf)) : kp fx (d + 1) 81 [.ref (al 0), .int (nI l)] Q al n (g0) (sc) (ar) (sl) (tf) := by
  refine kp.of pm_X9_learnerAt rfl rfl (Nat.le_of_ble_eq_true rfl) ?_
  show pk fx (px_body pm_X9_learnerAt) (d) Q al (n) (g0) (sc) (ar) (sl) (tf) 0 [.ref (al 0), .int (nI l)] [] 0 0
  refine pk_iload_n dX9_learnerAt_0 rfl ?_
  refine pk_if_lt (tgt := 10) dX9_learnerAt_1 (by decide) (fun c1 => absurd c1 (nI_pos (by omega))) (fun c1 => ?_)
  refine pk_iload_n dX9_learnerAt_4 rfl ?_
  refine pk_bipush dX9_learnerAt_5 (show (Int8.ofInt (8)).toInt32 = (8) by decide) ?_
  refine pk_icmp_lt (tgt := 20) dX9_learnerAt_7 (by decide) (fun c7 => ?_) (fun c7 => absurd (nI_lt (b := 8) hl (by decide)) c7)
  refine pk_aload_n dX9_learnerAt_20 rfl rfl ?_
  refine pk_getR (c := 0) (d := 19) dX9_learnerAt_21 fk_X9_52 (by decide) rfl rfl ?_
  refine pk_iload_n dX9_learnerAt_24 rfl ?_
  refine pk_lrald (j := l) dX9_learnerAt_25 rfl hl ?_
  exact pk_aret dX9_learnerAt_26 rfl (Or.inl ⟨_, rfl⟩) rfl (Nat.le_of_ble_eq_true rfl) (Nat.le_of_ble_eq_true rfl) hQ
set_option maxHeartbeats 4000000 in
set_option maxRecDepth 20000 in
theorem kp_learnerAt_bad {fx : px_F} {d : Nat} {Q : px_Q} {al : Nat → Nat} {n : Nat} {g0 : Nat → px_O} {sc ar : Nat → Nat → Int32} {sl : Value} {tf : Nat → Option Nat} {l : Int32} (hl : ¬ (0 ≤ l ∧ l < 8)) (hQ : kq Q (.inr "java/lang/IndexOutOfBoundsException") al (n) (g0) (sc) (ar) (sl) (tf)) : kp fx (d + 1) 81 [.ref (al 0), .int l] Q al n (g0) (sc) (ar) (sl) (tf) := by
  refine kp.of pm_X9_learnerAt rfl rfl (Nat.le_of_ble_eq_true rfl) ?_
  show pk fx (px_body pm_X9_learnerAt) (d) Q al (n) (g0) (sc) (ar) (sl) (tf) 0 [.ref (al 0), .int l] [] 0 0
  refine pk_iload_n dX9_learnerAt_0 rfl ?_
  refine pk_if_lt (tgt := 10) dX9_learnerAt_1 (by decide) (fun c1 => ?_) (fun c1 => ?_)
  ·
    have c19 := Int32.not_le.mpr c1
    exact pk_throwS dX9_learnerAt_10 dX9_learnerAt_13 dX9_learnerAt_14 dX9_learnerAt_16 dX9_learnerAt_19 th_X9_239_244 rfl (Nat.le_of_ble_eq_true rfl) (Nat.le_of_ble_eq_true rfl) (Nat.le_of_ble_eq_true rfl) hQ
  ·
    have c19 := Int32.not_lt.mp c1
    refine pk_iload_n dX9_learnerAt_4 rfl ?_
    refine pk_bipush dX9_learnerAt_5 (show (Int8.ofInt (8)).toInt32 = (8) by decide) ?_
    refine pk_icmp_lt (tgt := 20) dX9_learnerAt_7 (by decide) (fun c7 => absurd c7 (fun z => hl ⟨Int32.not_lt.mp c1, z⟩)) (fun c7 => ?_)
    exact pk_throwS dX9_learnerAt_10 dX9_learnerAt_13 dX9_learnerAt_14 dX9_learnerAt_16 dX9_learnerAt_19 th_X9_239_244 rfl (Nat.le_of_ble_eq_true rfl) (Nat.le_of_ble_eq_true rfl) (Nat.le_of_ble_eq_true rfl) hQ
set_option maxHeartbeats 4000000 in
set_option maxRecDepth 20000 in
theorem kp_slate_ok {fx : px_F} {d : Nat} {Q : px_Q} {al : Nat → Nat} {n : Nat} {g0 : Nat → px_O} {sc ar : Nat → Nat → Int32} {tf : Nat → Option Nat} {P : Nat} (hQ : kq Q (.inl (some (.ref (al P)))) al (n) (g0) (sc) (ar) (.ref (al P)) (tf)) : kp fx (d + 1) 82 [.ref (al 0)] Q al n (g0) (sc) (ar) (.ref (al P)) (tf) := by
  refine kp.of pm_X9_programOnSlate rfl rfl (Nat.le_of_ble_eq_true rfl) ?_
  show pk fx (px_body pm_X9_programOnSlate) (d) Q al (n) (g0) (sc) (ar) (.ref (al P)) (tf) 0 [.ref (al 0)] [] 0 0
  refine pk_aload_n dX9_programOnSlate_0 rfl rfl ?_
  refine pk_getL dX9_programOnSlate_1 fk_X9_83 ?_
  refine pk_ifnonnull (tgt := 17) dX9_programOnSlate_4 (by decide) rfl (fun a4 c4 => ?_) (fun z => by cases z)
  refine pk_aload_n dX9_programOnSlate_17 rfl rfl ?_
  refine pk_getL dX9_programOnSlate_18 fk_X9_83 ?_
  exact pk_aret dX9_programOnSlate_21 rfl (Or.inl ⟨_, rfl⟩) rfl (Nat.le_of_ble_eq_true rfl) (Nat.le_of_ble_eq_true rfl) hQ
set_option maxHeartbeats 4000000 in
set_option maxRecDepth 20000 in
theorem kp_slate_bad {fx : px_F} {d : Nat} {Q : px_Q} {al : Nat → Nat} {n : Nat} {g0 : Nat → px_O} {sc ar : Nat → Nat → Int32} {tf : Nat → Option Nat} (hQ : kq Q (.inr "java/lang/IllegalStateException") al (n) (g0) (sc) (ar) (.null) (tf)) : kp fx (d + 1) 82 [.ref (al 0)] Q al n (g0) (sc) (ar) (.null) (tf) := by
  refine kp.of pm_X9_programOnSlate rfl rfl (Nat.le_of_ble_eq_true rfl) ?_
  show pk fx (px_body pm_X9_programOnSlate) (d) Q al (n) (g0) (sc) (ar) (.null) (tf) 0 [.ref (al 0)] [] 0 0
  refine pk_aload_n dX9_programOnSlate_0 rfl rfl ?_
  refine pk_getL dX9_programOnSlate_1 fk_X9_83 ?_
  refine pk_ifnonnull (tgt := 17) dX9_programOnSlate_4 (by decide) rfl (fun _ z => by cases z) (fun c4 => ?_)
  exact pk_throwS dX9_programOnSlate_7 dX9_programOnSlate_10 dX9_programOnSlate_11 dX9_programOnSlate_13 dX9_programOnSlate_16 th_X9_246_248 rfl (Nat.le_of_ble_eq_true rfl) (Nat.le_of_ble_eq_true rfl) (Nat.le_of_ble_eq_true rfl) hQ
set_option maxHeartbeats 4000000 in
set_option maxRecDepth 20000 in
theorem kp_checkSkill_ok {fx : px_F} {d : Nat} {Q : px_Q} {al : Nat → Nat} {n : Nat} {g0 : Nat → px_O} {sc ar : Nat → Nat → Int32} {sl : Value} {tf : Nat → Option Nat} {s : Nat} (hs : s < 8) (hQ : kq Q (.inl none) al (n) (g0) (sc) (ar) (sl) (tf)) : kp fx (d + 1) 83 [.int (nI s)] Q al n (g0) (sc) (ar) (sl) (tf) := by
  refine kp.of pm_X9_checkSkill rfl rfl (Nat.le_of_ble_eq_true rfl) ?_
  show pk fx (px_body pm_X9_checkSkill) (d) Q al (n) (g0) (sc) (ar) (sl) (tf) 0 [.int (nI s)] [] 0 0
  refine pk_iload_n dX9_checkSkill_0 rfl ?_
  refine pk_if_lt (tgt := 10) dX9_checkSkill_1 (by decide) (fun c1 => absurd c1 (nI_pos (by omega))) (fun c1 => ?_)
  refine pk_iload_n dX9_checkSkill_4 rfl ?_
  refine pk_bipush dX9_checkSkill_5 (show (Int8.ofInt (8)).toInt32 = (8) by decide) ?_
  refine pk_icmp_lt (tgt := 20) dX9_checkSkill_7 (by decide) (fun c7 => ?_) (fun c7 => absurd (nI_lt (b := 8) hs (by decide)) c7)
  exact pk_vret dX9_checkSkill_20 rfl (Nat.le_of_ble_eq_true rfl) (Nat.le_of_ble_eq_true rfl) hQ
set_option maxHeartbeats 4000000 in
set_option maxRecDepth 20000 in
theorem kp_checkSkill_bad {fx : px_F} {d : Nat} {Q : px_Q} {al : Nat → Nat} {n : Nat} {g0 : Nat → px_O} {sc ar : Nat → Nat → Int32} {sl : Value} {tf : Nat → Option Nat} {s : Int32} (hs : ¬ (0 ≤ s ∧ s < 8)) (hQ : kq Q (.inr "java/lang/IndexOutOfBoundsException") al (n) (g0) (sc) (ar) (sl) (tf)) : kp fx (d + 1) 83 [.int s] Q al n (g0) (sc) (ar) (sl) (tf) := by
  refine kp.of pm_X9_checkSkill rfl rfl (Nat.le_of_ble_eq_true rfl) ?_
  show pk fx (px_body pm_X9_checkSkill) (d) Q al (n) (g0) (sc) (ar) (sl) (tf) 0 [.int s] [] 0 0
  refine pk_iload_n dX9_checkSkill_0 rfl ?_
  refine pk_if_lt (tgt := 10) dX9_checkSkill_1 (by decide) (fun c1 => ?_) (fun c1 => ?_)
  ·
    have c19 := Int32.not_le.mpr c1
    exact pk_throwS dX9_checkSkill_10 dX9_checkSkill_13 dX9_checkSkill_14 dX9_checkSkill_16 dX9_checkSkill_19 th_X9_239_251 rfl (Nat.le_of_ble_eq_true rfl) (Nat.le_of_ble_eq_true rfl) (Nat.le_of_ble_eq_true rfl) hQ
  ·
    have c19 := Int32.not_lt.mp c1
    refine pk_iload_n dX9_checkSkill_4 rfl ?_
    refine pk_bipush dX9_checkSkill_5 (show (Int8.ofInt (8)).toInt32 = (8) by decide) ?_
    refine pk_icmp_lt (tgt := 20) dX9_checkSkill_7 (by decide) (fun c7 => absurd c7 (fun z => hs ⟨Int32.not_lt.mp c1, z⟩)) (fun c7 => ?_)
    exact pk_throwS dX9_checkSkill_10 dX9_checkSkill_13 dX9_checkSkill_14 dX9_checkSkill_16 dX9_checkSkill_19 th_X9_239_251 rfl (Nat.le_of_ble_eq_true rfl) (Nat.le_of_ble_eq_true rfl) (Nat.le_of_ble_eq_true rfl) hQ
set_option maxHeartbeats 4000000 in
set_option maxRecDepth 20000 in
theorem kp_checkWhat_ok {fx : px_F} {d : Nat} {Q : px_Q} {al : Nat → Nat} {n : Nat} {g0 : Nat → px_O} {sc ar : Nat → Nat → Int32} {sl : Value} {tf : Nat → Option Nat} {q b : Int32} (hw : 0 ≤ q ∧ q ≤ b) (hQ : kq Q (.inl none) al (n) (g0) (sc) (ar) (sl) (tf)) : kp fx (d + 1) 84 [.int q, .int b] Q al n (g0) (sc) (ar) (sl) (tf) := by
  refine kp.of pm_X9_checkWhat rfl rfl (Nat.le_of_ble_eq_true rfl) ?_
  show pk fx (px_body pm_X9_checkWhat) (d) Q al (n) (g0) (sc) (ar) (sl) (tf) 0 [.int q, .int b] [] 0 0
  refine pk_iload_n dX9_checkWhat_0 rfl ?_
  refine pk_if_lt (tgt := 9) dX9_checkWhat_1 (by decide) (fun c1 => absurd c1 (Int32.not_lt.mpr hw.1)) (fun c1 => ?_)
  refine pk_iload_n dX9_checkWhat_4 rfl ?_
  refine pk_iload_n dX9_checkWhat_5 rfl ?_
  refine pk_icmp_le (tgt := 19) dX9_checkWhat_6 (by decide) (fun c6 => ?_) (fun c6 => absurd hw.2 c6)
  exact pk_vret dX9_checkWhat_19 rfl (Nat.le_of_ble_eq_true rfl) (Nat.le_of_ble_eq_true rfl) hQ
set_option maxHeartbeats 4000000 in
set_option maxRecDepth 20000 in
theorem kp_checkWhat_bad {fx : px_F} {d : Nat} {Q : px_Q} {al : Nat → Nat} {n : Nat} {g0 : Nat → px_O} {sc ar : Nat → Nat → Int32} {sl : Value} {tf : Nat → Option Nat} {q b : Int32} (hw : ¬ (0 ≤ q ∧ q ≤ b)) (hQ : kq Q (.inr "java/util/NoSuchElementException") al (n) (g0) (sc) (ar) (sl) (tf)) : kp fx (d + 1) 84 [.int q, .int b] Q al n (g0) (sc) (ar) (sl) (tf) := by
  refine kp.of pm_X9_checkWhat rfl rfl (Nat.le_of_ble_eq_true rfl) ?_
  show pk fx (px_body pm_X9_checkWhat) (d) Q al (n) (g0) (sc) (ar) (sl) (tf) 0 [.int q, .int b] [] 0 0
  refine pk_iload_n dX9_checkWhat_0 rfl ?_
  refine pk_if_lt (tgt := 9) dX9_checkWhat_1 (by decide) (fun c1 => ?_) (fun c1 => ?_)
  ·
    have c19 := Int32.not_le.mpr c1
    exact pk_throwS dX9_checkWhat_9 dX9_checkWhat_12 dX9_checkWhat_13 dX9_checkWhat_15 dX9_checkWhat_18 th_X9_253_255 rfl (Nat.le_of_ble_eq_true rfl) (Nat.le_of_ble_eq_true rfl) (Nat.le_of_ble_eq_true rfl) hQ
  ·
    have c19 := Int32.not_lt.mp c1
    refine pk_iload_n dX9_checkWhat_4 rfl ?_
    refine pk_iload_n dX9_checkWhat_5 rfl ?_
    refine pk_icmp_le (tgt := 19) dX9_checkWhat_6 (by decide) (fun c6 => absurd c6 (fun z => hw ⟨Int32.not_lt.mp c1, z⟩)) (fun c6 => ?_)
    exact pk_throwS dX9_checkWhat_9 dX9_checkWhat_12 dX9_checkWhat_13 dX9_checkWhat_15 dX9_checkWhat_18 th_X9_253_255 rfl (Nat.le_of_ble_eq_true rfl) (Nat.le_of_ble_eq_true rfl) (Nat.le_of_ble_eq_true rfl) hQ
set_option maxHeartbeats 4000000 in
set_option maxRecDepth 20000 in
theorem kp_isSet {fx : px_F} {d : Nat} {Q : px_Q} {al : Nat → Nat} {n : Nat} {g0 : Nat → px_O} {sc ar : Nat → Nat → Int32} {sl : Value} {tf : Nat → Option Nat} {x : Int32} (hQ : kq Q (.inl (some (.int (zB (decide (0 ≤ x) && decide (x < 256)))))) al (n) (g0) (sc) (ar) (sl) (tf)) : kp fx (d + 1) 85 [.int x] Q al n (g0) (sc) (ar) (sl) (tf) := by
  refine kp.of pm_X9_isSet rfl rfl (Nat.le_of_ble_eq_true rfl) ?_
  show pk fx (px_body pm_X9_isSet) (d) Q al (n) (g0) (sc) (ar) (sl) (tf) 0 [.int x] [] 0 0
  refine pk_iload_n dX9_isSet_0 rfl ?_
  refine pk_if_lt (tgt := 15) dX9_isSet_1 (by decide) (fun c1 => ?_) (fun c1 => ?_)
  ·
    have c19 := Int32.not_le.mpr c1
    refine pk_iconst dX9_isSet_15 (show Int32.ofInt (0) = (0) by decide) ?_
    have e9 : (decide (0 ≤ x) && decide (x < 256)) = false := by
      rw [decide_eq_false (Int32.not_le.mpr c1), Bool.false_and]
    rw [e9] at hQ
    exact pk_iret dX9_isSet_16 rfl rfl (Nat.le_of_ble_eq_true rfl) (Nat.le_of_ble_eq_true rfl) hQ
  ·
    have c19 := Int32.not_lt.mp c1
    refine pk_iload_n dX9_isSet_4 rfl ?_
    refine pk_sipush dX9_isSet_5 (show (Int16.ofInt (256)).toInt32 = (256) by decide) ?_
    refine pk_icmp_ge (tgt := 15) dX9_isSet_8 (by decide) (fun c8 => ?_) (fun c8 => ?_)
    ·
      have c89 := Int32.not_lt.mpr c8
      refine pk_iconst dX9_isSet_15 (show Int32.ofInt (0) = (0) by decide) ?_
      have e9 : (decide (0 ≤ x) && decide (x < 256)) = false := by
        rw [decide_eq_false (Int32.not_lt.mpr c8), Bool.and_false]
      rw [e9] at hQ
      exact pk_iret dX9_isSet_16 rfl rfl (Nat.le_of_ble_eq_true rfl) (Nat.le_of_ble_eq_true rfl) hQ
    ·
      have c89 := Int32.not_le.mp c8
      refine pk_iconst dX9_isSet_11 (show Int32.ofInt (1) = (1) by decide) ?_
      refine pk_goto (tgt := 16) dX9_isSet_12 (by decide) ?_
      have e9 : (decide (0 ≤ x) && decide (x < 256)) = true := by
        rw [decide_eq_true (Int32.not_lt.mp c1), decide_eq_true (Int32.not_le.mp c8)]; rfl
      rw [e9] at hQ
      exact pk_iret dX9_isSet_16 rfl rfl (Nat.le_of_ble_eq_true rfl) (Nat.le_of_ble_eq_true rfl) hQ
def apW5 (f : Nat → Int32) (e : Nat) (a b c d h : Int32) : Nat → Int32 := apW (apW (apW (apW (apW f e a) (e + 4) b) (e + 4 + 4) c) (e + 4 + 4 + 4) d) (e + 4 + 4 + 4 + 4) h
set_option maxHeartbeats 4000000 in
set_option maxRecDepth 20000 in
theorem kp_feed_no {fx : px_F} {d : Nat} {Q : px_Q} {al : Nat → Nat} {n : Nat} {g0 : Nat → px_O} {sc ar : Nat → Nat → Int32} {sl : Value} {tf : Nat → Option Nat} {e : Nat} (he : sc 1 1 = nI e) (h4 : e ≤ 400) (h5 : ¬ e + 20 ≤ 400) (a b c x h : Int32) (hQ : kq Q (.inl (some (.int (-1)))) al (n) (g0) (sc) (ar) (sl) (tf)) : kp fx (d + 1) 62 [.ref (al 0), .int a, .int b, .int c, .int x, .int h] Q al n (g0) (sc) (ar) (sl) (tf) := by
  refine kp.of pm_X9_feed rfl rfl (Nat.le_of_ble_eq_true rfl) ?_
  show pk fx (px_body pm_X9_feed) (d) Q al (n) (g0) (sc) (ar) (sl) (tf) 0 [.ref (al 0), .int a, .int b, .int c, .int x, .int h] [] 0 0
  refine pk_aload_n dX9_feed_0 rfl rfl ?_
  refine pk_getR (c := 0) (d := 1) dX9_feed_1 fk_X9_12 (by decide) rfl rfl ?_
  refine pk_getSN (c := 1) (v := (nI e)) dX9_feed_4 fk_X9_61 (by decide) rfl rfl he ?_
  refine pk_bipush dX9_feed_7 (show (Int8.ofInt (20)).toInt32 = (20) by decide) ?_
  refine pk_iadd dX9_feed_9 ?_
  rw [show nI e + 20 = nI (e + 20) from nI_add e 20]
  refine pk_sipush dX9_feed_10 (show (Int16.ofInt (400)).toInt32 = (400) by decide) ?_
  refine pk_icmp_le (tgt := 18) dX9_feed_13 (by decide) (fun c13 => absurd c13 (nI_ge (a := 400) (by omega) (by omega))) (fun c13 => ?_)
  refine pk_iconst dX9_feed_16 (show Int32.ofInt (-1) = (-1) by decide) ?_
  exact pk_iret dX9_feed_17 rfl rfl (Nat.le_of_ble_eq_true rfl) (Nat.le_of_ble_eq_true rfl) hQ
set_option maxHeartbeats 4000000 in
set_option maxRecDepth 20000 in
theorem kp_feed_ok {fx : px_F} {d : Nat} {Q : px_Q} {al : Nat → Nat} {n : Nat} {g0 : Nat → px_O} {sc ar : Nat → Nat → Int32} {sl : Value} {tf : Nat → Option Nat} {e : Nat} (he : sc 1 1 = nI e) (h4 : e + 20 ≤ 400) (a b c x h : Int32) (hQ : kq Q (.inl (some (.int (nI (e + 20))))) al (n) (g0) (up2 sc 1 1 (nI (e + 20))) (va_up ar 2 (apW5 (ar 2) e a b c x h)) (sl) (tf)) : kp fx (d + 2) 62 [.ref (al 0), .int a, .int b, .int c, .int x, .int h] Q al n (g0) (sc) (ar) (sl) (tf) := by
  refine kp.of pm_X9_feed rfl rfl (Nat.le_of_ble_eq_true rfl) ?_
  show pk fx (px_body pm_X9_feed) (d + 1) Q al (n) (g0) (sc) (ar) (sl) (tf) 0 [.ref (al 0), .int a, .int b, .int c, .int x, .int h] [] 0 0
  refine pk_aload_n dX9_feed_0 rfl rfl ?_
  refine pk_getR (c := 0) (d := 1) dX9_feed_1 fk_X9_12 (by decide) rfl rfl ?_
  refine pk_getSN (c := 1) (v := (nI e)) dX9_feed_4 fk_X9_61 (by decide) rfl rfl he ?_
  refine pk_bipush dX9_feed_7 (show (Int8.ofInt (20)).toInt32 = (20) by decide) ?_
  refine pk_iadd dX9_feed_9 ?_
  rw [show nI e + 20 = nI (e + 20) from nI_add e 20]
  refine pk_sipush dX9_feed_10 (show (Int16.ofInt (400)).toInt32 = (400) by decide) ?_
  refine pk_icmp_le (tgt := 18) dX9_feed_13 (by decide) (fun c13 => ?_) (fun c13 => absurd (nI_le (b := 400) (by omega) (by decide)) c13)
  refine pk_aload_n dX9_feed_18 rfl rfl ?_
  refine pk_getR (c := 0) (d := 1) dX9_feed_19 fk_X9_12 (by decide) rfl rfl ?_
  refine pk_iload_n dX9_feed_22 rfl ?_
  refine pk_callN (c := 1) (As := fun al => [.int a]) dX9_feed_23 cl_X9_64 (by decide) rfl (cp_append d _ _ sl tf a (e := e) he (by omega)) (fun _ _ => trivial) rfl rfl (Nat.le_of_ble_eq_true rfl) ⟨rfl, rfl⟩ (Nat.le_of_ble_eq_true rfl) (Nat.le_of_ble_eq_true rfl) (fun r0 s0 a0 n0 => ?_)
  obtain ⟨rfl, rfl, rfl⟩ := n0
  refine pk_aload_n dX9_feed_26 rfl rfl ?_
  refine pk_getR (c := 0) (d := 1) dX9_feed_27 fk_X9_12 (by decide) rfl rfl ?_
  refine pk_iload_n dX9_feed_30 rfl ?_
  refine pk_callN (c := 1) (As := fun al => [.int b]) dX9_feed_31 cl_X9_64 (by decide) rfl (cp_append d _ _ sl tf b (e := e + 4) rfl (by omega)) (fun _ _ => trivial) rfl rfl (Nat.le_of_ble_eq_true rfl) ⟨rfl, rfl⟩ (Nat.le_of_ble_eq_true rfl) (Nat.le_of_ble_eq_true rfl) (fun r1 s1 a1 n1 => ?_)
  obtain ⟨rfl, rfl, rfl⟩ := n1
  rw [up2_up2, va_up_self, va_3]
  refine pk_aload_n dX9_feed_34 rfl rfl ?_
  refine pk_getR (c := 0) (d := 1) dX9_feed_35 fk_X9_12 (by decide) rfl rfl ?_
  refine pk_iload_n dX9_feed_38 rfl ?_
  refine pk_callN (c := 1) (As := fun al => [.int c]) dX9_feed_39 cl_X9_64 (by decide) rfl (cp_append d _ _ sl tf c (e := e + 4 + 4) rfl (by omega)) (fun _ _ => trivial) rfl rfl (Nat.le_of_ble_eq_true rfl) ⟨rfl, rfl⟩ (Nat.le_of_ble_eq_true rfl) (Nat.le_of_ble_eq_true rfl) (fun r2 s2 a2 n2 => ?_)
  obtain ⟨rfl, rfl, rfl⟩ := n2
  rw [up2_up2, va_up_self, va_3]
  refine pk_aload_n dX9_feed_42 rfl rfl ?_
  refine pk_getR (c := 0) (d := 1) dX9_feed_43 fk_X9_12 (by decide) rfl rfl ?_
  refine pk_iload dX9_feed_46 rfl ?_
  refine pk_callN (c := 1) (As := fun al => [.int x]) dX9_feed_48 cl_X9_64 (by decide) rfl (cp_append d _ _ sl tf x (e := e + 4 + 4 + 4) rfl (by omega)) (fun _ _ => trivial) rfl rfl (Nat.le_of_ble_eq_true rfl) ⟨rfl, rfl⟩ (Nat.le_of_ble_eq_true rfl) (Nat.le_of_ble_eq_true rfl) (fun r3 s3 a3 n3 => ?_)
  obtain ⟨rfl, rfl, rfl⟩ := n3
  rw [up2_up2, va_up_self, va_3]
  refine pk_aload_n dX9_feed_51 rfl rfl ?_
  refine pk_getR (c := 0) (d := 1) dX9_feed_52 fk_X9_12 (by decide) rfl rfl ?_
  refine pk_iload dX9_feed_55 rfl ?_
  refine pk_callN (c := 1) (As := fun al => [.int h]) dX9_feed_57 cl_X9_64 (by decide) rfl (cp_append d _ _ sl tf h (e := e + 4 + 4 + 4 + 4) rfl (by omega)) (fun _ _ => trivial) rfl rfl (Nat.le_of_ble_eq_true rfl) ⟨rfl, rfl⟩ (Nat.le_of_ble_eq_true rfl) (Nat.le_of_ble_eq_true rfl) (fun r4 s4 a4 n4 => ?_)
  obtain ⟨rfl, rfl, rfl⟩ := n4
  rw [up2_up2, va_up_self, va_3]
  refine pk_aload_n dX9_feed_60 rfl rfl ?_
  refine pk_getR (c := 0) (d := 1) dX9_feed_61 fk_X9_12 (by decide) rfl rfl ?_
  refine pk_getSN (c := 1) (v := (nI (e + 20))) dX9_feed_64 fk_X9_61 (by decide) rfl rfl rfl ?_
  exact pk_iret dX9_feed_67 rfl rfl (Nat.le_of_ble_eq_true rfl) (Nat.le_of_ble_eq_true rfl) hQ
set_option maxHeartbeats 4000000 in
set_option maxRecDepth 20000 in
theorem kp_end_ok {fx : px_F} {d : Nat} {Q : px_Q} {al : Nat → Nat} {n : Nat} {g0 : Nat → px_O} {sc ar : Nat → Nat → Int32} {sl : Value} {tf : Nat → Option Nat} {v : Int32} (h1 : 0 ≤ v) (h2 : v ≤ sc 1 1) (hQ : kq Q (.inl (some (.int 1))) al (n) (g0) (up2 sc 1 1 v) (ar) (sl) (tf)) : kp fx (d + 1) 63 [.ref (al 0), .int v] Q al n (g0) (sc) (ar) (sl) (tf) := by
  refine kp.of pm_X9_end rfl rfl (Nat.le_of_ble_eq_true rfl) ?_
  show pk fx (px_body pm_X9_end) (d) Q al (n) (g0) (sc) (ar) (sl) (tf) 0 [.ref (al 0), .int v] [] 0 0
  refine pk_iload_n dX9_end_0 rfl ?_
  refine pk_if_lt (tgt := 15) dX9_end_1 (by decide) (fun c1 => absurd c1 (Int32.not_lt.mpr h1)) (fun c1 => ?_)
  refine pk_iload_n dX9_end_4 rfl ?_
  refine pk_aload_n dX9_end_5 rfl rfl ?_
  refine pk_getR (c := 0) (d := 1) dX9_end_6 fk_X9_12 (by decide) rfl rfl ?_
  refine pk_getSN (c := 1) (v := (sc 1 1)) dX9_end_9 fk_X9_61 (by decide) rfl rfl rfl ?_
  refine pk_icmp_le (tgt := 17) dX9_end_12 (by decide) (fun c12 => ?_) (fun c12 => absurd h2 c12)
  refine pk_aload_n dX9_end_17 rfl rfl ?_
  refine pk_getR (c := 0) (d := 1) dX9_end_18 fk_X9_12 (by decide) rfl rfl ?_
  refine pk_iload_n dX9_end_21 rfl ?_
  refine pk_putN (c := 1) dX9_end_22 fk_X9_61 (by decide) rfl rfl ⟨_, _, _, rfl, rfl⟩ rfl rfl ?_
  refine pk_iconst dX9_end_25 (show Int32.ofInt (1) = (1) by decide) ?_
  exact pk_iret dX9_end_26 rfl rfl (Nat.le_of_ble_eq_true rfl) (Nat.le_of_ble_eq_true rfl) hQ
set_option maxHeartbeats 4000000 in
set_option maxRecDepth 20000 in
theorem kp_end_no {fx : px_F} {d : Nat} {Q : px_Q} {al : Nat → Nat} {n : Nat} {g0 : Nat → px_O} {sc ar : Nat → Nat → Int32} {sl : Value} {tf : Nat → Option Nat} {v : Int32} (h : ¬ (0 ≤ v ∧ v ≤ sc 1 1)) (hQ : kq Q (.inl (some (.int 0))) al (n) (g0) (sc) (ar) (sl) (tf)) : kp fx (d + 1) 63 [.ref (al 0), .int v] Q al n (g0) (sc) (ar) (sl) (tf) := by
  refine kp.of pm_X9_end rfl rfl (Nat.le_of_ble_eq_true rfl) ?_
  show pk fx (px_body pm_X9_end) (d) Q al (n) (g0) (sc) (ar) (sl) (tf) 0 [.ref (al 0), .int v] [] 0 0
  refine pk_iload_n dX9_end_0 rfl ?_
  refine pk_if_lt (tgt := 15) dX9_end_1 (by decide) (fun c1 => ?_) (fun c1 => ?_)
  ·
    have c19 := Int32.not_le.mpr c1
    refine pk_iconst dX9_end_15 (show Int32.ofInt (0) = (0) by decide) ?_
    exact pk_iret dX9_end_16 rfl rfl (Nat.le_of_ble_eq_true rfl) (Nat.le_of_ble_eq_true rfl) hQ
  ·
    have c19 := Int32.not_lt.mp c1
    refine pk_iload_n dX9_end_4 rfl ?_
    refine pk_aload_n dX9_end_5 rfl rfl ?_
    refine pk_getR (c := 0) (d := 1) dX9_end_6 fk_X9_12 (by decide) rfl rfl ?_
    refine pk_getSN (c := 1) (v := (sc 1 1)) dX9_end_9 fk_X9_61 (by decide) rfl rfl rfl ?_
    refine pk_icmp_le (tgt := 17) dX9_end_12 (by decide) (fun c12 => absurd c12 (fun z => h ⟨Int32.not_lt.mp c1, z⟩)) (fun c12 => ?_)
    refine pk_iconst dX9_end_15 (show Int32.ofInt (0) = (0) by decide) ?_
    exact pk_iret dX9_end_16 rfl rfl (Nat.le_of_ble_eq_true rfl) (Nat.le_of_ble_eq_true rfl) hQ
set_option maxHeartbeats 4000000 in
set_option maxRecDepth 20000 in
theorem kp_fault {fx : px_F} {d : Nat} {Q : px_Q} {al : Nat → Nat} {n : Nat} {g0 : Nat → px_O} {sc ar : Nat → Nat → Int32} {sl : Value} {tf : Nat → Option Nat} (hQ : kq Q (.inl (some (.int (sc 0 8)))) al (n) (g0) (sc) (ar) (sl) (tf)) : kp fx (d + 1) 65 [.ref (al 0)] Q al n (g0) (sc) (ar) (sl) (tf) := by
  refine kp.of pm_X9_fault rfl rfl (Nat.le_of_ble_eq_true rfl) ?_
  show pk fx (px_body pm_X9_fault) (d) Q al (n) (g0) (sc) (ar) (sl) (tf) 0 [.ref (al 0)] [] 0 0
  refine pk_aload_n dX9_fault_0 rfl rfl ?_
  refine pk_getS (c := 0) (v := (sc 0 8)) dX9_fault_1 fk_X9_56 (by decide) rfl rfl rfl ?_
  exact pk_iret dX9_fault_4 rfl rfl (Nat.le_of_ble_eq_true rfl) (Nat.le_of_ble_eq_true rfl) hQ
set_option maxHeartbeats 4000000 in
set_option maxRecDepth 20000 in
theorem kp_token_null {fx : px_F} {d : Nat} {Q : px_Q} {al : Nat → Nat} {n : Nat} {g0 : Nat → px_O} {sc ar : Nat → Nat → Int32} {tf : Nat → Option Nat} {i : Int32} (hQ : kq Q (.inl (some (.int (-1)))) al (n) (g0) (sc) (ar) (.null) (tf)) : kp fx (d + 1) 77 [.ref (al 0), .int i] Q al n (g0) (sc) (ar) (.null) (tf) := by
  refine kp.of pm_X9_token rfl rfl (Nat.le_of_ble_eq_true rfl) ?_
  show pk fx (px_body pm_X9_token) (d) Q al (n) (g0) (sc) (ar) (.null) (tf) 0 [.ref (al 0), .int i] [] 0 0
  refine pk_aload_n dX9_token_0 rfl rfl ?_
  refine pk_getL dX9_token_1 fk_X9_83 ?_
  refine pk_ifnonnull (tgt := 11) dX9_token_4 (by decide) rfl (fun _ z => by cases z) (fun c4 => ?_)
  refine pk_iconst dX9_token_7 (show Int32.ofInt (-1) = (-1) by decide) ?_
  refine pk_goto (tgt := 19) dX9_token_8 (by decide) ?_
  exact pk_iret dX9_token_19 rfl rfl (Nat.le_of_ble_eq_true rfl) (Nat.le_of_ble_eq_true rfl) hQ
set_option maxHeartbeats 4000000 in
set_option maxRecDepth 20000 in
theorem kp_token_in {fx : px_F} {d : Nat} {Q : px_Q} {al : Nat → Nat} {n : Nat} {g0 : Nat → px_O} {sc ar : Nat → Nat → Int32} {tf : Nat → Option Nat} {P m L : Nat} {S O A : Nat → Int32} {bd : Bool} (hP : PG al n g0 P m L S O A bd) (hm : m ≤ 120) {i : Nat} (hi : i < m) (hQ : kq Q (.inl (some (.int (S i)))) al (n) (g0) (sc) (ar) (.ref (al P)) (tf)) : kp fx (d + 2) 77 [.ref (al 0), .int (nI i)] Q al n (g0) (sc) (ar) (.ref (al P)) (tf) := by
  refine kp.of pm_X9_token rfl rfl (Nat.le_of_ble_eq_true rfl) ?_
  show pk fx (px_body pm_X9_token) (d + 1) Q al (n) (g0) (sc) (ar) (.ref (al P)) (tf) 0 [.ref (al 0), .int (nI i)] [] 0 0
  obtain ⟨p1, p2, ⟨f, q1, _⟩, _⟩ := id hP
  refine pk_aload_n dX9_token_0 rfl rfl ?_
  refine pk_getL dX9_token_1 fk_X9_83 ?_
  refine pk_ifnonnull (tgt := 11) dX9_token_4 (by decide) rfl (fun a4 c4 => ?_) (fun z => by cases z)
  refine pk_aload_n dX9_token_11 rfl rfl ?_
  refine pk_getL dX9_token_12 fk_X9_83 ?_
  refine pk_iload_n dX9_token_15 rfl ?_
  refine pk_callDN (As := fun al => [.int (nI i)]) dX9_token_16 cl_X9_229 p1 (by omega) q1 (dp_tokenAt_in d (P := P) (by omega) hi) (fun g hF => hP.fr hF) rfl rfl (Nat.le_of_ble_eq_true rfl) ⟨rfl, rfl⟩ (Nat.le_of_ble_eq_true rfl) (Nat.le_of_ble_eq_true rfl) ?_
  exact pk_iret dX9_token_19 rfl rfl (Nat.le_of_ble_eq_true rfl) (Nat.le_of_ble_eq_true rfl) hQ
set_option maxHeartbeats 4000000 in
set_option maxRecDepth 20000 in
theorem kp_token_out {fx : px_F} {d : Nat} {Q : px_Q} {al : Nat → Nat} {n : Nat} {g0 : Nat → px_O} {sc ar : Nat → Nat → Int32} {tf : Nat → Option Nat} {P m L : Nat} {S O A : Nat → Int32} {bd : Bool} (hP : PG al n g0 P m L S O A bd) (hm : m ≤ 120) {i : Int32} (hi : ¬ (0 ≤ i ∧ i < nI m)) (hQ : kq Q (.inl (some (.int (-1)))) al (n) (g0) (sc) (ar) (.ref (al P)) (tf)) : kp fx (d + 2) 77 [.ref (al 0), .int i] Q al n (g0) (sc) (ar) (.ref (al P)) (tf) := by
  refine kp.of pm_X9_token rfl rfl (Nat.le_of_ble_eq_true rfl) ?_
  show pk fx (px_body pm_X9_token) (d + 1) Q al (n) (g0) (sc) (ar) (.ref (al P)) (tf) 0 [.ref (al 0), .int i] [] 0 0
  obtain ⟨p1, p2, ⟨f, q1, _⟩, _⟩ := id hP
  refine pk_aload_n dX9_token_0 rfl rfl ?_
  refine pk_getL dX9_token_1 fk_X9_83 ?_
  refine pk_ifnonnull (tgt := 11) dX9_token_4 (by decide) rfl (fun a4 c4 => ?_) (fun z => by cases z)
  refine pk_aload_n dX9_token_11 rfl rfl ?_
  refine pk_getL dX9_token_12 fk_X9_83 ?_
  refine pk_iload_n dX9_token_15 rfl ?_
  refine pk_callDN (As := fun al => [.int i]) dX9_token_16 cl_X9_229 p1 (by omega) q1 (dp_tokenAt_no d (P := P) hi) (fun g hF => hP.fr hF) rfl rfl (Nat.le_of_ble_eq_true rfl) ⟨rfl, rfl⟩ (Nat.le_of_ble_eq_true rfl) (Nat.le_of_ble_eq_true rfl) ?_
  exact pk_iret dX9_token_19 rfl rfl (Nat.le_of_ble_eq_true rfl) (Nat.le_of_ble_eq_true rfl) hQ
set_option maxHeartbeats 4000000 in
set_option maxRecDepth 20000 in
theorem kp_count0 {fx : px_F} {d : Nat} {Q : px_Q} {al : Nat → Nat} {n : Nat} {g0 : Nat → px_O} {sc ar : Nat → Nat → Int32} {sl : Value} {tf : Nat → Option Nat} (hQ : kq Q (.inl (some (.int (sc 0 9)))) al (n) (g0) (sc) (ar) (sl) (tf)) : kp fx (d + 1) 78 [.ref (al 0), .int 0] Q al n (g0) (sc) (ar) (sl) (tf) := by
  refine kp.of pm_X9_count rfl rfl (Nat.le_of_ble_eq_true rfl) ?_
  show pk fx (px_body pm_X9_count) (d) Q al (n) (g0) (sc) (ar) (sl) (tf) 0 [.ref (al 0), .int 0] [] 0 0
  refine pk_iload_n dX9_count_0 rfl ?_
  refine pk_tableIn (tgt := 36) dX9_count_1 (by decide) (by decide) rfl (by decide) ?_
  refine pk_aload_n dX9_count_36 rfl rfl ?_
  refine pk_getS (c := 0) (v := (sc 0 9)) dX9_count_37 fk_X9_124 (by decide) rfl rfl rfl ?_
  exact pk_iret dX9_count_40 rfl rfl (Nat.le_of_ble_eq_true rfl) (Nat.le_of_ble_eq_true rfl) hQ
set_option maxHeartbeats 4000000 in
set_option maxRecDepth 20000 in
theorem kp_count2 {fx : px_F} {d : Nat} {Q : px_Q} {al : Nat → Nat} {n : Nat} {g0 : Nat → px_O} {sc ar : Nat → Nat → Int32} {sl : Value} {tf : Nat → Option Nat} (hQ : kq Q (.inl (some (.int (sc 0 10)))) al (n) (g0) (sc) (ar) (sl) (tf)) : kp fx (d + 1) 78 [.ref (al 0), .int 2] Q al n (g0) (sc) (ar) (sl) (tf) := by
  refine kp.of pm_X9_count rfl rfl (Nat.le_of_ble_eq_true rfl) ?_
  show pk fx (px_body pm_X9_count) (d) Q al (n) (g0) (sc) (ar) (sl) (tf) 0 [.ref (al 0), .int 2] [] 0 0
  refine pk_iload_n dX9_count_0 rfl ?_
  refine pk_tableIn (tgt := 60) dX9_count_1 (by decide) (by decide) rfl (by decide) ?_
  refine pk_aload_n dX9_count_60 rfl rfl ?_
  refine pk_getS (c := 0) (v := (sc 0 10)) dX9_count_61 fk_X9_87 (by decide) rfl rfl rfl ?_
  exact pk_iret dX9_count_64 rfl rfl (Nat.le_of_ble_eq_true rfl) (Nat.le_of_ble_eq_true rfl) hQ
set_option maxHeartbeats 4000000 in
set_option maxRecDepth 20000 in
theorem kp_count3 {fx : px_F} {d : Nat} {Q : px_Q} {al : Nat → Nat} {n : Nat} {g0 : Nat → px_O} {sc ar : Nat → Nat → Int32} {sl : Value} {tf : Nat → Option Nat} (hQ : kq Q (.inl (some (.int (sc 0 11)))) al (n) (g0) (sc) (ar) (sl) (tf)) : kp fx (d + 1) 78 [.ref (al 0), .int 3] Q al n (g0) (sc) (ar) (sl) (tf) := by
  refine kp.of pm_X9_count rfl rfl (Nat.le_of_ble_eq_true rfl) ?_
  show pk fx (px_body pm_X9_count) (d) Q al (n) (g0) (sc) (ar) (sl) (tf) 0 [.ref (al 0), .int 3] [] 0 0
  refine pk_iload_n dX9_count_0 rfl ?_
  refine pk_tableIn (tgt := 65) dX9_count_1 (by decide) (by decide) rfl (by decide) ?_
  refine pk_aload_n dX9_count_65 rfl rfl ?_
  refine pk_getS (c := 0) (v := (sc 0 11)) dX9_count_66 fk_X9_149 (by decide) rfl rfl rfl ?_
  exact pk_iret dX9_count_69 rfl rfl (Nat.le_of_ble_eq_true rfl) (Nat.le_of_ble_eq_true rfl) hQ
set_option maxHeartbeats 4000000 in
set_option maxRecDepth 20000 in
theorem kp_count4 {fx : px_F} {d : Nat} {Q : px_Q} {al : Nat → Nat} {n : Nat} {g0 : Nat → px_O} {sc ar : Nat → Nat → Int32} {sl : Value} {tf : Nat → Option Nat} (hQ : kq Q (.inl (some (.int (sc 0 12)))) al (n) (g0) (sc) (ar) (sl) (tf)) : kp fx (d + 1) 78 [.ref (al 0), .int 4] Q al n (g0) (sc) (ar) (sl) (tf) := by
  refine kp.of pm_X9_count rfl rfl (Nat.le_of_ble_eq_true rfl) ?_
  show pk fx (px_body pm_X9_count) (d) Q al (n) (g0) (sc) (ar) (sl) (tf) 0 [.ref (al 0), .int 4] [] 0 0
  refine pk_iload_n dX9_count_0 rfl ?_
  refine pk_tableIn (tgt := 70) dX9_count_1 (by decide) (by decide) rfl (by decide) ?_
  refine pk_aload_n dX9_count_70 rfl rfl ?_
  refine pk_getS (c := 0) (v := (sc 0 12)) dX9_count_71 fk_X9_162 (by decide) rfl rfl rfl ?_
  exact pk_iret dX9_count_74 rfl rfl (Nat.le_of_ble_eq_true rfl) (Nat.le_of_ble_eq_true rfl) hQ
set_option maxHeartbeats 4000000 in
set_option maxRecDepth 20000 in
theorem kp_count1_null {fx : px_F} {d : Nat} {Q : px_Q} {al : Nat → Nat} {n : Nat} {g0 : Nat → px_O} {sc ar : Nat → Nat → Int32} {tf : Nat → Option Nat} (hQ : kq Q (.inl (some (.int 0))) al (n) (g0) (sc) (ar) (.null) (tf)) : kp fx (d + 1) 78 [.ref (al 0), .int 1] Q al n (g0) (sc) (ar) (.null) (tf) := by
  refine kp.of pm_X9_count rfl rfl (Nat.le_of_ble_eq_true rfl) ?_
  show pk fx (px_body pm_X9_count) (d) Q al (n) (g0) (sc) (ar) (.null) (tf) 0 [.ref (al 0), .int 1] [] 0 0
  refine pk_iload_n dX9_count_0 rfl ?_
  refine pk_tableIn (tgt := 41) dX9_count_1 (by decide) (by decide) rfl (by decide) ?_
  refine pk_aload_n dX9_count_41 rfl rfl ?_
  refine pk_getL dX9_count_42 fk_X9_83 ?_
  refine pk_ifnonnull (tgt := 52) dX9_count_45 (by decide) rfl (fun _ z => by cases z) (fun c45 => ?_)
  refine pk_iconst dX9_count_48 (show Int32.ofInt (0) = (0) by decide) ?_
  refine pk_goto (tgt := 59) dX9_count_49 (by decide) ?_
  exact pk_iret dX9_count_59 rfl rfl (Nat.le_of_ble_eq_true rfl) (Nat.le_of_ble_eq_true rfl) hQ
set_option maxHeartbeats 4000000 in
set_option maxRecDepth 20000 in
theorem kp_count1 {fx : px_F} {d : Nat} {Q : px_Q} {al : Nat → Nat} {n : Nat} {g0 : Nat → px_O} {sc ar : Nat → Nat → Int32} {tf : Nat → Option Nat} {P m L : Nat} {S O A : Nat → Int32} {bd : Bool} (hP : PG al n g0 P m L S O A bd) (hm : m ≤ 120) (hQ : kq Q (.inl (some (.int (nI m)))) al (n) (g0) (sc) (ar) (.ref (al P)) (tf)) : kp fx (d + 2) 78 [.ref (al 0), .int 1] Q al n (g0) (sc) (ar) (.ref (al P)) (tf) := by
  refine kp.of pm_X9_count rfl rfl (Nat.le_of_ble_eq_true rfl) ?_
  show pk fx (px_body pm_X9_count) (d + 1) Q al (n) (g0) (sc) (ar) (.ref (al P)) (tf) 0 [.ref (al 0), .int 1] [] 0 0
  obtain ⟨p1, p2, ⟨f, q1, _⟩, _⟩ := id hP
  refine pk_iload_n dX9_count_0 rfl ?_
  refine pk_tableIn (tgt := 41) dX9_count_1 (by decide) (by decide) rfl (by decide) ?_
  refine pk_aload_n dX9_count_41 rfl rfl ?_
  refine pk_getL dX9_count_42 fk_X9_83 ?_
  refine pk_ifnonnull (tgt := 52) dX9_count_45 (by decide) rfl (fun a45 c45 => ?_) (fun z => by cases z)
  refine pk_aload_n dX9_count_52 rfl rfl ?_
  refine pk_getL dX9_count_53 fk_X9_83 ?_
  refine pk_callDN (As := fun al => []) dX9_count_56 cl_X9_90 p1 (by omega) q1 (dp_size d (P := P)) (fun g hF => hP.fr hF) rfl rfl (Nat.le_of_ble_eq_true rfl) ⟨rfl, rfl⟩ (Nat.le_of_ble_eq_true rfl) (Nat.le_of_ble_eq_true rfl) ?_
  exact pk_iret dX9_count_59 rfl rfl (Nat.le_of_ble_eq_true rfl) (Nat.le_of_ble_eq_true rfl) hQ
set_option maxHeartbeats 4000000 in
set_option maxRecDepth 20000 in
theorem kp_count_no {fx : px_F} {d : Nat} {Q : px_Q} {al : Nat → Nat} {n : Nat} {g0 : Nat → px_O} {sc ar : Nat → Nat → Int32} {sl : Value} {tf : Nat → Option Nat} {q : Int32} (hq : q.toInt < 0 ∨ 4 < q.toInt) (hQ : kq Q (.inl (some (.int (-1)))) al (n) (g0) (sc) (ar) (sl) (tf)) : kp fx (d + 1) 78 [.ref (al 0), .int q] Q al n (g0) (sc) (ar) (sl) (tf) := by
  refine kp.of pm_X9_count rfl rfl (Nat.le_of_ble_eq_true rfl) ?_
  show pk fx (px_body pm_X9_count) (d) Q al (n) (g0) (sc) (ar) (sl) (tf) 0 [.ref (al 0), .int q] [] 0 0
  refine pk_iload_n dX9_count_0 rfl ?_
  refine pk_tableOut (tgt := 75) dX9_count_1 hq (by decide) ?_
  refine pk_iconst dX9_count_75 (show Int32.ofInt (-1) = (-1) by decide) ?_
  exact pk_iret dX9_count_76 rfl rfl (Nat.le_of_ble_eq_true rfl) (Nat.le_of_ble_eq_true rfl) hQ
set_option maxHeartbeats 4000000 in
set_option maxRecDepth 20000 in
theorem kp_can_ok {fx : px_F} {d : Nat} {Q : px_Q} {al : Nat → Nat} {n : Nat} {g0 : Nat → px_O} {sc ar : Nat → Nat → Int32} {sl : Value} {tf : Nat → Option Nat} {l s : Nat} (hl : l < 8) (hs : s < 8) (hQ : kq Q (.inl (some (.int (ar (21 + 2 * l) s)))) al (n) (g0) (sc) (ar) (sl) (tf)) : kp fx (d + 2) 70 [.ref (al 0), .int (nI l), .int (nI s)] Q al n (g0) (sc) (ar) (sl) (tf) := by
  refine kp.of pm_X9_can rfl rfl (Nat.le_of_ble_eq_true rfl) ?_
  show pk fx (px_body pm_X9_can) (d + 1) Q al (n) (g0) (sc) (ar) (sl) (tf) 0 [.ref (al 0), .int (nI l), .int (nI s), .float 0] [] 0 0
  refine pk_aload_n dX9_can_0 rfl rfl ?_
  refine pk_iload_n dX9_can_1 rfl ?_
  refine pk_kV (c := 0) (As := [.int (nI l)]) dX9_can_2 cl_X9_142 (by decide) rfl rfl rfl (Nat.le_of_ble_eq_true rfl) (Nat.le_of_ble_eq_true rfl) (Nat.le_of_ble_eq_true rfl) ?_
  refine kp_learnerAt_ok (d := d) hl (kq_aft ?_)
  refine pk_astore_n dX9_can_5 (Nat.le_of_ble_eq_true rfl) rfl ?_
  refine pk_iload_n dX9_can_6 rfl ?_
  refine pk_kS (As := [.int (nI s)]) dX9_can_7 cl_X9_175 rfl rfl (Nat.le_of_ble_eq_true rfl) (Nat.le_of_ble_eq_true rfl) (Nat.le_of_ble_eq_true rfl) ?_
  refine kp_checkSkill_ok (d := d) hs (kq_aft ?_)
  refine pk_aload_n dX9_can_10 rfl rfl ?_
  refine pk_getRN (c := (20 + 2 * l)) (d := (21 + 2 * l)) dX9_can_11 fk_X9_178 (by omega) (lrn_c hl) (lrn_k hl) ?_
  refine pk_iload_n dX9_can_14 rfl ?_
  refine pk_iald (c := (21 + 2 * l)) (v := (ar (21 + 2 * l) s)) (j := s) dX9_can_15 (by omega) (lrn_n hl) (lrn_a hl) rfl hs (by decide) rfl ?_
  exact pk_iret dX9_can_16 rfl rfl (Nat.le_of_ble_eq_true rfl) (Nat.le_of_ble_eq_true rfl) hQ
set_option maxHeartbeats 4000000 in
set_option maxRecDepth 20000 in
theorem kp_can_bad1 {fx : px_F} {d : Nat} {Q : px_Q} {al : Nat → Nat} {n : Nat} {g0 : Nat → px_O} {sc ar : Nat → Nat → Int32} {sl : Value} {tf : Nat → Option Nat} {l : Int32} (s : Int32) (hl : ¬ (0 ≤ l ∧ l < 8)) (hQ : kq Q (.inr "java/lang/IndexOutOfBoundsException") al (n) (g0) (sc) (ar) (sl) (tf)) : kp fx (d + 2) 70 [.ref (al 0), .int l, .int s] Q al n (g0) (sc) (ar) (sl) (tf) := by
  refine kp.of pm_X9_can rfl rfl (Nat.le_of_ble_eq_true rfl) ?_
  show pk fx (px_body pm_X9_can) (d + 1) Q al (n) (g0) (sc) (ar) (sl) (tf) 0 [.ref (al 0), .int l, .int s, .float 0] [] 0 0
  refine pk_aload_n dX9_can_0 rfl rfl ?_
  refine pk_iload_n dX9_can_1 rfl ?_
  refine pk_kV (c := 0) (As := [.int l]) dX9_can_2 cl_X9_142 (by decide) rfl rfl rfl (Nat.le_of_ble_eq_true rfl) (Nat.le_of_ble_eq_true rfl) (Nat.le_of_ble_eq_true rfl) ?_
  exact kp_learnerAt_bad (d := d) hl (kq_exc rfl hQ)
set_option maxHeartbeats 4000000 in
set_option maxRecDepth 20000 in
theorem kp_can_bad2 {fx : px_F} {d : Nat} {Q : px_Q} {al : Nat → Nat} {n : Nat} {g0 : Nat → px_O} {sc ar : Nat → Nat → Int32} {sl : Value} {tf : Nat → Option Nat} {l : Nat} {s : Int32} (hl : l < 8) (hs : ¬ (0 ≤ s ∧ s < 8)) (hQ : kq Q (.inr "java/lang/IndexOutOfBoundsException") al (n) (g0) (sc) (ar) (sl) (tf)) : kp fx (d + 2) 70 [.ref (al 0), .int (nI l), .int s] Q al n (g0) (sc) (ar) (sl) (tf) := by
  refine kp.of pm_X9_can rfl rfl (Nat.le_of_ble_eq_true rfl) ?_
  show pk fx (px_body pm_X9_can) (d + 1) Q al (n) (g0) (sc) (ar) (sl) (tf) 0 [.ref (al 0), .int (nI l), .int s, .float 0] [] 0 0
  refine pk_aload_n dX9_can_0 rfl rfl ?_
  refine pk_iload_n dX9_can_1 rfl ?_
  refine pk_kV (c := 0) (As := [.int (nI l)]) dX9_can_2 cl_X9_142 (by decide) rfl rfl rfl (Nat.le_of_ble_eq_true rfl) (Nat.le_of_ble_eq_true rfl) (Nat.le_of_ble_eq_true rfl) ?_
  refine kp_learnerAt_ok (d := d) hl (kq_aft ?_)
  refine pk_astore_n dX9_can_5 (Nat.le_of_ble_eq_true rfl) rfl ?_
  refine pk_iload_n dX9_can_6 rfl ?_
  refine pk_kS (As := [.int s]) dX9_can_7 cl_X9_175 rfl rfl (Nat.le_of_ble_eq_true rfl) (Nat.le_of_ble_eq_true rfl) (Nat.le_of_ble_eq_true rfl) ?_
  exact kp_checkSkill_bad (d := d) hs (kq_exc rfl hQ)
set_option maxHeartbeats 4000000 in
set_option maxRecDepth 20000 in
theorem kp_passed_ok {fx : px_F} {d : Nat} {Q : px_Q} {al : Nat → Nat} {n : Nat} {g0 : Nat → px_O} {sc ar : Nat → Nat → Int32} {sl : Value} {tf : Nat → Option Nat} {TT : Nat} (hT : sc 0 9 = nI TT) (hTT : TT ≤ 10) {t Tc : Nat} (ht : t < TT) (e1 : tf t = some (al Tc)) {nd sh : Int32} {w y : Nat} {WA WB WR : Nat → Int32} {Y F : Nat → Option Nat} (hK : TK al (n) (g0) Tc nd sh (w) (y) (WA) (WB) (WR) (Y) (F)) {l : Nat} (hl : l < 8) (hQ : kq Q (.inl (some (.int (zB (F l).isSome)))) al (n) (g0) (sc) (ar) (sl) (tf)) : kp fx (d + 2) 71 [.ref (al 0), .int (nI l), .int (nI t)] Q al n (g0) (sc) (ar) (sl) (tf) := by
  refine kp.of pm_X9_passed rfl rfl (Nat.le_of_ble_eq_true rfl) ?_
  show pk fx (px_body pm_X9_passed) (d + 1) Q al (n) (g0) (sc) (ar) (sl) (tf) 0 [.ref (al 0), .int (nI l), .int (nI t)] [] 0 0
  obtain ⟨p1, p2, ⟨f, q0, q1, q2, q3, q4, q5, q6, q7, q8, q9⟩, r1, r2, r3, r4, r5⟩ := id hK
  refine pk_aload_n dX9_passed_0 rfl rfl ?_
  refine pk_iload_n dX9_passed_1 rfl ?_
  refine pk_kV (c := 0) (As := [.int (nI l)]) dX9_passed_2 cl_X9_142 (by decide) rfl rfl rfl (Nat.le_of_ble_eq_true rfl) (Nat.le_of_ble_eq_true rfl) (Nat.le_of_ble_eq_true rfl) ?_
  refine kp_learnerAt_ok (d := d) hl (kq_aft ?_)
  refine pk_pop dX9_passed_5 rfl ?_
  refine pk_aload_n dX9_passed_6 rfl rfl ?_
  refine pk_iload_n dX9_passed_7 rfl ?_
  refine pk_kV (c := 0) (As := [.int (nI t)]) dX9_passed_8 cl_X9_134 (by decide) rfl rfl rfl (Nat.le_of_ble_eq_true rfl) (Nat.le_of_ble_eq_true rfl) (Nat.le_of_ble_eq_true rfl) ?_
  refine kp_taskAt_ok (d := d) hT hTT ht e1 (kq_aft ?_)
  refine pk_iload_n dX9_passed_11 rfl ?_
  refine pk_callDN (As := fun al => [.int (nI l)]) dX9_passed_12 cl_X9_165 p1 (by omega) q0 (dp_isPassedBy d (T := Tc) hl) (fun g hF => hK.fr (Nat.le_refl _) (fun _ _ => rfl) (fun k h1 _ => hF k (by omega))) rfl rfl (Nat.le_of_ble_eq_true rfl) ⟨rfl, rfl⟩ (Nat.le_of_ble_eq_true rfl) (Nat.le_of_ble_eq_true rfl) ?_
  exact pk_iret dX9_passed_15 rfl (by generalize (F l).isSome = z; cases z <;> rfl) (Nat.le_of_ble_eq_true rfl) (Nat.le_of_ble_eq_true rfl) hQ
set_option maxHeartbeats 4000000 in
set_option maxRecDepth 20000 in
theorem kp_passed_bad1 {fx : px_F} {d : Nat} {Q : px_Q} {al : Nat → Nat} {n : Nat} {g0 : Nat → px_O} {sc ar : Nat → Nat → Int32} {sl : Value} {tf : Nat → Option Nat} {l : Int32} (t : Int32) (hl : ¬ (0 ≤ l ∧ l < 8)) (hQ : kq Q (.inr "java/lang/IndexOutOfBoundsException") al (n) (g0) (sc) (ar) (sl) (tf)) : kp fx (d + 2) 71 [.ref (al 0), .int l, .int t] Q al n (g0) (sc) (ar) (sl) (tf) := by
  refine kp.of pm_X9_passed rfl rfl (Nat.le_of_ble_eq_true rfl) ?_
  show pk fx (px_body pm_X9_passed) (d + 1) Q al (n) (g0) (sc) (ar) (sl) (tf) 0 [.ref (al 0), .int l, .int t] [] 0 0
  refine pk_aload_n dX9_passed_0 rfl rfl ?_
  refine pk_iload_n dX9_passed_1 rfl ?_
  refine pk_kV (c := 0) (As := [.int l]) dX9_passed_2 cl_X9_142 (by decide) rfl rfl rfl (Nat.le_of_ble_eq_true rfl) (Nat.le_of_ble_eq_true rfl) (Nat.le_of_ble_eq_true rfl) ?_
  exact kp_learnerAt_bad (d := d) hl (kq_exc rfl hQ)
set_option maxHeartbeats 4000000 in
set_option maxRecDepth 20000 in
theorem kp_passed_bad2 {fx : px_F} {d : Nat} {Q : px_Q} {al : Nat → Nat} {n : Nat} {g0 : Nat → px_O} {sc ar : Nat → Nat → Int32} {sl : Value} {tf : Nat → Option Nat} {l : Nat} {t : Int32} (hl : l < 8) (ht : ¬ (0 ≤ t ∧ t < sc 0 9)) (hQ : kq Q (.inr "java/lang/IndexOutOfBoundsException") al (n) (g0) (sc) (ar) (sl) (tf)) : kp fx (d + 2) 71 [.ref (al 0), .int (nI l), .int t] Q al n (g0) (sc) (ar) (sl) (tf) := by
  refine kp.of pm_X9_passed rfl rfl (Nat.le_of_ble_eq_true rfl) ?_
  show pk fx (px_body pm_X9_passed) (d + 1) Q al (n) (g0) (sc) (ar) (sl) (tf) 0 [.ref (al 0), .int (nI l), .int t] [] 0 0
  refine pk_aload_n dX9_passed_0 rfl rfl ?_
  refine pk_iload_n dX9_passed_1 rfl ?_
  refine pk_kV (c := 0) (As := [.int (nI l)]) dX9_passed_2 cl_X9_142 (by decide) rfl rfl rfl (Nat.le_of_ble_eq_true rfl) (Nat.le_of_ble_eq_true rfl) (Nat.le_of_ble_eq_true rfl) ?_
  refine kp_learnerAt_ok (d := d) hl (kq_aft ?_)
  refine pk_pop dX9_passed_5 rfl ?_
  refine pk_aload_n dX9_passed_6 rfl rfl ?_
  refine pk_iload_n dX9_passed_7 rfl ?_
  refine pk_kV (c := 0) (As := [.int t]) dX9_passed_8 cl_X9_134 (by decide) rfl rfl rfl (Nat.le_of_ble_eq_true rfl) (Nat.le_of_ble_eq_true rfl) (Nat.le_of_ble_eq_true rfl) ?_
  exact kp_taskAt_bad (d := d) ht (kq_exc rfl hQ)
set_option maxHeartbeats 4000000 in
set_option maxRecDepth 20000 in
theorem kp_look0 {fx : px_F} {d : Nat} {Q : px_Q} {al : Nat → Nat} {n : Nat} {g0 : Nat → px_O} {sc ar : Nat → Nat → Int32} {sl : Value} {tf : Nat → Option Nat} {TT : Nat} (hT : sc 0 9 = nI TT) (hTT : TT ≤ 10) {t Tc : Nat} (ht : t < TT) (e1 : tf t = some (al Tc)) {nd sh : Int32} {w y : Nat} {WA WB WR : Nat → Int32} {Y F : Nat → Option Nat} (hK : TK al (n) (g0) Tc nd sh (w) (y) (WA) (WB) (WR) (Y) (F)) (hQ : kq Q (.inl (some (.int (nd)))) al (n) (g0) (sc) (ar) (sl) (tf)) : kp fx (d + 2) 74 [.ref (al 0), .int (nI t), .int 0] Q al n (g0) (sc) (ar) (sl) (tf) := by
  refine kp.of pm_X9_look rfl rfl (Nat.le_of_ble_eq_true rfl) ?_
  show pk fx (px_body pm_X9_look) (d + 1) Q al (n) (g0) (sc) (ar) (sl) (tf) 0 [.ref (al 0), .int (nI t), .int 0, .float 0] [] 0 0
  obtain ⟨p1, p2, ⟨f, q0, q1, q2, q3, q4, q5, q6, q7, q8, q9⟩, r1, r2, r3, r4, r5⟩ := id hK
  refine pk_aload_n dX9_look_0 rfl rfl ?_
  refine pk_iload_n dX9_look_1 rfl ?_
  refine pk_kV (c := 0) (As := [.int (nI t)]) dX9_look_2 cl_X9_134 (by decide) rfl rfl rfl (Nat.le_of_ble_eq_true rfl) (Nat.le_of_ble_eq_true rfl) (Nat.le_of_ble_eq_true rfl) ?_
  refine kp_taskAt_ok (d := d) hT hTT ht e1 (kq_aft ?_)
  refine pk_astore_n dX9_look_5 (Nat.le_of_ble_eq_true rfl) rfl ?_
  refine pk_iload_n dX9_look_6 rfl ?_
  refine pk_iconst dX9_look_7 (show Int32.ofInt (4) = (4) by decide) ?_
  refine pk_kS (As := [.int 0, .int 4]) dX9_look_8 cl_X9_98 rfl rfl (Nat.le_of_ble_eq_true rfl) (Nat.le_of_ble_eq_true rfl) (Nat.le_of_ble_eq_true rfl) ?_
  refine kp_checkWhat_ok (d := d) (by decide) (kq_aft ?_)
  refine pk_iload_n dX9_look_11 rfl ?_
  refine pk_tableIn (tgt := 44) dX9_look_12 (by decide) (by decide) rfl (by decide) ?_
  refine pk_aload_n dX9_look_44 rfl rfl ?_
  refine pk_dgetN (j := Tc) dX9_look_45 fk_X9_198 p1 (by omega) q0 q1 ?_
  exact pk_iret dX9_look_48 rfl rfl (Nat.le_of_ble_eq_true rfl) (Nat.le_of_ble_eq_true rfl) hQ
set_option maxHeartbeats 4000000 in
set_option maxRecDepth 20000 in
theorem kp_look1 {fx : px_F} {d : Nat} {Q : px_Q} {al : Nat → Nat} {n : Nat} {g0 : Nat → px_O} {sc ar : Nat → Nat → Int32} {sl : Value} {tf : Nat → Option Nat} {TT : Nat} (hT : sc 0 9 = nI TT) (hTT : TT ≤ 10) {t Tc : Nat} (ht : t < TT) (e1 : tf t = some (al Tc)) {nd sh : Int32} {w y : Nat} {WA WB WR : Nat → Int32} {Y F : Nat → Option Nat} (hK : TK al (n) (g0) Tc nd sh (w) (y) (WA) (WB) (WR) (Y) (F)) (hQ : kq Q (.inl (some (.int (sh)))) al (n) (g0) (sc) (ar) (sl) (tf)) : kp fx (d + 2) 74 [.ref (al 0), .int (nI t), .int 1] Q al n (g0) (sc) (ar) (sl) (tf) := by
  refine kp.of pm_X9_look rfl rfl (Nat.le_of_ble_eq_true rfl) ?_
  show pk fx (px_body pm_X9_look) (d + 1) Q al (n) (g0) (sc) (ar) (sl) (tf) 0 [.ref (al 0), .int (nI t), .int 1, .float 0] [] 0 0
  obtain ⟨p1, p2, ⟨f, q0, q1, q2, q3, q4, q5, q6, q7, q8, q9⟩, r1, r2, r3, r4, r5⟩ := id hK
  refine pk_aload_n dX9_look_0 rfl rfl ?_
  refine pk_iload_n dX9_look_1 rfl ?_
  refine pk_kV (c := 0) (As := [.int (nI t)]) dX9_look_2 cl_X9_134 (by decide) rfl rfl rfl (Nat.le_of_ble_eq_true rfl) (Nat.le_of_ble_eq_true rfl) (Nat.le_of_ble_eq_true rfl) ?_
  refine kp_taskAt_ok (d := d) hT hTT ht e1 (kq_aft ?_)
  refine pk_astore_n dX9_look_5 (Nat.le_of_ble_eq_true rfl) rfl ?_
  refine pk_iload_n dX9_look_6 rfl ?_
  refine pk_iconst dX9_look_7 (show Int32.ofInt (4) = (4) by decide) ?_
  refine pk_kS (As := [.int 1, .int 4]) dX9_look_8 cl_X9_98 rfl rfl (Nat.le_of_ble_eq_true rfl) (Nat.le_of_ble_eq_true rfl) (Nat.le_of_ble_eq_true rfl) ?_
  refine kp_checkWhat_ok (d := d) (by decide) (kq_aft ?_)
  refine pk_iload_n dX9_look_11 rfl ?_
  refine pk_tableIn (tgt := 49) dX9_look_12 (by decide) (by decide) rfl (by decide) ?_
  refine pk_aload_n dX9_look_49 rfl rfl ?_
  refine pk_dgetN (j := Tc) dX9_look_50 fk_X9_187 p1 (by omega) q0 q2 ?_
  exact pk_iret dX9_look_53 rfl rfl (Nat.le_of_ble_eq_true rfl) (Nat.le_of_ble_eq_true rfl) hQ
set_option maxHeartbeats 4000000 in
set_option maxRecDepth 20000 in
theorem kp_look2 {fx : px_F} {d : Nat} {Q : px_Q} {al : Nat → Nat} {n : Nat} {g0 : Nat → px_O} {sc ar : Nat → Nat → Int32} {sl : Value} {tf : Nat → Option Nat} {TT : Nat} (hT : sc 0 9 = nI TT) (hTT : TT ≤ 10) {t Tc : Nat} (ht : t < TT) (e1 : tf t = some (al Tc)) {nd sh : Int32} {w y : Nat} {WA WB WR : Nat → Int32} {Y F : Nat → Option Nat} (hK : TK al (n) (g0) Tc nd sh (w) (y) (WA) (WB) (WR) (Y) (F)) (hQ : kq Q (.inl (some (.int (nI w)))) al (n) (g0) (sc) (ar) (sl) (tf)) : kp fx (d + 2) 74 [.ref (al 0), .int (nI t), .int 2] Q al n (g0) (sc) (ar) (sl) (tf) := by
  refine kp.of pm_X9_look rfl rfl (Nat.le_of_ble_eq_true rfl) ?_
  show pk fx (px_body pm_X9_look) (d + 1) Q al (n) (g0) (sc) (ar) (sl) (tf) 0 [.ref (al 0), .int (nI t), .int 2, .float 0] [] 0 0
  obtain ⟨p1, p2, ⟨f, q0, q1, q2, q3, q4, q5, q6, q7, q8, q9⟩, r1, r2, r3, r4, r5⟩ := id hK
  refine pk_aload_n dX9_look_0 rfl rfl ?_
  refine pk_iload_n dX9_look_1 rfl ?_
  refine pk_kV (c := 0) (As := [.int (nI t)]) dX9_look_2 cl_X9_134 (by decide) rfl rfl rfl (Nat.le_of_ble_eq_true rfl) (Nat.le_of_ble_eq_true rfl) (Nat.le_of_ble_eq_true rfl) ?_
  refine kp_taskAt_ok (d := d) hT hTT ht e1 (kq_aft ?_)
  refine pk_astore_n dX9_look_5 (Nat.le_of_ble_eq_true rfl) rfl ?_
  refine pk_iload_n dX9_look_6 rfl ?_
  refine pk_iconst dX9_look_7 (show Int32.ofInt (4) = (4) by decide) ?_
  refine pk_kS (As := [.int 2, .int 4]) dX9_look_8 cl_X9_98 rfl rfl (Nat.le_of_ble_eq_true rfl) (Nat.le_of_ble_eq_true rfl) (Nat.le_of_ble_eq_true rfl) ?_
  refine kp_checkWhat_ok (d := d) (by decide) (kq_aft ?_)
  refine pk_iload_n dX9_look_11 rfl ?_
  refine pk_tableIn (tgt := 54) dX9_look_12 (by decide) (by decide) rfl (by decide) ?_
  refine pk_aload_n dX9_look_54 rfl rfl ?_
  refine pk_dgetN (j := Tc) dX9_look_55 fk_X9_146 p1 (by omega) q0 q8 ?_
  exact pk_iret dX9_look_58 rfl rfl (Nat.le_of_ble_eq_true rfl) (Nat.le_of_ble_eq_true rfl) hQ
set_option maxHeartbeats 4000000 in
set_option maxRecDepth 20000 in
theorem kp_look3 {fx : px_F} {d : Nat} {Q : px_Q} {al : Nat → Nat} {n : Nat} {g0 : Nat → px_O} {sc ar : Nat → Nat → Int32} {sl : Value} {tf : Nat → Option Nat} {TT : Nat} (hT : sc 0 9 = nI TT) (hTT : TT ≤ 10) {t Tc : Nat} (ht : t < TT) (e1 : tf t = some (al Tc)) {nd sh : Int32} {w y : Nat} {WA WB WR : Nat → Int32} {Y F : Nat → Option Nat} (hK : TK al (n) (g0) Tc nd sh (w) (y) (WA) (WB) (WR) (Y) (F)) (hQ : kq Q (.inl (some (.int (nI y)))) al (n) (g0) (sc) (ar) (sl) (tf)) : kp fx (d + 2) 74 [.ref (al 0), .int (nI t), .int 3] Q al n (g0) (sc) (ar) (sl) (tf) := by
  refine kp.of pm_X9_look rfl rfl (Nat.le_of_ble_eq_true rfl) ?_
  show pk fx (px_body pm_X9_look) (d + 1) Q al (n) (g0) (sc) (ar) (sl) (tf) 0 [.ref (al 0), .int (nI t), .int 3, .float 0] [] 0 0
  obtain ⟨p1, p2, ⟨f, q0, q1, q2, q3, q4, q5, q6, q7, q8, q9⟩, r1, r2, r3, r4, r5⟩ := id hK
  refine pk_aload_n dX9_look_0 rfl rfl ?_
  refine pk_iload_n dX9_look_1 rfl ?_
  refine pk_kV (c := 0) (As := [.int (nI t)]) dX9_look_2 cl_X9_134 (by decide) rfl rfl rfl (Nat.le_of_ble_eq_true rfl) (Nat.le_of_ble_eq_true rfl) (Nat.le_of_ble_eq_true rfl) ?_
  refine kp_taskAt_ok (d := d) hT hTT ht e1 (kq_aft ?_)
  refine pk_astore_n dX9_look_5 (Nat.le_of_ble_eq_true rfl) rfl ?_
  refine pk_iload_n dX9_look_6 rfl ?_
  refine pk_iconst dX9_look_7 (show Int32.ofInt (4) = (4) by decide) ?_
  refine pk_kS (As := [.int 3, .int 4]) dX9_look_8 cl_X9_98 rfl rfl (Nat.le_of_ble_eq_true rfl) (Nat.le_of_ble_eq_true rfl) (Nat.le_of_ble_eq_true rfl) ?_
  refine kp_checkWhat_ok (d := d) (by decide) (kq_aft ?_)
  refine pk_iload_n dX9_look_11 rfl ?_
  refine pk_tableIn (tgt := 59) dX9_look_12 (by decide) (by decide) rfl (by decide) ?_
  refine pk_aload_n dX9_look_59 rfl rfl ?_
  refine pk_dgetN (j := Tc) dX9_look_60 fk_X9_201 p1 (by omega) q0 q9 ?_
  exact pk_iret dX9_look_63 rfl rfl (Nat.le_of_ble_eq_true rfl) (Nat.le_of_ble_eq_true rfl) hQ
set_option maxHeartbeats 4000000 in
set_option maxRecDepth 20000 in
theorem kp_look4 {fx : px_F} {d : Nat} {Q : px_Q} {al : Nat → Nat} {n : Nat} {g0 : Nat → px_O} {sc ar : Nat → Nat → Int32} {sl : Value} {tf : Nat → Option Nat} {TT : Nat} (hT : sc 0 9 = nI TT) (hTT : TT ≤ 10) {t Tc : Nat} (ht : t < TT) (e1 : tf t = some (al Tc)) {nd sh : Int32} {w y : Nat} {WA WB WR : Nat → Int32} {Y F : Nat → Option Nat} (hK : TK al (n) (g0) Tc nd sh (w) (y) (WA) (WB) (WR) (Y) (F)) (hQ : kq Q (.inl (some (.int (fpC F 8)))) al (n) (g0) (sc) (ar) (sl) (tf)) : kp fx (d + 2) 74 [.ref (al 0), .int (nI t), .int 4] Q al n (g0) (sc) (ar) (sl) (tf) := by
  refine kp.of pm_X9_look rfl rfl (Nat.le_of_ble_eq_true rfl) ?_
  show pk fx (px_body pm_X9_look) (d + 1) Q al (n) (g0) (sc) (ar) (sl) (tf) 0 [.ref (al 0), .int (nI t), .int 4, .float 0] [] 0 0
  obtain ⟨p1, p2, ⟨f, q0, q1, q2, q3, q4, q5, q6, q7, q8, q9⟩, r1, r2, r3, r4, r5⟩ := id hK
  refine pk_aload_n dX9_look_0 rfl rfl ?_
  refine pk_iload_n dX9_look_1 rfl ?_
  refine pk_kV (c := 0) (As := [.int (nI t)]) dX9_look_2 cl_X9_134 (by decide) rfl rfl rfl (Nat.le_of_ble_eq_true rfl) (Nat.le_of_ble_eq_true rfl) (Nat.le_of_ble_eq_true rfl) ?_
  refine kp_taskAt_ok (d := d) hT hTT ht e1 (kq_aft ?_)
  refine pk_astore_n dX9_look_5 (Nat.le_of_ble_eq_true rfl) rfl ?_
  refine pk_iload_n dX9_look_6 rfl ?_
  refine pk_iconst dX9_look_7 (show Int32.ofInt (4) = (4) by decide) ?_
  refine pk_kS (As := [.int 4, .int 4]) dX9_look_8 cl_X9_98 rfl rfl (Nat.le_of_ble_eq_true rfl) (Nat.le_of_ble_eq_true rfl) (Nat.le_of_ble_eq_true rfl) ?_
  refine kp_checkWhat_ok (d := d) (by decide) (kq_aft ?_)
  refine pk_iload_n dX9_look_11 rfl ?_
  refine pk_tableOut (tgt := 64) dX9_look_12 (by decide) (by decide) ?_
  refine pk_aload_n dX9_look_64 rfl rfl ?_
  refine pk_callDN (As := fun al => []) dX9_look_65 cl_X9_204 p1 (by omega) q0 (dp_learnersPassed d (T := Tc)) (fun g hF => hK.fr (Nat.le_refl _) (fun _ _ => rfl) (fun k h1 _ => hF k (by omega))) rfl rfl (Nat.le_of_ble_eq_true rfl) ⟨rfl, rfl⟩ (Nat.le_of_ble_eq_true rfl) (Nat.le_of_ble_eq_true rfl) ?_
  exact pk_iret dX9_look_68 rfl rfl (Nat.le_of_ble_eq_true rfl) (Nat.le_of_ble_eq_true rfl) hQ
set_option maxHeartbeats 4000000 in
set_option maxRecDepth 20000 in
theorem kp_look_no {fx : px_F} {d : Nat} {Q : px_Q} {al : Nat → Nat} {n : Nat} {g0 : Nat → px_O} {sc ar : Nat → Nat → Int32} {sl : Value} {tf : Nat → Option Nat} {TT : Nat} (hT : sc 0 9 = nI TT) (hTT : TT ≤ 10) {t Tc : Nat} (ht : t < TT) (e1 : tf t = some (al Tc)) {q : Int32} (hw : ¬ (0 ≤ q ∧ q ≤ 4)) (hQ : kq Q (.inr "java/util/NoSuchElementException") al (n) (g0) (sc) (ar) (sl) (tf)) : kp fx (d + 2) 74 [.ref (al 0), .int (nI t), .int q] Q al n (g0) (sc) (ar) (sl) (tf) := by
  refine kp.of pm_X9_look rfl rfl (Nat.le_of_ble_eq_true rfl) ?_
  show pk fx (px_body pm_X9_look) (d + 1) Q al (n) (g0) (sc) (ar) (sl) (tf) 0 [.ref (al 0), .int (nI t), .int q, .float 0] [] 0 0
  refine pk_aload_n dX9_look_0 rfl rfl ?_
  refine pk_iload_n dX9_look_1 rfl ?_
  refine pk_kV (c := 0) (As := [.int (nI t)]) dX9_look_2 cl_X9_134 (by decide) rfl rfl rfl (Nat.le_of_ble_eq_true rfl) (Nat.le_of_ble_eq_true rfl) (Nat.le_of_ble_eq_true rfl) ?_
  refine kp_taskAt_ok (d := d) hT hTT ht e1 (kq_aft ?_)
  refine pk_astore_n dX9_look_5 (Nat.le_of_ble_eq_true rfl) rfl ?_
  refine pk_iload_n dX9_look_6 rfl ?_
  refine pk_iconst dX9_look_7 (show Int32.ofInt (4) = (4) by decide) ?_
  refine pk_kS (As := [.int q, .int 4]) dX9_look_8 cl_X9_98 rfl rfl (Nat.le_of_ble_eq_true rfl) (Nat.le_of_ble_eq_true rfl) (Nat.le_of_ble_eq_true rfl) ?_
  exact kp_checkWhat_bad (d := d) hw (kq_exc rfl hQ)
set_option maxHeartbeats 4000000 in
set_option maxRecDepth 20000 in
theorem kp_look_bad {fx : px_F} {d : Nat} {Q : px_Q} {al : Nat → Nat} {n : Nat} {g0 : Nat → px_O} {sc ar : Nat → Nat → Int32} {sl : Value} {tf : Nat → Option Nat} {t : Int32} (q : Int32) (ht : ¬ (0 ≤ t ∧ t < sc 0 9)) (hQ : kq Q (.inr "java/lang/IndexOutOfBoundsException") al (n) (g0) (sc) (ar) (sl) (tf)) : kp fx (d + 2) 74 [.ref (al 0), .int t, .int q] Q al n (g0) (sc) (ar) (sl) (tf) := by
  refine kp.of pm_X9_look rfl rfl (Nat.le_of_ble_eq_true rfl) ?_
  show pk fx (px_body pm_X9_look) (d + 1) Q al (n) (g0) (sc) (ar) (sl) (tf) 0 [.ref (al 0), .int t, .int q, .float 0] [] 0 0
  refine pk_aload_n dX9_look_0 rfl rfl ?_
  refine pk_iload_n dX9_look_1 rfl ?_
  refine pk_kV (c := 0) (As := [.int t]) dX9_look_2 cl_X9_134 (by decide) rfl rfl rfl (Nat.le_of_ble_eq_true rfl) (Nat.le_of_ble_eq_true rfl) (Nat.le_of_ble_eq_true rfl) ?_
  exact kp_taskAt_bad (d := d) ht (kq_exc rfl hQ)
set_option maxHeartbeats 4000000 in
set_option maxRecDepth 20000 in
theorem kp_world_ok {fx : px_F} {d : Nat} {Q : px_Q} {al : Nat → Nat} {n : Nat} {g0 : Nat → px_O} {sc ar : Nat → Nat → Int32} {sl : Value} {tf : Nat → Option Nat} {TT : Nat} (hT : sc 0 9 = nI TT) (hTT : TT ≤ 10) {t Tc : Nat} (ht : t < TT) (e1 : tf t = some (al Tc)) {nd sh : Int32} {w y : Nat} {WA WB WR : Nat → Int32} {Y F : Nat → Option Nat} (hK : TK al (n) (g0) Tc nd sh (w) (y) (WA) (WB) (WR) (Y) (F)) (hw : w < 6) (a b r : Int32) (hQ : ∀ g2, TK al (n) (g2) Tc nd sh (w + 1) (y) (upd WA w a) (upd WB w b) (upd WR w r) (Y) (F) → (∀ k, (k < Tc ∨ Tc + 6 ≤ k) → g2 k = g0 k) → kq Q (.inl (some (.int (nI w)))) al (n) (g2) (sc) (ar) (sl) (tf)) : kp fx (d + 2) 68 [.ref (al 0), .int (nI t), .int a, .int b, .int r] Q al n (g0) (sc) (ar) (sl) (tf) := by
  refine kp.of pm_X9_world rfl rfl (Nat.le_of_ble_eq_true rfl) ?_
  show pk fx (px_body pm_X9_world) (d + 1) Q al (n) (g0) (sc) (ar) (sl) (tf) 0 [.ref (al 0), .int (nI t), .int a, .int b, .int r] [] 0 0
  obtain ⟨p1, p2, ⟨f, q0, q1, q2, q3, q4, q5, q6, q7, q8, q9⟩, r1, r2, r3, r4, r5⟩ := id hK
  refine pk_aload_n dX9_world_0 rfl rfl ?_
  refine pk_iload_n dX9_world_1 rfl ?_
  refine pk_kV (c := 0) (As := [.int (nI t)]) dX9_world_2 cl_X9_134 (by decide) rfl rfl rfl (Nat.le_of_ble_eq_true rfl) (Nat.le_of_ble_eq_true rfl) (Nat.le_of_ble_eq_true rfl) ?_
  refine kp_taskAt_ok (d := d) hT hTT ht e1 (kq_aft ?_)
  refine pk_iload_n dX9_world_5 rfl ?_
  refine pk_iload_n dX9_world_6 rfl ?_
  refine pk_iload dX9_world_7 rfl ?_
  refine pk_kDN (j := Tc) (As := [.int a, .int b, .int r]) dX9_world_9 cl_X9_138 p1 (by omega) q0 rfl rfl (Nat.le_of_ble_eq_true rfl) (Nat.le_of_ble_eq_true rfl) (Nat.le_of_ble_eq_true rfl) ?_
  refine kp_addWorld (d := d) hK hw a b r (fun g2 h1 h2 => kq_aftN ?_)
  exact pk_iret dX9_world_12 rfl rfl (Nat.le_of_ble_eq_true rfl) (Nat.le_of_ble_eq_true rfl) (hQ g2 h1 h2)
set_option maxHeartbeats 4000000 in
set_option maxRecDepth 20000 in
theorem kp_world_full {fx : px_F} {d : Nat} {Q : px_Q} {al : Nat → Nat} {n : Nat} {g0 : Nat → px_O} {sc ar : Nat → Nat → Int32} {sl : Value} {tf : Nat → Option Nat} {TT : Nat} (hT : sc 0 9 = nI TT) (hTT : TT ≤ 10) {t Tc : Nat} (ht : t < TT) (e1 : tf t = some (al Tc)) {nd sh : Int32} {w y : Nat} {WA WB WR : Nat → Int32} {Y F : Nat → Option Nat} (hK : TK al (n) (g0) Tc nd sh (w) (y) (WA) (WB) (WR) (Y) (F)) (hw : w = 6) (a b r : Int32) (hQ : kq Q (.inl (some (.int (-1)))) al (n) (g0) (sc) (ar) (sl) (tf)) : kp fx (d + 2) 68 [.ref (al 0), .int (nI t), .int a, .int b, .int r] Q al n (g0) (sc) (ar) (sl) (tf) := by
  refine kp.of pm_X9_world rfl rfl (Nat.le_of_ble_eq_true rfl) ?_
  show pk fx (px_body pm_X9_world) (d + 1) Q al (n) (g0) (sc) (ar) (sl) (tf) 0 [.ref (al 0), .int (nI t), .int a, .int b, .int r] [] 0 0
  obtain ⟨p1, p2, ⟨f, q0, q1, q2, q3, q4, q5, q6, q7, q8, q9⟩, r1, r2, r3, r4, r5⟩ := id hK
  refine pk_aload_n dX9_world_0 rfl rfl ?_
  refine pk_iload_n dX9_world_1 rfl ?_
  refine pk_kV (c := 0) (As := [.int (nI t)]) dX9_world_2 cl_X9_134 (by decide) rfl rfl rfl (Nat.le_of_ble_eq_true rfl) (Nat.le_of_ble_eq_true rfl) (Nat.le_of_ble_eq_true rfl) ?_
  refine kp_taskAt_ok (d := d) hT hTT ht e1 (kq_aft ?_)
  refine pk_iload_n dX9_world_5 rfl ?_
  refine pk_iload_n dX9_world_6 rfl ?_
  refine pk_iload dX9_world_7 rfl ?_
  refine pk_kDN (j := Tc) (As := [.int a, .int b, .int r]) dX9_world_9 cl_X9_138 p1 (by omega) q0 rfl rfl (Nat.le_of_ble_eq_true rfl) (Nat.le_of_ble_eq_true rfl) (Nat.le_of_ble_eq_true rfl) ?_
  refine kp_addWorld_full (d := d) hK hw a b r (kq_aftN ?_)
  exact pk_iret dX9_world_12 rfl rfl (Nat.le_of_ble_eq_true rfl) (Nat.le_of_ble_eq_true rfl) hQ
set_option maxHeartbeats 4000000 in
set_option maxRecDepth 20000 in
theorem kp_world_bad {fx : px_F} {d : Nat} {Q : px_Q} {al : Nat → Nat} {n : Nat} {g0 : Nat → px_O} {sc ar : Nat → Nat → Int32} {sl : Value} {tf : Nat → Option Nat} {t : Int32} (a b r : Int32) (ht : ¬ (0 ≤ t ∧ t < sc 0 9)) (hQ : kq Q (.inr "java/lang/IndexOutOfBoundsException") al (n) (g0) (sc) (ar) (sl) (tf)) : kp fx (d + 2) 68 [.ref (al 0), .int t, .int a, .int b, .int r] Q al n (g0) (sc) (ar) (sl) (tf) := by
  refine kp.of pm_X9_world rfl rfl (Nat.le_of_ble_eq_true rfl) ?_
  show pk fx (px_body pm_X9_world) (d + 1) Q al (n) (g0) (sc) (ar) (sl) (tf) 0 [.ref (al 0), .int t, .int a, .int b, .int r] [] 0 0
  refine pk_aload_n dX9_world_0 rfl rfl ?_
  refine pk_iload_n dX9_world_1 rfl ?_
  refine pk_kV (c := 0) (As := [.int t]) dX9_world_2 cl_X9_134 (by decide) rfl rfl rfl (Nat.le_of_ble_eq_true rfl) (Nat.le_of_ble_eq_true rfl) (Nat.le_of_ble_eq_true rfl) ?_
  exact kp_taskAt_bad (d := d) ht (kq_exc rfl hQ)
