theorem REL.n {al : Nat → Nat} {n : Nat} {g : Nat → px_O} {c : Int32} (h : REL al n g c) : 59 ≤ n := by
  obtain ⟨sc, ar, sl, tf, rsc, rar, TT, Tc, fz, h, _⟩ := h
  exact h.2.2.1
theorem REL.o {al : Nat → Nat} {n : Nat} {g : Nat → px_O} {c : Int32} (h : REL al n g c) : (∃ fo, g 58 = .inl (3, 1, .inr (.inl fo))) ∧ (∃ f, g 0 = .inr (9, f)) ∧ ∃ f, g 36 = .inr (10, f) := by
  obtain ⟨sc, ar, sl, tf, rsc, rar, TT, Tc, fz, h, _⟩ := h
  exact ⟨h.2.2.2.1, ⟨_, (h.1.2 0 (by decide)).trans (cObj_o rfl)⟩, ⟨_, h.2.1.2.1⟩⟩
theorem op_thrown {fx : px_F} {al : Nat → Nat} {n : Nat} {g : Nat → px_O} {c : Int32} (h : REL al n g c) : pm px_tb fx 1733 90 [.ref (al 36)] al n g (fun o al2 n2 g2 => o = .inl (some (.int c)) ∧ al2 = al ∧ n2 = n ∧ g2 58 = g 58 ∧ REL al2 n2 g2 c) := by
  obtain ⟨sc, ar, sl, tf, rsc, rar, TT, Tc, fz, h, e0⟩ := h
  refine pm_le' (rc_thrown 0 rsc rar fx al n g 36 _ h.2.1 (fun g2 hR hF => ⟨by rw [e0], rfl, rfl, hF 58 (Or.inr (by decide)), sc, ar, sl, tf, rsc, rar, TT, Tc, fz, ?_, e0⟩)) (by decide)
  obtain ⟨fo, e9⟩ := h.2.2.2.1
  exact h.step (fun k hk => hF k (Or.inr (by omega))) ⟨fo, by rw [hF 58 (Or.inr (by decide))]; exact e9⟩ (h.1.al (fun _ _ => rfl) (fun k hk => hF k (Or.inl (by omega))) (by have := h.2.2.1; omega)) hR h.2.2.2.2.1 h.2.2.2.2.2.1 (fun _ _ => rfl) (fun _ _ _ => rfl) rfl rfl rfl rfl
/-- what a method of the law's must come to -/
def QW (fx : px_F) (al : Nat → Nat) (n : Nat) (kr : Nat) (as : List Value) (cv : Int32 → Int64) : px_Q := fun o al1 n1 g1 => n ≤ n1 ∧ (∀ j, j < n → al1 j = al j) ∧ ∃ c w : Int32, o = .inl (some (.int c)) ∧ (∃ fo, g1 58 = .inl (3, 1, .inr (.inl fo)) ∧ (c = 0 → fo 0 = cv w)) ∧ (∃ f, g1 36 = .inr (10, f)) ∧ pm px_tb fx 1733 kr (.ref (al1 36) :: as) al1 n1 g1 (fun o3 al3 n3 g3 => al3 = al1 ∧ n3 = n1 ∧ g3 58 = g1 58 ∧ ∃ b : Int32, o3 = .inl (some (.int b)) ∧ (c = 0 → b = w) ∧ REL al3 n3 g3 c)
def cvI (w : Int32) : Int64 := w.toInt64
def cvB (w : Int32) : Int64 := if w = 0 then 0 else 1
set_option maxHeartbeats 4000000 in
set_option maxRecDepth 20000 in
theorem wr_read {fx : px_F} {al : Nat → Nat} {n : Nat} {g : Nat → px_O} {c0 : Int32} (h : REL al n g c0) : pm px_tb fx 1734 148 [.ref (al 0), .ref (al 58)] al n g (QW fx al n 112 [] cvI) := by
  refine ⟨pm_L_read, rfl, rfl, Nat.le_of_ble_eq_true rfl, ?_⟩
  have hn := h.n
  obtain ⟨⟨fo, ho⟩, ⟨f0, hx⟩, ⟨f36, hm36⟩⟩ := h.o
  show pg px_tb fx (px_body pm_L_read) (pm px_tb fx 1733) (QW fx al n 112 [] cvI) al n g 0 [.ref (al 0), .ref (al 58), .float 0] [] 0 0
  refine pg_aload_n dL_read_0 rfl rfl ?_
  refine pg_iconst dL_read_1 (show Int32.ofInt (0) = (0) by decide) ?_
  refine pg_aload_n dL_read_2 rfl rfl ?_
  refine pg_callV (pm_mono px_tb fx 1733) (j := 0) (As := []) dL_read_3 cl_L_7 (by omega) hx rfl (Nat.le_of_ble_eq_true rfl) (Nat.le_of_ble_eq_true rfl) (Nat.le_of_ble_eq_true rfl) ?_
  refine pm_mono px_tb fx 1733 _ _ _ _ _ _ _ (fun o al1 n1 g1 hq => ?_) (op_read h)
  obtain ⟨hn1, ha1, h58, h36, w, c, ho1, hr⟩ := hq
  rcases ho1 with ⟨rfl, rfl⟩ | ⟨E, rfl, hc, hc0⟩
  rotate_left
  · show px_exc _ _ _ _ _ _ _ _ _ _ _
    by_cases q0 : E = "java/lang/IllegalArgumentException"
    · subst q0
      rw [show c = 1 from hc] at hr
      unfold px_exc
      rw [show px_find (px_body pm_L_read).2.2.2.2.2 3 "java/lang/IllegalArgumentException" = some 11 from rfl]
      intro q9
      refine pg_astore_n dL_read_11 (Nat.le_of_ble_eq_true rfl) rfl ?_
      refine pg_iconst dL_read_12 (show Int32.ofInt (1) = (1) by decide) ?_
      refine pg_iret dL_read_13 rfl rfl (Nat.le_of_ble_eq_true rfl) (Nat.le_of_ble_eq_true rfl) ?_
      exact ⟨hn1, ha1, 1, w, rfl, ⟨fo, h58.trans ho, fun z => absurd z (by decide)⟩, ⟨f36, h36.trans hm36⟩, hr g1 (fun _ _ => rfl) ⟨fo, h58.trans ho⟩⟩
    ·
      exfalso
      refine hc0 (hc.trans ?_)
      show ((if E = "java/lang/IllegalArgumentException" then 1 else 0) : Int32) = 0
      rw [if_neg q0]
  show pg px_tb fx (px_body pm_L_read) (pm px_tb fx 1733) (QW fx al n 112 [] cvI) al1 n1 g1 6 _ _ _ _
  rw [← ha1 58 (by omega)]
  refine pg_i2l dL_read_6 ?_
  refine pg_last (j := 58) dL_read_7 (by omega) (h58.trans ho) (vp_in_nI (n := 0) (by decide) (by decide)) ?_
  refine pg_goto (tgt := 14) dL_read_8 (by decide) ?_
  refine pg_iconst dL_read_14 (show Int32.ofInt (0) = (0) by decide) ?_
  refine pg_iret dL_read_15 rfl rfl (Nat.le_of_ble_eq_true rfl) (Nat.le_of_ble_eq_true rfl) ?_
  refine ⟨hn1, ha1, 0, w, rfl, ⟨_, va_up_self _ _ _, fun _ => rfl⟩, ⟨f36, (va_up_ne _ _ (by decide)).trans (h36.trans hm36)⟩, hr _ (fun k hk => va_up_ne _ _ hk) ⟨_, va_up_self _ _ _⟩⟩
set_option maxHeartbeats 4000000 in
set_option maxRecDepth 20000 in
theorem wr_run {fx : px_F} {al : Nat → Nat} {n : Nat} {g : Nat → px_O} {c0 : Int32} (h : REL al n g c0) (p0 p1 p2 : Int32) : pm px_tb fx 1734 149 [.ref (al 0), .int p0, .int p1, .int p2, .ref (al 58)] al n g (QW fx al n 127 [.int p0, .int p1, .int p2] cvI) := by
  refine ⟨pm_L_run, rfl, rfl, Nat.le_of_ble_eq_true rfl, ?_⟩
  have hn := h.n
  obtain ⟨⟨fo, ho⟩, ⟨f0, hx⟩, ⟨f36, hm36⟩⟩ := h.o
  show pg px_tb fx (px_body pm_L_run) (pm px_tb fx 1733) (QW fx al n 127 [.int p0, .int p1, .int p2] cvI) al n g 0 [.ref (al 0), .int p0, .int p1, .int p2, .ref (al 58), .float 0] [] 0 0
  refine pg_aload dL_run_0 rfl rfl ?_
  refine pg_iconst dL_run_2 (show Int32.ofInt (0) = (0) by decide) ?_
  refine pg_aload_n dL_run_3 rfl rfl ?_
  refine pg_iload_n dL_run_4 rfl ?_
  refine pg_iload_n dL_run_5 rfl ?_
  refine pg_iload_n dL_run_6 rfl ?_
  refine pg_callV (pm_mono px_tb fx 1733) (j := 0) (As := [.int p0, .int p1, .int p2]) dL_run_7 cl_L_15 (by omega) hx rfl (Nat.le_of_ble_eq_true rfl) (Nat.le_of_ble_eq_true rfl) (Nat.le_of_ble_eq_true rfl) ?_
  refine pm_mono px_tb fx 1733 _ _ _ _ _ _ _ (fun o al1 n1 g1 hq => ?_) (op_run h p0 p1 p2)
  obtain ⟨hn1, ha1, h58, h36, w, c, ho1, hr⟩ := hq
  rcases ho1 with ⟨rfl, rfl⟩ | ⟨E, rfl, hc, hc0⟩
  rotate_left
  · show px_exc _ _ _ _ _ _ _ _ _ _ _
    by_cases q0 : E = "java/lang/IllegalStateException"
    · subst q0
      rw [show c = 1 from hc] at hr
      unfold px_exc
      rw [show px_find (px_body pm_L_run).2.2.2.2.2 7 "java/lang/IllegalStateException" = some 15 from rfl]
      intro q9
      refine pg_astore dL_run_15 (Nat.le_of_ble_eq_true rfl) rfl ?_
      refine pg_iconst dL_run_17 (show Int32.ofInt (1) = (1) by decide) ?_
      refine pg_iret dL_run_18 rfl rfl (Nat.le_of_ble_eq_true rfl) (Nat.le_of_ble_eq_true rfl) ?_
      exact ⟨hn1, ha1, 1, w, rfl, ⟨fo, h58.trans ho, fun z => absurd z (by decide)⟩, ⟨f36, h36.trans hm36⟩, hr g1 (fun _ _ => rfl) ⟨fo, h58.trans ho⟩⟩
    ·
      by_cases q1 : E = "java/util/NoSuchElementException"
      · subst q1
        rw [show c = 2 from hc] at hr
        unfold px_exc
        rw [show px_find (px_body pm_L_run).2.2.2.2.2 7 "java/util/NoSuchElementException" = some 19 from rfl]
        intro q9
        refine pg_astore dL_run_19 (Nat.le_of_ble_eq_true rfl) rfl ?_
        refine pg_iconst dL_run_21 (show Int32.ofInt (2) = (2) by decide) ?_
        refine pg_iret dL_run_22 rfl rfl (Nat.le_of_ble_eq_true rfl) (Nat.le_of_ble_eq_true rfl) ?_
        exact ⟨hn1, ha1, 2, w, rfl, ⟨fo, h58.trans ho, fun z => absurd z (by decide)⟩, ⟨f36, h36.trans hm36⟩, hr g1 (fun _ _ => rfl) ⟨fo, h58.trans ho⟩⟩
      ·
        exfalso
        refine hc0 (hc.trans ?_)
        show ((if E = "java/lang/IllegalStateException" then 1 else if E = "java/util/NoSuchElementException" then 2 else 0) : Int32) = 0
        rw [if_neg q0, if_neg q1]
  show pg px_tb fx (px_body pm_L_run) (pm px_tb fx 1733) (QW fx al n 127 [.int p0, .int p1, .int p2] cvI) al1 n1 g1 10 _ _ _ _
  rw [← ha1 58 (by omega)]
  refine pg_i2l dL_run_10 ?_
  refine pg_last (j := 58) dL_run_11 (by omega) (h58.trans ho) (vp_in_nI (n := 0) (by decide) (by decide)) ?_
  refine pg_goto (tgt := 23) dL_run_12 (by decide) ?_
  refine pg_iconst dL_run_23 (show Int32.ofInt (0) = (0) by decide) ?_
  refine pg_iret dL_run_24 rfl rfl (Nat.le_of_ble_eq_true rfl) (Nat.le_of_ble_eq_true rfl) ?_
  refine ⟨hn1, ha1, 0, w, rfl, ⟨_, va_up_self _ _ _, fun _ => rfl⟩, ⟨f36, (va_up_ne _ _ (by decide)).trans (h36.trans hm36)⟩, hr _ (fun k hk => va_up_ne _ _ hk) ⟨_, va_up_self _ _ _⟩⟩
set_option maxHeartbeats 4000000 in
set_option maxRecDepth 20000 in
theorem wr_task {fx : px_F} {al : Nat → Nat} {n : Nat} {g : Nat → px_O} {c0 : Int32} (h : REL al n g c0) (p0 p1 : Int32) : pm px_tb fx 1734 150 [.ref (al 0), .int p0, .int p1, .ref (al 58)] al n g (QW fx al n 130 [.int p0, .int p1] cvI) := by
  refine ⟨pm_L_task, rfl, rfl, Nat.le_of_ble_eq_true rfl, ?_⟩
  have hn := h.n
  obtain ⟨⟨fo, ho⟩, ⟨f0, hx⟩, ⟨f36, hm36⟩⟩ := h.o
  show pg px_tb fx (px_body pm_L_task) (pm px_tb fx 1733) (QW fx al n 130 [.int p0, .int p1] cvI) al n g 0 [.ref (al 0), .int p0, .int p1, .ref (al 58), .float 0] [] 0 0
  refine pg_aload_n dL_task_0 rfl rfl ?_
  refine pg_iconst dL_task_1 (show Int32.ofInt (0) = (0) by decide) ?_
  refine pg_aload_n dL_task_2 rfl rfl ?_
  refine pg_iload_n dL_task_3 rfl ?_
  refine pg_iload_n dL_task_4 rfl ?_
  refine pg_callV (pm_mono px_tb fx 1733) (j := 0) (As := [.int p0, .int p1]) dL_task_5 cl_L_23 (by omega) hx rfl (Nat.le_of_ble_eq_true rfl) (Nat.le_of_ble_eq_true rfl) (Nat.le_of_ble_eq_true rfl) ?_
  refine pm_mono px_tb fx 1733 _ _ _ _ _ _ _ (fun o al1 n1 g1 hq => ?_) (op_task h p0 p1)
  obtain ⟨hn1, ha1, h58, h36, w, c, ho1, hr⟩ := hq
  rcases ho1 with ⟨rfl, rfl⟩ | ⟨E, rfl, hc, hc0⟩
  rotate_left
  · show px_exc _ _ _ _ _ _ _ _ _ _ _
    by_cases q0 : E = "java/lang/IllegalArgumentException"
    · subst q0
      rw [show c = 1 from hc] at hr
      unfold px_exc
      rw [show px_find (px_body pm_L_task).2.2.2.2.2 5 "java/lang/IllegalArgumentException" = some 13 from rfl]
      intro q9
      refine pg_astore dL_task_13 (Nat.le_of_ble_eq_true rfl) rfl ?_
      refine pg_iconst dL_task_15 (show Int32.ofInt (1) = (1) by decide) ?_
      refine pg_iret dL_task_16 rfl rfl (Nat.le_of_ble_eq_true rfl) (Nat.le_of_ble_eq_true rfl) ?_
      exact ⟨hn1, ha1, 1, w, rfl, ⟨fo, h58.trans ho, fun z => absurd z (by decide)⟩, ⟨f36, h36.trans hm36⟩, hr g1 (fun _ _ => rfl) ⟨fo, h58.trans ho⟩⟩
    ·
      by_cases q1 : E = "java/lang/UnsupportedOperationException"
      · subst q1
        rw [show c = 2 from hc] at hr
        unfold px_exc
        rw [show px_find (px_body pm_L_task).2.2.2.2.2 5 "java/lang/UnsupportedOperationException" = some 17 from rfl]
        intro q9
        refine pg_astore dL_task_17 (Nat.le_of_ble_eq_true rfl) rfl ?_
        refine pg_iconst dL_task_19 (show Int32.ofInt (2) = (2) by decide) ?_
        refine pg_iret dL_task_20 rfl rfl (Nat.le_of_ble_eq_true rfl) (Nat.le_of_ble_eq_true rfl) ?_
        exact ⟨hn1, ha1, 2, w, rfl, ⟨fo, h58.trans ho, fun z => absurd z (by decide)⟩, ⟨f36, h36.trans hm36⟩, hr g1 (fun _ _ => rfl) ⟨fo, h58.trans ho⟩⟩
      ·
        exfalso
        refine hc0 (hc.trans ?_)
        show ((if E = "java/lang/IllegalArgumentException" then 1 else if E = "java/lang/UnsupportedOperationException" then 2 else 0) : Int32) = 0
        rw [if_neg q0, if_neg q1]
  show pg px_tb fx (px_body pm_L_task) (pm px_tb fx 1733) (QW fx al n 130 [.int p0, .int p1] cvI) al1 n1 g1 8 _ _ _ _
  rw [← ha1 58 (by omega)]
  refine pg_i2l dL_task_8 ?_
  refine pg_last (j := 58) dL_task_9 (by omega) (h58.trans ho) (vp_in_nI (n := 0) (by decide) (by decide)) ?_
  refine pg_goto (tgt := 21) dL_task_10 (by decide) ?_
  refine pg_iconst dL_task_21 (show Int32.ofInt (0) = (0) by decide) ?_
  refine pg_iret dL_task_22 rfl rfl (Nat.le_of_ble_eq_true rfl) (Nat.le_of_ble_eq_true rfl) ?_
  refine ⟨hn1, ha1, 0, w, rfl, ⟨_, va_up_self _ _ _, fun _ => rfl⟩, ⟨f36, (va_up_ne _ _ (by decide)).trans (h36.trans hm36)⟩, hr _ (fun k hk => va_up_ne _ _ hk) ⟨_, va_up_self _ _ _⟩⟩
set_option maxHeartbeats 4000000 in
set_option maxRecDepth 20000 in
theorem wr_world {fx : px_F} {al : Nat → Nat} {n : Nat} {g : Nat → px_O} {c0 : Int32} (h : REL al n g c0) (p0 p1 p2 p3 : Int32) : pm px_tb fx 1734 151 [.ref (al 0), .int p0, .int p1, .int p2, .int p3, .ref (al 58)] al n g (QW fx al n 131 [.int p0, .int p1, .int p2, .int p3] cvI) := by
  refine ⟨pm_L_world, rfl, rfl, Nat.le_of_ble_eq_true rfl, ?_⟩
  have hn := h.n
  obtain ⟨⟨fo, ho⟩, ⟨f0, hx⟩, ⟨f36, hm36⟩⟩ := h.o
  show pg px_tb fx (px_body pm_L_world) (pm px_tb fx 1733) (QW fx al n 131 [.int p0, .int p1, .int p2, .int p3] cvI) al n g 0 [.ref (al 0), .int p0, .int p1, .int p2, .int p3, .ref (al 58), .float 0] [] 0 0
  refine pg_aload dL_world_0 rfl rfl ?_
  refine pg_iconst dL_world_2 (show Int32.ofInt (0) = (0) by decide) ?_
  refine pg_aload_n dL_world_3 rfl rfl ?_
  refine pg_iload_n dL_world_4 rfl ?_
  refine pg_iload_n dL_world_5 rfl ?_
  refine pg_iload_n dL_world_6 rfl ?_
  refine pg_iload dL_world_7 rfl ?_
  refine pg_callV (pm_mono px_tb fx 1733) (j := 0) (As := [.int p0, .int p1, .int p2, .int p3]) dL_world_9 cl_L_29 (by omega) hx rfl (Nat.le_of_ble_eq_true rfl) (Nat.le_of_ble_eq_true rfl) (Nat.le_of_ble_eq_true rfl) ?_
  refine pm_mono px_tb fx 1733 _ _ _ _ _ _ _ (fun o al1 n1 g1 hq => ?_) (op_world h p0 p1 p2 p3)
  obtain ⟨hn1, ha1, h58, h36, w, c, ho1, hr⟩ := hq
  rcases ho1 with ⟨rfl, rfl⟩ | ⟨E, rfl, hc, hc0⟩
  rotate_left
  · show px_exc _ _ _ _ _ _ _ _ _ _ _
    by_cases q0 : E = "java/lang/IndexOutOfBoundsException"
    · subst q0
      rw [show c = 1 from hc] at hr
      unfold px_exc
      rw [show px_find (px_body pm_L_world).2.2.2.2.2 9 "java/lang/IndexOutOfBoundsException" = some 17 from rfl]
      intro q9
      refine pg_astore dL_world_17 (Nat.le_of_ble_eq_true rfl) rfl ?_
      refine pg_iconst dL_world_19 (show Int32.ofInt (1) = (1) by decide) ?_
      refine pg_iret dL_world_20 rfl rfl (Nat.le_of_ble_eq_true rfl) (Nat.le_of_ble_eq_true rfl) ?_
      exact ⟨hn1, ha1, 1, w, rfl, ⟨fo, h58.trans ho, fun z => absurd z (by decide)⟩, ⟨f36, h36.trans hm36⟩, hr g1 (fun _ _ => rfl) ⟨fo, h58.trans ho⟩⟩
    ·
      exfalso
      refine hc0 (hc.trans ?_)
      show ((if E = "java/lang/IndexOutOfBoundsException" then 1 else 0) : Int32) = 0
      rw [if_neg q0]
  show pg px_tb fx (px_body pm_L_world) (pm px_tb fx 1733) (QW fx al n 131 [.int p0, .int p1, .int p2, .int p3] cvI) al1 n1 g1 12 _ _ _ _
  rw [← ha1 58 (by omega)]
  refine pg_i2l dL_world_12 ?_
  refine pg_last (j := 58) dL_world_13 (by omega) (h58.trans ho) (vp_in_nI (n := 0) (by decide) (by decide)) ?_
  refine pg_goto (tgt := 21) dL_world_14 (by decide) ?_
  refine pg_iconst dL_world_21 (show Int32.ofInt (0) = (0) by decide) ?_
  refine pg_iret dL_world_22 rfl rfl (Nat.le_of_ble_eq_true rfl) (Nat.le_of_ble_eq_true rfl) ?_
  refine ⟨hn1, ha1, 0, w, rfl, ⟨_, va_up_self _ _ _, fun _ => rfl⟩, ⟨f36, (va_up_ne _ _ (by decide)).trans (h36.trans hm36)⟩, hr _ (fun k hk => va_up_ne _ _ hk) ⟨_, va_up_self _ _ _⟩⟩
set_option maxHeartbeats 4000000 in
set_option maxRecDepth 20000 in
theorem wr_attempt {fx : px_F} {al : Nat → Nat} {n : Nat} {g : Nat → px_O} {c0 : Int32} (h : REL al n g c0) (p0 p1 p2 : Int32) : pm px_tb fx 1734 152 [.ref (al 0), .int p0, .int p1, .int p2, .ref (al 58)] al n g (QW fx al n 135 [.int p0, .int p1, .int p2] cvI) := by
  refine ⟨pm_L_attempt, rfl, rfl, Nat.le_of_ble_eq_true rfl, ?_⟩
  have hn := h.n
  obtain ⟨⟨fo, ho⟩, ⟨f0, hx⟩, ⟨f36, hm36⟩⟩ := h.o
  show pg px_tb fx (px_body pm_L_attempt) (pm px_tb fx 1733) (QW fx al n 135 [.int p0, .int p1, .int p2] cvI) al n g 0 [.ref (al 0), .int p0, .int p1, .int p2, .ref (al 58), .float 0] [] 0 0
  refine pg_aload dL_attempt_0 rfl rfl ?_
  refine pg_iconst dL_attempt_2 (show Int32.ofInt (0) = (0) by decide) ?_
  refine pg_aload_n dL_attempt_3 rfl rfl ?_
  refine pg_iload_n dL_attempt_4 rfl ?_
  refine pg_iload_n dL_attempt_5 rfl ?_
  refine pg_iload_n dL_attempt_6 rfl ?_
  refine pg_callV (pm_mono px_tb fx 1733) (j := 0) (As := [.int p0, .int p1, .int p2]) dL_attempt_7 cl_L_35 (by omega) hx rfl (Nat.le_of_ble_eq_true rfl) (Nat.le_of_ble_eq_true rfl) (Nat.le_of_ble_eq_true rfl) ?_
  refine pm_mono px_tb fx 1733 _ _ _ _ _ _ _ (fun o al1 n1 g1 hq => ?_) (op_attempt h p0 p1 p2)
  obtain ⟨hn1, ha1, h58, h36, w, c, ho1, hr⟩ := hq
  rcases ho1 with ⟨rfl, rfl⟩ | ⟨E, rfl, hc, hc0⟩
  rotate_left
  · show px_exc _ _ _ _ _ _ _ _ _ _ _
    by_cases q0 : E = "java/lang/IndexOutOfBoundsException"
    · subst q0
      rw [show c = 1 from hc] at hr
      unfold px_exc
      rw [show px_find (px_body pm_L_attempt).2.2.2.2.2 7 "java/lang/IndexOutOfBoundsException" = some 15 from rfl]
      intro q9
      refine pg_astore dL_attempt_15 (Nat.le_of_ble_eq_true rfl) rfl ?_
      refine pg_iconst dL_attempt_17 (show Int32.ofInt (1) = (1) by decide) ?_
      refine pg_iret dL_attempt_18 rfl rfl (Nat.le_of_ble_eq_true rfl) (Nat.le_of_ble_eq_true rfl) ?_
      exact ⟨hn1, ha1, 1, w, rfl, ⟨fo, h58.trans ho, fun z => absurd z (by decide)⟩, ⟨f36, h36.trans hm36⟩, hr g1 (fun _ _ => rfl) ⟨fo, h58.trans ho⟩⟩
    ·
      by_cases q1 : E = "java/lang/IllegalStateException"
      · subst q1
        rw [show c = 2 from hc] at hr
        unfold px_exc
        rw [show px_find (px_body pm_L_attempt).2.2.2.2.2 7 "java/lang/IllegalStateException" = some 19 from rfl]
        intro q9
        refine pg_astore dL_attempt_19 (Nat.le_of_ble_eq_true rfl) rfl ?_
        refine pg_iconst dL_attempt_21 (show Int32.ofInt (2) = (2) by decide) ?_
        refine pg_iret dL_attempt_22 rfl rfl (Nat.le_of_ble_eq_true rfl) (Nat.le_of_ble_eq_true rfl) ?_
        exact ⟨hn1, ha1, 2, w, rfl, ⟨fo, h58.trans ho, fun z => absurd z (by decide)⟩, ⟨f36, h36.trans hm36⟩, hr g1 (fun _ _ => rfl) ⟨fo, h58.trans ho⟩⟩
      ·
        exfalso
        refine hc0 (hc.trans ?_)
        show ((if E = "java/lang/IndexOutOfBoundsException" then 1 else if E = "java/lang/IllegalStateException" then 2 else 0) : Int32) = 0
        rw [if_neg q0, if_neg q1]
  show pg px_tb fx (px_body pm_L_attempt) (pm px_tb fx 1733) (QW fx al n 135 [.int p0, .int p1, .int p2] cvI) al1 n1 g1 10 _ _ _ _
  rw [← ha1 58 (by omega)]
  refine pg_i2l dL_attempt_10 ?_
  refine pg_last (j := 58) dL_attempt_11 (by omega) (h58.trans ho) (vp_in_nI (n := 0) (by decide) (by decide)) ?_
  refine pg_goto (tgt := 23) dL_attempt_12 (by decide) ?_
  refine pg_iconst dL_attempt_23 (show Int32.ofInt (0) = (0) by decide) ?_
  refine pg_iret dL_attempt_24 rfl rfl (Nat.le_of_ble_eq_true rfl) (Nat.le_of_ble_eq_true rfl) ?_
  refine ⟨hn1, ha1, 0, w, rfl, ⟨_, va_up_self _ _ _, fun _ => rfl⟩, ⟨f36, (va_up_ne _ _ (by decide)).trans (h36.trans hm36)⟩, hr _ (fun k hk => va_up_ne _ _ hk) ⟨_, va_up_self _ _ _⟩⟩
set_option maxHeartbeats 4000000 in
set_option maxRecDepth 20000 in
theorem wr_can {fx : px_F} {al : Nat → Nat} {n : Nat} {g : Nat → px_O} {c0 : Int32} (h : REL al n g c0) (p0 p1 : Int32) : pm px_tb fx 1734 153 [.ref (al 0), .int p0, .int p1, .ref (al 58)] al n g (QW fx al n 136 [.int p0, .int p1] cvI) := by
  refine ⟨pm_L_can, rfl, rfl, Nat.le_of_ble_eq_true rfl, ?_⟩
  have hn := h.n
  obtain ⟨⟨fo, ho⟩, ⟨f0, hx⟩, ⟨f36, hm36⟩⟩ := h.o
  show pg px_tb fx (px_body pm_L_can) (pm px_tb fx 1733) (QW fx al n 136 [.int p0, .int p1] cvI) al n g 0 [.ref (al 0), .int p0, .int p1, .ref (al 58), .float 0] [] 0 0
  refine pg_aload_n dL_can_0 rfl rfl ?_
  refine pg_iconst dL_can_1 (show Int32.ofInt (0) = (0) by decide) ?_
  refine pg_aload_n dL_can_2 rfl rfl ?_
  refine pg_iload_n dL_can_3 rfl ?_
  refine pg_iload_n dL_can_4 rfl ?_
  refine pg_callV (pm_mono px_tb fx 1733) (j := 0) (As := [.int p0, .int p1]) dL_can_5 cl_L_39 (by omega) hx rfl (Nat.le_of_ble_eq_true rfl) (Nat.le_of_ble_eq_true rfl) (Nat.le_of_ble_eq_true rfl) ?_
  refine pm_mono px_tb fx 1733 _ _ _ _ _ _ _ (fun o al1 n1 g1 hq => ?_) (op_can h p0 p1)
  obtain ⟨hn1, ha1, h58, h36, w, c, ho1, hr⟩ := hq
  rcases ho1 with ⟨rfl, rfl⟩ | ⟨E, rfl, hc, hc0⟩
  rotate_left
  · show px_exc _ _ _ _ _ _ _ _ _ _ _
    by_cases q0 : E = "java/lang/IndexOutOfBoundsException"
    · subst q0
      rw [show c = 1 from hc] at hr
      unfold px_exc
      rw [show px_find (px_body pm_L_can).2.2.2.2.2 5 "java/lang/IndexOutOfBoundsException" = some 13 from rfl]
      intro q9
      refine pg_astore dL_can_13 (Nat.le_of_ble_eq_true rfl) rfl ?_
      refine pg_iconst dL_can_15 (show Int32.ofInt (1) = (1) by decide) ?_
      refine pg_iret dL_can_16 rfl rfl (Nat.le_of_ble_eq_true rfl) (Nat.le_of_ble_eq_true rfl) ?_
      exact ⟨hn1, ha1, 1, w, rfl, ⟨fo, h58.trans ho, fun z => absurd z (by decide)⟩, ⟨f36, h36.trans hm36⟩, hr g1 (fun _ _ => rfl) ⟨fo, h58.trans ho⟩⟩
    ·
      exfalso
      refine hc0 (hc.trans ?_)
      show ((if E = "java/lang/IndexOutOfBoundsException" then 1 else 0) : Int32) = 0
      rw [if_neg q0]
  show pg px_tb fx (px_body pm_L_can) (pm px_tb fx 1733) (QW fx al n 136 [.int p0, .int p1] cvI) al1 n1 g1 8 _ _ _ _
  rw [← ha1 58 (by omega)]
  refine pg_i2l dL_can_8 ?_
  refine pg_last (j := 58) dL_can_9 (by omega) (h58.trans ho) (vp_in_nI (n := 0) (by decide) (by decide)) ?_
  refine pg_goto (tgt := 17) dL_can_10 (by decide) ?_
  refine pg_iconst dL_can_17 (show Int32.ofInt (0) = (0) by decide) ?_
  refine pg_iret dL_can_18 rfl rfl (Nat.le_of_ble_eq_true rfl) (Nat.le_of_ble_eq_true rfl) ?_
  refine ⟨hn1, ha1, 0, w, rfl, ⟨_, va_up_self _ _ _, fun _ => rfl⟩, ⟨f36, (va_up_ne _ _ (by decide)).trans (h36.trans hm36)⟩, hr _ (fun k hk => va_up_ne _ _ hk) ⟨_, va_up_self _ _ _⟩⟩
set_option maxHeartbeats 4000000 in
set_option maxRecDepth 20000 in
theorem wr_passed {fx : px_F} {al : Nat → Nat} {n : Nat} {g : Nat → px_O} {c0 : Int32} (h : REL al n g c0) (p0 p1 : Int32) : pm px_tb fx 1734 154 [.ref (al 0), .int p0, .int p1, .ref (al 58)] al n g (QW fx al n 137 [.int p0, .int p1] cvB) := by
  refine ⟨pm_L_passed, rfl, rfl, Nat.le_of_ble_eq_true rfl, ?_⟩
  have hn := h.n
  obtain ⟨⟨fo, ho⟩, ⟨f0, hx⟩, ⟨f36, hm36⟩⟩ := h.o
  show pg px_tb fx (px_body pm_L_passed) (pm px_tb fx 1733) (QW fx al n 137 [.int p0, .int p1] cvB) al n g 0 [.ref (al 0), .int p0, .int p1, .ref (al 58), .float 0] [] 0 0
  refine pg_aload_n dL_passed_0 rfl rfl ?_
  refine pg_iconst dL_passed_1 (show Int32.ofInt (0) = (0) by decide) ?_
  refine pg_aload_n dL_passed_2 rfl rfl ?_
  refine pg_iload_n dL_passed_3 rfl ?_
  refine pg_iload_n dL_passed_4 rfl ?_
  refine pg_callV (pm_mono px_tb fx 1733) (j := 0) (As := [.int p0, .int p1]) dL_passed_5 cl_L_42 (by omega) hx rfl (Nat.le_of_ble_eq_true rfl) (Nat.le_of_ble_eq_true rfl) (Nat.le_of_ble_eq_true rfl) ?_
  refine pm_mono px_tb fx 1733 _ _ _ _ _ _ _ (fun o al1 n1 g1 hq => ?_) (op_passed h p0 p1)
  obtain ⟨hn1, ha1, h58, h36, w, c, ho1, hr⟩ := hq
  rcases ho1 with ⟨rfl, rfl⟩ | ⟨E, rfl, hc, hc0⟩
  rotate_left
  · show px_exc _ _ _ _ _ _ _ _ _ _ _
    by_cases q0 : E = "java/lang/IndexOutOfBoundsException"
    · subst q0
      rw [show c = 1 from hc] at hr
      unfold px_exc
      rw [show px_find (px_body pm_L_passed).2.2.2.2.2 5 "java/lang/IndexOutOfBoundsException" = some 20 from rfl]
      intro q9
      refine pg_astore dL_passed_20 (Nat.le_of_ble_eq_true rfl) rfl ?_
      refine pg_iconst dL_passed_22 (show Int32.ofInt (1) = (1) by decide) ?_
      refine pg_iret dL_passed_23 rfl rfl (Nat.le_of_ble_eq_true rfl) (Nat.le_of_ble_eq_true rfl) ?_
      exact ⟨hn1, ha1, 1, w, rfl, ⟨fo, h58.trans ho, fun z => absurd z (by decide)⟩, ⟨f36, h36.trans hm36⟩, hr g1 (fun _ _ => rfl) ⟨fo, h58.trans ho⟩⟩
    ·
      exfalso
      refine hc0 (hc.trans ?_)
      show ((if E = "java/lang/IndexOutOfBoundsException" then 1 else 0) : Int32) = 0
      rw [if_neg q0]
  show pg px_tb fx (px_body pm_L_passed) (pm px_tb fx 1733) (QW fx al n 137 [.int p0, .int p1] cvB) al1 n1 g1 8 _ _ _ _
  rw [← ha1 58 (by omega)]
  refine pg_if_eq (tgt := 15) dL_passed_8 (by decide) (fun c8 => ?_) (fun c8 => ?_)
  ·
    refine pg_lconst dL_passed_15 rfl ?_
    refine pg_last (j := 58) dL_passed_16 (by omega) (h58.trans ho) (vp_in_nI (n := 0) (by decide) (by decide)) ?_
    refine pg_goto (tgt := 24) dL_passed_17 (by decide) ?_
    refine pg_iconst dL_passed_24 (show Int32.ofInt (0) = (0) by decide) ?_
    refine pg_iret dL_passed_25 rfl rfl (Nat.le_of_ble_eq_true rfl) (Nat.le_of_ble_eq_true rfl) ?_
    refine ⟨hn1, ha1, 0, w, rfl, ⟨_, va_up_self _ _ _, fun _ => (by unfold cvB; rw [if_pos c8]; rfl)⟩, ⟨f36, (va_up_ne _ _ (by decide)).trans (h36.trans hm36)⟩, hr _ (fun k hk => va_up_ne _ _ hk) ⟨_, va_up_self _ _ _⟩⟩
  ·
    refine pg_lconst dL_passed_11 rfl ?_
    refine pg_goto (tgt := 16) dL_passed_12 (by decide) ?_
    refine pg_last (j := 58) dL_passed_16 (by omega) (h58.trans ho) (vp_in_nI (n := 0) (by decide) (by decide)) ?_
    refine pg_goto (tgt := 24) dL_passed_17 (by decide) ?_
    refine pg_iconst dL_passed_24 (show Int32.ofInt (0) = (0) by decide) ?_
    refine pg_iret dL_passed_25 rfl rfl (Nat.le_of_ble_eq_true rfl) (Nat.le_of_ble_eq_true rfl) ?_
    refine ⟨hn1, ha1, 0, w, rfl, ⟨_, va_up_self _ _ _, fun _ => (by unfold cvB; rw [if_neg c8]; rfl)⟩, ⟨f36, (va_up_ne _ _ (by decide)).trans (h36.trans hm36)⟩, hr _ (fun k hk => va_up_ne _ _ hk) ⟨_, va_up_self _ _ _⟩⟩
set_option maxHeartbeats 4000000 in
set_option maxRecDepth 20000 in
theorem wr_next {fx : px_F} {al : Nat → Nat} {n : Nat} {g : Nat → px_O} {c0 : Int32} (h : REL al n g c0) (p0 : Int32) : pm px_tb fx 1734 155 [.ref (al 0), .int p0, .ref (al 58)] al n g (QW fx al n 139 [.int p0] cvI) := by
  refine ⟨pm_L_next, rfl, rfl, Nat.le_of_ble_eq_true rfl, ?_⟩
  have hn := h.n
  obtain ⟨⟨fo, ho⟩, ⟨f0, hx⟩, ⟨f36, hm36⟩⟩ := h.o
  show pg px_tb fx (px_body pm_L_next) (pm px_tb fx 1733) (QW fx al n 139 [.int p0] cvI) al n g 0 [.ref (al 0), .int p0, .ref (al 58), .float 0] [] 0 0
  refine pg_aload_n dL_next_0 rfl rfl ?_
  refine pg_iconst dL_next_1 (show Int32.ofInt (0) = (0) by decide) ?_
  refine pg_aload_n dL_next_2 rfl rfl ?_
  refine pg_iload_n dL_next_3 rfl ?_
  refine pg_callV (pm_mono px_tb fx 1733) (j := 0) (As := [.int p0]) dL_next_4 cl_L_46 (by omega) hx rfl (Nat.le_of_ble_eq_true rfl) (Nat.le_of_ble_eq_true rfl) (Nat.le_of_ble_eq_true rfl) ?_
  refine pm_mono px_tb fx 1733 _ _ _ _ _ _ _ (fun o al1 n1 g1 hq => ?_) (op_next h p0)
  obtain ⟨hn1, ha1, h58, h36, w, c, ho1, hr⟩ := hq
  rcases ho1 with ⟨rfl, rfl⟩ | ⟨E, rfl, hc, hc0⟩
  rotate_left
  · show px_exc _ _ _ _ _ _ _ _ _ _ _
    by_cases q0 : E = "java/lang/IndexOutOfBoundsException"
    · subst q0
      rw [show c = 1 from hc] at hr
      unfold px_exc
      rw [show px_find (px_body pm_L_next).2.2.2.2.2 4 "java/lang/IndexOutOfBoundsException" = some 12 from rfl]
      intro q9
      refine pg_astore_n dL_next_12 (Nat.le_of_ble_eq_true rfl) rfl ?_
      refine pg_iconst dL_next_13 (show Int32.ofInt (1) = (1) by decide) ?_
      refine pg_iret dL_next_14 rfl rfl (Nat.le_of_ble_eq_true rfl) (Nat.le_of_ble_eq_true rfl) ?_
      exact ⟨hn1, ha1, 1, w, rfl, ⟨fo, h58.trans ho, fun z => absurd z (by decide)⟩, ⟨f36, h36.trans hm36⟩, hr g1 (fun _ _ => rfl) ⟨fo, h58.trans ho⟩⟩
    ·
      exfalso
      refine hc0 (hc.trans ?_)
      show ((if E = "java/lang/IndexOutOfBoundsException" then 1 else 0) : Int32) = 0
      rw [if_neg q0]
  show pg px_tb fx (px_body pm_L_next) (pm px_tb fx 1733) (QW fx al n 139 [.int p0] cvI) al1 n1 g1 7 _ _ _ _
  rw [← ha1 58 (by omega)]
  refine pg_i2l dL_next_7 ?_
  refine pg_last (j := 58) dL_next_8 (by omega) (h58.trans ho) (vp_in_nI (n := 0) (by decide) (by decide)) ?_
  refine pg_goto (tgt := 15) dL_next_9 (by decide) ?_
  refine pg_iconst dL_next_15 (show Int32.ofInt (0) = (0) by decide) ?_
  refine pg_iret dL_next_16 rfl rfl (Nat.le_of_ble_eq_true rfl) (Nat.le_of_ble_eq_true rfl) ?_
  refine ⟨hn1, ha1, 0, w, rfl, ⟨_, va_up_self _ _ _, fun _ => rfl⟩, ⟨f36, (va_up_ne _ _ (by decide)).trans (h36.trans hm36)⟩, hr _ (fun k hk => va_up_ne _ _ hk) ⟨_, va_up_self _ _ _⟩⟩
set_option maxHeartbeats 4000000 in
set_option maxRecDepth 20000 in
theorem wr_wish {fx : px_F} {al : Nat → Nat} {n : Nat} {g : Nat → px_O} {c0 : Int32} (h : REL al n g c0) (p0 p1 : Int32) : pm px_tb fx 1734 156 [.ref (al 0), .int p0, .int p1, .ref (al 58)] al n g (QW fx al n 140 [.int p0, .int p1] cvI) := by
  refine ⟨pm_L_wish, rfl, rfl, Nat.le_of_ble_eq_true rfl, ?_⟩
  have hn := h.n
  obtain ⟨⟨fo, ho⟩, ⟨f0, hx⟩, ⟨f36, hm36⟩⟩ := h.o
  show pg px_tb fx (px_body pm_L_wish) (pm px_tb fx 1733) (QW fx al n 140 [.int p0, .int p1] cvI) al n g 0 [.ref (al 0), .int p0, .int p1, .ref (al 58), .float 0] [] 0 0
  refine pg_aload_n dL_wish_0 rfl rfl ?_
  refine pg_iconst dL_wish_1 (show Int32.ofInt (0) = (0) by decide) ?_
  refine pg_aload_n dL_wish_2 rfl rfl ?_
  refine pg_iload_n dL_wish_3 rfl ?_
  refine pg_iload_n dL_wish_4 rfl ?_
  refine pg_callV (pm_mono px_tb fx 1733) (j := 0) (As := [.int p0, .int p1]) dL_wish_5 cl_L_50 (by omega) hx rfl (Nat.le_of_ble_eq_true rfl) (Nat.le_of_ble_eq_true rfl) (Nat.le_of_ble_eq_true rfl) ?_
  refine pm_mono px_tb fx 1733 _ _ _ _ _ _ _ (fun o al1 n1 g1 hq => ?_) (op_wish h p0 p1)
  obtain ⟨hn1, ha1, h58, h36, w, c, ho1, hr⟩ := hq
  rcases ho1 with ⟨rfl, rfl⟩ | ⟨E, rfl, hc, hc0⟩
  rotate_left
  · show px_exc _ _ _ _ _ _ _ _ _ _ _
    by_cases q0 : E = "java/lang/IndexOutOfBoundsException"
    · subst q0
      rw [show c = 1 from hc] at hr
      unfold px_exc
      rw [show px_find (px_body pm_L_wish).2.2.2.2.2 5 "java/lang/IndexOutOfBoundsException" = some 13 from rfl]
      intro q9
      refine pg_astore dL_wish_13 (Nat.le_of_ble_eq_true rfl) rfl ?_
      refine pg_iconst dL_wish_15 (show Int32.ofInt (1) = (1) by decide) ?_
      refine pg_iret dL_wish_16 rfl rfl (Nat.le_of_ble_eq_true rfl) (Nat.le_of_ble_eq_true rfl) ?_
      exact ⟨hn1, ha1, 1, w, rfl, ⟨fo, h58.trans ho, fun z => absurd z (by decide)⟩, ⟨f36, h36.trans hm36⟩, hr g1 (fun _ _ => rfl) ⟨fo, h58.trans ho⟩⟩
    ·
      exfalso
      refine hc0 (hc.trans ?_)
      show ((if E = "java/lang/IndexOutOfBoundsException" then 1 else 0) : Int32) = 0
      rw [if_neg q0]
  show pg px_tb fx (px_body pm_L_wish) (pm px_tb fx 1733) (QW fx al n 140 [.int p0, .int p1] cvI) al1 n1 g1 8 _ _ _ _
  rw [← ha1 58 (by omega)]
  refine pg_i2l dL_wish_8 ?_
  refine pg_last (j := 58) dL_wish_9 (by omega) (h58.trans ho) (vp_in_nI (n := 0) (by decide) (by decide)) ?_
  refine pg_goto (tgt := 17) dL_wish_10 (by decide) ?_
  refine pg_iconst dL_wish_17 (show Int32.ofInt (0) = (0) by decide) ?_
  refine pg_iret dL_wish_18 rfl rfl (Nat.le_of_ble_eq_true rfl) (Nat.le_of_ble_eq_true rfl) ?_
  refine ⟨hn1, ha1, 0, w, rfl, ⟨_, va_up_self _ _ _, fun _ => rfl⟩, ⟨f36, (va_up_ne _ _ (by decide)).trans (h36.trans hm36)⟩, hr _ (fun k hk => va_up_ne _ _ hk) ⟨_, va_up_self _ _ _⟩⟩
set_option maxHeartbeats 4000000 in
set_option maxRecDepth 20000 in
theorem wr_look {fx : px_F} {al : Nat → Nat} {n : Nat} {g : Nat → px_O} {c0 : Int32} (h : REL al n g c0) (p0 p1 : Int32) : pm px_tb fx 1734 157 [.ref (al 0), .int p0, .int p1, .ref (al 58)] al n g (QW fx al n 141 [.int p0, .int p1] cvI) := by
  refine ⟨pm_L_look, rfl, rfl, Nat.le_of_ble_eq_true rfl, ?_⟩
  have hn := h.n
  obtain ⟨⟨fo, ho⟩, ⟨f0, hx⟩, ⟨f36, hm36⟩⟩ := h.o
  show pg px_tb fx (px_body pm_L_look) (pm px_tb fx 1733) (QW fx al n 141 [.int p0, .int p1] cvI) al n g 0 [.ref (al 0), .int p0, .int p1, .ref (al 58), .float 0] [] 0 0
  refine pg_aload_n dL_look_0 rfl rfl ?_
  refine pg_iconst dL_look_1 (show Int32.ofInt (0) = (0) by decide) ?_
  refine pg_aload_n dL_look_2 rfl rfl ?_
  refine pg_iload_n dL_look_3 rfl ?_
  refine pg_iload_n dL_look_4 rfl ?_
  refine pg_callV (pm_mono px_tb fx 1733) (j := 0) (As := [.int p0, .int p1]) dL_look_5 cl_L_53 (by omega) hx rfl (Nat.le_of_ble_eq_true rfl) (Nat.le_of_ble_eq_true rfl) (Nat.le_of_ble_eq_true rfl) ?_
  refine pm_mono px_tb fx 1733 _ _ _ _ _ _ _ (fun o al1 n1 g1 hq => ?_) (op_look h p0 p1)
  obtain ⟨hn1, ha1, h58, h36, w, c, ho1, hr⟩ := hq
  rcases ho1 with ⟨rfl, rfl⟩ | ⟨E, rfl, hc, hc0⟩
  rotate_left
  · show px_exc _ _ _ _ _ _ _ _ _ _ _
    by_cases q0 : E = "java/lang/IndexOutOfBoundsException"
    · subst q0
      rw [show c = 1 from hc] at hr
      unfold px_exc
      rw [show px_find (px_body pm_L_look).2.2.2.2.2 5 "java/lang/IndexOutOfBoundsException" = some 13 from rfl]
      intro q9
      refine pg_astore dL_look_13 (Nat.le_of_ble_eq_true rfl) rfl ?_
      refine pg_iconst dL_look_15 (show Int32.ofInt (1) = (1) by decide) ?_
      refine pg_iret dL_look_16 rfl rfl (Nat.le_of_ble_eq_true rfl) (Nat.le_of_ble_eq_true rfl) ?_
      exact ⟨hn1, ha1, 1, w, rfl, ⟨fo, h58.trans ho, fun z => absurd z (by decide)⟩, ⟨f36, h36.trans hm36⟩, hr g1 (fun _ _ => rfl) ⟨fo, h58.trans ho⟩⟩
    ·
      by_cases q1 : E = "java/util/NoSuchElementException"
      · subst q1
        rw [show c = 2 from hc] at hr
        unfold px_exc
        rw [show px_find (px_body pm_L_look).2.2.2.2.2 5 "java/util/NoSuchElementException" = some 17 from rfl]
        intro q9
        refine pg_astore dL_look_17 (Nat.le_of_ble_eq_true rfl) rfl ?_
        refine pg_iconst dL_look_19 (show Int32.ofInt (2) = (2) by decide) ?_
        refine pg_iret dL_look_20 rfl rfl (Nat.le_of_ble_eq_true rfl) (Nat.le_of_ble_eq_true rfl) ?_
        exact ⟨hn1, ha1, 2, w, rfl, ⟨fo, h58.trans ho, fun z => absurd z (by decide)⟩, ⟨f36, h36.trans hm36⟩, hr g1 (fun _ _ => rfl) ⟨fo, h58.trans ho⟩⟩
      ·
        exfalso
        refine hc0 (hc.trans ?_)
        show ((if E = "java/lang/IndexOutOfBoundsException" then 1 else if E = "java/util/NoSuchElementException" then 2 else 0) : Int32) = 0
        rw [if_neg q0, if_neg q1]
  show pg px_tb fx (px_body pm_L_look) (pm px_tb fx 1733) (QW fx al n 141 [.int p0, .int p1] cvI) al1 n1 g1 8 _ _ _ _
  rw [← ha1 58 (by omega)]
  refine pg_i2l dL_look_8 ?_
  refine pg_last (j := 58) dL_look_9 (by omega) (h58.trans ho) (vp_in_nI (n := 0) (by decide) (by decide)) ?_
  refine pg_goto (tgt := 21) dL_look_10 (by decide) ?_
  refine pg_iconst dL_look_21 (show Int32.ofInt (0) = (0) by decide) ?_
  refine pg_iret dL_look_22 rfl rfl (Nat.le_of_ble_eq_true rfl) (Nat.le_of_ble_eq_true rfl) ?_
  refine ⟨hn1, ha1, 0, w, rfl, ⟨_, va_up_self _ _ _, fun _ => rfl⟩, ⟨f36, (va_up_ne _ _ (by decide)).trans (h36.trans hm36)⟩, hr _ (fun k hk => va_up_ne _ _ hk) ⟨_, va_up_self _ _ _⟩⟩
set_option maxHeartbeats 4000000 in
set_option maxRecDepth 20000 in
theorem wr_hint {fx : px_F} {al : Nat → Nat} {n : Nat} {g : Nat → px_O} {c0 : Int32} (h : REL al n g c0) (p0 p1 : Int32) : pm px_tb fx 1734 158 [.ref (al 0), .int p0, .int p1, .ref (al 58)] al n g (QW fx al n 145 [.int p0, .int p1] cvI) := by
  refine ⟨pm_L_hint, rfl, rfl, Nat.le_of_ble_eq_true rfl, ?_⟩
  have hn := h.n
  obtain ⟨⟨fo, ho⟩, ⟨f0, hx⟩, ⟨f36, hm36⟩⟩ := h.o
  show pg px_tb fx (px_body pm_L_hint) (pm px_tb fx 1733) (QW fx al n 145 [.int p0, .int p1] cvI) al n g 0 [.ref (al 0), .int p0, .int p1, .ref (al 58), .float 0] [] 0 0
  refine pg_aload_n dL_hint_0 rfl rfl ?_
  refine pg_iconst dL_hint_1 (show Int32.ofInt (0) = (0) by decide) ?_
  refine pg_aload_n dL_hint_2 rfl rfl ?_
  refine pg_iload_n dL_hint_3 rfl ?_
  refine pg_iload_n dL_hint_4 rfl ?_
  refine pg_callV (pm_mono px_tb fx 1733) (j := 0) (As := [.int p0, .int p1]) dL_hint_5 cl_L_56 (by omega) hx rfl (Nat.le_of_ble_eq_true rfl) (Nat.le_of_ble_eq_true rfl) (Nat.le_of_ble_eq_true rfl) ?_
  refine pm_mono px_tb fx 1733 _ _ _ _ _ _ _ (fun o al1 n1 g1 hq => ?_) (op_hint h p0 p1)
  obtain ⟨hn1, ha1, h58, h36, w, c, ho1, hr⟩ := hq
  rcases ho1 with ⟨rfl, rfl⟩ | ⟨E, rfl, hc, hc0⟩
  rotate_left
  · show px_exc _ _ _ _ _ _ _ _ _ _ _
    by_cases q0 : E = "java/lang/IndexOutOfBoundsException"
    · subst q0
      rw [show c = 1 from hc] at hr
      unfold px_exc
      rw [show px_find (px_body pm_L_hint).2.2.2.2.2 5 "java/lang/IndexOutOfBoundsException" = some 13 from rfl]
      intro q9
      refine pg_astore dL_hint_13 (Nat.le_of_ble_eq_true rfl) rfl ?_
      refine pg_iconst dL_hint_15 (show Int32.ofInt (1) = (1) by decide) ?_
      refine pg_iret dL_hint_16 rfl rfl (Nat.le_of_ble_eq_true rfl) (Nat.le_of_ble_eq_true rfl) ?_
      exact ⟨hn1, ha1, 1, w, rfl, ⟨fo, h58.trans ho, fun z => absurd z (by decide)⟩, ⟨f36, h36.trans hm36⟩, hr g1 (fun _ _ => rfl) ⟨fo, h58.trans ho⟩⟩
    ·
      by_cases q1 : E = "java/lang/IllegalStateException"
      · subst q1
        rw [show c = 2 from hc] at hr
        unfold px_exc
        rw [show px_find (px_body pm_L_hint).2.2.2.2.2 5 "java/lang/IllegalStateException" = some 17 from rfl]
        intro q9
        refine pg_astore dL_hint_17 (Nat.le_of_ble_eq_true rfl) rfl ?_
        refine pg_iconst dL_hint_19 (show Int32.ofInt (2) = (2) by decide) ?_
        refine pg_iret dL_hint_20 rfl rfl (Nat.le_of_ble_eq_true rfl) (Nat.le_of_ble_eq_true rfl) ?_
        exact ⟨hn1, ha1, 2, w, rfl, ⟨fo, h58.trans ho, fun z => absurd z (by decide)⟩, ⟨f36, h36.trans hm36⟩, hr g1 (fun _ _ => rfl) ⟨fo, h58.trans ho⟩⟩
      ·
        by_cases q2 : E = "java/util/NoSuchElementException"
        · subst q2
          rw [show c = 3 from hc] at hr
          unfold px_exc
          rw [show px_find (px_body pm_L_hint).2.2.2.2.2 5 "java/util/NoSuchElementException" = some 21 from rfl]
          intro q9
          refine pg_astore dL_hint_21 (Nat.le_of_ble_eq_true rfl) rfl ?_
          refine pg_iconst dL_hint_23 (show Int32.ofInt (3) = (3) by decide) ?_
          refine pg_iret dL_hint_24 rfl rfl (Nat.le_of_ble_eq_true rfl) (Nat.le_of_ble_eq_true rfl) ?_
          exact ⟨hn1, ha1, 3, w, rfl, ⟨fo, h58.trans ho, fun z => absurd z (by decide)⟩, ⟨f36, h36.trans hm36⟩, hr g1 (fun _ _ => rfl) ⟨fo, h58.trans ho⟩⟩
        ·
          exfalso
          refine hc0 (hc.trans ?_)
          show ((if E = "java/lang/IndexOutOfBoundsException" then 1 else if E = "java/lang/IllegalStateException" then 2 else if E = "java/util/NoSuchElementException" then 3 else 0) : Int32) = 0
          rw [if_neg q0, if_neg q1, if_neg q2]
  show pg px_tb fx (px_body pm_L_hint) (pm px_tb fx 1733) (QW fx al n 145 [.int p0, .int p1] cvI) al1 n1 g1 8 _ _ _ _
  rw [← ha1 58 (by omega)]
  refine pg_i2l dL_hint_8 ?_
  refine pg_last (j := 58) dL_hint_9 (by omega) (h58.trans ho) (vp_in_nI (n := 0) (by decide) (by decide)) ?_
  refine pg_goto (tgt := 25) dL_hint_10 (by decide) ?_
  refine pg_iconst dL_hint_25 (show Int32.ofInt (0) = (0) by decide) ?_
  refine pg_iret dL_hint_26 rfl rfl (Nat.le_of_ble_eq_true rfl) (Nat.le_of_ble_eq_true rfl) ?_
  refine ⟨hn1, ha1, 0, w, rfl, ⟨_, va_up_self _ _ _, fun _ => rfl⟩, ⟨f36, (va_up_ne _ _ (by decide)).trans (h36.trans hm36)⟩, hr _ (fun k hk => va_up_ne _ _ hk) ⟨_, va_up_self _ _ _⟩⟩
set_option maxHeartbeats 4000000 in
set_option maxRecDepth 20000 in
theorem wr_alike {fx : px_F} {al : Nat → Nat} {n : Nat} {g : Nat → px_O} {c0 : Int32} (h : REL al n g c0) (p0 p1 p2 p3 : Int32) : pm px_tb fx 1734 159 [.ref (al 0), .int p0, .int p1, .int p2, .int p3, .ref (al 58)] al n g (QW fx al n 146 [.int p0, .int p1, .int p2, .int p3] cvB) := by
  refine ⟨pm_L_alike, rfl, rfl, Nat.le_of_ble_eq_true rfl, ?_⟩
  have hn := h.n
  obtain ⟨⟨fo, ho⟩, ⟨f0, hx⟩, ⟨f36, hm36⟩⟩ := h.o
  show pg px_tb fx (px_body pm_L_alike) (pm px_tb fx 1733) (QW fx al n 146 [.int p0, .int p1, .int p2, .int p3] cvB) al n g 0 [.ref (al 0), .int p0, .int p1, .int p2, .int p3, .ref (al 58), .float 0] [] 0 0
  refine pg_aload dL_alike_0 rfl rfl ?_
  refine pg_iconst dL_alike_2 (show Int32.ofInt (0) = (0) by decide) ?_
  refine pg_aload_n dL_alike_3 rfl rfl ?_
  refine pg_iload_n dL_alike_4 rfl ?_
  refine pg_iload_n dL_alike_5 rfl ?_
  refine pg_iload_n dL_alike_6 rfl ?_
  refine pg_iload dL_alike_7 rfl ?_
  refine pg_callV (pm_mono px_tb fx 1733) (j := 0) (As := [.int p0, .int p1, .int p2, .int p3]) dL_alike_9 cl_L_59 (by omega) hx rfl (Nat.le_of_ble_eq_true rfl) (Nat.le_of_ble_eq_true rfl) (Nat.le_of_ble_eq_true rfl) ?_
  refine pm_mono px_tb fx 1733 _ _ _ _ _ _ _ (fun o al1 n1 g1 hq => ?_) (op_alike h p0 p1 p2 p3)
  obtain ⟨hn1, ha1, h58, h36, w, c, ho1, hr⟩ := hq
  rcases ho1 with ⟨rfl, rfl⟩ | ⟨E, rfl, hc, hc0⟩
  rotate_left
  · show px_exc _ _ _ _ _ _ _ _ _ _ _
    by_cases q0 : E = "java/lang/IndexOutOfBoundsException"
    · subst q0
      rw [show c = 1 from hc] at hr
      unfold px_exc
      rw [show px_find (px_body pm_L_alike).2.2.2.2.2 9 "java/lang/IndexOutOfBoundsException" = some 24 from rfl]
      intro q9
      refine pg_astore dL_alike_24 (Nat.le_of_ble_eq_true rfl) rfl ?_
      refine pg_iconst dL_alike_26 (show Int32.ofInt (1) = (1) by decide) ?_
      refine pg_iret dL_alike_27 rfl rfl (Nat.le_of_ble_eq_true rfl) (Nat.le_of_ble_eq_true rfl) ?_
      exact ⟨hn1, ha1, 1, w, rfl, ⟨fo, h58.trans ho, fun z => absurd z (by decide)⟩, ⟨f36, h36.trans hm36⟩, hr g1 (fun _ _ => rfl) ⟨fo, h58.trans ho⟩⟩
    ·
      exfalso
      refine hc0 (hc.trans ?_)
      show ((if E = "java/lang/IndexOutOfBoundsException" then 1 else 0) : Int32) = 0
      rw [if_neg q0]
  show pg px_tb fx (px_body pm_L_alike) (pm px_tb fx 1733) (QW fx al n 146 [.int p0, .int p1, .int p2, .int p3] cvB) al1 n1 g1 12 _ _ _ _
  rw [← ha1 58 (by omega)]
  refine pg_if_eq (tgt := 19) dL_alike_12 (by decide) (fun c12 => ?_) (fun c12 => ?_)
  ·
    refine pg_lconst dL_alike_19 rfl ?_
    refine pg_last (j := 58) dL_alike_20 (by omega) (h58.trans ho) (vp_in_nI (n := 0) (by decide) (by decide)) ?_
    refine pg_goto (tgt := 28) dL_alike_21 (by decide) ?_
    refine pg_iconst dL_alike_28 (show Int32.ofInt (0) = (0) by decide) ?_
    refine pg_iret dL_alike_29 rfl rfl (Nat.le_of_ble_eq_true rfl) (Nat.le_of_ble_eq_true rfl) ?_
    refine ⟨hn1, ha1, 0, w, rfl, ⟨_, va_up_self _ _ _, fun _ => (by unfold cvB; rw [if_pos c12]; rfl)⟩, ⟨f36, (va_up_ne _ _ (by decide)).trans (h36.trans hm36)⟩, hr _ (fun k hk => va_up_ne _ _ hk) ⟨_, va_up_self _ _ _⟩⟩
  ·
    refine pg_lconst dL_alike_15 rfl ?_
    refine pg_goto (tgt := 20) dL_alike_16 (by decide) ?_
    refine pg_last (j := 58) dL_alike_20 (by omega) (h58.trans ho) (vp_in_nI (n := 0) (by decide) (by decide)) ?_
    refine pg_goto (tgt := 28) dL_alike_21 (by decide) ?_
    refine pg_iconst dL_alike_28 (show Int32.ofInt (0) = (0) by decide) ?_
    refine pg_iret dL_alike_29 rfl rfl (Nat.le_of_ble_eq_true rfl) (Nat.le_of_ble_eq_true rfl) ?_
    refine ⟨hn1, ha1, 0, w, rfl, ⟨_, va_up_self _ _ _, fun _ => (by unfold cvB; rw [if_neg c12]; rfl)⟩, ⟨f36, (va_up_ne _ _ (by decide)).trans (h36.trans hm36)⟩, hr _ (fun k hk => va_up_ne _ _ hk) ⟨_, va_up_self _ _ _⟩⟩
