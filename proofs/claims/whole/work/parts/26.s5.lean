theorem px_rooms {R : Room} {d maxL mc ms : Nat} (h1 : d + 11 ≤ R.frames) (h2 : 40 * (d + 1) + 300 ≤ R.locals) (h3 : maxL ≤ 20) : (px_rm d mc ms).frames + 1 ≤ R.frames ∧ 8 + (maxL + 11) + (px_rm d mc ms).locals ≤ R.locals := by
  simp only [px_rm]
  omega
section PSE
variable {tb : Nat → Option px_M} {fx : px_F} {bd : px_B} {K : px_K} {Q : px_Q} {p : Program} {l : Launch} {e : Env} {d : Nat} {R : Room} {s : State} {m : MethodId} {args : Array Value} {below : List Frame} {meth : Method} {c : Code} {D : va_G} {cy : Nat → ClassId} {A : Nat → Prop} {Qf : State → Prop}
theorem ps_callV (X : px_Cx tb fx bd K p l d R s m args meth c D cy A) : px_r_callV tb fx bd K Q (px_J p l e R s m args below meth c D cy A (vx_MQ below (px_Qc cy D A Q) (px_XC cy D A Q) args s bd.2.2.2.1.1 bd.2.2.2.1.2 A)) := by
  have X0 := X
  obtain ⟨hx, hb, hr, hown, hlk, hts, hG, hRf, hRl, hRc, hRs, hin, hxt, hhs, hst, hK⟩ := X
  intro al n g pc ls st uc us idx k1 ci j f As st0 hd h1 h2 h3 h4 h5 h7 h8 h9 H locs rl hP hD hS hL hz
  obtain ⟨mk, hmk, hM⟩ := hK _ _ _ _ _ _ h9
  obtain ⟨m1, hm1, hh, ⟨g1, g2, g3, g4, g5, g6⟩, hq1, hl1, hi1, hs1⟩ := h1
  cases Option.some.inj (hmk.symm.trans hm1)
  obtain ⟨e7, e8⟩ := px_mcs hmk
  rw [e7] at h7
  rw [e8] at h8
  rw [e7, e8] at hM
  unfold px_Met at hM
  have hws : ∀ w ∈ px_cw mk :: px_big, w ∈ px_big := fun w hw => (List.mem_cons.mp hw).elim (fun z => by rw [z]; exact g1) (fun z => z)
  obtain ⟨q9, hq9, hq8⟩ : ∃ q9, vwCl[ci]? = some q9 ∧ q9.1 = mk.1.cls := by
    cases hv9 : vwCl[ci]? with
    | none => rw [hv9] at hq1; cases hq1
    | some z => rw [hv9] at hq1; exact ⟨z, rfl, Option.some.inj hq1⟩
  have hrecv : ∃ cell : Cell, H[al j]? = some cell ∧ cell.vm.isStatics = false ∧ s.vm.findClass mk.1.cls = some cell.cls := by
    rw [← hq8]
    exact va_recv hG.1 hP hq9 (px_at (cy := cy) (al := al) h2 h3)
  subst h4
  refine ps_run X0 hS hL hz (vx_runV (C := mk.1.cls) (As := As) (rest := st) (Ts := px_big) (nL := c.maxLocals) ⟨hx, hb, rfl, hown, hts⟩ hM (cwV As.length hts (px_good (fun w hw => ?_)) (congrArg (fun w => w :: px_big) (px_cw0 hh)) rfl rfl ⟨rfl, g2, g3, g4⟩ (px_rooms hRf hRl g5)) ⟨px_Pc.blind, hrecv, (fun U hU hW9 => ⟨rfl, ⟨by rw [hU]; exact hP, hD⟩, hG.moved hW9 hU hS⟩)⟩ rfl rfl hz rfl (by show 2 * 0 + _ ≤ 8; omega) hd ⟨by rw [hRc]; exact h7, by rw [hRs]; exact h8⟩) h7 h8
  rcases List.mem_append.mp hw with z | z
  · simp only [List.mem_cons, List.not_mem_nil, or_false] at z
    rcases z with rfl | rfl | rfl | rfl
    · exact hl1
    · exact hi1
    · exact hs1
    · exact g6
  · exact hws w z
theorem ps_callVN (X : px_Cx tb fx bd K p l d R s m args meth c D cy A) : px_r_callVN tb fx bd K Q (px_J p l e R s m args below meth c D cy A (vx_MQ below (px_Qc cy D A Q) (px_XC cy D A Q) args s bd.2.2.2.1.1 bd.2.2.2.1.2 A)) := by
  have X0 := X
  obtain ⟨hx, hb, hr, hown, hlk, hts, hG, hRf, hRl, hRc, hRs, hin, hxt, hhs, hst, hK⟩ := X
  intro al n g pc ls st uc us idx k1 ci j f As st0 hd h1 h2 h3 h4 h5 h7 h8 h9 H locs rl hP hD hS hL hz
  obtain ⟨mk, hmk, hM⟩ := hK _ _ _ _ _ _ h9
  obtain ⟨m1, hm1, hh, ⟨g1, g2, g3, g4, g5, g6⟩, hq1, hl1, hi1, hs1⟩ := h1
  cases Option.some.inj (hmk.symm.trans hm1)
  obtain ⟨e7, e8⟩ := px_mcs hmk
  rw [e7] at h7
  rw [e8] at h8
  rw [e7, e8] at hM
  unfold px_Met at hM
  have hws : ∀ w ∈ px_cw mk :: px_big, w ∈ px_big := fun w hw => (List.mem_cons.mp hw).elim (fun z => by rw [z]; exact g1) (fun z => z)
  obtain ⟨q9, hq9, hq8⟩ : ∃ q9, vwCl[ci]? = some q9 ∧ q9.1 = mk.1.cls := by
    cases hv9 : vwCl[ci]? with
    | none => rw [hv9] at hq1; cases hq1
    | some z => rw [hv9] at hq1; exact ⟨z, rfl, Option.some.inj hq1⟩
  have hrecv : ∃ cell : Cell, H[al j]? = some cell ∧ cell.vm.isStatics = false ∧ s.vm.findClass mk.1.cls = some cell.cls := by
    rw [← hq8]
    exact va_recv hG.1 hP hq9 (px_at (cy := cy) (al := al) h2 h3)
  subst h4
  exact ps_runN hS hL hz (va_runVN (C := mk.1.cls) (As := As) (rest := st) (Ts := px_big) (nL := c.maxLocals) ⟨hx, hb, rfl, hown, hts⟩ (px_met hM px_XCN) ⟨va_cnB As.length hts (px_good hws) (congrArg (fun w => w :: px_big) (px_cw0 hh)) rfl rfl (hG.2.1 _ hl1 rfl) (hts _ g6) ⟨g2, g3, g4⟩ (px_rooms hRf hRl g5), hts _ hi1, hts _ hs1⟩ ⟨px_Pc.blind, hrecv, (fun U hU hW9 => ⟨rfl, ⟨by rw [hU]; exact hP, hD⟩, hG.moved hW9 hU hS⟩)⟩ rfl rfl hz rfl (by show 2 * 0 + _ ≤ 8; omega) hd ⟨by rw [hRc]; exact h7, by rw [hRs]; exact h8⟩)
theorem ps_callT (X : px_Cx tb fx bd K p l d R s m args meth c D cy A) : px_r_callT tb fx bd K Q (px_J p l e R s m args below meth c D cy A (vx_MQ below (px_Qc cy D A Q) (px_XC cy D A Q) args s bd.2.2.2.1.1 bd.2.2.2.1.2 A)) := by
  have X0 := X
  obtain ⟨hx, hb, hr, hown, hlk, hts, hG, hRf, hRl, hRc, hRs, hin, hxt, hhs, hst, hK⟩ := X
  intro al n g pc ls st uc us idx k1 i As st0 hd h1 h2 h4 h5 h7 h8 h9 H locs rl hP hD hS hL hz
  obtain ⟨mk, hmk, hM⟩ := hK _ _ _ _ _ _ h9
  obtain ⟨m1, hm1, hh, ⟨g1, g2, g3, g4, g5, g6⟩, hq1, hl1, hi1, hs1⟩ := h1
  cases Option.some.inj (hmk.symm.trans hm1)
  obtain ⟨e7, e8⟩ := px_mcs hmk
  rw [e7] at h7
  rw [e8] at h8
  rw [e7, e8] at hM
  unfold px_Met at hM
  have hws : ∀ w ∈ px_cw mk :: px_big, w ∈ px_big := fun w hw => (List.mem_cons.mp hw).elim (fun z => by rw [z]; exact g1) (fun z => z)
  obtain ⟨gK, gN, gS, gT, gZ, gF, gU, gV, gX, gb, gA, gO1, gO5, gO8, gOO, gC, gq⟩ := id hG
  have hrecv : ∃ cell : Cell, H[fx.1 i]? = some cell ∧ cell.vm.isStatics = false ∧ s.vm.findClass mk.1.cls = some cell.cls := by
    rw [hq1]
    obtain ⟨cell, z1, z2, z3, -⟩ := (gT.1 i h2).1.kept hS.2.1
    exact ⟨cell, z1, z2, z3⟩
  subst h4
  refine ps_runN hS hL hz (va_runV (C := mk.1.cls) (As := As) (rest := st) (Ts := px_big) (nL := c.maxLocals) ⟨hx, hb, rfl, hown, hts⟩ (px_met hM px_XCN) (cwV As.length hts (px_good (fun w hw => ?_)) (congrArg (fun w => w :: px_big) (px_cw0 hh)) rfl rfl ⟨rfl, g2, g3, g4⟩ (px_rooms hRf hRl g5)) ⟨px_Pc.blind, hrecv, (fun U hU hW9 => ⟨rfl, ⟨by rw [hU]; exact hP, hD⟩, hG.moved hW9 hU hS⟩)⟩ rfl rfl hz rfl (by show 2 * 0 + _ ≤ 8; omega) hd ⟨by rw [hRc]; exact h7, by rw [hRs]; exact h8⟩)
  rcases List.mem_append.mp hw with z | z
  · simp only [List.mem_cons, List.not_mem_nil, or_false] at z
    rcases z with rfl | rfl | rfl | rfl
    · exact hl1
    · exact hi1
    · exact hs1
    · exact g6
  · exact hws w z
theorem ps_callS (X : px_Cx tb fx bd K p l d R s m args meth c D cy A) : px_r_callS tb fx bd K Q (px_J p l e R s m args below meth c D cy A (vx_MQ below (px_Qc cy D A Q) (px_XC cy D A Q) args s bd.2.2.2.1.1 bd.2.2.2.1.2 A)) := by
  have X0 := X
  obtain ⟨hx, hb, hr, hown, hlk, hts, hG, hRf, hRl, hRc, hRs, hin, hxt, hhs, hst, hK⟩ := X
  intro al n g pc ls st uc us idx k1 As st0 hd h1 h4 h5 h7 h8 h9 H locs rl hP hD hS hL hz
  obtain ⟨mk, hmk, hM⟩ := hK _ _ _ _ _ _ h9
  obtain ⟨m1, hm1, ⟨g1, g2, g3, g4, g5, g6⟩, hl1, hs1⟩ := h1
  cases Option.some.inj (hmk.symm.trans hm1)
  obtain ⟨e7, e8⟩ := px_mcs hmk
  rw [e7] at h7
  rw [e8] at h8
  rw [e7, e8] at hM
  unfold px_Met at hM
  have hws : ∀ w ∈ px_cw mk :: px_big, w ∈ px_big := fun w hw => (List.mem_cons.mp hw).elim (fun z => by rw [z]; exact g1) (fun z => z)
  subst h4
  have hgd : GoodIn px_big (va_wsS bd.1 idx mk.1 (px_cw mk :: px_big)) := px_good (fun w hw => by
    rcases List.mem_append.mp hw with z | z
    · simp only [List.mem_cons, List.not_mem_nil, or_false] at z
      rcases z with rfl | rfl | rfl
      · exact hl1
      · exact hs1
      · exact g6
    · exact hws w z)
  cases hh : mk.2.2.2.2.2 with
  | nil => exact ps_run X0 hS hL hz (vx_runS (As := As) (rest := st) (Ts := px_big) (nL := c.maxLocals) ⟨hx, hb, rfl, hown, hts⟩ hM (va_cwS As.length hts hgd (congrArg (fun w => w :: px_big) (px_cw0 hh)) rfl rfl ⟨g2, g3, g4⟩ (px_rooms hRf hRl g5)) ⟨px_Pc.blind, (fun U hU hW9 => ⟨rfl, ⟨by rw [hU]; exact hP, hD⟩, hG.moved hW9 hU hS⟩)⟩ rfl rfl hz rfl (by show 2 * 0 + _ ≤ 8; omega) hd ⟨by rw [hRc]; exact h7, by rw [hRs]; exact h8⟩) h7 h8
  | cons h9 t9 =>
    have hcw : px_cw mk = .codeWith mk.1 mk.2.1 mk.2.2.1 mk.2.2.2.1 ((h9 :: t9).map (fun q => q.1)) := by
      unfold px_cw
      rw [hh]
    exact ps_run X0 hS hL hz (vx_runSX (As := As) (rest := st) (Ts := px_big) (nL := c.maxLocals) ⟨hx, hb, rfl, hown, hts⟩ hM (vx_cwSW As.length hts hgd (congrArg (fun w => w :: px_big) hcw) rfl rfl ⟨g2, g3, g4⟩ (px_rooms hRf hRl g5)) ⟨px_Pc.blind, (fun U hU hW9 => ⟨rfl, ⟨by rw [hU]; exact hP, hD⟩, hG.moved hW9 hU hS⟩)⟩ rfl rfl hz rfl (by show 2 * 0 + _ ≤ 8; omega) hd ⟨by rw [hRc]; exact h7, by rw [hRs]; exact h8⟩) h7 h8
theorem ps_callSN (X : px_Cx tb fx bd K p l d R s m args meth c D cy A) : px_r_callSN tb fx bd K Q (px_J p l e R s m args below meth c D cy A (vx_MQ below (px_Qc cy D A Q) (px_XC cy D A Q) args s bd.2.2.2.1.1 bd.2.2.2.1.2 A)) := by
  have X0 := X
  obtain ⟨hx, hb, hr, hown, hlk, hts, hG, hRf, hRl, hRc, hRs, hin, hxt, hhs, hst, hK⟩ := X
  intro al n g pc ls st uc us idx k1 As st0 hd h1 h4 h5 h7 h8 h9 H locs rl hP hD hS hL hz
  obtain ⟨mk, hmk, hM⟩ := hK _ _ _ _ _ _ h9
  obtain ⟨m1, hm1, hh, ⟨g1, g2, g3, g4, g5, g6⟩, hl1, hs1⟩ := h1
  cases Option.some.inj (hmk.symm.trans hm1)
  obtain ⟨e7, e8⟩ := px_mcs hmk
  rw [e7] at h7
  rw [e8] at h8
  rw [e7, e8] at hM
  unfold px_Met at hM
  have hws : ∀ w ∈ px_cw mk :: px_big, w ∈ px_big := fun w hw => (List.mem_cons.mp hw).elim (fun z => by rw [z]; exact g1) (fun z => z)
  subst h4
  exact ps_runN hS hL hz (va_runSN (As := As) (rest := st) (Ts := px_big) (nL := c.maxLocals) ⟨hx, hb, rfl, hown, hts⟩ (px_met hM px_XCN) ⟨va_cnB As.length hts (px_good hws) (congrArg (fun w => w :: px_big) (px_cw0 hh)) rfl rfl (hG.2.1 _ hl1 rfl) (hts _ g6) ⟨g2, g3, g4⟩ (px_rooms hRf hRl g5), hts _ hs1, trivial⟩ ⟨px_Pc.blind, (fun U hU hW9 => ⟨rfl, ⟨by rw [hU]; exact hP, hD⟩, hG.moved hW9 hU hS⟩)⟩ rfl rfl hz rfl (by show 2 * 0 + _ ≤ 8; omega) hd ⟨by rw [hRc]; exact h7, by rw [hRs]; exact h8⟩)
theorem ps_callI (X : px_Cx tb fx bd K p l d R s m args meth c D cy A) : px_r_callI tb fx bd K Q (px_J p l e R s m args below meth c D cy A (vx_MQ below (px_Qc cy D A Q) (px_XC cy D A Q) args s bd.2.2.2.1.1 bd.2.2.2.1.2 A)) := by
  have X0 := X
  obtain ⟨hx, hb, hr, hown, hlk, hts, hG, hRf, hRl, hRc, hRs, hin, hxt, hhs, hst, hK⟩ := X
  intro al n g pc ls st uc us idx k1 j As st0 hd h1 h4 h5 h7 h8 h9 H locs rl hP hD hS hL hz
  obtain ⟨mk, hmk, hM⟩ := hK _ _ _ _ _ _ h9
  obtain ⟨m1, hm1, hh, ⟨g1, g2, g3, g4, g5, g6⟩, hn1, hrt, hl1, hi1⟩ := h1
  cases Option.some.inj (hmk.symm.trans hm1)
  obtain ⟨e7, e8⟩ := px_mcs hmk
  rw [e7] at h7
  rw [e8] at h8
  rw [e7, e8] at hM
  unfold px_Met at hM
  have hws : ∀ w ∈ px_cw mk :: px_big, w ∈ px_big := fun w hw => (List.mem_cons.mp hw).elim (fun z => by rw [z]; exact g1) (fun z => z)
  subst h4
  exact ps_runN hS hL hz (va_runI (As := As) (rest := st) (Ts := px_big) (nL := c.maxLocals) ⟨hx, hb, rfl, hown, hts⟩ (px_met hM px_XCN) (cwI As.length hts (px_good hws) (congrArg (fun w => w :: px_big) ((px_cw0 hh).trans (congrArg (Cond.code mk.1 mk.2.1 mk.2.2.1) hrt))) rfl rfl (hts _ g6) (hts _ hl1) (hts _ hi1) hn1 ⟨g2, g3, g4⟩ (px_rooms hRf hRl g5)) ⟨px_Pc.blind, (fun U hU hW9 => ⟨rfl, ⟨by rw [hU]; exact hP, hD⟩, hG.moved hW9 hU hS⟩)⟩ rfl rfl hz rfl (by show 2 * 0 + _ ≤ 8; omega) hd ⟨by rw [hRc]; exact h7, by rw [hRs]; exact h8⟩)
theorem ps_callIN (X : px_Cx tb fx bd K p l d R s m args meth c D cy A) : px_r_callIN tb fx bd K Q (px_J p l e R s m args below meth c D cy A (vx_MQ below (px_Qc cy D A Q) (px_XC cy D A Q) args s bd.2.2.2.1.1 bd.2.2.2.1.2 A)) := by
  have X0 := X
  obtain ⟨hx, hb, hr, hown, hlk, hts, hG, hRf, hRl, hRc, hRs, hin, hxt, hhs, hst, hK⟩ := X
  intro al n g pc ls st uc us idx k1 j As st0 hd h1 h4 h5 h7 h8 h9 H locs rl hP hD hS hL hz
  obtain ⟨mk, hmk, hM⟩ := hK _ _ _ _ _ _ h9
  obtain ⟨m1, hm1, hh, ⟨g1, g2, g3, g4, g5, g6⟩, hn1, hrt, hl1, hi1⟩ := h1
  cases Option.some.inj (hmk.symm.trans hm1)
  obtain ⟨e7, e8⟩ := px_mcs hmk
  rw [e7] at h7
  rw [e8] at h8
  rw [e7, e8] at hM
  unfold px_Met at hM
  have hws : ∀ w ∈ px_cw mk :: px_big, w ∈ px_big := fun w hw => (List.mem_cons.mp hw).elim (fun z => by rw [z]; exact g1) (fun z => z)
  subst h4
  exact ps_runN hS hL hz (va_runIN (As := As) (rest := st) (Ts := px_big) (nL := c.maxLocals) ⟨hx, hb, rfl, hown, hts⟩ (px_met hM px_XCN) ⟨va_cnB As.length hts (px_good hws) (congrArg (fun w => w :: px_big) ((px_cw0 hh).trans (congrArg (Cond.code mk.1 mk.2.1 mk.2.2.1) hrt))) rfl rfl (hG.2.1 _ hl1 rfl) (hts _ g6) ⟨g2, g3, g4⟩ (px_rooms hRf hRl g5), hn1, hts _ hi1⟩ ⟨px_Pc.blind, (fun U hU hW9 => ⟨rfl, ⟨by rw [hU]; exact hP, hD⟩, hG.moved hW9 hU hS⟩)⟩ rfl rfl hz rfl (by show 2 * 0 + _ ≤ 8; omega) hd ⟨by rw [hRc]; exact h7, by rw [hRs]; exact h8⟩)
end PSE
