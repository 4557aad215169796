theorem px_lds_in {own : String} {idx i : Nat} (h : px_lds own idx i) : ∃ tx, Cond.stringRef own idx tx ∈ lw_tbl := by
  simp only [px_lds, List.mem_cons, List.not_mem_nil, or_false, Prod.mk.injEq] at h
  rcases h with ⟨rfl, rfl, -⟩ | ⟨rfl, rfl, -⟩ | ⟨rfl, rfl, -⟩ | ⟨rfl, rfl, -⟩ | ⟨rfl, rfl, -⟩ | ⟨rfl, rfl, -⟩ | ⟨rfl, rfl, -⟩
  · exact ⟨"=<+-*/%(){};", by decide +kernel⟩
  · exact ⟨"while", by decide +kernel⟩
  · exact ⟨"if", by decide +kernel⟩
  · exact ⟨"else", by decide +kernel⟩
  · exact ⟨"while", by decide +kernel⟩
  · exact ⟨"if", by decide +kernel⟩
  · exact ⟨"else", by decide +kernel⟩
theorem px_nest_tab {w : Cond} (h : px_nest w = true) : w.onTables = true := by
  cases w <;> first | rfl | exact Bool.noConfusion h
theorem px_good {ws : List Cond} (h : ∀ w ∈ ws, w ∈ px_big) : GoodIn px_big ws := fun w hw => ⟨h w hw, good_of_word (px_big_good (h w hw)).2⟩
theorem px_met {l : Launch} {y : MethodName} {ws : List Cond} {rm : Room} {Pc : Array Value → State → Prop} {Qc : Array Value → State → Outcome → State → Prop} {XC : String → State → State → Prop} {mc ms : Nat} {free : Addr → Prop} (h : vx_Met l y ws rm Pc Qc XC mc ms free) (hX : ∀ E st t, ¬ XC E st t) : Met l y ws rm Pc Qc mc ms free := by
  intro p e ha hc hk s m args below hf happ hP hK
  obtain ⟨n, o, h1, h2, h3, h4⟩ := h p e ha hc hk s m args below hf happ hP hK
  refine ⟨n, o, h1, h2, h3, ?_⟩
  rcases h4 with h4 | ⟨q, -, E, ce, L, hx, -⟩
  · exact h4
  · exact absurd hx (hX _ _ _)
section PSC
variable {tb : Nat → Option px_M} {fx : px_F} {bd : px_B} {K : px_K} {Q : px_Q} {p : Program} {l : Launch} {e : Env} {d : Nat} {R : Room} {s : State} {m : MethodId} {args : Array Value} {below : List Frame} {meth : Method} {c : Code} {D : va_G} {cy : Nat → ClassId} {A : Nat → Prop} {Qf : State → Prop}
theorem ps_ldcS (X : px_Cx tb fx bd K p l d R s m args meth c D cy A) : px_r_ldcS tb fx bd K Q (px_J p l e R s m args below meth c D cy A Qf) := by
  obtain ⟨hx, hb, hr, hown, hlk, hts, hG, hRf, hRl, hRc, hRs, hin, hxt, hhs, hst, hK⟩ := X
  intro al n g pc ls st uc us idx i hd h1 kk H locs rl hP hD hS hL hz
  obtain ⟨gK, gN, gS, gT, gZ, gF, gU, gV, gX, gb, gA, gO1, gO5, gO8, gOO, gC, gq⟩ := hG
  obtain ⟨tx, ht⟩ := px_lds_in h1
  obtain ⟨a, hR9, ha⟩ := gS bd.1 idx tx ht
  rw [ha i h1] at hR9
  exact va_ldcS hx hb hown hR9 hd (kk H locs rl hP hD hS hL hz)
theorem ps_strval (X : px_Cx tb fx bd K p l d R s m args meth c D cy A) : px_r_strval tb fx bd K Q (px_J p l e R s m args below meth c D cy A Qf) := by
  obtain ⟨hx, hb, hr, hown, hlk, hts, hG, hRf, hRl, hRc, hRs, hin, hxt, hhs, hst, hK⟩ := X
  intro al n g pc ls st uc us idx i hd h1 h2 kk H locs rl hP hD hS hL hz
  obtain ⟨gK, gN, gS, gT, gZ, gF, gU, gV, gX, gb, gA, gO1, gO5, gO8, gOO, gC, gq⟩ := hG
  exact vk_getf hx hb (gT.1 i h1).2.2.1 hS hown (hts _ h2) (fun _ z => z) hd (kk H locs rl hP hD hS hL hz)
theorem ps_strcod (X : px_Cx tb fx bd K p l d R s m args meth c D cy A) : px_r_strcod tb fx bd K Q (px_J p l e R s m args below meth c D cy A Qf) := by
  obtain ⟨hx, hb, hr, hown, hlk, hts, hG, hRf, hRl, hRc, hRs, hin, hxt, hhs, hst, hK⟩ := X
  intro al n g pc ls st uc us idx i hd h1 h2 kk H locs rl hP hD hS hL hz
  obtain ⟨gK, gN, gS, gT, gZ, gF, gU, gV, gX, gb, gA, gO1, gO5, gO8, gOO, gC, gq⟩ := hG
  exact vk_getf hx hb (gT.1 i h1).2.1 hS hown (hts _ h2) (fun _ z => z) hd (kk H locs rl hP hD hS hL hz)
theorem ps_strbyt (X : px_Cx tb fx bd K p l d R s m args meth c D cy A) : px_r_strbyt tb fx bd K Q (px_J p l e R s m args below meth c D cy A Qf) := by
  obtain ⟨hx, hb, hr, hown, hlk, hts, hG, hRf, hRl, hRc, hRs, hin, hxt, hhs, hst, hK⟩ := X
  intro al n g pc ls st uc us i x hd h1 h2 kk H locs rl hP hD hS hL hz
  obtain ⟨gK, gN, gS, gT, gZ, gF, gU, gV, gX, gb, gA, gO1, gO5, gO8, gOO, gC, gq⟩ := hG
  exact va_tb hx hb (gT.1 i h1).2.2.2 hS h2 rfl hd (kk H locs rl hP hD hS hL hz)
theorem ps_strlen (X : px_Cx tb fx bd K p l d R s m args meth c D cy A) : px_r_strlen tb fx bd K Q (px_J p l e R s m args below meth c D cy A Qf) := by
  obtain ⟨hx, hb, hr, hown, hlk, hts, hG, hRf, hRl, hRc, hRs, hin, hxt, hhs, hst, hK⟩ := X
  intro al n g pc ls st uc us i hd h1 kk H locs rl hP hD hS hL hz
  obtain ⟨gK, gN, gS, gT, gZ, gF, gU, gV, gX, gb, gA, gO1, gO5, gO8, gOO, gC, gq⟩ := hG
  exact va_tlen hx hb (gT.1 i h1).2.2.2 hS rfl hd (kk H locs rl hP hD hS hL hz)
theorem ps_gets (X : px_Cx tb fx bd K p l d R s m args meth c D cy A) : px_r_gets tb fx bd K Q (px_J p l e R s m args below meth c D cy A Qf) := by
  obtain ⟨hx, hb, hr, hown, hlk, hts, hG, hRf, hRl, hRc, hRs, hin, hxt, hhs, hst, hK⟩ := X
  intro al n g pc ls st uc us idx hd h1 kk H locs rl hP hD hS hL hz
  obtain ⟨gK, gN, gS, gT, gZ, gF, gU, gV, gX, gb, gA, gO1, gO5, gO8, gOO, gC, gq⟩ := hG
  exact va_gets hx hb gZ hS hown (hts _ h1) (fun _ z => z) hd (kk H locs rl hP hD hS hL hz)
theorem ps_getsq (X : px_Cx tb fx bd K p l d R s m args meth c D cy A) : px_r_getsq tb fx bd K Q (px_J p l e R s m args below meth c D cy A Qf) := by
  obtain ⟨hx, hb, hr, hown, hlk, hts, hG, hRf, hRl, hRc, hRs, hin, hxt, hhs, hst, hK⟩ := X
  intro al n g pc ls st uc us idx hd h1 kk H locs rl hP hD hS hL hz
  obtain ⟨gK, gN, gS, gT, gZ, gF, gU, gV, gX, gb, gA, gO1, gO5, gO8, gOO, gC, gq⟩ := hG
  rcases gF with z | ⟨t, z⟩
  · exact va_gets hx hb z hS hown (hts _ h1) (fun _ z => z) hd (kk _ rfl H locs rl hP hD hS hL hz)
  · exact va_gets hx hb z hS hown (hts _ h1) (fun _ z => z) hd (kk _ rfl H locs rl hP hD hS hL hz)
theorem ps_acopy (X : px_Cx tb fx bd K p l d R s m args meth c D cy A) : px_r_acopy tb fx bd K Q (px_J p l e R s m args below meth c D cy A Qf) := by
  obtain ⟨hx, hb, hr, hown, hlk, hts, hG, hRf, hRl, hRc, hRs, hin, hxt, hhs, hst, hK⟩ := X
  intro al n g pc ls st uc us idx j0 j1 n0 n1 f f1 sp dp c1 hd h1 h2 h3 h4 h5 h6 h7 h8 h9 h10 h11 h12 h13 h14 kk H locs rl hP hD hS hL hz
  refine va_copyi hx hb hz.symm hown (hts _ h1) (hts _ h2) (hts _ h3) (hts _ h4) hG.1 hP hD hS j0 j1 0 0 (px_at (cy := cy) (al := al) h5 h7) (px_at (cy := cy) (al := al) h6 h8) rfl rfl rfl h9 h10 h11 h12 h13 (fun _ _ => rfl) (by omega) (by show _ + (5 + 2 + 11) ≤ _; omega) hd (fun H1 locs1 hP1 hD1 hS1 => ?_)
  rw [show (px_w cy al n g).set j1 (al j1, .inl (cy 0, n1, .inl (va_cpy f f1 sp.toNatClampNeg dp.toNatClampNeg c1.toNatClampNeg))) = px_w cy al n (va_up g j1 (.inl (0, n1, .inl (va_cpy f f1 sp.toNatClampNeg dp.toNatClampNeg c1.toNatClampNeg)))) from px_set (cy := cy) (al := al) (g := g) h6 (.inl (0, n1, .inl (va_cpy f f1 sp.toNatClampNeg dp.toNatClampNeg c1.toNatClampNeg)))] at hP1 hD1
  exact kk H1 locs1 rl hP1 hD1 hS1 hL hz
theorem ps_objInit (X : px_Cx tb fx bd K p l d R s m args meth c D cy A) : px_r_objInit tb fx bd K Q (px_J p l e R s m args below meth c D cy A Qf) := by
  obtain ⟨hx, hb, hr, hown, hlk, hts, hG, hRf, hRl, hRc, hRs, hin, hxt, hhs, hst, hK⟩ := X
  intro al n g pc ls st uc us idx a hd h1 h2 h3 h4 kk H locs rl hP hD hS hL hz
  exact W.objInit hx hb hown (hts _ h1) (hts _ h2) (hts _ h3) (g := F0 m pc rl (.ref a :: st)) rfl hz rfl hd (by omega) (by show 2 * 0 + _ + 12 ≤ _; omega) (kk H locs rl hP hD hS hL hz)
end PSC
