theorem px_N_of {ci : Nat} {C : String} {T : u_T} {N : Nat} (h : vwCl[ci]? = some (C, T, N)) : px_N ci = N := by
  unfold px_N
  rw [h]
  rfl
theorem px_at {cy : Nat → ClassId} {al : Nat → Nat} {n : Nat} {g : Nat → px_O} {k : Nat} {o : px_O} (h : k < n) (e : g k = o) : (px_w cy al n g)[k]? = some (al k, px_E cy o) := by rw [px_get h, e]
theorem px_map_at {f : Nat → Value} {N k : Nat} (h : k < N) : ((List.range N).map f)[k]? = some (f k) := by simp [h]
theorem px_map_set {f : Nat → Value} {N k : Nat} (v : Value) : ((List.range N).map f).set k v = (List.range N).map (va_up f k v) := by
  apply List.ext_getElem?
  intro j
  by_cases hj : j < N
  · by_cases e : j = k
    · subst e
      rw [List.getElem?_set_self (by simpa using hj)]
      simp [hj, va_up]
    · rw [List.getElem?_set_ne (Ne.symm e)]
      simp [hj, va_up, e]
  · rw [List.getElem?_eq_none (by simp; omega), List.getElem?_eq_none (by simp; omega)]
theorem px_cls {ci : Nat} {C : String} {T : u_T} {N : Nat} (h : vwCl[ci]? = some (C, T, N)) : (∀ k, k < N → parseFieldDescriptor (T k).2.2.1 = some (px_ty ci k)) ∧ ∀ a, a < N → ∀ b, b < N → a ≠ b → (T a).2.1 ≠ (T b).2.1 := by
  match ci, h with
  | 0, h => cases h; exact ⟨tyX0_ok, nmX0⟩
  | 1, h => cases h; exact ⟨tyX1_ok, nmX1⟩
  | 2, h => cases h; exact ⟨tyX2_ok, nmX2⟩
  | 3, h => cases h; exact ⟨tyX3_ok, nmX3⟩
  | 4, h => cases h; exact ⟨tyX4_ok, nmX4⟩
  | 5, h => cases h; exact ⟨tyX5_ok, nmX5⟩
  | 6, h => cases h; exact ⟨tyX6_ok, nmX6⟩
  | 7, h => cases h; exact ⟨tyX7_ok, nmX7⟩
  | 8, h => cases h; exact ⟨tyX8_ok, nmX8⟩
  | 9, h => cases h; exact ⟨tyX9_ok, nmX9⟩
  | 10, h => cases h; exact ⟨tyX10_ok, nmX10⟩
  | ci + 11, h => simp [vwCl] at h
theorem px_tys_at (cy : Nat → ClassId) {t : Nat} (h : t < 8) : ∃ ty, (px_tys cy)[t]? = some (cy t, ty) := by
  match t, h with
  | 0, _ => exact ⟨_, rfl⟩
  | 1, _ => exact ⟨_, rfl⟩
  | 2, _ => exact ⟨_, rfl⟩
  | 3, _ => exact ⟨_, rfl⟩
  | 4, _ => exact ⟨_, rfl⟩
  | 5, _ => exact ⟨_, rfl⟩
  | 6, _ => exact ⟨_, rfl⟩
  | 7, _ => exact ⟨_, rfl⟩
  | t + 8, h => omega
theorem px_ac : Cond.arrayClass .int ∈ px_big ∧ Cond.arrayClass .byte ∈ px_big ∧ Cond.arrayClass .boolean ∈ px_big ∧ Cond.arrayClass .long ∈ px_big := ⟨px_big_of (by decide +kernel) rfl, px_big_of (by decide +kernel) rfl, px_big_of (by decide +kernel) rfl, px_big_of (by decide +kernel) rfl⟩
section PSB
variable {tb : Nat → Option px_M} {fx : px_F} {bd : px_B} {K : px_K} {Q : px_Q} {p : Program} {l : Launch} {e : Env} {d : Nat} {R : Room} {s : State} {m : MethodId} {args : Array Value} {below : List Frame} {meth : Method} {c : Code} {D : va_G} {cy : Nat → ClassId} {A : Nat → Prop} {Qf : State → Prop}
theorem ps_get (X : px_Cx tb fx bd K p l d R s m args meth c D cy A) : px_r_get tb fx bd K Q (px_J p l e R s m args below meth c D cy A Qf) := by
  obtain ⟨hx, hb, hr, hown, hlk, hts, hG, hRf, hRl, hRc, hRs, hin, hxt, hhs, hst, hK⟩ := X
  intro al n g pc ls st uc us idx ci k1 j f v hd h1 h2 h3 h4 kk H locs rl hP hD hS hL hz
  obtain ⟨C, T, N, hc, hkN, hw, hl, hT⟩ := h1
  have hN := px_N_of hc
  subst h4
  have he := px_at (cy := cy) (al := al) h2 h3
  exact va_get hx hb hts hw hown hG.1 hP j he hc k1 hkN (hts _ hl) (fun z hz9 => by rw [hT] at hz9; exact hz9) (by rw [hN]; exact px_map_at hkN) hd (kk H locs rl hP hD hS hL hz)
theorem ps_put (X : px_Cx tb fx bd K p l d R s m args meth c D cy A) : px_r_put tb fx bd K Q (px_J p l e R s m args below meth c D cy A Qf) := by
  obtain ⟨hx, hb, hr, hown, hlk, hts, hG, hRf, hRl, hRc, hRs, hin, hxt, hhs, hst, hK⟩ := X
  intro al n g pc ls st uc us idx ci k1 j f v hd h1 hf h2 h3 h4 h5 kk H locs rl hP hD hS hL hz
  obtain ⟨C, T, N, hc, hkN, hw, hl, hT⟩ := h1
  obtain ⟨C9, T9, N9, hc9, hf9⟩ := hf
  cases Option.some.inj (hc9.symm.trans hc)
  have hN := px_N_of hc
  have he := px_at (cy := cy) (al := al) h2 h3
  obtain ⟨hty, hnm⟩ := px_cls hc
  refine va_put hx hb hts hw (px_ty ci) hty hnm hown hG.1 hP hD hS j he hc k1 hkN (hts _ hl) (fun z hz9 => by rw [hT] at hz9; exact hz9) hf9 (hty k1 hkN) h4 h5 (by rw [hN]; simpa using hkN) hd (fun H1 locs1 hP1 hD1 hS1 => ?_)
  have e9 : (px_w cy al n g).set j (al j, .inr (ci, ((List.range (px_N ci)).map f).set k1 v)) = px_w cy al n (va_up g j (.inr (ci, va_up f k1 v))) := by rw [px_map_set]; exact px_set (cy := cy) (al := al) (g := g) h2 (.inr (ci, va_up f k1 v))
  rw [e9] at hP1 hD1
  exact kk H1 locs1 rl hP1 hD1 hS1 hL hz
theorem ps_getN (X : px_Cx tb fx bd K p l d R s m args meth c D cy A) : px_r_getN tb fx bd K Q (px_J p l e R s m args below meth c D cy A Qf) := by
  obtain ⟨hx, hb, hr, hown, hlk, hts, hG, hRf, hRl, hRc, hRs, hin, hxt, hhs, hst, hK⟩ := X
  intro al n g pc ls st uc us idx ci k1 j f v hd h1 h2 h3 h4 kk H locs rl hP hD hS hL hz
  obtain ⟨C, T, N, hc, hkN, hw, hl, hT⟩ := h1
  have hN := px_N_of hc
  subst h4
  have he := px_at (cy := cy) (al := al) h2 h3
  exact va_getN hx hb hts hw hown hG.1 hP j he hc k1 hkN (va_Nw.use rfl (hG.2.1 _ hl rfl)) (fun z hz9 => by rw [hT] at hz9; exact hz9) (by rw [hN]; exact px_map_at hkN) hd (kk H locs rl hP hD hS hL hz)
theorem ps_putN (X : px_Cx tb fx bd K p l d R s m args meth c D cy A) : px_r_putN tb fx bd K Q (px_J p l e R s m args below meth c D cy A Qf) := by
  obtain ⟨hx, hb, hr, hown, hlk, hts, hG, hRf, hRl, hRc, hRs, hin, hxt, hhs, hst, hK⟩ := X
  intro al n g pc ls st uc us idx ci k1 j f v hd h1 hf h2 h3 h4 h5 kk H locs rl hP hD hS hL hz
  obtain ⟨C, T, N, hc, hkN, hw, hl, hT⟩ := h1
  obtain ⟨C9, T9, N9, hc9, hf9⟩ := hf
  cases Option.some.inj (hc9.symm.trans hc)
  have hN := px_N_of hc
  have he := px_at (cy := cy) (al := al) h2 h3
  obtain ⟨hty, hnm⟩ := px_cls hc
  refine va_putN hx hb hts hw (px_ty ci) hty hnm hown hG.1 hP hD hS j he hc k1 hkN (va_Nw.use rfl (hG.2.1 _ hl rfl)) (fun z hz9 => by rw [hT] at hz9; exact hz9) hf9 (hty k1 hkN) h4 h5 (by rw [hN]; simpa using hkN) hd (fun H1 locs1 hP1 hD1 hS1 => ?_)
  have e9 : (px_w cy al n g).set j (al j, .inr (ci, ((List.range (px_N ci)).map f).set k1 v)) = px_w cy al n (va_up g j (.inr (ci, va_up f k1 v))) := by rw [px_map_set]; exact px_set (cy := cy) (al := al) (g := g) h2 (.inr (ci, va_up f k1 v))
  rw [e9] at hP1 hD1
  exact kk H1 locs1 rl hP1 hD1 hS1 hL hz
theorem ps_putF (X : px_Cx tb fx bd K p l d R s m args meth c D cy A) : px_r_putF tb fx bd K Q (px_J p l e R s m args below meth c D cy A Qf) := by
  obtain ⟨hx, hb, hr, hown, hlk, hts, hG, hRf, hRl, hRc, hRs, hin, hxt, hhs, hst, hK⟩ := X
  intro al n g pc ls st uc us idx ci k1 j f v hd h1 hf hi ho h2 h3 h4 h5 kk H locs rl hP hD hS hL hz
  obtain ⟨C, T, N, hc, hkN, hw, hl, hT⟩ := h1
  obtain ⟨C9, T9, N9, hc9, hf9⟩ := hf
  cases Option.some.inj (hc9.symm.trans hc)
  have hN := px_N_of hc
  have he := px_at (cy := cy) (al := al) h2 h3
  obtain ⟨hty, hnm⟩ := px_cls hc
  have hown9 : C = bd.1 := by rw [hc] at ho; exact Option.some.inj ho
  refine va_putF hx hb hts hw (px_ty ci) hty hnm hown hG.1 hP hD hS j he hc k1 hkN (hts _ hl) (fun z hz9 => by rw [hT] at hz9; exact hz9) hf9 (hin hi) (hT.trans hown9) (hty k1 hkN) h4 h5 (by rw [hN]; simpa using hkN) hd (fun H1 locs1 hP1 hD1 hS1 => ?_)
  have e9 : (px_w cy al n g).set j (al j, .inr (ci, ((List.range (px_N ci)).map f).set k1 v)) = px_w cy al n (va_up g j (.inr (ci, va_up f k1 v))) := by rw [px_map_set]; exact px_set (cy := cy) (al := al) (g := g) h2 (.inr (ci, va_up f k1 v))
  rw [e9] at hP1 hD1
  exact kk H1 locs1 rl hP1 hD1 hS1 hL hz
theorem ps_iald (X : px_Cx tb fx bd K p l d R s m args meth c D cy A) : px_r_iald tb fx bd K Q (px_J p l e R s m args below meth c D cy A Qf) := by
  obtain ⟨hx, hb, hr, hown, hlk, hts, hG, hRf, hRl, hRc, hRs, hin, hxt, hhs, hst, hK⟩ := X
  intro al n g pc ls st uc us j len f i hd h1 h2 h3 kk H locs rl hP hD hS hL hz
  exact va_iald hx hb hG.1 hP j 0 (px_at (cy := cy) (al := al) h1 h2) rfl h3 hd (kk H locs rl hP hD hS hL hz)
theorem ps_bald (X : px_Cx tb fx bd K p l d R s m args meth c D cy A) : px_r_bald tb fx bd K Q (px_J p l e R s m args below meth c D cy A Qf) := by
  obtain ⟨hx, hb, hr, hown, hlk, hts, hG, hRf, hRl, hRc, hRs, hin, hxt, hhs, hst, hK⟩ := X
  intro al n g pc ls st uc us j len f i hd h1 h2 h3 kk H locs rl hP hD hS hL hz
  exact va_bald hx hb hG.1 hP j 1 (px_at (cy := cy) (al := al) h1 h2) rfl h3 hd (kk H locs rl hP hD hS hL hz)
theorem ps_zald (X : px_Cx tb fx bd K p l d R s m args meth c D cy A) : px_r_zald tb fx bd K Q (px_J p l e R s m args below meth c D cy A Qf) := by
  obtain ⟨hx, hb, hr, hown, hlk, hts, hG, hRf, hRl, hRc, hRs, hin, hxt, hhs, hst, hK⟩ := X
  intro al n g pc ls st uc us j len f i hd h1 h2 h3 kk H locs rl hP hD hS hL hz
  exact va_zald hx hb hG.1 hP j 2 (px_at (cy := cy) (al := al) h1 h2) rfl h3 hd (kk H locs rl hP hD hS hL hz)
theorem ps_lald (X : px_Cx tb fx bd K p l d R s m args meth c D cy A) : px_r_lald tb fx bd K Q (px_J p l e R s m args below meth c D cy A Qf) := by
  obtain ⟨hx, hb, hr, hown, hlk, hts, hG, hRf, hRl, hRc, hRs, hin, hxt, hhs, hst, hK⟩ := X
  intro al n g pc ls st uc us j len f i hd h1 h2 h3 kk H locs rl hP hD hS hL hz
  exact va_lald hx hb hG.1 hP j 3 (px_at (cy := cy) (al := al) h1 h2) rfl h3 hd (kk H locs rl hP hD hS hL hz)
theorem ps_aald (X : px_Cx tb fx bd K p l d R s m args meth c D cy A) : px_r_aald tb fx bd K Q (px_J p l e R s m args below meth c D cy A Qf) := by
  obtain ⟨hx, hb, hr, hown, hlk, hts, hG, hRf, hRl, hRc, hRs, hin, hxt, hhs, hst, hK⟩ := X
  intro al n g pc ls st uc us j t len f i hd h1 h2 h3 h4 h5 kk H locs rl hP hD hS hL hz
  have he := px_at (cy := cy) (al := al) h1 h4
  rcases (show t = 4 ∨ t = 5 ∨ t = 6 ∨ t = 7 by omega) with rfl | rfl | rfl | rfl
  · exact va_aldq hx hb hG.1 hP j 4 he rfl h5 hd (kk H locs rl hP hD hS hL hz)
  · exact va_aldq hx hb hG.1 hP j 5 he rfl h5 hd (kk H locs rl hP hD hS hL hz)
  · exact va_aldq hx hb hG.1 hP j 6 he rfl h5 hd (kk H locs rl hP hD hS hL hz)
  · have hlt : i.toNatClampNeg < len := Nat.not_le.mp fun q => h5 (Or.inr q)
    exact W.aald (v := va_rf (f i.toNatClampNeg)) (ty := .array .int) hx hb (hP j _ he) ((hG.1.2 7 _ rfl).1 len (fun j => va_rf (f j))) rfl (fun q => by cases q) (by show ¬ (i < 0 ∨ (arrV _ _ _).slots.size ≤ _); rw [arrV_size]; exact h5) (by show (arrV _ _ _).slots[_]? = _; rw [arrV_read _ _ hlt]) rfl rfl hd (kk H locs rl hP hD hS hL hz)
theorem ps_iast (X : px_Cx tb fx bd K p l d R s m args meth c D cy A) : px_r_iast tb fx bd K Q (px_J p l e R s m args below meth c D cy A Qf) := by
  obtain ⟨hx, hb, hr, hown, hlk, hts, hG, hRf, hRl, hRc, hRs, hin, hxt, hhs, hst, hK⟩ := X
  intro al n g pc ls st uc us j len f i x hd h1 h2 h3 kk H locs rl hP hD hS hL hz
  refine va_iast hx hb hG.1 hP hD hS j 0 (px_at (cy := cy) (al := al) h1 h2) rfl h3 hd (fun H1 locs1 hP1 hD1 hS1 => ?_)
  rw [show (px_w cy al n g).set j (al j, .inl (cy 0, len, .inl (upd f i.toNatClampNeg x))) = px_w cy al n (va_up g j (.inl (0, len, .inl (upd f i.toNatClampNeg x)))) from px_set (cy := cy) (al := al) (g := g) h1 (.inl (0, len, .inl (upd f i.toNatClampNeg x)))] at hP1 hD1
  exact kk H1 locs1 rl hP1 hD1 hS1 hL hz
theorem ps_bast (X : px_Cx tb fx bd K p l d R s m args meth c D cy A) : px_r_bast tb fx bd K Q (px_J p l e R s m args below meth c D cy A Qf) := by
  obtain ⟨hx, hb, hr, hown, hlk, hts, hG, hRf, hRl, hRc, hRs, hin, hxt, hhs, hst, hK⟩ := X
  intro al n g pc ls st uc us j len f i x hd h1 h2 h3 kk H locs rl hP hD hS hL hz
  refine va_bast hx hb hG.1 hP hD hS j 1 (px_at (cy := cy) (al := al) h1 h2) rfl h3 hd (fun H1 locs1 hP1 hD1 hS1 => ?_)
  rw [show (px_w cy al n g).set j (al j, .inl (cy 1, len, .inl (upd f i.toNatClampNeg (vp_nar .byte x)))) = px_w cy al n (va_up g j (.inl (1, len, .inl (upd f i.toNatClampNeg (vp_nar .byte x))))) from px_set (cy := cy) (al := al) (g := g) h1 (.inl (1, len, .inl (upd f i.toNatClampNeg (vp_nar .byte x))))] at hP1 hD1
  exact kk H1 locs1 rl hP1 hD1 hS1 hL hz
theorem ps_zast (X : px_Cx tb fx bd K p l d R s m args meth c D cy A) : px_r_zast tb fx bd K Q (px_J p l e R s m args below meth c D cy A Qf) := by
  obtain ⟨hx, hb, hr, hown, hlk, hts, hG, hRf, hRl, hRc, hRs, hin, hxt, hhs, hst, hK⟩ := X
  intro al n g pc ls st uc us j len f i x hd h1 h2 h3 kk H locs rl hP hD hS hL hz
  refine va_zast hx hb hG.1 hP hD hS j 2 (px_at (cy := cy) (al := al) h1 h2) rfl h3 hd (fun H1 locs1 hP1 hD1 hS1 => ?_)
  rw [show (px_w cy al n g).set j (al j, .inl (cy 2, len, .inl (upd f i.toNatClampNeg (vp_nar .boolean x)))) = px_w cy al n (va_up g j (.inl (2, len, .inl (upd f i.toNatClampNeg (vp_nar .boolean x))))) from px_set (cy := cy) (al := al) (g := g) h1 (.inl (2, len, .inl (upd f i.toNatClampNeg (vp_nar .boolean x))))] at hP1 hD1
  exact kk H1 locs1 rl hP1 hD1 hS1 hL hz
theorem ps_last (X : px_Cx tb fx bd K p l d R s m args meth c D cy A) : px_r_last tb fx bd K Q (px_J p l e R s m args below meth c D cy A Qf) := by
  obtain ⟨hx, hb, hr, hown, hlk, hts, hG, hRf, hRl, hRc, hRs, hin, hxt, hhs, hst, hK⟩ := X
  intro al n g pc ls st uc us j len f i x hd h1 h2 h3 kk H locs rl hP hD hS hL hz
  refine va_last hx hb hG.1 hP hD hS j 3 (px_at (cy := cy) (al := al) h1 h2) rfl h3 hd (fun H1 locs1 hP1 hD1 hS1 => ?_)
  rw [show (px_w cy al n g).set j (al j, .inl (cy 3, len, .inr (.inl (vp_updL f i.toNatClampNeg x)))) = px_w cy al n (va_up g j (.inl (3, len, .inr (.inl (vp_updL f i.toNatClampNeg x))))) from px_set (cy := cy) (al := al) (g := g) h1 (.inl (3, len, .inr (.inl (vp_updL f i.toNatClampNeg x))))] at hP1 hD1
  exact kk H1 locs1 rl hP1 hD1 hS1 hL hz
theorem ps_aast (X : px_Cx tb fx bd K p l d R s m args meth c D cy A) : px_r_aast tb fx bd K Q (px_J p l e R s m args below meth c D cy A Qf) := by
  obtain ⟨hx, hb, hr, hown, hlk, hts, hG, hRf, hRl, hRc, hRs, hin, hxt, hhs, hst, hK⟩ := X
  intro al n g pc ls st uc us j t len j2 ci f f2 i hd h1 h2 h3 h4 h5 h6 kk H locs rl hP hD hS hL hz
  rcases h3 with ⟨rfl, rfl⟩ | ⟨rfl, rfl⟩ | ⟨rfl, rfl⟩
  ·
    refine va_astq hx hb hG.1 hP hD hS j 4 j2 1 (px_at (cy := cy) (al := al) h1 h4) rfl (px_at (cy := cy) (al := al) h2 h5) rfl h6 hd (fun H1 locs1 hP1 hD1 hS1 => ?_)
    rw [show (px_w cy al n g).set j (al j, .inl (cy 4, len, .inr (.inr (.inr (.inr (va_up f i.toNatClampNeg (some (al j2)))))))) = px_w cy al n (va_up g j (.inl (4, len, .inr (.inr (.inr (.inr (va_up f i.toNatClampNeg (some (al j2))))))))) from px_set (cy := cy) (al := al) (g := g) h1 (.inl (4, len, .inr (.inr (.inr (.inr (va_up f i.toNatClampNeg (some (al j2))))))))] at hP1 hD1
    exact kk H1 locs1 rl hP1 hD1 hS1 hL hz
  ·
    refine va_astq hx hb hG.1 hP hD hS j 5 j2 5 (px_at (cy := cy) (al := al) h1 h4) rfl (px_at (cy := cy) (al := al) h2 h5) rfl h6 hd (fun H1 locs1 hP1 hD1 hS1 => ?_)
    rw [show (px_w cy al n g).set j (al j, .inl (cy 5, len, .inr (.inr (.inr (.inr (va_up f i.toNatClampNeg (some (al j2)))))))) = px_w cy al n (va_up g j (.inl (5, len, .inr (.inr (.inr (.inr (va_up f i.toNatClampNeg (some (al j2))))))))) from px_set (cy := cy) (al := al) (g := g) h1 (.inl (5, len, .inr (.inr (.inr (.inr (va_up f i.toNatClampNeg (some (al j2))))))))] at hP1 hD1
    exact kk H1 locs1 rl hP1 hD1 hS1 hL hz
  ·
    refine va_astq hx hb hG.1 hP hD hS j 6 j2 8 (px_at (cy := cy) (al := al) h1 h4) rfl (px_at (cy := cy) (al := al) h2 h5) rfl h6 hd (fun H1 locs1 hP1 hD1 hS1 => ?_)
    rw [show (px_w cy al n g).set j (al j, .inl (cy 6, len, .inr (.inr (.inr (.inr (va_up f i.toNatClampNeg (some (al j2)))))))) = px_w cy al n (va_up g j (.inl (6, len, .inr (.inr (.inr (.inr (va_up f i.toNatClampNeg (some (al j2))))))))) from px_set (cy := cy) (al := al) (g := g) h1 (.inl (6, len, .inr (.inr (.inr (.inr (va_up f i.toNatClampNeg (some (al j2))))))))] at hP1 hD1
    exact kk H1 locs1 rl hP1 hD1 hS1 hL hz
theorem ps_alen (X : px_Cx tb fx bd K p l d R s m args meth c D cy A) : px_r_alen tb fx bd K Q (px_J p l e R s m args below meth c D cy A Qf) := by
  obtain ⟨hx, hb, hr, hown, hlk, hts, hG, hRf, hRl, hRc, hRs, hin, hxt, hhs, hst, hK⟩ := X
  intro al n g pc ls st uc us j t a hd h1 h2 h3 kk H locs rl hP hD hS hL hz
  obtain ⟨ty, ht⟩ := px_tys_at cy h2
  exact va_alen hx hb hG.1 hP j t (px_at (cy := cy) (al := al) h1 h3) ht rfl hd (kk H locs rl hP hD hS hL hz)
theorem ps_sld (X : px_Cx tb fx bd K p l d R s m args meth c D cy A) : px_r_sld tb fx bd K Q (px_J p l e R s m args below meth c D cy A Qf) := by
  obtain ⟨hx, hb, hr, hown, hlk, hts, hG, hRf, hRl, hRc, hRs, hin, hxt, hhs, hst, hK⟩ := X
  intro al n g pc ls st uc us i hd h1 kk H locs rl hP hD hS hL hz
  obtain ⟨gK, gN, gS, gT, gZ, gF, gU, gV, gX, gb, gA, gO1, gO5, gO8, gOO, gC, gq⟩ := hG
  exact va_sld hx hb gX gb gA hS h1 hd (kk H locs rl hP hD hS hL hz)
theorem ps_slen (X : px_Cx tb fx bd K p l d R s m args meth c D cy A) : px_r_slen tb fx bd K Q (px_J p l e R s m args below meth c D cy A Qf) := by
  obtain ⟨hx, hb, hr, hown, hlk, hts, hG, hRf, hRl, hRc, hRs, hin, hxt, hhs, hst, hK⟩ := X
  intro al n g pc ls st uc us hd kk H locs rl hP hD hS hL hz
  obtain ⟨gK, gN, gS, gT, gZ, gF, gU, gV, gX, gb, gA, gO1, gO5, gO8, gOO, gC, gq⟩ := hG
  exact va_slen hx hb gX gb gA hS hd (kk H locs rl hP hD hS hL hz)
theorem ps_new (X : px_Cx tb fx bd K p l d R s m args meth c D cy A) : px_r_new tb fx bd K Q (px_J p l e R s m args below meth c D cy A Qf) := by
  obtain ⟨hx, hb, hr, hown, hlk, hts, hG, hRf, hRl, hRc, hRs, hin, hxt, hhs, hst, hK⟩ := X
  intro al n g pc ls st uc us idx ci hd h1 h2 h3 kk H locs rl hP hD hS hL hz
  obtain ⟨gK, gN, gS, gT, gZ, gF, gU, gV, gX, gb, gA, gO1, gO5, gO8, gOO, gC, gq⟩ := hG
  obtain ⟨C, T, N, hc, hw, hcl, hi1, hi2⟩ := h1
  have hN := px_N_of hc
  rw [hN] at h3 kk
  refine va_new (fs := (List.range N).map (fun k => defaultValue (px_ty ci k))) hx hb hts hw (px_ty ci) (px_cls hc).1 hown (hts _ hcl) (hts _ hi1) (hts _ hi2) gK hP hD hS gq hc (fun j hj => by simp [vp_V, hj]) (by rw [hRc]; exact h2) (by rw [hRs]; exact h3) hd (fun q H1 hP1 hD1 hS1 => ?_)
  have e9 : px_w cy al n g ++ [(q, .inr (ci, (List.range N).map (fun k => defaultValue (px_ty ci k))))] = px_w cy (va_up al n q) (n + 1) (va_up g n (.inr (ci, fun k => defaultValue (px_ty ci k)))) := by
    rw [← px_push (cy := cy) (al := al) (n := n) (g := g) q]
    show _ = _ ++ [(q, Sum.inr (ci, (List.range (px_N ci)).map _))]
    rw [hN]
  rw [e9] at hP1 hD1
  have k9 := kk (va_up al n q) (fun j hj => va_up_ne _ _ (Nat.ne_of_lt hj)) H1 locs rl hP1 hD1 hS1 hL hz
  rw [va_up_self] at k9
  exact k9
theorem ps_newi (X : px_Cx tb fx bd K p l d R s m args meth c D cy A) : px_r_newi tb fx bd K Q (px_J p l e R s m args below meth c D cy A Qf) := by
  obtain ⟨hx, hb, hr, hown, hlk, hts, hG, hRf, hRl, hRc, hRs, hin, hxt, hhs, hst, hK⟩ := X
  intro al n g pc ls st uc us c1 N hd h1 h2 h3 h4 h5 kk H locs rl hP hD hS hL hz
  obtain ⟨gK, gN, gS, gT, gZ, gF, gU, gV, gX, gb, gA, gO1, gO5, gO8, gOO, gC, gq⟩ := hG
  refine va_newa (atype := .int) (ty := .int) (a0 := (N, .inl (fun _ => 0))) hx hb (hts _ px_ac.1) rfl gK hP hD hS gq (fun cA => rfl) h1 h2 (by show N * 4 ≤ 536870912; omega) (by rw [hRc]; exact h4) (by rw [hRs]; exact h5) hd (fun q cA H1 hK1 hP1 hD1 hS1 => ?_)
  have e1 : cA = cy 0 := Option.some.inj ((hK1.2 8 (cA, .int) rfl).2.symm.trans (gK.2 0 (cy 0, .int) rfl).2)
  subst e1
  rw [show px_w cy al n g ++ [(q, .inl (cy 0, N, .inl (fun _ => 0)))] = px_w cy (va_up al n q) (n + 1) (va_up g n (.inl (0, N, .inl (fun _ => 0)))) from px_push (cy := cy) (al := al) (n := n) (g := g) q (.inl (0, N, .inl (fun _ => 0)))] at hP1 hD1
  have k9 := kk (va_up al n q) (fun j hj => va_up_ne _ _ (Nat.ne_of_lt hj)) H1 locs rl hP1 hD1 hS1 hL hz
  rw [va_up_self] at k9
  exact k9
theorem ps_newb (X : px_Cx tb fx bd K p l d R s m args meth c D cy A) : px_r_newb tb fx bd K Q (px_J p l e R s m args below meth c D cy A Qf) := by
  obtain ⟨hx, hb, hr, hown, hlk, hts, hG, hRf, hRl, hRc, hRs, hin, hxt, hhs, hst, hK⟩ := X
  intro al n g pc ls st uc us c1 N hd h1 h2 h3 h4 h5 kk H locs rl hP hD hS hL hz
  obtain ⟨gK, gN, gS, gT, gZ, gF, gU, gV, gX, gb, gA, gO1, gO5, gO8, gOO, gC, gq⟩ := hG
  refine va_newa (atype := .byte) (ty := .byte) (a0 := (N, .inl (fun _ => 0))) hx hb (hts _ px_ac.2.1) rfl gK hP hD hS gq (fun cA => rfl) h1 h2 (by show N * 1 ≤ 536870912; omega) (by rw [hRc]; exact h4) (by rw [hRs]; exact h5) hd (fun q cA H1 hK1 hP1 hD1 hS1 => ?_)
  have e1 : cA = cy 1 := Option.some.inj ((hK1.2 8 (cA, .byte) rfl).2.symm.trans (gK.2 1 (cy 1, .byte) rfl).2)
  subst e1
  rw [show px_w cy al n g ++ [(q, .inl (cy 1, N, .inl (fun _ => 0)))] = px_w cy (va_up al n q) (n + 1) (va_up g n (.inl (1, N, .inl (fun _ => 0)))) from px_push (cy := cy) (al := al) (n := n) (g := g) q (.inl (1, N, .inl (fun _ => 0)))] at hP1 hD1
  have k9 := kk (va_up al n q) (fun j hj => va_up_ne _ _ (Nat.ne_of_lt hj)) H1 locs rl hP1 hD1 hS1 hL hz
  rw [va_up_self] at k9
  exact k9
theorem ps_newz (X : px_Cx tb fx bd K p l d R s m args meth c D cy A) : px_r_newz tb fx bd K Q (px_J p l e R s m args below meth c D cy A Qf) := by
  obtain ⟨hx, hb, hr, hown, hlk, hts, hG, hRf, hRl, hRc, hRs, hin, hxt, hhs, hst, hK⟩ := X
  intro al n g pc ls st uc us c1 N hd h1 h2 h3 h4 h5 kk H locs rl hP hD hS hL hz
  obtain ⟨gK, gN, gS, gT, gZ, gF, gU, gV, gX, gb, gA, gO1, gO5, gO8, gOO, gC, gq⟩ := hG
  refine va_newa (atype := .boolean) (ty := .boolean) (a0 := (N, .inl (fun _ => 0))) hx hb (hts _ px_ac.2.2.1) rfl gK hP hD hS gq (fun cA => rfl) h1 h2 (by show N * 1 ≤ 536870912; omega) (by rw [hRc]; exact h4) (by rw [hRs]; exact h5) hd (fun q cA H1 hK1 hP1 hD1 hS1 => ?_)
  have e1 : cA = cy 2 := Option.some.inj ((hK1.2 8 (cA, .boolean) rfl).2.symm.trans (gK.2 2 (cy 2, .boolean) rfl).2)
  subst e1
  rw [show px_w cy al n g ++ [(q, .inl (cy 2, N, .inl (fun _ => 0)))] = px_w cy (va_up al n q) (n + 1) (va_up g n (.inl (2, N, .inl (fun _ => 0)))) from px_push (cy := cy) (al := al) (n := n) (g := g) q (.inl (2, N, .inl (fun _ => 0)))] at hP1 hD1
  have k9 := kk (va_up al n q) (fun j hj => va_up_ne _ _ (Nat.ne_of_lt hj)) H1 locs rl hP1 hD1 hS1 hL hz
  rw [va_up_self] at k9
  exact k9
theorem ps_newl (X : px_Cx tb fx bd K p l d R s m args meth c D cy A) : px_r_newl tb fx bd K Q (px_J p l e R s m args below meth c D cy A Qf) := by
  obtain ⟨hx, hb, hr, hown, hlk, hts, hG, hRf, hRl, hRc, hRs, hin, hxt, hhs, hst, hK⟩ := X
  intro al n g pc ls st uc us c1 N hd h1 h2 h3 h4 h5 kk H locs rl hP hD hS hL hz
  obtain ⟨gK, gN, gS, gT, gZ, gF, gU, gV, gX, gb, gA, gO1, gO5, gO8, gOO, gC, gq⟩ := hG
  refine va_newa (atype := .long) (ty := .long) (a0 := (N, .inr (.inl (fun _ => 0)))) hx hb (hts _ px_ac.2.2.2) rfl gK hP hD hS gq (fun cA => rfl) h1 h2 (by show N * 8 ≤ 536870912; omega) (by rw [hRc]; exact h4) (by rw [hRs]; exact h5) hd (fun q cA H1 hK1 hP1 hD1 hS1 => ?_)
  have e1 : cA = cy 3 := Option.some.inj ((hK1.2 8 (cA, .long) rfl).2.symm.trans (gK.2 3 (cy 3, .long) rfl).2)
  subst e1
  rw [show px_w cy al n g ++ [(q, .inl (cy 3, N, .inr (.inl (fun _ => 0))))] = px_w cy (va_up al n q) (n + 1) (va_up g n (.inl (3, N, .inr (.inl (fun _ => 0))))) from px_push (cy := cy) (al := al) (n := n) (g := g) q (.inl (3, N, .inr (.inl (fun _ => 0))))] at hP1 hD1
  have k9 := kk (va_up al n q) (fun j hj => va_up_ne _ _ (Nat.ne_of_lt hj)) H1 locs rl hP1 hD1 hS1 hL hz
  rw [va_up_self] at k9
  exact k9
theorem ps_newq (X : px_Cx tb fx bd K p l d R s m args meth c D cy A) : px_r_newq tb fx bd K Q (px_J p l e R s m args below meth c D cy A Qf) := by
  obtain ⟨hx, hb, hr, hown, hlk, hts, hG, hRf, hRl, hRc, hRs, hin, hxt, hhs, hst, hK⟩ := X
  intro al n g pc ls st uc us idx t C c1 N hd h0 hcl h1 h2 h3 h4 h5 kk H locs rl hP hD hS hL hz
  obtain ⟨gK, gN, gS, gT, gZ, gF, gU, gV, gX, gb, gA, gO1, gO5, gO8, gOO, gC, gq⟩ := hG
  rcases h0 with ⟨rfl, rfl⟩ | ⟨rfl, rfl⟩ | ⟨rfl, rfl⟩
  ·
    refine va_newq hx hb hown (hts _ hcl) gO1 gK hP hD hS gq h1 h2 (by omega) (by rw [hRc]; exact h4) (by rw [hRs]; exact h5) hd (fun q cA H1 hK1 hP1 hD1 hS1 => ?_)
    have e1 : cA = cy 4 := by
      obtain ⟨kA, comp, -, -, -, z1⟩ := (hK1.2 8 (cA, .object RX1) rfl).2
      obtain ⟨kB, comq, -, -, -, z2⟩ := (gK.2 4 (cy 4, .object RX1) rfl).2
      exact Option.some.inj (z1.symm.trans z2)
    subst e1
    rw [show px_w cy al n g ++ [(q, .inl (cy 4, N, .inr (.inr (.inr (.inr (fun _ => none))))))] = px_w cy (va_up al n q) (n + 1) (va_up g n (.inl (4, N, .inr (.inr (.inr (.inr (fun _ => none))))))) from px_push (cy := cy) (al := al) (n := n) (g := g) q (.inl (4, N, .inr (.inr (.inr (.inr (fun _ => none))))))] at hP1 hD1
    have k9 := kk (va_up al n q) (fun j hj => va_up_ne _ _ (Nat.ne_of_lt hj)) H1 locs rl hP1 hD1 hS1 hL hz
    rw [va_up_self] at k9
    exact k9
  ·
    refine va_newq hx hb hown (hts _ hcl) gO5 gK hP hD hS gq h1 h2 (by omega) (by rw [hRc]; exact h4) (by rw [hRs]; exact h5) hd (fun q cA H1 hK1 hP1 hD1 hS1 => ?_)
    have e1 : cA = cy 5 := by
      obtain ⟨kA, comp, -, -, -, z1⟩ := (hK1.2 8 (cA, .object RX5) rfl).2
      obtain ⟨kB, comq, -, -, -, z2⟩ := (gK.2 5 (cy 5, .object RX5) rfl).2
      exact Option.some.inj (z1.symm.trans z2)
    subst e1
    rw [show px_w cy al n g ++ [(q, .inl (cy 5, N, .inr (.inr (.inr (.inr (fun _ => none))))))] = px_w cy (va_up al n q) (n + 1) (va_up g n (.inl (5, N, .inr (.inr (.inr (.inr (fun _ => none))))))) from px_push (cy := cy) (al := al) (n := n) (g := g) q (.inl (5, N, .inr (.inr (.inr (.inr (fun _ => none))))))] at hP1 hD1
    have k9 := kk (va_up al n q) (fun j hj => va_up_ne _ _ (Nat.ne_of_lt hj)) H1 locs rl hP1 hD1 hS1 hL hz
    rw [va_up_self] at k9
    exact k9
  ·
    refine va_newq hx hb hown (hts _ hcl) gO8 gK hP hD hS gq h1 h2 (by omega) (by rw [hRc]; exact h4) (by rw [hRs]; exact h5) hd (fun q cA H1 hK1 hP1 hD1 hS1 => ?_)
    have e1 : cA = cy 6 := by
      obtain ⟨kA, comp, -, -, -, z1⟩ := (hK1.2 8 (cA, .object RX8) rfl).2
      obtain ⟨kB, comq, -, -, -, z2⟩ := (gK.2 6 (cy 6, .object RX8) rfl).2
      exact Option.some.inj (z1.symm.trans z2)
    subst e1
    rw [show px_w cy al n g ++ [(q, .inl (cy 6, N, .inr (.inr (.inr (.inr (fun _ => none))))))] = px_w cy (va_up al n q) (n + 1) (va_up g n (.inl (6, N, .inr (.inr (.inr (.inr (fun _ => none))))))) from px_push (cy := cy) (al := al) (n := n) (g := g) q (.inl (6, N, .inr (.inr (.inr (.inr (fun _ => none))))))] at hP1 hD1
    have k9 := kk (va_up al n q) (fun j hj => va_up_ne _ _ (Nat.ne_of_lt hj)) H1 locs rl hP1 hD1 hS1 hL hz
    rw [va_up_self] at k9
    exact k9
end PSB
