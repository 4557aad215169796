section PSA
variable {tb : Nat → Option px_M} {fx : px_F} {bd : px_B} {K : px_K} {Q : px_Q} {p : Program} {l : Launch} {e : Env} {d : Nat} {R : Room} {s : State} {m : MethodId} {args : Array Value} {below : List Frame} {meth : Method} {c : Code} {D : va_G} {cy : Nat → ClassId} {A : Nat → Prop} {Qf : State → Prop}
theorem ps_iload_n (X : px_Cx tb fx bd K p l d R s m args meth c D cy A) : px_r_iload_n tb fx bd K Q (px_J p l e R s m args below meth c D cy A Qf) := by
  obtain ⟨hx, hb, hr, hown, hlk, hts, hG, hRf, hRl, hRc, hRs, hin, hxt, hhs, hst, hK⟩ := X
  intro al n g pc ls st uc us k x hd h1 kk H locs rl hP hD hS hL hz
  exact lv_iload_n hx hb hd rfl (hL.2.2 _ _ h1 rfl) (kk H locs rl hP hD hS hL hz)
theorem ps_iload (X : px_Cx tb fx bd K p l d R s m args meth c D cy A) : px_r_iload tb fx bd K Q (px_J p l e R s m args below meth c D cy A Qf) := by
  obtain ⟨hx, hb, hr, hown, hlk, hts, hG, hRf, hRl, hRc, hRs, hin, hxt, hhs, hst, hK⟩ := X
  intro al n g pc ls st uc us i x hd h1 kk H locs rl hP hD hS hL hz
  exact lv_iload hx hb hd (hL.2.2 _ _ h1 rfl) (kk H locs rl hP hD hS hL hz)
theorem ps_aload_n (X : px_Cx tb fx bd K p l d R s m args meth c D cy A) : px_r_aload_n tb fx bd K Q (px_J p l e R s m args below meth c D cy A Qf) := by
  obtain ⟨hx, hb, hr, hown, hlk, hts, hG, hRf, hRl, hRc, hRs, hin, hxt, hhs, hst, hK⟩ := X
  intro al n g pc ls st uc us k v hd h1 h2 kk H locs rl hP hD hS hL hz
  rcases px_isR_or h2 with rfl | ⟨a, rfl⟩
  · exact lv_aload_nN hx hb hd rfl (hL.2.2 _ _ h1 rfl) (kk H locs rl hP hD hS hL hz)
  · exact lv_aload_n hx hb hd rfl (hL.2.2 _ _ h1 rfl) (kk H locs rl hP hD hS hL hz)
theorem ps_aload (X : px_Cx tb fx bd K p l d R s m args meth c D cy A) : px_r_aload tb fx bd K Q (px_J p l e R s m args below meth c D cy A Qf) := by
  obtain ⟨hx, hb, hr, hown, hlk, hts, hG, hRf, hRl, hRc, hRs, hin, hxt, hhs, hst, hK⟩ := X
  intro al n g pc ls st uc us i v hd h1 h2 kk H locs rl hP hD hS hL hz
  rcases px_isR_or h2 with rfl | ⟨a, rfl⟩
  · exact lv_aloadN hx hb hd (hL.2.2 _ _ h1 rfl) (kk H locs rl hP hD hS hL hz)
  · exact lv_aload hx hb hd (hL.2.2 _ _ h1 rfl) (kk H locs rl hP hD hS hL hz)
theorem ps_istore_n (X : px_Cx tb fx bd K p l d R s m args meth c D cy A) : px_r_istore_n tb fx bd K Q (px_J p l e R s m args below meth c D cy A Qf) := by
  obtain ⟨hx, hb, hr, hown, hlk, hts, hG, hRf, hRl, hRc, hRs, hin, hxt, hhs, hst, hK⟩ := X
  intro al n g pc ls st uc us k x hd h1 kk H locs rl hP hD hS hL hz
  exact lv_istore_n hx hb hd rfl hL.has h1 rfl (fun rl2 h2 => kk H locs rl2 hP hD hS (px_L.set h1 h2) (h2.1.trans (hL.1.symm.trans hz)))
theorem ps_istore (X : px_Cx tb fx bd K p l d R s m args meth c D cy A) : px_r_istore tb fx bd K Q (px_J p l e R s m args below meth c D cy A Qf) := by
  obtain ⟨hx, hb, hr, hown, hlk, hts, hG, hRf, hRl, hRc, hRs, hin, hxt, hhs, hst, hK⟩ := X
  intro al n g pc ls st uc us i x hd h1 kk H locs rl hP hD hS hL hz
  exact lv_istore hx hb hd hL.has h1 rfl (fun rl2 h2 => kk H locs rl2 hP hD hS (px_L.set h1 h2) (h2.1.trans (hL.1.symm.trans hz)))
theorem ps_astore_n (X : px_Cx tb fx bd K p l d R s m args meth c D cy A) : px_r_astore_n tb fx bd K Q (px_J p l e R s m args below meth c D cy A Qf) := by
  obtain ⟨hx, hb, hr, hown, hlk, hts, hG, hRf, hRl, hRc, hRs, hin, hxt, hhs, hst, hK⟩ := X
  intro al n g pc ls st uc us k v hd h1 hv kk H locs rl hP hD hS hL hz
  rcases px_isR_or hv with rfl | ⟨a, rfl⟩
  · exact lv_astore_nN hx hb hd rfl hL.has h1 rfl (fun rl2 h2 => kk H locs rl2 hP hD hS (px_L.set h1 h2) (h2.1.trans (hL.1.symm.trans hz)))
  · exact lv_astore_n hx hb hd rfl hL.has h1 rfl (fun rl2 h2 => kk H locs rl2 hP hD hS (px_L.set h1 h2) (h2.1.trans (hL.1.symm.trans hz)))
theorem ps_astore (X : px_Cx tb fx bd K p l d R s m args meth c D cy A) : px_r_astore tb fx bd K Q (px_J p l e R s m args below meth c D cy A Qf) := by
  obtain ⟨hx, hb, hr, hown, hlk, hts, hG, hRf, hRl, hRc, hRs, hin, hxt, hhs, hst, hK⟩ := X
  intro al n g pc ls st uc us i v hd h1 hv kk H locs rl hP hD hS hL hz
  rcases px_isR_or hv with rfl | ⟨a, rfl⟩
  · exact lv_astoreN hx hb hd hL.has h1 rfl (fun rl2 h2 => kk H locs rl2 hP hD hS (px_L.set h1 h2) (h2.1.trans (hL.1.symm.trans hz)))
  · exact lv_astore hx hb hd hL.has h1 rfl (fun rl2 h2 => kk H locs rl2 hP hD hS (px_L.set h1 h2) (h2.1.trans (hL.1.symm.trans hz)))
theorem ps_iinc (X : px_Cx tb fx bd K p l d R s m args meth c D cy A) : px_r_iinc tb fx bd K Q (px_J p l e R s m args below meth c D cy A Qf) := by
  obtain ⟨hx, hb, hr, hown, hlk, hts, hG, hRf, hRl, hRc, hRs, hin, hxt, hhs, hst, hK⟩ := X
  intro al n g pc ls st uc us i c1 d1 x hd h0 hc kk H locs rl hP hD hS hL hz
  obtain ⟨k1, hk1⟩ := List.getElem?_of_mem (px_lv_mem h0 rfl)
  have h1 : i < ls.length := (List.getElem?_eq_some_iff.mp h0).1
  subst hc
  exact lv_iinc hx hb hd hL.has hk1 rfl h1 rfl (fun rl2 h2 => kk H locs rl2 hP hD hS (px_L.set h1 h2) (h2.1.trans (hL.1.symm.trans hz)))
theorem ps_iconst (X : px_Cx tb fx bd K p l d R s m args meth c D cy A) : px_r_iconst tb fx bd K Q (px_J p l e R s m args below meth c D cy A Qf) := by
  obtain ⟨hx, hb, hr, hown, hlk, hts, hG, hRf, hRl, hRc, hRs, hin, hxt, hhs, hst, hK⟩ := X
  intro al n g pc ls st uc us c1 d1 hd h1 kk H locs rl hP hD hS hL hz
  exact lv_iconst hx hb hd h1 (kk H locs rl hP hD hS hL hz)
theorem ps_bipush (X : px_Cx tb fx bd K p l d R s m args meth c D cy A) : px_r_bipush tb fx bd K Q (px_J p l e R s m args below meth c D cy A Qf) := by
  obtain ⟨hx, hb, hr, hown, hlk, hts, hG, hRf, hRl, hRc, hRs, hin, hxt, hhs, hst, hK⟩ := X
  intro al n g pc ls st uc us c1 d1 hd h1 kk H locs rl hP hD hS hL hz
  exact lv_bipush hx hb hd h1 (kk H locs rl hP hD hS hL hz)
theorem ps_sipush (X : px_Cx tb fx bd K p l d R s m args meth c D cy A) : px_r_sipush tb fx bd K Q (px_J p l e R s m args below meth c D cy A Qf) := by
  obtain ⟨hx, hb, hr, hown, hlk, hts, hG, hRf, hRl, hRc, hRs, hin, hxt, hhs, hst, hK⟩ := X
  intro al n g pc ls st uc us c1 d1 hd h1 kk H locs rl hP hD hS hL hz
  exact lv_sipush hx hb hd h1 (kk H locs rl hP hD hS hL hz)
theorem ps_ldc (X : px_Cx tb fx bd K p l d R s m args meth c D cy A) : px_r_ldc tb fx bd K Q (px_J p l e R s m args below meth c D cy A Qf) := by
  obtain ⟨hx, hb, hr, hown, hlk, hts, hG, hRf, hRl, hRc, hRs, hin, hxt, hhs, hst, hK⟩ := X
  intro al n g pc ls st uc us idx d1 hd h1 kk H locs rl hP hD hS hL hz
  exact lv_ldc hx hb hown (hts _ h1) hd (kk H locs rl hP hD hS hL hz)
theorem ps_lconst (X : px_Cx tb fx bd K p l d R s m args meth c D cy A) : px_r_lconst tb fx bd K Q (px_J p l e R s m args below meth c D cy A Qf) := by
  obtain ⟨hx, hb, hr, hown, hlk, hts, hG, hRf, hRl, hRc, hRs, hin, hxt, hhs, hst, hK⟩ := X
  intro al n g pc ls st uc us k1 d1 hd h1 kk H locs rl hP hD hS hL hz
  exact lv_lconst hx hb hd h1 (kk H locs rl hP hD hS hL hz)
theorem ps_null (X : px_Cx tb fx bd K p l d R s m args meth c D cy A) : px_r_null tb fx bd K Q (px_J p l e R s m args below meth c D cy A Qf) := by
  obtain ⟨hx, hb, hr, hown, hlk, hts, hG, hRf, hRl, hRc, hRs, hin, hxt, hhs, hst, hK⟩ := X
  intro al n g pc ls st uc us hd kk H locs rl hP hD hS hL hz
  exact lv_null hx hb hd (kk H locs rl hP hD hS hL hz)
theorem ps_iadd (X : px_Cx tb fx bd K p l d R s m args meth c D cy A) : px_r_iadd tb fx bd K Q (px_J p l e R s m args below meth c D cy A Qf) := by
  obtain ⟨hx, hb, hr, hown, hlk, hts, hG, hRf, hRl, hRc, hRs, hin, hxt, hhs, hst, hK⟩ := X
  intro al n g pc ls st uc us x y hd kk H locs rl hP hD hS hL hz
  exact lv_iadd hx hb hd (kk H locs rl hP hD hS hL hz)
theorem ps_isub (X : px_Cx tb fx bd K p l d R s m args meth c D cy A) : px_r_isub tb fx bd K Q (px_J p l e R s m args below meth c D cy A Qf) := by
  obtain ⟨hx, hb, hr, hown, hlk, hts, hG, hRf, hRl, hRc, hRs, hin, hxt, hhs, hst, hK⟩ := X
  intro al n g pc ls st uc us x y hd kk H locs rl hP hD hS hL hz
  exact lv_isub hx hb hd (kk H locs rl hP hD hS hL hz)
theorem ps_imul (X : px_Cx tb fx bd K p l d R s m args meth c D cy A) : px_r_imul tb fx bd K Q (px_J p l e R s m args below meth c D cy A Qf) := by
  obtain ⟨hx, hb, hr, hown, hlk, hts, hG, hRf, hRl, hRc, hRs, hin, hxt, hhs, hst, hK⟩ := X
  intro al n g pc ls st uc us x y hd kk H locs rl hP hD hS hL hz
  exact lv_imul hx hb hd (kk H locs rl hP hD hS hL hz)
theorem ps_iand (X : px_Cx tb fx bd K p l d R s m args meth c D cy A) : px_r_iand tb fx bd K Q (px_J p l e R s m args below meth c D cy A Qf) := by
  obtain ⟨hx, hb, hr, hown, hlk, hts, hG, hRf, hRl, hRc, hRs, hin, hxt, hhs, hst, hK⟩ := X
  intro al n g pc ls st uc us x y hd kk H locs rl hP hD hS hL hz
  exact lv_iand hx hb hd (kk H locs rl hP hD hS hL hz)
theorem ps_ior (X : px_Cx tb fx bd K p l d R s m args meth c D cy A) : px_r_ior tb fx bd K Q (px_J p l e R s m args below meth c D cy A Qf) := by
  obtain ⟨hx, hb, hr, hown, hlk, hts, hG, hRf, hRl, hRc, hRs, hin, hxt, hhs, hst, hK⟩ := X
  intro al n g pc ls st uc us x y hd kk H locs rl hP hD hS hL hz
  exact lv_ior hx hb hd (kk H locs rl hP hD hS hL hz)
theorem ps_ixor (X : px_Cx tb fx bd K p l d R s m args meth c D cy A) : px_r_ixor tb fx bd K Q (px_J p l e R s m args below meth c D cy A Qf) := by
  obtain ⟨hx, hb, hr, hown, hlk, hts, hG, hRf, hRl, hRc, hRs, hin, hxt, hhs, hst, hK⟩ := X
  intro al n g pc ls st uc us x y hd kk H locs rl hP hD hS hL hz
  exact lv_ixor hx hb hd (kk H locs rl hP hD hS hL hz)
theorem ps_ishl (X : px_Cx tb fx bd K p l d R s m args meth c D cy A) : px_r_ishl tb fx bd K Q (px_J p l e R s m args below meth c D cy A Qf) := by
  obtain ⟨hx, hb, hr, hown, hlk, hts, hG, hRf, hRl, hRc, hRs, hin, hxt, hhs, hst, hK⟩ := X
  intro al n g pc ls st uc us x y hd kk H locs rl hP hD hS hL hz
  exact lv_ishl hx hb hd (kk H locs rl hP hD hS hL hz)
theorem ps_ishr (X : px_Cx tb fx bd K p l d R s m args meth c D cy A) : px_r_ishr tb fx bd K Q (px_J p l e R s m args below meth c D cy A Qf) := by
  obtain ⟨hx, hb, hr, hown, hlk, hts, hG, hRf, hRl, hRc, hRs, hin, hxt, hhs, hst, hK⟩ := X
  intro al n g pc ls st uc us x y hd kk H locs rl hP hD hS hL hz
  exact lv_ishr hx hb hd (kk H locs rl hP hD hS hL hz)
theorem ps_idiv (X : px_Cx tb fx bd K p l d R s m args meth c D cy A) : px_r_idiv tb fx bd K Q (px_J p l e R s m args below meth c D cy A Qf) := by
  obtain ⟨hx, hb, hr, hown, hlk, hts, hG, hRf, hRl, hRc, hRs, hin, hxt, hhs, hst, hK⟩ := X
  intro al n g pc ls st uc us x y hd h1 kk H locs rl hP hD hS hL hz
  exact lv_idiv hx hb hd h1 (kk H locs rl hP hD hS hL hz)
theorem ps_irem (X : px_Cx tb fx bd K p l d R s m args meth c D cy A) : px_r_irem tb fx bd K Q (px_J p l e R s m args below meth c D cy A Qf) := by
  obtain ⟨hx, hb, hr, hown, hlk, hts, hG, hRf, hRl, hRc, hRs, hin, hxt, hhs, hst, hK⟩ := X
  intro al n g pc ls st uc us x y hd h1 kk H locs rl hP hD hS hL hz
  exact lv_irem hx hb hd h1 (kk H locs rl hP hD hS hL hz)
theorem ps_i2l (X : px_Cx tb fx bd K p l d R s m args meth c D cy A) : px_r_i2l tb fx bd K Q (px_J p l e R s m args below meth c D cy A Qf) := by
  obtain ⟨hx, hb, hr, hown, hlk, hts, hG, hRf, hRl, hRc, hRs, hin, hxt, hhs, hst, hK⟩ := X
  intro al n g pc ls st uc us x hd kk H locs rl hP hD hS hL hz
  exact lv_i2l hx hb hd rfl (kk H locs rl hP hD hS hL hz)
theorem ps_i2c (X : px_Cx tb fx bd K p l d R s m args meth c D cy A) : px_r_i2c tb fx bd K Q (px_J p l e R s m args below meth c D cy A Qf) := by
  obtain ⟨hx, hb, hr, hown, hlk, hts, hG, hRf, hRl, hRc, hRs, hin, hxt, hhs, hst, hK⟩ := X
  intro al n g pc ls st uc us x hd kk H locs rl hP hD hS hL hz
  exact lv_i2c hx hb hd rfl (kk H locs rl hP hD hS hL hz)
theorem ps_i2b (X : px_Cx tb fx bd K p l d R s m args meth c D cy A) : px_r_i2b tb fx bd K Q (px_J p l e R s m args below meth c D cy A Qf) := by
  obtain ⟨hx, hb, hr, hown, hlk, hts, hG, hRf, hRl, hRc, hRs, hin, hxt, hhs, hst, hK⟩ := X
  intro al n g pc ls st uc us x hd kk H locs rl hP hD hS hL hz
  exact lv_i2b hx hb hd rfl (kk H locs rl hP hD hS hL hz)
theorem ps_lcmp (X : px_Cx tb fx bd K p l d R s m args meth c D cy A) : px_r_lcmp tb fx bd K Q (px_J p l e R s m args below meth c D cy A Qf) := by
  obtain ⟨hx, hb, hr, hown, hlk, hts, hG, hRf, hRl, hRc, hRs, hin, hxt, hhs, hst, hK⟩ := X
  intro al n g pc ls st uc us x y hd kk H locs rl hP hD hS hL hz
  exact W.lcmp hx hb hd (kk H locs rl hP hD hS hL hz)
theorem ps_dup (X : px_Cx tb fx bd K p l d R s m args meth c D cy A) : px_r_dup tb fx bd K Q (px_J p l e R s m args below meth c D cy A Qf) := by
  obtain ⟨hx, hb, hr, hown, hlk, hts, hG, hRf, hRl, hRc, hRs, hin, hxt, hhs, hst, hK⟩ := X
  intro al n g pc ls st uc us v hd h1 kk H locs rl hP hD hS hL hz
  exact lv_dup hx hb hd h1 (kk H locs rl hP hD hS hL hz)
theorem ps_pop (X : px_Cx tb fx bd K p l d R s m args meth c D cy A) : px_r_pop tb fx bd K Q (px_J p l e R s m args below meth c D cy A Qf) := by
  obtain ⟨hx, hb, hr, hown, hlk, hts, hG, hRf, hRl, hRc, hRs, hin, hxt, hhs, hst, hK⟩ := X
  intro al n g pc ls st uc us v hd h1 kk H locs rl hP hD hS hL hz
  exact lv_pop hx hb hd h1 (kk H locs rl hP hD hS hL hz)
theorem ps_dup2 (X : px_Cx tb fx bd K p l d R s m args meth c D cy A) : px_r_dup2 tb fx bd K Q (px_J p l e R s m args below meth c D cy A Qf) := by
  obtain ⟨hx, hb, hr, hown, hlk, hts, hG, hRf, hRl, hRc, hRs, hin, hxt, hhs, hst, hK⟩ := X
  intro al n g pc ls st uc us v w hd h1 h2 kk H locs rl hP hD hS hL hz
  exact lv_dup2_11 hx hb hd h1 h2 (kk H locs rl hP hD hS hL hz)
theorem ps_if_eq (X : px_Cx tb fx bd K p l d R s m args meth c D cy A) : px_r_if_eq tb fx bd K Q (px_J p l e R s m args below meth c D cy A Qf) := by
  obtain ⟨hx, hb, hr, hown, hlk, hts, hG, hRf, hRl, hRc, hRs, hin, hxt, hhs, hst, hK⟩ := X
  intro al n g pc ls st uc us x off tgt hd h1 kt kf H locs rl hP hD hS hL hz
  exact lv_if_eq hx hb hd h1 (fun z => kt z H locs rl hP hD hS hL hz) (fun z => kf z H locs rl hP hD hS hL hz)
theorem ps_if_ne (X : px_Cx tb fx bd K p l d R s m args meth c D cy A) : px_r_if_ne tb fx bd K Q (px_J p l e R s m args below meth c D cy A Qf) := by
  obtain ⟨hx, hb, hr, hown, hlk, hts, hG, hRf, hRl, hRc, hRs, hin, hxt, hhs, hst, hK⟩ := X
  intro al n g pc ls st uc us x off tgt hd h1 kt kf H locs rl hP hD hS hL hz
  exact lv_if_ne hx hb hd h1 (fun z => kt z H locs rl hP hD hS hL hz) (fun z => kf z H locs rl hP hD hS hL hz)
theorem ps_if_lt (X : px_Cx tb fx bd K p l d R s m args meth c D cy A) : px_r_if_lt tb fx bd K Q (px_J p l e R s m args below meth c D cy A Qf) := by
  obtain ⟨hx, hb, hr, hown, hlk, hts, hG, hRf, hRl, hRc, hRs, hin, hxt, hhs, hst, hK⟩ := X
  intro al n g pc ls st uc us x off tgt hd h1 kt kf H locs rl hP hD hS hL hz
  exact lv_if_lt hx hb hd h1 (fun z => kt z H locs rl hP hD hS hL hz) (fun z => kf z H locs rl hP hD hS hL hz)
theorem ps_if_ge (X : px_Cx tb fx bd K p l d R s m args meth c D cy A) : px_r_if_ge tb fx bd K Q (px_J p l e R s m args below meth c D cy A Qf) := by
  obtain ⟨hx, hb, hr, hown, hlk, hts, hG, hRf, hRl, hRc, hRs, hin, hxt, hhs, hst, hK⟩ := X
  intro al n g pc ls st uc us x off tgt hd h1 kt kf H locs rl hP hD hS hL hz
  exact lv_if_ge hx hb hd h1 (fun z => kt z H locs rl hP hD hS hL hz) (fun z => kf z H locs rl hP hD hS hL hz)
theorem ps_if_gt (X : px_Cx tb fx bd K p l d R s m args meth c D cy A) : px_r_if_gt tb fx bd K Q (px_J p l e R s m args below meth c D cy A Qf) := by
  obtain ⟨hx, hb, hr, hown, hlk, hts, hG, hRf, hRl, hRc, hRs, hin, hxt, hhs, hst, hK⟩ := X
  intro al n g pc ls st uc us x off tgt hd h1 kt kf H locs rl hP hD hS hL hz
  exact lv_if_gt hx hb hd h1 (fun z => kt z H locs rl hP hD hS hL hz) (fun z => kf z H locs rl hP hD hS hL hz)
theorem ps_if_le (X : px_Cx tb fx bd K p l d R s m args meth c D cy A) : px_r_if_le tb fx bd K Q (px_J p l e R s m args below meth c D cy A Qf) := by
  obtain ⟨hx, hb, hr, hown, hlk, hts, hG, hRf, hRl, hRc, hRs, hin, hxt, hhs, hst, hK⟩ := X
  intro al n g pc ls st uc us x off tgt hd h1 kt kf H locs rl hP hD hS hL hz
  exact lv_if_le hx hb hd h1 (fun z => kt z H locs rl hP hD hS hL hz) (fun z => kf z H locs rl hP hD hS hL hz)
theorem ps_icmp_eq (X : px_Cx tb fx bd K p l d R s m args meth c D cy A) : px_r_icmp_eq tb fx bd K Q (px_J p l e R s m args below meth c D cy A Qf) := by
  obtain ⟨hx, hb, hr, hown, hlk, hts, hG, hRf, hRl, hRc, hRs, hin, hxt, hhs, hst, hK⟩ := X
  intro al n g pc ls st uc us x y off tgt hd h1 kt kf H locs rl hP hD hS hL hz
  exact lv_icmp_eq hx hb hd h1 (fun z => kt z H locs rl hP hD hS hL hz) (fun z => kf z H locs rl hP hD hS hL hz)
theorem ps_icmp_ne (X : px_Cx tb fx bd K p l d R s m args meth c D cy A) : px_r_icmp_ne tb fx bd K Q (px_J p l e R s m args below meth c D cy A Qf) := by
  obtain ⟨hx, hb, hr, hown, hlk, hts, hG, hRf, hRl, hRc, hRs, hin, hxt, hhs, hst, hK⟩ := X
  intro al n g pc ls st uc us x y off tgt hd h1 kt kf H locs rl hP hD hS hL hz
  exact lv_icmp_ne hx hb hd h1 (fun z => kt z H locs rl hP hD hS hL hz) (fun z => kf z H locs rl hP hD hS hL hz)
theorem ps_icmp_lt (X : px_Cx tb fx bd K p l d R s m args meth c D cy A) : px_r_icmp_lt tb fx bd K Q (px_J p l e R s m args below meth c D cy A Qf) := by
  obtain ⟨hx, hb, hr, hown, hlk, hts, hG, hRf, hRl, hRc, hRs, hin, hxt, hhs, hst, hK⟩ := X
  intro al n g pc ls st uc us x y off tgt hd h1 kt kf H locs rl hP hD hS hL hz
  exact lv_icmp_lt hx hb hd h1 (fun z => kt z H locs rl hP hD hS hL hz) (fun z => kf z H locs rl hP hD hS hL hz)
theorem ps_icmp_ge (X : px_Cx tb fx bd K p l d R s m args meth c D cy A) : px_r_icmp_ge tb fx bd K Q (px_J p l e R s m args below meth c D cy A Qf) := by
  obtain ⟨hx, hb, hr, hown, hlk, hts, hG, hRf, hRl, hRc, hRs, hin, hxt, hhs, hst, hK⟩ := X
  intro al n g pc ls st uc us x y off tgt hd h1 kt kf H locs rl hP hD hS hL hz
  exact lv_icmp_ge hx hb hd h1 (fun z => kt z H locs rl hP hD hS hL hz) (fun z => kf z H locs rl hP hD hS hL hz)
theorem ps_icmp_gt (X : px_Cx tb fx bd K p l d R s m args meth c D cy A) : px_r_icmp_gt tb fx bd K Q (px_J p l e R s m args below meth c D cy A Qf) := by
  obtain ⟨hx, hb, hr, hown, hlk, hts, hG, hRf, hRl, hRc, hRs, hin, hxt, hhs, hst, hK⟩ := X
  intro al n g pc ls st uc us x y off tgt hd h1 kt kf H locs rl hP hD hS hL hz
  exact lv_icmp_gt hx hb hd h1 (fun z => kt z H locs rl hP hD hS hL hz) (fun z => kf z H locs rl hP hD hS hL hz)
theorem ps_icmp_le (X : px_Cx tb fx bd K p l d R s m args meth c D cy A) : px_r_icmp_le tb fx bd K Q (px_J p l e R s m args below meth c D cy A Qf) := by
  obtain ⟨hx, hb, hr, hown, hlk, hts, hG, hRf, hRl, hRc, hRs, hin, hxt, hhs, hst, hK⟩ := X
  intro al n g pc ls st uc us x y off tgt hd h1 kt kf H locs rl hP hD hS hL hz
  exact lv_icmp_le hx hb hd h1 (fun z => kt z H locs rl hP hD hS hL hz) (fun z => kf z H locs rl hP hD hS hL hz)
theorem ps_goto (X : px_Cx tb fx bd K p l d R s m args meth c D cy A) : px_r_goto tb fx bd K Q (px_J p l e R s m args below meth c D cy A Qf) := by
  obtain ⟨hx, hb, hr, hown, hlk, hts, hG, hRf, hRl, hRc, hRs, hin, hxt, hhs, hst, hK⟩ := X
  intro al n g pc ls st uc us off tgt hd h1 kk H locs rl hP hD hS hL hz
  exact lv_goto hx hb hd h1 (kk H locs rl hP hD hS hL hz)
theorem ps_ifnull (X : px_Cx tb fx bd K p l d R s m args meth c D cy A) : px_r_ifnull tb fx bd K Q (px_J p l e R s m args below meth c D cy A Qf) := by
  obtain ⟨hx, hb, hr, hown, hlk, hts, hG, hRf, hRl, hRc, hRs, hin, hxt, hhs, hst, hK⟩ := X
  intro al n g pc ls st uc us v off tgt hd h1 hv kt kf H locs rl hP hD hS hL hz
  rcases px_isR_or hv with rfl | ⟨a, rfl⟩
  · exact lv_ifnullN hx hb hd h1 (kt rfl H locs rl hP hD hS hL hz)
  · exact lv_ifnull hx hb hd (kf a rfl H locs rl hP hD hS hL hz)
theorem ps_ifnonnull (X : px_Cx tb fx bd K p l d R s m args meth c D cy A) : px_r_ifnonnull tb fx bd K Q (px_J p l e R s m args below meth c D cy A Qf) := by
  obtain ⟨hx, hb, hr, hown, hlk, hts, hG, hRf, hRl, hRc, hRs, hin, hxt, hhs, hst, hK⟩ := X
  intro al n g pc ls st uc us v off tgt hd h1 hv kt kf H locs rl hP hD hS hL hz
  rcases px_isR_or hv with rfl | ⟨a, rfl⟩
  · exact lv_ifnonnullN hx hb hd (kf rfl H locs rl hP hD hS hL hz)
  · exact lv_ifnonnull hx hb hd h1 (kt a rfl H locs rl hP hD hS hL hz)
theorem ps_tableOut (X : px_Cx tb fx bd K p l d R s m args meth c D cy A) : px_r_tableOut tb fx bd K Q (px_J p l e R s m args below meth c D cy A Qf) := by
  obtain ⟨hx, hb, hr, hown, hlk, hts, hG, hRf, hRl, hRc, hRs, hin, hxt, hhs, hst, hK⟩ := X
  intro al n g pc ls st uc us dflt lo hi offs len x tgt hd h1 h2 kk H locs rl hP hD hS hL hz
  exact lv_tableOut hx hb hd h1 h2 (kk H locs rl hP hD hS hL hz)
theorem ps_tableIn (X : px_Cx tb fx bd K p l d R s m args meth c D cy A) : px_r_tableIn tb fx bd K Q (px_J p l e R s m args below meth c D cy A Qf) := by
  obtain ⟨hx, hb, hr, hown, hlk, hts, hG, hRf, hRl, hRc, hRs, hin, hxt, hhs, hst, hK⟩ := X
  intro al n g pc ls st uc us dflt lo hi offs len x off tgt hd h1 h2 h3 h4 kk H locs rl hP hD hS hL hz
  exact lv_tableIn hx hb hd h1 h2 h3 h4 (kk H locs rl hP hD hS hL hz)
theorem ps_lookup (X : px_Cx tb fx bd K p l d R s m args meth c D cy A) : px_r_lookup tb fx bd K Q (px_J p l e R s m args below meth c D cy A Qf) := by
  obtain ⟨hx, hb, hr, hown, hlk, hts, hG, hRf, hRl, hRc, hRs, hin, hxt, hhs, hst, hK⟩ := X
  intro al n g pc ls st uc us dflt ps len x off tgt hd h1 h2 h3 kk H locs rl hP hD hS hL hz
  exact lv_lookup hx hb hd h1 h2 h3 (kk H locs rl hP hD hS hL hz)
end PSA
