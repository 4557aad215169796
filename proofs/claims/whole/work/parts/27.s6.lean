section PSF
variable {tb : Nat → Option px_M} {fx : px_F} {bd : px_B} {K : px_K} {Q : px_Q} {p : Program} {l : Launch} {e : Env} {d : Nat} {R : Room} {s : State} {m : MethodId} {args : Array Value} {below : List Frame} {meth : Method} {c : Code} {D : va_G} {cy : Nat → ClassId} {A : Nat → Prop} {Qf : State → Prop}
theorem ps_mna (X : px_Cx tb fx bd K p l d R s m args meth c D cy A) : px_r_mna tb fx bd K Q (px_J p l e R s m args below meth c D cy A Qf) := by
  obtain ⟨hx, hb, hr, hown, hlk, hts, hG, hRf, hRl, hRc, hRs, hin, hxt, hhs, hst, hK⟩ := X
  intro al n g pc ls st uc us idx c1 N hd h1 h2 h3 h4 h5 h6 kk H locs rl hP hD hS hL hz
  obtain ⟨gK, gN, gS, gT, gZ, gF, gU, gV, gX, gb, gA, gO1, gO5, gO8, gOO, gC, gq⟩ := hG
  have hcy : s.vm.findClass (FieldType.array .int).toString = some (cy 0) := (gK.2 0 (cy 0, .int) rfl).2
  have hP0 : va_P D vwCl (px_w cy al n g ++ va_pl [] (fun _ => .inl (0, 0, .inl (fun _ => 0)))) H := by simpa [va_pl] using hP
  have hD0 : va_D A (px_w cy al n g ++ va_pl [] (fun _ => .inl (0, 0, .inl (fun _ => 0)))) := by simpa [va_pl] using hD
  refine va_mna (ty := .int) (z := (N, .inl (fun _ => 0))) (N' := 2) hx hb hown (hts _ h1) gOO (hts _ px_ac.1) hcy gK hP0 hD0 hS gq (by decide) h2 (by decide) h3 (by decide) (by show N * 4 ≤ 536870912; omega) (by omega) rfl rfl (by rw [hRc]; omega) (by rw [hRs]; omega) (fun _ => by first | rfl | (rw [vp_cell_i]; exact arrV_new _ _ _) | exact (arrV_new _ _ _)) hd (fun q r cA H1 hinj hr9 hK1 hP1 hD1 hS1 => ?_)
  have e1 : cA = cy 7 := Option.some.inj ((hK1.2 8 (cA, .array .int) rfl).2.symm.trans (gK.2 7 (cy 7, .array .int) rfl).2)
  subst e1
  obtain ⟨al2, hal⟩ : ∃ al2, al2 = va_up (va_up (va_up al n q) (n + 1) (r 0)) (n + 2) (r 1) := ⟨_, rfl⟩
  have a0 : al2 n = q := by rw [hal, va_up_ne _ _ (by omega), va_up_ne _ _ (by omega), va_up_self]
  have a1 : al2 (n + 1 + 0) = r 0 := by rw [hal, va_up_ne _ _ (by omega)]; exact va_up_self _ _ _
  have a2 : al2 (n + 1 + 1) = r 1 := by rw [hal]; exact va_up_self _ _ _
  have hrefs : (fun i => if i < 2 then some (r i) else none) = (fun i => if i < 2 then some (al2 (n + 1 + i)) else (none : Option Nat)) := funext fun i => by
    match i with
    | 0 => simp [a1]
    | 1 => simp [a2]
    | i + 2 => rw [if_neg (by omega), if_neg (by omega)]
  have e9 : (px_w cy al n g ++ [(q, Sum.inl (cy 7, 2, Sum.inr (Sum.inr (Sum.inr (Sum.inr (fun i => if i < 2 then some (r i) else none))))))]) ++ va_pl ([] ++ (List.range 2).map r) (vr_up (fun _ => .inl (0, 0, .inl (fun _ => 0))) ((List.range 2).map r) (.inl (cy 0, N, .inl (fun _ => 0)))) = px_w cy al2 (n + 3) (va_up (va_up (va_up g n (.inl (7, 2, .inr (.inr (.inr (.inr (fun i => if i < 2 then some (al2 (n + 1 + i)) else none))))))) (n + 1) (.inl (0, N, .inl (fun _ => 0)))) (n + 2) (.inl (0, N, .inl (fun _ => 0)))) := by
    rw [hrefs, hal, ← px_push (cy := cy) (n := n + 2) (r 1) (.inl (0, N, .inl (fun _ => 0))), ← px_push (cy := cy) (n := n + 1) (r 0) (.inl (0, N, .inl (fun _ => 0))), ← px_push (cy := cy) (n := n) q (.inl (7, 2, _)), ← hal]
    simp only [List.append_assoc]
    congr 1
    simp [va_pl, vr_up, List.range, List.range.loop, px_E]
  rw [e9] at hP1 hD1
  have k9 := kk al2 (fun j hj => by rw [hal, va_up_ne _ _ (by omega), va_up_ne _ _ (by omega), va_up_ne _ _ (by omega)]) H1 locs rl hP1 hD1 hS1 hL hz
  rw [a0] at k9
  exact W.widen (by omega) (by omega) k9
theorem ps_all (X : px_Cx tb fx bd K p l d R s m args meth c D cy A) : px_C tb fx bd K Q (px_J p l e R s m args below meth c D cy A (vx_MQ below (px_Qc cy D A Q) (px_XC cy D A Q) args s bd.2.2.2.1.1 bd.2.2.2.1.2 A)) := ⟨ps_iload_n X, ps_iload X, ps_aload_n X, ps_aload X, ps_istore_n X, ps_istore X, ps_astore_n X, ps_astore X, ps_iinc X, ps_iconst X, ps_bipush X, ps_sipush X, ps_ldc X, ps_lconst X, ps_null X, ps_iadd X, ps_isub X, ps_imul X, ps_iand X, ps_ior X, ps_ixor X, ps_ishl X, ps_ishr X, ps_idiv X, ps_irem X, ps_i2l X, ps_i2c X, ps_i2b X, ps_lcmp X, ps_dup X, ps_pop X, ps_dup2 X, ps_if_eq X, ps_if_ne X, ps_if_lt X, ps_if_ge X, ps_if_gt X, ps_if_le X, ps_icmp_eq X, ps_icmp_ne X, ps_icmp_lt X, ps_icmp_ge X, ps_icmp_gt X, ps_icmp_le X, ps_goto X, ps_ifnull X, ps_ifnonnull X, ps_tableOut X, ps_tableIn X, ps_lookup X, ps_get X, ps_put X, ps_getN X, ps_putN X, ps_putF X, ps_iald X, ps_bald X, ps_zald X, ps_lald X, ps_aald X, ps_iast X, ps_bast X, ps_zast X, ps_last X, ps_aast X, ps_alen X, ps_sld X, ps_slen X, ps_new X, ps_newi X, ps_newb X, ps_newz X, ps_newl X, ps_newq X, ps_ldcS X, ps_strval X, ps_strcod X, ps_strbyt X, ps_strlen X, ps_gets X, ps_getsq X, ps_acopy X, ps_mna X, ps_callV X, ps_callVN X, ps_callT X, ps_callS X, ps_callSN X, ps_callI X, ps_callIN X, ps_objInit X, ps_iret X, ps_aret X, ps_vret X, ps_throwS X⟩
end PSF
