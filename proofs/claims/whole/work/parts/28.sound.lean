def px_body (m : px_M) : px_B := (m.1.cls, m.2.1, m.2.2.2.1, m.2.2.2.2.1, decide (m.1.name = "<init>"), m.2.2.2.2.2)
def px_in (as : List Value) (n : Nat) : List Value := as ++ List.replicate (n - as.length) (.float 0)
/-- the pure machine's methods, d deep -/
def pm (tb : Nat → Option px_M) (fx : px_F) : Nat → px_K
  | 0 => fun _ _ _ _ _ _ => False
  | d + 1 => fun k as al n g Q => ∃ m : px_M, tb k = some m ∧ as.all px_isI = true ∧ as.length ≤ m.2.2.1 ∧ pg tb fx (px_body m) (pm tb fx d) Q al n g 0 (px_in as m.2.2.1) [] 0 0
theorem pg_mono {tb : Nat → Option px_M} {fx : px_F} {bd : px_B} {K : px_K} (hm : px_mono K) {Q Q' : px_Q} (h : ∀ o al n g, Q o al n g → Q' o al n g) {al : Nat → Nat} {n : Nat} {g : Nat → px_O} {pc : Nat} {ls st : List Value} {uc us : Nat} (x : pg tb fx bd K Q al n g pc ls st uc us) : pg tb fx bd K Q' al n g pc ls st uc us := by
  intro P hC
  have hex : ∀ pc ls uc us E al n g, px_exc P Q bd.2.2.2.2.2 pc ls uc us E al n g → px_exc P Q' bd.2.2.2.2.2 pc ls uc us E al n g := by
    intro pc ls uc us E al n g y
    unfold px_exc at y ⊢
    cases hf : px_find bd.2.2.2.2.2 pc E with
    | none => rw [hf] at y; exact h _ _ _ _ y
    | some z => rw [hf] at y; exact y
  have haf : ∀ pc ls st uc us o al n g, px_aft P Q bd.2.2.2.2.2 pc ls st uc us o al n g → px_aft P Q' bd.2.2.2.2.2 pc ls st uc us o al n g := by
    intro pc ls st uc us o al n g y
    cases o with
    | inl v => exact y
    | inr E => exact hex _ _ _ _ _ _ _ _ y
  refine x P ?_
  exact ⟨hC.r_iload_n, hC.r_iload, hC.r_aload_n, hC.r_aload, hC.r_istore_n, hC.r_istore, hC.r_astore_n, hC.r_astore, hC.r_iinc, hC.r_iconst, hC.r_bipush, hC.r_sipush, hC.r_ldc, hC.r_lconst, hC.r_null, hC.r_iadd, hC.r_isub, hC.r_imul, hC.r_iand, hC.r_ior, hC.r_ixor, hC.r_ishl, hC.r_ishr, hC.r_idiv, hC.r_irem, hC.r_i2l, hC.r_i2c, hC.r_i2b, hC.r_lcmp, hC.r_dup, hC.r_pop, hC.r_dup2, hC.r_if_eq, hC.r_if_ne, hC.r_if_lt, hC.r_if_ge, hC.r_if_gt, hC.r_if_le, hC.r_icmp_eq, hC.r_icmp_ne, hC.r_icmp_lt, hC.r_icmp_ge, hC.r_icmp_gt, hC.r_icmp_le, hC.r_goto, hC.r_ifnull, hC.r_ifnonnull, hC.r_tableOut, hC.r_tableIn, hC.r_lookup, hC.r_get, hC.r_put, hC.r_getN, hC.r_putN, hC.r_putF, hC.r_iald, hC.r_bald, hC.r_zald, hC.r_lald, hC.r_aald, hC.r_iast, hC.r_bast, hC.r_zast, hC.r_last, hC.r_aast, hC.r_alen, hC.r_sld, hC.r_slen, hC.r_new, hC.r_newi, hC.r_newb, hC.r_newz, hC.r_newl, hC.r_newq, hC.r_ldcS, hC.r_strval, hC.r_strcod, hC.r_strbyt, hC.r_strlen, hC.r_gets, hC.r_getsq, hC.r_acopy, hC.r_mna, fun al n g pc ls st uc us b1 b2 b3 b4 b5 b6 b7 a1 a2 a3 a4 a5 a6 a7 a8 a9 => hC.r_callV al n g pc ls st uc us b1 b2 b3 b4 b5 b6 b7 a1 a2 a3 a4 a5 a6 a7 a8 (hm _ _ _ _ _ _ _ (fun o al n g z => haf _ _ _ _ _ o al n g z) a9), hC.r_callVN, hC.r_callT, fun al n g pc ls st uc us b1 b2 b3 b4 a1 a2 a3 a4 a5 a6 a7 => hC.r_callS al n g pc ls st uc us b1 b2 b3 b4 a1 a2 a3 a4 a5 a6 (hm _ _ _ _ _ _ _ (fun o al n g z => haf _ _ _ _ _ o al n g z) a7), hC.r_callSN, hC.r_callI, hC.r_callIN, hC.r_objInit, fun al n g pc ls st uc us x ty a1 a2 a3 a4 a5 a6 => hC.r_iret al n g pc ls st uc us x ty a1 a2 a3 a4 a5 (h _ _ _ _ a6), fun al n g pc ls st uc us x ty a1 a2 a3 a4 a5 a6 a7 => hC.r_aret al n g pc ls st uc us x ty a1 a2 a3 a4 a5 a6 (h _ _ _ _ a7), fun al n g pc ls st uc us a1 a2 a3 a4 a5 => hC.r_vret al n g pc ls st uc us a1 a2 a3 a4 (h _ _ _ _ a5), fun al n g pc ls st uc us b1 b2 b3 b4 b5 a1 a2 a3 a4 a5 a6 a7 a8 a9 a10 a11 => hC.r_throwS al n g pc ls st uc us b1 b2 b3 b4 b5 a1 a2 a3 a4 a5 a6 a7 a8 a9 a10 (h _ _ _ _ a11)⟩
theorem pm_mono (tb : Nat → Option px_M) (fx : px_F) : ∀ d, px_mono (pm tb fx d)
  | 0 => fun _ _ _ _ _ _ _ _ h => h.elim
  | d + 1 => fun k as al n g Q Q' h x => by
    obtain ⟨m, h1, h2, h3, h4⟩ := x
    exact ⟨m, h1, h2, h3, pg_mono (pm_mono tb fx d) h h4⟩
theorem px_sl {as : List Value} (h : as.all px_isI = true) : lg_sl as = as.map Slot.val := by
  induction as with
  | nil => rfl
  | cons v t ih =>
    simp only [List.all_cons, Bool.and_eq_true] at h
    have hc := px_isI_cat h.1
    show (if v.category = 2 then [Slot.val v, .second] else [.val v]) ++ lg_sl t = _
    rw [if_neg (by rw [hc]; decide), ih h.2]
    rfl
theorem px_entry {as : List Value} {n : Nat} (h : as.all px_isI = true) (hn : as.length ≤ n) : px_L ((lg_sl as ++ List.replicate (n - (lg_sl as).length) Slot.unset).toArray) (px_in as n) ∧ (lg_sl as ++ List.replicate (n - (lg_sl as).length) Slot.unset).toArray.size = n := by
  have hs : (lg_sl as).length = as.length := by rw [px_sl h, List.length_map]
  have he := lv_entry as (n := n) (by rw [hs]; exact hn)
  refine ⟨⟨?_, he.2.1, fun i v hi hv => ?_⟩, he.1⟩
  · rw [he.1]
    simp [px_in]
    omega
  · unfold px_in at hi
    by_cases hl : i < as.length
    · rw [List.getElem?_append_left hl] at hi
      rw [px_sl h]
      simp only [List.getElem?_toArray]
      rw [List.getElem?_append_left (by rw [List.length_map]; exact hl), List.getElem?_map, hi]
      rfl
    · rw [List.getElem?_append_right (by omega)] at hi
      have hv9 : v = .float 0 := List.eq_of_mem_replicate (List.mem_of_getElem? hi)
      rw [hv9] at hv
      exact Bool.noConfusion hv
/-- what the table of methods must be -/
def px_tok (m : px_M) : Prop := plainName m.1.cls = true ∧ ∀ h ∈ m.2.2.2.2.2, h.1.2.2.2 ≠ 0 ∧ Cond.classLink m.1.cls h.1.2.2.2 h.2 ∈ px_big ∧ h.2 ∈ px_exs ∧ Cond.castable h.2 h.2 ∈ lw_tbl
theorem pm_sound {tb : Nat → Option px_M} {fx : px_F} {l : Launch} {cy : Nat → ClassId} {D : va_G} {A : Nat → Prop} (hl : l.stackTraces = false) (htb : ∀ k m, tb k = some m → px_tok m) : ∀ d k as al n g Q, pm tb fx d k as al n g Q → ∃ m : px_M, tb k = some m ∧ px_Met l fx cy D A d m as al n g Q
  | 0, _, _, _, _, _, _, h => h.elim
  | d + 1, k, as, al, n, g, Q, h => by
    obtain ⟨m, h1, h2, h3, h4⟩ := h
    refine ⟨m, h1, ?_⟩
    obtain ⟨hpl, hhs⟩ := htb k m h1
    have body : ∀ p e s mi args below meth c s₁, BodyLoose p l m.1 (headSpec (px_cw m :: px_big) (px_rm (d + 1) m.2.2.2.2.1.1 m.2.2.2.2.1.2)) m.2.1 m.2.2.1 m.2.2.2.1 e s mi args below meth c s₁ → c.maxLocals = m.2.2.1 → c.exceptionTable.toList = tableOf (m.2.2.2.2.2.map (fun h => h.1)) → px_Pc fx cy D A as al n g args s →
        W p l e (headSpec (px_cw m :: px_big) (px_rm (d + 1) m.2.2.2.2.1.1 m.2.2.2.2.1.2)).room s mi args below meth c s.heap [] 0 0 (vx_MQ below (px_Qc cy D A Q) (px_XC cy D A Q) args s m.2.2.2.2.1.1 m.2.2.2.2.1.2 A) (entryFrame mi args m.2.2.1) := by
      intro p e s mi args below meth c s₁ B hml htab hv
      obtain ⟨rfl, ⟨hP, hD⟩, hG⟩ := hv
      have hts := atoms_spec (ws := px_cw m :: px_big) B.pre
      have X : px_Cx tb fx (px_body m) (pm tb fx d) p l d (px_rm (d + 1) m.2.2.2.2.1.1 m.2.2.2.2.1.2) s mi as.toArray meth c D cy A := ⟨B.exec, B.bytes, B.returns, findClass_of_methodNamed B.named, B.notSynchronized, fun w hw => hts w (List.mem_cons_of_mem _ hw), hG, by simp only [px_rm]; omega, by simp only [px_rm]; omega, rfl, rfl, fun z => (name_of_methodNamed B.named B.method).1.trans (of_decide_eq_true z), htab, hhs, hl, fun k as al n g Q' z => pm_sound hl htb d k as al n g Q' z⟩
      obtain ⟨hL, hz⟩ := px_entry (n := m.2.2.1) h2 h3
      rw [lg_entry_eq]
      exact h4 _ (ps_all X) s.heap [] _ hP hD va_S.rf hL (hz.trans hml.symm)
    cases hh : m.2.2.2.2.2 with
    | nil =>
      refine vx_ofW hpl (congrArg (fun w => w :: px_big) (px_cw0 hh)) ?_
      intro p e s mi args below meth c s₁ B hml htab hv
      exact body p e s mi args below meth c s₁ B hml (by rw [hh]; exact List.eq_nil_iff_forall_not_mem.mpr htab) hv
    | cons h9 t9 =>
      have hcw : px_cw m = .codeWith m.1 m.2.1 m.2.2.1 m.2.2.2.1 ((h9 :: t9).map (fun q => q.1)) := by
        unfold px_cw
        rw [hh]
      refine vx_ofWH hpl (congrArg (fun w => w :: px_big) hcw) ?_
      intro p e s mi args below meth c s₁ B hml hv
      refine body p e s mi args below meth c s₁ B hml ?_ hv
      rw [hh]
      have hts := atoms_spec (ws := px_cw m :: px_big) B.pre
      refine vx_table (x := m.1) B (bytes := m.2.1) (maxL' := m.2.2.1) (ret' := m.2.2.2.1) ?_
      rw [← hcw]
      exact hts _ List.mem_cons_self
