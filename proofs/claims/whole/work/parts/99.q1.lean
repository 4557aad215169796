theorem vx_ofWF {l : Launch} {y : MethodName} {ws ws' : List Cond} {rm : Room} {Pc : Array Value → State → Prop} {Qc : Array Value → State → Outcome → State → Prop} {XC : String → State → State → Prop} {mc ms : Nat} {free : Addr → Prop} {cc : ByteArray} {maxL : Nat} {ret : Option FieldType}
    (hy : plainFor y = true) (hw : ws = Cond.code y cc maxL ret :: ws')
    (body : ∀ p e s m args below meth c s₁, BodyLoose p l y (headSpec ws rm) cc maxL ret e s m args below meth c s₁ → c.maxLocals = maxL → (∀ x ∈ c.exceptionTable.toList, False) → Pc args s →
      W p l e (headSpec ws rm).room s m args below meth c s.heap [] 0 0 (vx_MQ below Qc XC args s mc ms free) (entryFrame m args maxL)) : vx_Met l y ws rm Pc Qc XC mc ms free := by
  refine MetFree.of_bodySF (code := cc) (maxLocals := maxL) (ret := ret) hy ?_ ?_
  · intro args s m h hn
    obtain ⟨meth, c, h1, h2, h3, h4, h5, h6, -, -⟩ := Cond.code_spec hn (atoms_spec (ws := ws) h _ (by rw [hw]; exact List.mem_cons_self))
    exact ⟨meth, c, h1, h2, h3, h4, h5, h6⟩
  · intro p e s m args below meth c s₁ B hml hP _
    have hh0 : s₁.heap = s.heap := by rw [B.state]; rfl
    have ht : ∀ x ∈ c.exceptionTable.toList, False := by
      obtain ⟨meth9, c9, h1, h2, -, -, -, -, h7, -⟩ := Cond.code_spec B.named (atoms_spec (ws := ws) B.pre _ (by rw [hw]; exact List.mem_cons_self))
      cases Option.some.inj (h1.symm.trans B.method)
      cases Option.some.inj (h2.symm.trans (Stand.of_body B).code)
      intro x hx
      rw [Array.isEmpty_iff.mp h7] at hx
      cases hx
    obtain ⟨t, a1, o, b1, b2, b3⟩ := body p e s m args below meth c s₁ B hml ht hP s₁ hh0 (Stand.of_body B)
    exact ⟨t, o, a1, b1, b2, b3⟩
theorem pm_sound2 {tb : Nat → Option px_M} {fx : px_F} {l : Launch} {cy : Nat → ClassId} {D : va_G} {A : Nat → Prop} (hl : l.stackTraces = false) (htb : ∀ k m, tb k = some m → px_tk2 m) : ∀ d k as al n g Q, pm tb fx d k as al n g Q → ∃ m : px_M, tb k = some m ∧ px_Met l fx cy D A d m as al n g Q
  | 0, _, _, _, _, _, _, h => h.elim
  | d + 1, k, as, al, n, g, Q, h => by
    obtain ⟨m, h1, h2, h3, h4⟩ := h
    refine ⟨m, h1, ?_⟩
    obtain ⟨⟨hpf, hpn⟩, hhs⟩ := htb k m h1
    have body : ∀ p e s mi args below meth c s₁, BodyLoose p l m.1 (headSpec (px_cw m :: px_big) (px_rm (d + 1) m.2.2.2.2.1.1 m.2.2.2.2.1.2)) m.2.1 m.2.2.1 m.2.2.2.1 e s mi args below meth c s₁ → c.maxLocals = m.2.2.1 → c.exceptionTable.toList = tableOf (m.2.2.2.2.2.map (fun h => h.1)) → px_Pc fx cy D A as al n g args s →
        W p l e (headSpec (px_cw m :: px_big) (px_rm (d + 1) m.2.2.2.2.1.1 m.2.2.2.2.1.2)).room s mi args below meth c s.heap [] 0 0 (vx_MQ below (px_Qc cy D A Q) (px_XC cy D A Q) args s m.2.2.2.2.1.1 m.2.2.2.2.1.2 A) (entryFrame mi args m.2.2.1) := by
      intro p e s mi args below meth c s₁ B hml htab hv
      obtain ⟨rfl, ⟨hP, hD⟩, hG⟩ := hv
      have hts := atoms_spec (ws := px_cw m :: px_big) B.pre
      have X : px_Cx tb fx (px_body m) (pm tb fx d) p l d (px_rm (d + 1) m.2.2.2.2.1.1 m.2.2.2.2.1.2) s mi as.toArray meth c D cy A := ⟨B.exec, B.bytes, B.returns, findClass_of_methodNamed B.named, B.notSynchronized, fun w hw => hts w (List.mem_cons_of_mem _ hw), hG, by simp only [px_rm]; omega, by simp only [px_rm]; omega, rfl, rfl, fun z => (name_of_methodNamed B.named B.method).1.trans (of_decide_eq_true z), htab, hhs, hl, fun k as al n g Q' z => pm_sound2 hl htb d k as al n g Q' z⟩
      obtain ⟨hL, hz⟩ := px_entry (n := m.2.2.1) h2 h3
      rw [lg_entry_eq]
      exact h4 _ (ps_all X) s.heap [] _ hP hD va_S.rf hL (hz.trans hml.symm)
    cases hh : m.2.2.2.2.2 with
    | nil =>
      refine vx_ofWF hpf (congrArg (fun w => w :: px_big) (px_cw0 hh)) ?_
      intro p e s mi args below meth c s₁ B hml htab hv
      exact body p e s mi args below meth c s₁ B hml (by rw [hh]; exact List.eq_nil_iff_forall_not_mem.mpr htab) hv
    | cons h9 t9 =>
      have hpl : plainName m.1.cls = true := hpn.resolve_left (by rw [hh]; intro z; cases z)
      have hcw : px_cw m = .codeWith m.1 m.2.1 m.2.2.1 m.2.2.2.1 ((h9 :: t9).map (fun q => q.1)) := by
        unfold px_cw
        rw [hh]
      refine vx_ofWH hpl (congrArg (fun w => w :: px_big) hcw) ?_
      intro p e s mi args below meth c s₁ B hml hv
      refine body p e s mi args below meth c s₁ B hml ?_ hv
      rw [hh]
      have hts := atoms_spec (ws := px_cw m :: px_big) B.pre
      refine vx_table (x := m.1) B (bytes := m.2.1) (maxL' := m.2.2.1) (ret' := m.2.2.2.1) ?_
      rw [← hcw]
      exact hts _ List.mem_cons_self
theorem sbn_nil {s s' : State} {L : List Loc} {k n : Nat} (h : s.sameButNew s' L k n) (hL : ∀ q ∈ L, s.heap.size ≤ q.base) : s.sameButNew s' [] k n := by
  obtain ⟨h1, h2, h3, h4, h5, h6⟩ := h
  refine ⟨h1, h2, h3, h4, h5, fun a c hc => ?_⟩
  obtain ⟨c', g1, g2, g3, g4⟩ := h6 a c hc
  refine ⟨c', g1, g2, g3, fun i _ => g4 i (fun hm => ?_)⟩
  have h9 : s.heap.size ≤ a := hL _ hm
  have := (Array.getElem?_eq_some_iff.mp hc).1
  omega
/-! THE CLAIM OUT OF ONE WALK OF THE LAW'S BODY -/
def R_law : String := "PracticeGroundLaw"
def lw_P (b : Addr) (xs : List Int32) (args : Array Value) (s : State) : Prop := args = #[.ref b] ∧ s.IntsAt b xs ∧ xs.length ≤ 3072 ∧ (Jvm.Cond.and given_1 narrow_1).before args s = true
def lw_Q (_ : Array Value) (s : State) (o : Outcome) (t : State) : Prop := o = .returned (some (.int 1)) ∧ Framed s o t [] 601024 7293034
set_option maxHeartbeats 4000000 in
set_option maxRecDepth 20000 in
/-- the law from its entry: it comes to its end, and answers 1 -/
theorem whole_body {p : Program} {e : Env} {s : State} {m : MethodId} {below : List Frame} {meth : Method} {c : Code} (l : Launch) (hl : l.stackTraces = false) {b L : Nat} {xs : Nat → Int32} (hL : L ≤ 3072) (hx : p.tables.exec = Jvm.exec) (hb : c.code = code) (hr : meth.sig.returnType = ret) (hml : c.maxLocals = 7) (hown : s.vm.findClass R_law = some m.cls) (hts : ∀ w ∈ lw_tbl, w.before #[Value.ref b] s = true) (hX : va_X b L xs s s.heap) (hbl : b < s.heap.size) (hlocks : meth.locks = false) (hgv : (Jvm.Cond.and given_1 narrow_1).before #[Value.ref b] s = true) (htab : ∀ x ∈ c.exceptionTable.toList, False) : ∃ (cy : Nat → ClassId) (D : va_G), W p l e room_1 s m #[Value.ref b] below meth c s.heap [] 0 0 (vx_MQ below (px_Qc cy D (fun q => s.heap.size ≤ q) (fun o _ _ _ => o = .inl (some (.int 1)))) (px_XC cy D (fun q => s.heap.size ≤ q) (fun o _ _ _ => o = .inl (some (.int 1)))) #[Value.ref b] s 601024 7293034 (fun q => s.heap.size ≤ q)) (entryFrame m #[Value.ref b] 7) := by
  obtain ⟨adK, adV, cy, D, hG⟩ := gl_of hts hgv hX hbl
  refine ⟨cy, D, ?_⟩
  have X : px_Cx px_tb (adK, adV, b, L, xs) (px_body pm_L_law) (pm px_tb (adK, adV, b, L, xs) 1735) p l 1735 room_1 s m #[Value.ref b] meth c D cy (fun q => s.heap.size ≤ q) := ⟨hx, hb, hr, hown, hlocks, fun w hw => hts w (List.mem_filter.mp hw).1, hG, by decide, by decide, rfl, rfl, fun z => absurd z (by decide), List.eq_nil_iff_forall_not_mem.mpr htab, fun _ h => absurd h List.not_mem_nil, hl, fun k as al n g Q' z => pm_sound2 hl tk_tb 1735 k as al n g Q' z⟩
  obtain ⟨mm, h1, h2, h3, h4⟩ := law_pm (fx := (adK, adV, b, L, xs)) (Q := fun o _ _ _ => o = .inl (some (.int 1))) (al := fun _ => 0) (g := fun _ => .inr (0, fun _ => .null)) hL (fun _ _ _ => rfl)
  cases h1
  obtain ⟨hLe, hz⟩ := px_entry (as := [Value.ref b]) (n := 7) rfl (Nat.le_of_ble_eq_true rfl)
  have hent : entryFrame m #[Value.ref b] 7 = entryFrame m ([Value.ref b] : List Value).toArray 7 := rfl
  rw [hent, lg_entry_eq]
  exact h4 _ (ps_all X) s.heap [] _ (fun k q h => by simp [px_w] at h) ⟨fun i j p q h => by simp [px_w] at h, fun k q h => by simp [px_w] at h⟩ va_S.rf hLe (hz.trans hml.symm)
set_option maxHeartbeats 4000000 in
theorem lw_walk (l : Launch) (hl : l.stackTraces = false) (b : Addr) (xs : List Int32) : MetFree l x (headSpec (Jvm.Cond.code x code maxLocals ret :: tables_1) room_1) (lw_P b xs) (fun _ _ _ _ _ => True) lw_Q := by
  refine MetFree.of_bodyS (code := code) (maxLocals := maxLocals) (ret := ret) (by decide) ?_ ?_
  · intro args s m h hn
    obtain ⟨meth, c, h1, h2, h3, h4, h5, h6, -, -⟩ := Cond.code_spec hn (atoms_spec (ws := Jvm.Cond.code x code maxLocals ret :: tables_1) h _ List.mem_cons_self)
    exact ⟨meth, c, h1, h2, h3, h4, h5, h6⟩
  · intro p e s m args below meth c s₁ B hml0 hP _
    obtain ⟨rfl, hx, hbd, hgv⟩ := hP
    obtain ⟨scr, harrAt, hlist, hof, hsmall⟩ := hx
    obtain ⟨hcb, hkn, -, -⟩ := State.arrayAt?_spec harrAt
    have hown : s.vm.findClass R_law = some m.cls := findClass_of_methodNamed B.named
    have hts0 : ∀ c ∈ (Jvm.Cond.code x code maxLocals ret :: tables_1), c.before #[Value.ref b] s = true := atoms_spec (ws := Jvm.Cond.code x code maxLocals ret :: tables_1) B.pre
    have hts : ∀ w ∈ lw_tbl, w.before #[Value.ref b] s = true := k2_hts_sels lw_privs (fun w hw => hts0 w (List.mem_cons_of_mem _ hw)) lw_privs_ok
    have hml : c.maxLocals = 7 := B.maxLocals_eq (hts0 _ List.mem_cons_self)
    have ht : ∀ x ∈ c.exceptionTable.toList, False := by
      obtain ⟨meth9, c9, h1, h2, -, -, -, -, h7, -⟩ := Cond.code_spec B.named (hts0 _ List.mem_cons_self)
      cases Option.some.inj (h1.symm.trans B.method)
      cases Option.some.inj (h2.symm.trans (Stand.of_body B).code)
      intro x hx
      rw [Array.isEmpty_iff.mp h7] at hx
      cases hx
    have X₀ : Stand p l e room_1 s m #[Value.ref b] below meth c s₁ [] 0 0 := Stand.of_body B
    have hh0 : s₁.heap = s.heap := by rw [B.state]; rfl
    have hsz : scr.slots.size = xs.length := by rw [← Array.length_toList, hlist, List.length_map]
    have hval : ∀ j : Nat, j < xs.length → scr.slots[j]? = some (.int (xs.getD j 0)) := fun j hj => by
      rw [← Array.getElem?_toList, hlist]
      simp [hj]
    have hbl : b < s.heap.size := (Array.getElem?_eq_some_iff.mp hcb).1
    have hX : va_X b xs.length (fun j => xs.getD j 0) s s.heap := ⟨scr, hcb, hof, hkn, hsz, hval⟩
    obtain ⟨cy, D, K⟩ := whole_body (p := p) (e := e) (m := m) (below := below) (meth := meth) (c := c) l hl hbd B.exec B.bytes B.returns hml hown hts hX hbl B.notSynchronized hgv ht
    obtain ⟨t, a1, o, b1, b2, b3⟩ := K s₁ hh0 X₀
    refine ⟨t, o, a1, b1, b2, ?_⟩
    rcases b3 with ⟨⟨v, al, n, g, rfl, hv, _, _⟩, L, hF, hL⟩ | ⟨q, _, E, ce, L, ⟨al, n, g, _, hE, _⟩, _⟩
    · have hv2 : v = some (.int 1) := Sum.inl.inj hv
      subst hv2
      exact ⟨rfl, hF.1, hF.2.1, sbn_nil hF.2.2 hL⟩
    · exact absurd hE (by intro z; cases z)
theorem lw_pre_spec {args : Array Value} {s : State} (h : (Jvm.Cond.and given_1 narrow_1).before args s = true) (hr : rest_1_c.before args s = true) : ∃ (b : Addr) (xs : List Int32), lw_P b xs args s := by
  have hs := flat_of_before _ h
  have hq := flat_of_before _ hr
  have hc : (Cond.count 1).before args s = true := hs _ (by decide +kernel)
  have harr : (Cond.arrayOf (.arg 0) .int).before args s = true := hs _ (by decide +kernel)
  have hle : (Cond.le (.length (.arg 0)) (.int 3072)).before args s = true := hs _ (by decide +kernel)
  have hlen : (Cond.isInt (.length (.arg 0))).before args s = true := hq _ (by decide +kernel)
  have hall : (Cond.all (.arg 0) (.isInt (.elem (.arg 0) (.index 0)))).before args s = true := hq _ (by decide +kernel)
  obtain ⟨b, xs, hb, hx⟩ := State.ints_of_pre rfl harr hlen hall
  have hsm : xs.length < 2 ^ 31 := hx.choose_spec.2.2.2
  have hev : (Term.length (.arg 0)).eval args s none [] s = some (.int xs.length.toInt32) := hx.length_eval hb
  have hv := Cond.le_ints hev (show (Term.int 3072).eval args s none [] s = some (.int 3072) from rfl)
  have hd : xs.length.toInt32 ≤ 3072 := by
    simpa [Cond.before, Cond.holds, hv] using hle
  have hN : xs.length ≤ 3072 := (Int32.ofNat_le_ofNat hsm (by decide)).mp (show Int32.ofNat xs.length ≤ Int32.ofNat 3072 from hd)
  exact ⟨b, xs, Cond.one_arg hc (show args[0]? = some (.ref b) from hb), hx, hN, h⟩
theorem lw_comes (l : Launch) (hl : l.stackTraces = false) : Comes l x (Jvm.Cond.code x code maxLocals ret :: tables_1) room_1 (fun tb e args s => Calls_1 tb e args s ∧ rest_1 tb e args s ∧ Pre_1 tb e args s)
    (fun _ _ args s o t => lw_Q args s o t) := by
  intro p e ha hc hk s m args below hf hfit hheap happ hpre
  obtain ⟨b, xs, hP⟩ := lw_pre_spec hpre.2.2 hpre.2.1
  obtain ⟨k, o, h1, h2, h3, hQ⟩ := lw_walk l hl b xs p e ha hc hk s m args below hf ((Spec.applies_iff_loose hf).mp happ).1 hP trivial
  exact ⟨k, o, h1, h2, h3, hQ⟩
theorem lw_flags {l : Launch} (h : l.flags = flags0) : l.stackTraces = false := by
  unfold Launch.stackTraces
  rw [h]
  decide
theorem lw_frame {s t : State} {o : Outcome} {args : Array Value} (h : Framed s o t [] 601024 7293034) :
    Framed s o t (fieldLocs frame_1_writes args s ++ arrayLocs frame_1_arrays args s ++ staticLocs frame_1_statics s) 601024 7293034 := h
theorem lw_limb (L : Cond) (hL : ∀ (args : Array Value) (s t : State), L.after args s (.returned (some (.int 1))) t = true) :
    ArmFor flags0 classFile x code maxLocals ret World_1 tables_1 room_1 Calls_1 rest_1 Pre_1
      (fun tb e a s o t => postC L tb e a s o t ∧ Framed s o t (fieldLocs frame_1_writes a s ++ arrayLocs frame_1_arrays a s ++ staticLocs frame_1_statics s) 601024 7293034) := by
  intro l hfl _ _ p e ha hc hk s m args below hf hfit hheap happ hpre
  obtain ⟨k, o, h1, h2, h3, rfl, hF⟩ := lw_comes l (lw_flags hfl) p e ha hc hk s m args below hf hfit hheap happ hpre
  exact ⟨k, _, h1, h2, h3, hL args s _, lw_frame hF⟩
theorem i_vc : Claimed_1_1 ∧ Claimed_1_2 := ⟨lw_limb limb_1_1 (fun args s t => by simp [limb_1_1, Cond.after, Cond.holds, Cond.value]), lw_limb limb_1_2 (fun args s t => Cond.after_iff.mpr (by
  first | (rw [show limb_1_2 = Cond.eq .result (.int 1) from rfl, Cond.eq_ints (x := 1) (y := 1) rfl rfl]; simp; done) | (simp [limb_1_2, Cond.value, Term.eval]; done)))⟩
