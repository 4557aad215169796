section PSD
variable {tb : Nat → Option px_M} {fx : px_F} {bd : px_B} {K : px_K} {Q : px_Q} {p : Program} {l : Launch} {e : Env} {d : Nat} {R : Room} {s : State} {m : MethodId} {args : Array Value} {below : List Frame} {meth : Method} {c : Code} {D : va_G} {cy : Nat → ClassId} {A : Nat → Prop} {Qf : State → Prop}
theorem ps_iret (X : px_Cx tb fx bd K p l d R s m args meth c D cy A) : px_r_iret tb fx bd K Q (px_J p l e R s m args below meth c D cy A (vx_MQ below (px_Qc cy D A Q) (px_XC cy D A Q) args s bd.2.2.2.1.1 bd.2.2.2.1.2 A)) := by
  have X0 := X
  obtain ⟨hx, hb, hr, hown, hlk, hts, hG, hRf, hRl, hRc, hRs, hin, hxt, hhs, hst, hK⟩ := X
  intro al n g pc ls st uc us x ty hd h1 h2 h3 h4 hQ H locs rl hP hD hS hL hz
  exact W.widen h3 h4 (vx_ret (W.zret hx hb (hr.trans h1) h2 (fun t ht hv9 => ⟨_, al, n, g, rfl, hQ, ⟨by rw [ht]; exact hP, hD⟩, hS.F ht⟩) hS.2.2 hd hlk))
theorem ps_aret (X : px_Cx tb fx bd K p l d R s m args meth c D cy A) : px_r_aret tb fx bd K Q (px_J p l e R s m args below meth c D cy A (vx_MQ below (px_Qc cy D A Q) (px_XC cy D A Q) args s bd.2.2.2.1.1 bd.2.2.2.1.2 A)) := by
  have X0 := X
  obtain ⟨hx, hb, hr, hown, hlk, hts, hG, hRf, hRl, hRc, hRs, hin, hxt, hhs, hst, hK⟩ := X
  intro al n g pc ls st uc us v ty hd h1 h2 hv h3 h4 hQ H locs rl hP hD hS hL hz
  exact W.widen h3 h4 (vx_ret (W.aret hx hb (hr.trans h1) h2 (px_isR_or hv) (fun t ht hv9 => ⟨_, al, n, g, rfl, hQ, ⟨by rw [ht]; exact hP, hD⟩, hS.F ht⟩) hS.2.2 hd hlk))
theorem ps_vret (X : px_Cx tb fx bd K p l d R s m args meth c D cy A) : px_r_vret tb fx bd K Q (px_J p l e R s m args below meth c D cy A (vx_MQ below (px_Qc cy D A Q) (px_XC cy D A Q) args s bd.2.2.2.1.1 bd.2.2.2.1.2 A)) := by
  have X0 := X
  obtain ⟨hx, hb, hr, hown, hlk, hts, hG, hRf, hRl, hRc, hRs, hin, hxt, hhs, hst, hK⟩ := X
  intro al n g pc ls st uc us hd h1 h3 h4 hQ H locs rl hP hD hS hL hz
  exact W.widen h3 h4 (vx_ret (W.vret hx hb (hr.trans h1) (fun t ht hv9 => ⟨_, al, n, g, rfl, hQ, ⟨by rw [ht]; exact hP, hD⟩, hS.F ht⟩) hS.2.2 hd hlk))
theorem ps_throwS (X : px_Cx tb fx bd K p l d R s m args meth c D cy A) : px_r_throwS tb fx bd K Q (px_J p l e R s m args below meth c D cy A (vx_MQ below (px_Qc cy D A Q) (px_XC cy D A Q) args s bd.2.2.2.1.1 bd.2.2.2.1.2 A)) := by
  have X0 := X
  obtain ⟨hx, hb, hr, hown, hlk, hts, hG, hRf, hRl, hRc, hRs, hin, hxt, hhs, hst, hK⟩ := X
  intro al n g pc ls st uc us ik ix ic cls text hd d3 d4 d6 d9 h1 h2 h3 h4 h5 hQ H locs rl hP hD hS hL hz
  obtain ⟨gK, gN, gS, gT, gZ, gF, gU, gV, gX, gb, gA, gO1, gO5, gO8, gOO, gC, gq⟩ := hG
  obtain ⟨t1, t2, t3, t4, t5, t6⟩ := h1
  obtain ⟨sa, hR9, -⟩ := gS bd.1 ix text t5
  have hat : ∀ L : List Cond, (∀ w ∈ L, w ∈ px_big ∨ (w ∈ lw_tbl ∧ px_nest w = true)) → ∀ w ∈ L, w.before args s = true ∧ vx_ot w = true := fun L t6 w hw => by
    rcases t6 w hw with z | ⟨z1, z2⟩
    · exact ⟨hts _ z, by show (w.onTables || goodWord w) = true; rw [(px_big_good z).2, Bool.or_true]⟩
    · exact ⟨va_Nw.use (px_nest_tab z2) (gN w z1 z2), by show (w.onTables || goodWord w) = true; rw [px_nest_tab z2, Bool.true_or]⟩
  have hgw : ∀ w ∈ px_big, vx_ot w = true := fun w z => by show (w.onTables || goodWord w) = true; rw [(px_big_good z).2, Bool.or_true]
  rcases t6 with t6 | t6
  ·
    refine vx_throwS hx hb hst hown t2 (by decide +kernel) (hts _ t3) (hts _ t4) hR9 (fun w hw => (hat _ t6 w hw).1) (fun w hw => ?_) gU gV hS hz hd d3 d4 d6 d9 (fun x hx9 => ?_) (by show 2 + 3 < _; omega) (by show _ + (13 * (2 + 1) + 43) ≤ _; omega) (by rw [hRc]; exact h4) (by rw [hRs]; exact h5) hlk (fun t hv9 hz9 hq9 => ?_) hS.2.2 h4 h5
    · rcases List.mem_cons.mp hw with rfl | hw
      · exact hgw _ t3
      · rcases List.mem_cons.mp hw with rfl | hw
        · exact hgw _ t4
        · exact (hat _ t6 w hw).2
    · rw [hxt, h2] at hx9
      cases hx9
    · exact ⟨al, n, g, t1, hQ, ⟨hP.kept (fun k x hx9 => hq9 x.1 (hP k x hx9).lt), hD⟩, Nat.le_trans hS.1 hz9, fun q z1 z2 => (hq9 q (Nat.lt_of_lt_of_le z1 hS.1)).trans (hS.2.1 q z1 z2)⟩
  ·
    refine nse_throw hx hb hst hown t2 (hts _ t3) (hts _ t4) hR9 (fun w hw => (hat _ t6 w hw).1) (fun w hw => ?_) gU gV hS hz hd d3 d4 d6 d9 (fun x hx9 => ?_) (by show 2 + 3 < _; omega) (by show _ + (13 * (2 + 1) + 43) ≤ _; omega) (by rw [hRc]; exact h4) (by rw [hRs]; exact h5) hlk (fun t hv9 hz9 hq9 => ?_) hS.2.2 h4 h5
    · rcases List.mem_cons.mp hw with rfl | hw
      · exact hgw _ t3
      · rcases List.mem_cons.mp hw with rfl | hw
        · exact hgw _ t4
        · exact (hat _ t6 w hw).2
    · rw [hxt, h2] at hx9
      cases hx9
    · exact ⟨al, n, g, t1, hQ, ⟨hP.kept (fun k x hx9 => hq9 x.1 (hP k x hx9).lt), hD⟩, Nat.le_trans hS.1 hz9, fun q z1 z2 => (hq9 q (Nat.lt_of_lt_of_le z1 hS.1)).trans (hS.2.1 q z1 z2)⟩
theorem ps_exc (X : px_Cx tb fx bd K p l d R s m args meth c D cy A) {al : Nat → Nat} {n : Nat} {g : Nat → px_O} {pc : Nat} {ls st : List Value} {uc us : Nat} {E : String} {H : Heap} {locs : List Loc} {rl : Array Slot} {q : Addr} {ce : Cell}
    (h : px_exc (px_J p l e R s m args below meth c D cy A (vx_MQ below (px_Qc cy D A Q) (px_XC cy D A Q) args s bd.2.2.2.1.1 bd.2.2.2.1.2 A)) Q bd.2.2.2.2.2 pc ls uc us E al n g) (hE : E ∈ px_exs) (hP : va_P D vwCl (px_w cy al n g) H) (hD : va_D A (px_w cy al n g)) (hS : va_S A s.heap H locs) (hL : px_L rl ls) (hz : rl.size = c.maxLocals) (hce : H[q]? = some ce) (hcv : ce.vm = .none) (hcl : s.vm.findClass E = some ce.cls) (h3 : uc ≤ bd.2.2.2.1.1) (h4 : us ≤ bd.2.2.2.1.2) :
    vx_W p l e R s m args below meth c H locs uc us (vx_MQ below (px_Qc cy D A Q) (px_XC cy D A Q) args s bd.2.2.2.1.1 bd.2.2.2.1.2 A) (F0 m pc rl st) q := by
  obtain ⟨hx, hb, hr, hown, hlk, hts, hG, hRf, hRl, hRc, hRs, hin, hxt, hhs, hst, hK⟩ := X
  obtain ⟨gK, gN, gS, gT, gZ, gF, gU, gV, gX, gb, gA, gO1, gO5, gO8, gOO, gC, gq⟩ := hG
  have key : ∀ hh : List ((Nat × Nat × Nat × Nat) × String), (∀ x ∈ hh, x ∈ bd.2.2.2.2.2) → (∀ x ∈ hh, (decide (x.1.1 ≤ pc) && decide (pc < x.1.2.1) && (x.2 == E)) = false) → ∀ z ∈ tableOf (hh.map (fun x => x.1)), covers z pc = false ∨ (z.catchType ≠ 0 ∧ ∃ nm : String, (Cond.classLink bd.1 z.catchType nm).before args s = true ∧ va_Nc E nm s) := by
    intro hh i1 i2 z hz9
    obtain ⟨y, hy, rfl⟩ := List.mem_map.mp hz9
    obtain ⟨x, hx9, rfl⟩ := List.mem_map.mp hy
    have i3 := i2 x hx9
    obtain ⟨j1, j2, j3, -⟩ := hhs x (i1 x hx9)
    by_cases hcv9 : (decide (x.1.1 ≤ pc) && decide (pc < x.1.2.1)) = true
    · rw [hcv9, Bool.true_and] at i3
      exact Or.inr ⟨j1, x.2, hts _ j2, gC E hE x.2 j3 (fun e9 => by rw [e9] at i3; simp at i3)⟩
    · exact Or.inl (by simpa using hcv9)
  unfold px_exc px_find at h
  cases hf : bd.2.2.2.2.2.find? (fun h => decide (h.1.1 ≤ pc) && decide (pc < h.1.2.1) && (h.2 == E)) with
  | none =>
    rw [hf] at h
    refine vx_outP hown hlk (fun z hz9 => ?_) hce hcv hcl (fun t ht hv9 => ⟨al, n, g, hE, h, ⟨by rw [ht]; exact hP, hD⟩, hS.F ht⟩) hS.2.2 h3 h4
    rw [hxt] at hz9
    exact key _ (fun _ z => z) (fun x hx9 => by simpa using List.find?_eq_none.mp hf x hx9) z hz9
  | some y =>
    rw [hf] at h
    obtain ⟨hp, as, bs, hsp, hno⟩ := List.find?_eq_some_iff_append.mp hf
    have hy : y ∈ bd.2.2.2.2.2 := by rw [hsp]; simp
    obtain ⟨j1, j2, j3, j4⟩ := hhs y hy
    simp only [Bool.and_eq_true, beq_iff_eq] at hp
    have hE9 : y.2 = E := hp.2
    refine vx_catch (name := E) (E := E) hown (tableOf (as.map (fun x => x.1))) ⟨y.1.1, y.1.2.1, y.1.2.2.1, y.1.2.2.2⟩ (tableOf (bs.map (fun x => x.1))) (by rw [hxt, hsp]; simp [tableOf]) (key as (fun x hx9 => by rw [hsp]; simp [hx9]) (fun x hx9 => by simpa only [Bool.not_eq_true'] using hno x hx9)) (by simpa using hp.1) j1 (by rw [← hE9]; exact hts _ j2) (by rw [← hE9]; exact va_Nw.use rfl (gN _ j4 rfl)) hce hcv hcl ?_
    exact h q H locs rl hP hD hS hL hz
theorem ps_run (X : px_Cx tb fx bd K p l d R s m args meth c D cy A) {pc : Nat} {ls st st0 : List Value} {uc us mc ms : Nat} {H : Heap} {locs : List Loc} {rl : Array Slot} {as : Array Value} (hS : va_S A s.heap H locs) (hL : px_L rl ls) (hz : rl.size = c.maxLocals)
    (hr : vx_Run p l e R s m args below meth c H locs uc us mc ms (F0 m pc rl st0) st (px_Qc cy D A (px_aft (px_J p l e R s m args below meth c D cy A (vx_MQ below (px_Qc cy D A Q) (px_XC cy D A Q) args s bd.2.2.2.1.1 bd.2.2.2.1.2 A)) Q bd.2.2.2.2.2 pc ls st (uc + mc) (us + ms)) as) (px_XC cy D A (px_aft (px_J p l e R s m args below meth c D cy A (vx_MQ below (px_Qc cy D A Q) (px_XC cy D A Q) args s bd.2.2.2.1.1 bd.2.2.2.1.2 A)) Q bd.2.2.2.2.2 pc ls st (uc + mc) (us + ms))) A) (h3 : uc + mc ≤ bd.2.2.2.1.1) (h4 : us + ms ≤ bd.2.2.2.1.2) :
    W p l e R s m args below meth c H locs uc us (vx_MQ below (px_Qc cy D A Q) (px_XC cy D A Q) args s bd.2.2.2.1.1 bd.2.2.2.1.2 A) (F0 m pc rl st0) := by
  intro T hT Y
  rcases hr T hT Y with ⟨v, st₀, t, T', L, h0, X', hL9, e1, e2, ⟨v9, al, n, g, hv, hq, hW9, hF⟩, stp⟩ | ⟨q, st₀, t, T', L, E, ce, h0, X', hL9, e1, e2, ⟨al, n, g, hE, hq, hW9, hF⟩, hce, hcv, hcl, stp⟩
  · cases hv
    obtain ⟨k1, k2, k3⟩ := vx_keep h0 e1 hS (fun _ _ z => z) (fun _ z => z) hL9 hF
    obtain ⟨t2, a1, b1⟩ := hq T'.heap (locs ++ L) rl (by rw [e1]; exact hW9.1) hW9.2 k3 hL hz T' rfl X'
    exact ⟨t2, stp t2 a1, b1⟩
  · obtain ⟨k1, k2, k3⟩ := vx_keep h0 e1 hS (fun _ _ z => z) (fun _ z => z) hL9 hF
    obtain ⟨t2, a1, b1⟩ := ps_exc X hq hE (st := st) (by rw [e1]; exact hW9.1) hW9.2 k3 hL hz (by rw [e1]; exact hce) hcv hcl h3 h4 T' rfl X'
    exact ⟨t2, stp.trans a1, b1⟩
theorem ps_runN {pc : Nat} {ls st st0 : List Value} {uc us mc ms : Nat} {H : Heap} {locs : List Loc} {rl : Array Slot} {as : Array Value} (hS : va_S A s.heap H locs) (hL : px_L rl ls) (hz : rl.size = c.maxLocals)
    (hr : va_Run p l e R s m args below meth c H locs uc us mc ms (F0 m pc rl st0) st (px_Qc cy D A (px_aftN (px_J p l e R s m args below meth c D cy A (vx_MQ below (px_Qc cy D A Q) (px_XC cy D A Q) args s bd.2.2.2.1.1 bd.2.2.2.1.2 A)) pc ls st (uc + mc) (us + ms)) as) A) :
    W p l e R s m args below meth c H locs uc us (vx_MQ below (px_Qc cy D A Q) (px_XC cy D A Q) args s bd.2.2.2.1.1 bd.2.2.2.1.2 A) (F0 m pc rl st0) := by
  intro T hT Y
  obtain ⟨v, st₀, t, T', L, h0, X', hL9, e1, e2, ⟨v9, al, n, g, hv, hq, hW9, hF⟩, stp⟩ := hr T hT Y
  cases hv
  obtain ⟨k1, k2, k3⟩ := vx_keep h0 e1 hS (fun _ _ z => z) (fun _ z => z) hL9 hF
  obtain ⟨t2, a1, b1⟩ := hq T'.heap (locs ++ L) rl (by rw [e1]; exact hW9.1) hW9.2 k3 hL hz T' rfl X'
  exact ⟨t2, stp t2 a1, b1⟩
theorem px_XCN {P : px_P} {pc : Nat} {ls st : List Value} {uc us : Nat} : ∀ E st1 t, ¬ px_XC cy D A (px_aftN P pc ls st uc us) E st1 t := fun E st1 t ⟨_, _, _, _, h, _⟩ => h
theorem px_mcs {k : Nat} {mk : px_M} (h : tb k = some mk) : px_mc tb k = mk.2.2.2.2.1.1 ∧ px_ms tb k = mk.2.2.2.2.1.2 := by
  unfold px_mc px_ms
  rw [h]
  exact ⟨rfl, rfl⟩
theorem px_cw0 {mk : px_M} (h : mk.2.2.2.2.2 = []) : px_cw mk = .code mk.1 mk.2.1 mk.2.2.1 mk.2.2.2.1 := by
  unfold px_cw
  rw [h]
end PSD
