/-- a program in the heap, with what is known of it; its cells are frozen -/
def PX (al : Nat → Nat) (n : Nat) (g : Nat → px_O) (fz : Nat → Bool) (P m : Nat) (S : Nat → Int32) : Prop := 59 ≤ P ∧ 0 < m ∧ (∀ k, P ≤ k → k < P + 4 → fz k = true) ∧ ∃ L O A, PG al n g P m L S O A (bD m S) ∧ POK m L S O A
/-- a way of a task's -/
def WX (al : Nat → Nat) (n : Nat) (g : Nat → px_O) (fz : Nat → Bool) (rar : Nat → Nat → Int32) (t i : Nat) (x : Option Nat) (P m : Nat) (S : Nat → Int32) : Prop := x = some (al P) ∧ PX al n g fz P m S ∧ rar 14 (10 * t + i) = nI m ∧ ∀ k, k < m → rar 15 (120 * (10 * t + i) + k) = S k
/-- the first pass of a learner's -/
def FX (al : Nat → Nat) (n : Nat) (g : Nat → px_O) (fz : Nat → Bool) (rar : Nat → Nat → Int32) (t l : Nat) (x : Option Nat) (P m : Nat) (S : Nat → Int32) : Prop := (x = none ∧ rar 16 (10 * l + t) = 0) ∨ (x = some (al P) ∧ PX al n g fz P m S ∧ rar 16 (10 * l + t) = nI m ∧ ∀ k, k < m → rar 17 (120 * (10 * l + t) + k) = shp S 0 m k)
/-- a task, in both -/
def TX (al : Nat → Nat) (n : Nat) (g : Nat → px_O) (fz : Nat → Bool) (rar : Nat → Nat → Int32) (t T : Nat) : Prop := 59 ≤ T ∧ (∀ k, T ≤ k → k < T + 6 → fz k = false) ∧ (∃ b, b < 256 ∧ rar 9 t = nI b) ∧ (∃ b, b < 256 ∧ rar 10 t = nI b) ∧ ∃ (w y : Nat) (WA WB WR : Nat → Int32) (Y F : Nat → Option Nat) (PY mY : Nat → Nat) (SY : Nat → Nat → Int32) (PF mF : Nat → Nat) (SF : Nat → Nat → Int32), TK al n g T (rar 9 t) (rar 10 t) w y WA WB WR Y F ∧ (w ≤ 6 ∧ rar 11 t = nI w ∧ ∀ i, i < w → rar 12 (3 * (6 * t + i)) = WA i ∧ rar 12 (3 * (6 * t + i) + 1) = WB i ∧ rar 12 (3 * (6 * t + i) + 2) = WR i) ∧ (y ≤ 10 ∧ rar 13 t = nI y ∧ ∀ i, i < y → WX al n g fz rar t i (Y i) (PY i) (mY i) (SY i)) ∧ ∀ l, l < 8 → FX al n g fz rar t l (F l) (PF l) (mF l) (SF l)
/-- the slate, in both -/
def SX (al : Nat → Nat) (n : Nat) (g : Nat → px_O) (fz : Nat → Bool) (sl : Value) (rsc : Nat → Int32) (rar : Nat → Nat → Int32) : Prop := (sl = .null ∧ rsc 16 = 0) ∨ ∃ P m S, sl = .ref (al P) ∧ PX al n g fz P m S ∧ okS rsc rar m ∧ ∀ k, k < m → rar 3 k = S k
/-- the tape, in both -/
def BX (sc ar : Nat → Nat → Int32) (rsc : Nat → Int32) (rar : Nat → Nat → Int32) : Prop := ∃ B e, tB sc ar B e ∧ rsc 2 = nI e ∧ ∀ j, j < e → rar 0 j = sb (B j)
/-- the numbers, in both -/
def NX2 (sc : Nat → Nat → Int32) (rsc : Nat → Int32) (TT : Nat) : Prop := sc 0 8 = rsc 7 ∧ sc 0 10 = rsc 17 ∧ sc 0 11 = rsc 31 ∧ sc 0 12 = rsc 32 ∧ sc 0 9 = nI TT ∧ rsc 30 = nI TT ∧ TT ≤ 10
/-- what the learners can, in both -/
def LX (ar rar : Nat → Nat → Int32) : Prop := (∀ l, l < 8 → ∀ k, k < 8 → ar (21 + 2 * l) k = rar 18 (8 * l + k)) ∧ ∀ j, j < 64 → ∃ c, c ≤ 64 ∧ rar 18 j = nI c
/-- what lies behind the made tasks in the reference -/
def ZX (rar : Nat → Nat → Int32) (TT : Nat) : Prop := ∀ t, TT ≤ t → t < 10 → rar 11 t = 0 ∧ rar 13 t = 0 ∧ ∀ l, l < 8 → rar 16 (10 * l + t) = 0
def RELd (al : Nat → Nat) (n : Nat) (g : Nat → px_O) (sc ar : Nat → Nat → Int32) (sl : Value) (tf : Nat → Option Nat) (rsc : Nat → Int32) (rar : Nat → Nat → Int32) (TT : Nat) (Tc : Nat → Nat) (fz : Nat → Bool) : Prop :=
  CR al n g sc ar sl tf ∧ RR al n g 36 rsc rar ∧ 59 ≤ n ∧ (∃ fo, g 58 = .inl (3, 1, .inr (.inl fo))) ∧ BX sc ar rsc rar ∧ NX2 sc rsc TT ∧ LX ar rar ∧ SX al n g fz sl rsc rar ∧ (∀ t, t < TT → tf t = some (al (Tc t)) ∧ TX al n g fz rar t (Tc t)) ∧ (∀ t t2, t < TT → t2 < TT → t ≠ t2 → Tc t + 6 ≤ Tc t2 ∨ Tc t2 + 6 ≤ Tc t) ∧ ZX rar TT
def REL (al : Nat → Nat) (n : Nat) (g : Nat → px_O) (c : Int32) : Prop := ∃ sc ar sl tf rsc rar TT Tc fz, RELd al n g sc ar sl tf rsc rar TT Tc fz ∧ rsc 0 = c
theorem PX.fr {al al2 : Nat → Nat} {n n2 : Nat} {g g2 : Nat → px_O} {fz fz2 : Nat → Bool} {P m : Nat} {S : Nat → Int32} (h : PX al n g fz P m S) (hn : n ≤ n2) (ha : ∀ k, k < n → al2 k = al k) (hg : ∀ k, 59 ≤ k → k < n → fz k = true → g2 k = g k) (hz : ∀ k, k < n → fz k = true → fz2 k = true) : PX al2 n2 g2 fz2 P m S := by
  obtain ⟨h1, h2, h3, L, O, A, h4, h5⟩ := h
  have p2 := h4.2.1
  exact ⟨h1, h2, fun k z1 z2 => hz k (by omega) (h3 k z1 z2), L, O, A, h4.fr2 hn ha (fun k z1 z2 => hg k (by omega) (by omega) (h3 k z1 z2)), h5⟩
theorem PX.lt {al : Nat → Nat} {n : Nat} {g : Nat → px_O} {fz : Nat → Bool} {P m : Nat} {S : Nat → Int32} (h : PX al n g fz P m S) : P + 4 ≤ n := by
  obtain ⟨_, _, _, L, O, A, h4, _⟩ := h
  exact h4.2.1
theorem TX.fr {al al2 : Nat → Nat} {n n2 : Nat} {g g2 : Nat → px_O} {fz fz2 : Nat → Bool} {rar : Nat → Nat → Int32} {t T : Nat} (h : TX al n g fz rar t T) (hn : n ≤ n2) (ha : ∀ k, k < n → al2 k = al k) (hg : ∀ k, 59 ≤ k → k < n → fz k = true → g2 k = g k) (hz : ∀ k, k < n → fz k = true → fz2 k = true) (hT : ∀ k, T ≤ k → k < T + 6 → g2 k = g k) (hT2 : ∀ k, k < n → T ≤ k → k < T + 6 → fz2 k = false) : TX al2 n2 g2 fz2 rar t T := by
  obtain ⟨h1, h2, h3, h4, w, y, WA, WB, WR, Y, F, PY, mY, SY, PF, mF, SF, hK, hw, hy, hF⟩ := h
  have p2 := hK.2.1
  refine ⟨h1, fun k z1 z2 => hT2 k (by omega) z1 z2, h3, h4, w, y, WA, WB, WR, Y, F, PY, mY, SY, PF, mF, SF, hK.fr hn ha hT, hw, ⟨hy.1, hy.2.1, fun i hi => ?_⟩, fun l hl => ?_⟩
  · obtain ⟨e1, e2, e3⟩ := hy.2.2 i hi
    have := e2.lt
    exact ⟨by rw [e1, ha _ (by omega)], e2.fr hn ha hg hz, e3⟩
  · rcases hF l hl with ⟨e1, e2⟩ | ⟨e1, e2, e3⟩
    · exact Or.inl ⟨e1, e2⟩
    · have := e2.lt
      exact Or.inr ⟨by rw [e1, ha _ (by omega)], e2.fr hn ha hg hz, e3⟩
theorem SX.fr {al al2 : Nat → Nat} {n n2 : Nat} {g g2 : Nat → px_O} {fz fz2 : Nat → Bool} {sl : Value} {rsc rsc2 : Nat → Int32} {rar rar2 : Nat → Nat → Int32} (h : SX al n g fz sl rsc rar) (hn : n ≤ n2) (ha : ∀ k, k < n → al2 k = al k) (hg : ∀ k, 59 ≤ k → k < n → fz k = true → g2 k = g k) (hz : ∀ k, k < n → fz k = true → fz2 k = true) (h16 : rsc2 16 = rsc 16) (h3 : rar2 3 = rar 3) (h4 : rar2 4 = rar 4) (h5 : rar2 5 = rar 5) : SX al2 n2 g2 fz2 sl rsc2 rar2 := by
  rcases h with ⟨e1, e2⟩ | ⟨P, m, S, e1, e2, e3, e4⟩
  · exact Or.inl ⟨e1, by rw [h16]; exact e2⟩
  · have := e2.lt
    refine Or.inr ⟨P, m, S, by rw [e1, ha _ (by omega)], e2.fr hn ha hg hz, ?_, fun k hk => by rw [h3]; exact e4 k hk⟩
    unfold okS at e3 ⊢
    rw [h16, h3, h4, h5]
    exact e3
/-- only the reference's rows of this task count -/
theorem TX.ra {al : Nat → Nat} {n : Nat} {g : Nat → px_O} {fz : Nat → Bool} {rar rar2 : Nat → Nat → Int32} {t T : Nat} (h : TX al n g fz rar t T) (h9 : rar2 9 t = rar 9 t) (h10 : rar2 10 t = rar 10 t) (h11 : rar2 11 t = rar 11 t) (h12 : ∀ j, 18 * t ≤ j → j < 18 * t + 18 → rar2 12 j = rar 12 j) (h13 : rar2 13 t = rar 13 t) (h14 : ∀ i, i < 10 → rar2 14 (10 * t + i) = rar 14 (10 * t + i)) (h15 : ∀ i, i < 10 → ∀ k, k < 120 → rar2 15 (120 * (10 * t + i) + k) = rar 15 (120 * (10 * t + i) + k)) (h16 : ∀ l, l < 8 → rar2 16 (10 * l + t) = rar 16 (10 * l + t)) (h17 : ∀ l, l < 8 → ∀ k, k < 120 → rar2 17 (120 * (10 * l + t) + k) = rar 17 (120 * (10 * l + t) + k)) : TX al n g fz rar2 t T := by
  obtain ⟨h1, h2, h3, h4, w, y, WA, WB, WR, Y, F, PY, mY, SY, PF, mF, SF, hK, hw, hy, hF⟩ := h
  refine ⟨h1, h2, by rw [h9]; exact h3, by rw [h10]; exact h4, w, y, WA, WB, WR, Y, F, PY, mY, SY, PF, mF, SF, by rw [h9, h10]; exact hK, ⟨hw.1, by rw [h11]; exact hw.2.1, fun i hi => ?_⟩, ⟨hy.1, by rw [h13]; exact hy.2.1, fun i hi => ?_⟩, fun l hl => ?_⟩
  · have := hw.1
    rw [h12 _ (by omega) (by omega), h12 _ (by omega) (by omega), h12 _ (by omega) (by omega)]
    exact hw.2.2 i hi
  · have := hy.1
    obtain ⟨e1, e2, e3, e4⟩ := hy.2.2 i hi
    have hm : mY i ≤ 120 := by
      obtain ⟨_, _, _, L, O, A, _, hO⟩ := e2
      exact hO.1
    exact ⟨e1, e2, by rw [h14 i (by omega)]; exact e3, fun k hk => by rw [h15 i (by omega) k (by omega)]; exact e4 k hk⟩
  · rcases hF l hl with ⟨e1, e2⟩ | ⟨e1, e2, e3, e4⟩
    · exact Or.inl ⟨e1, by rw [h16 l hl]; exact e2⟩
    · have hm : mF l ≤ 120 := by
        obtain ⟨_, _, _, L, O, A, _, hO⟩ := e2
        exact hO.1
      exact Or.inr ⟨e1, e2, by rw [h16 l hl]; exact e3, fun k hk => by rw [h17 l hl k (by omega)]; exact e4 k hk⟩
theorem TX.ra0 {al : Nat → Nat} {n : Nat} {g : Nat → px_O} {fz : Nat → Bool} {rar rar2 : Nat → Nat → Int32} {t T : Nat} (h : TX al n g fz rar t T) (e : ∀ a, 9 ≤ a → a ≤ 17 → rar2 a = rar a) : TX al n g fz rar2 t T := h.ra (by rw [e 9 (by decide) (by decide)]) (by rw [e 10 (by decide) (by decide)]) (by rw [e 11 (by decide) (by decide)]) (fun _ _ _ => by rw [e 12 (by decide) (by decide)]) (by rw [e 13 (by decide) (by decide)]) (fun _ _ => by rw [e 14 (by decide) (by decide)]) (fun _ _ _ _ => by rw [e 15 (by decide) (by decide)]) (fun _ _ => by rw [e 16 (by decide) (by decide)]) (fun _ _ _ _ => by rw [e 17 (by decide) (by decide)])
theorem ZX.ra {rar rar2 : Nat → Nat → Int32} {TT : Nat} (h : ZX rar TT) (h11 : rar2 11 = rar 11) (h13 : rar2 13 = rar 13) (h16 : rar2 16 = rar 16) : ZX rar2 TT := fun t h1 h2 => by
  rw [h11, h13, h16]
  exact h t h1 h2
/-- a step that leaves slate and tasks as they are -/
theorem RELd.step {al : Nat → Nat} {n : Nat} {g g2 : Nat → px_O} {sc ar sc2 ar2 : Nat → Nat → Int32} {sl : Value} {tf : Nat → Option Nat} {rsc rsc2 : Nat → Int32} {rar rar2 : Nat → Nat → Int32} {TT : Nat} {Tc : Nat → Nat} {fz : Nat → Bool} (h : RELd al n g sc ar sl tf rsc rar TT Tc fz) (hg : ∀ k, 59 ≤ k → g2 k = g k) (ho : ∃ fo, g2 58 = .inl (3, 1, .inr (.inl fo))) (hC : CR al n g2 sc2 ar2 sl tf) (hR : RR al n g2 36 rsc2 rar2) (hB : BX sc2 ar2 rsc2 rar2) (hN : NX2 sc2 rsc2 TT) (hL : ∀ l, l < 8 → ar2 (21 + 2 * l) = ar (21 + 2 * l)) (hr : ∀ a, 9 ≤ a → a ≤ 18 → rar2 a = rar a) (h16 : rsc2 16 = rsc 16) (h3 : rar2 3 = rar 3) (h4 : rar2 4 = rar 4) (h5 : rar2 5 = rar 5) : RELd al n g2 sc2 ar2 sl tf rsc2 rar2 TT Tc fz := by
  obtain ⟨_, _, hn, _, _, _, hLX, hS, hT, hD, hZ⟩ := h
  have hP : ∀ {P m : Nat} {S : Nat → Int32}, PX al n g fz P m S → PX al n g2 fz P m S := fun hp => by
    obtain ⟨h1, h2, h3, L, O, A, h4, h5⟩ := hp
    exact ⟨h1, h2, h3, L, O, A, h4.fr2 (Nat.le_refl _) (fun _ _ => rfl) (fun k z1 z2 => hg k (by omega)), h5⟩
  refine ⟨hC, hR, hn, ho, hB, hN, ⟨fun l hl k hk => ?_, fun j hj => ?_⟩, ?_, fun t ht => ⟨(hT t ht).1, ?_⟩, hD, hZ.ra (hr 11 (by decide) (by decide)) (hr 13 (by decide) (by decide)) (hr 16 (by decide) (by decide))⟩
  · rw [hL l hl, hr 18 (by decide) (by decide)]; exact hLX.1 l hl k hk
  · rw [hr 18 (by decide) (by decide)]; exact hLX.2 j hj
  · rcases hS with ⟨e1, e2⟩ | ⟨P, m, S, e1, e2, e3, e4⟩
    · exact Or.inl ⟨e1, by rw [h16]; exact e2⟩
    · refine Or.inr ⟨P, m, S, e1, hP e2, ?_, fun k hk => by rw [h3]; exact e4 k hk⟩
      unfold okS at e3 ⊢
      rw [h16, h3, h4, h5]
      exact e3
  · refine TX.ra0 ?_ (fun a z1 z2 => hr a z1 (by omega))
    obtain ⟨h1, h2, h3, h4, w, y, WA, WB, WR, Y, F, PY, mY, SY, PF, mF, SF, hK, hw, hy, hF⟩ := (hT t ht).2
    refine ⟨h1, h2, h3, h4, w, y, WA, WB, WR, Y, F, PY, mY, SY, PF, mF, SF, hK.fr (Nat.le_refl _) (fun _ _ => rfl) (fun k z1 z2 => hg k (by omega)), hw, ⟨hy.1, hy.2.1, fun i hi => ?_⟩, fun l hl => ?_⟩
    · obtain ⟨e1, e2, e3⟩ := hy.2.2 i hi
      exact ⟨e1, hP e2, e3⟩
    · rcases hF l hl with e | ⟨e1, e2, e3⟩
      · exact Or.inl e
      · exact Or.inr ⟨e1, hP e2, e3⟩
/-- what the class's method, then the reference's, must come to -/
def QJ (fx : px_F) (al : Nat → Nat) (n : Nat) (g : Nat → px_O) (kr : Nat) (as : List Value) (cd : String → Int32) : px_Q := fun o al1 n1 g1 => n ≤ n1 ∧ (∀ j, j < n → al1 j = al j) ∧ g1 58 = g 58 ∧ g1 36 = g 36 ∧ ∃ w c : Int32, ((o = .inl (some (.int w)) ∧ c = 0) ∨ ∃ E, o = .inr E ∧ c = cd E ∧ ¬ c = 0) ∧ ∀ g2, (∀ k, k ≠ 58 → g2 k = g1 k) → (∃ fo, g2 58 = .inl (3, 1, .inr (.inl fo))) → pm px_tb fx 1733 kr (.ref (al1 36) :: as) al1 n1 g2 (fun o3 al3 n3 g3 => al3 = al1 ∧ n3 = n1 ∧ g3 58 = g2 58 ∧ ∃ b : Int32, o3 = .inl (some (.int b)) ∧ (c = 0 → b = w) ∧ REL al3 n3 g3 c)
theorem RR.o {al : Nat → Nat} {n : Nat} {g g2 : Nat → px_O} {rsc : Nat → Int32} {rar : Nat → Nat → Int32} (h : RR al n g 36 rsc rar) (hg : ∀ k, 36 ≤ k → k < 58 → g2 k = g k) : RR al n g2 36 rsc rar := ⟨h.1, by rw [hg 36 (by decide) (by decide)]; exact h.2.1, fun a ha => by rw [hg _ (by omega) (by omega)]; exact h.2.2 a ha⟩
/-- a call that leaves slate and tasks as they are: the class answers v, or throws; then the reference -/
theorem op_v {fx : px_F} {al : Nat → Nat} {n : Nat} {g : Nat → px_O} {sc ar sc2 ar2 : Nat → Nat → Int32} {sl : Value} {tf : Nat → Option Nat} {rsc : Nat → Int32} {rar : Nat → Nat → Int32} {TT : Nat} {Tc : Nat → Nat} {fz : Nat → Bool} {kr : Nat} {as : List Value} {cd : String → Int32} {o : px_R} {c : Int32} {d : Nat} {post : Option Value → (Nat → Int32) → (Nat → Nat → Int32) → Prop} (h : RELd al n g sc ar sl tf rsc rar TT Tc fz) (w : Int32) (ho : (o = .inl (some (.int w)) ∧ c = 0) ∨ ∃ E, o = .inr E ∧ c = cd E ∧ ¬ c = 0) (hd : d ≤ 1733) (hP : RP d kr as rsc rar post) (hL : ∀ l, l < 8 → ar2 (21 + 2 * l) = ar (21 + 2 * l))
    (hk : ∀ res rsc2 rar2, post res rsc2 rar2 → (∃ b : Int32, res = some (.int b) ∧ (c = 0 → b = w)) ∧ rsc2 0 = c ∧ BX sc2 ar2 rsc2 rar2 ∧ NX2 sc2 rsc2 TT ∧ (∀ a, 9 ≤ a → a ≤ 18 → rar2 a = rar a) ∧ rsc2 16 = rsc 16 ∧ rar2 3 = rar 3 ∧ rar2 4 = rar 4 ∧ rar2 5 = rar 5) : kq (QJ fx al n g kr as cd) o al n g sc2 ar2 sl tf := by
  intro g1 hC1 hF1
  have h0 := h
  obtain ⟨_, hRR, hn, ⟨fo, hfo⟩, _⟩ := h
  refine ⟨Nat.le_refl _, fun _ _ => rfl, hF1 58 (by decide), hF1 36 (by decide), w, c, ho, fun g2 hg2 ho2 => ?_⟩
  have hRR2 : RR al n g2 36 rsc rar := hRR.o (fun k z1 z2 => (hg2 k (by omega)).trans (hF1 k z1))
  have := hP fx al n g2 36 (fun o3 al3 n3 g3 => al3 = al ∧ n3 = n ∧ g3 58 = g2 58 ∧ ∃ b : Int32, o3 = .inl (some (.int b)) ∧ (c = 0 → b = w) ∧ REL al3 n3 g3 c) hRR2 (fun res rsc2 rar2 g3 hp hR3 hF3 => ?_)
  · have h9 := pm_le this (1733 - d)
    rwa [Nat.add_sub_cancel' hd] at h9
  · obtain ⟨⟨b, e1, e2⟩, e3, e4, e5, e6, e7, e8, e9, e10⟩ := hk res rsc2 rar2 hp
    refine ⟨rfl, rfl, hF3 58 (Or.inr (by decide)), b, by rw [e1], e2, sc2, ar2, sl, tf, rsc2, rar2, TT, Tc, fz, ?_, e3⟩
    refine h0.step (fun k hk => ?_) ?_ ?_ hR3 e4 e5 hL e6 e7 e8 e9 e10
    · rw [hF3 k (Or.inr (by omega)), hg2 k (by omega), hF1 k (by omega)]
    · obtain ⟨f2, e⟩ := ho2
      exact ⟨f2, by rw [hF3 58 (Or.inr (by decide))]; exact e⟩
    · exact hC1.al (fun _ _ => rfl) (fun k hk => by rw [hF3 k (Or.inl (by omega)), hg2 k (by omega)]) (by omega)
theorem RC.rp {d k : Nat} {as : List Value} {sc : Nat → Int32} {ar : Nat → Nat → Int32} {res : Option Value} {sc2 : Nat → Int32} {ar2 : Nat → Nat → Int32} (h : RC d k as sc ar res sc2 ar2) : RP d k as sc ar (fun r s a => r = res ∧ s = sc2 ∧ a = ar2) := fun fx al n g r Q hR hQ => h fx al n g r Q hR (fun g2 z1 z2 => hQ res sc2 ar2 g2 ⟨rfl, rfl, rfl⟩ z1 z2)
