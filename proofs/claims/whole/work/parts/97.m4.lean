theorem RR.nw {al al2 : Nat → Nat} {n n2 : Nat} {g g3 : Nat → px_O} {rsc : Nat → Int32} {rar : Nat → Nat → Int32} (h : RR al n g 36 rsc rar) (hn : 59 ≤ n) (hn2 : n ≤ n2) (ha : ∀ k, k < n → al2 k = al k) (hg : ∀ k, 36 ≤ k → k < 58 → g3 k = g k) : RR al2 n2 g3 36 rsc rar := by
  refine ⟨by omega, ?_, fun a ha9 => by rw [hg _ (by omega) (by omega)]; exact h.2.2 a ha9⟩
  rw [hg 36 (by decide) (by decide), h.2.1]
  congr 2
  funext k
  unfold rf_F
  split
  · rename_i a hk
    rw [ha _ (by have := rf_a_lt hk; omega)]
  · rfl
theorem in256p {a : Nat} (h : a < 256) : 0 ≤ nI a ∧ nI a < 256 := ⟨Int32.not_lt.mp (nI_pos (by omega)), nI_lt (b := 256) h (by decide)⟩
theorem in255p {a : Nat} (h : a < 256) : 0 ≤ nI a ∧ nI a ≤ 255 := ⟨Int32.not_lt.mp (nI_pos (by omega)), nI_le (b := 255) (by omega) (by decide)⟩
set_option maxHeartbeats 4000000 in
set_option maxRecDepth 20000 in
theorem op_task {fx : px_F} {al : Nat → Nat} {n : Nat} {g : Nat → px_O} {c0 : Int32} (h : REL al n g c0) (a b : Int32) : pm px_tb fx 1733 67 (.ref (al 0) :: [.int a, .int b]) al n g (QJ fx al n g 130 [.int a, .int b] (fun E => if E = "java/lang/IllegalArgumentException" then 1 else if E = "java/lang/UnsupportedOperationException" then 2 else 0)) := by
  obtain ⟨sc, ar, sl, tf, rsc, rar, TT, Tc, fz, h, _⟩ := h
  obtain ⟨hCR, hRR, hn, ho, ⟨B, e, b1, b2, b3⟩, ⟨n1, n2, n3, n4, n5, n6, n7⟩, hLX, hS, hT, hDj, hZ⟩ := id h
  rcases in256 a with ⟨a, ha, rfl⟩ | ⟨z1, z2⟩
  · rcases in256 b with ⟨b, hb, rfl⟩ | ⟨z1, z2⟩
    · by_cases h10 : TT < 10
      · refine op_go (d := 2) h (by decide) (kp_task_ok (d := 0) (in256p ha) (in256p hb) n5 h10 (by omega) (fun al2 g2 hal hK2 hg2 => ?_))
        intro g1 hC1 hF1
        refine ⟨by omega, hal, by rw [hF1 58 (by decide), hg2 58 (by omega)], by rw [hF1 36 (by decide), hg2 36 (by omega)], nI TT, 0, Or.inl ⟨rfl, rfl⟩, fun g3 hg3 ho3 => ?_⟩
        have hE : ∀ k, 36 ≤ k → k < n → k ≠ 58 → g3 k = g k := fun k z1 z2 z3 => by rw [hg3 k z3, hF1 k z1, hg2 k z2]
        have hRR3 : RR al2 (n + 6) g3 36 rsc rar := hRR.nw hn (by omega) hal (fun k z1 z2 => hE k z1 (by omega) (by omega))
        have := rc_task_ok 0 rsc rar n6 h10 ha hb fx al2 (n + 6) g3 36 (fun o3 al3 n3 g4 => al3 = al2 ∧ n3 = n + 6 ∧ g4 58 = g3 58 ∧ ∃ b : Int32, o3 = .inl (some (.int b)) ∧ ((0 : Int32) = 0 → b = nI TT) ∧ REL al3 n3 g4 0) hRR3 (fun g4 hR4 hF4 => ?_)
        · exact pm_le this 1731
        · have hD4 : ∀ k, 59 ≤ k → k < n → g4 k = g k := fun k z1 z2 => by rw [hF4 k (Or.inr (by omega)), hE k (by omega) z2 (by omega)]
          have hN4 : ∀ k, n ≤ k → g4 k = g2 k := fun k z1 => by rw [hF4 k (Or.inr (by omega)), hg3 k (by omega), hF1 k (by omega)]
          refine ⟨rfl, rfl, hF4 58 (Or.inr (by decide)), _, rfl, fun _ => rfl, up2 sc 0 9 (nI (TT + 1)), ar, sl, va_up tf TT (some (al2 n)), _, _, TT + 1, fun t => if t = TT then n else Tc t, fun k => if k < n then fz k else false, ⟨hC1.al (fun _ _ => rfl) (fun k hk => by rw [hF4 k (Or.inl (by omega)), hg3 k (by omega)]) (by omega), hR4, by omega, ?_, ⟨B, e, b1, b2, b3⟩, ⟨n1, n2, n3, n4, rfl, rfl, by omega⟩, hLX, ?_, fun t ht => ?_, fun t t2 ht ht2 hne => ?_, fun t z1 z2 => hZ t (by omega) z2⟩, rfl⟩
          · obtain ⟨fo, e9⟩ := ho3
            exact ⟨fo, by rw [hF4 58 (Or.inr (by decide))]; exact e9⟩
          · exact hS.fr (by omega) hal (fun k z0 z1 _ => hD4 k z0 z1) (fun k z1 z2 => by rw [if_pos z1]; exact z2) rfl rfl rfl rfl
          · by_cases et : t = TT
            · subst et
              obtain ⟨y11, y13, y16⟩ := hZ t (Nat.le_refl _) h10
              refine ⟨by show va_up tf t (some (al2 n)) t = some (al2 (if t = t then n else Tc t)); rw [if_pos rfl, va_up_self], ?_⟩
              show TX _ _ _ _ _ t (if t = t then n else Tc t)
              rw [if_pos rfl]
              refine ⟨hn, fun k z1 z2 => by show (if k < n then fz k else false) = false; rw [if_neg (by omega)], ⟨a, ha, pk_us⟩, ⟨b, hb, pk_us⟩, 0, 0, fun _ => 0, fun _ => 0, fun _ => 0, fun _ => none, fun _ => none, fun _ => 0, fun _ => 0, fun _ _ => 0, fun _ => 0, fun _ => 0, fun _ _ => 0, ?_, ⟨by decide, y11, fun i hi => by omega⟩, ⟨by decide, y13, fun i hi => by omega⟩, fun l hl => Or.inl ⟨rfl, y16 l hl⟩⟩
              show TK al2 (n + 6) g4 n (upd (rar 9) t (nI a) t) (upd (rar 10) t (nI b) t) 0 0 _ _ _ _ _
              rw [pk_us, pk_us]
              exact hK2.fr (Nat.le_refl _) (fun _ _ => rfl) (fun k z1 z2 => hN4 k z1)
            · obtain ⟨t1, t2⟩ := hT t (by omega)
              have hlt : Tc t + 6 ≤ n := by
                obtain ⟨_, _, _, _, w, y, WA, WB, WR, Y, F, PY, mY, SY, PF, mF, SF, hK, _⟩ := t2
                exact hK.2.1
              have h59 := t2.1
              refine ⟨by show va_up tf TT (some (al2 n)) t = some (al2 (if t = TT then n else Tc t)); rw [va_up_ne _ _ et, if_neg et, t1, hal _ (by omega)], ?_⟩
              show TX _ _ _ _ _ t (if t = TT then n else Tc t)
              rw [if_neg et]
              refine TX.ra (t2.fr (by omega) hal (fun k z0 z1 _ => hD4 k z0 z1) (fun k z1 z2 => by rw [if_pos z1]; exact z2) (fun k z1 z2 => hD4 k (by omega) (by omega)) (fun k z0 z1 z2 => by rw [if_pos z0]; exact t2.2.1 k z1 z2)) ?_ ?_ rfl (fun _ _ _ => rfl) rfl (fun _ _ => rfl) (fun _ _ _ _ => rfl) (fun _ _ => rfl) (fun _ _ _ _ => rfl)
              · show upd (rar 9) TT (nI a) t = rar 9 t
                rw [pk_un et]
              · show upd (rar 10) TT (nI b) t = rar 10 t
                rw [pk_un et]
          · have hl : ∀ t, t < TT → Tc t + 6 ≤ n := fun t ht => by
              obtain ⟨_, _, _, _, w, y, WA, WB, WR, Y, F, PY, mY, SY, PF, mF, SF, hK, _⟩ := (hT t ht).2
              exact hK.2.1
            show (if t = TT then n else Tc t) + 6 ≤ (if t2 = TT then n else Tc t2) ∨ (if t2 = TT then n else Tc t2) + 6 ≤ (if t = TT then n else Tc t)
            by_cases c1 : t = TT
            · rw [if_pos c1, if_neg (by omega)]; exact Or.inr (hl t2 (by omega))
            · rw [if_neg c1]
              by_cases c2 : t2 = TT
              · rw [if_pos c2]; exact Or.inl (hl t (by omega))
              · rw [if_neg c2]; exact hDj t t2 (by omega) (by omega) hne
      · have eT : TT = 10 := by omega
        subst eT
        refine op_go (d := 2) h (by decide) (kp_task_full (d := 0) (in256p ha) (in256p hb) n5 ?_)
        exact op_c h 0 (Or.inr ⟨_, rfl, rfl, by decide⟩) (d := 2) (by decide) (rc_task_full 0 rsc rar n6 (in255p ha) (in255p hb)) (fun z => absurd z (by decide)) (u00 rsc 2) rfl
    · refine op_go (d := 2) h (by decide) (kp_task_bad2 (d := 0) (in256p ha) z1 ?_)
      exact op_c h 0 (Or.inr ⟨_, rfl, rfl, by decide⟩) (d := 2) (by decide) (rc_task_bad2 0 rsc rar (in255p ha) z2) (fun z => absurd z (by decide)) (u00 rsc 1) rfl
  · refine op_go (d := 2) h (by decide) (kp_task_bad1 (d := 0) b z1 ?_)
    exact op_c h 0 (Or.inr ⟨_, rfl, rfl, by decide⟩) (d := 2) (by decide) (rc_task_bad1 0 rsc rar b z2) (fun z => absurd z (by decide)) (u00 rsc 1) rfl
/-- the reference's rows of a task are the same -/
def AG (rar rar2 : Nat → Nat → Int32) (t : Nat) : Prop := rar2 9 t = rar 9 t ∧ rar2 10 t = rar 10 t ∧ rar2 11 t = rar 11 t ∧ (∀ j, 18 * t ≤ j → j < 18 * t + 18 → rar2 12 j = rar 12 j) ∧ rar2 13 t = rar 13 t ∧ (∀ i, i < 10 → rar2 14 (10 * t + i) = rar 14 (10 * t + i)) ∧ (∀ i, i < 10 → ∀ k, k < 120 → rar2 15 (120 * (10 * t + i) + k) = rar 15 (120 * (10 * t + i) + k)) ∧ (∀ l, l < 8 → rar2 16 (10 * l + t) = rar 16 (10 * l + t)) ∧ ∀ l, l < 8 → ∀ k, k < 120 → rar2 17 (120 * (10 * l + t) + k) = rar 17 (120 * (10 * l + t) + k)
/-- a call that changes one task -/
theorem op_t {fx : px_F} {al : Nat → Nat} {n : Nat} {g : Nat → px_O} {sc ar : Nat → Nat → Int32} {sl : Value} {tf : Nat → Option Nat} {rsc : Nat → Int32} {rar : Nat → Nat → Int32} {TT : Nat} {Tc : Nat → Nat} {fz : Nat → Bool} {kr : Nat} {as : List Value} {cd : String → Int32} {d t : Nat} {sc2 ar2 : Nat → Nat → Int32} {g2 : Nat → px_O} {post : Option Value → (Nat → Int32) → (Nat → Nat → Int32) → Prop} (h : RELd al n g sc ar sl tf rsc rar TT Tc fz) (ht : t < TT) (w : Int32) (hg2 : ∀ k, (k < Tc t ∨ Tc t + 6 ≤ k) → g2 k = g k) (hd : d ≤ 1733) (hP : RP d kr as rsc rar post)
    (hk : ∀ res rsc2 rar2, post res rsc2 rar2 → res = some (.int w) ∧ rsc2 0 = 0 ∧ BX sc2 ar2 rsc2 rar2 ∧ NX2 sc2 rsc2 TT ∧ LX ar2 rar2 ∧ (rsc2 16 = rsc 16 ∧ rar2 3 = rar 3 ∧ rar2 4 = rar 4 ∧ rar2 5 = rar 5) ∧ (∀ t2, t2 < 10 → t2 ≠ t → AG rar rar2 t2) ∧ TX al n g2 fz rar2 t (Tc t)) : kq (QJ fx al n g kr as cd) (.inl (some (.int w))) al n g2 sc2 ar2 sl tf := by
  intro g1 hC1 hF1
  obtain ⟨_, hRR, hn, ⟨fo, hfo⟩, _, hNX, _, hS, hT, hDj, hZ⟩ := id h
  have n7 := hNX.2.2.2.2.2.2
  have hT1 := (hT t ht).2
  have h59 := hT1.1
  have hfz := hT1.2.1
  refine ⟨Nat.le_refl _, fun _ _ => rfl, by rw [hF1 58 (by decide), hg2 58 (by omega)], by rw [hF1 36 (by decide), hg2 36 (by omega)], w, 0, Or.inl ⟨rfl, rfl⟩, fun g3 hg3 ho3 => ?_⟩
  have hRR3 : RR al n g3 36 rsc rar := hRR.o (fun k z1 z2 => by rw [hg3 k (by omega), hF1 k z1, hg2 k (by omega)])
  have := hP fx al n g3 36 (fun o3 al3 n3 g4 => al3 = al ∧ n3 = n ∧ g4 58 = g3 58 ∧ ∃ b : Int32, o3 = .inl (some (.int b)) ∧ ((0 : Int32) = 0 → b = w) ∧ REL al3 n3 g4 0) hRR3 (fun res rsc2 rar2 g4 hp hR4 hF4 => ?_)
  · have h9 := pm_le this (1733 - d)
    rwa [Nat.add_sub_cancel' hd] at h9
  · obtain ⟨rfl, e0, eB, eN, eL, ⟨e16, e3, e4, e5⟩, eA, eT⟩ := hk res rsc2 rar2 hp
    have hG : ∀ k, 59 ≤ k → g4 k = g2 k := fun k z => by rw [hF4 k (Or.inr (by omega)), hg3 k (by omega), hF1 k (by omega)]
    have hfr : ∀ k, 59 ≤ k → k < n → fz k = true → g4 k = g k := fun k z0 z1 z2 => by
      rw [hG k z0]
      by_cases c : k < Tc t ∨ Tc t + 6 ≤ k
      · exact hg2 k c
      · rw [hfz k (by omega) (by omega)] at z2; cases z2
    refine ⟨rfl, rfl, hF4 58 (Or.inr (by decide)), _, rfl, fun _ => rfl, sc2, ar2, sl, tf, rsc2, rar2, TT, Tc, fz, ⟨hC1.al (fun _ _ => rfl) (fun k hk => by rw [hF4 k (Or.inl (by omega)), hg3 k (by omega)]) (by omega), hR4, hn, ?_, eB, eN, eL, ?_, fun t2 ht2 => ⟨(hT t2 ht2).1, ?_⟩, hDj, fun t2 z1 z2 => ?_⟩, e0⟩
    · obtain ⟨f3, e9⟩ := ho3
      exact ⟨f3, by rw [hF4 58 (Or.inr (by decide))]; exact e9⟩
    · exact hS.fr (Nat.le_refl _) (fun _ _ => rfl) hfr (fun _ _ z => z) e16 e3 e4 e5
    · by_cases et : t2 = t
      · subst et
        exact eT.fr (Nat.le_refl _) (fun _ _ => rfl) (fun k z0 _ _ => hG k z0) (fun _ _ z => z) (fun k z1 _ => hG k (by omega)) (fun k _ z1 z2 => hfz k z1 z2)
      · have h2 := (hT t2 ht2).2
        have hd9 := hDj t t2 ht ht2 (fun z => et z.symm)
        have h592 := h2.1
        obtain ⟨a1, a2, a3, a4, a5, a6, a7, a8, a9⟩ := eA t2 (by omega) et
        exact (h2.fr (Nat.le_refl _) (fun _ _ => rfl) hfr (fun _ _ z => z) (fun k z1 z2 => by rw [hG k (by omega), hg2 k (by omega)]) (fun k _ z1 z2 => h2.2.1 k z1 z2)).ra a1 a2 a3 a4 a5 a6 a7 a8 a9
    · obtain ⟨a1, a2, a3, a4, a5, a6, a7, a8, a9⟩ := eA t2 z2 (by omega)
      rw [a3, a5]
      obtain ⟨q1, q2, q3⟩ := hZ t2 z1 z2
      exact ⟨q1, q2, fun l hl => by rw [a8 l hl]; exact q3 l hl⟩
set_option maxHeartbeats 4000000 in
set_option maxRecDepth 20000 in
theorem op_world {fx : px_F} {al : Nat → Nat} {n : Nat} {g : Nat → px_O} {c0 : Int32} (h : REL al n g c0) (t a b r : Int32) : pm px_tb fx 1733 68 (.ref (al 0) :: [.int t, .int a, .int b, .int r]) al n g (QJ fx al n g 131 [.int t, .int a, .int b, .int r] (fun E => if E = "java/lang/IndexOutOfBoundsException" then 1 else 0)) := by
  obtain ⟨sc, ar, sl, tf, rsc, rar, TT, Tc, fz, h, _⟩ := h
  obtain ⟨hCR, hRR, hn, ho, ⟨B, e, b1, b2, b3⟩, ⟨n1, n2, n3, n4, n5, n6, n7⟩, hLX, hS, hT, hDj, hZ⟩ := id h
  rcases idx_case (N := TT) (by omega) t with ⟨t, ht, rfl⟩ | ⟨z1, z2⟩
  · obtain ⟨x1, x2, x3, x4, w, y, WA, WB, WR, Y, F, PY, mY, SY, PF, mF, SF, hK, hw, hy, hF⟩ := id (hT t ht).2
    by_cases hw6 : w < 6
    · refine op_go (d := 2) h (by decide) (kp_world_ok (d := 0) n5 n7 ht (hT t ht).1 hK hw6 a b r (fun g2 hK2 hg2 => ?_))
      refine op_t h ht (nI w) hg2 (d := 3) (by decide) (rc_world_ok 0 rsc rar n6 n7 a b r ht hw.2.1 hw6).rp (fun res rsc2 rar2 hp => ?_)
      obtain ⟨rfl, rfl, rfl⟩ := hp
      refine ⟨rfl, rfl, ⟨B, e, b1, b2, b3⟩, ⟨n1, n2, n3, n4, n5, n6, n7⟩, hLX, ⟨rfl, rfl, rfl, rfl⟩, fun t2 z1 z2 => ⟨rfl, rfl, ?_, fun j j1 j2 => ?_, rfl, fun _ _ => rfl, fun _ _ _ _ => rfl, fun _ _ => rfl, fun _ _ _ _ => rfl⟩, ?_⟩
      · show upd (rar 11) t (nI (w + 1)) t2 = rar 11 t2
        rw [pk_un z2]
      · show upd (upd (upd (rar 12) (3 * (6 * t + w)) a) (3 * (6 * t + w) + 1) b) (3 * (6 * t + w) + 2) r j = rar 12 j
        rw [pk_un (by omega), pk_un (by omega), pk_un (by omega)]
      · refine ⟨x1, x2, x3, x4, w + 1, y, _, _, _, Y, F, PY, mY, SY, PF, mF, SF, hK2, ⟨by omega, pk_us, fun i hi => ?_⟩, ⟨hy.1, hy.2.1, fun i hi => ?_⟩, fun l hl => ?_⟩
        · show upd (upd (upd (rar 12) (3 * (6 * t + w)) a) (3 * (6 * t + w) + 1) b) (3 * (6 * t + w) + 2) r (3 * (6 * t + i)) = upd WA w a i ∧ upd (upd (upd (rar 12) (3 * (6 * t + w)) a) (3 * (6 * t + w) + 1) b) (3 * (6 * t + w) + 2) r (3 * (6 * t + i) + 1) = upd WB w b i ∧ upd (upd (upd (rar 12) (3 * (6 * t + w)) a) (3 * (6 * t + w) + 1) b) (3 * (6 * t + w) + 2) r (3 * (6 * t + i) + 2) = upd WR w r i
          by_cases ei : i = w
          · subst ei
            rw [pk_un (by omega), pk_un (by omega), pk_us, pk_us, pk_un (by omega), pk_us, pk_us, pk_us, pk_us]
            exact ⟨rfl, rfl, rfl⟩
          · rw [pk_un (by omega), pk_un (by omega), pk_un (by omega), pk_un ei, pk_un (by omega), pk_un (by omega), pk_un (by omega), pk_un ei, pk_un (by omega), pk_un (by omega), pk_un (by omega), pk_un ei]
            exact hw.2.2 i (by omega)
        · obtain ⟨e1, e2, e3, e4⟩ := hy.2.2 i hi
          refine ⟨e1, e2.fr (Nat.le_refl _) (fun _ _ => rfl) (fun k _ _ z2 => hg2 k ?_) (fun _ _ z => z), e3, e4⟩
          by_cases c : k < Tc t ∨ Tc t + 6 ≤ k
          · exact c
          · rw [x2 k (by omega) (by omega)] at z2; cases z2
        · rcases hF l hl with e | ⟨e1, e2, e3⟩
          · exact Or.inl e
          · refine Or.inr ⟨e1, e2.fr (Nat.le_refl _) (fun _ _ => rfl) (fun k _ _ z2 => hg2 k ?_) (fun _ _ z => z), e3⟩
            by_cases c : k < Tc t ∨ Tc t + 6 ≤ k
            · exact c
            · rw [x2 k (by omega) (by omega)] at z2; cases z2
    · have ew : w = 6 := by have := hw.1; omega
      refine op_go (d := 2) h (by decide) (kp_world_full (d := 0) n5 n7 ht (hT t ht).1 hK ew a b r ?_)
      exact op_c h (-1) (Or.inl ⟨rfl, rfl⟩) (d := 3) (by decide) (rc_world_full 0 rsc rar n6 n7 a b r ht (by rw [hw.2.1, ew]; rfl)) (fun _ => rfl) (u0 rsc) rfl
  · rw [← n5] at z1
    rw [← n6] at z2
    refine op_go (d := 2) h (by decide) (kp_world_bad (d := 0) a b r z1 ?_)
    exact op_c h 0 (Or.inr ⟨_, rfl, rfl, by decide⟩) (d := 3) (by decide) (rc_world_bad 0 rsc rar a b r z2) (fun z => absurd z (by decide)) (u00 rsc 1) rfl
