theorem rGain_nat {f : Nat → Int32} {sh : Int32} {l : Nat} (h : ∀ k, k < 8 → ∃ c, c ≤ 64 ∧ f (8 * l + k) = nI c) : ∀ k, k ≤ 8 → ∃ v, v ≤ 64 * k ∧ rGain sh f l k = nI v
  | 0, _ => ⟨0, Nat.le_refl _, rfl⟩
  | k + 1, hk => by
    obtain ⟨v, hv, e⟩ := rGain_nat (sh := sh) h k (by omega)
    obtain ⟨c, hc, ec⟩ := h k (by omega)
    rw [rGain, e, ec]
    by_cases z : (sh >>> (nI k &&& 31)) &&& 1 = 1
    · rw [if_pos z, show (64 : Int32) = nI 64 from rfl, pk_sub hc, nI_add]
      exact ⟨v + (64 - c), by omega, rfl⟩
    · rw [if_neg z, Int32.add_zero]
      exact ⟨v, by omega, rfl⟩
theorem cNx_rNx {rar : Nat → Nat → Int32} {ab : Int32} {l TT : Nat} {sk : Nat → Bool} {gn : Nat → Int32} (hTT : TT ≤ 10) (hs : ∀ t, t < TT → (sk t = true ↔ rSkip rar ab l t)) (hg : ∀ t, t < TT → gn t = rGain (rar 10 t) (rar 18) l 8 ∧ ∃ v, v ≤ 1000 ∧ gn t = nI v) : ∀ t, t ≤ TT → (cNx sk gn t).1 = (rNx rar ab l t).1 ∧ (((rNx rar ab l t).1 = -1 ∧ (cNx sk gn t).2 = -1) ∨ (0 ≤ (rNx rar ab l t).1 ∧ (cNx sk gn t).2 = (rNx rar ab l t).2))
  | 0, _ => ⟨rfl, Or.inl ⟨rfl, rfl⟩⟩
  | t + 1, ht => by
    obtain ⟨i1, i2⟩ := cNx_rNx hTT hs hg t (by omega)
    obtain ⟨g1, v, hv, g2⟩ := hg t (by omega)
    rw [cNx]
    by_cases c : sk t = true
    · rw [if_neg (fun z => by rw [c] at z; exact absurd z.1 (by decide)), rNx_old (Or.inl ((hs t (by omega)).mp c))]
      exact ⟨i1, i2⟩
    · have c2 : ¬ rSkip rar ab l t := fun z => c ((hs t (by omega)).mpr z)
      have c3 : sk t = false := by cases z : sk t with
        | false => rfl
        | true => exact absurd z c
      rcases i2 with ⟨j1, j2⟩ | ⟨j1, j2⟩
      · rw [if_pos ⟨c3, by rw [j2, g2]; exact Int32.lt_of_lt_of_le (show (-1 : Int32) < 0 by decide) (Int32.not_lt.mp (nI_pos (by omega)))⟩, rNx_new (fun z => z.elim c2 (fun z => by rw [j1] at z; exact absurd z.1 (by decide)))]
        exact ⟨rfl, Or.inr ⟨Int32.not_lt.mp (nI_pos (by omega)), g1⟩⟩
      · by_cases c4 : (rNx rar ab l t).2 < gn t
        · rw [if_pos ⟨c3, by rw [j2]; exact c4⟩, rNx_new (fun z => z.elim c2 (fun z => Int32.not_le.mpr c4 (by rw [g1]; exact z.2)))]
          exact ⟨rfl, Or.inr ⟨Int32.not_lt.mp (nI_pos (by omega)), g1⟩⟩
        · rw [if_neg (fun z => c4 (by rw [← j2]; exact z.2)), rNx_old (Or.inr ⟨j1, by rw [← g1]; exact Int32.not_lt.mp c4⟩)]
          exact ⟨i1, Or.inr ⟨j1, j2⟩⟩
set_option maxHeartbeats 4000000 in
set_option maxRecDepth 20000 in
theorem op_next {fx : px_F} {al : Nat → Nat} {n : Nat} {g : Nat → px_O} {c0 : Int32} (h : REL al n g c0) (l : Int32) : pm px_tb fx 1733 72 (.ref (al 0) :: [.int l]) al n g (QJ fx al n g 139 [.int l] (fun E => if E = "java/lang/IndexOutOfBoundsException" then 1 else 0)) := by
  obtain ⟨sc, ar, sl, tf, rsc, rar, TT, Tc, fz, h, _⟩ := h
  obtain ⟨hCR, hRR, hn, ho, ⟨B, e, b1, b2, b3⟩, ⟨n1, n2, n3, n4, n5, n6, n7⟩, hLX, hS, hT, hDj, hZ⟩ := id h
  rcases in8 l with ⟨l, hl, rfl⟩ | ⟨z1, z2⟩
  · have hW : ∀ t, t < TT → ∃ w, w ≤ 6 ∧ rar 11 t = nI w ∧ (rar 11 t).toNatClampNeg = w := fun t ht => by
      obtain ⟨x1, x2, x3, x4, w, y, WA, WB, WR, Y, F, PY, mY, SY, PF, mF, SF, hK, hw, hy, hF⟩ := id (hT t ht).2
      exact ⟨w, hw.1, hw.2.1, by rw [hw.2.1, nI_clamp (by omega)]⟩
    have hD : TQ2 al n g tf TT Tc (fun t => (rar 11 t).toNatClampNeg) (rar 9) (rar 10) l (fun t => decide (0 < rar 16 (10 * l + t))) := fun t ht => by
      obtain ⟨v, v1, v2, v3⟩ := hW t ht
      obtain ⟨x1, x2, x3, x4, w, y, WA, WB, WR, Y, F, PY, mY, SY, PF, mF, SF, hK, hw, hy, hF⟩ := id (hT t ht).2
      refine ⟨(hT t ht).1, by show (rar 11 t).toNatClampNeg ≤ 6; omega, y, WA, WB, WR, Y, F, ?_, (hF l hl).is⟩
      show TK al n g (Tc t) (rar 9 t) (rar 10 t) ((rar 11 t).toNatClampNeg) y WA WB WR Y F
      rw [hw.2.1, nI_clamp (by omega)]
      exact hK
    have hc : ∀ k, k < 8 → ar (21 + 2 * l) k = rar 18 (8 * l + k) := hLX.1 l hl
    have hab := rCans_cg 8 (Nat.le_refl _) hc
    have key := cNx_rNx (rar := rar) (ab := rCans (rar 18) l 8) (l := l) (sk := skp (fun t => (rar 11 t).toNatClampNeg) (fun t => decide (0 < rar 16 (10 * l + t))) (rar 9) (rCans (ar (21 + 2 * l)) 0 8)) (gn := fun t => rGain (rar 10 t) (ar (21 + 2 * l)) 0 8) n7 (fun t ht => ?_) (fun t ht => ?_) TT (Nat.le_refl _)
    · refine op_go (d := 2) h (by decide) (kp_next_ok (d := 0) n5 n7 hl hD ?_)
      exact op_c h _ (Or.inl ⟨rfl, rfl⟩) (d := 3) (by decide) (rc_next_ok 0 rsc rar n6 n7 hl) (fun _ => key.1.symm) (u0 rsc) rfl
    · obtain ⟨v, v1, v2, v3⟩ := hW t ht
      unfold rSkip skp
      rw [← hab]
      show (decide ((rar 11 t).toNatClampNeg = 0) || decide (0 < rar 16 (10 * l + t)) || !decide (rar 9 t &&& (rCans (ar (21 + 2 * l)) 0 8 ^^^ -1) = 0)) = true ↔ _
      rw [Bool.or_eq_true, Bool.or_eq_true, decide_eq_true_iff, decide_eq_true_iff, Bool.not_eq_true', decide_eq_false_iff_not, v3, v2, show (0 : Int32) = nI 0 from rfl, nI_eq (by omega) (by decide), or_assoc]
    · refine ⟨rGain_cg 8 (Nat.le_refl _) hc, ?_⟩
      show ∃ v, v ≤ 1000 ∧ rGain (rar 10 t) (ar (21 + 2 * l)) 0 8 = nI v
      rw [rGain_cg 8 (Nat.le_refl _) hc]
      obtain ⟨v, v1, v2⟩ := rGain_nat (f := rar 18) (sh := rar 10 t) (l := l) (fun k hk => hLX.2 (8 * l + k) (by omega)) 8 (Nat.le_refl _)
      exact ⟨v, by omega, v2⟩
  · refine op_go (d := 2) h (by decide) (kp_next_bad (d := 0) z1 ?_)
    exact op_c h 0 (Or.inr ⟨_, rfl, rfl, by decide⟩) (d := 3) (by decide) (rc_next_bad 0 rsc rar z2) (fun z => absurd z (by decide)) (u00 rsc 1) rfl
set_option maxHeartbeats 4000000 in
set_option maxRecDepth 20000 in
theorem op_wish {fx : px_F} {al : Nat → Nat} {n : Nat} {g : Nat → px_O} {c0 : Int32} (h : REL al n g c0) (l s : Int32) : pm px_tb fx 1733 73 (.ref (al 0) :: [.int l, .int s]) al n g (QJ fx al n g 140 [.int l, .int s] (fun E => if E = "java/lang/IndexOutOfBoundsException" then 1 else 0)) := by
  obtain ⟨sc, ar, sl, tf, rsc, rar, TT, Tc, fz, h, _⟩ := h
  obtain ⟨hCR, hRR, hn, ho, ⟨B, e, b1, b2, b3⟩, ⟨n1, n2, n3, n4, n5, n6, n7⟩, hLX, hS, hT, hDj, hZ⟩ := id h
  rcases in8 l with ⟨l, hl, rfl⟩ | ⟨z1, z2⟩
  · rcases in8 s with ⟨s, hs, rfl⟩ | ⟨z1, z2⟩
    · have hD : TQ al n g tf TT Tc (rar 9) (rar 10) := fun t ht => by
        obtain ⟨x1, x2, x3, x4, w, y, WA, WB, WR, Y, F, PY, mY, SY, PF, mF, SF, hK, hw, hy, hF⟩ := id (hT t ht).2
        exact ⟨(hT t ht).1, w, y, WA, WB, WR, Y, F, hK⟩
      have hsh : ∀ t, t < TT → ∃ b, b < 256 ∧ rar 10 t = nI b := fun t ht => (hT t ht).2.2.2.2.1
      obtain ⟨b, hb, eb⟩ := rCans_nat (rar 18) l 8 (Nat.le_refl _)
      have hc : rCans (ar (21 + 2 * l)) 0 8 = nI b := by rw [rCans_cg 8 (Nat.le_refl _) (hLX.1 l hl)]; exact eb
      refine op_go (d := 4) h (by decide) (kp_wish_ok (d := 0) n5 n7 hD hsh hl hs hb hc (fun f2 => ?_))
      refine op_v h _ (Or.inl ⟨rfl, rfl⟩) (d := 3) (by decide) (rp_wish_ok 0 rsc rar n6 n7 hl hs hsh) (fun l hl => va_up_ne _ _ (by omega)) (fun res rsc2 rar2 hp => ?_)
      obtain ⟨e1, rfl, f, rfl⟩ := hp
      refine ⟨⟨_, e1 b hb eb, fun _ => ?_⟩, rfl, ⟨B, e, ⟨b1.1, b1.2.1, fun j hj => by rw [va_up_ne _ _ (by decide)]; exact b1.2.2 j hj⟩, b2, b3⟩, ⟨n1, n2, n3, n4, n5, n6, n7⟩, fun a z1 z2 => va_up_ne _ _ (by omega), rfl, rfl, rfl, rfl⟩
      refine (cN_wN n7 hs hsh (TT + 1) 0 _ _ (by omega) (fun j hj => ?_) (fun j hj => ?_)).symm
      · by_cases z : j = b
        · subst z; rw [pk_us]; exact Or.inr ⟨0, Nat.le_refl _, Nat.zero_le _, rfl⟩
        · rw [pk_un z]; unfold flT; rw [if_pos hj]; exact Or.inl rfl
      · by_cases z : j = b
        · subst z; rw [pk_us, pk_us]
        · rw [pk_un z, pk_un z]; unfold flT wFill; rw [if_pos hj, if_pos hj]
    · refine op_go (d := 2) h (by decide) (kp_wish_bad2 (d := 0) hl z1 ?_)
      exact op_c h 0 (Or.inr ⟨_, rfl, rfl, by decide⟩) (d := 3) (by decide) (rc_wish_bad2 0 rsc rar hl z2) (fun z => absurd z (by decide)) (u00 rsc 1) rfl
  · refine op_go (d := 2) h (by decide) (kp_wish_bad1 (d := 0) s z1 ?_)
    exact op_c h 0 (Or.inr ⟨_, rfl, rfl, by decide⟩) (d := 3) (by decide) (rc_wish_bad1 0 rsc rar s z2) (fun z => absurd z (by decide)) (u00 rsc 1) rfl
theorem tz_cg {m : Nat} {S S2 : Nat → Int32} (h : ∀ k, k < m → S k = S2 k) : tz m S = tz m S2 := by
  funext k
  unfold tz
  by_cases c : k < m
  · rw [if_pos c, if_pos c, h k c]
  · rw [if_neg c, if_neg c]
theorem runC_cg {m : Nat} {S S2 : Nat → Int32} (h : ∀ k, k < m → S k = S2 k) (a b : Int32) : runC m S a b = runC m S2 a b := by
  unfold runC runX
  rw [tz_cg h]
theorem BX.mf {sc ar sc2 ar2 : Nat → Nat → Int32} {rsc rsc2 : Nat → Int32} {rar rar2 : Nat → Nat → Int32} (h : BX sc ar rsc rar) (h1 : sc2 1 1 = sc 1 1) (h2 : ar2 2 = ar 2) (h3 : rsc2 2 = rsc 2) (h4 : rar2 0 = rar 0) : BX sc2 ar2 rsc2 rar2 := by
  obtain ⟨B, e, b1, b2, b3⟩ := h
  exact ⟨B, e, ⟨by rw [h1]; exact b1.1, b1.2.1, fun j hj => by rw [h2]; exact b1.2.2 j hj⟩, by rw [h3]; exact b2, fun j hj => by rw [h4]; exact b3 j hj⟩
set_option maxHeartbeats 4000000 in
set_option maxRecDepth 20000 in
theorem op_run {fx : px_F} {al : Nat → Nat} {n : Nat} {g : Nat → px_O} {c0 : Int32} (h : REL al n g c0) (a b q : Int32) : pm px_tb fx 1733 66 (.ref (al 0) :: [.int a, .int b, .int q]) al n g (QJ fx al n g 127 [.int a, .int b, .int q] (fun E => if E = "java/lang/IllegalStateException" then 1 else if E = "java/util/NoSuchElementException" then 2 else 0)) := by
  obtain ⟨sc, ar, sl, tf, rsc, rar, TT, Tc, fz, h, _⟩ := h
  obtain ⟨hCR, hRR, hn, ho, ⟨B, e, b1, b2, b3⟩, ⟨n1, n2, n3, n4, n5, n6, n7⟩, hLX, hS, hT, hDj, hZ⟩ := id h
  rcases hS with ⟨rfl, e2⟩ | ⟨P, m, S, rfl, e2, e3, e4⟩
  · refine op_go (d := 2) h (by decide) (kp_run_null (d := 0) a b q ?_)
    exact op_c h 0 (Or.inr ⟨_, rfl, rfl, by decide⟩) (d := 1733) (by decide) (rc_run_no rsc rar a b q e2) (fun z => absurd z (by decide)) (u00 rsc 1) rfl
  · obtain ⟨_, hm0, _, L, O, A, hP, hO⟩ := id e2
    rcases idx_case (N := 4) (by decide) q with ⟨j, hj, rfl⟩ | ⟨z1, z2⟩
    · have : j = 0 ∨ j = 1 ∨ j = 2 ∨ j = 3 := by omega
      rcases this with rfl | rfl | rfl | rfl
      · refine op_go (d := 8) h (by decide) (kp_run0 (d := 0) hP hO a b (fun sc2 ar2 hM => ?_))
        refine op_v h _ (Or.inl ⟨rfl, rfl⟩) (d := 1733) (by decide) (rp_run_ok rsc rar a b e3 hm0 (by decide)) (fun l hl => hM.2 _ (by omega) (by omega)) (fun res rsc2 rar2 hp => ?_)
        obtain ⟨rfl, rfl, a0, o, rfl⟩ := hp
        refine ⟨⟨_, rfl, fun _ => ?_⟩, rfl, BX.mf ⟨B, e, b1, b2, b3⟩ (hM.1 1 1 (by decide)) (hM.2 2 (by decide) (by decide)) rfl rfl, ⟨?_, ?_, ?_, ?_, ?_, n6, n7⟩, fun a z1 z2 => va_up_ne _ _ (by omega), rfl, rfl, rfl, rfl⟩
        · rw [runA_eq (runX_eq m (rar 3) (rar 8) a b), runC_cg e4]
          rfl
        · rw [hM.1 0 8 (by decide)]; exact n1
        · rw [hM.1 0 10 (by decide)]; exact n2
        · rw [hM.1 0 11 (by decide)]; exact n3
        · rw [hM.1 0 12 (by decide)]; exact n4
        · rw [hM.1 0 9 (by decide)]; exact n5
      · refine op_go (d := 8) h (by decide) (kp_run1 (d := 0) hP hO a b (fun sc2 ar2 hM => ?_))
        refine op_v h _ (Or.inl ⟨rfl, rfl⟩) (d := 1733) (by decide) (rp_run_ok rsc rar a b e3 hm0 (by decide)) (fun l hl => hM.2 _ (by omega) (by omega)) (fun res rsc2 rar2 hp => ?_)
        obtain ⟨rfl, rfl, a0, o, rfl⟩ := hp
        refine ⟨⟨_, rfl, fun _ => ?_⟩, rfl, BX.mf ⟨B, e, b1, b2, b3⟩ (hM.1 1 1 (by decide)) (hM.2 2 (by decide) (by decide)) rfl rfl, ⟨?_, ?_, ?_, ?_, ?_, n6, n7⟩, fun a z1 z2 => va_up_ne _ _ (by omega), rfl, rfl, rfl, rfl⟩
        · rw [runA_eq (runX_eq m (rar 3) (rar 8) a b), runC_cg e4]
          rfl
        · rw [hM.1 0 8 (by decide)]; exact n1
        · rw [hM.1 0 10 (by decide)]; exact n2
        · rw [hM.1 0 11 (by decide)]; exact n3
        · rw [hM.1 0 12 (by decide)]; exact n4
        · rw [hM.1 0 9 (by decide)]; exact n5
      · refine op_go (d := 8) h (by decide) (kp_run2 (d := 0) hP hO a b (fun sc2 ar2 hM => ?_))
        refine op_v h _ (Or.inl ⟨rfl, rfl⟩) (d := 1733) (by decide) (rp_run_ok rsc rar a b e3 hm0 (by decide)) (fun l hl => hM.2 _ (by omega) (by omega)) (fun res rsc2 rar2 hp => ?_)
        obtain ⟨rfl, rfl, a0, o, rfl⟩ := hp
        refine ⟨⟨_, rfl, fun _ => ?_⟩, rfl, BX.mf ⟨B, e, b1, b2, b3⟩ (hM.1 1 1 (by decide)) (hM.2 2 (by decide) (by decide)) rfl rfl, ⟨?_, ?_, ?_, ?_, ?_, n6, n7⟩, fun a z1 z2 => va_up_ne _ _ (by omega), rfl, rfl, rfl, rfl⟩
        · rw [runA_eq (runX_eq m (rar 3) (rar 8) a b), runC_cg e4]
          rfl
        · rw [hM.1 0 8 (by decide)]; exact n1
        · rw [hM.1 0 10 (by decide)]; exact n2
        · rw [hM.1 0 11 (by decide)]; exact n3
        · rw [hM.1 0 12 (by decide)]; exact n4
        · rw [hM.1 0 9 (by decide)]; exact n5
      · refine op_go (d := 8) h (by decide) (kp_run3 (d := 0) hP hO a b (fun sc2 ar2 hM => ?_))
        refine op_v h _ (Or.inl ⟨rfl, rfl⟩) (d := 1733) (by decide) (rp_run_ok rsc rar a b e3 hm0 (by decide)) (fun l hl => hM.2 _ (by omega) (by omega)) (fun res rsc2 rar2 hp => ?_)
        obtain ⟨rfl, rfl, a0, o, rfl⟩ := hp
        refine ⟨⟨_, rfl, fun _ => ?_⟩, rfl, BX.mf ⟨B, e, b1, b2, b3⟩ (hM.1 1 1 (by decide)) (hM.2 2 (by decide) (by decide)) rfl rfl, ⟨?_, ?_, ?_, ?_, ?_, n6, n7⟩, fun a z1 z2 => va_up_ne _ _ (by omega), rfl, rfl, rfl, rfl⟩
        · rw [runA_eq (runX_eq m (rar 3) (rar 8) a b), runC_cg e4]
          rfl
        · rw [hM.1 0 8 (by decide)]; exact n1
        · rw [hM.1 0 10 (by decide)]; exact n2
        · rw [hM.1 0 11 (by decide)]; exact n3
        · rw [hM.1 0 12 (by decide)]; exact n4
        · rw [hM.1 0 9 (by decide)]; exact n5
    · refine op_go (d := 2) h (by decide) (kp_run_bad (d := 0) a b (fun z => z2 ⟨z.1, z.2⟩) ?_)
      exact op_c h 0 (Or.inr ⟨_, rfl, rfl, by decide⟩) (d := 1733) (by decide) (rc_run_bad rsc rar a b (by rw [e3.1]; exact nI_ne0 hm0 (by have := e3.2.1; omega)) (fun z => z2 ⟨z.1, z.2⟩)) (fun z => absurd z (by decide)) (u00 rsc 2) rfl
theorem eqA_shA {f S S2 : Nat → Int32} {x y M : Nat} (h1 : ∀ k, k < M → f (x + k) = shp S 0 M k) (h2 : ∀ k, k < M → f (y + k) = shp S2 0 M k) : ∀ m k, k + m = M → eqA f x y m k = shA S 0 S2 0 M m k
  | 0, _, _ => rfl
  | m + 1, k, hk => by rw [eqA, shA, h1 k (by omega), h2 k (by omega), eqA_shA h1 h2 m (k + 1) (by omega)]
set_option maxHeartbeats 4000000 in
set_option maxRecDepth 20000 in
theorem op_alike {fx : px_F} {al : Nat → Nat} {n : Nat} {g : Nat → px_O} {c0 : Int32} (h : REL al n g c0) (t a b tok : Int32) : pm px_tb fx 1733 76 (.ref (al 0) :: [.int t, .int a, .int b, .int tok]) al n g (QJ fx al n g 146 [.int t, .int a, .int b, .int tok] (fun E => if E = "java/lang/IndexOutOfBoundsException" then 1 else 0)) := by
  obtain ⟨sc, ar, sl, tf, rsc, rar, TT, Tc, fz, h, _⟩ := h
  obtain ⟨hCR, hRR, hn, ho, ⟨B, e, b1, b2, b3⟩, ⟨n1, n2, n3, n4, n5, n6, n7⟩, hLX, hS, hT, hDj, hZ⟩ := id h
  rcases idx_case (N := TT) (by omega) t with ⟨t, ht, rfl⟩ | ⟨z1, z2⟩
  · rcases in8 a with ⟨a, ha, rfl⟩ | ⟨z1, z2⟩
    · rcases in8 b with ⟨b, hb, rfl⟩ | ⟨z1, z2⟩
      · obtain ⟨x1, x2, x3, x4, w, y, WA, WB, WR, Y, F, PY, mY, SY, PF, mF, SF, hK, hw, hy, hF⟩ := id (hT t ht).2
        have hPa : ∃ P, P ≤ 120 ∧ rar 16 (10 * a + t) = nI P := by
          rcases hF a ha with ⟨_, e⟩ | ⟨_, e, e5, _⟩
          · exact ⟨0, by decide, e⟩
          · obtain ⟨_, _, _, L, O, A, _, hO⟩ := e
            exact ⟨_, hO.1, e5⟩
        obtain ⟨PA, pa1, pa2⟩ := hPa
        have hRC := rc_alike_ok 0 rsc rar (tok := tok) n6 n7 ht ha hb pa2 pa1
        by_cases hab : a = b
        · refine op_go (d := 4) h (by decide) (kp_alike_eq (d := 0) n5 n7 ht (hT t ht).1 hK ha hb hab tok ?_)
          refine op_c h 0 (Or.inl ⟨rfl, rfl⟩) (d := 3) (by decide) hRC (fun _ => ?_) (u0 rsc) rfl
          unfold alkR
          rw [if_pos hab]
          rfl
        · rcases hF a ha with ⟨e1, e2⟩ | ⟨e1, e2, e3, e4⟩
          · refine op_go (d := 4) h (by decide) (kp_alike_n1 (d := 0) n5 n7 ht (hT t ht).1 hK ha hb hab e1 tok ?_)
            refine op_c h 0 (Or.inl ⟨rfl, rfl⟩) (d := 3) (by decide) hRC (fun _ => ?_) (u0 rsc) rfl
            unfold alkR
            rw [if_neg hab, if_pos (Or.inl e2)]
            rfl
          · obtain ⟨_, hm0, _, L, O, A, hP, hO⟩ := id e2
            have hmF := hO.1
            have epa : PA = mF a := (nI_eq (by omega) (by omega)).mp (pa2.symm.trans e3)
            rcases hF b hb with ⟨f1, f2⟩ | ⟨f1, f2, f3, f4⟩
            · refine op_go (d := 4) h (by decide) (kp_alike_n2 (d := 0) n5 n7 ht (hT t ht).1 hK ha hb hab e1 f1 tok ?_)
              refine op_c h 0 (Or.inl ⟨rfl, rfl⟩) (d := 3) (by decide) hRC (fun _ => ?_) (u0 rsc) rfl
              unfold alkR
              rw [if_neg hab, if_pos (Or.inr (Or.inl (by rw [f2, e3]; exact nI_ne0 hm0 (by omega))))]
              rfl
            · obtain ⟨_, hm02, _, L2, O2, A2, hP2, hO2⟩ := id f2
              have hmF2 := hO2.1
              refine op_go (d := 4) h (by decide) (kp_alike_ok (d := 0) n5 n7 ht (hT t ht).1 hK ha hb hab e1 f1 hP hP2 hmF hmF2 tok ?_)
              refine op_c h _ (Or.inl ⟨rfl, rfl⟩) (d := 3) (by decide) hRC (fun _ => ?_) (u0 rsc) rfl
              unfold alkR
              rw [if_neg hab, e3, f3]
              by_cases c1 : mF a = mF b
              · by_cases c2 : tok ≤ nI (mF a)
                · rw [if_neg (fun z => z.elim (nI_ne0 hm0 (by omega)) (fun z => z.elim (fun z => z (by rw [c1])) (fun z => Int32.not_lt.mpr c2 z))), decide_eq_true c2, decide_eq_true c1, Bool.true_and, Bool.true_and, epa]
                  rw [← c1] at f4
                  rw [eqA_shA e4 (fun k hk => f4 k hk) (mF a) 0 (by omega)]
                · rw [if_pos (Or.inr (Or.inr (Int32.not_le.mp c2))), decide_eq_false c2, Bool.false_and]
              · rw [if_pos (Or.inr (Or.inl (fun z => c1 ((nI_eq (by omega) (by omega)).mp z)))), decide_eq_false c1, Bool.false_and, Bool.and_false]
      · refine op_go (d := 2) h (by decide) (kp_alike_bad3 (d := 0) n5 n7 ht (hT t ht).1 tok ha z1 ?_)
        exact op_c h 0 (Or.inr ⟨_, rfl, rfl, by decide⟩) (d := 3) (by decide) (rc_alike_bad3 0 rsc rar n6 n7 tok ht ha z2) (fun z => absurd z (by decide)) (u00 rsc 1) rfl
    · refine op_go (d := 2) h (by decide) (kp_alike_bad2 (d := 0) n5 n7 ht (hT t ht).1 b tok z1 ?_)
      exact op_c h 0 (Or.inr ⟨_, rfl, rfl, by decide⟩) (d := 3) (by decide) (rc_alike_bad2 0 rsc rar n6 n7 b tok ht z2) (fun z => absurd z (by decide)) (u00 rsc 1) rfl
  · rw [← n5] at z1
    rw [← n6] at z2
    refine op_go (d := 2) h (by decide) (kp_alike_bad1 (d := 0) a b tok z1 ?_)
    exact op_c h 0 (Or.inr ⟨_, rfl, rfl, by decide⟩) (d := 3) (by decide) (rc_alike_bad1 0 rsc rar a b tok z2) (fun z => absurd z (by decide)) (u00 rsc 1) rfl
