theorem idx_case {N : Nat} (hN : N < 2 ^ 30) (t : Int32) : (∃ j, j < N ∧ t = nI j) ∨ (¬ (0 ≤ t ∧ t < nI N) ∧ ¬ (0 ≤ t ∧ t ≤ nI N - 1)) := by
  by_cases c : 0 ≤ t
  · obtain ⟨j, hj, rfl⟩ := nI_of (Int32.not_lt.mpr c)
    by_cases c2 : j < N
    · exact Or.inl ⟨j, c2, rfl⟩
    · refine Or.inr ⟨fun z => nI_nlt (by omega) hj z.2, fun z => ?_⟩
      by_cases z0 : N = 0
      · subst z0
        exact absurd (Int32.le_trans z.1 z.2) (by decide)
      · rw [pr1 (by omega)] at z
        exact nI_ge (a := N - 1) (b := j) (by omega) hj z.2
  · exact Or.inr ⟨fun z => c z.1, fun z => c z.1⟩
theorem in8 (t : Int32) : (∃ j, j < 8 ∧ t = nI j) ∨ (¬ (0 ≤ t ∧ t < 8) ∧ ¬ (0 ≤ t ∧ t ≤ 7)) := (idx_case (N := 8) (by decide) t).imp id (fun ⟨h1, h2⟩ => ⟨h1, fun z => h2 ⟨z.1, z.2⟩⟩)
theorem in256 (t : Int32) : (∃ j, j < 256 ∧ t = nI j) ∨ (¬ (0 ≤ t ∧ t < 256) ∧ ¬ (0 ≤ t ∧ t ≤ 255)) := (idx_case (N := 256) (by decide) t).imp id (fun ⟨h1, h2⟩ => ⟨h1, fun z => h2 ⟨z.1, z.2⟩⟩)
theorem op_go {fx : px_F} {al : Nat → Nat} {n : Nat} {g : Nat → px_O} {sc ar : Nat → Nat → Int32} {sl : Value} {tf : Nat → Option Nat} {rsc : Nat → Int32} {rar : Nat → Nat → Int32} {TT : Nat} {Tc : Nat → Nat} {fz : Nat → Bool} {d k : Nat} {as : List Value} {Q : px_Q} (h : RELd al n g sc ar sl tf rsc rar TT Tc fz) (hd : d ≤ 1733) (hk : kp fx d k as Q al n g sc ar sl tf) : pm px_tb fx 1733 k as al n g Q := (hk.le hd) g h.1 cfr.rf
/-- the class as it was; the reference too, but for what it says of throwing -/
theorem op_c {fx : px_F} {al : Nat → Nat} {n : Nat} {g : Nat → px_O} {sc ar : Nat → Nat → Int32} {sl : Value} {tf : Nat → Option Nat} {rsc : Nat → Int32} {rar : Nat → Nat → Int32} {TT : Nat} {Tc : Nat → Nat} {fz : Nat → Bool} {kr : Nat} {as : List Value} {cd : String → Int32} {o : px_R} {b c : Int32} {d : Nat} {rsc2 : Nat → Int32} (h : RELd al n g sc ar sl tf rsc rar TT Tc fz) (w : Int32) (ho : (o = .inl (some (.int w)) ∧ c = 0) ∨ ∃ E, o = .inr E ∧ c = cd E ∧ ¬ c = 0) (hd : d ≤ 1733) (hC : RC d kr as rsc rar (some (.int b)) rsc2 rar) (hb : c = 0 → b = w) (h2 : ∀ k, k ≠ 0 → rsc2 k = rsc k) (h0 : rsc2 0 = c) : kq (QJ fx al n g kr as cd) o al n g sc ar sl tf := by
  refine op_v h w ho hd hC.rp (fun _ _ => rfl) (fun res rsc3 rar3 hp => ?_)
  obtain ⟨rfl, rfl, rfl⟩ := hp
  obtain ⟨_, _, _, _, ⟨B, e, z1, z2, z3⟩, ⟨n1, n2, n3, n4, n5, n6, n7⟩, _⟩ := h
  refine ⟨⟨b, rfl, hb⟩, h0, ⟨B, e, z1, by rw [h2 2 (by decide)]; exact z2, z3⟩, ⟨?_, ?_, ?_, ?_, n5, ?_, n7⟩, fun _ _ _ => rfl, h2 16 (by decide), rfl, rfl, rfl⟩
  · rw [h2 7 (by decide)]; exact n1
  · rw [h2 17 (by decide)]; exact n2
  · rw [h2 31 (by decide)]; exact n3
  · rw [h2 32 (by decide)]; exact n4
  · rw [h2 30 (by decide)]; exact n6
theorem u0 (rsc : Nat → Int32) (k : Nat) (h : k ≠ 0) : upd rsc 0 0 k = rsc k := pk_un h
theorem u00 (rsc : Nat → Int32) (c : Int32) (k : Nat) (h : k ≠ 0) : upd (upd rsc 0 0) 0 c k = rsc k := by rw [pk_un h, pk_un h]
theorem low8 (y : Int32) : ∃ b, b < 256 ∧ y &&& 255 = nI b ∧ y.toInt8.toInt32 = sb b := by
  refine ⟨y.toBitVec.toNat % 256, by omega, ?_, ?_⟩
  · apply Int32.toBitVec_inj.mp
    apply BitVec.eq_of_toNat_eq
    rw [Int32.toBitVec_and, BitVec.toNat_and]
    show y.toBitVec.toNat &&& 255 = (BitVec.ofNat 32 (y.toBitVec.toNat % 256)).toNat
    rw [BitVec.toNat_ofNat, show (255 : Nat) = 2 ^ 8 - 1 from rfl, Nat.and_two_pow_sub_one_eq_mod]
    omega
  · unfold sb
    congr 1
    apply Int8.toBitVec_inj.mp
    apply BitVec.eq_of_toNat_eq
    rw [Int32.toBitVec_toInt8, Int32.toBitVec_toInt8, BitVec.signExtend_eq_setWidth_of_le _ (by decide), BitVec.signExtend_eq_setWidth_of_le _ (by decide), BitVec.toNat_setWidth, BitVec.toNat_setWidth]
    show y.toBitVec.toNat % 2 ^ 8 = (BitVec.ofNat 32 (y.toBitVec.toNat % 256)).toNat % 2 ^ 8
    rw [BitVec.toNat_ofNat]
    omega
theorem apW_out {f : Nat → Int32} {e : Nat} {x : Int32} {j : Nat} (h : j < e ∨ e + 4 ≤ j) : apW f e x j = f j := by
  unfold apW
  rw [pk_un (by omega), pk_un (by omega), pk_un (by omega), pk_un (by omega)]
theorem apW_in {f : Nat → Int32} {e : Nat} {x : Int32} {i : Nat} (h : i < 4) : apW f e x (e + i) = (x >>> ((24 - 8 * nI i) &&& 31)) &&& 255 := by
  unfold apW
  match i, h with
  | 0, _ => rw [pk_un (by omega), pk_un (by omega), pk_un (by omega), Nat.add_zero, pk_us]; rfl
  | 1, _ => rw [pk_un (by omega), pk_un (by omega), pk_us]; rfl
  | 2, _ => rw [pk_un (by omega), pk_us]; rfl
  | 3, _ => rw [pk_us]; rfl
theorem apW5_in {f : Nat → Int32} {e : Nat} {a b c x h : Int32} {k : Nat} (hk : k < 20) : apW5 f e a b c x h (e + k) = (w5 a b c x h (k / 4) >>> ((24 - 8 * nI (k % 4)) &&& 31)) &&& 255 := by
  unfold apW5
  have hm : k % 4 < 4 := Nat.mod_lt _ (by decide)
  have e9 : e + k = e + 4 * (k / 4) + k % 4 := by omega
  have : k / 4 = 0 ∨ k / 4 = 1 ∨ k / 4 = 2 ∨ k / 4 = 3 ∨ k / 4 = 4 := by omega
  rcases this with q | q | q | q | q
  · rw [apW_out (by omega), apW_out (by omega), apW_out (by omega), apW_out (by omega), e9, q, Nat.mul_zero, Nat.add_zero, apW_in hm]; rfl
  · rw [apW_out (by omega), apW_out (by omega), apW_out (by omega), e9, q, show e + 4 * 1 = e + 4 by omega, apW_in hm]; rfl
  · rw [apW_out (by omega), apW_out (by omega), e9, q, show e + 4 * 2 = e + 4 + 4 by omega, apW_in hm]; rfl
  · rw [apW_out (by omega), e9, q, show e + 4 * 3 = e + 4 + 4 + 4 by omega, apW_in hm]; rfl
  · rw [e9, q, show e + 4 * 4 = e + 4 + 4 + 4 + 4 by omega, apW_in hm]; rfl
theorem apW5_out {f : Nat → Int32} {e : Nat} {a b c x h : Int32} {j : Nat} (hj : j < e) : apW5 f e a b c x h j = f j := by
  unfold apW5
  rw [apW_out (by omega), apW_out (by omega), apW_out (by omega), apW_out (by omega), apW_out (by omega)]
theorem nar_b (y : Int32) : vp_nar .byte y.toInt8.toInt32 = y.toInt8.toInt32 := by
  show y.toInt8.toInt32.toInt8.toInt32 = _
  rw [Int8.toInt8_toInt32]
/-- the tape behind a feed -/
theorem BX.feed {sc ar : Nat → Nat → Int32} {rsc : Nat → Int32} {rar : Nat → Nat → Int32} {B : Nat → Nat} {e : Nat} (h : tB sc ar B e) (h2 : rsc 2 = nI e) (h3 : ∀ j, j < e → rar 0 j = sb (B j)) (he : e + 20 ≤ 400) (a b c x y : Int32) {rsc2 : Nat → Int32} {rar2 : Nat → Nat → Int32} (e2 : rsc2 2 = nI (e + 20)) (e3 : rar2 0 = rTape (rar 0) e (w5 a b c x y) 20) : BX (up2 sc 1 1 (nI (e + 20))) (va_up ar 2 (apW5 (ar 2) e a b c x y)) rsc2 rar2 := by
  have hw : ∀ j, ∃ v, v < 256 ∧ (e ≤ j → j < e + 20 → apW5 (ar 2) e a b c x y j = nI v ∧ rByte (w5 a b c x y) (j - e) = sb v) := fun j => by
    obtain ⟨v, v1, v2, v3⟩ := low8 (w5 a b c x y ((j - e) / 4) >>> ((24 - 8 * nI ((j - e) % 4)) &&& 31))
    refine ⟨v, v1, fun z1 z2 => ⟨?_, ?_⟩⟩
    · obtain ⟨i, rfl⟩ : ∃ i, j = e + i := ⟨j - e, by omega⟩
      rw [Nat.add_sub_cancel_left] at v2
      rw [apW5_in (by omega), v2]
    · unfold rByte
      rw [nar_b]
      exact v3
  have hw2 : ∃ V : Nat → Nat, ∀ j, V j < 256 ∧ (e ≤ j → j < e + 20 → apW5 (ar 2) e a b c x y j = nI (V j) ∧ rByte (w5 a b c x y) (j - e) = sb (V j)) := ⟨fun j => (hw j).choose, fun j => (hw j).choose_spec⟩
  obtain ⟨V, hV⟩ := hw2
  refine ⟨fun j => if j < e then B j else V j, e + 20, ⟨rfl, he, fun j hj => ?_⟩, e2, fun j hj => ?_⟩
  · show va_up ar 2 _ 2 j = nI (if j < e then B j else V j) ∧ (if j < e then B j else V j) < 256
    rw [va_up_self]
    by_cases z : j < e
    · rw [if_pos z, apW5_out z]; exact h.2.2 j z
    · rw [if_neg z]; exact ⟨((hV j).2 (by omega) hj).1, (hV j).1⟩
  · show rar2 0 j = sb (if j < e then B j else V j)
    rw [e3]
    unfold rTape
    by_cases z : j < e
    · rw [if_pos z, if_neg (by omega)]; exact h3 j z
    · rw [if_neg z, if_pos (by omega)]; exact ((hV j).2 (by omega) hj).2
set_option maxHeartbeats 4000000 in
set_option maxRecDepth 20000 in
theorem op_feed {fx : px_F} {al : Nat → Nat} {n : Nat} {g : Nat → px_O} {c0 : Int32} (h : REL al n g c0) (a b c x y : Int32) : pm px_tb fx 1733 62 (.ref (al 0) :: [.int a, .int b, .int c, .int x, .int y]) al n g (QJ fx al n g 93 [.int a, .int b, .int c, .int x, .int y] (fun _ => 0)) := by
  obtain ⟨sc, ar, sl, tf, rsc, rar, TT, Tc, fz, h, _⟩ := h
  obtain ⟨hCR, hRR, hn, ho, ⟨B, e, b1, b2, b3⟩, ⟨n1, n2, n3, n4, n5, n6, n7⟩, hLX, hS, hT, hDj, hZ⟩ := id h
  by_cases c20 : e + 20 ≤ 400
  · refine op_go (d := 2) h (by decide) (kp_feed_ok (d := 0) b1.1 c20 a b c x y ?_)
    refine op_v h (nI (e + 20)) (Or.inl ⟨rfl, rfl⟩) (d := 1) (by decide) (rp_feed_ok 0 rsc rar a b c x y b2 c20) (fun l hl => va_up_ne _ _ (by omega)) (fun res rsc2 rar2 hp => ?_)
    obtain ⟨e1, e2, e3, e4⟩ := hp
    subst e2
    refine ⟨⟨_, e1, fun _ => rfl⟩, rfl, BX.feed b1 b2 b3 c20 a b c x y rfl e4, ⟨n1, n2, n3, n4, n5, n6, n7⟩, fun a z1 z2 => e3 a (by omega) (by omega), rfl, e3 3 (by decide) (by decide), e3 4 (by decide) (by decide), e3 5 (by decide) (by decide)⟩
  · refine op_go (d := 1) h (by decide) (kp_feed_no (d := 0) b1.1 b1.2.1 c20 a b c x y ?_)
    exact op_c h (-1) (Or.inl ⟨rfl, rfl⟩) (d := 1) (by decide) (rc_feed_no 0 rsc rar a b c x y b2 c20 b1.2.1) (fun _ => rfl) (u0 rsc) rfl
set_option maxHeartbeats 4000000 in
set_option maxRecDepth 20000 in
theorem op_end {fx : px_F} {al : Nat → Nat} {n : Nat} {g : Nat → px_O} {c0 : Int32} (h : REL al n g c0) (v : Int32) : pm px_tb fx 1733 63 (.ref (al 0) :: [.int v]) al n g (QJ fx al n g 94 [.int v] (fun _ => 0)) := by
  obtain ⟨sc, ar, sl, tf, rsc, rar, TT, Tc, fz, h, _⟩ := h
  obtain ⟨hCR, hRR, hn, ho, ⟨B, e, b1, b2, b3⟩, ⟨n1, n2, n3, n4, n5, n6, n7⟩, hLX, hS, hT, hDj, hZ⟩ := id h
  have hE := rc_end 0 rsc rar v
  have e12 : sc 1 1 = rsc 2 := b1.1.trans b2.symm
  by_cases cv : 0 ≤ v ∧ v ≤ sc 1 1
  · rw [← e12] at hE
    rw [if_pos cv, decide_eq_true cv.1, decide_eq_true cv.2] at hE
    refine op_go (d := 1) h (by decide) (kp_end_ok (d := 0) cv.1 cv.2 ?_)
    refine op_v h 1 (Or.inl ⟨rfl, rfl⟩) (d := 1) (by decide) hE.rp (fun _ _ => rfl) (fun res rsc2 rar2 hp => ?_)
    obtain ⟨rfl, rfl, rfl⟩ := hp
    obtain ⟨j, hj, rfl⟩ := nI_of (Int32.not_lt.mpr cv.1)
    have hje : j ≤ e := by
      by_cases z : j ≤ e
      · exact z
      · exact absurd (b1.1 ▸ cv.2) (nI_ge (by omega) hj)
    refine ⟨⟨_, rfl, fun _ => rfl⟩, rfl, ⟨B, j, ⟨rfl, by have := b1.2.1; omega, fun i hi => b1.2.2 i (by omega)⟩, rfl, fun i hi => b3 i (by omega)⟩, ⟨n1, n2, n3, n4, n5, n6, n7⟩, fun _ _ _ => rfl, rfl, rfl, rfl, rfl⟩
  · rw [← e12, if_neg cv] at hE
    refine op_go (d := 1) h (by decide) (kp_end_no (d := 0) cv ?_)
    refine op_c h 0 (Or.inl ⟨rfl, rfl⟩) (d := 1) (by decide) hE (fun _ => ?_) (u0 rsc) rfl
    have : (decide (0 ≤ v) && decide (v ≤ sc 1 1)) = false := by
      cases z : (decide (0 ≤ v) && decide (v ≤ sc 1 1))
      · rfl
      · rw [Bool.and_eq_true] at z
        exact absurd ⟨of_decide_eq_true z.1, of_decide_eq_true z.2⟩ cv
    rw [this]
    rfl
set_option maxHeartbeats 4000000 in
set_option maxRecDepth 20000 in
theorem op_fault {fx : px_F} {al : Nat → Nat} {n : Nat} {g : Nat → px_O} {c0 : Int32} (h : REL al n g c0)  : pm px_tb fx 1733 65 (.ref (al 0) :: []) al n g (QJ fx al n g 114 [] (fun _ => 0)) := by
  obtain ⟨sc, ar, sl, tf, rsc, rar, TT, Tc, fz, h, _⟩ := h
  obtain ⟨hCR, hRR, hn, ho, ⟨B, e, b1, b2, b3⟩, ⟨n1, n2, n3, n4, n5, n6, n7⟩, hLX, hS, hT, hDj, hZ⟩ := id h
  refine op_go (d := 1) h (by decide) (kp_fault (d := 0) ?_)
  exact op_c h (sc 0 8) (Or.inl ⟨rfl, rfl⟩) (d := 1) (by decide) (rc_fault 0 rsc rar) (fun _ => n1.symm) (u0 rsc) rfl
set_option maxHeartbeats 4000000 in
set_option maxRecDepth 20000 in
theorem op_token {fx : px_F} {al : Nat → Nat} {n : Nat} {g : Nat → px_O} {c0 : Int32} (h : REL al n g c0) (i : Int32) : pm px_tb fx 1733 77 (.ref (al 0) :: [.int i]) al n g (QJ fx al n g 115 [.int i] (fun _ => 0)) := by
  obtain ⟨sc, ar, sl, tf, rsc, rar, TT, Tc, fz, h, _⟩ := h
  obtain ⟨hCR, hRR, hn, ho, ⟨B, e, b1, b2, b3⟩, ⟨n1, n2, n3, n4, n5, n6, n7⟩, hLX, hS, hT, hDj, hZ⟩ := id h
  rcases hS with ⟨rfl, e2⟩ | ⟨P, m, S, rfl, e2, e3, e4⟩
  · refine op_go (d := 1) h (by decide) (kp_token_null (d := 0) ?_)
    exact op_c h (-1) (Or.inl ⟨rfl, rfl⟩) (d := 2) (by decide) (rc_token_no 0 rsc rar (fun z => by rw [e2] at z; exact absurd (Int32.le_trans z.1 z.2) (by decide))) (fun _ => rfl) (u0 rsc) rfl
  · obtain ⟨hm, hm1, _⟩ := id e3
    obtain ⟨_, _, _, L, O, A, hP, hO⟩ := id e2
    rcases idx_case (N := m) (by omega) i with ⟨j, hj, rfl⟩ | ⟨z1, z2⟩
    · refine op_go (d := 2) h (by decide) (kp_token_in (d := 0) hP hm1 hj ?_)
      exact op_c h (S j) (Or.inl ⟨rfl, rfl⟩) (d := 2) (by decide) (rc_token_ok 0 rsc rar hm hm1 hj) (fun _ => e4 j hj) (u0 rsc) rfl
    · refine op_go (d := 2) h (by decide) (kp_token_out (d := 0) hP hm1 z1 ?_)
      exact op_c h (-1) (Or.inl ⟨rfl, rfl⟩) (d := 2) (by decide) (rc_token_no 0 rsc rar (by rw [hm]; exact z2)) (fun _ => rfl) (u0 rsc) rfl
theorem out5 {q : Int32} (h : ¬ (0 ≤ q ∧ q < nI 5)) : q.toInt < 0 ∨ 4 < q.toInt := by
  by_cases c : q.toInt < 0
  · exact Or.inl c
  · refine Or.inr ?_
    have h0 : 0 ≤ q := Int32.le_iff_toInt_le.mpr (show (0 : Int32).toInt ≤ q.toInt from by show (0 : Int) ≤ q.toInt; omega)
    have h1 : ¬ q < nI 5 := fun z => h ⟨h0, z⟩
    have h2 := Int32.le_iff_toInt_le.mp (Int32.not_lt.mp h1)
    have : (nI 5).toInt = 5 := rfl
    omega
set_option maxHeartbeats 4000000 in
set_option maxRecDepth 20000 in
theorem op_count {fx : px_F} {al : Nat → Nat} {n : Nat} {g : Nat → px_O} {c0 : Int32} (h : REL al n g c0) (q : Int32) : pm px_tb fx 1733 78 (.ref (al 0) :: [.int q]) al n g (QJ fx al n g 147 [.int q] (fun _ => 0)) := by
  obtain ⟨sc, ar, sl, tf, rsc, rar, TT, Tc, fz, h, _⟩ := h
  obtain ⟨hCR, hRR, hn, ho, ⟨B, e, b1, b2, b3⟩, ⟨n1, n2, n3, n4, n5, n6, n7⟩, hLX, hS, hT, hDj, hZ⟩ := id h
  rcases idx_case (N := 5) (by decide) q with ⟨j, hj, rfl⟩ | ⟨z1, z2⟩
  · have : j = 0 ∨ j = 1 ∨ j = 2 ∨ j = 3 ∨ j = 4 := by omega
    rcases this with rfl | rfl | rfl | rfl | rfl
    · refine op_go (d := 1) h (by decide) (kp_count0 (d := 0) ?_)
      exact op_c h (sc 0 9) (Or.inl ⟨rfl, rfl⟩) (d := 1) (by decide) (rc_count0 0 rsc rar) (fun _ => n6.trans n5.symm) (u0 rsc) rfl
    · rcases hS with ⟨rfl, e2⟩ | ⟨P, m, S, rfl, e2, e3, e4⟩
      · refine op_go (d := 1) h (by decide) (kp_count1_null (d := 0) ?_)
        exact op_c h 0 (Or.inl ⟨rfl, rfl⟩) (d := 1) (by decide) (rc_count1 0 rsc rar) (fun _ => e2) (u0 rsc) rfl
      · obtain ⟨hm, hm1, _⟩ := id e3
        obtain ⟨_, _, _, L, O, A, hP, hO⟩ := id e2
        refine op_go (d := 2) h (by decide) (kp_count1 (d := 0) hP hm1 ?_)
        exact op_c h (nI m) (Or.inl ⟨rfl, rfl⟩) (d := 1) (by decide) (rc_count1 0 rsc rar) (fun _ => hm) (u0 rsc) rfl
    · refine op_go (d := 1) h (by decide) (kp_count2 (d := 0) ?_)
      exact op_c h (sc 0 10) (Or.inl ⟨rfl, rfl⟩) (d := 1) (by decide) (rc_count2 0 rsc rar) (fun _ => n2.symm) (u0 rsc) rfl
    · refine op_go (d := 1) h (by decide) (kp_count3 (d := 0) ?_)
      exact op_c h (sc 0 11) (Or.inl ⟨rfl, rfl⟩) (d := 1) (by decide) (rc_count3 0 rsc rar) (fun _ => n3.symm) (u0 rsc) rfl
    · refine op_go (d := 1) h (by decide) (kp_count4 (d := 0) ?_)
      exact op_c h (sc 0 12) (Or.inl ⟨rfl, rfl⟩) (d := 1) (by decide) (rc_count4 0 rsc rar) (fun _ => n4.symm) (u0 rsc) rfl
  · refine op_go (d := 1) h (by decide) (kp_count_no (d := 0) (out5 z1) ?_)
    exact op_c h (-1) (Or.inl ⟨rfl, rfl⟩) (d := 1) (by decide) (rc_count_no 0 rsc rar (out5 z1)) (fun _ => rfl) (u0 rsc) rfl
set_option maxHeartbeats 4000000 in
set_option maxRecDepth 20000 in
theorem op_can {fx : px_F} {al : Nat → Nat} {n : Nat} {g : Nat → px_O} {c0 : Int32} (h : REL al n g c0) (l s : Int32) : pm px_tb fx 1733 70 (.ref (al 0) :: [.int l, .int s]) al n g (QJ fx al n g 136 [.int l, .int s] (fun E => if E = "java/lang/IndexOutOfBoundsException" then 1 else 0)) := by
  obtain ⟨sc, ar, sl, tf, rsc, rar, TT, Tc, fz, h, _⟩ := h
  obtain ⟨hCR, hRR, hn, ho, ⟨B, e, b1, b2, b3⟩, ⟨n1, n2, n3, n4, n5, n6, n7⟩, hLX, hS, hT, hDj, hZ⟩ := id h
  rcases in8 l with ⟨l, hl, rfl⟩ | ⟨z1, z2⟩
  · rcases in8 s with ⟨s, hs, rfl⟩ | ⟨z1, z2⟩
    · refine op_go (d := 2) h (by decide) (kp_can_ok (d := 0) hl hs ?_)
      exact op_c h _ (Or.inl ⟨rfl, rfl⟩) (d := 3) (by decide) (rc_can_ok 0 rsc rar hl hs) (fun _ => (hLX.1 l hl s hs).symm) (u0 rsc) rfl
    · refine op_go (d := 2) h (by decide) (kp_can_bad2 (d := 0) hl z1 ?_)
      exact op_c h 0 (Or.inr ⟨_, rfl, rfl, by decide⟩) (d := 3) (by decide) (rc_can_bad2 0 rsc rar hl z2) (fun z => absurd z (by decide)) (u00 rsc 1) rfl
  · refine op_go (d := 2) h (by decide) (kp_can_bad1 (d := 0) s z1 ?_)
    exact op_c h 0 (Or.inr ⟨_, rfl, rfl, by decide⟩) (d := 3) (by decide) (rc_can_bad1 0 rsc rar s z2) (fun z => absurd z (by decide)) (u00 rsc 1) rfl
theorem FX.is {al : Nat → Nat} {n : Nat} {g : Nat → px_O} {fz : Nat → Bool} {rar : Nat → Nat → Int32} {t l : Nat} {x : Option Nat} {P m : Nat} {S : Nat → Int32} (h : FX al n g fz rar t l x P m S) : x.isSome = decide (0 < rar 16 (10 * l + t)) := by
  rcases h with ⟨e1, e2⟩ | ⟨e1, e2, e3, _⟩
  · rw [e1, e2]; rfl
  · have h0 := e2.2.1
    obtain ⟨_, _, _, L, O, A, _, hO⟩ := e2
    have := hO.1
    rw [e1, e3, decide_eq_true (show (0 : Int32) < nI m from nI_lt (a := 0) h0 (by omega))]
    rfl
set_option maxHeartbeats 4000000 in
set_option maxRecDepth 20000 in
theorem op_passed {fx : px_F} {al : Nat → Nat} {n : Nat} {g : Nat → px_O} {c0 : Int32} (h : REL al n g c0) (l t : Int32) : pm px_tb fx 1733 71 (.ref (al 0) :: [.int l, .int t]) al n g (QJ fx al n g 137 [.int l, .int t] (fun E => if E = "java/lang/IndexOutOfBoundsException" then 1 else 0)) := by
  obtain ⟨sc, ar, sl, tf, rsc, rar, TT, Tc, fz, h, _⟩ := h
  obtain ⟨hCR, hRR, hn, ho, ⟨B, e, b1, b2, b3⟩, ⟨n1, n2, n3, n4, n5, n6, n7⟩, hLX, hS, hT, hDj, hZ⟩ := id h
  rcases in8 l with ⟨l, hl, rfl⟩ | ⟨z1, z2⟩
  · rcases idx_case (N := TT) (by omega) t with ⟨t, ht, rfl⟩ | ⟨z1, z2⟩
    · obtain ⟨x1, x2, x3, x4, w, y, WA, WB, WR, Y, F, PY, mY, SY, PF, mF, SF, hK, hw, hy, hF⟩ := id (hT t ht).2
      refine op_go (d := 2) h (by decide) (kp_passed_ok (d := 0) n5 n7 ht (hT t ht).1 hK hl ?_)
      exact op_c h _ (Or.inl ⟨rfl, rfl⟩) (d := 3) (by decide) (rc_passed_ok 0 rsc rar n6 n7 hl ht) (fun _ => by rw [(hF l hl).is]) (u0 rsc) rfl
    · rw [← n5] at z1
      rw [← n6] at z2
      refine op_go (d := 2) h (by decide) (kp_passed_bad2 (d := 0) hl z1 ?_)
      exact op_c h 0 (Or.inr ⟨_, rfl, rfl, by decide⟩) (d := 3) (by decide) (rc_passed_bad2 0 rsc rar hl z2) (fun z => absurd z (by decide)) (u00 rsc 1) rfl
  · refine op_go (d := 2) h (by decide) (kp_passed_bad1 (d := 0) t z1 ?_)
    exact op_c h 0 (Or.inr ⟨_, rfl, rfl, by decide⟩) (d := 3) (by decide) (rc_passed_bad1 0 rsc rar t z2) (fun z => absurd z (by decide)) (u00 rsc 1) rfl
theorem fpC_rPass {al : Nat → Nat} {n : Nat} {g : Nat → px_O} {fz : Nat → Bool} {rar : Nat → Nat → Int32} {t : Nat} {F : Nat → Option Nat} {PF mF : Nat → Nat} {SF : Nat → Nat → Int32} (h : ∀ l, l < 8 → FX al n g fz rar t l (F l) (PF l) (mF l) (SF l)) : ∀ k, k ≤ 8 → fpC F k = rPass (rar 16) t k
  | 0, _ => rfl
  | k + 1, hk => by
    rw [fpC, rPass, fpC_rPass h k (by omega), (h k (by omega)).is]
    by_cases c : 0 < rar 16 (10 * k + t)
    · rw [decide_eq_true c, if_pos rfl, if_pos c]
    · rw [decide_eq_false c, if_neg (by decide), if_neg c]
set_option maxHeartbeats 4000000 in
set_option maxRecDepth 20000 in
theorem op_look {fx : px_F} {al : Nat → Nat} {n : Nat} {g : Nat → px_O} {c0 : Int32} (h : REL al n g c0) (t q : Int32) : pm px_tb fx 1733 74 (.ref (al 0) :: [.int t, .int q]) al n g (QJ fx al n g 141 [.int t, .int q] (fun E => if E = "java/lang/IndexOutOfBoundsException" then 1 else if E = "java/util/NoSuchElementException" then 2 else 0)) := by
  obtain ⟨sc, ar, sl, tf, rsc, rar, TT, Tc, fz, h, _⟩ := h
  obtain ⟨hCR, hRR, hn, ho, ⟨B, e, b1, b2, b3⟩, ⟨n1, n2, n3, n4, n5, n6, n7⟩, hLX, hS, hT, hDj, hZ⟩ := id h
  rcases idx_case (N := TT) (by omega) t with ⟨t, ht, rfl⟩ | ⟨z1, z2⟩
  · rcases idx_case (N := 5) (by decide) q with ⟨j, hj, rfl⟩ | ⟨z1, z2⟩
    · obtain ⟨x1, x2, x3, x4, w, y, WA, WB, WR, Y, F, PY, mY, SY, PF, mF, SF, hK, hw, hy, hF⟩ := id (hT t ht).2
      have : j = 0 ∨ j = 1 ∨ j = 2 ∨ j = 3 ∨ j = 4 := by omega
      rcases this with rfl | rfl | rfl | rfl | rfl
      · refine op_go (d := 2) h (by decide) (kp_look0 (d := 0) n5 n7 ht (hT t ht).1 hK ?_)
        exact op_c h _ (Or.inl ⟨rfl, rfl⟩) (d := 3) (by decide) (rc_look0 0 rsc rar n6 n7 ht) (fun _ => rfl) (u0 rsc) rfl
      · refine op_go (d := 2) h (by decide) (kp_look1 (d := 0) n5 n7 ht (hT t ht).1 hK ?_)
        exact op_c h _ (Or.inl ⟨rfl, rfl⟩) (d := 3) (by decide) (rc_look1 0 rsc rar n6 n7 ht) (fun _ => rfl) (u0 rsc) rfl
      · refine op_go (d := 2) h (by decide) (kp_look2 (d := 0) n5 n7 ht (hT t ht).1 hK ?_)
        exact op_c h _ (Or.inl ⟨rfl, rfl⟩) (d := 3) (by decide) (rc_look2 0 rsc rar n6 n7 ht) (fun _ => hw.2.1) (u0 rsc) rfl
      · refine op_go (d := 2) h (by decide) (kp_look3 (d := 0) n5 n7 ht (hT t ht).1 hK ?_)
        exact op_c h _ (Or.inl ⟨rfl, rfl⟩) (d := 3) (by decide) (rc_look3 0 rsc rar n6 n7 ht) (fun _ => hy.2.1) (u0 rsc) rfl
      · refine op_go (d := 2) h (by decide) (kp_look4 (d := 0) n5 n7 ht (hT t ht).1 hK ?_)
        exact op_c h _ (Or.inl ⟨rfl, rfl⟩) (d := 3) (by decide) (rc_look4 0 rsc rar n6 n7 ht) (fun _ => (fpC_rPass hF 8 (Nat.le_refl _)).symm) (u0 rsc) rfl
    · refine op_go (d := 2) h (by decide) (kp_look_no (d := 0) n5 n7 ht (hT t ht).1 (fun z => z2 ⟨z.1, z.2⟩) ?_)
      exact op_c h 0 (Or.inr ⟨_, rfl, rfl, by decide⟩) (d := 3) (by decide) (rc_look_no 0 rsc rar n6 n7 ht (out5 z1)) (fun z => absurd z (by decide)) (u00 rsc 2) rfl
  · rw [← n5] at z1
    rw [← n6] at z2
    refine op_go (d := 2) h (by decide) (kp_look_bad (d := 0) q z1 ?_)
    exact op_c h 0 (Or.inr ⟨_, rfl, rfl, by decide⟩) (d := 3) (by decide) (rc_look_bad 0 rsc rar q z2) (fun z => absurd z (by decide)) (u00 rsc 1) rfl
