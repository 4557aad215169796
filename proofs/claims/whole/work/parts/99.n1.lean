/-- the first j fields of the class's object are laid -/
def M0 (j : Nat) (al : Nat → Nat) (f : Nat → Value) : Prop := ∀ k, f k = if k < j then cF al (fun _ => 0) .null 0 k else defaultValue (px_ty 9 k)
theorem M0.al {j m : Nat} {al al2 : Nat → Nat} {f : Nat → Value} (h : M0 j al f) (ha : ∀ k, k < m → al2 k = al k) (hj : ∀ k, k < j → cKd 0 k < m + 3) : M0 j al2 f := fun k => by
  rw [h k]
  by_cases c : k < j
  · rw [if_pos c, if_pos c]
    have hd := hj k c
    unfold cF
    generalize hx : cKd 0 k = x at hd
    match x, hd with
    | 0, _ => rfl
    | 1, _ => rfl
    | 2, _ => rfl
    | d + 3, hd =>
      show Value.ref (al d) = .ref (al2 d)
      rw [ha d (by omega)]
  · rw [if_neg c, if_neg c]
theorem M0.put {j c : Nat} {al : Nat → Nat} {f : Nat → Value} (h : M0 j al f) (hc : cKd 0 j = c + 3) : M0 (j + 1) al (va_up f j (.ref (al c))) := fun k => by
  by_cases e : k = j
  · subst e
    rw [va_up_self, if_pos (by omega), cF_r hc]
  · rw [va_up_ne _ _ e, h k]
    by_cases z : k < j
    · rw [if_pos z, if_pos (by omega)]
    · rw [if_neg z, if_neg (by omega)]
/-- what the class's constructor leaves -/
def sc0 : Nat → Nat → Int32 := fun c k => if c = 0 ∧ k = 8 then -1 else 0
def ar0 : Nat → Nat → Int32 := fun _ _ => 0
theorem pm_le' {fx : px_F} {d d2 k : Nat} {as : List Value} {al : Nat → Nat} {n : Nat} {g : Nat → px_O} {Q : px_Q} (h : pm px_tb fx d k as al n g Q) (hd : d ≤ d2) : pm px_tb fx d2 k as al n g Q := by
  have := pm_le h (d2 - d)
  rwa [Nat.add_sub_cancel' hd] at this
/-- one part of the class is made and laid into its field -/
theorem i_step {m m2 j : Nat} {al b1 b2 : Nat → Nat} {g gn g2 : Nat → px_O} {f : Nat → Value} {o : px_O} (hI : iN m al g) (hf : g 0 = .inr (9, f)) (hM : M0 j al f) (hn : gn = va_up g m o) (hm0 : 1 ≤ m) (y : ∀ k, k < m → b1 k = al k) (z : ∀ k, k < m + 1 → b2 k = b1 k) (w : ∀ k, k < m → g2 k = gn k) (hnew : ∀ c, m ≤ c → c < m2 → c ≠ 19 → g2 c = iO b2 c) (hm : m = 1 ∨ m = 3 ∨ m = 9 ∨ m = 12 ∨ m = 16 ∨ m = 18 ∨ m = 19 ∨ ∃ i, m = 20 + 2 * i ∧ i ≤ 8) (hj : ∀ k, k < j → cKd 0 k < m + 3) : iN m2 b2 g2 ∧ g2 0 = .inr (9, f) ∧ M0 j b2 f ∧ (∀ k, k < m → b2 k = al k) := by
  have e : ∀ k, k < m → g2 k = g k := fun k hk => by rw [w k hk, hn, va_up_ne _ _ (by omega)]
  have ba : ∀ k, k < m → b2 k = al k := fun k hk => (z k (by omega)).trans (y k hk)
  refine ⟨fun c k1 k2 k3 => ?_, (e 0 (by omega)).trans hf, hM.al ba hj, ba⟩
  by_cases k4 : c < m
  · exact hI.al ba (fun k _ k2 => e k k2) hm c k1 k4 k3
  · exact hnew c (by omega) k2 k3
theorem i_put {m j c : Nat} {al : Nat → Nat} {g : Nat → px_O} {f : Nat → Value} (hI : iN m al g) (hM : M0 j al f) (hc : cKd 0 j = c + 3) : iN m al (va_up g 0 (.inr (9, va_up f j (.ref (al c))))) ∧ va_up g 0 (.inr (9, va_up f j (.ref (al c)))) 0 = .inr (9, va_up f j (.ref (al c))) ∧ M0 (j + 1) al (va_up f j (.ref (al c))) := ⟨fun c k1 k2 k3 => by rw [va_up_ne _ _ (by omega)]; exact hI c k1 k2 k3, va_up_self _ _ _, hM.put hc⟩
/-- the object's fields at the end -/
theorem M0.all {al : Nat → Nat} {f : Nat → Value} (h : M0 7 al f) : va_up f 8 (.int (-1)) = cF al (sc0 0) .null 0 := by
  funext k
  match k with
  | 0 => rw [va_up_ne _ _ (by decide), h 0]; rfl
  | 1 => rw [va_up_ne _ _ (by decide), h 1]; rfl
  | 2 => rw [va_up_ne _ _ (by decide), h 2]; rfl
  | 3 => rw [va_up_ne _ _ (by decide), h 3]; rfl
  | 4 => rw [va_up_ne _ _ (by decide), h 4]; rfl
  | 5 => rw [va_up_ne _ _ (by decide), h 5]; rfl
  | 6 => rw [va_up_ne _ _ (by decide), h 6]; rfl
  | 7 => rw [va_up_ne _ _ (by decide), h 7]; rfl
  | 8 => rw [va_up_self]; rfl
  | 9 => rw [va_up_ne _ _ (by decide), h 9]; rfl
  | 10 => rw [va_up_ne _ _ (by decide), h 10]; rfl
  | 11 => rw [va_up_ne _ _ (by decide), h 11]; rfl
  | 12 => rw [va_up_ne _ _ (by decide), h 12]; rfl
  | k + 13 => rw [va_up_ne _ _ (by omega), h (k + 13), if_neg (by omega)]; rfl
theorem cF0_al {al al2 : Nat → Nat} {m : Nat} (hm : 20 ≤ m) (ha : ∀ k, k < m → al2 k = al k) : cF al2 (sc0 0) .null 0 = cF al (sc0 0) .null 0 := by
  funext k
  have hd : cKd 0 k < m + 3 := by
    unfold cKd
    split <;> omega
  unfold cF
  generalize hx : cKd 0 k = x at hd
  match x, hd with
  | 0, _ => rfl
  | 1, _ => rfl
  | 2, _ => rfl
  | d + 3, hd =>
    show Value.ref (al2 d) = .ref (al d)
    rw [ha d (by omega)]
def lR (al : Nat → Nat) (i : Nat) : Nat → Option Nat := fun k => if k < i then some (al (20 + 2 * k)) else none
theorem lR_s (al : Nat → Nat) (i : Nat) : va_up (lR al i) i (some (al (20 + 2 * i))) = lR al (i + 1) := by
  funext k
  by_cases e : k = i
  · subst e; rw [va_up_self]; unfold lR; rw [if_pos (by omega)]
  · rw [va_up_ne _ _ e]
    unfold lR
    by_cases c : k < i
    · rw [if_pos c, if_pos (by omega)]
    · rw [if_neg c, if_neg (by omega)]
theorem lR_al {al al2 : Nat → Nat} {i : Nat} (ha : ∀ k, k < 20 + 2 * i → al2 k = al k) : lR al2 i = lR al i := by
  funext k
  unfold lR
  by_cases c : k < i
  · rw [if_pos c, if_pos c, ha _ (by omega)]
  · rw [if_neg c, if_neg c]
set_option maxHeartbeats 4000000 in
set_option maxRecDepth 20000 in
theorem i_learn {fx : px_F} {d : Nat} {Q : px_Q} {al0 : Nat → Nat} (hQ : ∀ (al2 : Nat → Nat) (g2 : Nat → px_O), (∀ k, k < 1 → al2 k = al0 k) → CR al2 36 g2 sc0 ar0 .null (fun _ => none) → Q (.inl none) al2 36 g2) : ∀ (m i : Nat) (al : Nat → Nat) (g : Nat → px_O), i + m = 8 → (∀ k, k < 1 → al k = al0 k) → iN (20 + 2 * i) al g → g 0 = .inr (9, cF al (sc0 0) .null 0) → g 19 = .inl (4, 8, .inr (.inr (.inr (.inr (lR al i))))) → pg px_tb fx (px_body pm_X9_init) (pm px_tb fx (d + 2)) Q al (20 + 2 * i) g 84 [.ref (al 0), .int (nI i)] [] (19 + 2 * i) (1549 + 9 * i)
  | 0, i, al, g, hm, hal, hI, hf, h19 => by
    obtain rfl : i = 8 := by omega
    refine pg_iload_n dX9_init_84 rfl ?_
    refine pg_bipush dX9_init_85 (show (Int8.ofInt (8)).toInt32 = (8) by decide) ?_
    refine pg_icmp_ge (tgt := 109) dX9_init_87 (by decide) (fun c87 => ?_) (fun c87 => absurd (by decide) c87)
    refine pg_vret dX9_init_109 rfl (Nat.le_of_ble_eq_true rfl) (Nat.le_of_ble_eq_true rfl) ?_
    refine hQ al g hal ⟨by decide, fun c hc => ?_⟩
    by_cases c0 : c = 0
    · subst c0; rw [hf]; rfl
    · by_cases c19 : c = 19
      · subst c19; rw [h19]; rfl
      · rw [hI c (by omega) (by omega) c19]
        unfold iO
        have e1 : sc0 c = fun _ => 0 := by funext k; unfold sc0; rw [if_neg (fun z => c0 z.1)]
        rw [e1]
        rfl
  | m + 1, i, al, g, hm, hal, hI, hf, h19 => by
    refine pg_iload_n dX9_init_84 rfl ?_
    refine pg_bipush dX9_init_85 (show (Int8.ofInt (8)).toInt32 = (8) by decide) ?_
    refine pg_icmp_ge (tgt := 109) dX9_init_87 (by decide) (fun c87 => absurd c87 (nI_ge (b := 8) (by omega) (by decide))) (fun c87 => ?_)
    refine pg_aload_n dX9_init_90 rfl rfl ?_
    refine pg_get (j := 0) dX9_init_91 fk_X9_52 (by omega) hf (v := .ref (al 19)) rfl ?_
    refine pg_iload_n dX9_init_94 rfl ?_
    refine pg_new dX9_init_95 nw_X9_50 (show 19 + 2 * i + 1 ≤ 35 by omega) (show 1549 + 9 * i + 1 ≤ 1621 by omega) (fun c1 y1 => ?_)
    rw [← y1 0 (by omega), ← y1 19 (by omega)]
    refine pg_dup dX9_init_98 rfl ?_
    refine pg_callIN (pm_mono px_tb fx (d + 2)) (j := 20 + 2 * i) (As := []) dX9_init_99 cl_X9_60 rfl (Nat.le_of_ble_eq_true rfl) (show 19 + 2 * i + 1 + 1 ≤ 35 by omega) (show 1549 + 9 * i + 1 + 8 ≤ 1621 by omega) ?_
    have en : 20 + 2 * i + 1 = 21 + 2 * i := by omega
    rw [en]
    refine pm_le' (i_X1 (d := d) (l := i) (by omega) (va_up_self _ _ _) (fun b2 g2 z1 e1 e2 w1 => ?_)) (by omega)
    have eg : ∀ k, k < 20 + 2 * i → g2 k = g k := fun k hk => by rw [w1 k hk, va_up_ne _ _ (by omega)]
    have ba : ∀ k, k < 20 + 2 * i → b2 k = al k := fun k hk => (z1 k (by omega)).trans (y1 k hk)
    have hI2 : iN (22 + 2 * i) b2 g2 := fun c k1 k2 k3 => by
      by_cases k4 : c < 20 + 2 * i
      · exact hI.al ba (fun k _ k2 => eg k k2) (Or.inr (Or.inr (Or.inr (Or.inr (Or.inr (Or.inr (Or.inr ⟨i, rfl, by omega⟩))))))) c k1 k4 k3
      · have : c = 20 + 2 * i ∨ c = 21 + 2 * i := by omega
        rcases this with rfl | rfl
        · exact e1
        · exact e2
    have hf2 : g2 0 = .inr (9, cF b2 (sc0 0) .null 0) := by rw [eg 0 (by omega), hf, cF0_al (m := 20 + 2 * i) (by omega) ba]
    have h192 : g2 19 = .inl (4, 8, .inr (.inr (.inr (.inr (lR b2 i))))) := by rw [eg 19 (by omega), h19, lR_al ba]
    show pg px_tb fx (px_body pm_X9_init) (pm px_tb fx (d + 2)) Q b2 (22 + 2 * i) g2 102 _ _ (19 + 2 * i + 1 + 1) (1549 + 9 * i + 1 + 8)
    rw [← z1 0 (by omega), ← z1 19 (by omega), ← z1 (20 + 2 * i) (by omega)]
    refine pg_aast (j := 19) (j2 := 20 + 2 * i) (t := 4) (ci := 1) dX9_init_102 (by omega) (by omega) (Or.inl ⟨rfl, rfl⟩) h192 (f2 := cF b2 (fun _ => 0) .null (20 + 2 * i)) (e1.trans (cObj_o (lrn_c (by omega)))) (vp_in_nI (n := i) (by omega) (by decide)) ?_
    rw [nI_clamp (by omega), lR_s]
    refine pg_iinc dX9_init_103 rfl (show Int32.ofInt (1) = (1) by decide) ?_
    refine pg_goto (tgt := 84) dX9_init_106 (by decide) ?_
    rw [nI_1]
    have q := i_learn (fx := fx) (d := d) hQ m (i + 1) b2 (va_up g2 19 (.inl (4, 8, .inr (.inr (.inr (.inr (lR b2 (i + 1)))))))) (by omega) (fun k hk => (ba k (by omega)).trans (hal k hk)) (fun c k1 k2 k3 => by rw [va_up_ne _ _ k3]; exact hI2 c k1 (by omega) k3) (by rw [va_up_ne _ _ (by decide)]; exact hf2) (va_up_self _ _ _)
    rw [show 20 + 2 * (i + 1) = 22 + 2 * i by omega, show 19 + 2 * (i + 1) = 19 + 2 * i + 1 + 1 by omega, show 1549 + 9 * (i + 1) = 1549 + 9 * i + 1 + 8 by omega] at q
    exact q
set_option maxHeartbeats 4000000 in
set_option maxRecDepth 20000 in
theorem i_X9 {fx : px_F} {d : Nat} {Q : px_Q} {al0 : Nat → Nat} {g : Nat → px_O} (hj : g 0 = .inr (9, (fun k => defaultValue (px_ty 9 k)))) (hQ : ∀ (al2 : Nat → Nat) (g2 : Nat → px_O), (∀ k, k < 1 → al2 k = al0 k) → CR al2 36 g2 sc0 ar0 .null (fun _ => none) → Q (.inl none) al2 36 g2) : pm px_tb fx (d + 3) 61 [.ref (al0 0)] al0 1 g Q := by
  refine ⟨pm_X9_init, rfl, rfl, Nat.le_of_ble_eq_true rfl, ?_⟩
  show pg px_tb fx (px_body pm_X9_init) (pm px_tb fx (d + 2)) Q al0 1 g 0 [.ref (al0 0), .float 0] [] 0 0
  have hal0 : ∀ k, k < 1 → al0 k = al0 k := fun _ _ => rfl
  have hI0 : iN 1 al0 g := fun c k1 k2 k3 => by omega
  have hM0 : M0 0 al0 (fun k => defaultValue (px_ty 9 k)) := fun k => by rw [if_neg (by omega)]
  have hf0 := hj
  generalize (fun k => defaultValue (px_ty 9 k)) = f0 at hf0 hM0
  refine pg_aload_n dX9_init_0 rfl rfl ?_
  refine pg_objInit dX9_init_1 oi_X9 oi_i oi_c (Nat.le_of_ble_eq_true rfl) ?_
  refine pg_aload_n dX9_init_4 rfl rfl ?_
  refine pg_new dX9_init_5 nw_X9_9 (Nat.le_of_ble_eq_true rfl) (Nat.le_of_ble_eq_true rfl) (fun c1 y1 => ?_)
  rw [← y1 0 (by decide)]
  refine pg_dup dX9_init_8 rfl ?_
  refine pg_callIN (pm_mono px_tb fx (d + 2)) (j := 1) (As := []) dX9_init_9 cl_X9_11 rfl (Nat.le_of_ble_eq_true rfl) (Nat.le_of_ble_eq_true rfl) (Nat.le_of_ble_eq_true rfl) ?_
  refine pm_le' (i_X7 (d := d) (va_up_self _ _ _) (fun b1 h1 z1 e1 e2 w1 => ?_)) (by omega)
  obtain ⟨kI1, kf1, kM1, ba1⟩ := i_step (m2 := 3) hI0 hf0 hM0 rfl (by decide) y1 z1 w1 (fun c k1 k2 k3 => by
      have : c = 1 ∨ c = 2 := by omega
      rcases this with rfl | rfl
      · exact e1
      · exact e2) (by omega) (by decide)
  show pg px_tb fx (px_body pm_X9_init) (pm px_tb fx (d + 2)) Q b1 3 h1 12 _ _ _ _
  rw [← z1 0 (by decide), ← z1 1 (by decide)]
  have hal1 : ∀ k, k < 1 → b1 k = al0 k := fun k hk => (ba1 k (by omega)).trans (hal0 k hk)
  refine pg_putF (j := 0) dX9_init_12 fk_X9_12 ⟨_, _, _, rfl, rfl⟩ rfl rfl (by decide) kf1 rfl rfl ?_
  obtain ⟨hI1, hf1, hM1⟩ := i_put (j := 0) (c := 1) kI1 kM1 rfl
  generalize va_up f0 0 (.ref (b1 1)) = f1 at hI1 hf1 hM1 ⊢
  generalize va_up h1 0 (.inr (9, f1)) = g1 at hI1 hf1 hM1 ⊢
  refine pg_aload_n dX9_init_15 rfl rfl ?_
  refine pg_new dX9_init_16 nw_X9_16 (Nat.le_of_ble_eq_true rfl) (Nat.le_of_ble_eq_true rfl) (fun c2 y2 => ?_)
  rw [← y2 0 (by decide)]
  refine pg_dup dX9_init_19 rfl ?_
  refine pg_callIN (pm_mono px_tb fx (d + 2)) (j := 3) (As := []) dX9_init_20 cl_X9_18 rfl (Nat.le_of_ble_eq_true rfl) (Nat.le_of_ble_eq_true rfl) (Nat.le_of_ble_eq_true rfl) ?_
  refine pm_le' (i_X3 (d := d) (va_up_self _ _ _) (fun b2 h2 z2 e w2 => ?_)) (by omega)
  obtain ⟨kI2, kf2, kM2, ba2⟩ := i_step (m2 := 9) hI1 hf1 hM1 rfl (by decide) y2 z2 w2 (fun c k1 k2 k3 => e c k1 k2) (by omega) (by decide)
  show pg px_tb fx (px_body pm_X9_init) (pm px_tb fx (d + 2)) Q b2 9 h2 23 _ _ _ _
  rw [← z2 0 (by decide), ← z2 3 (by decide)]
  have hal2 : ∀ k, k < 1 → b2 k = al0 k := fun k hk => (ba2 k (by omega)).trans (hal1 k hk)
  refine pg_putF (j := 0) dX9_init_23 fk_X9_19 ⟨_, _, _, rfl, rfl⟩ rfl rfl (by decide) kf2 rfl rfl ?_
  obtain ⟨hI2, hf2, hM2⟩ := i_put (j := 1) (c := 3) kI2 kM2 rfl
  generalize va_up f1 1 (.ref (b2 3)) = f2 at hI2 hf2 hM2 ⊢
  generalize va_up h2 0 (.inr (9, f2)) = g2 at hI2 hf2 hM2 ⊢
  refine pg_aload_n dX9_init_26 rfl rfl ?_
  refine pg_new dX9_init_27 nw_X9_23 (Nat.le_of_ble_eq_true rfl) (Nat.le_of_ble_eq_true rfl) (fun c3 y3 => ?_)
  rw [← y3 0 (by decide)]
  refine pg_dup dX9_init_30 rfl ?_
  refine pg_callIN (pm_mono px_tb fx (d + 2)) (j := 9) (As := []) dX9_init_31 cl_X9_25 rfl (Nat.le_of_ble_eq_true rfl) (Nat.le_of_ble_eq_true rfl) (Nat.le_of_ble_eq_true rfl) ?_
  refine pm_le' (i_X2 (d := d) (va_up_self _ _ _) (fun b3 h3 z3 e9 e10 e11 w3 => ?_)) (by omega)
  obtain ⟨kI3, kf3, kM3, ba3⟩ := i_step (m2 := 12) hI2 hf2 hM2 rfl (by decide) y3 z3 w3 (fun c k1 k2 k3 => by
      have : c = 9 ∨ c = 10 ∨ c = 11 := by omega
      rcases this with rfl | rfl | rfl
      · exact e9
      · exact e10
      · exact e11) (by omega) (by decide)
  show pg px_tb fx (px_body pm_X9_init) (pm px_tb fx (d + 2)) Q b3 12 h3 34 _ _ _ _
  rw [← z3 0 (by decide), ← z3 9 (by decide)]
  have hal3 : ∀ k, k < 1 → b3 k = al0 k := fun k hk => (ba3 k (by omega)).trans (hal2 k hk)
  refine pg_putF (j := 0) dX9_init_34 fk_X9_26 ⟨_, _, _, rfl, rfl⟩ rfl rfl (by decide) kf3 rfl rfl ?_
  obtain ⟨hI3, hf3, hM3⟩ := i_put (j := 2) (c := 9) kI3 kM3 rfl
  generalize va_up f2 2 (.ref (b3 9)) = f3 at hI3 hf3 hM3 ⊢
  generalize va_up h3 0 (.inr (9, f3)) = g3 at hI3 hf3 hM3 ⊢
  refine pg_aload_n dX9_init_37 rfl rfl ?_
  refine pg_new dX9_init_38 nw_X9_30 (Nat.le_of_ble_eq_true rfl) (Nat.le_of_ble_eq_true rfl) (fun c4 y4 => ?_)
  rw [← y4 0 (by decide)]
  refine pg_dup dX9_init_41 rfl ?_
  refine pg_callIN (pm_mono px_tb fx (d + 2)) (j := 12) (As := []) dX9_init_42 cl_X9_32 rfl (Nat.le_of_ble_eq_true rfl) (Nat.le_of_ble_eq_true rfl) (Nat.le_of_ble_eq_true rfl) ?_
  refine pm_le' (i_X0 (d := d) (va_up_self _ _ _) (fun b4 h4 z4 e w4 => ?_)) (by omega)
  obtain ⟨kI4, kf4, kM4, ba4⟩ := i_step (m2 := 16) hI3 hf3 hM3 rfl (by decide) y4 z4 w4 (fun c k1 k2 k3 => e c k1 k2) (by omega) (by decide)
  show pg px_tb fx (px_body pm_X9_init) (pm px_tb fx (d + 2)) Q b4 16 h4 45 _ _ _ _
  rw [← z4 0 (by decide), ← z4 12 (by decide)]
  have hal4 : ∀ k, k < 1 → b4 k = al0 k := fun k hk => (ba4 k (by omega)).trans (hal3 k hk)
  refine pg_putF (j := 0) dX9_init_45 fk_X9_33 ⟨_, _, _, rfl, rfl⟩ rfl rfl (by decide) kf4 rfl rfl ?_
  obtain ⟨hI4, hf4, hM4⟩ := i_put (j := 3) (c := 12) kI4 kM4 rfl
  generalize va_up f3 3 (.ref (b4 12)) = f4 at hI4 hf4 hM4 ⊢
  generalize va_up h4 0 (.inr (9, f4)) = g4 at hI4 hf4 hM4 ⊢
  refine pg_aload_n dX9_init_48 rfl rfl ?_
  refine pg_new dX9_init_49 nw_X9_37 (Nat.le_of_ble_eq_true rfl) (Nat.le_of_ble_eq_true rfl) (fun c5 y5 => ?_)
  rw [← y5 0 (by decide)]
  refine pg_dup dX9_init_52 rfl ?_
  refine pg_callIN (pm_mono px_tb fx (d + 2)) (j := 16) (As := []) dX9_init_53 cl_X9_39 rfl (Nat.le_of_ble_eq_true rfl) (Nat.le_of_ble_eq_true rfl) (Nat.le_of_ble_eq_true rfl) ?_
  refine pm_le' (i_X4 (d := d) (va_up_self _ _ _) (fun b5 h5 z5 e16 e17 w5 => ?_)) (by omega)
  obtain ⟨kI5, kf5, kM5, ba5⟩ := i_step (m2 := 18) hI4 hf4 hM4 rfl (by decide) y5 z5 w5 (fun c k1 k2 k3 => by
      have : c = 16 ∨ c = 17 := by omega
      rcases this with rfl | rfl
      · exact e16
      · exact e17) (by omega) (by decide)
  show pg px_tb fx (px_body pm_X9_init) (pm px_tb fx (d + 2)) Q b5 18 h5 56 _ _ _ _
  rw [← z5 0 (by decide), ← z5 16 (by decide)]
  have hal5 : ∀ k, k < 1 → b5 k = al0 k := fun k hk => (ba5 k (by omega)).trans (hal4 k hk)
  refine pg_putF (j := 0) dX9_init_56 fk_X9_40 ⟨_, _, _, rfl, rfl⟩ rfl rfl (by decide) kf5 rfl rfl ?_
  obtain ⟨hI5, hf5, hM5⟩ := i_put (j := 4) (c := 16) kI5 kM5 rfl
  generalize va_up f4 4 (.ref (b5 16)) = f5 at hI5 hf5 hM5 ⊢
  generalize va_up h5 0 (.inr (9, f5)) = g5 at hI5 hf5 hM5 ⊢
  refine pg_aload_n dX9_init_59 rfl rfl ?_
  refine pg_bipush dX9_init_60 (show (Int8.ofInt (10)).toInt32 = (10) by decide) ?_
  refine pg_newq (t := 6) (N := 10) dX9_init_62 (Or.inr (Or.inr ⟨rfl, rfl⟩)) ck_X9_44 (by decide) rfl (by decide) (Nat.le_of_ble_eq_true rfl) (Nat.le_of_ble_eq_true rfl) (fun b6 z6 => ?_)
  obtain ⟨kI6, kf6, kM6, ba6⟩ := i_step (m2 := 19) (b1 := b6) (g2 := va_up g5 18 (.inl (6, 10, .inr (.inr (.inr (.inr (fun _ => none))))))) hI5 hf5 hM5 rfl (by decide) z6 (fun _ _ => rfl) (fun _ _ => rfl) (fun c k1 k2 k3 => by
    obtain rfl : c = 18 := by omega
    exact va_up_self _ _ _) (by omega) (by decide)
  rw [← z6 0 (by decide)]
  have hal6 : ∀ k, k < 1 → b6 k = al0 k := fun k hk => (ba6 k (by omega)).trans (hal5 k hk)
  refine pg_putF (j := 0) dX9_init_65 fk_X9_46 ⟨_, _, _, rfl, rfl⟩ rfl rfl (by decide) kf6 rfl rfl ?_
  obtain ⟨hI6, hf6, hM6⟩ := i_put (j := 5) (c := 18) kI6 kM6 rfl
  generalize va_up f5 5 (.ref (b6 18)) = f6 at hI6 hf6 hM6 ⊢
  generalize va_up (va_up g5 18 (.inl (6, 10, .inr (.inr (.inr (.inr (fun _ => none))))))) 0 (.inr (9, f6)) = g6 at hI6 hf6 hM6 ⊢
  refine pg_aload_n dX9_init_68 rfl rfl ?_
  refine pg_bipush dX9_init_69 (show (Int8.ofInt (8)).toInt32 = (8) by decide) ?_
  refine pg_newq (t := 4) (N := 8) dX9_init_71 (Or.inl ⟨rfl, rfl⟩) ck_X9_50 (by decide) rfl (by decide) (Nat.le_of_ble_eq_true rfl) (Nat.le_of_ble_eq_true rfl) (fun b7 z7 => ?_)
  obtain ⟨kI7, kf7, kM7, ba7⟩ := i_step (m2 := 20) (b1 := b7) (g2 := va_up g6 19 (.inl (4, 8, .inr (.inr (.inr (.inr (fun _ => none))))))) hI6 hf6 hM6 rfl (by decide) z7 (fun _ _ => rfl) (fun _ _ => rfl) (fun c k1 k2 k3 => by
    obtain rfl : c = 19 := by omega
    exact absurd rfl k3) (by omega) (by decide)
  rw [← z7 0 (by decide)]
  have hal7 : ∀ k, k < 1 → b7 k = al0 k := fun k hk => (ba7 k (by omega)).trans (hal6 k hk)
  refine pg_putF (j := 0) dX9_init_74 fk_X9_52 ⟨_, _, _, rfl, rfl⟩ rfl rfl (by decide) kf7 rfl rfl ?_
  obtain ⟨hI7, hf7, hM7⟩ := i_put (j := 6) (c := 19) kI7 kM7 rfl
  have h19 : va_up (va_up g6 19 (.inl (4, 8, .inr (.inr (.inr (.inr (fun _ => none))))))) 0 (.inr (9, va_up f6 6 (.ref (b7 19)))) 19 = .inl (4, 8, .inr (.inr (.inr (.inr (fun _ => none))))) := by rw [va_up_ne _ _ (by decide), va_up_self]
  generalize va_up f6 6 (.ref (b7 19)) = f7 at hI7 hf7 hM7 h19 ⊢
  generalize va_up (va_up g6 19 (.inl (4, 8, .inr (.inr (.inr (.inr (fun _ => none))))))) 0 (.inr (9, f7)) = g7 at hI7 hf7 hM7 h19 ⊢
  refine pg_aload_n dX9_init_77 rfl rfl ?_
  refine pg_iconst dX9_init_78 (show Int32.ofInt (-1) = (-1) by decide) ?_
  refine pg_put (j := 0) dX9_init_79 fk_X9_56 ⟨_, _, _, rfl, rfl⟩ (by decide) hf7 rfl rfl ?_
  rw [hM7.all]
  refine pg_iconst dX9_init_82 (show Int32.ofInt (0) = (0) by decide) ?_
  refine pg_istore_n dX9_init_83 (Nat.le_of_ble_eq_true rfl) ?_
  exact i_learn (d := d) hQ 8 0 b7 (va_up g7 0 (.inr (9, cF b7 (sc0 0) .null 0))) (by omega) hal7 (fun c k1 k2 k3 => by rw [va_up_ne _ _ (by omega)]; exact hI7 c k1 (by omega) k3) (va_up_self _ _ _) (by rw [va_up_ne _ _ (by decide), h19]; rfl)
