/-- the class's cells from 1 on, as its constructor leaves them -/
def iO (al : Nat → Nat) (c : Nat) : px_O := cObj al (fun _ => 0) (fun _ => 0) .null (fun _ => none) c
def iN (m : Nat) (al : Nat → Nat) (g : Nat → px_O) : Prop := ∀ c, 1 ≤ c → c < m → c ≠ 19 → g c = iO al c
theorem iF_al {al al2 : Nat → Nat} {m c : Nat} (ha : ∀ k, k < m → al2 k = al k) (h1 : ∀ k, cKd c k < m + 3) : cF al2 (fun _ => 0) .null c = cF al (fun _ => 0) .null c := by
  funext k
  have hd := h1 k
  unfold cF
  generalize hx : cKd c k = x at hd
  match x, hd with
  | 0, _ => rfl
  | 1, _ => rfl
  | 2, _ => rfl
  | d + 3, hd =>
    show Value.ref (al2 d) = .ref (al d)
    rw [ha d (by omega)]
theorem iO_al {al al2 : Nat → Nat} {m c : Nat} (ha : ∀ k, k < m → al2 k = al k) (h1 : ∀ k, cKd c k < m + 3) (h2 : c ≠ 19) (h3 : c = 13 → 16 ≤ m) (hc : c < 36) : iO al2 c = iO al c := by
  by_cases c13 : c = 13
  · subst c13
    have : (fun i => if i < 2 then some (al2 (14 + i)) else none) = (fun i => if i < 2 then some (al (14 + i)) else none) := by
      funext i
      by_cases e : i < 2
      · rw [if_pos e, if_pos e, ha _ (by have := h3 rfl; omega)]
      · rw [if_neg e, if_neg e]
    show (Sum.inl (7, 2, .inr (.inr (.inr (.inr (fun i => if i < 2 then some (al2 (14 + i)) else none))))) : px_O) = .inl (7, 2, .inr (.inr (.inr (.inr (fun i => if i < 2 then some (al (14 + i)) else none)))))
    rw [this]
  · unfold iO cObj
    rw [iF_al ha h1, if_neg c13, if_neg c13]
    split
    · rfl
    · rename_i q1
      split
      · rfl
      · rename_i q2
        by_cases c18 : c = 18
        · rw [if_pos c18, if_pos c18]
        · exfalso
          match c, hc with
          | 0, _ => first | exact absurd rfl h2 | exact absurd rfl c13 | exact absurd rfl c18 | exact absurd q1 (by decide) | exact absurd q2 (by decide)
          | 1, _ => first | exact absurd rfl h2 | exact absurd rfl c13 | exact absurd rfl c18 | exact absurd q1 (by decide) | exact absurd q2 (by decide)
          | 2, _ => first | exact absurd rfl h2 | exact absurd rfl c13 | exact absurd rfl c18 | exact absurd q1 (by decide) | exact absurd q2 (by decide)
          | 3, _ => first | exact absurd rfl h2 | exact absurd rfl c13 | exact absurd rfl c18 | exact absurd q1 (by decide) | exact absurd q2 (by decide)
          | 4, _ => first | exact absurd rfl h2 | exact absurd rfl c13 | exact absurd rfl c18 | exact absurd q1 (by decide) | exact absurd q2 (by decide)
          | 5, _ => first | exact absurd rfl h2 | exact absurd rfl c13 | exact absurd rfl c18 | exact absurd q1 (by decide) | exact absurd q2 (by decide)
          | 6, _ => first | exact absurd rfl h2 | exact absurd rfl c13 | exact absurd rfl c18 | exact absurd q1 (by decide) | exact absurd q2 (by decide)
          | 7, _ => first | exact absurd rfl h2 | exact absurd rfl c13 | exact absurd rfl c18 | exact absurd q1 (by decide) | exact absurd q2 (by decide)
          | 8, _ => first | exact absurd rfl h2 | exact absurd rfl c13 | exact absurd rfl c18 | exact absurd q1 (by decide) | exact absurd q2 (by decide)
          | 9, _ => first | exact absurd rfl h2 | exact absurd rfl c13 | exact absurd rfl c18 | exact absurd q1 (by decide) | exact absurd q2 (by decide)
          | 10, _ => first | exact absurd rfl h2 | exact absurd rfl c13 | exact absurd rfl c18 | exact absurd q1 (by decide) | exact absurd q2 (by decide)
          | 11, _ => first | exact absurd rfl h2 | exact absurd rfl c13 | exact absurd rfl c18 | exact absurd q1 (by decide) | exact absurd q2 (by decide)
          | 12, _ => first | exact absurd rfl h2 | exact absurd rfl c13 | exact absurd rfl c18 | exact absurd q1 (by decide) | exact absurd q2 (by decide)
          | 13, _ => first | exact absurd rfl h2 | exact absurd rfl c13 | exact absurd rfl c18 | exact absurd q1 (by decide) | exact absurd q2 (by decide)
          | 14, _ => first | exact absurd rfl h2 | exact absurd rfl c13 | exact absurd rfl c18 | exact absurd q1 (by decide) | exact absurd q2 (by decide)
          | 15, _ => first | exact absurd rfl h2 | exact absurd rfl c13 | exact absurd rfl c18 | exact absurd q1 (by decide) | exact absurd q2 (by decide)
          | 16, _ => first | exact absurd rfl h2 | exact absurd rfl c13 | exact absurd rfl c18 | exact absurd q1 (by decide) | exact absurd q2 (by decide)
          | 17, _ => first | exact absurd rfl h2 | exact absurd rfl c13 | exact absurd rfl c18 | exact absurd q1 (by decide) | exact absurd q2 (by decide)
          | 18, _ => first | exact absurd rfl h2 | exact absurd rfl c13 | exact absurd rfl c18 | exact absurd q1 (by decide) | exact absurd q2 (by decide)
          | 19, _ => first | exact absurd rfl h2 | exact absurd rfl c13 | exact absurd rfl c18 | exact absurd q1 (by decide) | exact absurd q2 (by decide)
          | 20, _ => first | exact absurd rfl h2 | exact absurd rfl c13 | exact absurd rfl c18 | exact absurd q1 (by decide) | exact absurd q2 (by decide)
          | 21, _ => first | exact absurd rfl h2 | exact absurd rfl c13 | exact absurd rfl c18 | exact absurd q1 (by decide) | exact absurd q2 (by decide)
          | 22, _ => first | exact absurd rfl h2 | exact absurd rfl c13 | exact absurd rfl c18 | exact absurd q1 (by decide) | exact absurd q2 (by decide)
          | 23, _ => first | exact absurd rfl h2 | exact absurd rfl c13 | exact absurd rfl c18 | exact absurd q1 (by decide) | exact absurd q2 (by decide)
          | 24, _ => first | exact absurd rfl h2 | exact absurd rfl c13 | exact absurd rfl c18 | exact absurd q1 (by decide) | exact absurd q2 (by decide)
          | 25, _ => first | exact absurd rfl h2 | exact absurd rfl c13 | exact absurd rfl c18 | exact absurd q1 (by decide) | exact absurd q2 (by decide)
          | 26, _ => first | exact absurd rfl h2 | exact absurd rfl c13 | exact absurd rfl c18 | exact absurd q1 (by decide) | exact absurd q2 (by decide)
          | 27, _ => first | exact absurd rfl h2 | exact absurd rfl c13 | exact absurd rfl c18 | exact absurd q1 (by decide) | exact absurd q2 (by decide)
          | 28, _ => first | exact absurd rfl h2 | exact absurd rfl c13 | exact absurd rfl c18 | exact absurd q1 (by decide) | exact absurd q2 (by decide)
          | 29, _ => first | exact absurd rfl h2 | exact absurd rfl c13 | exact absurd rfl c18 | exact absurd q1 (by decide) | exact absurd q2 (by decide)
          | 30, _ => first | exact absurd rfl h2 | exact absurd rfl c13 | exact absurd rfl c18 | exact absurd q1 (by decide) | exact absurd q2 (by decide)
          | 31, _ => first | exact absurd rfl h2 | exact absurd rfl c13 | exact absurd rfl c18 | exact absurd q1 (by decide) | exact absurd q2 (by decide)
          | 32, _ => first | exact absurd rfl h2 | exact absurd rfl c13 | exact absurd rfl c18 | exact absurd q1 (by decide) | exact absurd q2 (by decide)
          | 33, _ => first | exact absurd rfl h2 | exact absurd rfl c13 | exact absurd rfl c18 | exact absurd q1 (by decide) | exact absurd q2 (by decide)
          | 34, _ => first | exact absurd rfl h2 | exact absurd rfl c13 | exact absurd rfl c18 | exact absurd q1 (by decide) | exact absurd q2 (by decide)
          | 35, _ => first | exact absurd rfl h2 | exact absurd rfl c13 | exact absurd rfl c18 | exact absurd q1 (by decide) | exact absurd q2 (by decide)
          | k + 36, hk => omega
theorem iN.al {al al2 : Nat → Nat} {m : Nat} {g g2 : Nat → px_O} (h : iN m al g) (ha : ∀ k, k < m → al2 k = al k) (hg : ∀ k, 1 ≤ k → k < m → g2 k = g k) (hm : m = 1 ∨ m = 3 ∨ m = 9 ∨ m = 12 ∨ m = 16 ∨ m = 18 ∨ m = 19 ∨ ∃ i, m = 20 + 2 * i ∧ i ≤ 8) : iN m al2 g2 := fun c h1 h2 h3 => by
  have hm9 : m = 1 ∨ m = 3 ∨ m = 9 ∨ m = 12 ∨ m = 16 ∨ m = 18 ∨ m = 19 ∨ (m % 2 = 0 ∧ 20 ≤ m ∧ m ≤ 36) := by
    rcases hm with z | z | z | z | z | z | z | ⟨i, z, z2⟩ <;> omega
  rw [hg c h1 h2, h c h1 h2 h3]
  refine (iO_al ha (fun k => ?_) h3 (fun z => by omega) (by omega)).symm
  unfold cKd
  split <;> omega
set_option maxHeartbeats 4000000 in
set_option maxRecDepth 20000 in
theorem i_X7 {fx : px_F} {d : Nat} {Q : px_Q} {al : Nat → Nat} {g : Nat → px_O} (hj : g 1 = .inr (7, (fun k => defaultValue (px_ty 7 k)))) (hQ : ∀ (al2 : Nat → Nat) (g2 : Nat → px_O), (∀ k, k < 2 → al2 k = al k) → g2 1 = iO al2 1 → g2 2 = iO al2 2 → (∀ k, k < 1 → g2 k = g k) → Q (.inl none) al2 3 g2) : pm px_tb fx (d + 1) 49 [.ref (al 1)] al 2 g Q := by
  refine ⟨pm_X7_init, rfl, rfl, Nat.le_of_ble_eq_true rfl, ?_⟩
  show pg px_tb fx (px_body pm_X7_init) (pm px_tb fx d) Q al 2 g 0 [.ref (al 1)] [] 0 0
  refine pg_aload_n dX7_init_0 rfl rfl ?_
  refine pg_objInit dX7_init_1 oi_X7 oi_i oi_c (Nat.le_of_ble_eq_true rfl) ?_
  refine pg_aload_n dX7_init_4 rfl rfl ?_
  refine pg_sipush dX7_init_5 (show (Int16.ofInt (400)).toInt32 = (400) by decide) ?_
  refine pg_newi (N := 400) dX7_init_8 (by decide) rfl (by decide) (Nat.le_of_ble_eq_true rfl) (Nat.le_of_ble_eq_true rfl) (fun a0 h0 => ?_)
  rw [← h0 1 (by decide)]
  refine pg_putF (j := 1) dX7_init_10 fk_X7_9 ⟨_, _, _, rfl, rfl⟩ rfl rfl (by decide) ((va_up_ne _ _ (by decide)).trans hj) rfl rfl ?_
  refine pg_vret dX7_init_13 rfl (Nat.le_of_ble_eq_true rfl) (Nat.le_of_ble_eq_true rfl) ?_
  refine hQ a0 _ (fun j hj9 => h0 j hj9) ?_ ?_ (fun k hk => ?_)
  · rw [va_up_self]
    show (Sum.inr (7, va_up ((fun k => defaultValue (px_ty 7 k))) 0 (.ref (a0 2))) : px_O) = .inr (7, cF a0 (fun _ => 0) .null 1)
    congr 2
    funext k
    match k with
    | 0 => rfl
    | 1 => rfl
    | 2 => rfl
    | k + 3 => rfl
  · simp (disch := decide) only [va_up_self, va_up_ne]
    rfl
  · simp (disch := omega) only [va_up_ne]
set_option maxHeartbeats 4000000 in
set_option maxRecDepth 20000 in
theorem i_X6 {fx : px_F} {d : Nat} {Q : px_Q} {al : Nat → Nat} {g : Nat → px_O} (hj : g 4 = .inr (6, (fun k => defaultValue (px_ty 6 k)))) (hQ : ∀ (al2 : Nat → Nat) (g2 : Nat → px_O), (∀ k, k < 5 → al2 k = al k) → g2 4 = iO al2 4 → g2 5 = iO al2 5 → g2 6 = iO al2 6 → (∀ k, k < 4 → g2 k = g k) → Q (.inl none) al2 7 g2) : pm px_tb fx (d + 1) 43 [.ref (al 4)] al 5 g Q := by
  refine ⟨pm_X6_init, rfl, rfl, Nat.le_of_ble_eq_true rfl, ?_⟩
  show pg px_tb fx (px_body pm_X6_init) (pm px_tb fx d) Q al 5 g 0 [.ref (al 4)] [] 0 0
  refine pg_aload_n dX6_init_0 rfl rfl ?_
  refine pg_objInit dX6_init_1 oi_X6 oi_i oi_c (Nat.le_of_ble_eq_true rfl) ?_
  refine pg_aload_n dX6_init_4 rfl rfl ?_
  refine pg_bipush dX6_init_5 (show (Int8.ofInt (121)).toInt32 = (121) by decide) ?_
  refine pg_newi (N := 121) dX6_init_7 (by decide) rfl (by decide) (Nat.le_of_ble_eq_true rfl) (Nat.le_of_ble_eq_true rfl) (fun a0 h0 => ?_)
  rw [← h0 4 (by decide)]
  refine pg_putF (j := 4) dX6_init_9 fk_X6_9 ⟨_, _, _, rfl, rfl⟩ rfl rfl (by decide) ((va_up_ne _ _ (by decide)).trans hj) rfl rfl ?_
  refine pg_aload_n dX6_init_12 rfl rfl ?_
  refine pg_bipush dX6_init_13 (show (Int8.ofInt (121)).toInt32 = (121) by decide) ?_
  refine pg_newi (N := 121) dX6_init_15 (by decide) rfl (by decide) (Nat.le_of_ble_eq_true rfl) (Nat.le_of_ble_eq_true rfl) (fun a1 h1 => ?_)
  rw [← h1 4 (by decide)]
  refine pg_putF (j := 4) dX6_init_17 fk_X6_15 ⟨_, _, _, rfl, rfl⟩ rfl rfl (by decide) ((va_up_ne _ _ (by decide)).trans (va_up_self _ _ _)) rfl rfl ?_
  refine pg_vret dX6_init_20 rfl (Nat.le_of_ble_eq_true rfl) (Nat.le_of_ble_eq_true rfl) ?_
  refine hQ a1 _ (fun j hj9 => ((h1 j (by omega)).trans (h0 j hj9))) ?_ ?_ ?_ (fun k hk => ?_)
  · rw [va_up_self]
    show (Sum.inr (6, va_up (va_up ((fun k => defaultValue (px_ty 6 k))) 0 (.ref (a0 5))) 1 (.ref (a1 6))) : px_O) = .inr (6, cF a1 (fun _ => 0) .null 4)
    rw [show a0 5 = a1 5 from (h1 5 (by decide)).symm]
    congr 2
    funext k
    match k with
    | 0 => rfl
    | 1 => rfl
    | 2 => rfl
    | 3 => rfl
    | 4 => rfl
    | k + 5 => rfl
  · simp (disch := decide) only [va_up_self, va_up_ne]
    rfl
  · simp (disch := decide) only [va_up_self, va_up_ne]
    rfl
  · simp (disch := omega) only [va_up_ne]
set_option maxHeartbeats 4000000 in
set_option maxRecDepth 20000 in
theorem i_X2 {fx : px_F} {d : Nat} {Q : px_Q} {al : Nat → Nat} {g : Nat → px_O} (hj : g 9 = .inr (2, (fun k => defaultValue (px_ty 2 k)))) (hQ : ∀ (al2 : Nat → Nat) (g2 : Nat → px_O), (∀ k, k < 10 → al2 k = al k) → g2 9 = iO al2 9 → g2 10 = iO al2 10 → g2 11 = iO al2 11 → (∀ k, k < 9 → g2 k = g k) → Q (.inl none) al2 12 g2) : pm px_tb fx (d + 1) 8 [.ref (al 9)] al 10 g Q := by
  refine ⟨pm_X2_init, rfl, rfl, Nat.le_of_ble_eq_true rfl, ?_⟩
  show pg px_tb fx (px_body pm_X2_init) (pm px_tb fx d) Q al 10 g 0 [.ref (al 9)] [] 0 0
  refine pg_aload_n dX2_init_0 rfl rfl ?_
  refine pg_objInit dX2_init_1 oi_X2 oi_i oi_c (Nat.le_of_ble_eq_true rfl) ?_
  refine pg_aload_n dX2_init_4 rfl rfl ?_
  refine pg_iconst dX2_init_5 (show Int32.ofInt (5) = (5) by decide) ?_
  refine pg_newi (N := 5) dX2_init_6 (by decide) rfl (by decide) (Nat.le_of_ble_eq_true rfl) (Nat.le_of_ble_eq_true rfl) (fun a0 h0 => ?_)
  rw [← h0 9 (by decide)]
  refine pg_putF (j := 9) dX2_init_8 fk_X2_9 ⟨_, _, _, rfl, rfl⟩ rfl rfl (by decide) ((va_up_ne _ _ (by decide)).trans hj) rfl rfl ?_
  refine pg_aload_n dX2_init_11 rfl rfl ?_
  refine pg_bipush dX2_init_12 (show (Int8.ofInt (120)).toInt32 = (120) by decide) ?_
  refine pg_newi (N := 120) dX2_init_14 (by decide) rfl (by decide) (Nat.le_of_ble_eq_true rfl) (Nat.le_of_ble_eq_true rfl) (fun a1 h1 => ?_)
  rw [← h1 9 (by decide)]
  refine pg_putF (j := 9) dX2_init_16 fk_X2_15 ⟨_, _, _, rfl, rfl⟩ rfl rfl (by decide) ((va_up_ne _ _ (by decide)).trans (va_up_self _ _ _)) rfl rfl ?_
  refine pg_vret dX2_init_19 rfl (Nat.le_of_ble_eq_true rfl) (Nat.le_of_ble_eq_true rfl) ?_
  refine hQ a1 _ (fun j hj9 => ((h1 j (by omega)).trans (h0 j hj9))) ?_ ?_ ?_ (fun k hk => ?_)
  · rw [va_up_self]
    show (Sum.inr (2, va_up (va_up ((fun k => defaultValue (px_ty 2 k))) 0 (.ref (a0 10))) 1 (.ref (a1 11))) : px_O) = .inr (2, cF a1 (fun _ => 0) .null 9)
    rw [show a0 10 = a1 10 from (h1 10 (by decide)).symm]
    congr 2
    funext k
    match k with
    | 0 => rfl
    | 1 => rfl
    | 2 => rfl
    | 3 => rfl
    | 4 => rfl
    | 5 => rfl
    | 6 => rfl
    | 7 => rfl
    | k + 8 => rfl
  · simp (disch := decide) only [va_up_self, va_up_ne]
    rfl
  · simp (disch := decide) only [va_up_self, va_up_ne]
    rfl
  · simp (disch := omega) only [va_up_ne]
set_option maxHeartbeats 4000000 in
set_option maxRecDepth 20000 in
theorem i_X4 {fx : px_F} {d : Nat} {Q : px_Q} {al : Nat → Nat} {g : Nat → px_O} (hj : g 16 = .inr (4, (fun k => defaultValue (px_ty 4 k)))) (hQ : ∀ (al2 : Nat → Nat) (g2 : Nat → px_O), (∀ k, k < 17 → al2 k = al k) → g2 16 = iO al2 16 → g2 17 = iO al2 17 → (∀ k, k < 16 → g2 k = g k) → Q (.inl none) al2 18 g2) : pm px_tb fx (d + 1) 34 [.ref (al 16)] al 17 g Q := by
  refine ⟨pm_X4_init, rfl, rfl, Nat.le_of_ble_eq_true rfl, ?_⟩
  show pg px_tb fx (px_body pm_X4_init) (pm px_tb fx d) Q al 17 g 0 [.ref (al 16)] [] 0 0
  refine pg_aload_n dX4_init_0 rfl rfl ?_
  refine pg_objInit dX4_init_1 oi_X4 oi_i oi_c (Nat.le_of_ble_eq_true rfl) ?_
  refine pg_aload_n dX4_init_4 rfl rfl ?_
  refine pg_sipush dX4_init_5 (show (Int16.ofInt (256)).toInt32 = (256) by decide) ?_
  refine pg_newi (N := 256) dX4_init_8 (by decide) rfl (by decide) (Nat.le_of_ble_eq_true rfl) (Nat.le_of_ble_eq_true rfl) (fun a0 h0 => ?_)
  rw [← h0 16 (by decide)]
  refine pg_putF (j := 16) dX4_init_10 fk_X4_9 ⟨_, _, _, rfl, rfl⟩ rfl rfl (by decide) ((va_up_ne _ _ (by decide)).trans hj) rfl rfl ?_
  refine pg_vret dX4_init_13 rfl (Nat.le_of_ble_eq_true rfl) (Nat.le_of_ble_eq_true rfl) ?_
  refine hQ a0 _ (fun j hj9 => h0 j hj9) ?_ ?_ (fun k hk => ?_)
  · rw [va_up_self]
    show (Sum.inr (4, va_up ((fun k => defaultValue (px_ty 4 k))) 0 (.ref (a0 17))) : px_O) = .inr (4, cF a0 (fun _ => 0) .null 16)
    congr 2
    funext k
    match k with
    | 0 => rfl
    | 1 => rfl
    | k + 2 => rfl
  · simp (disch := decide) only [va_up_self, va_up_ne]
    rfl
  · simp (disch := omega) only [va_up_ne]
set_option maxHeartbeats 4000000 in
set_option maxRecDepth 20000 in
theorem i_X3 {fx : px_F} {d : Nat} {Q : px_Q} {al : Nat → Nat} {g : Nat → px_O} (hj : g 3 = .inr (3, (fun k => defaultValue (px_ty 3 k)))) (hQ : ∀ (al2 : Nat → Nat) (g2 : Nat → px_O), (∀ k, k < 4 → al2 k = al k) → (∀ c, 3 ≤ c → c < 9 → g2 c = iO al2 c) → (∀ k, k < 3 → g2 k = g k) → Q (.inl none) al2 9 g2) : pm px_tb fx (d + 2) 20 [.ref (al 3)] al 4 g Q := by
  refine ⟨pm_X3_init, rfl, rfl, Nat.le_of_ble_eq_true rfl, ?_⟩
  show pg px_tb fx (px_body pm_X3_init) (pm px_tb fx (d + 1)) Q al 4 g 0 [.ref (al 3)] [] 0 0
  refine pg_aload_n dX3_init_0 rfl rfl ?_
  refine pg_objInit dX3_init_1 oi_X3 oi_i oi_c (Nat.le_of_ble_eq_true rfl) ?_
  refine pg_aload_n dX3_init_4 rfl rfl ?_
  refine pg_new dX3_init_5 nw_X3_9 (Nat.le_of_ble_eq_true rfl) (Nat.le_of_ble_eq_true rfl) (fun a0 h0 => ?_)
  rw [← h0 3 (by decide)]
  refine pg_dup dX3_init_8 rfl ?_
  refine pg_callIN (pm_mono px_tb fx (d + 1)) (j := 4) (As := []) dX3_init_9 cl_X3_11 rfl (Nat.le_of_ble_eq_true rfl) (Nat.le_of_ble_eq_true rfl) (Nat.le_of_ble_eq_true rfl) ?_
  refine i_X6 (va_up_self _ _ _) (fun a1 g1 h1 e4 e5 e6 hg1 => ?_)
  show pg px_tb fx (px_body pm_X3_init) (pm px_tb fx (d + 1)) Q a1 7 g1 12 _ _ _ _
  rw [← h1 3 (by decide), ← h1 4 (by decide)]
  refine pg_putF (j := 3) dX3_init_12 fk_X3_12 ⟨_, _, _, rfl, rfl⟩ rfl rfl (by decide) ((hg1 3 (by decide)).trans ((va_up_ne _ _ (by decide)).trans hj)) rfl rfl ?_
  refine pg_aload_n dX3_init_15 rfl rfl ?_
  refine pg_bipush dX3_init_16 (show (Int8.ofInt (121)).toInt32 = (121) by decide) ?_
  refine pg_newi (N := 121) dX3_init_18 (by decide) rfl (by decide) (Nat.le_of_ble_eq_true rfl) (Nat.le_of_ble_eq_true rfl) (fun a2 h2 => ?_)
  rw [← h2 3 (by decide)]
  refine pg_putF (j := 3) dX3_init_20 fk_X3_18 ⟨_, _, _, rfl, rfl⟩ rfl rfl (by decide) ((va_up_ne _ _ (by decide)).trans (va_up_self _ _ _)) rfl rfl ?_
  refine pg_aload_n dX3_init_23 rfl rfl ?_
  refine pg_bipush dX3_init_24 (show (Int8.ofInt (121)).toInt32 = (121) by decide) ?_
  refine pg_newi (N := 121) dX3_init_26 (by decide) rfl (by decide) (Nat.le_of_ble_eq_true rfl) (Nat.le_of_ble_eq_true rfl) (fun a3 h3 => ?_)
  rw [← h3 3 (by decide)]
  refine pg_putF (j := 3) dX3_init_28 fk_X3_22 ⟨_, _, _, rfl, rfl⟩ rfl rfl (by decide) ((va_up_ne _ _ (by decide)).trans (va_up_self _ _ _)) rfl rfl ?_
  refine pg_vret dX3_init_31 rfl (Nat.le_of_ble_eq_true rfl) (Nat.le_of_ble_eq_true rfl) ?_
  have q : ∀ c, 4 ≤ c → c < 7 → iO a1 c = iO a3 c := fun c z1 z2 => (iO_al (m := 7) (fun k hk => (h3 k (by omega)).trans (h2 k hk)) (fun k => by unfold cKd; split <;> omega) (by omega) (fun z => by omega) (by omega)).symm
  refine hQ a3 _ (fun j hj9 => (h3 j (by omega)).trans ((h2 j (by omega)).trans ((h1 j (by omega)).trans (h0 j hj9)))) (fun c z1 z2 => ?_) (fun k hk => ?_)
  · have : c = 3 ∨ c = 4 ∨ c = 5 ∨ c = 6 ∨ c = 7 ∨ c = 8 := by omega
    rcases this with rfl | rfl | rfl | rfl | rfl | rfl
    · rw [va_up_self]
      show (Sum.inr (3, va_up (va_up (va_up (fun k => defaultValue (px_ty 3 k)) 0 (.ref (a1 4))) 1 (.ref (a2 7))) 2 (.ref (a3 8))) : px_O) = .inr (3, cF a3 (fun _ => 0) .null 3)
      rw [show a1 4 = a3 4 from ((h3 4 (by decide)).trans (h2 4 (by decide))).symm, show a2 7 = a3 7 from (h3 7 (by decide)).symm]
      congr 2
      funext k
      match k with
      | 0 => rfl
      | 1 => rfl
      | 2 => rfl
      | 3 => rfl
      | 4 => rfl
      | k + 5 => rfl
    · simp (disch := decide) only [va_up_ne]
      rw [e4, q 4 (by decide) (by decide)]
    · simp (disch := decide) only [va_up_ne]
      rw [e5, q 5 (by decide) (by decide)]
    · simp (disch := decide) only [va_up_ne]
      rw [e6, q 6 (by decide) (by decide)]
    · simp (disch := decide) only [va_up_self, va_up_ne]
      rfl
    · simp (disch := decide) only [va_up_self, va_up_ne]
      rfl
  · rw [va_up_ne _ _ (by omega), va_up_ne _ _ (by omega), va_up_ne _ _ (by omega), va_up_ne _ _ (by omega), va_up_ne _ _ (by omega), hg1 k (by omega), va_up_ne _ _ (by omega)]
set_option maxHeartbeats 4000000 in
set_option maxRecDepth 20000 in
theorem i_X0 {fx : px_F} {d : Nat} {Q : px_Q} {al : Nat → Nat} {g : Nat → px_O} (hj : g 12 = .inr (0, (fun k => defaultValue (px_ty 0 k)))) (hQ : ∀ (al2 : Nat → Nat) (g2 : Nat → px_O), (∀ k, k < 13 → al2 k = al k) → (∀ c, 12 ≤ c → c < 16 → g2 c = iO al2 c) → (∀ k, k < 12 → g2 k = g k) → Q (.inl none) al2 16 g2) : pm px_tb fx (d + 1) 0 [.ref (al 12)] al 13 g Q := by
  refine ⟨pm_X0_init, rfl, rfl, Nat.le_of_ble_eq_true rfl, ?_⟩
  show pg px_tb fx (px_body pm_X0_init) (pm px_tb fx d) Q al 13 g 0 [.ref (al 12)] [] 0 0
  refine pg_aload_n dX0_init_0 rfl rfl ?_
  refine pg_objInit dX0_init_1 oi_X0 oi_i oi_c (Nat.le_of_ble_eq_true rfl) ?_
  refine pg_aload_n dX0_init_4 rfl rfl ?_
  refine pg_iconst dX0_init_5 (show Int32.ofInt (2) = (2) by decide) ?_
  refine pg_bipush dX0_init_6 (show (Int8.ofInt (121)).toInt32 = (121) by decide) ?_
  refine pg_mna (N := 121) dX0_init_8 ck_X0_9 (by decide) rfl (by decide) (Nat.le_of_ble_eq_true rfl) (Nat.le_of_ble_eq_true rfl) (fun a0 h0 => ?_)
  rw [← h0 12 (by decide)]
  refine pg_putF (j := 12) dX0_init_12 fk_X0_11 ⟨_, _, _, rfl, rfl⟩ rfl rfl (by decide) ((va_up_ne _ _ (by decide)).trans ((va_up_ne _ _ (by decide)).trans ((va_up_ne _ _ (by decide)).trans hj))) rfl rfl ?_
  refine pg_vret dX0_init_15 rfl (Nat.le_of_ble_eq_true rfl) (Nat.le_of_ble_eq_true rfl) ?_
  refine hQ a0 _ h0 (fun c z1 z2 => ?_) (fun k hk => ?_)
  · have : c = 12 ∨ c = 13 ∨ c = 14 ∨ c = 15 := by omega
    rcases this with rfl | rfl | rfl | rfl
    · rw [va_up_self]
      show (Sum.inr (0, va_up (fun k => defaultValue (px_ty 0 k)) 0 (.ref (a0 13))) : px_O) = .inr (0, cF a0 (fun _ => 0) .null 12)
      congr 2
      funext k
      match k with
      | 0 => rfl
      | 1 => rfl
      | 2 => rfl
      | k + 3 => rfl
    · simp (disch := decide) only [va_up_self, va_up_ne]
      rfl
    · simp (disch := decide) only [va_up_self, va_up_ne]
      rfl
    · simp (disch := decide) only [va_up_self, va_up_ne]
      rfl
  · rw [va_up_ne _ _ (by omega), va_up_ne _ _ (by omega), va_up_ne _ _ (by omega), va_up_ne _ _ (by omega)]
theorem lrn_k1 {l : Nat} (hl : l < 8) (k : Nat) : cKd (20 + 2 * l) (k + 1) = 1 := by
  match l, hl with
  | 0, _ => rfl
  | 1, _ => rfl
  | 2, _ => rfl
  | 3, _ => rfl
  | 4, _ => rfl
  | 5, _ => rfl
  | 6, _ => rfl
  | 7, _ => rfl
set_option maxHeartbeats 4000000 in
set_option maxRecDepth 20000 in
theorem i_X1 {fx : px_F} {d : Nat} {Q : px_Q} {al : Nat → Nat} {g : Nat → px_O} {l : Nat} (hl : l < 8) (hj : g (20 + 2 * l) = .inr (1, (fun k => defaultValue (px_ty 1 k)))) (hQ : ∀ (al2 : Nat → Nat) (g2 : Nat → px_O), (∀ k, k < 21 + 2 * l → al2 k = al k) → g2 (20 + 2 * l) = iO al2 (20 + 2 * l) → g2 (21 + 2 * l) = iO al2 (21 + 2 * l) → (∀ k, k < 20 + 2 * l → g2 k = g k) → Q (.inl none) al2 (22 + 2 * l) g2) : pm px_tb fx (d + 1) 4 [.ref (al (20 + 2 * l))] al (21 + 2 * l) g Q := by
  refine ⟨pm_X1_init, rfl, rfl, Nat.le_of_ble_eq_true rfl, ?_⟩
  show pg px_tb fx (px_body pm_X1_init) (pm px_tb fx d) Q al (21 + 2 * l) g 0 [.ref (al (20 + 2 * l))] [] 0 0
  refine pg_aload_n dX1_init_0 rfl rfl ?_
  refine pg_objInit dX1_init_1 oi_X1 oi_i oi_c (Nat.le_of_ble_eq_true rfl) ?_
  refine pg_aload_n dX1_init_4 rfl rfl ?_
  refine pg_bipush dX1_init_5 (show (Int8.ofInt (8)).toInt32 = (8) by decide) ?_
  refine pg_newi (N := 8) dX1_init_7 (by decide) rfl (by decide) (Nat.le_of_ble_eq_true rfl) (Nat.le_of_ble_eq_true rfl) (fun a0 h0 => ?_)
  rw [← h0 (20 + 2 * l) (by omega)]
  refine pg_putF (j := 20 + 2 * l) dX1_init_9 fk_X1_9 ⟨_, _, _, rfl, rfl⟩ rfl rfl (by omega) ((va_up_ne _ _ (by omega)).trans hj) rfl rfl ?_
  refine pg_vret dX1_init_12 rfl (Nat.le_of_ble_eq_true rfl) (Nat.le_of_ble_eq_true rfl) ?_
  have en : 21 + 2 * l + 1 = 22 + 2 * l := by omega
  rw [en]
  refine hQ a0 _ h0 ?_ ?_ (fun k hk => ?_)
  · rw [va_up_self]
    unfold iO
    rw [cObj_o (lrn_c hl)]
    congr 2
    funext k
    match k with
    | 0 => rw [va_up_self, cF_r (lrn_k hl)]
    | k + 1 =>
      rw [va_up_ne _ _ (by omega)]
      unfold cF
      rw [lrn_k1 hl k]
      rfl
  · rw [va_up_ne _ _ (by omega), va_up_self]
    unfold iO
    rw [cObj_a (lrn_n hl) (lrn_a hl)]
  · rw [va_up_ne _ _ (by omega), va_up_ne _ _ (by omega)]
