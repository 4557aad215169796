def rfi (a : Nat) : Nat := match a with
  | 0 => 1
  | 1 => 8
  | 2 => 9
  | 3 => 13
  | 4 => 14
  | 5 => 15
  | 6 => 18
  | 7 => 19
  | 8 => 20
  | 9 => 26
  | 10 => 27
  | 11 => 28
  | 12 => 29
  | 13 => 33
  | 14 => 34
  | 15 => 35
  | 16 => 36
  | 17 => 37
  | 18 => 38
  | 19 => 39
  | 20 => 40
  | _ => 0
theorem rf_inj {k a : Nat} (h : rf_a k = some a) : k = rfi a := by
  unfold rf_a at h
  split at h <;> first | (cases h; rfl) | cases h
/-- the fields of the reference's object while its rows are laid -/
def RF (i : Nat) (al : Nat → Nat) (s : Nat → Int32) (f : Nat → Value) : Prop := ∀ k, f k = match rf_a k with
  | some a => if a < i then .ref (al (37 + a)) else .null
  | none => .int (s k)
def RW (i : Nat) (g : Nat → px_O) : Prop := ∀ a, a < i → g (37 + a) = .inl (rf_tag a, rf_len a, .inl (fun _ => 0))
theorem r_step {i k : Nat} {al al2 : Nat → Nat} {g : Nat → px_O} {f : Nat → Value} {s : Nat → Int32} {o : px_O} (hW : RW i g) (hF : RF i al s f) (ha : ∀ c, c < 37 + i → al2 c = al c) (hk : rf_a k = some i) (ho : o = .inl (rf_tag i, rf_len i, .inl (fun _ => 0))) : RW (i + 1) (va_up (va_up g (37 + i) o) 36 (.inr (10, va_up f k (.ref (al2 (37 + i)))))) ∧ RF (i + 1) al2 s (va_up f k (.ref (al2 (37 + i)))) ∧ ∀ c, c < 36 → va_up (va_up g (37 + i) o) 36 (.inr (10, va_up f k (.ref (al2 (37 + i))))) c = g c := by
  refine ⟨fun a h => ?_, fun j => ?_, fun c hc => by rw [va_up_ne _ _ (by omega), va_up_ne _ _ (by omega)]⟩
  · rw [va_up_ne _ _ (by omega)]
    by_cases e : a = i
    · subst e; rw [va_up_self, ho]
    · rw [va_up_ne _ _ (by omega)]; exact hW a (by omega)
  · by_cases e : j = k
    · subst e
      rw [va_up_self, hk]
      show _ = if i < i + 1 then Value.ref (al2 (37 + i)) else .null
      rw [if_pos (by omega)]
    · rw [va_up_ne _ _ e, hF j]
      cases q : rf_a j with
      | none => rfl
      | some a =>
        have ne : ¬ a = i := fun z => e (by rw [rf_inj q, rf_inj hk, z])
        show (if a < i then Value.ref (al (37 + a)) else .null) = if a < i + 1 then .ref (al2 (37 + a)) else .null
        by_cases c : a < i
        · rw [if_pos c, if_pos (by omega), ha _ (by omega)]
        · rw [if_neg c, if_neg (by omega)]
set_option maxHeartbeats 4000000 in
set_option maxRecDepth 20000 in
theorem i_X10 {fx : px_F} {d : Nat} {Q : px_Q} {al0 : Nat → Nat} {g : Nat → px_O} (hj : g 36 = .inr (10, (fun k => defaultValue (px_ty 10 k)))) (hQ : ∀ (al2 : Nat → Nat) (g2 : Nat → px_O), (∀ k, k < 37 → al2 k = al0 k) → RR al2 58 g2 36 (upd (fun _ => 0) 7 (-1)) (fun _ _ => 0) → (∀ k, k < 36 → g2 k = g k) → Q (.inl none) al2 58 g2) : pm px_tb fx (d + 1) 89 [.ref (al0 36)] al0 37 g Q := by
  refine ⟨pm_X10_init, rfl, rfl, Nat.le_of_ble_eq_true rfl, ?_⟩
  show pg px_tb fx (px_body pm_X10_init) (pm px_tb fx d) Q al0 37 g 0 [.ref (al0 36)] [] 0 0
  have hal0 : ∀ k, k < 37 → al0 k = al0 k := fun _ _ => rfl
  have hW0 : RW 0 g := fun a h => by omega
  have hR0 : RF 0 al0 (fun _ => 0) (fun k => defaultValue (px_ty 10 k)) := fun k => by
    match k with
    | 0 => rfl
    | 1 => rfl
    | 2 => rfl
    | 3 => rfl
    | 4 => rfl
    | 5 => rfl
    | 6 => rfl
    | 7 => rfl
    | 8 => rfl
    | 9 => rfl
    | 10 => rfl
    | 11 => rfl
    | 12 => rfl
    | 13 => rfl
    | 14 => rfl
    | 15 => rfl
    | 16 => rfl
    | 17 => rfl
    | 18 => rfl
    | 19 => rfl
    | 20 => rfl
    | 21 => rfl
    | 22 => rfl
    | 23 => rfl
    | 24 => rfl
    | 25 => rfl
    | 26 => rfl
    | 27 => rfl
    | 28 => rfl
    | 29 => rfl
    | 30 => rfl
    | 31 => rfl
    | 32 => rfl
    | 33 => rfl
    | 34 => rfl
    | 35 => rfl
    | 36 => rfl
    | 37 => rfl
    | 38 => rfl
    | 39 => rfl
    | 40 => rfl
    | 41 => rfl
    | 42 => rfl
    | 43 => rfl
    | k + 44 => rfl
  have hf0 := hj
  have hg0 : ∀ k, k < 36 → g k = g k := fun _ _ => rfl
  generalize (fun k => defaultValue (px_ty 10 k)) = f0 at hf0 hR0
  generalize hgg : g = g0 at hW0 hf0 ⊢
  rw [hgg] at hj
  replace hg0 : ∀ k, k < 36 → g0 k = g k := fun k _ => by rw [hgg]
  refine pg_aload_n dX10_init_0 rfl rfl ?_
  refine pg_objInit dX10_init_1 oi_X10 oi_i oi_c (Nat.le_of_ble_eq_true rfl) ?_
  refine pg_aload_n dX10_init_4 rfl rfl ?_
  refine pg_sipush dX10_init_5 (show (Int16.ofInt (400)).toInt32 = (400) by decide) ?_
  refine pg_newb (N := 400) dX10_init_8 (by decide) rfl (by decide) (Nat.le_of_ble_eq_true rfl) (Nat.le_of_ble_eq_true rfl) (fun b1 z1 => ?_)
  rw [← z1 36 (by decide)]
  refine pg_putF (j := 36) dX10_init_10 fk_X10_9 ⟨_, _, _, rfl, rfl⟩ rfl rfl (by decide) ((va_up_ne _ _ (by decide)).trans hf0) rfl rfl ?_
  obtain ⟨hW1, hR1, e1⟩ := r_step (i := 0) (k := 1) (o := (.inl (1, 400, .inl (fun _ => 0)))) hW0 hR0 z1 rfl rfl
  have hal1 : ∀ k, k < 37 → b1 k = al0 k := fun k hk => (z1 k (by omega)).trans (hal0 k hk)
  have hf1 := va_up_self (va_up g0 37 (.inl (1, 400, .inl (fun _ => 0)))) 36 (.inr (10, va_up f0 1 (.ref (b1 37))))
  generalize va_up f0 1 (.ref (b1 37)) = f1 at hW1 hR1 e1 hf1 ⊢
  generalize va_up (va_up g0 37 (.inl (1, 400, .inl (fun _ => 0)))) 36 (.inr (10, f1)) = g1 at hW1 hR1 e1 hf1 ⊢
  have hg1 : ∀ k, k < 36 → g1 k = g k := fun k hk => (e1 k hk).trans (hg0 k hk)
  refine pg_aload_n dX10_init_13 rfl rfl ?_
  refine pg_iconst dX10_init_14 (show Int32.ofInt (-1) = (-1) by decide) ?_
  refine pg_put (j := 36) dX10_init_15 fk_X10_13 ⟨_, _, _, rfl, rfl⟩ (by decide) hf1 rfl rfl ?_
  have kR1 : RF 1 b1 (upd (fun _ => 0) 7 (-1)) (va_up f1 7 (.int (-1))) := fun k => by
    by_cases e : k = 7
    · subst e; rw [va_up_self]; rfl
    · rw [va_up_ne _ _ e, hR1 k]
      cases rf_a k with
      | none => show Value.int 0 = .int (upd (fun _ => 0) 7 (-1) k); rw [pk_un e]
      | some a => rfl
  have kW1 : RW 1 (va_up g1 36 (.inr (10, va_up f1 7 (.int (-1))))) := fun a h => by rw [va_up_ne _ _ (by omega)]; exact hW1 a h
  have kf1 := va_up_self g1 36 (.inr (10, va_up f1 7 (.int (-1))) : px_O)
  have kg1 : ∀ k, k < 36 → va_up g1 36 (.inr (10, va_up f1 7 (.int (-1)))) k = g k := fun k hk => (va_up_ne _ _ (by omega)).trans (hg1 k hk)
  clear hW1 hR1 hf1 hg1 e1
  generalize va_up f1 7 (.int (-1)) = f1 at kW1 kR1 kf1 kg1 ⊢
  generalize va_up g1 36 (.inr (10, f1)) = g1 at kW1 kR1 kf1 kg1 ⊢
  have hW1 := kW1
  have hR1 := kR1
  have hf1 := kf1
  have hg1 := kg1
  refine pg_aload_n dX10_init_18 rfl rfl ?_
  refine pg_iconst dX10_init_19 (show Int32.ofInt (5) = (5) by decide) ?_
  refine pg_newi (N := 5) dX10_init_20 (by decide) rfl (by decide) (Nat.le_of_ble_eq_true rfl) (Nat.le_of_ble_eq_true rfl) (fun b2 z2 => ?_)
  rw [← z2 36 (by decide)]
  refine pg_putF (j := 36) dX10_init_22 fk_X10_17 ⟨_, _, _, rfl, rfl⟩ rfl rfl (by decide) ((va_up_ne _ _ (by decide)).trans hf1) rfl rfl ?_
  obtain ⟨hW2, hR2, e2⟩ := r_step (i := 1) (k := 8) (o := (.inl (0, 5, .inl (fun _ => 0)))) hW1 hR1 z2 rfl rfl
  have hal2 : ∀ k, k < 37 → b2 k = al0 k := fun k hk => (z2 k (by omega)).trans (hal1 k hk)
  have hf2 := va_up_self (va_up g1 38 (.inl (0, 5, .inl (fun _ => 0)))) 36 (.inr (10, va_up f1 8 (.ref (b2 38))))
  generalize va_up f1 8 (.ref (b2 38)) = f2 at hW2 hR2 e2 hf2 ⊢
  generalize va_up (va_up g1 38 (.inl (0, 5, .inl (fun _ => 0)))) 36 (.inr (10, f2)) = g2 at hW2 hR2 e2 hf2 ⊢
  have hg2 : ∀ k, k < 36 → g2 k = g k := fun k hk => (e2 k hk).trans (hg1 k hk)
  refine pg_aload_n dX10_init_25 rfl rfl ?_
  refine pg_bipush dX10_init_26 (show (Int8.ofInt (120)).toInt32 = (120) by decide) ?_
  refine pg_newi (N := 120) dX10_init_28 (by decide) rfl (by decide) (Nat.le_of_ble_eq_true rfl) (Nat.le_of_ble_eq_true rfl) (fun b3 z3 => ?_)
  rw [← z3 36 (by decide)]
  refine pg_putF (j := 36) dX10_init_30 fk_X10_21 ⟨_, _, _, rfl, rfl⟩ rfl rfl (by decide) ((va_up_ne _ _ (by decide)).trans hf2) rfl rfl ?_
  obtain ⟨hW3, hR3, e3⟩ := r_step (i := 2) (k := 9) (o := (.inl (0, 120, .inl (fun _ => 0)))) hW2 hR2 z3 rfl rfl
  have hal3 : ∀ k, k < 37 → b3 k = al0 k := fun k hk => (z3 k (by omega)).trans (hal2 k hk)
  have hf3 := va_up_self (va_up g2 39 (.inl (0, 120, .inl (fun _ => 0)))) 36 (.inr (10, va_up f2 9 (.ref (b3 39))))
  generalize va_up f2 9 (.ref (b3 39)) = f3 at hW3 hR3 e3 hf3 ⊢
  generalize va_up (va_up g2 39 (.inl (0, 120, .inl (fun _ => 0)))) 36 (.inr (10, f3)) = g3 at hW3 hR3 e3 hf3 ⊢
  have hg3 : ∀ k, k < 36 → g3 k = g k := fun k hk => (e3 k hk).trans (hg2 k hk)
  refine pg_aload_n dX10_init_33 rfl rfl ?_
  refine pg_bipush dX10_init_34 (show (Int8.ofInt (120)).toInt32 = (120) by decide) ?_
  refine pg_newi (N := 120) dX10_init_36 (by decide) rfl (by decide) (Nat.le_of_ble_eq_true rfl) (Nat.le_of_ble_eq_true rfl) (fun b4 z4 => ?_)
  rw [← z4 36 (by decide)]
  refine pg_putF (j := 36) dX10_init_38 fk_X10_24 ⟨_, _, _, rfl, rfl⟩ rfl rfl (by decide) ((va_up_ne _ _ (by decide)).trans hf3) rfl rfl ?_
  obtain ⟨hW4, hR4, e4⟩ := r_step (i := 3) (k := 13) (o := (.inl (0, 120, .inl (fun _ => 0)))) hW3 hR3 z4 rfl rfl
  have hal4 : ∀ k, k < 37 → b4 k = al0 k := fun k hk => (z4 k (by omega)).trans (hal3 k hk)
  have hf4 := va_up_self (va_up g3 40 (.inl (0, 120, .inl (fun _ => 0)))) 36 (.inr (10, va_up f3 13 (.ref (b4 40))))
  generalize va_up f3 13 (.ref (b4 40)) = f4 at hW4 hR4 e4 hf4 ⊢
  generalize va_up (va_up g3 40 (.inl (0, 120, .inl (fun _ => 0)))) 36 (.inr (10, f4)) = g4 at hW4 hR4 e4 hf4 ⊢
  have hg4 : ∀ k, k < 36 → g4 k = g k := fun k hk => (e4 k hk).trans (hg3 k hk)
  refine pg_aload_n dX10_init_41 rfl rfl ?_
  refine pg_bipush dX10_init_42 (show (Int8.ofInt (120)).toInt32 = (120) by decide) ?_
  refine pg_newi (N := 120) dX10_init_44 (by decide) rfl (by decide) (Nat.le_of_ble_eq_true rfl) (Nat.le_of_ble_eq_true rfl) (fun b5 z5 => ?_)
  rw [← z5 36 (by decide)]
  refine pg_putF (j := 36) dX10_init_46 fk_X10_27 ⟨_, _, _, rfl, rfl⟩ rfl rfl (by decide) ((va_up_ne _ _ (by decide)).trans hf4) rfl rfl ?_
  obtain ⟨hW5, hR5, e5⟩ := r_step (i := 4) (k := 14) (o := (.inl (0, 120, .inl (fun _ => 0)))) hW4 hR4 z5 rfl rfl
  have hal5 : ∀ k, k < 37 → b5 k = al0 k := fun k hk => (z5 k (by omega)).trans (hal4 k hk)
  have hf5 := va_up_self (va_up g4 41 (.inl (0, 120, .inl (fun _ => 0)))) 36 (.inr (10, va_up f4 14 (.ref (b5 41))))
  generalize va_up f4 14 (.ref (b5 41)) = f5 at hW5 hR5 e5 hf5 ⊢
  generalize va_up (va_up g4 41 (.inl (0, 120, .inl (fun _ => 0)))) 36 (.inr (10, f5)) = g5 at hW5 hR5 e5 hf5 ⊢
  have hg5 : ∀ k, k < 36 → g5 k = g k := fun k hk => (e5 k hk).trans (hg4 k hk)
  refine pg_aload_n dX10_init_49 rfl rfl ?_
  refine pg_bipush dX10_init_50 (show (Int8.ofInt (120)).toInt32 = (120) by decide) ?_
  refine pg_newz (N := 120) dX10_init_52 (by decide) rfl (by decide) (Nat.le_of_ble_eq_true rfl) (Nat.le_of_ble_eq_true rfl) (fun b6 z6 => ?_)
  rw [← z6 36 (by decide)]
  refine pg_putF (j := 36) dX10_init_54 fk_X10_30 ⟨_, _, _, rfl, rfl⟩ rfl rfl (by decide) ((va_up_ne _ _ (by decide)).trans hf5) rfl rfl ?_
  obtain ⟨hW6, hR6, e6⟩ := r_step (i := 5) (k := 15) (o := (.inl (2, 120, .inl (fun _ => 0)))) hW5 hR5 z6 rfl rfl
  have hal6 : ∀ k, k < 37 → b6 k = al0 k := fun k hk => (z6 k (by omega)).trans (hal5 k hk)
  have hf6 := va_up_self (va_up g5 42 (.inl (2, 120, .inl (fun _ => 0)))) 36 (.inr (10, va_up f5 15 (.ref (b6 42))))
  generalize va_up f5 15 (.ref (b6 42)) = f6 at hW6 hR6 e6 hf6 ⊢
  generalize va_up (va_up g5 42 (.inl (2, 120, .inl (fun _ => 0)))) 36 (.inr (10, f6)) = g6 at hW6 hR6 e6 hf6 ⊢
  have hg6 : ∀ k, k < 36 → g6 k = g k := fun k hk => (e6 k hk).trans (hg5 k hk)
  refine pg_aload_n dX10_init_57 rfl rfl ?_
  refine pg_bipush dX10_init_58 (show (Int8.ofInt (120)).toInt32 = (120) by decide) ?_
  refine pg_newi (N := 120) dX10_init_60 (by decide) rfl (by decide) (Nat.le_of_ble_eq_true rfl) (Nat.le_of_ble_eq_true rfl) (fun b7 z7 => ?_)
  rw [← z7 36 (by decide)]
  refine pg_putF (j := 36) dX10_init_62 fk_X10_34 ⟨_, _, _, rfl, rfl⟩ rfl rfl (by decide) ((va_up_ne _ _ (by decide)).trans hf6) rfl rfl ?_
  obtain ⟨hW7, hR7, e7⟩ := r_step (i := 6) (k := 18) (o := (.inl (0, 120, .inl (fun _ => 0)))) hW6 hR6 z7 rfl rfl
  have hal7 : ∀ k, k < 37 → b7 k = al0 k := fun k hk => (z7 k (by omega)).trans (hal6 k hk)
  have hf7 := va_up_self (va_up g6 43 (.inl (0, 120, .inl (fun _ => 0)))) 36 (.inr (10, va_up f6 18 (.ref (b7 43))))
  generalize va_up f6 18 (.ref (b7 43)) = f7 at hW7 hR7 e7 hf7 ⊢
  generalize va_up (va_up g6 43 (.inl (0, 120, .inl (fun _ => 0)))) 36 (.inr (10, f7)) = g7 at hW7 hR7 e7 hf7 ⊢
  have hg7 : ∀ k, k < 36 → g7 k = g k := fun k hk => (e7 k hk).trans (hg6 k hk)
  refine pg_aload_n dX10_init_65 rfl rfl ?_
  refine pg_bipush dX10_init_66 (show (Int8.ofInt (121)).toInt32 = (121) by decide) ?_
  refine pg_newz (N := 121) dX10_init_68 (by decide) rfl (by decide) (Nat.le_of_ble_eq_true rfl) (Nat.le_of_ble_eq_true rfl) (fun b8 z8 => ?_)
  rw [← z8 36 (by decide)]
  refine pg_putF (j := 36) dX10_init_70 fk_X10_37 ⟨_, _, _, rfl, rfl⟩ rfl rfl (by decide) ((va_up_ne _ _ (by decide)).trans hf7) rfl rfl ?_
  obtain ⟨hW8, hR8, e8⟩ := r_step (i := 7) (k := 19) (o := (.inl (2, 121, .inl (fun _ => 0)))) hW7 hR7 z8 rfl rfl
  have hal8 : ∀ k, k < 37 → b8 k = al0 k := fun k hk => (z8 k (by omega)).trans (hal7 k hk)
  have hf8 := va_up_self (va_up g7 44 (.inl (2, 121, .inl (fun _ => 0)))) 36 (.inr (10, va_up f7 19 (.ref (b8 44))))
  generalize va_up f7 19 (.ref (b8 44)) = f8 at hW8 hR8 e8 hf8 ⊢
  generalize va_up (va_up g7 44 (.inl (2, 121, .inl (fun _ => 0)))) 36 (.inr (10, f8)) = g8 at hW8 hR8 e8 hf8 ⊢
  have hg8 : ∀ k, k < 36 → g8 k = g k := fun k hk => (e8 k hk).trans (hg7 k hk)
  refine pg_aload_n dX10_init_73 rfl rfl ?_
  refine pg_sipush dX10_init_74 (show (Int16.ofInt (128)).toInt32 = (128) by decide) ?_
  refine pg_newi (N := 128) dX10_init_77 (by decide) rfl (by decide) (Nat.le_of_ble_eq_true rfl) (Nat.le_of_ble_eq_true rfl) (fun b9 z9 => ?_)
  rw [← z9 36 (by decide)]
  refine pg_putF (j := 36) dX10_init_79 fk_X10_40 ⟨_, _, _, rfl, rfl⟩ rfl rfl (by decide) ((va_up_ne _ _ (by decide)).trans hf8) rfl rfl ?_
  obtain ⟨hW9, hR9, e9⟩ := r_step (i := 8) (k := 20) (o := (.inl (0, 128, .inl (fun _ => 0)))) hW8 hR8 z9 rfl rfl
  have hal9 : ∀ k, k < 37 → b9 k = al0 k := fun k hk => (z9 k (by omega)).trans (hal8 k hk)
  have hf9 := va_up_self (va_up g8 45 (.inl (0, 128, .inl (fun _ => 0)))) 36 (.inr (10, va_up f8 20 (.ref (b9 45))))
  generalize va_up f8 20 (.ref (b9 45)) = f9 at hW9 hR9 e9 hf9 ⊢
  generalize va_up (va_up g8 45 (.inl (0, 128, .inl (fun _ => 0)))) 36 (.inr (10, f9)) = g9 at hW9 hR9 e9 hf9 ⊢
  have hg9 : ∀ k, k < 36 → g9 k = g k := fun k hk => (e9 k hk).trans (hg8 k hk)
  refine pg_aload_n dX10_init_82 rfl rfl ?_
  refine pg_bipush dX10_init_83 (show (Int8.ofInt (10)).toInt32 = (10) by decide) ?_
  refine pg_newi (N := 10) dX10_init_85 (by decide) rfl (by decide) (Nat.le_of_ble_eq_true rfl) (Nat.le_of_ble_eq_true rfl) (fun b10 z10 => ?_)
  rw [← z10 36 (by decide)]
  refine pg_putF (j := 36) dX10_init_87 fk_X10_43 ⟨_, _, _, rfl, rfl⟩ rfl rfl (by decide) ((va_up_ne _ _ (by decide)).trans hf9) rfl rfl ?_
  obtain ⟨hW10, hR10, e10⟩ := r_step (i := 9) (k := 26) (o := (.inl (0, 10, .inl (fun _ => 0)))) hW9 hR9 z10 rfl rfl
  have hal10 : ∀ k, k < 37 → b10 k = al0 k := fun k hk => (z10 k (by omega)).trans (hal9 k hk)
  have hf10 := va_up_self (va_up g9 46 (.inl (0, 10, .inl (fun _ => 0)))) 36 (.inr (10, va_up f9 26 (.ref (b10 46))))
  generalize va_up f9 26 (.ref (b10 46)) = f10 at hW10 hR10 e10 hf10 ⊢
  generalize va_up (va_up g9 46 (.inl (0, 10, .inl (fun _ => 0)))) 36 (.inr (10, f10)) = g10 at hW10 hR10 e10 hf10 ⊢
  have hg10 : ∀ k, k < 36 → g10 k = g k := fun k hk => (e10 k hk).trans (hg9 k hk)
  refine pg_aload_n dX10_init_90 rfl rfl ?_
  refine pg_bipush dX10_init_91 (show (Int8.ofInt (10)).toInt32 = (10) by decide) ?_
  refine pg_newi (N := 10) dX10_init_93 (by decide) rfl (by decide) (Nat.le_of_ble_eq_true rfl) (Nat.le_of_ble_eq_true rfl) (fun b11 z11 => ?_)
  rw [← z11 36 (by decide)]
  refine pg_putF (j := 36) dX10_init_95 fk_X10_46 ⟨_, _, _, rfl, rfl⟩ rfl rfl (by decide) ((va_up_ne _ _ (by decide)).trans hf10) rfl rfl ?_
  obtain ⟨hW11, hR11, e11⟩ := r_step (i := 10) (k := 27) (o := (.inl (0, 10, .inl (fun _ => 0)))) hW10 hR10 z11 rfl rfl
  have hal11 : ∀ k, k < 37 → b11 k = al0 k := fun k hk => (z11 k (by omega)).trans (hal10 k hk)
  have hf11 := va_up_self (va_up g10 47 (.inl (0, 10, .inl (fun _ => 0)))) 36 (.inr (10, va_up f10 27 (.ref (b11 47))))
  generalize va_up f10 27 (.ref (b11 47)) = f11 at hW11 hR11 e11 hf11 ⊢
  generalize va_up (va_up g10 47 (.inl (0, 10, .inl (fun _ => 0)))) 36 (.inr (10, f11)) = g11 at hW11 hR11 e11 hf11 ⊢
  have hg11 : ∀ k, k < 36 → g11 k = g k := fun k hk => (e11 k hk).trans (hg10 k hk)
  refine pg_aload_n dX10_init_98 rfl rfl ?_
  refine pg_bipush dX10_init_99 (show (Int8.ofInt (10)).toInt32 = (10) by decide) ?_
  refine pg_newi (N := 10) dX10_init_101 (by decide) rfl (by decide) (Nat.le_of_ble_eq_true rfl) (Nat.le_of_ble_eq_true rfl) (fun b12 z12 => ?_)
  rw [← z12 36 (by decide)]
  refine pg_putF (j := 36) dX10_init_103 fk_X10_49 ⟨_, _, _, rfl, rfl⟩ rfl rfl (by decide) ((va_up_ne _ _ (by decide)).trans hf11) rfl rfl ?_
  obtain ⟨hW12, hR12, e12⟩ := r_step (i := 11) (k := 28) (o := (.inl (0, 10, .inl (fun _ => 0)))) hW11 hR11 z12 rfl rfl
  have hal12 : ∀ k, k < 37 → b12 k = al0 k := fun k hk => (z12 k (by omega)).trans (hal11 k hk)
  have hf12 := va_up_self (va_up g11 48 (.inl (0, 10, .inl (fun _ => 0)))) 36 (.inr (10, va_up f11 28 (.ref (b12 48))))
  generalize va_up f11 28 (.ref (b12 48)) = f12 at hW12 hR12 e12 hf12 ⊢
  generalize va_up (va_up g11 48 (.inl (0, 10, .inl (fun _ => 0)))) 36 (.inr (10, f12)) = g12 at hW12 hR12 e12 hf12 ⊢
  have hg12 : ∀ k, k < 36 → g12 k = g k := fun k hk => (e12 k hk).trans (hg11 k hk)
  refine pg_aload_n dX10_init_106 rfl rfl ?_
  refine pg_sipush dX10_init_107 (show (Int16.ofInt (180)).toInt32 = (180) by decide) ?_
  refine pg_newi (N := 180) dX10_init_110 (by decide) rfl (by decide) (Nat.le_of_ble_eq_true rfl) (Nat.le_of_ble_eq_true rfl) (fun b13 z13 => ?_)
  rw [← z13 36 (by decide)]
  refine pg_putF (j := 36) dX10_init_112 fk_X10_52 ⟨_, _, _, rfl, rfl⟩ rfl rfl (by decide) ((va_up_ne _ _ (by decide)).trans hf12) rfl rfl ?_
  obtain ⟨hW13, hR13, e13⟩ := r_step (i := 12) (k := 29) (o := (.inl (0, 180, .inl (fun _ => 0)))) hW12 hR12 z13 rfl rfl
  have hal13 : ∀ k, k < 37 → b13 k = al0 k := fun k hk => (z13 k (by omega)).trans (hal12 k hk)
  have hf13 := va_up_self (va_up g12 49 (.inl (0, 180, .inl (fun _ => 0)))) 36 (.inr (10, va_up f12 29 (.ref (b13 49))))
  generalize va_up f12 29 (.ref (b13 49)) = f13 at hW13 hR13 e13 hf13 ⊢
  generalize va_up (va_up g12 49 (.inl (0, 180, .inl (fun _ => 0)))) 36 (.inr (10, f13)) = g13 at hW13 hR13 e13 hf13 ⊢
  have hg13 : ∀ k, k < 36 → g13 k = g k := fun k hk => (e13 k hk).trans (hg12 k hk)
  refine pg_aload_n dX10_init_115 rfl rfl ?_
  refine pg_bipush dX10_init_116 (show (Int8.ofInt (10)).toInt32 = (10) by decide) ?_
  refine pg_newi (N := 10) dX10_init_118 (by decide) rfl (by decide) (Nat.le_of_ble_eq_true rfl) (Nat.le_of_ble_eq_true rfl) (fun b14 z14 => ?_)
  rw [← z14 36 (by decide)]
  refine pg_putF (j := 36) dX10_init_120 fk_X10_55 ⟨_, _, _, rfl, rfl⟩ rfl rfl (by decide) ((va_up_ne _ _ (by decide)).trans hf13) rfl rfl ?_
  obtain ⟨hW14, hR14, e14⟩ := r_step (i := 13) (k := 33) (o := (.inl (0, 10, .inl (fun _ => 0)))) hW13 hR13 z14 rfl rfl
  have hal14 : ∀ k, k < 37 → b14 k = al0 k := fun k hk => (z14 k (by omega)).trans (hal13 k hk)
  have hf14 := va_up_self (va_up g13 50 (.inl (0, 10, .inl (fun _ => 0)))) 36 (.inr (10, va_up f13 33 (.ref (b14 50))))
  generalize va_up f13 33 (.ref (b14 50)) = f14 at hW14 hR14 e14 hf14 ⊢
  generalize va_up (va_up g13 50 (.inl (0, 10, .inl (fun _ => 0)))) 36 (.inr (10, f14)) = g14 at hW14 hR14 e14 hf14 ⊢
  have hg14 : ∀ k, k < 36 → g14 k = g k := fun k hk => (e14 k hk).trans (hg13 k hk)
  refine pg_aload_n dX10_init_123 rfl rfl ?_
  refine pg_bipush dX10_init_124 (show (Int8.ofInt (100)).toInt32 = (100) by decide) ?_
  refine pg_newi (N := 100) dX10_init_126 (by decide) rfl (by decide) (Nat.le_of_ble_eq_true rfl) (Nat.le_of_ble_eq_true rfl) (fun b15 z15 => ?_)
  rw [← z15 36 (by decide)]
  refine pg_putF (j := 36) dX10_init_128 fk_X10_58 ⟨_, _, _, rfl, rfl⟩ rfl rfl (by decide) ((va_up_ne _ _ (by decide)).trans hf14) rfl rfl ?_
  obtain ⟨hW15, hR15, e15⟩ := r_step (i := 14) (k := 34) (o := (.inl (0, 100, .inl (fun _ => 0)))) hW14 hR14 z15 rfl rfl
  have hal15 : ∀ k, k < 37 → b15 k = al0 k := fun k hk => (z15 k (by omega)).trans (hal14 k hk)
  have hf15 := va_up_self (va_up g14 51 (.inl (0, 100, .inl (fun _ => 0)))) 36 (.inr (10, va_up f14 34 (.ref (b15 51))))
  generalize va_up f14 34 (.ref (b15 51)) = f15 at hW15 hR15 e15 hf15 ⊢
  generalize va_up (va_up g14 51 (.inl (0, 100, .inl (fun _ => 0)))) 36 (.inr (10, f15)) = g15 at hW15 hR15 e15 hf15 ⊢
  have hg15 : ∀ k, k < 36 → g15 k = g k := fun k hk => (e15 k hk).trans (hg14 k hk)
  refine pg_aload_n dX10_init_131 rfl rfl ?_
  refine pg_sipush dX10_init_132 (show (Int16.ofInt (12000)).toInt32 = (12000) by decide) ?_
  refine pg_newi (N := 12000) dX10_init_135 (by decide) rfl (by decide) (Nat.le_of_ble_eq_true rfl) (Nat.le_of_ble_eq_true rfl) (fun b16 z16 => ?_)
  rw [← z16 36 (by decide)]
  refine pg_putF (j := 36) dX10_init_137 fk_X10_61 ⟨_, _, _, rfl, rfl⟩ rfl rfl (by decide) ((va_up_ne _ _ (by decide)).trans hf15) rfl rfl ?_
  obtain ⟨hW16, hR16, e16⟩ := r_step (i := 15) (k := 35) (o := (.inl (0, 12000, .inl (fun _ => 0)))) hW15 hR15 z16 rfl rfl
  have hal16 : ∀ k, k < 37 → b16 k = al0 k := fun k hk => (z16 k (by omega)).trans (hal15 k hk)
  have hf16 := va_up_self (va_up g15 52 (.inl (0, 12000, .inl (fun _ => 0)))) 36 (.inr (10, va_up f15 35 (.ref (b16 52))))
  generalize va_up f15 35 (.ref (b16 52)) = f16 at hW16 hR16 e16 hf16 ⊢
  generalize va_up (va_up g15 52 (.inl (0, 12000, .inl (fun _ => 0)))) 36 (.inr (10, f16)) = g16 at hW16 hR16 e16 hf16 ⊢
  have hg16 : ∀ k, k < 36 → g16 k = g k := fun k hk => (e16 k hk).trans (hg15 k hk)
  refine pg_aload_n dX10_init_140 rfl rfl ?_
  refine pg_bipush dX10_init_141 (show (Int8.ofInt (80)).toInt32 = (80) by decide) ?_
  refine pg_newi (N := 80) dX10_init_143 (by decide) rfl (by decide) (Nat.le_of_ble_eq_true rfl) (Nat.le_of_ble_eq_true rfl) (fun b17 z17 => ?_)
  rw [← z17 36 (by decide)]
  refine pg_putF (j := 36) dX10_init_145 fk_X10_64 ⟨_, _, _, rfl, rfl⟩ rfl rfl (by decide) ((va_up_ne _ _ (by decide)).trans hf16) rfl rfl ?_
  obtain ⟨hW17, hR17, e17⟩ := r_step (i := 16) (k := 36) (o := (.inl (0, 80, .inl (fun _ => 0)))) hW16 hR16 z17 rfl rfl
  have hal17 : ∀ k, k < 37 → b17 k = al0 k := fun k hk => (z17 k (by omega)).trans (hal16 k hk)
  have hf17 := va_up_self (va_up g16 53 (.inl (0, 80, .inl (fun _ => 0)))) 36 (.inr (10, va_up f16 36 (.ref (b17 53))))
  generalize va_up f16 36 (.ref (b17 53)) = f17 at hW17 hR17 e17 hf17 ⊢
  generalize va_up (va_up g16 53 (.inl (0, 80, .inl (fun _ => 0)))) 36 (.inr (10, f17)) = g17 at hW17 hR17 e17 hf17 ⊢
  have hg17 : ∀ k, k < 36 → g17 k = g k := fun k hk => (e17 k hk).trans (hg16 k hk)
  refine pg_aload_n dX10_init_148 rfl rfl ?_
  refine pg_sipush dX10_init_149 (show (Int16.ofInt (9600)).toInt32 = (9600) by decide) ?_
  refine pg_newi (N := 9600) dX10_init_152 (by decide) rfl (by decide) (Nat.le_of_ble_eq_true rfl) (Nat.le_of_ble_eq_true rfl) (fun b18 z18 => ?_)
  rw [← z18 36 (by decide)]
  refine pg_putF (j := 36) dX10_init_154 fk_X10_67 ⟨_, _, _, rfl, rfl⟩ rfl rfl (by decide) ((va_up_ne _ _ (by decide)).trans hf17) rfl rfl ?_
  obtain ⟨hW18, hR18, e18⟩ := r_step (i := 17) (k := 37) (o := (.inl (0, 9600, .inl (fun _ => 0)))) hW17 hR17 z18 rfl rfl
  have hal18 : ∀ k, k < 37 → b18 k = al0 k := fun k hk => (z18 k (by omega)).trans (hal17 k hk)
  have hf18 := va_up_self (va_up g17 54 (.inl (0, 9600, .inl (fun _ => 0)))) 36 (.inr (10, va_up f17 37 (.ref (b18 54))))
  generalize va_up f17 37 (.ref (b18 54)) = f18 at hW18 hR18 e18 hf18 ⊢
  generalize va_up (va_up g17 54 (.inl (0, 9600, .inl (fun _ => 0)))) 36 (.inr (10, f18)) = g18 at hW18 hR18 e18 hf18 ⊢
  have hg18 : ∀ k, k < 36 → g18 k = g k := fun k hk => (e18 k hk).trans (hg17 k hk)
  refine pg_aload_n dX10_init_157 rfl rfl ?_
  refine pg_bipush dX10_init_158 (show (Int8.ofInt (64)).toInt32 = (64) by decide) ?_
  refine pg_newi (N := 64) dX10_init_160 (by decide) rfl (by decide) (Nat.le_of_ble_eq_true rfl) (Nat.le_of_ble_eq_true rfl) (fun b19 z19 => ?_)
  rw [← z19 36 (by decide)]
  refine pg_putF (j := 36) dX10_init_162 fk_X10_70 ⟨_, _, _, rfl, rfl⟩ rfl rfl (by decide) ((va_up_ne _ _ (by decide)).trans hf18) rfl rfl ?_
  obtain ⟨hW19, hR19, e19⟩ := r_step (i := 18) (k := 38) (o := (.inl (0, 64, .inl (fun _ => 0)))) hW18 hR18 z19 rfl rfl
  have hal19 : ∀ k, k < 37 → b19 k = al0 k := fun k hk => (z19 k (by omega)).trans (hal18 k hk)
  have hf19 := va_up_self (va_up g18 55 (.inl (0, 64, .inl (fun _ => 0)))) 36 (.inr (10, va_up f18 38 (.ref (b19 55))))
  generalize va_up f18 38 (.ref (b19 55)) = f19 at hW19 hR19 e19 hf19 ⊢
  generalize va_up (va_up g18 55 (.inl (0, 64, .inl (fun _ => 0)))) 36 (.inr (10, f19)) = g19 at hW19 hR19 e19 hf19 ⊢
  have hg19 : ∀ k, k < 36 → g19 k = g k := fun k hk => (e19 k hk).trans (hg18 k hk)
  refine pg_aload_n dX10_init_165 rfl rfl ?_
  refine pg_sipush dX10_init_166 (show (Int16.ofInt (256)).toInt32 = (256) by decide) ?_
  refine pg_newi (N := 256) dX10_init_169 (by decide) rfl (by decide) (Nat.le_of_ble_eq_true rfl) (Nat.le_of_ble_eq_true rfl) (fun b20 z20 => ?_)
  rw [← z20 36 (by decide)]
  refine pg_putF (j := 36) dX10_init_171 fk_X10_73 ⟨_, _, _, rfl, rfl⟩ rfl rfl (by decide) ((va_up_ne _ _ (by decide)).trans hf19) rfl rfl ?_
  obtain ⟨hW20, hR20, e20⟩ := r_step (i := 19) (k := 39) (o := (.inl (0, 256, .inl (fun _ => 0)))) hW19 hR19 z20 rfl rfl
  have hal20 : ∀ k, k < 37 → b20 k = al0 k := fun k hk => (z20 k (by omega)).trans (hal19 k hk)
  have hf20 := va_up_self (va_up g19 56 (.inl (0, 256, .inl (fun _ => 0)))) 36 (.inr (10, va_up f19 39 (.ref (b20 56))))
  generalize va_up f19 39 (.ref (b20 56)) = f20 at hW20 hR20 e20 hf20 ⊢
  generalize va_up (va_up g19 56 (.inl (0, 256, .inl (fun _ => 0)))) 36 (.inr (10, f20)) = g20 at hW20 hR20 e20 hf20 ⊢
  have hg20 : ∀ k, k < 36 → g20 k = g k := fun k hk => (e20 k hk).trans (hg19 k hk)
  refine pg_aload_n dX10_init_174 rfl rfl ?_
  refine pg_sipush dX10_init_175 (show (Int16.ofInt (14641)).toInt32 = (14641) by decide) ?_
  refine pg_newi (N := 14641) dX10_init_178 (by decide) rfl (by decide) (Nat.le_of_ble_eq_true rfl) (Nat.le_of_ble_eq_true rfl) (fun b21 z21 => ?_)
  rw [← z21 36 (by decide)]
  refine pg_putF (j := 36) dX10_init_180 fk_X10_76 ⟨_, _, _, rfl, rfl⟩ rfl rfl (by decide) ((va_up_ne _ _ (by decide)).trans hf20) rfl rfl ?_
  obtain ⟨hW21, hR21, e21⟩ := r_step (i := 20) (k := 40) (o := (.inl (0, 14641, .inl (fun _ => 0)))) hW20 hR20 z21 rfl rfl
  have hal21 : ∀ k, k < 37 → b21 k = al0 k := fun k hk => (z21 k (by omega)).trans (hal20 k hk)
  have hf21 := va_up_self (va_up g20 57 (.inl (0, 14641, .inl (fun _ => 0)))) 36 (.inr (10, va_up f20 40 (.ref (b21 57))))
  generalize va_up f20 40 (.ref (b21 57)) = f21 at hW21 hR21 e21 hf21 ⊢
  generalize va_up (va_up g20 57 (.inl (0, 14641, .inl (fun _ => 0)))) 36 (.inr (10, f21)) = g21 at hW21 hR21 e21 hf21 ⊢
  have hg21 : ∀ k, k < 36 → g21 k = g k := fun k hk => (e21 k hk).trans (hg20 k hk)
  refine pg_vret dX10_init_183 rfl (Nat.le_of_ble_eq_true rfl) (Nat.le_of_ble_eq_true rfl) ?_
  refine hQ b21 g21 hal21 ⟨by decide, ?_, fun a ha => hW21 a ha⟩ hg21
  rw [hf21]
  congr 2
  funext k
  rw [hR21 k]
  unfold rf_F
  cases q : rf_a k with
  | none => rfl
  | some a =>
    show (if a < 21 then Value.ref (b21 (37 + a)) else .null) = .ref (b21 (36 + 1 + a))
    rw [if_pos (rf_a_lt q)]
