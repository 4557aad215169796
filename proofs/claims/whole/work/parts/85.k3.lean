theorem lrn_c {l : Nat} (hl : l < 8) : cCls (20 + 2 * l) = some 1 := by
  match l, hl with
  | 0, _ => rfl
  | 1, _ => rfl
  | 2, _ => rfl
  | 3, _ => rfl
  | 4, _ => rfl
  | 5, _ => rfl
  | 6, _ => rfl
  | 7, _ => rfl
theorem lrn_n {l : Nat} (hl : l < 8) : cCls (21 + 2 * l) = none := by
  match l, hl with
  | 0, _ => rfl
  | 1, _ => rfl
  | 2, _ => rfl
  | 3, _ => rfl
  | 4, _ => rfl
  | 5, _ => rfl
  | 6, _ => rfl
  | 7, _ => rfl
theorem lrn_a {l : Nat} (hl : l < 8) : cAr (21 + 2 * l) = some 8 := by
  match l, hl with
  | 0, _ => rfl
  | 1, _ => rfl
  | 2, _ => rfl
  | 3, _ => rfl
  | 4, _ => rfl
  | 5, _ => rfl
  | 6, _ => rfl
  | 7, _ => rfl
theorem lrn_k {l : Nat} (hl : l < 8) : cKd (20 + 2 * l) 0 = (21 + 2 * l) + 3 := by
  match l, hl with
  | 0, _ => rfl
  | 1, _ => rfl
  | 2, _ => rfl
  | 3, _ => rfl
  | 4, _ => rfl
  | 5, _ => rfl
  | 6, _ => rfl
  | 7, _ => rfl
theorem and1 (x : Int32) : x &&& 1 = 0 ∨ x &&& 1 = 1 := by
  have h : (x &&& 1).toBitVec.toNat < 2 := by
    rw [Int32.toBitVec_and, BitVec.toNat_and]
    exact Nat.lt_of_le_of_lt Nat.and_le_right (by decide)
  have e : (x &&& 1).toBitVec.toNat = 0 ∨ (x &&& 1).toBitVec.toNat = 1 := by omega
  rcases e with e | e
  · exact Or.inl (Int32.toBitVec_inj.mp (BitVec.eq_of_toNat_eq (e.trans rfl)))
  · exact Or.inr (Int32.toBitVec_inj.mp (BitVec.eq_of_toNat_eq (e.trans rfl)))
theorem and1_1 {x : Int32} (h : ¬ x &&& 1 = 0) : x &&& 1 = 1 := (and1 x).resolve_left h
theorem and1_n {x : Int32} (h : x &&& 1 = 0) : ¬ x &&& 1 = 1 := fun z => absurd (h.symm.trans z) (by decide)
theorem min64 (v : Int32) : (if 64 < v then 64 else v) = (if v < 64 then v else 64) := by
  by_cases c : v < 64
  · rw [if_pos c, if_neg (Int32.not_lt.mpr (Int32.le_of_lt c))]
  · rw [if_neg c]
    by_cases c2 : 64 < v
    · rw [if_pos c2]
    · rw [if_neg c2]
      exact Int32.le_antisymm (Int32.not_lt.mp c2) (Int32.not_lt.mp c)
theorem rCans_cg {f h : Nat → Int32} {l : Nat} : ∀ m, m ≤ 8 → (∀ k, k < 8 → f k = h (8 * l + k)) → rCans f 0 m = rCans h l m
  | 0, _, _ => rfl
  | m + 1, hm, e => by rw [rCans, rCans, rCans_cg m (by omega) e, Nat.mul_zero, Nat.zero_add, e m (by omega)]
theorem rGain_cg {sh : Int32} {f h : Nat → Int32} {l : Nat} : ∀ m, m ≤ 8 → (∀ k, k < 8 → f k = h (8 * l + k)) → rGain sh f 0 m = rGain sh h l m
  | 0, _, _ => rfl
  | m + 1, hm, e => by rw [rGain, rGain, rGain_cg m (by omega) e, Nat.mul_zero, Nat.zero_add, e m (by omega)]
theorem cnS_cg {f h : Nat → Int32} {l : Nat} {all b : Int32} (e : ∀ k, k < 8 → f k = h (8 * l + k)) : ∀ m, m ≤ 8 → ∀ k, k < 8 → cnS f 0 all b m k = cnS h l all b m (8 * l + k)
  | 0, _, k, hk => e k hk
  | m + 1, hm, k, hk => by
    rw [cnS, cnS]
    by_cases c : (all >>> (nI m &&& 31)) &&& 1 = 1
    · rw [if_pos c, if_pos c, Nat.mul_zero, Nat.zero_add, cnS_cg e m (by omega) m (by omega)]
      by_cases ek : k = m
      · subst ek; rw [pk_us, pk_us]
      · rw [pk_un ek, pk_un (by omega)]; exact cnS_cg e m (by omega) k hk
    · rw [if_neg c, if_neg c]; exact cnS_cg e m (by omega) k hk
theorem cnS_fr {h : Nat → Int32} {l : Nat} {all b : Int32} : ∀ m, m ≤ 8 → ∀ j, (j < 8 * l ∨ 8 * l + 8 ≤ j) → cnS h l all b m j = h j
  | 0, _, j, _ => rfl
  | m + 1, hm, j, hj => by
    rw [cnS]
    by_cases c : (all >>> (nI m &&& 31)) &&& 1 = 1
    · rw [if_pos c, pk_un (by omega)]; exact cnS_fr m (by omega) j hj
    · rw [if_neg c]; exact cnS_fr m (by omega) j hj
set_option maxHeartbeats 4000000 in
set_option maxRecDepth 20000 in
theorem cl_able {fx : px_F} {dd : Nat} {Q : px_Q} {al : Nat → Nat} {n : Nat} {g0 : Nat → px_O} {sc ar : Nat → Nat → Int32} {sl : Value} {tf : Nat → Option Nat} {l : Nat} (hl : l < 8) (hQ : ∀ g2, CR al n g2 sc ar sl tf → cfr g0 g2 → Q (.inl (some (.int (rCans (ar (21 + 2 * l)) 0 8)))) al n g2) : ∀ (m i : Nat), i + m = 8 → pc fx (px_body pm_X1_able) (dd) Q al n g0 (sc) (ar) sl tf 4 [.ref (al (20 + 2 * l)), .int (rCans (ar (21 + 2 * l)) 0 i), .int (nI i)] []
  | 0, i, hk => by
    obtain rfl : i = 8 := by omega
    refine pc_iload_n dX1_able_4 rfl ?_
    refine pc_bipush dX1_able_5 (show (Int8.ofInt (8)).toInt32 = (8) by decide) ?_
    refine pc_icmp_ge (tgt := 33) dX1_able_7 (by decide) (fun c7 => ?_) (fun c7 => absurd (by decide) c7)
    refine pc_iload_n dX1_able_33 rfl ?_
    exact pc_iret (post := fun res s2 a2 => res = some (.int (rCans (ar (21 + 2 * l)) 0 8)) ∧ s2 = sc ∧ a2 = ar) (fun _ _ _ g2 hp hR hF => by obtain ⟨rfl, rfl, rfl⟩ := hp; exact hQ g2 hR hF) dX1_able_34 rfl rfl ⟨rfl, rfl, rfl⟩
  | m + 1, i, hk => by
    have ih := cl_able (fx := fx) (dd := dd) hl hQ m (i + 1) (by omega)
    rw [rCans, Nat.mul_zero, Nat.zero_add] at ih
    refine pc_iload_n dX1_able_4 rfl ?_
    refine pc_bipush dX1_able_5 (show (Int8.ofInt (8)).toInt32 = (8) by decide) ?_
    refine pc_icmp_ge (tgt := 33) dX1_able_7 (by decide) (fun c7 => absurd c7 (Int32.not_le.mpr (nI_lt (show i < 8 by omega) (by decide)))) (fun c7 => ?_)
    refine pc_aload_n dX1_able_10 rfl rfl ?_
    refine pc_getR (c := (20 + 2 * l)) (d := (21 + 2 * l)) dX1_able_11 fk_X1_9 (by omega) (lrn_c hl) (lrn_k hl) ?_
    refine pc_iload_n dX1_able_14 rfl ?_
    refine pc_iald (c := (21 + 2 * l)) (v := (ar (21 + 2 * l) i)) (j := i) dX1_able_15 (by omega) (lrn_n hl) (lrn_a hl) rfl (by omega) (by decide) rfl ?_
    refine pc_bipush dX1_able_16 (show (Int8.ofInt (32)).toInt32 = (32) by decide) ?_
    refine pc_icmp_lt (tgt := 27) dX1_able_18 (by decide) (fun c18 => ?_) (fun c18 => ?_)
    ·
      have c189 := Int32.not_le.mpr c18
      refine pc_iinc dX1_able_27 rfl (show Int32.ofInt (1) = (1) by decide) ?_
      refine pc_goto (tgt := 4) dX1_able_30 (by decide) ?_
      rw [nI_1]
      rw [if_neg (Int32.not_le.mpr c18), Int32.or_zero] at ih
      exact ih
    ·
      have c189 := Int32.not_lt.mp c18
      refine pc_iload_n dX1_able_21 rfl ?_
      refine pc_iconst dX1_able_22 (show Int32.ofInt (1) = (1) by decide) ?_
      refine pc_iload_n dX1_able_23 rfl ?_
      refine pc_ishl dX1_able_24 ?_
      refine pc_ior dX1_able_25 ?_
      refine pc_istore_n dX1_able_26 (Nat.le_of_ble_eq_true rfl) ?_
      refine pc_iinc dX1_able_27 rfl (show Int32.ofInt (1) = (1) by decide) ?_
      refine pc_goto (tgt := 4) dX1_able_30 (by decide) ?_
      rw [nI_1]
      rw [if_pos (Int32.not_lt.mp c18)] at ih
      exact ih
set_option maxHeartbeats 4000000 in
set_option maxRecDepth 20000 in
theorem cp_able (d : Nat) {sc ar : Nat → Nat → Int32} {sl : Value} {tf : Nat → Option Nat} {l : Nat} (hl : l < 8) : CP (d + 1) 6 (fun al => [.ref (al (20 + 2 * l))]) noD sc ar sl tf (fun res sc2 ar2 => res = some (.int (rCans (ar (21 + 2 * l)) 0 8)) ∧ sc2 = sc ∧ ar2 = ar) := by
  refine CP.of pm_X1_able rfl (fun _ => rfl) (fun _ => Nat.le_of_ble_eq_true rfl) ?_
  intro fx al n g0 Q _ _ hQ
  show pc fx (px_body pm_X1_able) (d) Q al n g0 (sc) (ar) sl tf 0 [.ref (al (20 + 2 * l)), .float 0, .float 0] []
  refine pc_iconst dX1_able_0 (show Int32.ofInt (0) = (0) by decide) ?_
  refine pc_istore_n dX1_able_1 (Nat.le_of_ble_eq_true rfl) ?_
  refine pc_iconst dX1_able_2 (show Int32.ofInt (0) = (0) by decide) ?_
  refine pc_istore_n dX1_able_3 (Nat.le_of_ble_eq_true rfl) ?_
  exact cl_able hl (fun g2 hR hF => hQ _ _ _ g2 ⟨rfl, rfl, rfl⟩ hR hF) 8 0 (by omega)
set_option maxHeartbeats 4000000 in
set_option maxRecDepth 20000 in
theorem cl_gain {fx : px_F} {dd : Nat} {Q : px_Q} {al : Nat → Nat} {n : Nat} {g0 : Nat → px_O} {sc ar : Nat → Nat → Int32} {sl : Value} {tf : Nat → Option Nat} {l : Nat} {sh : Int32} (hl : l < 8) (hQ : ∀ g2, CR al n g2 sc ar sl tf → cfr g0 g2 → Q (.inl (some (.int (rGain sh (ar (21 + 2 * l)) 0 8)))) al n g2) : ∀ (m i : Nat), i + m = 8 → pc fx (px_body pm_X1_gainOf) (dd) Q al n g0 (sc) (ar) sl tf 4 [.ref (al (20 + 2 * l)), .int sh, .int (rGain sh (ar (21 + 2 * l)) 0 i), .int (nI i)] []
  | 0, i, hk => by
    obtain rfl : i = 8 := by omega
    refine pc_iload_n dX1_gainOf_4 rfl ?_
    refine pc_bipush dX1_gainOf_5 (show (Int8.ofInt (8)).toInt32 = (8) by decide) ?_
    refine pc_icmp_ge (tgt := 36) dX1_gainOf_7 (by decide) (fun c7 => ?_) (fun c7 => absurd (by decide) c7)
    refine pc_iload_n dX1_gainOf_36 rfl ?_
    exact pc_iret (post := fun res s2 a2 => res = some (.int (rGain sh (ar (21 + 2 * l)) 0 8)) ∧ s2 = sc ∧ a2 = ar) (fun _ _ _ g2 hp hR hF => by obtain ⟨rfl, rfl, rfl⟩ := hp; exact hQ g2 hR hF) dX1_gainOf_37 rfl rfl ⟨rfl, rfl, rfl⟩
  | m + 1, i, hk => by
    have ih := cl_gain (fx := fx) (dd := dd) hl hQ m (i + 1) (by omega)
    rw [rGain, Nat.mul_zero, Nat.zero_add] at ih
    refine pc_iload_n dX1_gainOf_4 rfl ?_
    refine pc_bipush dX1_gainOf_5 (show (Int8.ofInt (8)).toInt32 = (8) by decide) ?_
    refine pc_icmp_ge (tgt := 36) dX1_gainOf_7 (by decide) (fun c7 => absurd c7 (Int32.not_le.mpr (nI_lt (show i < 8 by omega) (by decide)))) (fun c7 => ?_)
    refine pc_iload_n dX1_gainOf_10 rfl ?_
    refine pc_iload_n dX1_gainOf_11 rfl ?_
    refine pc_ishr dX1_gainOf_12 ?_
    refine pc_iconst dX1_gainOf_13 (show Int32.ofInt (1) = (1) by decide) ?_
    refine pc_iand dX1_gainOf_14 ?_
    refine pc_if_eq (tgt := 30) dX1_gainOf_15 (by decide) (fun c15 => ?_) (fun c15 => ?_)
    ·
      refine pc_iinc dX1_gainOf_30 rfl (show Int32.ofInt (1) = (1) by decide) ?_
      refine pc_goto (tgt := 4) dX1_gainOf_33 (by decide) ?_
      rw [nI_1]
      rw [if_neg (and1_n c15), Int32.add_zero] at ih
      exact ih
    ·
      refine pc_iload_n dX1_gainOf_18 rfl ?_
      refine pc_bipush dX1_gainOf_19 (show (Int8.ofInt (64)).toInt32 = (64) by decide) ?_
      refine pc_aload_n dX1_gainOf_21 rfl rfl ?_
      refine pc_getR (c := (20 + 2 * l)) (d := (21 + 2 * l)) dX1_gainOf_22 fk_X1_9 (by omega) (lrn_c hl) (lrn_k hl) ?_
      refine pc_iload_n dX1_gainOf_25 rfl ?_
      refine pc_iald (c := (21 + 2 * l)) (v := (ar (21 + 2 * l) i)) (j := i) dX1_gainOf_26 (by omega) (lrn_n hl) (lrn_a hl) rfl (by omega) (by decide) rfl ?_
      refine pc_isub dX1_gainOf_27 ?_
      refine pc_iadd dX1_gainOf_28 ?_
      refine pc_istore_n dX1_gainOf_29 (Nat.le_of_ble_eq_true rfl) ?_
      refine pc_iinc dX1_gainOf_30 rfl (show Int32.ofInt (1) = (1) by decide) ?_
      refine pc_goto (tgt := 4) dX1_gainOf_33 (by decide) ?_
      rw [nI_1]
      rw [if_pos (and1_1 c15)] at ih
      exact ih
set_option maxHeartbeats 4000000 in
set_option maxRecDepth 20000 in
theorem cp_gainOf (d : Nat) {sc ar : Nat → Nat → Int32} {sl : Value} {tf : Nat → Option Nat} {l : Nat} (hl : l < 8) (sh : Int32) : CP (d + 1) 7 (fun al => [.ref (al (20 + 2 * l)), .int sh]) noD sc ar sl tf (fun res sc2 ar2 => res = some (.int (rGain sh (ar (21 + 2 * l)) 0 8)) ∧ sc2 = sc ∧ ar2 = ar) := by
  refine CP.of pm_X1_gainOf rfl (fun _ => rfl) (fun _ => Nat.le_of_ble_eq_true rfl) ?_
  intro fx al n g0 Q _ _ hQ
  show pc fx (px_body pm_X1_gainOf) (d) Q al n g0 (sc) (ar) sl tf 0 [.ref (al (20 + 2 * l)), .int sh, .float 0, .float 0] []
  refine pc_iconst dX1_gainOf_0 (show Int32.ofInt (0) = (0) by decide) ?_
  refine pc_istore_n dX1_gainOf_1 (Nat.le_of_ble_eq_true rfl) ?_
  refine pc_iconst dX1_gainOf_2 (show Int32.ofInt (0) = (0) by decide) ?_
  refine pc_istore_n dX1_gainOf_3 (Nat.le_of_ble_eq_true rfl) ?_
  exact cl_gain hl (fun g2 hR hF => hQ _ _ _ g2 ⟨rfl, rfl, rfl⟩ hR hF) 8 0 (by omega)
set_option maxHeartbeats 4000000 in
set_option maxRecDepth 20000 in
theorem cl_grow {fx : px_F} {dd : Nat} {Q : px_Q} {al : Nat → Nat} {n : Nat} {g0 : Nat → px_O} {sc ar : Nat → Nat → Int32} {sl : Value} {tf : Nat → Option Nat} {l : Nat} {all by_ : Int32} (hl : l < 8) (hQ : ∀ g2, CR al n g2 sc (va_up ar (21 + 2 * l) (cnS (ar (21 + 2 * l)) 0 all by_ 8)) sl tf → cfr g0 g2 → Q (.inl none) al n g2) : ∀ (m i : Nat), i + m = 8 → pc fx (px_body pm_X1_grow) (dd + 1) Q al n g0 (sc) (va_up ar (21 + 2 * l) (cnS (ar (21 + 2 * l)) 0 all by_ i)) sl tf 2 [.ref (al (20 + 2 * l)), .int all, .int by_, .int (nI i)] []
  | 0, i, hk => by
    obtain rfl : i = 8 := by omega
    refine pc_iload_n dX1_grow_2 rfl ?_
    refine pc_bipush dX1_grow_3 (show (Int8.ofInt (8)).toInt32 = (8) by decide) ?_
    refine pc_icmp_ge (tgt := 41) dX1_grow_5 (by decide) (fun c5 => ?_) (fun c5 => absurd (by decide) c5)
    exact pc_vret (post := fun res s2 a2 => res = none ∧ s2 = sc ∧ a2 = va_up ar (21 + 2 * l) (cnS (ar (21 + 2 * l)) 0 all by_ 8)) (fun _ _ _ g2 hp hR hF => by obtain ⟨rfl, rfl, rfl⟩ := hp; exact hQ g2 hR hF) dX1_grow_41 rfl ⟨rfl, rfl, rfl⟩
  | m + 1, i, hk => by
    have ih := cl_grow (fx := fx) (dd := dd) hl hQ m (i + 1) (by omega)
    rw [cnS, Nat.mul_zero, Nat.zero_add] at ih
    refine pc_iload_n dX1_grow_2 rfl ?_
    refine pc_bipush dX1_grow_3 (show (Int8.ofInt (8)).toInt32 = (8) by decide) ?_
    refine pc_icmp_ge (tgt := 41) dX1_grow_5 (by decide) (fun c5 => absurd c5 (Int32.not_le.mpr (nI_lt (show i < 8 by omega) (by decide)))) (fun c5 => ?_)
    refine pc_iload_n dX1_grow_8 rfl ?_
    refine pc_iload_n dX1_grow_9 rfl ?_
    refine pc_ishr dX1_grow_10 ?_
    refine pc_iconst dX1_grow_11 (show Int32.ofInt (1) = (1) by decide) ?_
    refine pc_iand dX1_grow_12 ?_
    refine pc_if_eq (tgt := 35) dX1_grow_13 (by decide) (fun c13 => ?_) (fun c13 => ?_)
    ·
      refine pc_iinc dX1_grow_35 rfl (show Int32.ofInt (1) = (1) by decide) ?_
      refine pc_goto (tgt := 2) dX1_grow_38 (by decide) ?_
      rw [nI_1]
      rw [if_neg (and1_n c13)] at ih
      exact ih
    ·
      refine pc_aload_n dX1_grow_16 rfl rfl ?_
      refine pc_getR (c := (20 + 2 * l)) (d := (21 + 2 * l)) dX1_grow_17 fk_X1_9 (by omega) (lrn_c hl) (lrn_k hl) ?_
      refine pc_iload_n dX1_grow_20 rfl ?_
      refine pc_aload_n dX1_grow_21 rfl rfl ?_
      refine pc_getR (c := (20 + 2 * l)) (d := (21 + 2 * l)) dX1_grow_22 fk_X1_9 (by omega) (lrn_c hl) (lrn_k hl) ?_
      refine pc_iload_n dX1_grow_25 rfl ?_
      refine pc_iald (c := (21 + 2 * l)) (v := (cnS (ar (21 + 2 * l)) 0 all by_ i i)) (j := i) dX1_grow_26 (by omega) (lrn_n hl) (lrn_a hl) rfl (by omega) (by decide) (by rw [va_up_self]) ?_
      refine pc_iload_n dX1_grow_27 rfl ?_
      refine pc_iadd dX1_grow_28 ?_
      refine pc_bipush dX1_grow_29 (show (Int8.ofInt (64)).toInt32 = (64) by decide) ?_
      refine pc_callSC dX1_grow_31 cl_X1_15 (sc_min dd _ _) rfl rfl (Nat.le_of_ble_eq_true rfl) ⟨rfl, rfl⟩ ?_
      refine pc_iast (c := (21 + 2 * l)) (j := i) dX1_grow_34 (by omega) (lrn_n hl) (lrn_a hl) rfl (by omega) (by decide) ?_
      refine pc_iinc dX1_grow_35 rfl (show Int32.ofInt (1) = (1) by decide) ?_
      refine pc_goto (tgt := 2) dX1_grow_38 (by decide) ?_
      rw [nI_1]
      rw [if_pos (and1_1 c13)] at ih
      rw [va_up_self, va_3, min64]
      exact ih
set_option maxHeartbeats 4000000 in
set_option maxRecDepth 20000 in
theorem cp_grow (d : Nat) {sc ar : Nat → Nat → Int32} {sl : Value} {tf : Nat → Option Nat} {l : Nat} (hl : l < 8) (all by_ : Int32) : CP (d + 2) 5 (fun al => [.ref (al (20 + 2 * l)), .int all, .int by_]) noD sc ar sl tf (fun res sc2 ar2 => res = none ∧ sc2 = sc ∧ ar2 = va_up ar (21 + 2 * l) (cnS (ar (21 + 2 * l)) 0 all by_ 8)) := by
  refine CP.of pm_X1_grow rfl (fun _ => rfl) (fun _ => Nat.le_of_ble_eq_true rfl) ?_
  intro fx al n g0 Q _ _ hQ
  show pc fx (px_body pm_X1_grow) (d + 1) Q al n g0 (sc) (ar) sl tf 0 [.ref (al (20 + 2 * l)), .int all, .int by_, .float 0] []
  refine pc_iconst dX1_grow_0 (show Int32.ofInt (0) = (0) by decide) ?_
  refine pc_istore_n dX1_grow_1 (Nat.le_of_ble_eq_true rfl) ?_
  suffices h9 : pc fx (px_body pm_X1_grow) (d + 1) Q al n g0 (sc) (va_up ar (21 + 2 * l) (cnS (ar (21 + 2 * l)) 0 all by_ 0)) sl tf 2 [.ref (al (20 + 2 * l)), .int all, .int by_, .int (nI 0)] [] by
    rw [show cnS (ar (21 + 2 * l)) 0 all by_ 0 = ar (21 + 2 * l) from rfl, va_id] at h9
    exact h9
  exact cl_grow hl (fun g2 hR hF => hQ _ _ _ g2 ⟨rfl, rfl, rfl⟩ hR hF) 8 0 (by omega)
