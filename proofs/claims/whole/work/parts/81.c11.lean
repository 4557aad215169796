theorem fcd_v (S : Nat → Int32) (fr : Nat) : ∀ (m k : Nat), fcd S fr m k = 0 ∨ fcd S fr m k = 99 ∨ fcd S fr m k = 100
  | 0, _ => Or.inl rfl
  | m + 1, k => by
    rw [fcd]
    by_cases c : S (fr + k) = 99 ∨ S (fr + k) = 100
    · rw [if_pos c]; exact Or.inr c
    · rw [if_neg c]; exact fcd_v S fr m (k + 1)
theorem fcd_no (S : Nat → Int32) (fr : Nat) : ∀ (m k : Nat), fcd S fr m k = 0 → ∀ i, k ≤ i → i < k + m → ¬ (S (fr + i) = 99 ∨ S (fr + i) = 100)
  | 0, _, _, i, h1, h2 => by omega
  | m + 1, k, h, i, h1, h2 => by
    rw [fcd] at h
    by_cases c : S (fr + k) = 99 ∨ S (fr + k) = 100
    · rw [if_pos c] at h
      rw [h] at c
      exact absurd c (by decide)
    · rw [if_neg c] at h
      by_cases e : i = k
      · subst e; exact c
      · exact fcd_no S fr m (k + 1) h i (by omega) (by omega)
/-- whether a program's first of c and d is d -/
def bD (m : Nat) (S : Nat → Int32) : Bool := decide (fcd S 0 m 0 = 100)
set_option maxHeartbeats 4000000 in
set_option maxRecDepth 20000 in
theorem dl_first {fx : px_F} {d : Nat} {Q : px_Q} {al : Nat → Nat} {n : Nat} {g : Nat → px_O} {a m : Nat} {S : Nat → Int32} (ha : a < n) (hg : g a = .inl (0, m, .inl S)) (hm : m < 2 ^ 30) : ∀ (j i : Nat), i + j = m → Q (.inl (some (.int (if fcd S 0 j i = 0 then -1 else fcd S 0 j i)))) al n g → pg px_tb fx (px_body pm_X5_firstOfCAndD) (pm px_tb fx (d)) Q al n g 2 [.ref (al a), .int (nI i)] [] 0 0
  | 0, i, hk, hQ => by
    obtain rfl : i = m := by omega
    refine pg_iload_n dX5_firstOfCAndD_2 rfl ?_
    refine pg_aload_n dX5_firstOfCAndD_3 rfl rfl ?_
    refine pg_alen dX5_firstOfCAndD_4 (by omega) (by decide) hg ?_
    refine pg_icmp_ge (tgt := 34) dX5_firstOfCAndD_5 (by decide) (fun c5 => ?_) (fun c5 => absurd (Int32.le_refl _) c5)
    refine pg_iconst dX5_firstOfCAndD_34 (show Int32.ofInt (-1) = (-1) by decide) ?_
    exact pg_iret dX5_firstOfCAndD_35 rfl rfl (Nat.zero_le _) (Nat.zero_le _) hQ
  | j + 1, i, hk, hQ => by
    rw [fcd, Nat.zero_add] at hQ
    refine pg_iload_n dX5_firstOfCAndD_2 rfl ?_
    refine pg_aload_n dX5_firstOfCAndD_3 rfl rfl ?_
    refine pg_alen dX5_firstOfCAndD_4 (by omega) (by decide) hg ?_
    refine pg_icmp_ge (tgt := 34) dX5_firstOfCAndD_5 (by decide) (fun c5 => absurd c5 (Int32.not_le.mpr (nI_lt (show i < m by omega) (by omega)))) (fun c5 => ?_)
    refine pg_aload_n dX5_firstOfCAndD_8 rfl rfl ?_
    refine pg_iload_n dX5_firstOfCAndD_9 rfl ?_
    refine pg_iald dX5_firstOfCAndD_10 (by omega) hg (vp_in_nI (n := i) (by omega) (by omega)) ?_
    rw [nI_clamp (show i < 2 ^ 31 by omega)]
    refine pg_bipush dX5_firstOfCAndD_11 (show (Int8.ofInt (99)).toInt32 = (99) by decide) ?_
    refine pg_icmp_eq (tgt := 24) dX5_firstOfCAndD_13 (by decide) (fun c13 => ?_) (fun c13 => ?_)
    ·
      refine pg_aload_n dX5_firstOfCAndD_24 rfl rfl ?_
      refine pg_iload_n dX5_firstOfCAndD_25 rfl ?_
      refine pg_iald dX5_firstOfCAndD_26 (by omega) hg (vp_in_nI (n := i) (by omega) (by omega)) ?_
      rw [nI_clamp (show i < 2 ^ 31 by omega)]
      simp only [if_pos (show S i = 99 ∨ S i = 100 from Or.inl c13)] at hQ
      rw [if_neg (fun z => absurd (c13.symm.trans z) (by decide))] at hQ
      exact pg_iret dX5_firstOfCAndD_27 rfl rfl (Nat.zero_le _) (Nat.zero_le _) hQ
    ·
      refine pg_aload_n dX5_firstOfCAndD_16 rfl rfl ?_
      refine pg_iload_n dX5_firstOfCAndD_17 rfl ?_
      refine pg_iald dX5_firstOfCAndD_18 (by omega) hg (vp_in_nI (n := i) (by omega) (by omega)) ?_
      rw [nI_clamp (show i < 2 ^ 31 by omega)]
      refine pg_bipush dX5_firstOfCAndD_19 (show (Int8.ofInt (100)).toInt32 = (100) by decide) ?_
      refine pg_icmp_ne (tgt := 28) dX5_firstOfCAndD_21 (by decide) (fun c21 => ?_) (fun c21 => ?_)
      ·
        refine pg_iinc dX5_firstOfCAndD_28 rfl (show Int32.ofInt (1) = (1) by decide) ?_
        refine pg_goto (tgt := 2) dX5_firstOfCAndD_31 (by decide) ?_
        simp only [if_neg (show ¬ (S i = 99 ∨ S i = 100) from fun z => z.elim c13 c21)] at hQ
        rw [nI_1]
        exact dl_first ha hg hm j (i + 1) (by omega) hQ
      ·
        refine pg_aload_n dX5_firstOfCAndD_24 rfl rfl ?_
        refine pg_iload_n dX5_firstOfCAndD_25 rfl ?_
        refine pg_iald dX5_firstOfCAndD_26 (by omega) hg (vp_in_nI (n := i) (by omega) (by omega)) ?_
        rw [nI_clamp (show i < 2 ^ 31 by omega)]
        simp only [if_pos (show S i = 99 ∨ S i = 100 from Or.inr c21)] at hQ
        rw [if_neg (fun z => absurd (c21.symm.trans z) (by decide))] at hQ
        exact pg_iret dX5_firstOfCAndD_27 rfl rfl (Nat.zero_le _) (Nat.zero_le _) hQ
set_option maxHeartbeats 4000000 in
set_option maxRecDepth 20000 in
theorem dp_firstOfCAndD (d : Nat) {a m : Nat} {S : Nat → Int32} (hm : m < 2 ^ 30) : DP (d + 1) 38 (fun al => [.ref (al a)]) (fun al n g => a < n ∧ g a = .inl (0, m, .inl S)) (some (.int (if fcd S 0 m 0 = 0 then -1 else fcd S 0 m 0))) := by
  refine DP.of pm_X5_firstOfCAndD rfl (fun _ => rfl) (fun _ => Nat.le_of_ble_eq_true rfl) ?_
  intro fx al n g Q hD hQ
  show pg px_tb fx (px_body pm_X5_firstOfCAndD) (pm px_tb fx (d)) Q al n g 0 [.ref (al a), .float 0] [] 0 0
  refine pg_iconst dX5_firstOfCAndD_0 (show Int32.ofInt (0) = (0) by decide) ?_
  refine pg_istore_n dX5_firstOfCAndD_1 (Nat.le_of_ble_eq_true rfl) ?_
  exact dl_first hD.1 hD.2 hm m 0 (by omega) hQ
set_option maxHeartbeats 4000000 in
set_option maxRecDepth 20000 in
theorem dp_size (d : Nat) {P m L : Nat} {S O A : Nat → Int32} {bd : Bool} : DP (d + 1) 39 (fun al => [.ref (al P)]) (fun al n g => PG al n g P m L S O A bd) (some (.int (nI m))) := by
  refine DP.of pm_X5_size rfl (fun _ => rfl) (fun _ => Nat.le_of_ble_eq_true rfl) ?_
  intro fx al n g Q ⟨p1, p2, ⟨f, q1, q2, q3, q4, q5⟩, q6, q7, q8⟩ hQ
  show pg px_tb fx (px_body pm_X5_size) (pm px_tb fx (d)) Q al n g 0 [.ref (al P)] [] 0 0
  refine pg_aload_n dX5_size_0 rfl rfl ?_
  refine pg_get dX5_size_1 fk_X5_25 (by omega) q1 q2 ?_
  refine pg_alen dX5_size_4 (by omega) (by decide) q6 ?_
  exact pg_iret dX5_size_5 rfl rfl (Nat.zero_le _) (Nat.zero_le _) hQ
set_option maxHeartbeats 4000000 in
set_option maxRecDepth 20000 in
theorem dp_tokenAt_in (d : Nat) {P m L : Nat} {S O A : Nat → Int32} {bd : Bool} {i : Nat} (hm : m < 2 ^ 30) (hi : i < m) : DP (d + 1) 40 (fun al => [.ref (al P), .int (nI i)]) (fun al n g => PG al n g P m L S O A bd) (some (.int (S i))) := by
  refine DP.of pm_X5_tokenAt rfl (fun _ => rfl) (fun _ => Nat.le_of_ble_eq_true rfl) ?_
  intro fx al n g Q ⟨p1, p2, ⟨f, q1, q2, q3, q4, q5⟩, q6, q7, q8⟩ hQ
  show pg px_tb fx (px_body pm_X5_tokenAt) (pm px_tb fx (d)) Q al n g 0 [.ref (al P), .int (nI i)] [] 0 0
  refine pg_iload_n dX5_tokenAt_0 rfl ?_
  refine pg_if_lt (tgt := 22) dX5_tokenAt_1 (by decide) (fun c1 => absurd c1 (nI_pos (by omega))) (fun c1 => ?_)
  refine pg_iload_n dX5_tokenAt_4 rfl ?_
  refine pg_aload_n dX5_tokenAt_5 rfl rfl ?_
  refine pg_get dX5_tokenAt_6 fk_X5_25 (by omega) q1 q2 ?_
  refine pg_alen dX5_tokenAt_9 (by omega) (by decide) q6 ?_
  refine pg_icmp_ge (tgt := 22) dX5_tokenAt_10 (by decide) (fun c10 => absurd c10 (Int32.not_le.mpr (nI_lt hi (by omega)))) (fun c10 => ?_)
  refine pg_aload_n dX5_tokenAt_13 rfl rfl ?_
  refine pg_get dX5_tokenAt_14 fk_X5_25 (by omega) q1 q2 ?_
  refine pg_iload_n dX5_tokenAt_17 rfl ?_
  refine pg_iald dX5_tokenAt_18 (by omega) q6 (vp_in_nI (n := i) hi (by omega)) ?_
  rw [nI_clamp (show i < 2 ^ 31 by omega)]
  refine pg_goto (tgt := 23) dX5_tokenAt_19 (by decide) ?_
  exact pg_iret dX5_tokenAt_23 rfl rfl (Nat.zero_le _) (Nat.zero_le _) hQ
set_option maxHeartbeats 4000000 in
set_option maxRecDepth 20000 in
theorem dp_tokenAt_no (d : Nat) {P m L : Nat} {S O A : Nat → Int32} {bd : Bool} {i : Int32} (hi : ¬ (0 ≤ i ∧ i < nI m)) : DP (d + 1) 40 (fun al => [.ref (al P), .int i]) (fun al n g => PG al n g P m L S O A bd) (some (.int (-1))) := by
  refine DP.of pm_X5_tokenAt rfl (fun _ => rfl) (fun _ => Nat.le_of_ble_eq_true rfl) ?_
  intro fx al n g Q ⟨p1, p2, ⟨f, q1, q2, q3, q4, q5⟩, q6, q7, q8⟩ hQ
  show pg px_tb fx (px_body pm_X5_tokenAt) (pm px_tb fx (d)) Q al n g 0 [.ref (al P), .int i] [] 0 0
  refine pg_iload_n dX5_tokenAt_0 rfl ?_
  refine pg_if_lt (tgt := 22) dX5_tokenAt_1 (by decide) (fun c1 => ?_) (fun c1 => ?_)
  ·
    have c19 := Int32.not_le.mpr c1
    refine pg_iconst dX5_tokenAt_22 (show Int32.ofInt (-1) = (-1) by decide) ?_
    exact pg_iret dX5_tokenAt_23 rfl rfl (Nat.zero_le _) (Nat.zero_le _) hQ
  ·
    have c19 := Int32.not_lt.mp c1
    refine pg_iload_n dX5_tokenAt_4 rfl ?_
    refine pg_aload_n dX5_tokenAt_5 rfl rfl ?_
    refine pg_get dX5_tokenAt_6 fk_X5_25 (by omega) q1 q2 ?_
    refine pg_alen dX5_tokenAt_9 (by omega) (by decide) q6 ?_
    refine pg_icmp_ge (tgt := 22) dX5_tokenAt_10 (by decide) (fun c10 => ?_) (fun c10 => absurd (Int32.not_lt.mp (fun z => hi ⟨Int32.not_lt.mp c1, z⟩)) c10)
    refine pg_iconst dX5_tokenAt_22 (show Int32.ofInt (-1) = (-1) by decide) ?_
    exact pg_iret dX5_tokenAt_23 rfl rfl (Nat.zero_le _) (Nat.zero_le _) hQ
theorem shp_own {S : Nat → Int32} {m i : Nat} (h : ¬ (S i = 99 ∨ S i = 100)) : shp S 0 m i = S i := by
  unfold shp
  rw [Nat.zero_add, if_neg h]
theorem shp_cd {S : Nat → Int32} {m i : Nat} (hi : i < m) (h : S i = 99 ∨ S i = 100) : shp S 0 m i = if (decide (S i = 100)) = bD m S then 99 else 100 := by
  unfold shp bD
  rw [Nat.zero_add, if_pos h]
  have h0 : ¬ fcd S 0 m 0 = 0 := fun z => fcd_no S 0 m 0 z i (Nat.zero_le _) (by omega) (by rw [Nat.zero_add]; exact h)
  rw [if_neg h0]
  rcases fcd_v S 0 m 0 with e | e | e
  · exact absurd e h0
  · rw [e]; rcases h with h | h <;> rw [h] <;> rfl
  · rw [e]; rcases h with h | h <;> rw [h] <;> rfl
set_option maxHeartbeats 4000000 in
set_option maxRecDepth 20000 in
theorem dp_shapeAt (d : Nat) {P m L : Nat} {S O A : Nat → Int32} {i : Nat} (hm : m < 2 ^ 30) (hi : i < m) : DP (d + 2) 41 (fun al => [.ref (al P), .int (nI i)]) (fun al n g => PG al n g P m L S O A (bD m S)) (some (.int (shp S 0 m i))) := by
  refine DP.of pm_X5_shapeAt rfl (fun _ => rfl) (fun _ => Nat.le_of_ble_eq_true rfl) ?_
  intro fx al n g Q ⟨p1, p2, ⟨f, q1, q2, q3, q4, q5⟩, q6, q7, q8⟩ hQ
  show pg px_tb fx (px_body pm_X5_shapeAt) (pm px_tb fx (d + 1)) Q al n g 0 [.ref (al P), .int (nI i), .float 0] [] 0 0
  refine pg_aload_n dX5_shapeAt_0 rfl rfl ?_
  refine pg_iload_n dX5_shapeAt_1 rfl ?_
  refine pg_callD (As := fun al => [.int (nI i)]) dX5_shapeAt_2 cl_X5_42 (by omega) q1 (dp_tokenAt_in d (P := P) hm hi) ⟨p1, p2, ⟨f, q1, q2, q3, q4, q5⟩, q6, q7, q8⟩ rfl rfl (Nat.le_of_ble_eq_true rfl) ⟨rfl, rfl⟩ (Nat.zero_le _) (Nat.zero_le _) ?_
  refine pg_istore_n dX5_shapeAt_5 (Nat.le_of_ble_eq_true rfl) ?_
  refine pg_iload_n dX5_shapeAt_6 rfl ?_
  refine pg_bipush dX5_shapeAt_7 (show (Int8.ofInt (99)).toInt32 = (99) by decide) ?_
  refine pg_icmp_eq (tgt := 20) dX5_shapeAt_9 (by decide) (fun c9 => ?_) (fun c9 => ?_)
  ·
    refine pg_iload_n dX5_shapeAt_20 rfl ?_
    refine pg_bipush dX5_shapeAt_21 (show (Int8.ofInt (100)).toInt32 = (100) by decide) ?_
    refine pg_icmp_ne (tgt := 30) dX5_shapeAt_23 (by decide) (fun c23 => ?_) (fun c23 => ?_)
    ·
      refine pg_iconst dX5_shapeAt_30 (show Int32.ofInt (0) = (0) by decide) ?_
      refine pg_aload_n dX5_shapeAt_31 rfl rfl ?_
      refine pg_get dX5_shapeAt_32 fk_X5_38 (by omega) q1 q5 ?_
      refine pg_icmp_ne (tgt := 43) dX5_shapeAt_35 (by decide) (fun c35 => ?_) (fun c35 => ?_)
      ·
        refine pg_bipush dX5_shapeAt_43 (show (Int8.ofInt (100)).toInt32 = (100) by decide) ?_
        rw [shp_cd hi (Or.inl c9)] at hQ
        rw [decide_eq_false (show ¬ S i = 100 from c23)] at hQ
        cases hb : bD m S
        · rw [hb] at hQ c35; first | exact absurd rfl c35 | exact absurd c35 (by decide) | exact pg_iret dX5_shapeAt_45 rfl rfl (Nat.zero_le _) (Nat.zero_le _) hQ
        · rw [hb] at hQ c35; first | exact absurd rfl c35 | exact absurd c35 (by decide) | exact pg_iret dX5_shapeAt_45 rfl rfl (Nat.zero_le _) (Nat.zero_le _) hQ
      ·
        refine pg_bipush dX5_shapeAt_38 (show (Int8.ofInt (99)).toInt32 = (99) by decide) ?_
        refine pg_goto (tgt := 45) dX5_shapeAt_40 (by decide) ?_
        rw [shp_cd hi (Or.inl c9)] at hQ
        rw [decide_eq_false (show ¬ S i = 100 from c23)] at hQ
        cases hb : bD m S
        · rw [hb] at hQ c35; first | exact absurd rfl c35 | exact absurd c35 (by decide) | exact pg_iret dX5_shapeAt_45 rfl rfl (Nat.zero_le _) (Nat.zero_le _) hQ
        · rw [hb] at hQ c35; first | exact absurd rfl c35 | exact absurd c35 (by decide) | exact pg_iret dX5_shapeAt_45 rfl rfl (Nat.zero_le _) (Nat.zero_le _) hQ
    ·
      refine pg_iconst dX5_shapeAt_26 (show Int32.ofInt (1) = (1) by decide) ?_
      refine pg_goto (tgt := 31) dX5_shapeAt_27 (by decide) ?_
      refine pg_aload_n dX5_shapeAt_31 rfl rfl ?_
      refine pg_get dX5_shapeAt_32 fk_X5_38 (by omega) q1 q5 ?_
      refine pg_icmp_ne (tgt := 43) dX5_shapeAt_35 (by decide) (fun c35 => ?_) (fun c35 => ?_)
      ·
        refine pg_bipush dX5_shapeAt_43 (show (Int8.ofInt (100)).toInt32 = (100) by decide) ?_
        rw [shp_cd hi (Or.inl c9)] at hQ
        rw [decide_eq_true (show S i = 100 from c23)] at hQ
        cases hb : bD m S
        · rw [hb] at hQ c35; first | exact absurd rfl c35 | exact absurd c35 (by decide) | exact pg_iret dX5_shapeAt_45 rfl rfl (Nat.zero_le _) (Nat.zero_le _) hQ
        · rw [hb] at hQ c35; first | exact absurd rfl c35 | exact absurd c35 (by decide) | exact pg_iret dX5_shapeAt_45 rfl rfl (Nat.zero_le _) (Nat.zero_le _) hQ
      ·
        refine pg_bipush dX5_shapeAt_38 (show (Int8.ofInt (99)).toInt32 = (99) by decide) ?_
        refine pg_goto (tgt := 45) dX5_shapeAt_40 (by decide) ?_
        rw [shp_cd hi (Or.inl c9)] at hQ
        rw [decide_eq_true (show S i = 100 from c23)] at hQ
        cases hb : bD m S
        · rw [hb] at hQ c35; first | exact absurd rfl c35 | exact absurd c35 (by decide) | exact pg_iret dX5_shapeAt_45 rfl rfl (Nat.zero_le _) (Nat.zero_le _) hQ
        · rw [hb] at hQ c35; first | exact absurd rfl c35 | exact absurd c35 (by decide) | exact pg_iret dX5_shapeAt_45 rfl rfl (Nat.zero_le _) (Nat.zero_le _) hQ
  ·
    refine pg_iload_n dX5_shapeAt_12 rfl ?_
    refine pg_bipush dX5_shapeAt_13 (show (Int8.ofInt (100)).toInt32 = (100) by decide) ?_
    refine pg_icmp_eq (tgt := 20) dX5_shapeAt_15 (by decide) (fun c15 => ?_) (fun c15 => ?_)
    ·
      refine pg_iload_n dX5_shapeAt_20 rfl ?_
      refine pg_bipush dX5_shapeAt_21 (show (Int8.ofInt (100)).toInt32 = (100) by decide) ?_
      refine pg_icmp_ne (tgt := 30) dX5_shapeAt_23 (by decide) (fun c23 => ?_) (fun c23 => ?_)
      ·
        refine pg_iconst dX5_shapeAt_30 (show Int32.ofInt (0) = (0) by decide) ?_
        refine pg_aload_n dX5_shapeAt_31 rfl rfl ?_
        refine pg_get dX5_shapeAt_32 fk_X5_38 (by omega) q1 q5 ?_
        refine pg_icmp_ne (tgt := 43) dX5_shapeAt_35 (by decide) (fun c35 => ?_) (fun c35 => ?_)
        ·
          refine pg_bipush dX5_shapeAt_43 (show (Int8.ofInt (100)).toInt32 = (100) by decide) ?_
          rw [shp_cd hi (Or.inr c15)] at hQ
          rw [decide_eq_false (show ¬ S i = 100 from c23)] at hQ
          cases hb : bD m S
          · rw [hb] at hQ c35; first | exact absurd rfl c35 | exact absurd c35 (by decide) | exact pg_iret dX5_shapeAt_45 rfl rfl (Nat.zero_le _) (Nat.zero_le _) hQ
          · rw [hb] at hQ c35; first | exact absurd rfl c35 | exact absurd c35 (by decide) | exact pg_iret dX5_shapeAt_45 rfl rfl (Nat.zero_le _) (Nat.zero_le _) hQ
        ·
          refine pg_bipush dX5_shapeAt_38 (show (Int8.ofInt (99)).toInt32 = (99) by decide) ?_
          refine pg_goto (tgt := 45) dX5_shapeAt_40 (by decide) ?_
          rw [shp_cd hi (Or.inr c15)] at hQ
          rw [decide_eq_false (show ¬ S i = 100 from c23)] at hQ
          cases hb : bD m S
          · rw [hb] at hQ c35; first | exact absurd rfl c35 | exact absurd c35 (by decide) | exact pg_iret dX5_shapeAt_45 rfl rfl (Nat.zero_le _) (Nat.zero_le _) hQ
          · rw [hb] at hQ c35; first | exact absurd rfl c35 | exact absurd c35 (by decide) | exact pg_iret dX5_shapeAt_45 rfl rfl (Nat.zero_le _) (Nat.zero_le _) hQ
      ·
        refine pg_iconst dX5_shapeAt_26 (show Int32.ofInt (1) = (1) by decide) ?_
        refine pg_goto (tgt := 31) dX5_shapeAt_27 (by decide) ?_
        refine pg_aload_n dX5_shapeAt_31 rfl rfl ?_
        refine pg_get dX5_shapeAt_32 fk_X5_38 (by omega) q1 q5 ?_
        refine pg_icmp_ne (tgt := 43) dX5_shapeAt_35 (by decide) (fun c35 => ?_) (fun c35 => ?_)
        ·
          refine pg_bipush dX5_shapeAt_43 (show (Int8.ofInt (100)).toInt32 = (100) by decide) ?_
          rw [shp_cd hi (Or.inr c15)] at hQ
          rw [decide_eq_true (show S i = 100 from c23)] at hQ
          cases hb : bD m S
          · rw [hb] at hQ c35; first | exact absurd rfl c35 | exact absurd c35 (by decide) | exact pg_iret dX5_shapeAt_45 rfl rfl (Nat.zero_le _) (Nat.zero_le _) hQ
          · rw [hb] at hQ c35; first | exact absurd rfl c35 | exact absurd c35 (by decide) | exact pg_iret dX5_shapeAt_45 rfl rfl (Nat.zero_le _) (Nat.zero_le _) hQ
        ·
          refine pg_bipush dX5_shapeAt_38 (show (Int8.ofInt (99)).toInt32 = (99) by decide) ?_
          refine pg_goto (tgt := 45) dX5_shapeAt_40 (by decide) ?_
          rw [shp_cd hi (Or.inr c15)] at hQ
          rw [decide_eq_true (show S i = 100 from c23)] at hQ
          cases hb : bD m S
          · rw [hb] at hQ c35; first | exact absurd rfl c35 | exact absurd c35 (by decide) | exact pg_iret dX5_shapeAt_45 rfl rfl (Nat.zero_le _) (Nat.zero_le _) hQ
          · rw [hb] at hQ c35; first | exact absurd rfl c35 | exact absurd c35 (by decide) | exact pg_iret dX5_shapeAt_45 rfl rfl (Nat.zero_le _) (Nat.zero_le _) hQ
    ·
      refine pg_iload_n dX5_shapeAt_18 rfl ?_
      rw [shp_own (fun z => z.elim c9 c15)] at hQ
      exact pg_iret dX5_shapeAt_19 rfl rfl (Nat.zero_le _) (Nat.zero_le _) hQ
set_option maxHeartbeats 4000000 in
set_option maxRecDepth 20000 in
theorem dl_shape {fx : px_F} {d : Nat} {Q : px_Q} {al : Nat → Nat} {n : Nat} {g : Nat → px_O} {P P2 m L L2 : Nat} {S O A S2 O2 A2 : Nat → Int32} (hm : m < 2 ^ 30) (hD : PG al n g P m L S O A (bD m S) ∧ PG al n g P2 m L2 S2 O2 A2 (bD m S2)) : ∀ (j i : Nat), i + j = m → Q (.inl (some (.int (zB (shA S 0 S2 0 m j i))))) al n g → pg px_tb fx (px_body pm_X5_hasShapeOf) (pm px_tb fx (d + 2)) Q al n g 17 [.ref (al P), .ref (al P2), .int (nI i)] [] 0 0
  | 0, i, hk, hQ => by
    obtain rfl : i = m := by omega
    obtain ⟨⟨p1, p2, ⟨f, q1, q2, q3, q4, q5⟩, q6, q7, q8⟩, ⟨r1, r2, ⟨f2, s1, s2, s3, s4, s5⟩, s6, s7, s8⟩⟩ := hD
    refine pg_iload_n dX5_hasShapeOf_17 rfl ?_
    refine pg_aload_n dX5_hasShapeOf_18 rfl rfl ?_
    refine pg_get dX5_hasShapeOf_19 fk_X5_25 (by omega) q1 q2 ?_
    refine pg_alen dX5_hasShapeOf_22 (by omega) (by decide) q6 ?_
    refine pg_icmp_ge (tgt := 47) dX5_hasShapeOf_23 (by decide) (fun c23 => ?_) (fun c23 => absurd (Int32.le_refl _) c23)
    refine pg_iconst dX5_hasShapeOf_47 (show Int32.ofInt (1) = (1) by decide) ?_
    exact pg_iret dX5_hasShapeOf_48 rfl rfl (Nat.zero_le _) (Nat.zero_le _) hQ
  | j + 1, i, hk, hQ => by
    rw [shA] at hQ
    have hD9 := hD
    obtain ⟨⟨p1, p2, ⟨f, q1, q2, q3, q4, q5⟩, q6, q7, q8⟩, ⟨r1, r2, ⟨f2, s1, s2, s3, s4, s5⟩, s6, s7, s8⟩⟩ := hD
    refine pg_iload_n dX5_hasShapeOf_17 rfl ?_
    refine pg_aload_n dX5_hasShapeOf_18 rfl rfl ?_
    refine pg_get dX5_hasShapeOf_19 fk_X5_25 (by omega) q1 q2 ?_
    refine pg_alen dX5_hasShapeOf_22 (by omega) (by decide) q6 ?_
    refine pg_icmp_ge (tgt := 47) dX5_hasShapeOf_23 (by decide) (fun c23 => absurd c23 (Int32.not_le.mpr (nI_lt (show i < m by omega) (by omega)))) (fun c23 => ?_)
    refine pg_aload_n dX5_hasShapeOf_26 rfl rfl ?_
    refine pg_iload_n dX5_hasShapeOf_27 rfl ?_
    refine pg_callD (As := fun al => [.int (nI i)]) dX5_hasShapeOf_28 cl_X5_46 (by omega) q1 (dp_shapeAt d (P := P) (i := i) hm (by omega)) ⟨p1, p2, ⟨f, q1, q2, q3, q4, q5⟩, q6, q7, q8⟩ rfl rfl (Nat.le_of_ble_eq_true rfl) ⟨rfl, rfl⟩ (Nat.zero_le _) (Nat.zero_le _) ?_
    refine pg_aload_n dX5_hasShapeOf_31 rfl rfl ?_
    refine pg_iload_n dX5_hasShapeOf_32 rfl ?_
    refine pg_callD (As := fun al => [.int (nI i)]) dX5_hasShapeOf_33 cl_X5_46 (by omega) s1 (dp_shapeAt d (P := P2) (i := i) hm (by omega)) ⟨r1, r2, ⟨f2, s1, s2, s3, s4, s5⟩, s6, s7, s8⟩ rfl rfl (Nat.le_of_ble_eq_true rfl) ⟨rfl, rfl⟩ (Nat.zero_le _) (Nat.zero_le _) ?_
    refine pg_icmp_eq (tgt := 41) dX5_hasShapeOf_36 (by decide) (fun c36 => ?_) (fun c36 => ?_)
    ·
      refine pg_iinc dX5_hasShapeOf_41 rfl (show Int32.ofInt (1) = (1) by decide) ?_
      refine pg_goto (tgt := 17) dX5_hasShapeOf_44 (by decide) ?_
      rw [decide_eq_true c36, Bool.true_and] at hQ
      rw [nI_1]
      exact dl_shape hm hD9 j (i + 1) (by omega) hQ
    ·
      refine pg_iconst dX5_hasShapeOf_39 (show Int32.ofInt (0) = (0) by decide) ?_
      rw [decide_eq_false c36, Bool.false_and] at hQ
      exact pg_iret dX5_hasShapeOf_40 rfl rfl (Nat.zero_le _) (Nat.zero_le _) hQ
set_option maxHeartbeats 4000000 in
set_option maxRecDepth 20000 in
theorem dp_hasShapeOf (d : Nat) {P P2 m m2 L L2 : Nat} {S O A S2 O2 A2 : Nat → Int32} (hm : m < 2 ^ 30) (hm2 : m2 < 2 ^ 30) : DP (d + 3) 42 (fun al => [.ref (al P), .ref (al P2)]) (fun al n g => PG al n g P m L S O A (bD m S) ∧ PG al n g P2 m2 L2 S2 O2 A2 (bD m2 S2)) (some (.int (zB (decide (m = m2) && shA S 0 S2 0 m m 0)))) := by
  refine DP.of pm_X5_hasShapeOf rfl (fun _ => rfl) (fun _ => Nat.le_of_ble_eq_true rfl) ?_
  intro fx al n g Q hD hQ
  show pg px_tb fx (px_body pm_X5_hasShapeOf) (pm px_tb fx (d + 2)) Q al n g 0 [.ref (al P), .ref (al P2), .float 0] [] 0 0
  have hD9 := hD
  obtain ⟨⟨p1, p2, ⟨f, q1, q2, q3, q4, q5⟩, q6, q7, q8⟩, ⟨r1, r2, ⟨f2, s1, s2, s3, s4, s5⟩, s6, s7, s8⟩⟩ := hD
  refine pg_aload_n dX5_hasShapeOf_0 rfl rfl ?_
  refine pg_get dX5_hasShapeOf_1 fk_X5_25 (by omega) q1 q2 ?_
  refine pg_alen dX5_hasShapeOf_4 (by omega) (by decide) q6 ?_
  refine pg_aload_n dX5_hasShapeOf_5 rfl rfl ?_
  refine pg_get dX5_hasShapeOf_6 fk_X5_25 (by omega) s1 s2 ?_
  refine pg_alen dX5_hasShapeOf_9 (by omega) (by decide) s6 ?_
  refine pg_icmp_eq (tgt := 15) dX5_hasShapeOf_10 (by decide) (fun c10 => ?_) (fun c10 => ?_)
  ·
    refine pg_iconst dX5_hasShapeOf_15 (show Int32.ofInt (0) = (0) by decide) ?_
    refine pg_istore_n dX5_hasShapeOf_16 (Nat.le_of_ble_eq_true rfl) ?_
    have e9 : m = m2 := (nI_eq (by omega) (by omega)).mp c10
    subst e9
    rw [decide_eq_true rfl, Bool.true_and] at hQ
    exact dl_shape hm hD9 m 0 (by omega) hQ
  ·
    refine pg_iconst dX5_hasShapeOf_13 (show Int32.ofInt (0) = (0) by decide) ?_
    rw [decide_eq_false (fun z => c10 (by rw [z])), Bool.false_and] at hQ
    exact pg_iret dX5_hasShapeOf_14 rfl rfl (Nat.zero_le _) (Nat.zero_le _) hQ
