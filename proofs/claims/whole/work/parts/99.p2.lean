theorem out17 {q : Int32} (h : ¬ (0 ≤ q ∧ q < nI 17)) : q.toInt < 0 ∨ 16 < q.toInt := by
  by_cases c : q.toInt < 0
  · exact Or.inl c
  · refine Or.inr ?_
    have h0 : 0 ≤ q := Int32.le_iff_toInt_le.mpr (show (0 : Int32).toInt ≤ q.toInt from by show (0 : Int) ≤ q.toInt; omega)
    have h1 : ¬ q < nI 17 := fun z => h ⟨h0, z⟩
    have h2 := Int32.le_iff_toInt_le.mp (Int32.not_lt.mp h1)
    have : (nI 17).toInt = 17 := rfl
    omega
theorem len6 : ∀ N, N < 6 → nI N - 6 < 0 := by decide
/-- whether there is a call left -/
theorem len_lt {N i : Nat} (hN : N ≤ 3072) (hi : i ≤ 4000) : nI N - 6 < nI i ↔ N < i + 6 := by
  by_cases c : N < 6
  · have h1 := len6 N c
    refine ⟨fun _ => by omega, fun _ => Int32.lt_of_lt_of_le h1 (Int32.not_lt.mp (nI_pos (by omega)))⟩
  · rw [show (6 : Int32) = nI 6 from rfl, pk_sub (by omega)]
    refine ⟨fun z => ?_, fun z => nI_lt (by omega) (by omega)⟩
    by_cases w : N < i + 6
    · exact w
    · exact absurd z (nI_nlt (by omega) (by omega))
set_option maxHeartbeats 4000000 in
set_option maxRecDepth 20000 in
theorem law_loop {fx : px_F} {Q : px_Q} (hN : fx.2.2.2.1 ≤ 3072) (hQ : ∀ (al : Nat → Nat) (n : Nat) (g : Nat → px_O), Q (.inl (some (.int 1))) al n g) : ∀ (r i : Nat) (al : Nat → Nat) (n : Nat) (g : Nat → px_O) (c0 : Int32) (x5 x6 : Value) (uc us : Nat), fx.2.2.2.1 < i + 6 * (r + 1) → i ≤ 3072 → uc + 8 * r ≤ 601024 → us + 373 * r ≤ 7293034 → REL al n g c0 → LWP fx Q al n g 23 i x5 x6 uc us
  | 0, i, al, n, g, c0, x5, x6, uc, us, hr, hi, hu, hw, h => by
    show pg px_tb fx (px_body pm_L_law) (pm px_tb fx 1735) Q al n g 23 [.ref fx.2.2.1, .ref (al 0), .ref (al 36), .ref (al 58), .int (nI i), x5, x6] [] uc us
    refine pg_iload dL_law_23 rfl ?_
    refine pg_aload_n dL_law_25 rfl rfl ?_
    refine pg_slen dL_law_26 ?_
    refine pg_bipush dL_law_27 (show (Int8.ofInt (6)).toInt32 = (6) by decide) ?_
    refine pg_isub dL_law_29 ?_
    refine pg_icmp_gt (tgt := 1173) dL_law_30 (by decide) (fun c30 => ?_) (fun c30 => absurd ((len_lt hN (by omega)).mpr (by omega)) c30)
    refine pg_iconst dL_law_1173 (show Int32.ofInt (1) = (1) by decide) ?_
    exact pg_iret dL_law_1174 rfl rfl (show uc ≤ 601024 by omega) (show us ≤ 7293034 by omega) (hQ al n g)
  | r + 1, i, al, n, g, c0, x5, x6, uc, us, hr, hi, hu, hw, h => by
    show pg px_tb fx (px_body pm_L_law) (pm px_tb fx 1735) Q al n g 23 [.ref fx.2.2.1, .ref (al 0), .ref (al 36), .ref (al 58), .int (nI i), x5, x6] [] uc us
    refine pg_iload dL_law_23 rfl ?_
    refine pg_aload_n dL_law_25 rfl rfl ?_
    refine pg_slen dL_law_26 ?_
    refine pg_bipush dL_law_27 (show (Int8.ofInt (6)).toInt32 = (6) by decide) ?_
    refine pg_isub dL_law_29 ?_
    refine pg_icmp_gt (tgt := 1173) dL_law_30 (by decide) (fun c30 => ?_) (fun c30 => ?_)
    ·
      have c309 := Int32.not_le.mpr c30
      refine pg_iconst dL_law_1173 (show Int32.ofInt (1) = (1) by decide) ?_
      exact pg_iret dL_law_1174 rfl rfl (show uc ≤ 601024 by omega) (show us ≤ 7293034 by omega) (hQ al n g)
    ·
      have c309 := Int32.not_lt.mp c30
      refine pg_aload_n dL_law_33 rfl rfl ?_
      refine pg_iload dL_law_34 rfl ?_
      
      have hi5 : i + 6 ≤ fx.2.2.2.1 := by
        by_cases z : i + 6 ≤ fx.2.2.2.1
        · exact z
        · exact absurd ((len_lt hN (by omega)).mpr (by omega)) c30
      refine pg_sld dL_law_36 (vp_in_nI (n := i) (by omega) (by omega)) ?_
      rw [nI_clamp (show i < 2 ^ 31 by omega)]
      refine pg_bipush dL_law_37 (show (Int8.ofInt (31)).toInt32 = (31) by decide) ?_
      refine pg_iand dL_law_39 ?_
      have hi6 : i + 6 ≤ fx.2.2.2.1 := by
        by_cases z : i + 6 ≤ fx.2.2.2.1
        · exact z
        · exact absurd ((len_lt hN (by omega)).mpr (by omega)) c30
      have IH : ∀ (al2 : Nat → Nat) (n2 : Nat) (g2 : Nat → px_O) (c2 : Int32) (y5 y6 : Value) (u s : Nat), u + 8 * r ≤ 601024 → s + 373 * r ≤ 7293034 → REL al2 n2 g2 c2 → LWP fx Q al2 n2 g2 1167 i y5 y6 u s := fun al2 n2 g2 c2 y5 y6 u s hu2 hw2 hR => by
        show pg px_tb fx (px_body pm_L_law) (pm px_tb fx 1735) Q al2 n2 g2 1167 [.ref fx.2.2.1, .ref (al2 0), .ref (al2 36), .ref (al2 58), .int (nI i), y5, y6] [] u s
        refine pg_iinc dL_law_1167 rfl (show Int32.ofInt (6) = (6) by decide) ?_
        refine pg_goto (tgt := 23) dL_law_1170 (by decide) ?_
        rw [show nI i + 6 = nI (i + 6) from nI_add i 6]
        exact law_loop hN hQ r (i + 6) al2 n2 g2 c2 y5 y6 u s (by omega) (by omega) hu2 hw2 hR
      rcases idx_case (N := 17) (by decide) (fx.2.2.2.2 i &&& 31) with ⟨j, hj, hv⟩ | ⟨z1, _⟩
      rotate_left
      · refine pg_tableOut (tgt := 1167) dL_law_40 (out17 z1) (by decide) ?_
        exact IH al n g c0 x5 x6 uc us (by omega) (by omega) h
      rw [hv]
      have : j = 0 ∨ j = 1 ∨ j = 2 ∨ j = 3 ∨ j = 4 ∨ j = 5 ∨ j = 6 ∨ j = 7 ∨ j = 8 ∨ j = 9 ∨ j = 10 ∨ j = 11 ∨ j = 12 ∨ j = 13 ∨ j = 14 ∨ j = 15 ∨ j = 16 := by omega
      rcases this with rfl | rfl | rfl | rfl | rfl | rfl | rfl | rfl | rfl | rfl | rfl | rfl | rfl | rfl | rfl | rfl | rfl
      · refine pg_tableIn (tgt := 124) dL_law_40 (by decide) (by decide) rfl (by decide) ?_
        exact sg_feed h hN hi6 (by omega) (by omega) (fun al2 n2 g2 c2 y5 y6 hR => IH al2 n2 g2 c2 y5 y6 _ _ (show uc + 0 + 0 + 8 * r ≤ 601024 by omega) (show us + 0 + 0 + 373 * r ≤ 7293034 by omega) hR)
      · refine pg_tableIn (tgt := 197) dL_law_40 (by decide) (by decide) rfl (by decide) ?_
        exact sg_end h hN hi6 (by omega) (by omega) (fun al2 n2 g2 c2 y5 y6 hR => IH al2 n2 g2 c2 y5 y6 _ _ (show uc + 0 + 0 + 8 * r ≤ 601024 by omega) (show us + 0 + 0 + 373 * r ≤ 7293034 by omega) hR)
      · refine pg_tableIn (tgt := 222) dL_law_40 (by decide) (by decide) rfl (by decide) ?_
        exact sg_read h hN hi6 (by omega) (by omega) (fun al2 n2 g2 c2 y5 y6 hR => IH al2 n2 g2 c2 y5 y6 _ _ (show uc + 5 + 0 + 0 + 8 * r ≤ 601024 by omega) (show us + 373 + 0 + 0 + 373 * r ≤ 7293034 by omega) hR)
      · refine pg_tableIn (tgt := 266) dL_law_40 (by decide) (by decide) rfl (by decide) ?_
        exact sg_fault h hN hi6 (by omega) (by omega) (fun al2 n2 g2 c2 y5 y6 hR => IH al2 n2 g2 c2 y5 y6 _ _ (show uc + 0 + 0 + 8 * r ≤ 601024 by omega) (show us + 0 + 0 + 373 * r ≤ 7293034 by omega) hR)
      · refine pg_tableIn (tgt := 279) dL_law_40 (by decide) (by decide) rfl (by decide) ?_
        exact sg_run h hN hi6 (by omega) (by omega) (fun al2 n2 g2 c2 y5 y6 hR => IH al2 n2 g2 c2 y5 y6 _ _ (show uc + 2 + 0 + 0 + 8 * r ≤ 601024 by omega) (show us + 12 + 0 + 0 + 373 * r ≤ 7293034 by omega) hR)
      · refine pg_tableIn (tgt := 359) dL_law_40 (by decide) (by decide) rfl (by decide) ?_
        exact sg_task h hN hi6 (by omega) (by omega) (fun al2 n2 g2 c2 y5 y6 hR => IH al2 n2 g2 c2 y5 y6 _ _ (show uc + 8 + 0 + 0 + 8 * r ≤ 601024 by omega) (show us + 57 + 0 + 0 + 373 * r ≤ 7293034 by omega) hR)
      · refine pg_tableIn (tgt := 427) dL_law_40 (by decide) (by decide) rfl (by decide) ?_
        exact sg_world h hN hi6 (by omega) (by omega) (fun al2 n2 g2 c2 y5 y6 hR => IH al2 n2 g2 c2 y5 y6 _ _ (show uc + 1 + 0 + 0 + 8 * r ≤ 601024 by omega) (show us + 6 + 0 + 0 + 373 * r ≤ 7293034 by omega) hR)
      · refine pg_tableIn (tgt := 519) dL_law_40 (by decide) (by decide) rfl (by decide) ?_
        exact sg_attempt h hN hi6 (by omega) (by omega) (fun al2 n2 g2 c2 y5 y6 hR => IH al2 n2 g2 c2 y5 y6 _ _ (show uc + 3 + 0 + 0 + 8 * r ≤ 601024 by omega) (show us + 18 + 0 + 0 + 373 * r ≤ 7293034 by omega) hR)
      · refine pg_tableIn (tgt := 615) dL_law_40 (by decide) (by decide) rfl (by decide) ?_
        exact sg_can h hN hi6 (by omega) (by omega) (fun al2 n2 g2 c2 y5 y6 hR => IH al2 n2 g2 c2 y5 y6 _ _ (show uc + 2 + 0 + 0 + 8 * r ≤ 601024 by omega) (show us + 12 + 0 + 0 + 373 * r ≤ 7293034 by omega) hR)
      · refine pg_tableIn (tgt := 683) dL_law_40 (by decide) (by decide) rfl (by decide) ?_
        exact sg_passed h hN hi6 (by omega) (by omega) (fun al2 n2 g2 c2 y5 y6 hR => IH al2 n2 g2 c2 y5 y6 _ _ (show uc + 2 + 0 + 0 + 8 * r ≤ 601024 by omega) (show us + 12 + 0 + 0 + 373 * r ≤ 7293034 by omega) hR)
      · refine pg_tableIn (tgt := 758) dL_law_40 (by decide) (by decide) rfl (by decide) ?_
        exact sg_next h hN hi6 (by omega) (by omega) (fun al2 n2 g2 c2 y5 y6 hR => IH al2 n2 g2 c2 y5 y6 _ _ (show uc + 1 + 0 + 0 + 8 * r ≤ 601024 by omega) (show us + 6 + 0 + 0 + 373 * r ≤ 7293034 by omega) hR)
      · refine pg_tableIn (tgt := 814) dL_law_40 (by decide) (by decide) rfl (by decide) ?_
        exact sg_wish h hN hi6 (by omega) (by omega) (fun al2 n2 g2 c2 y5 y6 hR => IH al2 n2 g2 c2 y5 y6 _ _ (show uc + 2 + 0 + 0 + 8 * r ≤ 601024 by omega) (show us + 12 + 0 + 0 + 373 * r ≤ 7293034 by omega) hR)
      · refine pg_tableIn (tgt := 882) dL_law_40 (by decide) (by decide) rfl (by decide) ?_
        exact sg_look h hN hi6 (by omega) (by omega) (fun al2 n2 g2 c2 y5 y6 hR => IH al2 n2 g2 c2 y5 y6 _ _ (show uc + 2 + 0 + 0 + 8 * r ≤ 601024 by omega) (show us + 12 + 0 + 0 + 373 * r ≤ 7293034 by omega) hR)
      · refine pg_tableIn (tgt := 950) dL_law_40 (by decide) (by decide) rfl (by decide) ?_
        exact sg_hint h hN hi6 (by omega) (by omega) (fun al2 n2 g2 c2 y5 y6 hR => IH al2 n2 g2 c2 y5 y6 _ _ (show uc + 3 + 0 + 0 + 8 * r ≤ 601024 by omega) (show us + 18 + 0 + 0 + 373 * r ≤ 7293034 by omega) hR)
      · refine pg_tableIn (tgt := 1018) dL_law_40 (by decide) (by decide) rfl (by decide) ?_
        exact sg_alike h hN hi6 (by omega) (by omega) (fun al2 n2 g2 c2 y5 y6 hR => IH al2 n2 g2 c2 y5 y6 _ _ (show uc + 3 + 0 + 0 + 8 * r ≤ 601024 by omega) (show us + 18 + 0 + 0 + 373 * r ≤ 7293034 by omega) hR)
      · refine pg_tableIn (tgt := 1117) dL_law_40 (by decide) (by decide) rfl (by decide) ?_
        exact sg_token h hN hi6 (by omega) (by omega) (fun al2 n2 g2 c2 y5 y6 hR => IH al2 n2 g2 c2 y5 y6 _ _ (show uc + 0 + 0 + 8 * r ≤ 601024 by omega) (show us + 0 + 0 + 373 * r ≤ 7293034 by omega) hR)
      · refine pg_tableIn (tgt := 1142) dL_law_40 (by decide) (by decide) rfl (by decide) ?_
        exact sg_count h hN hi6 (by omega) (by omega) (fun al2 n2 g2 c2 y5 y6 hR => IH al2 n2 g2 c2 y5 y6 _ _ (show uc + 0 + 0 + 8 * r ≤ 601024 by omega) (show us + 0 + 0 + 373 * r ≤ 7293034 by omega) hR)
theorem REL.start {al : Nat → Nat} {g g2 : Nat → px_O} {al2 : Nat → Nat} {fo : Nat → Int64} (hC : CR al2 59 g2 sc0 ar0 .null (fun _ => none)) (hR : RR al2 59 g2 36 (upd (fun _ => 0) 7 (-1)) (fun _ _ => 0)) (ho : g2 58 = .inl (3, 1, .inr (.inl fo))) : REL al2 59 g2 0 := by
  refine ⟨sc0, ar0, .null, fun _ => none, _, _, 0, fun _ => 0, fun _ => false, ⟨hC, hR, by decide, ⟨fo, ho⟩, ⟨fun _ => 0, 0, ⟨rfl, by decide, fun j hj => by omega⟩, rfl, fun j hj => by omega⟩, ⟨rfl, rfl, rfl, rfl, rfl, rfl, by decide⟩, ⟨fun _ _ _ _ => rfl, fun j _ => ⟨0, by decide, rfl⟩⟩, Or.inl ⟨rfl, rfl⟩, fun t ht => by omega, fun t t2 ht => by omega, fun t _ _ => ⟨rfl, rfl, fun _ _ => rfl⟩⟩, rfl⟩
set_option maxHeartbeats 4000000 in
set_option maxRecDepth 20000 in
theorem law_pm {fx : px_F} {Q : px_Q} {al : Nat → Nat} {g : Nat → px_O} (hN : fx.2.2.2.1 ≤ 3072) (hQ : ∀ (al : Nat → Nat) (n : Nat) (g : Nat → px_O), Q (.inl (some (.int 1))) al n g) : pm px_tb fx 1736 160 [.ref fx.2.2.1] al 0 g Q := by
  refine ⟨pm_L_law, rfl, rfl, Nat.le_of_ble_eq_true rfl, ?_⟩
  show pg px_tb fx (px_body pm_L_law) (pm px_tb fx 1735) Q al 0 g 0 [.ref fx.2.2.1, .float 0, .float 0, .float 0, .float 0, .float 0, .float 0] [] 0 0
  refine pg_new dL_law_0 nw_L_8 (Nat.le_of_ble_eq_true rfl) (Nat.le_of_ble_eq_true rfl) (fun a1 h1 => ?_)
  refine pg_dup dL_law_3 rfl ?_
  refine pg_callI (pm_mono px_tb fx 1735) (j := 0) (As := []) dL_law_4 cl_L_63 rfl (Nat.le_of_ble_eq_true rfl) (Nat.le_of_ble_eq_true rfl) (Nat.le_of_ble_eq_true rfl) ?_
  refine pm_le' (i_X9 (d := 0) (va_up_self _ _ _) (fun a2 g2 h2 hC => ?_)) (by decide)
  show pg px_tb fx (px_body pm_L_law) (pm px_tb fx 1735) Q a2 36 g2 7 _ _ _ _
  rw [← h2 0 (by decide)]
  refine pg_astore_n dL_law_7 (Nat.le_of_ble_eq_true rfl) rfl ?_
  refine pg_new dL_law_8 nw_L_64 (Nat.le_of_ble_eq_true rfl) (Nat.le_of_ble_eq_true rfl) (fun a3 h3 => ?_)
  rw [← h3 0 (by decide)]
  refine pg_dup dL_law_11 rfl ?_
  refine pg_callI (pm_mono px_tb fx 1735) (j := 36) (As := []) dL_law_12 cl_L_66 rfl (Nat.le_of_ble_eq_true rfl) (Nat.le_of_ble_eq_true rfl) (Nat.le_of_ble_eq_true rfl) ?_
  refine pm_le' (i_X10 (d := 0) (va_up_self _ _ _) (fun a4 g4 h4 hR hg4 => ?_)) (by decide)
  show pg px_tb fx (px_body pm_L_law) (pm px_tb fx 1735) Q a4 58 g4 15 _ _ _ _
  rw [← h4 0 (by decide), ← h4 36 (by decide)]
  refine pg_astore_n dL_law_15 (Nat.le_of_ble_eq_true rfl) rfl ?_
  refine pg_iconst dL_law_16 (show Int32.ofInt (1) = (1) by decide) ?_
  refine pg_newl (N := 1) dL_law_17 (by decide) rfl (by decide) (Nat.le_of_ble_eq_true rfl) (Nat.le_of_ble_eq_true rfl) (fun a5 h5 => ?_)
  rw [← h5 0 (by decide), ← h5 36 (by decide)]
  refine pg_astore_n dL_law_19 (Nat.le_of_ble_eq_true rfl) rfl ?_
  refine pg_iconst dL_law_20 (show Int32.ofInt (0) = (0) by decide) ?_
  refine pg_istore dL_law_21 (Nat.le_of_ble_eq_true rfl) ?_
  have hC5 : CR a5 59 (va_up g4 58 (.inl (3, 1, .inr (.inl (fun _ => 0))))) sc0 ar0 .null (fun _ => none) := hC.al (fun k hk => (h5 k (by omega)).trans ((h4 k (by omega)).trans (h3 k hk))) (fun k hk => by rw [va_up_ne _ _ (by omega), hg4 k hk, va_up_ne _ _ (by omega)]) (by decide)
  have hR5 : RR a5 59 (va_up g4 58 (.inl (3, 1, .inr (.inl (fun _ => 0))))) 36 (upd (fun _ => 0) 7 (-1)) (fun _ _ => 0) := by
    refine ⟨by decide, ?_, fun a ha => by rw [va_up_ne _ _ (by omega)]; exact hR.2.2 a ha⟩
    rw [va_up_ne _ _ (by decide), hR.2.1]
    congr 2
    funext k
    unfold rf_F
    split
    · rename_i a hk
      rw [h5 _ (by have := rf_a_lt hk; omega)]
    · rfl
  exact law_loop hN hQ 512 0 a5 59 _ 0 _ _ _ _ (by omega) (by decide) (Nat.le_of_ble_eq_true rfl) (Nat.le_of_ble_eq_true rfl) (REL.start (al := al) (g := g) hC5 hR5 (va_up_self _ _ _))
