theorem tk_end {B : Nat → Nat} {e m : Nat} (hB : ∀ j, j < e → B j < 256) (h : tk B e m = 0) : ∀ k, m ≤ k → ps B e k = e ∧ tk B e k = 0
  | 0, hk => by
    obtain rfl : m = 0 := by omega
    refine ⟨?_, h⟩
    by_cases c : ps B e 0 = e
    · exact c
    · unfold tk at h
      rw [tokI_lo (by decide)] at h
      have := ps_le B e 0
      exact absurd h (lexT_n0 c (hB _ (by omega)))
  | k + 1, hk => by
    have h9 : ps B e (k + 1) = e := by
      by_cases c : m = k + 1
      · subst c
        by_cases c : ps B e (k + 1) = e
        · exact c
        · unfold tk tokI at h
          by_cases c2 : k + 1 = 120 ∧ ¬ ps B e (k + 1) = e
          · rw [if_pos c2] at h; exact absurd h (by decide)
          · rw [if_neg c2] at h
            have := ps_le B e (k + 1)
            exact absurd h (lexT_n0 c (hB _ (by omega)))
      · have h1 := (tk_end hB h k (by omega)).1
        rw [ps, h1]
        unfold lexA
        rw [if_pos rfl, Nat.sub_self]
        rfl
    refine ⟨h9, ?_⟩
    unfold tk tokI
    rw [if_neg (fun z => z.2 h9)]
    exact lexT_end h9
/-- the tokens of a text that ended with token m -/
theorem tk_tz {B : Nat → Nat} {e m : Nat} (hB : ∀ j, j < e → B j < 256) (h : tk B e m = 0) {S : Nat → Int32} (hS : ∀ k, k < m → S k = tk B e k) : tz m S = tk B e := by
  funext k
  unfold tz
  by_cases c : k < m
  · rw [if_pos c, hS k c]
  · rw [if_neg c, (tk_end hB h k (by omega)).2]
/-- what parsing leaves as it was -/
def psF (sc ar sc2 ar2 : Nat → Nat → Int32) : Prop := (∀ c k, ¬ (c = 3 ∧ (k = 3 ∨ k = 4)) → ¬ (c = 4 ∧ (k = 2 ∨ k = 3)) → sc2 c k = sc c k) ∧ ∀ a, a ≠ 5 → a ≠ 6 → a ≠ 7 → a ≠ 8 → ar2 a = ar a
theorem XT.ini {B : Nat → Nat} {e N : Nat} {sc ar : Nat → Nat → Int32} {T : Nat → Int32} : XT T N sc ar 0 0 (up2 (up2 sc 3 3 0) 3 4 0) ar := by
  refine ⟨fun c k h => ?_, rfl, Nat.zero_le _, rfl, Nat.zero_le _, fun a _ _ => rfl⟩
  have u : ∀ (s9 : Nat → Nat → Int32) (k9 : Nat) (v : Int32), k9 = 3 ∨ k9 = 4 → up2 s9 3 k9 v c k = s9 c k := fun s9 k9 v q1 => by
    unfold up2
    by_cases e : c = 3
    · subst e
      rw [va_up_self, pk_un (by omega)]
    · rw [va_up_ne _ _ e]
  rw [u _ _ _ (Or.inr rfl), u _ _ _ (Or.inl rfl)]
theorem psF.of {B : Nat → Nat} {e N j p : Nat} {sc ar sc1 ar1 sc2 ar2 : Nat → Nat → Int32} {T : Nat → Int32} (h1 : scN B e sc ar N sc1 ar1) (h2 : XT T N sc1 ar1 j p sc2 ar2) : psF sc ar sc2 ar2 := by
  refine ⟨fun c k z1 z2 => ?_, fun a z5 z6 z7 z8 => ?_⟩
  · rw [h2.1 c k z1, h1.2.2.2.1 c k z2]
  · rw [h2.2.2.2.2.2 a z7 z8, h1.2.2.2.2.2.1 a z5 z6]
set_option maxHeartbeats 4000000 in
set_option maxRecDepth 20000 in
theorem kp_parse_bad {fx : px_F} {Q : px_Q} {al : Nat → Nat} {n : Nat} {g0 : Nat → px_O} {sc ar : Nat → Nat → Int32} {sl : Value} {tf : Nat → Option Nat} {B : Nat → Nat} {e : Nat} (hB : tB sc ar B e) {b : Bool} {j : Nat} (hP : pP (tk B e) 860 0 0 0 = some (b, j)) (hbad : ¬ (b = true ∧ tk B e j = 0)) (hQ : ∀ sc2 ar2, psF sc ar sc2 ar2 → sc2 3 4 = nI j → j ≤ 120 → ar2 6 j = nI (ps B e j) → kq Q (.inl (some .null)) al (n) (g0) (sc2) (ar2) (sl) (tf)) : kp fx (1726) 21 [.ref (al 3), .ref (al 1)] Q al n (g0) (sc) (ar) (sl) (tf) := by
  refine kp.of pm_X3_parse rfl rfl (Nat.le_of_ble_eq_true rfl) ?_
  show pk fx (px_body pm_X3_parse) (1725) Q al (n) (g0) (sc) (ar) (sl) (tf) 0 [.ref (al 3), .ref (al 1)] [] 0 0
  refine pk_aload_n dX3_parse_0 rfl rfl ?_
  refine pk_getR (c := 3) (d := 4) dX3_parse_1 fk_X3_12 (by decide) rfl rfl ?_
  refine pk_aload_n dX3_parse_4 rfl rfl ?_
  refine pk_callN (c := 4) (As := fun al => [.ref (al 1)]) dX3_parse_5 cl_X3_25 (by decide) rfl (cp_scan 1717 sc ar sl tf hB) (fun _ _ => trivial) rfl rfl (Nat.le_of_ble_eq_true rfl) ⟨rfl, rfl⟩ (Nat.le_of_ble_eq_true rfl) (Nat.le_of_ble_eq_true rfl) (fun res sc2 ar2 hn => ?_)
  obtain ⟨rfl, N, hN⟩ := hn
  have hT : xT (tk B e) N ar2 := ⟨hN.1, fun j hj => (hN.2.2.2.2.2.2 j hj).1, hN.2.2.1⟩
  refine pk_aload_n dX3_parse_8 rfl rfl ?_
  refine pk_iconst dX3_parse_9 (show Int32.ofInt (0) = (0) by decide) ?_
  refine pk_put (c := 3) dX3_parse_10 fk_X3_29 (by decide) rfl rfl ⟨_, _, _, rfl, rfl⟩ rfl rfl ?_
  refine pk_aload_n dX3_parse_13 rfl rfl ?_
  refine pk_iconst dX3_parse_14 (show Int32.ofInt (0) = (0) by decide) ?_
  refine pk_put (c := 3) dX3_parse_15 fk_X3_33 (by decide) rfl rfl ⟨_, _, _, rfl, rfl⟩ rfl rfl ?_
  refine pk_aload_n dX3_parse_18 rfl rfl ?_
  refine pk_iconst dX3_parse_19 (show Int32.ofInt (0) = (0) by decide) ?_
  refine pk_iconst dX3_parse_20 (show Int32.ofInt (0) = (0) by decide) ?_
  refine pk_call (c := 3) (As := fun al => [.int (nI 0), .int (zB false)]) dX3_parse_21 cl_X3_36 (by decide) rfl ((xH_all hT 860).1 860 (Nat.le_refl _) 0 false 0 0 b j _ _ (XT.ini (B := B) (e := e)) (Nat.le_refl _) (by decide) hP) (fun _ _ => trivial) rfl rfl (Nat.le_of_ble_eq_true rfl) ⟨rfl, rfl⟩ (Nat.le_of_ble_eq_true rfl) (Nat.le_of_ble_eq_true rfl) (fun res sc3 ar3 hn3 => ?_)
  obtain ⟨rfl, p2, hX, _⟩ := hn3
  have f9 : kq Q (.inl (some .null)) al (n) (g0) (sc3) (ar3) (sl) (tf) := by
    have j1 := hX.2.2.1
    refine hQ _ _ (psF.of hN hX) hX.2.1 (by have := hN.1; omega) ?_
    rw [hX.2.2.2.2.2 6 (by decide) (by decide)]
    exact (hN.2.2.2.2.2.2 j j1).2
  cases b
  ·
    refine pk_if_eq (tgt := 34) dX3_parse_24 (by decide) (fun _ => ?_) (fun c24 => absurd c24 (by decide))
    refine pk_null dX3_parse_34 ?_
    exact pk_aret dX3_parse_35 rfl (Or.inl ⟨_, rfl⟩) rfl (Nat.le_of_ble_eq_true rfl) (Nat.le_of_ble_eq_true rfl) f9
  ·
    refine pk_if_eq (tgt := 34) dX3_parse_24 (by decide) (fun c24 => absurd c24 (by decide)) (fun _ => ?_)
    refine pk_aload_n dX3_parse_27 rfl rfl ?_
    refine pk_call (c := 3) (As := fun al => []) dX3_parse_28 cl_X3_40 (by decide) rfl (cp_here 1724 hT hX) (fun _ _ => trivial) rfl rfl (Nat.le_of_ble_eq_true rfl) ⟨rfl, rfl⟩ (Nat.le_of_ble_eq_true rfl) (Nat.le_of_ble_eq_true rfl) (fun res sc4 ar4 hn4 => ?_)
    obtain ⟨rfl, rfl, rfl⟩ := hn4
    refine pk_if_eq (tgt := 36) dX3_parse_31 (by decide) (fun c31 => absurd c31 (fun z => hbad ⟨rfl, z⟩)) (fun c31 => ?_)
    refine pk_null dX3_parse_34 ?_
    exact pk_aret dX3_parse_35 rfl (Or.inl ⟨_, rfl⟩) rfl (Nat.le_of_ble_eq_true rfl) (Nat.le_of_ble_eq_true rfl) f9
set_option maxHeartbeats 4000000 in
set_option maxRecDepth 20000 in
theorem kp_parse_ok {fx : px_F} {Q : px_Q} {al : Nat → Nat} {n : Nat} {g0 : Nat → px_O} {sc ar : Nat → Nat → Int32} {sl : Value} {tf : Nat → Option Nat} {B : Nat → Nat} {e : Nat} (hB : tB sc ar B e) {j : Nat} (hP : pP (tk B e) 860 0 0 0 = some (true, j)) (hz : tk B e j = 0) (hQ : ∀ (al2 : Nat → Nat) (g2 : Nat → px_O) (sc2 ar2 : Nat → Nat → Int32) (L : Nat) (S O A : Nat → Int32), psF sc ar sc2 ar2 → (∀ k, k < n → al2 k = al k) → PG al2 (n + 4) g2 n j L S O A (bD j S) → POK j L S O A → (∀ k, k < j → S k = tk B e k) → (∀ k, k < n → g2 k = g0 k) → kq Q (.inl (some (.ref (al2 n)))) al2 (n + 4) (g2) (sc2) (ar2) (sl) (tf)) (hn36 : 36 ≤ n) : kp fx (1726) 21 [.ref (al 3), .ref (al 1)] Q al n (g0) (sc) (ar) (sl) (tf) := by
  refine kp.of pm_X3_parse rfl rfl (Nat.le_of_ble_eq_true rfl) ?_
  show pk fx (px_body pm_X3_parse) (1725) Q al (n) (g0) (sc) (ar) (sl) (tf) 0 [.ref (al 3), .ref (al 1)] [] 0 0
  refine pk_aload_n dX3_parse_0 rfl rfl ?_
  refine pk_getR (c := 3) (d := 4) dX3_parse_1 fk_X3_12 (by decide) rfl rfl ?_
  refine pk_aload_n dX3_parse_4 rfl rfl ?_
  refine pk_callN (c := 4) (As := fun al => [.ref (al 1)]) dX3_parse_5 cl_X3_25 (by decide) rfl (cp_scan 1717 sc ar sl tf hB) (fun _ _ => trivial) rfl rfl (Nat.le_of_ble_eq_true rfl) ⟨rfl, rfl⟩ (Nat.le_of_ble_eq_true rfl) (Nat.le_of_ble_eq_true rfl) (fun res sc2 ar2 hn => ?_)
  obtain ⟨rfl, N, hN⟩ := hn
  have hT : xT (tk B e) N ar2 := ⟨hN.1, fun j hj => (hN.2.2.2.2.2.2 j hj).1, hN.2.2.1⟩
  refine pk_aload_n dX3_parse_8 rfl rfl ?_
  refine pk_iconst dX3_parse_9 (show Int32.ofInt (0) = (0) by decide) ?_
  refine pk_put (c := 3) dX3_parse_10 fk_X3_29 (by decide) rfl rfl ⟨_, _, _, rfl, rfl⟩ rfl rfl ?_
  refine pk_aload_n dX3_parse_13 rfl rfl ?_
  refine pk_iconst dX3_parse_14 (show Int32.ofInt (0) = (0) by decide) ?_
  refine pk_put (c := 3) dX3_parse_15 fk_X3_33 (by decide) rfl rfl ⟨_, _, _, rfl, rfl⟩ rfl rfl ?_
  refine pk_aload_n dX3_parse_18 rfl rfl ?_
  refine pk_iconst dX3_parse_19 (show Int32.ofInt (0) = (0) by decide) ?_
  refine pk_iconst dX3_parse_20 (show Int32.ofInt (0) = (0) by decide) ?_
  refine pk_call (c := 3) (As := fun al => [.int (nI 0), .int (zB false)]) dX3_parse_21 cl_X3_36 (by decide) rfl ((xH_all hT 860).1 860 (Nat.le_refl _) 0 false 0 0 true j _ _ (XT.ini (B := B) (e := e)) (Nat.le_refl _) (by decide) hP) (fun _ _ => trivial) rfl rfl (Nat.le_of_ble_eq_true rfl) ⟨rfl, rfl⟩ (Nat.le_of_ble_eq_true rfl) (Nat.le_of_ble_eq_true rfl) (fun res sc3 ar3 hn3 => ?_)
  obtain ⟨rfl, p2, hX, hb⟩ := hn3
  obtain ⟨rfl, _, hC⟩ := hb rfl
  have l9 := nO_le 860 0 0 false 0 j (by decide) hP
  have l8 := pP_lt 860 0 0 0 j (by decide) hP
  have j1 := hX.2.2.1
  have N1 := hN.1
  have e9 : j = N := by
    by_cases z : j = N
    · exact z
    · exact absurd hz (hN.2.1 j (by omega)).1
  subst e9
  simp only [Nat.zero_add, Bool.false_eq_true, if_false, Nat.add_zero, Nat.sub_zero, if_neg (show ¬ (0 : Nat) = 2 by decide)] at l9 hX hC
  refine pk_if_eq (tgt := 34) dX3_parse_24 (by decide) (fun c24 => absurd c24 (by decide)) (fun _ => ?_)
  refine pk_aload_n dX3_parse_27 rfl rfl ?_
  refine pk_call (c := 3) (As := fun al => []) dX3_parse_28 cl_X3_40 (by decide) rfl (cp_here 1724 hT hX) (fun _ _ => trivial) rfl rfl (Nat.le_of_ble_eq_true rfl) ⟨rfl, rfl⟩ (Nat.le_of_ble_eq_true rfl) (Nat.le_of_ble_eq_true rfl) (fun res sc4 ar4 hn4 => ?_)
  obtain ⟨rfl, rfl, rfl⟩ := hn4
  refine pk_if_eq (tgt := 36) dX3_parse_31 (by decide) (fun c31 => ?_) (fun c31 => absurd hz c31)
  refine pk_aload_n dX3_parse_36 rfl rfl ?_
  refine pk_iconst dX3_parse_37 (show Int32.ofInt (0) = (0) by decide) ?_
  refine pk_iconst dX3_parse_38 (show Int32.ofInt (0) = (0) by decide) ?_
  refine pk_call (c := 3) (As := fun al => [.int 0, .int 0]) dX3_parse_39 cl_X3_44 (by decide) rfl (cp_emit 1724 hT hX 0 0 (by omega)) (fun _ _ => trivial) rfl rfl (Nat.le_of_ble_eq_true rfl) ⟨rfl, rfl⟩ (Nat.le_of_ble_eq_true rfl) (Nat.le_of_ble_eq_true rfl) (fun res sc5 ar5 hn5 => ?_)
  obtain ⟨rfl, hX5, h7, h8⟩ := hn5
  refine pk_pop dX3_parse_42 rfl ?_
  refine pk_new dX3_parse_43 nw_X3_48 (Nat.le_of_ble_eq_true rfl) (Nat.le_of_ble_eq_true rfl) (fun al1 h1 => ?_)
  rw [← h1 3 (by omega), ← h1 1 (by omega)]
  refine pk_dup dX3_parse_46 rfl ?_
  refine pk_aload_n dX3_parse_47 rfl rfl ?_
  refine pk_getR (c := 3) (d := 4) dX3_parse_48 fk_X3_12 (by decide) rfl rfl ?_
  refine pk_aload_n dX3_parse_51 rfl rfl ?_
  refine pk_getR (c := 3) (d := 7) dX3_parse_52 fk_X3_18 (by decide) rfl rfl ?_
  refine pk_aload_n dX3_parse_55 rfl rfl ?_
  refine pk_getR (c := 3) (d := 8) dX3_parse_56 fk_X3_22 (by decide) rfl rfl ?_
  refine pk_aload_n dX3_parse_59 rfl rfl ?_
  refine pk_getS (c := 3) (v := (nI (nO (tk B e) 860 0 0 false 0 + 1))) dX3_parse_60 fk_X3_29 (by decide) rfl rfl hX5.2.2.2.1 ?_
  refine pk_kIN (j := n) (As := [.ref (al1 4), .ref (al1 7), .ref (al1 8), .int (nI (nO (tk B e) 860 0 0 false 0 + 1))]) dX3_parse_63 cl_X3_50 rfl rfl (Nat.le_of_ble_eq_true rfl) (Nat.le_of_ble_eq_true rfl) (Nat.le_of_ble_eq_true rfl) ?_
  have q2 : sc5 4 2 = nI j := by rw [hX5.1 4 2 (by decide)]; exact hN.2.2.2.2.1
  refine kp_progInit (d := 1722) (P := n) (m := j) hn36 rfl (va_up_self _ _ _) q2 (by omega) (by omega) (fun al2 g2 ha hPG hg => ?_)
  refine kq_aftN ?_
  refine pk_aret dX3_parse_66 rfl (Or.inl ⟨_, rfl⟩) rfl (Nat.le_of_ble_eq_true rfl) (Nat.le_of_ble_eq_true rfl) ?_
  rw [← ha n (by omega)]
  have hS9 : ∀ k, k < j → cut j (ar5 5) k = tk B e k := fun k hk => by
    unfold cut
    rw [if_pos hk, hX5.2.2.2.2.2 5 (by decide) (by decide)]
    exact (hN.2.2.2.2.2.2 k (by omega)).1
  have hz9 := tk_tz (fun x hx => (hB.2.2 x hx).2) hz hS9
  refine hQ al2 g2 sc5 ar5 _ _ _ _ (psF.of hN hX5) (fun k hk => (ha k (by omega)).trans (h1 k hk)) hPG ⟨by omega, by omega, ?_, ?_, ?_, ?_⟩ hS9 (fun k hk => (hg k hk).trans (va_up_ne _ _ (by omega)))
  · rw [hz9]; exact hP
  · rw [hz9]
    refine Cd_cong 860 0 0 false none 0 j 0 (by decide) hP (fun x _ hx => ?_) hC
    simp only [Option.isSome_none, Nat.zero_add] at hx
    unfold cut
    rw [if_pos (by omega), if_pos (by omega), h7, h8, pk_un (by omega), pk_un (by omega)]
    exact ⟨rfl, rfl⟩
  · rw [hz9]
  · rw [hz9]
    unfold cut
    rw [if_pos (by omega), h7, pk_us]
set_option maxHeartbeats 4000000 in
set_option maxRecDepth 20000 in
theorem cp_wrongByte (d : Nat) (sc ar : Nat → Nat → Int32) (sl : Value) (tf : Nat → Option Nat) {j : Nat} {w : Int32} (hj : sc 3 4 = nI j) (hj2 : j ≤ 120) (hw : ar 6 j = w) : CP (d + 1) 22 (fun al => [.ref (al 3)]) noD (sc) (ar) sl tf (fun res sc2 ar2 => res = some (.int w) ∧ sc2 = sc ∧ ar2 = ar) := by
  refine CP.of pm_X3_wrongByte rfl (fun _ => rfl) (fun _ => Nat.le_of_ble_eq_true rfl) ?_
  intro fx al n g0 Q hn36 _ hQ
  show pc fx (px_body pm_X3_wrongByte) (d) Q al n g0 (sc) (ar) sl tf 0 [.ref (al 3)] []
  refine pc_aload_n dX3_wrongByte_0 rfl rfl ?_
  refine pc_getS (c := 3) (v := (nI j)) dX3_wrongByte_1 fk_X3_33 (by decide) rfl rfl hj ?_
  refine pc_bipush dX3_wrongByte_4 (show (Int8.ofInt (120)).toInt32 = (120) by decide) ?_
  refine pc_icmp_gt (tgt := 24) dX3_wrongByte_6 (by decide) (fun c6 => absurd c6 (nI_nlt (a := 120) (b := j) (by omega) (by decide))) (fun c6 => ?_)
  refine pc_aload_n dX3_wrongByte_9 rfl rfl ?_
  refine pc_getR (c := 3) (d := 4) dX3_wrongByte_10 fk_X3_12 (by decide) rfl rfl ?_
  refine pc_getRN (c := 4) (d := 6) dX3_wrongByte_13 fk_X3_53 (by decide) rfl rfl ?_
  refine pc_aload_n dX3_wrongByte_16 rfl rfl ?_
  refine pc_getS (c := 3) (v := (nI j)) dX3_wrongByte_17 fk_X3_33 (by decide) rfl rfl hj ?_
  refine pc_iald (c := 6) (v := w) (j := j) dX3_wrongByte_20 (by decide) rfl rfl rfl (by omega) (by decide) hw ?_
  refine pc_goto (tgt := 25) dX3_wrongByte_21 (by decide) ?_
  exact pc_iret hQ dX3_wrongByte_25 rfl rfl ⟨rfl, rfl, rfl⟩
