theorem oi_X9 : Cond.methodLink RX9 3 Lib.objectInit ∈ px_big := (px_big_of (List.mem_append_right _ (List.mem_of_getElem? (i := 33) (by decide +kernel))) rfl)
theorem oi_X0 : Cond.methodLink RX0 3 Lib.objectInit ∈ px_big := (px_big_of (List.mem_append_right _ (List.mem_of_getElem? (i := 134) (by decide +kernel))) rfl)
theorem oi_X1 : Cond.methodLink RX1 3 Lib.objectInit ∈ px_big := (px_big_of (List.mem_append_right _ (List.mem_of_getElem? (i := 167) (by decide +kernel))) rfl)
theorem oi_X2 : Cond.methodLink RX2 3 Lib.objectInit ∈ px_big := (px_big_of (List.mem_append_right _ (List.mem_of_getElem? (i := 103) (by decide +kernel))) rfl)
theorem oi_X3 : Cond.methodLink RX3 3 Lib.objectInit ∈ px_big := (px_big_of (List.mem_append_right _ (List.mem_of_getElem? (i := 58) (by decide +kernel))) rfl)
theorem oi_X4 : Cond.methodLink RX4 3 Lib.objectInit ∈ px_big := (px_big_of (List.mem_append_right _ (List.mem_of_getElem? (i := 154) (by decide +kernel))) rfl)
theorem oi_X5 : Cond.methodLink RX5 3 Lib.objectInit ∈ px_big := (px_big_of (List.mem_append_right _ (List.mem_of_getElem? (i := 459) (by decide +kernel))) rfl)
theorem oi_X6 : Cond.methodLink RX6 3 Lib.objectInit ∈ px_big := (px_big_of (List.mem_append_right _ (List.mem_of_getElem? (i := 64) (by decide +kernel))) rfl)
theorem oi_X7 : Cond.methodLink RX7 3 Lib.objectInit ∈ px_big := (px_big_of (List.mem_append_right _ (List.mem_of_getElem? (i := 41) (by decide +kernel))) rfl)
theorem oi_X8 : Cond.methodLink RX8 3 Lib.objectInit ∈ px_big := (px_big_of (List.mem_append_right _ (List.mem_of_getElem? (i := 695) (by decide +kernel))) rfl)
theorem oi_X10 : Cond.methodLink RX10 1 Lib.objectInit ∈ px_big := (px_big_of (List.mem_append_right _ (List.mem_of_getElem? (i := 909) (by decide +kernel))) rfl)
theorem oi_i : Cond.instanceMethod Lib.objectInit ∈ px_big := (px_big_of (List.mem_append_right _ (List.mem_of_getElem? (i := 34) (by decide +kernel))) rfl)
theorem oi_c : Cond.code Lib.objectInit ⟨#[0xb1]⟩ 1 none ∈ px_big := (px_big_of (List.mem_append_right _ (List.mem_of_getElem? (i := 35) (by decide +kernel))) rfl)
theorem ac_m : Cond.methodLink RJ7 150 arraycopyName ∈ px_big := (px_big_of (List.mem_append_right _ (List.mem_of_getElem? (i := 471) (by decide +kernel))) rfl)
theorem ac_n : Cond.native arraycopyName ∈ px_big := (px_big_of (List.mem_append_right _ (List.mem_of_getElem? (i := 473) (by decide +kernel))) rfl)
theorem ac_s : Cond.static arraycopyName ∈ px_big := (px_big_of (List.mem_append_right _ (List.mem_of_getElem? (i := 472) (by decide +kernel))) rfl)
theorem ac_i : Cond.initialized "java/lang/System" ∈ px_big := (px_big_of (List.mem_append_right _ (List.mem_of_getElem? (i := 18) (by decide +kernel))) rfl)
theorem ck_X0_9 : Cond.classLink RX0 9 "[[I" ∈ px_big := (px_big_of (List.mem_append_right _ (List.mem_of_getElem? (i := 135) (by decide +kernel))) rfl)
theorem ck_X9_44 : Cond.classLink RX9 44 RX8 ∈ px_big := (px_big_of (List.mem_append_right _ (List.mem_of_getElem? (i := 159) (by decide +kernel))) rfl)
theorem ck_X9_50 : Cond.classLink RX9 50 RX1 ∈ px_big := (px_big_of (List.mem_append_right _ (List.mem_of_getElem? (i := 161) (by decide +kernel))) rfl)
theorem ck_X8_21 : Cond.classLink RX8 21 RX5 ∈ px_big := (px_big_of (List.mem_append_right _ (List.mem_of_getElem? (i := 696) (by decide +kernel))) rfl)
theorem pk_objInit {fx : px_F} {bd : px_B} {dd : Nat} {Q : px_Q} {al : Nat → Nat} {n : Nat} {g0 : Nat → px_O} {sc ar : Nat → Nat → Int32} {sl : Value} {tf : Nat → Option Nat} {p : Nat} {ls st : List Value} {uc us : Nat} {idx a : Nat} (h0 : decode bd.2.1 p = .ok (.invokespecial idx, 3)) (h1 : Cond.methodLink bd.1 idx Lib.objectInit ∈ px_big) (h4 : (st.map fun v => v.category).sum ≤ 8) (kk : pk fx bd dd Q al n g0 sc ar sl tf (p + 3) ls st uc us) : pk fx bd dd Q al n g0 sc ar sl tf p ls (.ref a :: st) uc us := fun g hR hF => pg_objInit h0 h1 oi_i oi_c h4 (kk g hR hF)
theorem upO (g : Nat → px_O) (k : Nat) (a b : px_O) : va_up (va_up g k a) k b = va_up g k b := by
  funext j
  by_cases e : j = k
  · subst e; rw [va_up_self, va_up_self]
  · rw [va_up_ne _ _ e, va_up_ne _ _ e, va_up_ne _ _ e]
/-- the first k of a row, behind them 0 -/
def cut (k : Nat) (f : Nat → Int32) : Nat → Int32 := fun j => if j < k then f j else 0
theorem cut_cpy (k : Nat) (f : Nat → Int32) : va_cpy f (fun _ => 0) 0 0 k = cut k f := by
  funext j
  unfold va_cpy cut
  by_cases c : j < k
  · rw [if_pos ⟨Nat.zero_le _, by omega⟩, if_pos c, Nat.zero_add, Nat.sub_zero]
  · rw [if_neg (fun z => c (by omega)), if_neg c]
set_option maxHeartbeats 4000000 in
set_option maxRecDepth 20000 in
theorem kp_copyOf {fx : px_F} {d : Nat} {Q : px_Q} {al : Nat → Nat} {n : Nat} {g0 : Nat → px_O} {sc ar : Nat → Nat → Int32} {sl : Value} {tf : Nat → Option Nat} {c L k : Nat} (hc : c < 36) (h1 : cCls c = none) (h2 : cAr c = some L) (hk : k < L) (hL : L ≤ 121) (hQ : ∀ al2 : Nat → Nat, (∀ j, j < n → al2 j = al j) → kq Q (.inl (some (.ref (al2 n)))) al2 (n + 1) (va_up g0 n (.inl (0, k, .inl (cut k (ar c))))) (sc) (ar) (sl) (tf)) : kp fx (d + 2) 176 [.ref (al c), .int (nI k)] Q al n (g0) (sc) (ar) (sl) (tf) := by
  intro g hR hF
  refine ⟨pm_J7_copyOf_59c91, rfl, rfl, Nat.le_of_ble_eq_true rfl, ?_⟩
  have hn := hR.1
  have hg : g c = .inl (0, L, .inl (ar c)) := (hR.2 c hc).trans (cObj_a h1 h2)
  show pg px_tb fx (px_body pm_J7_copyOf_59c91) (pm px_tb fx (d + 1)) Q al n g 0 [.ref (al c), .int (nI k), .float 0] [] 0 0
  refine pg_iload_n dJ7_copyOf_59c91_0 rfl ?_
  refine pg_aload_n dJ7_copyOf_59c91_1 rfl rfl ?_
  refine pg_alen dJ7_copyOf_59c91_2 (by omega) (by decide) hg ?_
  refine pg_icmp_ne (tgt := 14) dJ7_copyOf_59c91_3 (by decide) (fun c3 => ?_) (fun c3 => absurd ((nI_eq (by omega) (by omega)).mp c3) (by omega))
  refine pg_iload_n dJ7_copyOf_59c91_14 rfl ?_
  refine pg_newi (N := k) dJ7_copyOf_59c91_15 (nI_pos (by omega)) (nI_clamp (by omega)) (by omega) (by rw [Nat.zero_add]; exact Nat.le_refl _) (by rw [Nat.zero_add]; exact (show k ≤ 121 by omega)) (fun al2 ha => ?_)
  rw [← ha c (by omega)]
  refine pg_astore_n dJ7_copyOf_59c91_17 (Nat.le_of_ble_eq_true rfl) rfl ?_
  refine pg_aload_n dJ7_copyOf_59c91_18 rfl rfl ?_
  refine pg_iconst dJ7_copyOf_59c91_19 (show Int32.ofInt (0) = (0) by decide) ?_
  refine pg_aload_n dJ7_copyOf_59c91_20 rfl rfl ?_
  refine pg_iconst dJ7_copyOf_59c91_21 (show Int32.ofInt (0) = (0) by decide) ?_
  refine pg_aload_n dJ7_copyOf_59c91_22 rfl rfl ?_
  refine pg_alen dJ7_copyOf_59c91_23 (by omega) (by decide) ((va_up_ne _ _ (by omega)).trans hg) ?_
  refine pg_iload_n dJ7_copyOf_59c91_24 rfl ?_
  refine pg_callS (pm_mono px_tb fx (d + 1)) (As := [.int (nI L), .int (nI k)]) dJ7_copyOf_59c91_25 cl_J7_304 rfl (Nat.le_of_ble_eq_true rfl) (by exact Nat.le_refl _) (by show 0 + k + 0 ≤ 121; omega) ?_
  refine sc_minN d (a := L) (b := k) (by omega) (by omega) fx al2 (n + 1) _ _ ?_
  rw [show min L k = k from Nat.min_eq_right (by omega)]
  show pg px_tb fx (px_body pm_J7_copyOf_59c91) (pm px_tb fx (d + 1)) Q al2 (n + 1) _ 28 _ _ _ _
  refine pg_acopy (j0 := c) (j1 := n) dJ7_copyOf_59c91_28 ac_m ac_n ac_s ac_i (by omega) (by omega) ((va_up_ne _ _ (by omega)).trans hg) (va_up_self _ _ _) (by decide) (by decide) (nI_pos (by omega)) (by rw [nI_clamp (show k < 2 ^ 31 by omega)]; show 0 + k ≤ L; omega) (by rw [nI_clamp (show k < 2 ^ 31 by omega)]; show 0 + k ≤ k; omega) (Nat.le_of_ble_eq_true rfl) ?_
  rw [nI_clamp (show k < 2 ^ 31 by omega), show (0 : Int32).toNatClampNeg = 0 from rfl, cut_cpy, upO]
  refine pg_aload_n dJ7_copyOf_59c91_31 rfl rfl ?_
  refine pg_aret dJ7_copyOf_59c91_32 rfl (Or.inr ⟨_, rfl⟩) rfl (Nat.le_of_ble_eq_true rfl) (by show 0 + k + 0 ≤ 121; omega) ?_
  exact hQ al2 ha _ (hR.nw ha) hF.up
set_option maxHeartbeats 4000000 in
set_option maxRecDepth 20000 in
theorem kp_progInit {fx : px_F} {d : Nat} {Q : px_Q} {al : Nat → Nat} {n : Nat} {g0 : Nat → px_O} {sc ar : Nat → Nat → Int32} {sl : Value} {tf : Nat → Option Nat} {P m L : Nat} (hP : 36 ≤ P) (hn : P + 1 = n) (gP : g0 P = .inr (5, fun k => defaultValue (px_ty 5 k))) (hm : sc 4 2 = nI m) (hm1 : m < 121) (hL : L < 121) (hQ : ∀ (al2 : Nat → Nat) (g2 : Nat → px_O), (∀ j, j < n → al2 j = al j) → PG al2 (n + 3) g2 P m L (cut m (ar 5)) (cut L (ar 7)) (cut L (ar 8)) (bD m (cut m (ar 5))) → (∀ k, k < P → g2 k = g0 k) → kq Q (.inl none) al2 (n + 3) (g2) (sc) (ar) (sl) (tf)) : kp fx (d + 3) 37 [.ref (al P), .ref (al 4), .ref (al 7), .ref (al 8), .int (nI L)] Q al n (g0) (sc) (ar) (sl) (tf) := by
  refine kp.of pm_X5_init rfl rfl (Nat.le_of_ble_eq_true rfl) ?_
  show pk fx (px_body pm_X5_init) (d + 2) Q al (n) (g0) (sc) (ar) (sl) (tf) 0 [.ref (al P), .ref (al 4), .ref (al 7), .ref (al 8), .int (nI L)] [] 0 0
  refine pk_aload_n dX5_init_0 rfl rfl ?_
  refine pk_objInit dX5_init_1 oi_X5 (Nat.le_of_ble_eq_true rfl) ?_
  refine pk_aload_n dX5_init_4 rfl rfl ?_
  refine pk_aload_n dX5_init_5 rfl rfl ?_
  refine pk_getRN (c := 4) (d := 5) dX5_init_6 fk_X5_9 (by decide) rfl rfl ?_
  refine pk_aload_n dX5_init_9 rfl rfl ?_
  refine pk_getSN (c := 4) (v := (nI m)) dX5_init_10 fk_X5_15 (by decide) rfl rfl hm ?_
  refine pk_kS (As := [.ref (al 5), .int (nI m)]) dX5_init_13 cl_X5_19 rfl rfl (Nat.le_of_ble_eq_true rfl) (Nat.le_of_ble_eq_true rfl) (Nat.le_of_ble_eq_true rfl) (kp_copyOf (d := d) (c := 5) (L := 121) (k := m) (by decide) rfl rfl (by omega) (by decide) (fun al1 hal1 => ?_))
  refine kq_aft ?_
  rw [← hal1 P (by omega), ← hal1 4 (by omega), ← hal1 7 (by omega), ← hal1 8 (by omega)]
  have gPal1 := (va_up_ne (g0) (Sum.inl (0, m, .inl (cut m (ar 5))) : px_O) (show P ≠ n by omega)).trans gP
  refine pk_putF (j := P) dX5_init_16 fk_X5_25 ⟨_, _, _, rfl, rfl⟩ rfl rfl hP (by omega) gPal1 rfl rfl ?_
  refine pk_aload_n dX5_init_19 rfl rfl ?_
  refine pk_aload_n dX5_init_20 rfl rfl ?_
  refine pk_iload dX5_init_21 rfl ?_
  refine pk_kS (As := [.ref (al1 7), .int (nI L)]) dX5_init_23 cl_X5_19 rfl rfl (Nat.le_of_ble_eq_true rfl) (Nat.le_of_ble_eq_true rfl) (Nat.le_of_ble_eq_true rfl) (kp_copyOf (d := d) (c := 7) (L := 121) (k := L) (by decide) rfl rfl (by omega) (by decide) (fun al2 h2 => ?_))
  refine kq_aft ?_
  rw [← h2 P (by omega), ← h2 8 (by omega), ← h2 4 (by omega), ← h2 7 (by omega)]
  refine pk_putF (j := P) dX5_init_26 fk_X5_28 ⟨_, _, _, rfl, rfl⟩ rfl rfl hP (by omega) ((va_up_ne _ _ (show P ≠ n + 1 by omega)).trans (va_up_self _ _ _)) rfl rfl ?_
  refine pk_aload_n dX5_init_29 rfl rfl ?_
  refine pk_aload_n dX5_init_30 rfl rfl ?_
  refine pk_iload dX5_init_31 rfl ?_
  refine pk_kS (As := [.ref (al2 8), .int (nI L)]) dX5_init_33 cl_X5_19 rfl rfl (Nat.le_of_ble_eq_true rfl) (Nat.le_of_ble_eq_true rfl) (Nat.le_of_ble_eq_true rfl) (kp_copyOf (d := d) (c := 8) (L := 121) (k := L) (by decide) rfl rfl (by omega) (by decide) (fun al3 h3 => ?_))
  refine kq_aft ?_
  rw [← h3 P (by omega), ← h3 8 (by omega), ← h3 4 (by omega), ← h3 7 (by omega)]
  refine pk_putF (j := P) dX5_init_36 fk_X5_31 ⟨_, _, _, rfl, rfl⟩ rfl rfl hP (by omega) ((va_up_ne _ _ (show P ≠ n + 2 by omega)).trans (va_up_self _ _ _)) rfl rfl ?_
  refine pk_aload_n dX5_init_39 rfl rfl ?_
  refine pk_aload_n dX5_init_40 rfl rfl ?_
  refine pk_dget (j := P) (v := .ref (al3 n)) dX5_init_41 fk_X5_25 hP (by omega) (va_up_self _ _ _) (by show Value.ref (al1 n) = _; rw [h3 n (by omega), h2 n (by omega)]) ?_
  refine pk_kS (As := [.ref (al3 n)]) dX5_init_44 cl_X5_34 rfl rfl (Nat.le_of_ble_eq_true rfl) (Nat.le_of_ble_eq_true rfl) (Nat.le_of_ble_eq_true rfl) ?_
  refine (dp_firstOfCAndD (d + 1) (a := n) (m := m) (S := cut m (ar 5)) (by omega)).kp (fun g hF => ⟨by omega, (hF n (by omega)).trans ?_⟩) (kq_aft ?_)
  · rw [va_up_ne _ _ (by omega), va_up_ne _ _ (by omega), va_up_ne _ _ (by omega), va_up_ne _ _ (by omega), va_up_ne _ _ (by omega), va_up_self]
  refine pk_bipush dX5_init_47 (show (Int8.ofInt (100)).toInt32 = (100) by decide) ?_
  suffices h9 : pk fx (px_body pm_X5_init) (d + 2) Q al3 (n + 3) _ sc ar sl tf 57 [.ref (al3 P), .ref (al3 4), .ref (al3 7), .ref (al3 8), .int (nI L)] [.int (zB (bD m (cut m (ar 5)))), .ref (al3 P)] _ _ by
    refine pk_icmp_ne (tgt := 56) dX5_init_49 (by decide) (fun c49 => ?_) (fun c49 => ?_)
    · refine pk_iconst dX5_init_56 (show Int32.ofInt (0) = (0) by decide) ?_
      have : bD m (cut m (ar 5)) = false := decide_eq_false (fun z => by rw [z] at c49; exact c49 rfl)
      rw [this] at h9
      exact h9
    · refine pk_iconst dX5_init_52 (show Int32.ofInt (1) = (1) by decide) ?_
      refine pk_goto (tgt := 57) dX5_init_53 (by decide) ?_
      have : bD m (cut m (ar 5)) = true := decide_eq_true (by
        by_cases z : fcd (cut m (ar 5)) 0 m 0 = 0
        · rw [if_pos z] at c49; exact absurd c49 (by decide)
        · rw [if_neg z] at c49; exact c49)
      rw [this] at h9
      exact h9
  refine pk_putF (j := P) dX5_init_57 fk_X5_38 ⟨_, _, _, rfl, rfl⟩ rfl rfl hP (by omega) (va_up_self _ _ _) (by cases bD m (cut m (ar 5)) <;> rfl) (by cases bD m (cut m (ar 5)) <;> rfl) ?_
  refine pk_vret dX5_init_60 rfl (Nat.le_of_ble_eq_true rfl) (Nat.le_of_ble_eq_true rfl) ?_
  refine hQ al3 _ (fun j hj => (h3 j (by omega)).trans ((h2 j (by omega)).trans (hal1 j hj))) ⟨hP, by omega, ⟨_, va_up_self _ _ _, ?_, ?_, ?_, ?_⟩, ?_, ?_, ?_⟩ ?_
  · show Value.ref (al1 n) = _; rw [← h2 n (by omega), ← h3 n (by omega), hn]
  · show Value.ref (al2 (n + 1)) = _; rw [← h3 (n + 1) (by omega), show P + 2 = n + 1 by omega]
  · show Value.ref (al3 (n + 1 + 1)) = _; rw [show P + 3 = n + 1 + 1 by omega]
  · rfl
  · rw [hn, va_up_ne _ _ (by omega), va_up_ne _ _ (by omega), va_up_ne _ _ (by omega), va_up_ne _ _ (by omega), va_up_ne _ _ (by omega), va_up_ne _ _ (by omega), va_up_self]
  · rw [show P + 2 = n + 1 by omega, va_up_ne _ _ (by omega), va_up_ne _ _ (by omega), va_up_ne _ _ (by omega), va_up_ne _ _ (by omega), va_up_self]
  · rw [show P + 3 = n + 1 + 1 by omega, va_up_ne _ _ (by omega), va_up_ne _ _ (by omega), va_up_self]
  · intro k9 hk9
    rw [va_up_ne _ _ (by omega), va_up_ne _ _ (by omega), va_up_ne _ _ (by omega), va_up_ne _ _ (by omega), va_up_ne _ _ (by omega), va_up_ne _ _ (by omega), va_up_ne _ _ (by omega)]
