section PCS
variable {fx : px_F} {bd : px_B} {dd : Nat} {Q : px_Q} {al : Nat → Nat} {n : Nat} {g0 : Nat → px_O} {sc ar : Nat → Nat → Int32} {sl : Value} {tf : Nat → Option Nat} {p : Nat} {ls st : List Value}
theorem pc_callCS {idx k : Nat} {As : (Nat → Nat) → List Value} {st0 : List Value} {D : (Nat → Nat) → Nat → (Nat → px_O) → Prop} {post : Option Value → (Nat → Nat → Int32) → (Nat → Nat → Int32) → Prop} (h0 : decode bd.2.1 p = .ok (.invokestatic idx, 3)) {na : Nat} (h1 : px_cS px_tb bd.1 idx k na) (hC : CP dd k As D sc ar sl tf post) (hD : ∀ g, cfr g0 g → D al n g) (hn : (As al).length = na) (h4 : st0 = (As al).reverse ++ st) (h5 : (st.map fun v => v.category).sum ≤ 8) (hz : px_mc px_tb k = 0 ∧ px_ms px_tb k = 0)
    (kk : ∀ res sc2 ar2, post res sc2 ar2 → pc fx bd dd Q al n g0 sc2 ar2 sl tf (p + 3) ls (res.toList ++ st)) : pc fx bd dd Q al n g0 sc ar sl tf p ls st0 := fun g hR hF => by
  refine pg_callS (pm_mono px_tb fx dd) (idx := idx) (k := k) (As := As al) h0 (hn ▸ h1) h4 h5 (by rw [hz.1]; exact Nat.zero_le _) (by rw [hz.2]; exact Nat.zero_le _) ?_
  rw [hz.1, hz.2]
  exact hC fx al n g _ hR (hD g hF) (fun res sc2 ar2 g2 hp hR2 hF2 => kk res sc2 ar2 hp g2 hR2 (hF.tr hF2))
end PCS
/-- what a reading method answers, of what lies in the heap -/
def DP (d k : Nat) (as : (Nat → Nat) → List Value) (D : (Nat → Nat) → Nat → (Nat → px_O) → Prop) (res : Option Value) : Prop := ∀ (fx : px_F) (al : Nat → Nat) (n : Nat) (g : Nat → px_O) (Q : px_Q), D al n g → Q (.inl res) al n g → pm px_tb fx d k (as al) al n g Q
theorem DP.of {d k : Nat} {as : (Nat → Nat) → List Value} {D : (Nat → Nat) → Nat → (Nat → px_O) → Prop} {res : Option Value} (m : px_M) (hm : px_tb k = some m) (hi : ∀ al, (as al).all px_isI = true) (hl : ∀ al, (as al).length ≤ m.2.2.1)
    (h : ∀ fx al n g Q, D al n g → Q (.inl res) al n g → pg px_tb fx (px_body m) (pm px_tb fx d) Q al n g 0 (px_in (as al) m.2.2.1) [] 0 0) : DP (d + 1) k as D res :=
  fun fx al n g Q hD hQ => ⟨m, hm, hi al, hl al, h fx al n g Q hD hQ⟩
theorem DP.le {d d2 k : Nat} {as : (Nat → Nat) → List Value} {D : (Nat → Nat) → Nat → (Nat → px_O) → Prop} {res : Option Value} (h : DP d k as D res) (hd : d ≤ d2) : DP d2 k as D res := fun fx al n g Q hD hQ => by
  have := pm_le (h fx al n g Q hD hQ) (d2 - d)
  rwa [Nat.add_sub_cancel' hd] at this
theorem DP.res {d k : Nat} {as : (Nat → Nat) → List Value} {D : (Nat → Nat) → Nat → (Nat → px_O) → Prop} {r r2 : Option Value} (h : DP d k as D r) (e : r = r2) : DP d k as D r2 := e ▸ h
section DPR
variable {fx : px_F} {bd : px_B} {dd : Nat} {Q : px_Q} {al : Nat → Nat} {n : Nat} {g0 g : Nat → px_O} {sc ar : Nat → Nat → Int32} {sl : Value} {tf : Nat → Option Nat} {p : Nat} {ls st : List Value} {uc us : Nat}
theorem pg_callD {idx k j ci : Nat} {f : Nat → Value} {As : (Nat → Nat) → List Value} {st0 : List Value} {D : (Nat → Nat) → Nat → (Nat → px_O) → Prop} {res : Option Value} (h0 : decode bd.2.1 p = .ok (.invokevirtual idx, 3)) {na : Nat} (h1 : px_cV px_tb bd.1 idx k ci na) (hj : j < n) (h2 : g j = .inr (ci, f)) (hC : DP dd k (fun al => .ref (al j) :: As al) D res) (hD : D al n g) (hn : (As al).length = na) (h4 : st0 = (As al).reverse ++ .ref (al j) :: st) (h5 : (st.map fun v => v.category).sum ≤ 8) (hz : px_mc px_tb k = 0 ∧ px_ms px_tb k = 0) (hu : uc ≤ bd.2.2.2.1.1) (hw : us ≤ bd.2.2.2.1.2)
    (kk : pg px_tb fx bd (pm px_tb fx dd) Q al n g (p + 3) ls (res.toList ++ st) uc us) : pg px_tb fx bd (pm px_tb fx dd) Q al n g p ls st0 uc us := by
  refine pg_callV (pm_mono px_tb fx dd) (idx := idx) (k := k) (As := As al) h0 (hn ▸ h1) hj h2 h4 h5 (by rw [hz.1]; exact hu) (by rw [hz.2]; exact hw) ?_
  rw [hz.1, hz.2]
  exact hC fx al n g _ hD kk
theorem pg_callDN {idx k j ci : Nat} {f : Nat → Value} {As : (Nat → Nat) → List Value} {st0 : List Value} {D : (Nat → Nat) → Nat → (Nat → px_O) → Prop} {res : Option Value} (h0 : decode bd.2.1 p = .ok (.invokevirtual idx, 3)) {na : Nat} (h1 : px_cVN px_tb bd.1 idx k ci na) (hj : j < n) (h2 : g j = .inr (ci, f)) (hC : DP dd k (fun al => .ref (al j) :: As al) D res) (hD : D al n g) (hn : (As al).length = na) (h4 : st0 = (As al).reverse ++ .ref (al j) :: st) (h5 : (st.map fun v => v.category).sum ≤ 8) (hz : px_mc px_tb k = 0 ∧ px_ms px_tb k = 0) (hu : uc ≤ bd.2.2.2.1.1) (hw : us ≤ bd.2.2.2.1.2)
    (kk : pg px_tb fx bd (pm px_tb fx dd) Q al n g (p + 3) ls (res.toList ++ st) uc us) : pg px_tb fx bd (pm px_tb fx dd) Q al n g p ls st0 uc us := by
  refine pg_callVN (pm_mono px_tb fx dd) (idx := idx) (k := k) (As := As al) h0 (hn ▸ h1) hj h2 h4 h5 (by rw [hz.1]; exact hu) (by rw [hz.2]; exact hw) ?_
  rw [hz.1, hz.2]
  exact hC fx al n g _ hD kk
theorem pc_callD {idx k j ci : Nat} {f : Nat → Value} {As : (Nat → Nat) → List Value} {st0 : List Value} {D : (Nat → Nat) → Nat → (Nat → px_O) → Prop} {res : Option Value} (h0 : decode bd.2.1 p = .ok (.invokevirtual idx, 3)) {na : Nat} (h1 : px_cV px_tb bd.1 idx k ci na) (hj : 36 ≤ j) (hjn : j < n) (h2 : g0 j = .inr (ci, f)) (hC : DP dd k (fun al => .ref (al j) :: As al) D res) (hD : ∀ g, cfr g0 g → D al n g) (hn : (As al).length = na) (h4 : st0 = (As al).reverse ++ .ref (al j) :: st) (h5 : (st.map fun v => v.category).sum ≤ 8) (hz : px_mc px_tb k = 0 ∧ px_ms px_tb k = 0)
    (kk : pc fx bd dd Q al n g0 sc ar sl tf (p + 3) ls (res.toList ++ st)) : pc fx bd dd Q al n g0 sc ar sl tf p ls st0 := fun g hR hF => pg_callD h0 h1 hjn ((hF j hj).trans h2) hC (hD g hF) hn h4 h5 hz (Nat.zero_le _) (Nat.zero_le _) (kk g hR hF)
theorem pc_callDN {idx k j ci : Nat} {f : Nat → Value} {As : (Nat → Nat) → List Value} {st0 : List Value} {D : (Nat → Nat) → Nat → (Nat → px_O) → Prop} {res : Option Value} (h0 : decode bd.2.1 p = .ok (.invokevirtual idx, 3)) {na : Nat} (h1 : px_cVN px_tb bd.1 idx k ci na) (hj : 36 ≤ j) (hjn : j < n) (h2 : g0 j = .inr (ci, f)) (hC : DP dd k (fun al => .ref (al j) :: As al) D res) (hD : ∀ g, cfr g0 g → D al n g) (hn : (As al).length = na) (h4 : st0 = (As al).reverse ++ .ref (al j) :: st) (h5 : (st.map fun v => v.category).sum ≤ 8) (hz : px_mc px_tb k = 0 ∧ px_ms px_tb k = 0)
    (kk : pc fx bd dd Q al n g0 sc ar sl tf (p + 3) ls (res.toList ++ st)) : pc fx bd dd Q al n g0 sc ar sl tf p ls st0 := fun g hR hF => pg_callDN h0 h1 hjn ((hF j hj).trans h2) hC (hD g hF) hn h4 h5 hz (Nat.zero_le _) (Nat.zero_le _) (kk g hR hF)
end DPR
/-- a row filled -/
def flT (L : Nat) (v : Int32) (f : Nat → Int32) : Nat → Int32 := fun j => if j < L then v else f j
theorem flT_0 (v : Int32) (f : Nat → Int32) : flT 0 v f = f := by funext j; unfold flT; rw [if_neg (by omega)]
theorem flT_s (k : Nat) (v : Int32) (f : Nat → Int32) : upd (flT k v f) k v = flT (k + 1) v f := by
  funext j
  rw [upd_at]
  unfold flT
  by_cases e : j = k
  · rw [if_pos e, if_pos (by omega)]
  · rw [if_neg e]
    by_cases c : j < k
    · rw [if_pos c, if_pos (by omega)]
    · rw [if_neg c, if_neg (by omega)]
set_option maxHeartbeats 4000000 in
set_option maxRecDepth 20000 in
theorem cl_fill {fx : px_F} {dd : Nat} {Q : px_Q} {al : Nat → Nat} {n : Nat} {g0 : Nat → px_O} {sc ar : Nat → Nat → Int32} {sl : Value} {tf : Nat → Option Nat} {c L : Nat} {v : Int32} (hc : c < 36) (h1 : cCls c = none) (h2 : cAr c = some L) (hL : L < 2 ^ 31) (hr : pc fx (px_body pm_J7_fill_53178) (dd) Q al n g0 (sc) (va_up ar c (flT L v (ar c))) sl tf 20 [.ref (al c), .int v, .int (nI L), .int (nI L)] []) : ∀ (m i : Nat), i + m = L → pc fx (px_body pm_J7_fill_53178) (dd) Q al n g0 (sc) (va_up ar c (flT i v (ar c))) sl tf 5 [.ref (al c), .int v, .int (nI i), .int (nI L)] []
  | 0, i, hk => by
    have e : i = L := by omega
    subst e
    refine pc_iload_n dJ7_fill_53178_5 rfl ?_
    refine pc_iload_n dJ7_fill_53178_6 rfl ?_
    refine pc_icmp_ge (tgt := 20) dJ7_fill_53178_7 (by decide) (fun c7 => ?_) (fun c7 => absurd (Int32.le_refl _) c7)
    exact hr
  | m + 1, i, hk => by
    refine pc_iload_n dJ7_fill_53178_5 rfl ?_
    refine pc_iload_n dJ7_fill_53178_6 rfl ?_
    refine pc_icmp_ge (tgt := 20) dJ7_fill_53178_7 (by decide) (fun c7 => absurd c7 (Int32.not_le.mpr (nI_lt (show i < L by omega) (by omega)))) (fun c7 => ?_)
    refine pc_aload_n dJ7_fill_53178_10 rfl rfl ?_
    refine pc_iload_n dJ7_fill_53178_11 rfl ?_
    refine pc_iload_n dJ7_fill_53178_12 rfl ?_
    refine pc_iast (c := c) (j := i) dJ7_fill_53178_13 hc h1 h2 rfl (by omega) hL ?_
    rw [va_up_self, va_3, flT_s]
    refine pc_iinc dJ7_fill_53178_14 rfl (show Int32.ofInt (1) = (1) by decide) ?_
    refine pc_goto (tgt := 5) dJ7_fill_53178_17 (by decide) ?_
    rw [nI_1]
    exact cl_fill hc h1 h2 hL hr m (i + 1) (by omega)
set_option maxHeartbeats 4000000 in
set_option maxRecDepth 20000 in
theorem cp_fill (d : Nat) (sc ar : Nat → Nat → Int32) (sl : Value) (tf : Nat → Option Nat) (v : Int32) {c L : Nat} (hc : c < 36) (h1 : cCls c = none) (h2 : cAr c = some L) (hL : L < 2 ^ 31) : CP (d + 1) 175 (fun al => [.ref (al c), .int v]) noD sc ar sl tf (fun res sc2 ar2 => res = none ∧ sc2 = sc ∧ ar2 = va_up ar c (flT L v (ar c))) := by
  refine CP.of pm_J7_fill_53178 rfl (fun _ => rfl) (fun _ => Nat.le_of_ble_eq_true rfl) ?_
  intro fx al n g0 Q _ _ hQ
  show pc fx (px_body pm_J7_fill_53178) (d) Q al n g0 (sc) (ar) sl tf 0 [.ref (al c), .int v, .float 0, .float 0] []
  refine pc_iconst dJ7_fill_53178_0 (show Int32.ofInt (0) = (0) by decide) ?_
  refine pc_istore_n dJ7_fill_53178_1 (Nat.le_of_ble_eq_true rfl) ?_
  refine pc_aload_n dJ7_fill_53178_2 rfl rfl ?_
  refine pc_alen (c := c) dJ7_fill_53178_3 hc h1 h2 ?_
  refine pc_istore_n dJ7_fill_53178_4 (Nat.le_of_ble_eq_true rfl) ?_
  suffices h9 : pc fx (px_body pm_J7_fill_53178) (d) Q al n g0 (sc) (va_up ar c (flT 0 v (ar c))) sl tf 5 [.ref (al c), .int v, .int (nI 0), .int (nI L)] [] by
    rw [flT_0, va_id] at h9
    exact h9
  refine cl_fill hc h1 h2 hL ?_ L 0 (by omega)
  exact pc_vret hQ dJ7_fill_53178_20 rfl ⟨rfl, rfl, rfl⟩
/-- a program as it was made: its tokens are a block, its operations the block's, closed by DONE -/
def POK (m L : Nat) (S O A : Nat → Int32) : Prop := m ≤ 120 ∧ L ≤ 121 ∧ pP (tz m S) 860 0 0 0 = some (true, m) ∧ Cd (tz m S) O A 860 0 0 false none 0 0 ∧ L = nO (tz m S) 860 0 0 false 0 + 1 ∧ O (nO (tz m S) 860 0 0 false 0) = 0
set_option maxHeartbeats 4000000 in
set_option maxRecDepth 20000 in
theorem cp_execute (d : Nat) (sc ar : Nat → Nat → Int32) (sl : Value) (tf : Nat → Option Nat) {P m L : Nat} {S O A : Nat → Int32} {bd : Bool} (hK : POK m L S O A) (a b : Int32) : CP (d + 6) 9 (fun al => [.ref (al 9), .ref (al P), .int a, .int b]) (fun al n g => PG al n g P m L S O A bd) (sc) (ar) sl tf (fun res sc2 ar2 => res = none ∧ MO sc ar (runC m S a b).2.1 (runC m S a b).1 (runC m S a b).2.2.1 (runC m S a b).2.2.2 sc2 ar2) := by
  refine CP.of pm_X2_execute rfl (fun _ => rfl) (fun _ => Nat.le_of_ble_eq_true rfl) ?_
  intro fx al n g0 Q hn36 hP hQ
  show pc fx (px_body pm_X2_execute) (d + 5) Q al n g0 (sc) (ar) sl tf 0 [.ref (al 9), .ref (al P), .int a, .int b, .float 0, .float 0] []
  refine pc_aload_n dX2_execute_0 rfl rfl ?_
  refine pc_getR (c := 9) (d := 10) dX2_execute_1 fk_X2_9 (by decide) rfl rfl ?_
  refine pc_iconst dX2_execute_4 (show Int32.ofInt (0) = (0) by decide) ?_
  refine pc_callCS (As := fun al => [.ref (al 10), .int 0]) dX2_execute_5 cl_X2_18 (cp_fill (d + 4) sc ar sl tf 0 (c := 10) (L := 5) (by decide) rfl rfl (by decide)) (fun _ _ => trivial) rfl rfl (Nat.le_of_ble_eq_true rfl) ⟨rfl, rfl⟩ (fun res sc2 ar2 hn => ?_)
  obtain ⟨rfl, rfl, rfl⟩ := hn
  refine pc_aload_n dX2_execute_8 rfl rfl ?_
  refine pc_getR (c := 9) (d := 10) dX2_execute_9 fk_X2_9 (by decide) rfl rfl ?_
  refine pc_iconst dX2_execute_12 (show Int32.ofInt (0) = (0) by decide) ?_
  refine pc_iload_n dX2_execute_13 rfl ?_
  refine pc_iast (c := 10) (j := 0) dX2_execute_14 (by decide) rfl rfl rfl (by decide) (by decide) ?_
  refine pc_aload_n dX2_execute_15 rfl rfl ?_
  refine pc_getR (c := 9) (d := 10) dX2_execute_16 fk_X2_9 (by decide) rfl rfl ?_
  refine pc_iconst dX2_execute_19 (show Int32.ofInt (1) = (1) by decide) ?_
  refine pc_iload_n dX2_execute_20 rfl ?_
  refine pc_iast (c := 10) (j := 1) dX2_execute_21 (by decide) rfl rfl rfl (by decide) (by decide) ?_
  refine pc_aload_n dX2_execute_22 rfl rfl ?_
  refine pc_iconst dX2_execute_23 (show Int32.ofInt (0) = (0) by decide) ?_
  refine pc_put (c := 9) dX2_execute_24 fk_X2_24 (by decide) rfl rfl ⟨_, _, _, rfl, rfl⟩ rfl rfl ?_
  refine pc_aload_n dX2_execute_27 rfl rfl ?_
  refine pc_iconst dX2_execute_28 (show Int32.ofInt (0) = (0) by decide) ?_
  refine pc_put (c := 9) dX2_execute_29 fk_X2_28 (by decide) rfl rfl ⟨_, _, _, rfl, rfl⟩ rfl rfl ?_
  refine pc_aload_n dX2_execute_32 rfl rfl ?_
  refine pc_iconst dX2_execute_33 (show Int32.ofInt (0) = (0) by decide) ?_
  refine pc_put (c := 9) dX2_execute_34 fk_X2_31 (by decide) rfl rfl ⟨_, _, _, rfl, rfl⟩ rfl rfl ?_
  refine pc_aload_n dX2_execute_37 rfl rfl ?_
  refine pc_iconst dX2_execute_38 (show Int32.ofInt (2) = (2) by decide) ?_
  refine pc_put (c := 9) dX2_execute_39 fk_X2_34 (by decide) rfl rfl ⟨_, _, _, rfl, rfl⟩ rfl rfl ?_
  refine pc_aload_n dX2_execute_42 rfl rfl ?_
  refine pc_iconst dX2_execute_43 (show Int32.ofInt (1) = (1) by decide) ?_
  refine pc_put (c := 9) dX2_execute_44 fk_X2_37 (by decide) rfl rfl ⟨_, _, _, rfl, rfl⟩ rfl rfl ?_
  refine pc_iconst dX2_execute_47 (show Int32.ofInt (0) = (0) by decide) ?_
  refine pc_istore dX2_execute_48 (Nat.le_of_ble_eq_true rfl) ?_
  refine pc_iconst dX2_execute_50 (show Int32.ofInt (0) = (0) by decide) ?_
  refine pc_istore dX2_execute_51 (Nat.le_of_ble_eq_true rfl) ?_
  obtain ⟨m1, L1, k1, k2, k3, k4⟩ := hK
  show JL fx (d + 5) Q al n g0 sl tf P a b (nI 0) 0 _ _
  have hM : MT sc2 ar (vS (fun _ => 0) a b) 0 (fun _ => 0) 0 0 (up2 (up2 (up2 (up2 (up2 sc2 9 2 0) 9 3 0) 9 4 0) 9 5 2) 9 6 1) (va_up (va_up (va_up ar 10 (flT 5 0 (ar 10))) 10 (upd (va_up ar 10 (flT 5 0 (ar 10)) 10) 0 a)) 10 (upd (va_up (va_up ar 10 (flT 5 0 (ar 10))) 10 (upd (va_up ar 10 (flT 5 0 (ar 10)) 10) 0 a) 10) 1 b)) := by
    refine ⟨⟨fun c k h => ?_, fun a9 h1 h2 => ?_⟩, ⟨rfl, rfl, rfl, rfl, rfl⟩, rfl, by decide, rfl, by decide, rfl, rfl, rfl, fun x hx => by omega⟩
    · have u : ∀ (s9 : Nat → Nat → Int32) (k9 : Nat) (v : Int32), 2 ≤ k9 → k9 ≤ 6 → up2 s9 9 k9 v c k = s9 c k := fun s9 k9 v q1 q2 => by
        unfold up2
        by_cases e : c = 9
        · subst e
          rw [va_up_self, pk_un (by omega)]
        · rw [va_up_ne _ _ e]
      rw [u _ _ _ (by decide) (by decide), u _ _ _ (by decide) (by decide), u _ _ _ (by decide) (by decide), u _ _ _ (by decide) (by decide), u _ _ _ (by decide) (by decide)]
    · rw [va_up_ne _ _ h1, va_up_ne _ _ h1, va_up_ne _ _ h1]
  refine sm_stmt hP L1 860 0 0 false 0 m 0 (vS (fun _ => 0) a b) (fun _ => 0) 0 0 0 _ _ (runC m S a b) (by decide) k1 k2 (by omega) m1 hM (by omega) rfl ?_ ?_
  · intro hx c2 St2 sc3 ar3 hc2 hM3
    have ht := hM3.2.2.2.2.2.1
    refine sm_end hP L1 hM3 (op := 0) (od := A (nO (tz m S) 860 0 0 false 0)) (pl := 0 + nO (tz m S) 860 0 0 false 0) (by omega) (by omega) (by rw [Nat.zero_add]; exact k4) (by rw [Nat.zero_add]) (cp_tDone d _ _ hM3) (fun v sc4 ar4 hM4 => ?_)
    refine ex_exit hQ hM4.2.2.2.2.2 ⟨rfl, ?_⟩
    rw [hx]
    exact hM4
  · intro hx c2 v sc3 ar3 hc2 hM3
    exact ex_exit hQ hM3.2.2.2.2.2 ⟨rfl, hM3⟩
set_option maxHeartbeats 4000000 in
set_option maxRecDepth 20000 in
theorem cp_result (d : Nat) (sc ar : Nat → Nat → Int32) (sl : Value) (tf : Nat → Option Nat) : CP (d + 1) 10 (fun al => [.ref (al 9)]) noD (sc) (ar) sl tf (fun res sc2 ar2 => res = some (.int (ar 10 4)) ∧ sc2 = sc ∧ ar2 = ar) := by
  refine CP.of pm_X2_result rfl (fun _ => rfl) (fun _ => Nat.le_of_ble_eq_true rfl) ?_
  intro fx al n g0 Q hn36 _ hQ
  show pc fx (px_body pm_X2_result) (d) Q al n g0 (sc) (ar) sl tf 0 [.ref (al 9)] []
  refine pc_aload_n dX2_result_0 rfl rfl ?_
  refine pc_getR (c := 9) (d := 10) dX2_result_1 fk_X2_9 (by decide) rfl rfl ?_
  refine pc_iconst dX2_result_4 (show Int32.ofInt (4) = (4) by decide) ?_
  refine pc_iald (c := 10) (j := 4) dX2_result_5 (by decide) rfl rfl rfl (by decide) (by decide) rfl ?_
  exact pc_iret hQ dX2_result_6 rfl rfl ⟨rfl, rfl, rfl⟩
