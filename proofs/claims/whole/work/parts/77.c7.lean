def MV (V f : Nat → Int32) : Prop := f 0 = V 97 ∧ f 1 = V 98 ∧ f 2 = V 99 ∧ f 3 = V 100 ∧ f 4 = V 114
def MF (sc0 ar0 sc ar : Nat → Nat → Int32) : Prop := (∀ c k, ¬ (c = 9 ∧ 2 ≤ k ∧ k ≤ 6) → sc c k = sc0 c k) ∧ ∀ a, a ≠ 10 → a ≠ 11 → ar a = ar0 a
/-- the class's machine as it goes: variables, height, stack, steps, skills -/
def MT (sc0 ar0 : Nat → Nat → Int32) (V : Nat → Int32) (h : Nat) (St : Nat → Int32) (t : Nat) (s : Int32) (sc ar : Nat → Nat → Int32) : Prop := MF sc0 ar0 sc ar ∧ MV V (ar 10) ∧ sc 9 2 = nI h ∧ h ≤ 120 ∧ sc 9 3 = nI t ∧ t ≤ 1000 ∧ sc 9 4 = s ∧ sc 9 5 = 2 ∧ sc 9 6 = 1 ∧ ∀ x, x < h → ar 11 x = St x
/-- and behind its end -/
def MO (sc0 ar0 : Nat → Nat → Int32) (V : Nat → Int32) (o t : Nat) (s : Int32) (sc ar : Nat → Nat → Int32) : Prop := MF sc0 ar0 sc ar ∧ MV V (ar 10) ∧ sc 9 3 = nI t ∧ sc 9 4 = s ∧ sc 9 5 = nI o ∧ sc 9 6 = 0
theorem MF.up {sc0 ar0 sc ar : Nat → Nat → Int32} (h : MF sc0 ar0 sc ar) {k : Nat} {v : Int32} (h1 : 2 ≤ k) (h2 : k ≤ 6) : MF sc0 ar0 (up2 sc 9 k v) ar := ⟨fun c j hc => (up2_ne (fun z => hc ⟨z.1, by omega, by omega⟩)).trans (h.1 c j hc), h.2⟩
theorem MF.ar {sc0 ar0 sc ar : Nat → Nat → Int32} (h : MF sc0 ar0 sc ar) {a : Nat} {f : Nat → Int32} (h1 : a = 10 ∨ a = 11) : MF sc0 ar0 sc (va_up ar a f) := ⟨h.1, fun b b1 b2 => (va_up_ne _ _ (by omega)).trans (h.2 b b1 b2)⟩
theorem MV.get {V f : Nat → Int32} (h : MV V f) {tk : Int32} (hv : isVar tk = true) : ∃ k, k < 5 ∧ varOf tk = nI k ∧ f k = V (vN tk) ∧ ∀ v, MV (upd V (vN tk) v) (upd f k v) := by
  have e := vN_of hv
  rcases vN_cases tk with z | z | z | z | z <;> rw [z] at e <;> subst e
  · exact ⟨0, by decide, by decide, h.1, fun v => ⟨rfl, h.2.1, h.2.2.1, h.2.2.2.1, h.2.2.2.2⟩⟩
  · exact ⟨1, by decide, by decide, h.2.1, fun v => ⟨h.1, rfl, h.2.2.1, h.2.2.2.1, h.2.2.2.2⟩⟩
  · exact ⟨2, by decide, by decide, h.2.2.1, fun v => ⟨h.1, h.2.1, rfl, h.2.2.2.1, h.2.2.2.2⟩⟩
  · exact ⟨3, by decide, by decide, h.2.2.2.1, fun v => ⟨h.1, h.2.1, h.2.2.1, rfl, h.2.2.2.2⟩⟩
  · exact ⟨4, by decide, by decide, h.2.2.2.2, fun v => ⟨h.1, h.2.1, h.2.2.1, h.2.2.2.1, rfl⟩⟩
set_option maxHeartbeats 4000000 in
set_option maxRecDepth 20000 in
theorem cp_push (d : Nat) (sc ar : Nat → Nat → Int32) (sl : Value) (tf : Nat → Option Nat) (v : Int32) {h : Nat} (hh : sc 9 2 = nI h) (h1 : h < 120) : CP (d + 1) 18 (fun al => [.ref (al 9), .int v]) noD (sc) (ar) sl tf (fun res sc2 ar2 => res = none ∧ sc2 = up2 sc 9 2 (nI (h + 1)) ∧ ar2 = va_up ar 11 (upd (ar 11) h v)) := by
  refine CP.of pm_X2_push rfl (fun _ => rfl) (fun _ => Nat.le_of_ble_eq_true rfl) ?_
  intro fx al n g0 Q hn36 _ hQ
  show pc fx (px_body pm_X2_push) (d) Q al n g0 (sc) (ar) sl tf 0 [.ref (al 9), .int v] []
  refine pc_aload_n dX2_push_0 rfl rfl ?_
  refine pc_getS (c := 9) (v := (nI h)) dX2_push_1 fk_X2_24 (by decide) rfl rfl hh ?_
  refine pc_aload_n dX2_push_4 rfl rfl ?_
  refine pc_getR (c := 9) (d := 11) dX2_push_5 fk_X2_15 (by decide) rfl rfl ?_
  refine pc_alen (c := 11) dX2_push_8 (by decide) rfl rfl ?_
  refine pc_icmp_ge (tgt := 32) dX2_push_9 (by decide) (fun c9 => absurd c9 (nI_ge (a := h) (b := 120) (by omega) (by decide))) (fun c9 => ?_)
  refine pc_aload_n dX2_push_12 rfl rfl ?_
  refine pc_getR (c := 9) (d := 11) dX2_push_13 fk_X2_15 (by decide) rfl rfl ?_
  refine pc_aload_n dX2_push_16 rfl rfl ?_
  refine pc_getS (c := 9) (v := (nI h)) dX2_push_17 fk_X2_24 (by decide) rfl rfl hh ?_
  refine pc_iload_n dX2_push_20 rfl ?_
  refine pc_iast (c := 11) (j := h) dX2_push_21 (by decide) rfl rfl rfl (by omega) (by decide) ?_
  refine pc_aload_n dX2_push_22 rfl rfl ?_
  refine pc_dup dX2_push_23 rfl ?_
  refine pc_getS (c := 9) (v := (nI h)) dX2_push_24 fk_X2_24 (by decide) rfl rfl hh ?_
  refine pc_iconst dX2_push_27 (show Int32.ofInt (1) = (1) by decide) ?_
  refine pc_iadd dX2_push_28 ?_
  rw [nI_1]
  refine pc_put (c := 9) dX2_push_29 fk_X2_24 (by decide) rfl rfl ⟨_, _, _, rfl, rfl⟩ rfl rfl ?_
  exact pc_vret hQ dX2_push_32 rfl ⟨rfl, rfl, rfl⟩
set_option maxHeartbeats 4000000 in
set_option maxRecDepth 20000 in
theorem cp_pop (d : Nat) (sc ar : Nat → Nat → Int32) (sl : Value) (tf : Nat → Option Nat) {h : Nat} (hh : sc 9 2 = nI (h + 1)) (h1 : h < 120) : CP (d + 1) 19 (fun al => [.ref (al 9)]) noD (sc) (ar) sl tf (fun res sc2 ar2 => res = some (.int (ar 11 h)) ∧ sc2 = up2 sc 9 2 (nI h) ∧ ar2 = ar) := by
  refine CP.of pm_X2_pop rfl (fun _ => rfl) (fun _ => Nat.le_of_ble_eq_true rfl) ?_
  intro fx al n g0 Q hn36 _ hQ
  show pc fx (px_body pm_X2_pop) (d) Q al n g0 (sc) (ar) sl tf 0 [.ref (al 9)] []
  refine pc_aload_n dX2_pop_0 rfl rfl ?_
  refine pc_getS (c := 9) (v := (nI (h + 1))) dX2_pop_1 fk_X2_24 (by decide) rfl rfl hh ?_
  refine pc_if_gt (tgt := 9) dX2_pop_4 (by decide) (fun c4 => ?_) (fun c4 => absurd (nI_lt (show 0 < h + 1 by omega) (by omega)) c4)
  refine pc_aload_n dX2_pop_9 rfl rfl ?_
  refine pc_dup dX2_pop_10 rfl ?_
  refine pc_getS (c := 9) (v := (nI (h + 1))) dX2_pop_11 fk_X2_24 (by decide) rfl rfl hh ?_
  refine pc_iconst dX2_pop_14 (show Int32.ofInt (1) = (1) by decide) ?_
  refine pc_isub dX2_pop_15 ?_
  rw [nI_pred]
  refine pc_put (c := 9) dX2_pop_16 fk_X2_24 (by decide) rfl rfl ⟨_, _, _, rfl, rfl⟩ rfl rfl ?_
  refine pc_aload_n dX2_pop_19 rfl rfl ?_
  refine pc_getR (c := 9) (d := 11) dX2_pop_20 fk_X2_15 (by decide) rfl rfl ?_
  refine pc_aload_n dX2_pop_23 rfl rfl ?_
  refine pc_getS (c := 9) (v := nI h) dX2_pop_24 fk_X2_24 (by decide) rfl rfl rfl ?_
  refine pc_iald (c := 11) (v := (ar 11 h)) (j := h) dX2_pop_27 (by decide) rfl rfl rfl (by omega) (by decide) rfl ?_
  exact pc_iret hQ dX2_pop_28 rfl rfl ⟨rfl, rfl, rfl⟩
set_option maxHeartbeats 4000000 in
set_option maxRecDepth 20000 in
theorem cp_valueOf (d : Nat) (sc ar : Nat → Nat → Int32) (sl : Value) (tf : Nat → Option Nat) {k : Nat} (hk : k < 5) : CP (d + 1) 12 (fun al => [.ref (al 9), .int (nI k)]) noD (sc) (ar) sl tf (fun res sc2 ar2 => res = some (.int (ar 10 k)) ∧ sc2 = sc ∧ ar2 = ar) := by
  refine CP.of pm_X2_valueOf rfl (fun _ => rfl) (fun _ => Nat.le_of_ble_eq_true rfl) ?_
  intro fx al n g0 Q hn36 _ hQ
  show pc fx (px_body pm_X2_valueOf) (d) Q al n g0 (sc) (ar) sl tf 0 [.ref (al 9), .int (nI k)] []
  refine pc_iload_n dX2_valueOf_0 rfl ?_
  refine pc_if_lt (tgt := 18) dX2_valueOf_1 (by decide) (fun c1 => absurd c1 (nI_pos (by omega))) (fun c1 => ?_)
  refine pc_iload_n dX2_valueOf_4 rfl ?_
  refine pc_iconst dX2_valueOf_5 (show Int32.ofInt (5) = (5) by decide) ?_
  refine pc_icmp_ge (tgt := 18) dX2_valueOf_6 (by decide) (fun c6 => absurd c6 (nI_ge (a := k) (b := 5) (by omega) (by decide))) (fun c6 => ?_)
  refine pc_aload_n dX2_valueOf_9 rfl rfl ?_
  refine pc_getR (c := 9) (d := 10) dX2_valueOf_10 fk_X2_9 (by decide) rfl rfl ?_
  refine pc_iload_n dX2_valueOf_13 rfl ?_
  refine pc_iald (c := 10) (v := (ar 10 k)) (j := k) dX2_valueOf_14 (by decide) rfl rfl rfl hk (by decide) rfl ?_
  refine pc_goto (tgt := 19) dX2_valueOf_15 (by decide) ?_
  exact pc_iret hQ dX2_valueOf_19 rfl rfl ⟨rfl, rfl, rfl⟩
set_option maxHeartbeats 4000000 in
set_option maxRecDepth 20000 in
theorem cp_store (d : Nat) (sc ar : Nat → Nat → Int32) (sl : Value) (tf : Nat → Option Nat) {k : Nat} (v : Int32) (hk : k < 5) : CP (d + 1) 13 (fun al => [.ref (al 9), .int (nI k), .int v]) noD (sc) (ar) sl tf (fun res sc2 ar2 => res = none ∧ sc2 = sc ∧ ar2 = va_up ar 10 (upd (ar 10) k v)) := by
  refine CP.of pm_X2_store rfl (fun _ => rfl) (fun _ => Nat.le_of_ble_eq_true rfl) ?_
  intro fx al n g0 Q hn36 _ hQ
  show pc fx (px_body pm_X2_store) (d) Q al n g0 (sc) (ar) sl tf 0 [.ref (al 9), .int (nI k), .int v] []
  refine pc_iload_n dX2_store_0 rfl ?_
  refine pc_if_lt (tgt := 16) dX2_store_1 (by decide) (fun c1 => absurd c1 (nI_pos (by omega))) (fun c1 => ?_)
  refine pc_iload_n dX2_store_4 rfl ?_
  refine pc_iconst dX2_store_5 (show Int32.ofInt (5) = (5) by decide) ?_
  refine pc_icmp_ge (tgt := 16) dX2_store_6 (by decide) (fun c6 => absurd c6 (nI_ge (a := k) (b := 5) (by omega) (by decide))) (fun c6 => ?_)
  refine pc_aload_n dX2_store_9 rfl rfl ?_
  refine pc_getR (c := 9) (d := 10) dX2_store_10 fk_X2_9 (by decide) rfl rfl ?_
  refine pc_iload_n dX2_store_13 rfl ?_
  refine pc_iload_n dX2_store_14 rfl ?_
  refine pc_iast (c := 10) (j := k) dX2_store_15 (by decide) rfl rfl rfl hk (by decide) ?_
  exact pc_vret hQ dX2_store_16 rfl ⟨rfl, rfl, rfl⟩
set_option maxHeartbeats 4000000 in
set_option maxRecDepth 20000 in
theorem cp_stop (d : Nat) (sc ar : Nat → Nat → Int32) (sl : Value) (tf : Nat → Option Nat) (o : Int32) : CP (d + 1) 14 (fun al => [.ref (al 9), .int o]) noD (sc) (ar) sl tf (fun res sc2 ar2 => res = none ∧ sc2 = up2 (up2 sc 9 5 o) 9 6 0 ∧ ar2 = ar) := by
  refine CP.of pm_X2_stop rfl (fun _ => rfl) (fun _ => Nat.le_of_ble_eq_true rfl) ?_
  intro fx al n g0 Q hn36 _ hQ
  show pc fx (px_body pm_X2_stop) (d) Q al n g0 (sc) (ar) sl tf 0 [.ref (al 9), .int o] []
  refine pc_aload_n dX2_stop_0 rfl rfl ?_
  refine pc_iload_n dX2_stop_1 rfl ?_
  refine pc_put (c := 9) dX2_stop_2 fk_X2_34 (by decide) rfl rfl ⟨_, _, _, rfl, rfl⟩ rfl rfl ?_
  refine pc_aload_n dX2_stop_5 rfl rfl ?_
  refine pc_iconst dX2_stop_6 (show Int32.ofInt (0) = (0) by decide) ?_
  refine pc_put (c := 9) dX2_stop_7 fk_X2_37 (by decide) rfl rfl ⟨_, _, _, rfl, rfl⟩ rfl rfl ?_
  exact pc_vret hQ dX2_stop_10 rfl ⟨rfl, rfl, rfl⟩
set_option maxHeartbeats 4000000 in
set_option maxRecDepth 20000 in
theorem cp_begin1 (d : Nat) (sc ar : Nat → Nat → Int32) (sl : Value) (tf : Nat → Option Nat) (sk : Int32) {t : Nat} (ht : sc 9 3 = nI t) (h1 : t < 1000) : CP (d + 2) 15 (fun al => [.ref (al 9), .int sk]) noD (sc) (ar) sl tf (fun res sc2 ar2 => res = none ∧ sc2 = up2 (up2 sc 9 3 (nI (t + 1))) 9 4 (sc 9 4 ||| sk) ∧ ar2 = ar) := by
  refine CP.of pm_X2_begin rfl (fun _ => rfl) (fun _ => Nat.le_of_ble_eq_true rfl) ?_
  intro fx al n g0 Q hn36 _ hQ
  show pc fx (px_body pm_X2_begin) (d + 1) Q al n g0 (sc) (ar) sl tf 0 [.ref (al 9), .int sk] []
  refine pc_aload_n dX2_begin_0 rfl rfl ?_
  refine pc_getS (c := 9) (v := (nI t)) dX2_begin_1 fk_X2_28 (by decide) rfl rfl ht ?_
  refine pc_sipush dX2_begin_4 (show (Int16.ofInt (1000)).toInt32 = (1000) by decide) ?_
  refine pc_icmp_lt (tgt := 16) dX2_begin_7 (by decide) (fun c7 => ?_) (fun c7 => absurd (nI_lt h1 (by decide)) c7)
  refine pc_aload_n dX2_begin_16 rfl rfl ?_
  refine pc_dup dX2_begin_17 rfl ?_
  refine pc_getS (c := 9) (v := (nI t)) dX2_begin_18 fk_X2_28 (by decide) rfl rfl ht ?_
  refine pc_iconst dX2_begin_21 (show Int32.ofInt (1) = (1) by decide) ?_
  refine pc_iadd dX2_begin_22 ?_
  rw [nI_1]
  refine pc_put (c := 9) dX2_begin_23 fk_X2_28 (by decide) rfl rfl ⟨_, _, _, rfl, rfl⟩ rfl rfl ?_
  refine pc_aload_n dX2_begin_26 rfl rfl ?_
  refine pc_dup dX2_begin_27 rfl ?_
  refine pc_getS (c := 9) (v := sc 9 4) dX2_begin_28 fk_X2_31 (by decide) rfl rfl rfl ?_
  refine pc_iload_n dX2_begin_31 rfl ?_
  refine pc_ior dX2_begin_32 ?_
  refine pc_put (c := 9) dX2_begin_33 fk_X2_31 (by decide) rfl rfl ⟨_, _, _, rfl, rfl⟩ rfl rfl ?_
  exact pc_vret hQ dX2_begin_36 rfl ⟨rfl, rfl, rfl⟩
set_option maxHeartbeats 4000000 in
set_option maxRecDepth 20000 in
theorem cp_begin2 (d : Nat) (sc ar : Nat → Nat → Int32) (sl : Value) (tf : Nat → Option Nat) (sk : Int32) (ht : sc 9 3 = nI 1000) : CP (d + 2) 15 (fun al => [.ref (al 9), .int sk]) noD (sc) (ar) sl tf (fun res sc2 ar2 => res = none ∧ sc2 = up2 (up2 sc 9 5 2) 9 6 0 ∧ ar2 = ar) := by
  refine CP.of pm_X2_begin rfl (fun _ => rfl) (fun _ => Nat.le_of_ble_eq_true rfl) ?_
  intro fx al n g0 Q hn36 _ hQ
  show pc fx (px_body pm_X2_begin) (d + 1) Q al n g0 (sc) (ar) sl tf 0 [.ref (al 9), .int sk] []
  refine pc_aload_n dX2_begin_0 rfl rfl ?_
  refine pc_getS (c := 9) (v := (nI 1000)) dX2_begin_1 fk_X2_28 (by decide) rfl rfl ht ?_
  refine pc_sipush dX2_begin_4 (show (Int16.ofInt (1000)).toInt32 = (1000) by decide) ?_
  refine pc_icmp_lt (tgt := 16) dX2_begin_7 (by decide) (fun c7 => absurd c7 (by decide)) (fun c7 => ?_)
  refine pc_aload_n dX2_begin_10 rfl rfl ?_
  refine pc_iconst dX2_begin_11 (show Int32.ofInt (2) = (2) by decide) ?_
  refine pc_call (c := 9) (As := fun al => [.int (2)]) dX2_begin_12 cl_X2_54 (by decide) rfl (cp_stop d _ _ _ _ 2) (fun _ _ => trivial) rfl rfl (Nat.le_of_ble_eq_true rfl) ⟨rfl, rfl⟩ (fun res sc2 ar2 hn => ?_)
  obtain ⟨rfl, rfl, rfl⟩ := hn
  exact pc_vret hQ dX2_begin_15 rfl ⟨rfl, rfl, rfl⟩
set_option maxHeartbeats 4000000 in
set_option maxRecDepth 20000 in
theorem cp_divideW (d : Nat) (sc ar : Nat → Nat → Int32) (sl : Value) (tf : Nat → Option Nat) (l r : Int32) {h : Nat} (hr : ¬ r = 0) (hh : sc 9 2 = nI h) (h1 : h < 120) : CP (d + 2) 17 (fun al => [.ref (al 9), .int l, .int r, .int 1]) noD (sc) (ar) sl tf (fun res sc2 ar2 => res = none ∧ sc2 = up2 sc 9 2 (nI (h + 1)) ∧ ar2 = va_up ar 11 (upd (ar 11) h (l / r))) := by
  refine CP.of pm_X2_divide rfl (fun _ => rfl) (fun _ => Nat.le_of_ble_eq_true rfl) ?_
  intro fx al n g0 Q hn36 _ hQ
  show pc fx (px_body pm_X2_divide) (d + 1) Q al n g0 (sc) (ar) sl tf 0 [.ref (al 9), .int l, .int r, .int 1] []
  refine pc_iload_n dX2_divide_0 rfl ?_
  refine pc_if_ne (tgt := 10) dX2_divide_1 (by decide) (fun c1 => ?_) (fun c1 => absurd c1 hr)
  refine pc_aload_n dX2_divide_10 rfl rfl ?_
  refine pc_iload_n dX2_divide_11 rfl ?_
  refine pc_if_eq (tgt := 21) dX2_divide_12 (by decide) (fun c12 => absurd c12 (by decide)) (fun c12 => ?_)
  refine pc_iload_n dX2_divide_15 rfl ?_
  refine pc_iload_n dX2_divide_16 rfl ?_
  refine pc_idiv dX2_divide_17 hr ?_
  refine pc_goto (tgt := 24) dX2_divide_18 (by decide) ?_
  refine pc_call (c := 9) (As := fun al => [.int (l / r)]) dX2_divide_24 cl_X2_58 (by decide) rfl (cp_push d _ _ _ _ (l / r) hh h1) (fun _ _ => trivial) rfl rfl (Nat.le_of_ble_eq_true rfl) ⟨rfl, rfl⟩ (fun res sc2 ar2 hn => ?_)
  obtain ⟨rfl, rfl, rfl⟩ := hn
  exact pc_vret hQ dX2_divide_27 rfl ⟨rfl, rfl, rfl⟩
set_option maxHeartbeats 4000000 in
set_option maxRecDepth 20000 in
theorem cp_divideR (d : Nat) (sc ar : Nat → Nat → Int32) (sl : Value) (tf : Nat → Option Nat) (l r : Int32) {h : Nat} (hr : ¬ r = 0) (hh : sc 9 2 = nI h) (h1 : h < 120) : CP (d + 2) 17 (fun al => [.ref (al 9), .int l, .int r, .int 0]) noD (sc) (ar) sl tf (fun res sc2 ar2 => res = none ∧ sc2 = up2 sc 9 2 (nI (h + 1)) ∧ ar2 = va_up ar 11 (upd (ar 11) h (l - l / r * r))) := by
  refine CP.of pm_X2_divide rfl (fun _ => rfl) (fun _ => Nat.le_of_ble_eq_true rfl) ?_
  intro fx al n g0 Q hn36 _ hQ
  show pc fx (px_body pm_X2_divide) (d + 1) Q al n g0 (sc) (ar) sl tf 0 [.ref (al 9), .int l, .int r, .int 0] []
  refine pc_iload_n dX2_divide_0 rfl ?_
  refine pc_if_ne (tgt := 10) dX2_divide_1 (by decide) (fun c1 => ?_) (fun c1 => absurd c1 hr)
  refine pc_aload_n dX2_divide_10 rfl rfl ?_
  refine pc_iload_n dX2_divide_11 rfl ?_
  refine pc_if_eq (tgt := 21) dX2_divide_12 (by decide) (fun c12 => ?_) (fun c12 => absurd rfl c12)
  refine pc_iload_n dX2_divide_21 rfl ?_
  refine pc_iload_n dX2_divide_22 rfl ?_
  refine pc_irem dX2_divide_23 hr ?_
  refine pc_call (c := 9) (As := fun al => [.int (l - l / r * r)]) dX2_divide_24 cl_X2_58 (by decide) rfl (cp_push d _ _ _ _ (l - l / r * r) hh h1) (fun _ _ => trivial) rfl rfl (Nat.le_of_ble_eq_true rfl) ⟨rfl, rfl⟩ (fun res sc2 ar2 hn => ?_)
  obtain ⟨rfl, rfl, rfl⟩ := hn
  exact pc_vret hQ dX2_divide_27 rfl ⟨rfl, rfl, rfl⟩
set_option maxHeartbeats 4000000 in
set_option maxRecDepth 20000 in
theorem cp_divide0 (d : Nat) (sc ar : Nat → Nat → Int32) (sl : Value) (tf : Nat → Option Nat) (l w : Int32) : CP (d + 2) 17 (fun al => [.ref (al 9), .int l, .int 0, .int w]) noD (sc) (ar) sl tf (fun res sc2 ar2 => res = none ∧ sc2 = up2 (up2 sc 9 5 1) 9 6 0 ∧ ar2 = ar) := by
  refine CP.of pm_X2_divide rfl (fun _ => rfl) (fun _ => Nat.le_of_ble_eq_true rfl) ?_
  intro fx al n g0 Q hn36 _ hQ
  show pc fx (px_body pm_X2_divide) (d + 1) Q al n g0 (sc) (ar) sl tf 0 [.ref (al 9), .int l, .int 0, .int w] []
  refine pc_iload_n dX2_divide_0 rfl ?_
  refine pc_if_ne (tgt := 10) dX2_divide_1 (by decide) (fun c1 => absurd c1 (fun z => z rfl)) (fun c1 => ?_)
  refine pc_aload_n dX2_divide_4 rfl rfl ?_
  refine pc_iconst dX2_divide_5 (show Int32.ofInt (1) = (1) by decide) ?_
  refine pc_call (c := 9) (As := fun al => [.int (1)]) dX2_divide_6 cl_X2_54 (by decide) rfl (cp_stop d _ _ _ _ 1) (fun _ _ => trivial) rfl rfl (Nat.le_of_ble_eq_true rfl) ⟨rfl, rfl⟩ (fun res sc2 ar2 hn => ?_)
  obtain ⟨rfl, rfl, rfl⟩ := hn
  exact pc_vret hQ dX2_divide_9 rfl ⟨rfl, rfl, rfl⟩
set_option maxHeartbeats 4000000 in
set_option maxRecDepth 20000 in
theorem cp_woAdd (d : Nat) (sc ar : Nat → Nat → Int32) (sl : Value) (tf : Nat → Option Nat) {h : Nat} (hh : sc 9 2 = nI (h + 2)) (h1 : h + 2 ≤ 120) : CP (d + 4) 16 (fun al => [.ref (al 9), .int (nI 43)]) noD (sc) (ar) sl tf (fun res sc2 ar2 => res = none ∧ sc2 = up2 sc 9 2 (nI (h + 1)) ∧ ar2 = va_up ar 11 (upd (ar 11) h ((ar 11 h) + (ar 11 (h + 1))))) := by
  refine CP.of pm_X2_workOut rfl (fun _ => rfl) (fun _ => Nat.le_of_ble_eq_true rfl) ?_
  intro fx al n g0 Q hn36 _ hQ
  show pc fx (px_body pm_X2_workOut) (d + 3) Q al n g0 (sc) (ar) sl tf 0 [.ref (al 9), .int (nI 43), .float 0, .float 0] []
  refine pc_aload_n dX2_workOut_0 rfl rfl ?_
  refine pc_call (c := 9) (As := fun al => []) dX2_workOut_1 cl_X2_65 (by decide) rfl (cp_pop (d + 2) _ _ _ _ (h := h + 1) hh (by omega)) (fun _ _ => trivial) rfl rfl (Nat.le_of_ble_eq_true rfl) ⟨rfl, rfl⟩ (fun res sc2 ar2 hn => ?_)
  obtain ⟨rfl, rfl, h9⟩ := hn
  subst ar2
  refine pc_istore_n dX2_workOut_4 (Nat.le_of_ble_eq_true rfl) ?_
  refine pc_aload_n dX2_workOut_5 rfl rfl ?_
  refine pc_call (c := 9) (As := fun al => []) dX2_workOut_6 cl_X2_65 (by decide) rfl (cp_pop (d + 2) _ _ _ _ (h := h) rfl (by omega)) (fun _ _ => trivial) rfl rfl (Nat.le_of_ble_eq_true rfl) ⟨rfl, rfl⟩ (fun res sc2 ar2 hn => ?_)
  obtain ⟨rfl, rfl, h9⟩ := hn
  subst ar2
  rw [up2_up2]
  refine pc_istore_n dX2_workOut_9 (Nat.le_of_ble_eq_true rfl) ?_
  refine pc_iload_n dX2_workOut_10 rfl ?_
  refine pc_lookup (off := 41) (tgt := 52) dX2_workOut_11 (by decide) (by decide) (by decide) ?_
  refine pc_aload_n dX2_workOut_52 rfl rfl ?_
  refine pc_iload_n dX2_workOut_53 rfl ?_
  refine pc_iload_n dX2_workOut_54 rfl ?_
  refine pc_iadd dX2_workOut_55 ?_
  refine pc_call (c := 9) (As := fun al => [.int ((ar 11 h) + (ar 11 (h + 1)))]) dX2_workOut_56 cl_X2_58 (by decide) rfl (cp_push (d + 2) _ _ _ _ ((ar 11 h) + (ar 11 (h + 1))) rfl (by omega)) (fun _ _ => trivial) rfl rfl (Nat.le_of_ble_eq_true rfl) ⟨rfl, rfl⟩ (fun res sc2 ar2 hn => ?_)
  obtain ⟨rfl, rfl, rfl⟩ := hn
  rw [up2_up2]
  exact pc_vret hQ dX2_workOut_59 rfl ⟨rfl, rfl, rfl⟩
set_option maxHeartbeats 4000000 in
set_option maxRecDepth 20000 in
theorem cp_woSub (d : Nat) (sc ar : Nat → Nat → Int32) (sl : Value) (tf : Nat → Option Nat) {h : Nat} (hh : sc 9 2 = nI (h + 2)) (h1 : h + 2 ≤ 120) : CP (d + 4) 16 (fun al => [.ref (al 9), .int (nI 45)]) noD (sc) (ar) sl tf (fun res sc2 ar2 => res = none ∧ sc2 = up2 sc 9 2 (nI (h + 1)) ∧ ar2 = va_up ar 11 (upd (ar 11) h ((ar 11 h) - (ar 11 (h + 1))))) := by
  refine CP.of pm_X2_workOut rfl (fun _ => rfl) (fun _ => Nat.le_of_ble_eq_true rfl) ?_
  intro fx al n g0 Q hn36 _ hQ
  show pc fx (px_body pm_X2_workOut) (d + 3) Q al n g0 (sc) (ar) sl tf 0 [.ref (al 9), .int (nI 45), .float 0, .float 0] []
  refine pc_aload_n dX2_workOut_0 rfl rfl ?_
  refine pc_call (c := 9) (As := fun al => []) dX2_workOut_1 cl_X2_65 (by decide) rfl (cp_pop (d + 2) _ _ _ _ (h := h + 1) hh (by omega)) (fun _ _ => trivial) rfl rfl (Nat.le_of_ble_eq_true rfl) ⟨rfl, rfl⟩ (fun res sc2 ar2 hn => ?_)
  obtain ⟨rfl, rfl, h9⟩ := hn
  subst ar2
  refine pc_istore_n dX2_workOut_4 (Nat.le_of_ble_eq_true rfl) ?_
  refine pc_aload_n dX2_workOut_5 rfl rfl ?_
  refine pc_call (c := 9) (As := fun al => []) dX2_workOut_6 cl_X2_65 (by decide) rfl (cp_pop (d + 2) _ _ _ _ (h := h) rfl (by omega)) (fun _ _ => trivial) rfl rfl (Nat.le_of_ble_eq_true rfl) ⟨rfl, rfl⟩ (fun res sc2 ar2 hn => ?_)
  obtain ⟨rfl, rfl, h9⟩ := hn
  subst ar2
  rw [up2_up2]
  refine pc_istore_n dX2_workOut_9 (Nat.le_of_ble_eq_true rfl) ?_
  refine pc_iload_n dX2_workOut_10 rfl ?_
  refine pc_lookup (off := 49) (tgt := 60) dX2_workOut_11 (by decide) (by decide) (by decide) ?_
  refine pc_aload_n dX2_workOut_60 rfl rfl ?_
  refine pc_iload_n dX2_workOut_61 rfl ?_
  refine pc_iload_n dX2_workOut_62 rfl ?_
  refine pc_isub dX2_workOut_63 ?_
  refine pc_call (c := 9) (As := fun al => [.int ((ar 11 h) - (ar 11 (h + 1)))]) dX2_workOut_64 cl_X2_58 (by decide) rfl (cp_push (d + 2) _ _ _ _ ((ar 11 h) - (ar 11 (h + 1))) rfl (by omega)) (fun _ _ => trivial) rfl rfl (Nat.le_of_ble_eq_true rfl) ⟨rfl, rfl⟩ (fun res sc2 ar2 hn => ?_)
  obtain ⟨rfl, rfl, rfl⟩ := hn
  rw [up2_up2]
  exact pc_vret hQ dX2_workOut_67 rfl ⟨rfl, rfl, rfl⟩
set_option maxHeartbeats 4000000 in
set_option maxRecDepth 20000 in
theorem cp_woMul (d : Nat) (sc ar : Nat → Nat → Int32) (sl : Value) (tf : Nat → Option Nat) {h : Nat} (hh : sc 9 2 = nI (h + 2)) (h1 : h + 2 ≤ 120) : CP (d + 4) 16 (fun al => [.ref (al 9), .int (nI 42)]) noD (sc) (ar) sl tf (fun res sc2 ar2 => res = none ∧ sc2 = up2 sc 9 2 (nI (h + 1)) ∧ ar2 = va_up ar 11 (upd (ar 11) h ((ar 11 h) * (ar 11 (h + 1))))) := by
  refine CP.of pm_X2_workOut rfl (fun _ => rfl) (fun _ => Nat.le_of_ble_eq_true rfl) ?_
  intro fx al n g0 Q hn36 _ hQ
  show pc fx (px_body pm_X2_workOut) (d + 3) Q al n g0 (sc) (ar) sl tf 0 [.ref (al 9), .int (nI 42), .float 0, .float 0] []
  refine pc_aload_n dX2_workOut_0 rfl rfl ?_
  refine pc_call (c := 9) (As := fun al => []) dX2_workOut_1 cl_X2_65 (by decide) rfl (cp_pop (d + 2) _ _ _ _ (h := h + 1) hh (by omega)) (fun _ _ => trivial) rfl rfl (Nat.le_of_ble_eq_true rfl) ⟨rfl, rfl⟩ (fun res sc2 ar2 hn => ?_)
  obtain ⟨rfl, rfl, h9⟩ := hn
  subst ar2
  refine pc_istore_n dX2_workOut_4 (Nat.le_of_ble_eq_true rfl) ?_
  refine pc_aload_n dX2_workOut_5 rfl rfl ?_
  refine pc_call (c := 9) (As := fun al => []) dX2_workOut_6 cl_X2_65 (by decide) rfl (cp_pop (d + 2) _ _ _ _ (h := h) rfl (by omega)) (fun _ _ => trivial) rfl rfl (Nat.le_of_ble_eq_true rfl) ⟨rfl, rfl⟩ (fun res sc2 ar2 hn => ?_)
  obtain ⟨rfl, rfl, h9⟩ := hn
  subst ar2
  rw [up2_up2]
  refine pc_istore_n dX2_workOut_9 (Nat.le_of_ble_eq_true rfl) ?_
  refine pc_iload_n dX2_workOut_10 rfl ?_
  refine pc_lookup (off := 57) (tgt := 68) dX2_workOut_11 (by decide) (by decide) (by decide) ?_
  refine pc_aload_n dX2_workOut_68 rfl rfl ?_
  refine pc_iload_n dX2_workOut_69 rfl ?_
  refine pc_iload_n dX2_workOut_70 rfl ?_
  refine pc_imul dX2_workOut_71 ?_
  refine pc_call (c := 9) (As := fun al => [.int ((ar 11 h) * (ar 11 (h + 1)))]) dX2_workOut_72 cl_X2_58 (by decide) rfl (cp_push (d + 2) _ _ _ _ ((ar 11 h) * (ar 11 (h + 1))) rfl (by omega)) (fun _ _ => trivial) rfl rfl (Nat.le_of_ble_eq_true rfl) ⟨rfl, rfl⟩ (fun res sc2 ar2 hn => ?_)
  obtain ⟨rfl, rfl, rfl⟩ := hn
  rw [up2_up2]
  exact pc_vret hQ dX2_workOut_75 rfl ⟨rfl, rfl, rfl⟩
set_option maxHeartbeats 4000000 in
set_option maxRecDepth 20000 in
theorem cp_woLt (d : Nat) (sc ar : Nat → Nat → Int32) (sl : Value) (tf : Nat → Option Nat) {h : Nat} (hh : sc 9 2 = nI (h + 2)) (h1 : h + 2 ≤ 120) : CP (d + 4) 16 (fun al => [.ref (al 9), .int (nI 60)]) noD (sc) (ar) sl tf (fun res sc2 ar2 => res = none ∧ sc2 = up2 sc 9 2 (nI (h + 1)) ∧ ar2 = va_up ar 11 (upd (ar 11) h (if (ar 11 h) < (ar 11 (h + 1)) then 1 else 0))) := by
  refine CP.of pm_X2_workOut rfl (fun _ => rfl) (fun _ => Nat.le_of_ble_eq_true rfl) ?_
  intro fx al n g0 Q hn36 _ hQ
  show pc fx (px_body pm_X2_workOut) (d + 3) Q al n g0 (sc) (ar) sl tf 0 [.ref (al 9), .int (nI 60), .float 0, .float 0] []
  refine pc_aload_n dX2_workOut_0 rfl rfl ?_
  refine pc_call (c := 9) (As := fun al => []) dX2_workOut_1 cl_X2_65 (by decide) rfl (cp_pop (d + 2) _ _ _ _ (h := h + 1) hh (by omega)) (fun _ _ => trivial) rfl rfl (Nat.le_of_ble_eq_true rfl) ⟨rfl, rfl⟩ (fun res sc2 ar2 hn => ?_)
  obtain ⟨rfl, rfl, h9⟩ := hn
  subst ar2
  refine pc_istore_n dX2_workOut_4 (Nat.le_of_ble_eq_true rfl) ?_
  refine pc_aload_n dX2_workOut_5 rfl rfl ?_
  refine pc_call (c := 9) (As := fun al => []) dX2_workOut_6 cl_X2_65 (by decide) rfl (cp_pop (d + 2) _ _ _ _ (h := h) rfl (by omega)) (fun _ _ => trivial) rfl rfl (Nat.le_of_ble_eq_true rfl) ⟨rfl, rfl⟩ (fun res sc2 ar2 hn => ?_)
  obtain ⟨rfl, rfl, h9⟩ := hn
  subst ar2
  rw [up2_up2]
  refine pc_istore_n dX2_workOut_9 (Nat.le_of_ble_eq_true rfl) ?_
  refine pc_iload_n dX2_workOut_10 rfl ?_
  refine pc_lookup (off := 65) (tgt := 76) dX2_workOut_11 (by decide) (by decide) (by decide) ?_
  refine pc_aload_n dX2_workOut_76 rfl rfl ?_
  refine pc_iload_n dX2_workOut_77 rfl ?_
  refine pc_iload_n dX2_workOut_78 rfl ?_
  refine pc_icmp_ge (tgt := 86) dX2_workOut_79 (by decide) (fun c79 => ?_) (fun c79 => ?_)
  ·
    have c799 := Int32.not_lt.mpr c79
    refine pc_iconst dX2_workOut_86 (show Int32.ofInt (0) = (0) by decide) ?_
    refine pc_call (c := 9) (As := fun al => [.int (0)]) dX2_workOut_87 cl_X2_58 (by decide) rfl (cp_push (d + 2) _ _ _ _ (0) rfl (by omega)) (fun _ _ => trivial) rfl rfl (Nat.le_of_ble_eq_true rfl) ⟨rfl, rfl⟩ (fun res sc2 ar2 hn => ?_)
    obtain ⟨rfl, rfl, rfl⟩ := hn
    rw [up2_up2]
    exact pc_vret hQ dX2_workOut_90 rfl ⟨rfl, rfl, by rw [if_neg c799]⟩
  ·
    have c799 := Int32.not_le.mp c79
    refine pc_iconst dX2_workOut_82 (show Int32.ofInt (1) = (1) by decide) ?_
    refine pc_goto (tgt := 87) dX2_workOut_83 (by decide) ?_
    refine pc_call (c := 9) (As := fun al => [.int (1)]) dX2_workOut_87 cl_X2_58 (by decide) rfl (cp_push (d + 2) _ _ _ _ (1) rfl (by omega)) (fun _ _ => trivial) rfl rfl (Nat.le_of_ble_eq_true rfl) ⟨rfl, rfl⟩ (fun res sc2 ar2 hn => ?_)
    obtain ⟨rfl, rfl, rfl⟩ := hn
    rw [up2_up2]
    exact pc_vret hQ dX2_workOut_90 rfl ⟨rfl, rfl, by rw [if_pos c799]⟩
set_option maxHeartbeats 4000000 in
set_option maxRecDepth 20000 in
theorem cp_woDiv (d : Nat) (sc ar : Nat → Nat → Int32) (sl : Value) (tf : Nat → Option Nat) {h : Nat} (hh : sc 9 2 = nI (h + 2)) (h1 : h + 2 ≤ 120) (hr : ¬ (ar 11 (h + 1)) = 0) : CP (d + 4) 16 (fun al => [.ref (al 9), .int (nI 47)]) noD (sc) (ar) sl tf (fun res sc2 ar2 => res = none ∧ sc2 = up2 sc 9 2 (nI (h + 1)) ∧ ar2 = va_up ar 11 (upd (ar 11) h ((ar 11 h) / (ar 11 (h + 1))))) := by
  refine CP.of pm_X2_workOut rfl (fun _ => rfl) (fun _ => Nat.le_of_ble_eq_true rfl) ?_
  intro fx al n g0 Q hn36 _ hQ
  show pc fx (px_body pm_X2_workOut) (d + 3) Q al n g0 (sc) (ar) sl tf 0 [.ref (al 9), .int (nI 47), .float 0, .float 0] []
  refine pc_aload_n dX2_workOut_0 rfl rfl ?_
  refine pc_call (c := 9) (As := fun al => []) dX2_workOut_1 cl_X2_65 (by decide) rfl (cp_pop (d + 2) _ _ _ _ (h := h + 1) hh (by omega)) (fun _ _ => trivial) rfl rfl (Nat.le_of_ble_eq_true rfl) ⟨rfl, rfl⟩ (fun res sc2 ar2 hn => ?_)
  obtain ⟨rfl, rfl, h9⟩ := hn
  subst ar2
  refine pc_istore_n dX2_workOut_4 (Nat.le_of_ble_eq_true rfl) ?_
  refine pc_aload_n dX2_workOut_5 rfl rfl ?_
  refine pc_call (c := 9) (As := fun al => []) dX2_workOut_6 cl_X2_65 (by decide) rfl (cp_pop (d + 2) _ _ _ _ (h := h) rfl (by omega)) (fun _ _ => trivial) rfl rfl (Nat.le_of_ble_eq_true rfl) ⟨rfl, rfl⟩ (fun res sc2 ar2 hn => ?_)
  obtain ⟨rfl, rfl, h9⟩ := hn
  subst ar2
  rw [up2_up2]
  refine pc_istore_n dX2_workOut_9 (Nat.le_of_ble_eq_true rfl) ?_
  refine pc_iload_n dX2_workOut_10 rfl ?_
  refine pc_lookup (off := 80) (tgt := 91) dX2_workOut_11 (by decide) (by decide) (by decide) ?_
  refine pc_aload_n dX2_workOut_91 rfl rfl ?_
  refine pc_iload_n dX2_workOut_92 rfl ?_
  refine pc_iload_n dX2_workOut_93 rfl ?_
  refine pc_iload_n dX2_workOut_94 rfl ?_
  refine pc_bipush dX2_workOut_95 (show (Int8.ofInt (47)).toInt32 = (47) by decide) ?_
  refine pc_icmp_ne (tgt := 104) dX2_workOut_97 (by decide) (fun c97 => absurd c97 (fun z => z rfl)) (fun c97 => ?_)
  refine pc_iconst dX2_workOut_100 (show Int32.ofInt (1) = (1) by decide) ?_
  refine pc_goto (tgt := 105) dX2_workOut_101 (by decide) ?_
  refine pc_call (c := 9) (As := fun al => [.int (ar 11 h), .int (ar 11 (h + 1)), .int 1]) dX2_workOut_105 cl_X2_79 (by decide) rfl (CP.le (d2 := d + 3) (cp_divideW d _ _ _ _ (ar 11 h) (ar 11 (h + 1)) hr rfl (by omega)) (by omega)) (fun _ _ => trivial) rfl rfl (Nat.le_of_ble_eq_true rfl) ⟨rfl, rfl⟩ (fun res sc2 ar2 hn => ?_)
  obtain ⟨rfl, rfl, rfl⟩ := hn
  rw [up2_up2]
  exact pc_vret hQ dX2_workOut_108 rfl ⟨rfl, rfl, rfl⟩
set_option maxHeartbeats 4000000 in
set_option maxRecDepth 20000 in
theorem cp_woDiv0 (d : Nat) (sc ar : Nat → Nat → Int32) (sl : Value) (tf : Nat → Option Nat) {h : Nat} (hh : sc 9 2 = nI (h + 2)) (h1 : h + 2 ≤ 120) (hr : (ar 11 (h + 1)) = 0) : CP (d + 4) 16 (fun al => [.ref (al 9), .int (nI 47)]) noD (sc) (ar) sl tf (fun res sc2 ar2 => res = none ∧ sc2 = up2 (up2 (up2 sc 9 2 (nI h)) 9 5 1) 9 6 0 ∧ ar2 = ar) := by
  refine CP.of pm_X2_workOut rfl (fun _ => rfl) (fun _ => Nat.le_of_ble_eq_true rfl) ?_
  intro fx al n g0 Q hn36 _ hQ
  show pc fx (px_body pm_X2_workOut) (d + 3) Q al n g0 (sc) (ar) sl tf 0 [.ref (al 9), .int (nI 47), .float 0, .float 0] []
  refine pc_aload_n dX2_workOut_0 rfl rfl ?_
  refine pc_call (c := 9) (As := fun al => []) dX2_workOut_1 cl_X2_65 (by decide) rfl (cp_pop (d + 2) _ _ _ _ (h := h + 1) hh (by omega)) (fun _ _ => trivial) rfl rfl (Nat.le_of_ble_eq_true rfl) ⟨rfl, rfl⟩ (fun res sc2 ar2 hn => ?_)
  obtain ⟨rfl, rfl, h9⟩ := hn
  subst ar2
  refine pc_istore_n dX2_workOut_4 (Nat.le_of_ble_eq_true rfl) ?_
  refine pc_aload_n dX2_workOut_5 rfl rfl ?_
  refine pc_call (c := 9) (As := fun al => []) dX2_workOut_6 cl_X2_65 (by decide) rfl (cp_pop (d + 2) _ _ _ _ (h := h) rfl (by omega)) (fun _ _ => trivial) rfl rfl (Nat.le_of_ble_eq_true rfl) ⟨rfl, rfl⟩ (fun res sc2 ar2 hn => ?_)
  obtain ⟨rfl, rfl, h9⟩ := hn
  subst ar2
  rw [up2_up2]
  refine pc_istore_n dX2_workOut_9 (Nat.le_of_ble_eq_true rfl) ?_
  refine pc_iload_n dX2_workOut_10 rfl ?_
  refine pc_lookup (off := 80) (tgt := 91) dX2_workOut_11 (by decide) (by decide) (by decide) ?_
  rw [hr]
  refine pc_aload_n dX2_workOut_91 rfl rfl ?_
  refine pc_iload_n dX2_workOut_92 rfl ?_
  refine pc_iload_n dX2_workOut_93 rfl ?_
  refine pc_iload_n dX2_workOut_94 rfl ?_
  refine pc_bipush dX2_workOut_95 (show (Int8.ofInt (47)).toInt32 = (47) by decide) ?_
  refine pc_icmp_ne (tgt := 104) dX2_workOut_97 (by decide) (fun c97 => absurd c97 (fun z => z rfl)) (fun c97 => ?_)
  refine pc_iconst dX2_workOut_100 (show Int32.ofInt (1) = (1) by decide) ?_
  refine pc_goto (tgt := 105) dX2_workOut_101 (by decide) ?_
  refine pc_call (c := 9) (As := fun al => [.int (ar 11 h), .int 0, .int 1]) dX2_workOut_105 cl_X2_79 (by decide) rfl (CP.le (d2 := d + 3) (cp_divide0 d _ _ _ _ (ar 11 h) 1) (by omega)) (fun _ _ => trivial) rfl rfl (Nat.le_of_ble_eq_true rfl) ⟨rfl, rfl⟩ (fun res sc2 ar2 hn => ?_)
  obtain ⟨rfl, rfl, rfl⟩ := hn
  exact pc_vret hQ dX2_workOut_108 rfl ⟨rfl, rfl, rfl⟩
set_option maxHeartbeats 4000000 in
set_option maxRecDepth 20000 in
theorem cp_woRem (d : Nat) (sc ar : Nat → Nat → Int32) (sl : Value) (tf : Nat → Option Nat) {h : Nat} (hh : sc 9 2 = nI (h + 2)) (h1 : h + 2 ≤ 120) (hr : ¬ (ar 11 (h + 1)) = 0) : CP (d + 4) 16 (fun al => [.ref (al 9), .int (nI 37)]) noD (sc) (ar) sl tf (fun res sc2 ar2 => res = none ∧ sc2 = up2 sc 9 2 (nI (h + 1)) ∧ ar2 = va_up ar 11 (upd (ar 11) h ((ar 11 h) - (ar 11 h) / (ar 11 (h + 1)) * (ar 11 (h + 1))))) := by
  refine CP.of pm_X2_workOut rfl (fun _ => rfl) (fun _ => Nat.le_of_ble_eq_true rfl) ?_
  intro fx al n g0 Q hn36 _ hQ
  show pc fx (px_body pm_X2_workOut) (d + 3) Q al n g0 (sc) (ar) sl tf 0 [.ref (al 9), .int (nI 37), .float 0, .float 0] []
  refine pc_aload_n dX2_workOut_0 rfl rfl ?_
  refine pc_call (c := 9) (As := fun al => []) dX2_workOut_1 cl_X2_65 (by decide) rfl (cp_pop (d + 2) _ _ _ _ (h := h + 1) hh (by omega)) (fun _ _ => trivial) rfl rfl (Nat.le_of_ble_eq_true rfl) ⟨rfl, rfl⟩ (fun res sc2 ar2 hn => ?_)
  obtain ⟨rfl, rfl, h9⟩ := hn
  subst ar2
  refine pc_istore_n dX2_workOut_4 (Nat.le_of_ble_eq_true rfl) ?_
  refine pc_aload_n dX2_workOut_5 rfl rfl ?_
  refine pc_call (c := 9) (As := fun al => []) dX2_workOut_6 cl_X2_65 (by decide) rfl (cp_pop (d + 2) _ _ _ _ (h := h) rfl (by omega)) (fun _ _ => trivial) rfl rfl (Nat.le_of_ble_eq_true rfl) ⟨rfl, rfl⟩ (fun res sc2 ar2 hn => ?_)
  obtain ⟨rfl, rfl, h9⟩ := hn
  subst ar2
  rw [up2_up2]
  refine pc_istore_n dX2_workOut_9 (Nat.le_of_ble_eq_true rfl) ?_
  refine pc_iload_n dX2_workOut_10 rfl ?_
  refine pc_lookup (off := 80) (tgt := 91) dX2_workOut_11 (by decide) (by decide) (by decide) ?_
  refine pc_aload_n dX2_workOut_91 rfl rfl ?_
  refine pc_iload_n dX2_workOut_92 rfl ?_
  refine pc_iload_n dX2_workOut_93 rfl ?_
  refine pc_iload_n dX2_workOut_94 rfl ?_
  refine pc_bipush dX2_workOut_95 (show (Int8.ofInt (47)).toInt32 = (47) by decide) ?_
  refine pc_icmp_ne (tgt := 104) dX2_workOut_97 (by decide) (fun c97 => ?_) (fun c97 => absurd c97 (by decide))
  refine pc_iconst dX2_workOut_104 (show Int32.ofInt (0) = (0) by decide) ?_
  refine pc_call (c := 9) (As := fun al => [.int (ar 11 h), .int (ar 11 (h + 1)), .int 0]) dX2_workOut_105 cl_X2_79 (by decide) rfl (CP.le (d2 := d + 3) (cp_divideR d _ _ _ _ (ar 11 h) (ar 11 (h + 1)) hr rfl (by omega)) (by omega)) (fun _ _ => trivial) rfl rfl (Nat.le_of_ble_eq_true rfl) ⟨rfl, rfl⟩ (fun res sc2 ar2 hn => ?_)
  obtain ⟨rfl, rfl, rfl⟩ := hn
  rw [up2_up2]
  exact pc_vret hQ dX2_workOut_108 rfl ⟨rfl, rfl, rfl⟩
set_option maxHeartbeats 4000000 in
set_option maxRecDepth 20000 in
theorem cp_woRem0 (d : Nat) (sc ar : Nat → Nat → Int32) (sl : Value) (tf : Nat → Option Nat) {h : Nat} (hh : sc 9 2 = nI (h + 2)) (h1 : h + 2 ≤ 120) (hr : (ar 11 (h + 1)) = 0) : CP (d + 4) 16 (fun al => [.ref (al 9), .int (nI 37)]) noD (sc) (ar) sl tf (fun res sc2 ar2 => res = none ∧ sc2 = up2 (up2 (up2 sc 9 2 (nI h)) 9 5 1) 9 6 0 ∧ ar2 = ar) := by
  refine CP.of pm_X2_workOut rfl (fun _ => rfl) (fun _ => Nat.le_of_ble_eq_true rfl) ?_
  intro fx al n g0 Q hn36 _ hQ
  show pc fx (px_body pm_X2_workOut) (d + 3) Q al n g0 (sc) (ar) sl tf 0 [.ref (al 9), .int (nI 37), .float 0, .float 0] []
  refine pc_aload_n dX2_workOut_0 rfl rfl ?_
  refine pc_call (c := 9) (As := fun al => []) dX2_workOut_1 cl_X2_65 (by decide) rfl (cp_pop (d + 2) _ _ _ _ (h := h + 1) hh (by omega)) (fun _ _ => trivial) rfl rfl (Nat.le_of_ble_eq_true rfl) ⟨rfl, rfl⟩ (fun res sc2 ar2 hn => ?_)
  obtain ⟨rfl, rfl, h9⟩ := hn
  subst ar2
  refine pc_istore_n dX2_workOut_4 (Nat.le_of_ble_eq_true rfl) ?_
  refine pc_aload_n dX2_workOut_5 rfl rfl ?_
  refine pc_call (c := 9) (As := fun al => []) dX2_workOut_6 cl_X2_65 (by decide) rfl (cp_pop (d + 2) _ _ _ _ (h := h) rfl (by omega)) (fun _ _ => trivial) rfl rfl (Nat.le_of_ble_eq_true rfl) ⟨rfl, rfl⟩ (fun res sc2 ar2 hn => ?_)
  obtain ⟨rfl, rfl, h9⟩ := hn
  subst ar2
  rw [up2_up2]
  refine pc_istore_n dX2_workOut_9 (Nat.le_of_ble_eq_true rfl) ?_
  refine pc_iload_n dX2_workOut_10 rfl ?_
  refine pc_lookup (off := 80) (tgt := 91) dX2_workOut_11 (by decide) (by decide) (by decide) ?_
  rw [hr]
  refine pc_aload_n dX2_workOut_91 rfl rfl ?_
  refine pc_iload_n dX2_workOut_92 rfl ?_
  refine pc_iload_n dX2_workOut_93 rfl ?_
  refine pc_iload_n dX2_workOut_94 rfl ?_
  refine pc_bipush dX2_workOut_95 (show (Int8.ofInt (47)).toInt32 = (47) by decide) ?_
  refine pc_icmp_ne (tgt := 104) dX2_workOut_97 (by decide) (fun c97 => ?_) (fun c97 => absurd c97 (by decide))
  refine pc_iconst dX2_workOut_104 (show Int32.ofInt (0) = (0) by decide) ?_
  refine pc_call (c := 9) (As := fun al => [.int (ar 11 h), .int 0, .int 0]) dX2_workOut_105 cl_X2_79 (by decide) rfl (CP.le (d2 := d + 3) (cp_divide0 d _ _ _ _ (ar 11 h) 0) (by omega)) (fun _ _ => trivial) rfl rfl (Nat.le_of_ble_eq_true rfl) ⟨rfl, rfl⟩ (fun res sc2 ar2 hn => ?_)
  obtain ⟨rfl, rfl, rfl⟩ := hn
  exact pc_vret hQ dX2_workOut_108 rfl ⟨rfl, rfl, rfl⟩
set_option maxHeartbeats 4000000 in
set_option maxRecDepth 20000 in
theorem cp_tDone (d : Nat) {sc0 ar0 sc ar : Nat → Nat → Int32} {sl : Value} {tf : Nat → Option Nat} {V : Nat → Int32} {h : Nat} {St : Nat → Int32} {t : Nat} {s : Int32} (bh : Int32) (od : Int32) (hM : MT sc0 ar0 V h St t s sc ar) : CP (d + 5) 11 (fun al => [.ref (al 9), .int 0, .int (od), .int bh]) noD (sc) (ar) sl tf (fun res sc2 ar2 => (∃ v, res = some (.int v)) ∧ MO sc0 ar0 V 0 t s sc2 ar2) := by
  refine CP.of pm_X2_turn rfl (fun _ => rfl) (fun _ => Nat.le_of_ble_eq_true rfl) ?_
  intro fx al n g0 Q hn36 _ hQ
  show pc fx (px_body pm_X2_turn) (d + 4) Q al n g0 (sc) (ar) sl tf 0 [.ref (al 9), .int 0, .int (od), .int bh] []
  obtain ⟨hF, hV, h2, h120, h3, h1000, h4, h5, h6, hs⟩ := id hM
  refine pc_iload_n dX2_turn_0 rfl ?_
  refine pc_tableIn (off := 43) (tgt := 44) dX2_turn_1 (by decide) (by decide) (by decide) (by decide) ?_
  refine pc_aload_n dX2_turn_44 rfl rfl ?_
  refine pc_iconst dX2_turn_45 (show Int32.ofInt (0) = (0) by decide) ?_
  refine pc_call (c := 9) (As := fun al => [.int (0)]) dX2_turn_46 cl_X2_54 (by decide) rfl (cp_stop (d + 3) _ _ _ _ 0) (fun _ _ => trivial) rfl rfl (Nat.le_of_ble_eq_true rfl) ⟨rfl, rfl⟩ (fun res sc2 ar2 hn => ?_)
  obtain ⟨rfl, rfl, rfl⟩ := hn
  refine pc_iload_n dX2_turn_49 rfl ?_
  exact pc_iret hQ dX2_turn_50 rfl rfl ⟨⟨_, rfl⟩, (hF.up (by decide) (by decide)).up (by decide) (by decide), hV, h3, h4, rfl, rfl⟩
theorem MT.psh {sc0 ar0 sc ar : Nat → Nat → Int32} {V : Nat → Int32} {h : Nat} {St : Nat → Int32} {t : Nat} {s : Int32} (hM : MT sc0 ar0 V h St t s sc ar) (h1 : h < 120) (v : Int32) : MT sc0 ar0 V (h + 1) (upd St h v) t s (up2 sc 9 2 (nI (h + 1))) (va_up ar 11 (upd (ar 11) h v)) := by
  obtain ⟨hF, hV, h2, h120, h3, h1000, h4, h5, h6, hs⟩ := hM
  refine ⟨(hF.up (by decide) (by decide)).ar (Or.inr rfl), hV, rfl, by omega, h3, h1000, h4, h5, h6, fun x hx => ?_⟩
  rw [va_up_self]
  by_cases e : x = h
  · subst e; rw [pk_us, pk_us]
  · rw [pk_un e, pk_un e]; exact hs x (by omega)
set_option maxHeartbeats 4000000 in
set_option maxRecDepth 20000 in
theorem cp_tPush (d : Nat) {sc0 ar0 sc ar : Nat → Nat → Int32} {sl : Value} {tf : Nat → Option Nat} {V : Nat → Int32} {h : Nat} {St : Nat → Int32} {t : Nat} {s : Int32} (bh : Int32) (v : Int32) (hM : MT sc0 ar0 V h St t s sc ar) (h1 : h < 120) : CP (d + 5) 11 (fun al => [.ref (al 9), .int 1, .int (v), .int bh]) noD (sc) (ar) sl tf (fun res sc2 ar2 => res = some (.int (bh)) ∧ MT sc0 ar0 V (h + 1) (upd St h v) t s sc2 ar2) := by
  refine CP.of pm_X2_turn rfl (fun _ => rfl) (fun _ => Nat.le_of_ble_eq_true rfl) ?_
  intro fx al n g0 Q hn36 _ hQ
  show pc fx (px_body pm_X2_turn) (d + 4) Q al n g0 (sc) (ar) sl tf 0 [.ref (al 9), .int 1, .int (v), .int bh] []
  obtain ⟨hF, hV, h2, h120, h3, h1000, h4, h5, h6, hs⟩ := id hM
  refine pc_iload_n dX2_turn_0 rfl ?_
  refine pc_tableIn (off := 50) (tgt := 51) dX2_turn_1 (by decide) (by decide) (by decide) (by decide) ?_
  refine pc_aload_n dX2_turn_51 rfl rfl ?_
  refine pc_iload_n dX2_turn_52 rfl ?_
  refine pc_call (c := 9) (As := fun al => [.int (v)]) dX2_turn_53 cl_X2_58 (by decide) rfl (cp_push (d + 3) _ _ _ _ v h2 h1) (fun _ _ => trivial) rfl rfl (Nat.le_of_ble_eq_true rfl) ⟨rfl, rfl⟩ (fun res sc2 ar2 hn => ?_)
  obtain ⟨rfl, rfl, rfl⟩ := hn
  refine pc_iload_n dX2_turn_56 rfl ?_
  exact pc_iret hQ dX2_turn_57 rfl rfl ⟨rfl, hM.psh h1 v⟩
set_option maxHeartbeats 4000000 in
set_option maxRecDepth 20000 in
theorem cp_tLoad (d : Nat) {sc0 ar0 sc ar : Nat → Nat → Int32} {sl : Value} {tf : Nat → Option Nat} {V : Nat → Int32} {h : Nat} {St : Nat → Int32} {t : Nat} {s : Int32} (bh : Int32) {tk : Int32} (hv : isVar tk = true) (hM : MT sc0 ar0 V h St t s sc ar) (h1 : h < 120) : CP (d + 5) 11 (fun al => [.ref (al 9), .int 2, .int (varOf tk), .int bh]) noD (sc) (ar) sl tf (fun res sc2 ar2 => res = some (.int (bh)) ∧ MT sc0 ar0 V (h + 1) (upd St h (V (vN tk))) t s sc2 ar2) := by
  refine CP.of pm_X2_turn rfl (fun _ => rfl) (fun _ => Nat.le_of_ble_eq_true rfl) ?_
  intro fx al n g0 Q hn36 _ hQ
  show pc fx (px_body pm_X2_turn) (d + 4) Q al n g0 (sc) (ar) sl tf 0 [.ref (al 9), .int 2, .int (varOf tk), .int bh] []
  obtain ⟨hF, hV, h2, h120, h3, h1000, h4, h5, h6, hs⟩ := id hM
  refine pc_iload_n dX2_turn_0 rfl ?_
  refine pc_tableIn (off := 57) (tgt := 58) dX2_turn_1 (by decide) (by decide) (by decide) (by decide) ?_
  obtain ⟨k, hk, e1, e2, _⟩ := hV.get hv
  rw [e1]
  refine pc_aload_n dX2_turn_58 rfl rfl ?_
  refine pc_aload_n dX2_turn_59 rfl rfl ?_
  refine pc_iload_n dX2_turn_60 rfl ?_
  refine pc_call (c := 9) (As := fun al => [.int (nI k)]) dX2_turn_61 cl_X2_61 (by decide) rfl (cp_valueOf (d + 3) _ _ _ _ hk) (fun _ _ => trivial) rfl rfl (Nat.le_of_ble_eq_true rfl) ⟨rfl, rfl⟩ (fun res sc2 ar2 hn => ?_)
  obtain ⟨rfl, rfl, rfl⟩ := hn
  rw [e2]
  refine pc_call (c := 9) (As := fun al => [.int (V (vN tk))]) dX2_turn_64 cl_X2_58 (by decide) rfl (cp_push (d + 3) _ _ _ _ (V (vN tk)) h2 h1) (fun _ _ => trivial) rfl rfl (Nat.le_of_ble_eq_true rfl) ⟨rfl, rfl⟩ (fun res sc2 ar2 hn => ?_)
  obtain ⟨rfl, rfl, rfl⟩ := hn
  refine pc_iload_n dX2_turn_67 rfl ?_
  exact pc_iret hQ dX2_turn_68 rfl rfl ⟨rfl, hM.psh h1 (V (vN tk))⟩
set_option maxHeartbeats 4000000 in
set_option maxRecDepth 20000 in
theorem cp_tStore (d : Nat) {sc0 ar0 sc ar : Nat → Nat → Int32} {sl : Value} {tf : Nat → Option Nat} {V : Nat → Int32} {h : Nat} {St : Nat → Int32} {t : Nat} {s : Int32} (bh : Int32) {tk : Int32} (hv : isVar tk = true) (hM : MT sc0 ar0 V (h + 1) St t s sc ar) : CP (d + 5) 11 (fun al => [.ref (al 9), .int 3, .int (varOf tk), .int bh]) noD (sc) (ar) sl tf (fun res sc2 ar2 => res = some (.int (bh)) ∧ MT sc0 ar0 (upd V (vN tk) (St h)) h St t s sc2 ar2) := by
  refine CP.of pm_X2_turn rfl (fun _ => rfl) (fun _ => Nat.le_of_ble_eq_true rfl) ?_
  intro fx al n g0 Q hn36 _ hQ
  show pc fx (px_body pm_X2_turn) (d + 4) Q al n g0 (sc) (ar) sl tf 0 [.ref (al 9), .int 3, .int (varOf tk), .int bh] []
  obtain ⟨hF, hV, h2, h120, h3, h1000, h4, h5, h6, hs⟩ := id hM
  refine pc_iload_n dX2_turn_0 rfl ?_
  refine pc_tableIn (off := 68) (tgt := 69) dX2_turn_1 (by decide) (by decide) (by decide) (by decide) ?_
  obtain ⟨k, hk, e1, e2, e3⟩ := hV.get hv
  rw [e1]
  refine pc_aload_n dX2_turn_69 rfl rfl ?_
  refine pc_iload_n dX2_turn_70 rfl ?_
  refine pc_aload_n dX2_turn_71 rfl rfl ?_
  refine pc_call (c := 9) (As := fun al => []) dX2_turn_72 cl_X2_65 (by decide) rfl (cp_pop (d + 3) _ _ _ _ (h := h) h2 (by omega)) (fun _ _ => trivial) rfl rfl (Nat.le_of_ble_eq_true rfl) ⟨rfl, rfl⟩ (fun res sc2 ar2 hn => ?_)
  obtain ⟨rfl, rfl, h9⟩ := hn
  subst ar2
  rw [hs h (by omega)]
  refine pc_call (c := 9) (As := fun al => [.int (nI k), .int (St h)]) dX2_turn_75 cl_X2_69 (by decide) rfl (cp_store (d + 3) _ _ _ _ (k := k) (St h) hk) (fun _ _ => trivial) rfl rfl (Nat.le_of_ble_eq_true rfl) ⟨rfl, rfl⟩ (fun res sc2 ar2 hn => ?_)
  obtain ⟨rfl, rfl, rfl⟩ := hn
  refine pc_iload_n dX2_turn_78 rfl ?_
  exact pc_iret hQ dX2_turn_79 rfl rfl ⟨rfl, (hF.up (by decide) (by decide)).ar (Or.inl rfl), e3 (St h), rfl, by omega, h3, h1000, h4, h5, h6, fun x hx => hs x (by omega)⟩
set_option maxHeartbeats 4000000 in
set_option maxRecDepth 20000 in
theorem cp_tStep (d : Nat) {sc0 ar0 sc ar : Nat → Nat → Int32} {sl : Value} {tf : Nat → Option Nat} {V : Nat → Int32} {h : Nat} {St : Nat → Int32} {t : Nat} {s : Int32} (bh : Int32) (sk : Int32) (hM : MT sc0 ar0 V h St t s sc ar) (h1 : t < 1000) : CP (d + 5) 11 (fun al => [.ref (al 9), .int 4, .int (sk), .int bh]) noD (sc) (ar) sl tf (fun res sc2 ar2 => res = some (.int (bh)) ∧ MT sc0 ar0 V h St (t + 1) (s ||| sk) sc2 ar2) := by
  refine CP.of pm_X2_turn rfl (fun _ => rfl) (fun _ => Nat.le_of_ble_eq_true rfl) ?_
  intro fx al n g0 Q hn36 _ hQ
  show pc fx (px_body pm_X2_turn) (d + 4) Q al n g0 (sc) (ar) sl tf 0 [.ref (al 9), .int 4, .int (sk), .int bh] []
  obtain ⟨hF, hV, h2, h120, h3, h1000, h4, h5, h6, hs⟩ := id hM
  refine pc_iload_n dX2_turn_0 rfl ?_
  refine pc_tableIn (off := 79) (tgt := 80) dX2_turn_1 (by decide) (by decide) (by decide) (by decide) ?_
  refine pc_aload_n dX2_turn_80 rfl rfl ?_
  refine pc_iload_n dX2_turn_81 rfl ?_
  refine pc_call (c := 9) (As := fun al => [.int (sk)]) dX2_turn_82 cl_X2_73 (by decide) rfl (cp_begin1 (d + 2) _ _ _ _ sk h3 h1) (fun _ _ => trivial) rfl rfl (Nat.le_of_ble_eq_true rfl) ⟨rfl, rfl⟩ (fun res sc2 ar2 hn => ?_)
  obtain ⟨rfl, rfl, rfl⟩ := hn
  refine pc_iload_n dX2_turn_85 rfl ?_
  exact pc_iret hQ dX2_turn_86 rfl rfl ⟨rfl, (hF.up (by decide) (by decide)).up (by decide) (by decide), hV, h2, h120, rfl, by omega, by rw [← h4]; rfl, h5, h6, hs⟩
set_option maxHeartbeats 4000000 in
set_option maxRecDepth 20000 in
theorem cp_tStep0 (d : Nat) {sc0 ar0 sc ar : Nat → Nat → Int32} {sl : Value} {tf : Nat → Option Nat} {V : Nat → Int32} {h : Nat} {St : Nat → Int32} {t : Nat} {s : Int32} (bh : Int32) (sk : Int32) (hM : MT sc0 ar0 V h St 1000 s sc ar) : CP (d + 5) 11 (fun al => [.ref (al 9), .int 4, .int (sk), .int bh]) noD (sc) (ar) sl tf (fun res sc2 ar2 => (∃ v, res = some (.int v)) ∧ MO sc0 ar0 V 2 1000 s sc2 ar2) := by
  refine CP.of pm_X2_turn rfl (fun _ => rfl) (fun _ => Nat.le_of_ble_eq_true rfl) ?_
  intro fx al n g0 Q hn36 _ hQ
  show pc fx (px_body pm_X2_turn) (d + 4) Q al n g0 (sc) (ar) sl tf 0 [.ref (al 9), .int 4, .int (sk), .int bh] []
  obtain ⟨hF, hV, h2, h120, h3, h1000, h4, h5, h6, hs⟩ := id hM
  refine pc_iload_n dX2_turn_0 rfl ?_
  refine pc_tableIn (off := 79) (tgt := 80) dX2_turn_1 (by decide) (by decide) (by decide) (by decide) ?_
  refine pc_aload_n dX2_turn_80 rfl rfl ?_
  refine pc_iload_n dX2_turn_81 rfl ?_
  refine pc_call (c := 9) (As := fun al => [.int (sk)]) dX2_turn_82 cl_X2_73 (by decide) rfl (cp_begin2 (d + 2) _ _ _ _ sk h3) (fun _ _ => trivial) rfl rfl (Nat.le_of_ble_eq_true rfl) ⟨rfl, rfl⟩ (fun res sc2 ar2 hn => ?_)
  obtain ⟨rfl, rfl, rfl⟩ := hn
  refine pc_iload_n dX2_turn_85 rfl ?_
  exact pc_iret hQ dX2_turn_86 rfl rfl ⟨⟨_, rfl⟩, (hF.up (by decide) (by decide)).up (by decide) (by decide), hV, h3, h4, rfl, rfl⟩
set_option maxHeartbeats 4000000 in
set_option maxRecDepth 20000 in
theorem cp_tSkip (d : Nat) {sc0 ar0 sc ar : Nat → Nat → Int32} {sl : Value} {tf : Nat → Option Nat} {V : Nat → Int32} {h : Nat} {St : Nat → Int32} {t : Nat} {s : Int32} (bh : Int32) (tg : Int32) (hM : MT sc0 ar0 V (h + 1) St t s sc ar) : CP (d + 5) 11 (fun al => [.ref (al 9), .int 5, .int (tg), .int bh]) noD (sc) (ar) sl tf (fun res sc2 ar2 => res = some (.int (if St h = 0 then tg else bh)) ∧ MT sc0 ar0 V h St t s sc2 ar2) := by
  refine CP.of pm_X2_turn rfl (fun _ => rfl) (fun _ => Nat.le_of_ble_eq_true rfl) ?_
  intro fx al n g0 Q hn36 _ hQ
  show pc fx (px_body pm_X2_turn) (d + 4) Q al n g0 (sc) (ar) sl tf 0 [.ref (al 9), .int 5, .int (tg), .int bh] []
  obtain ⟨hF, hV, h2, h120, h3, h1000, h4, h5, h6, hs⟩ := id hM
  refine pc_iload_n dX2_turn_0 rfl ?_
  refine pc_tableIn (off := 86) (tgt := 87) dX2_turn_1 (by decide) (by decide) (by decide) (by decide) ?_
  refine pc_aload_n dX2_turn_87 rfl rfl ?_
  refine pc_call (c := 9) (As := fun al => []) dX2_turn_88 cl_X2_65 (by decide) rfl (cp_pop (d + 3) _ _ _ _ (h := h) h2 (by omega)) (fun _ _ => trivial) rfl rfl (Nat.le_of_ble_eq_true rfl) ⟨rfl, rfl⟩ (fun res sc2 ar2 hn => ?_)
  obtain ⟨rfl, rfl, h9⟩ := hn
  subst ar2
  rw [hs h (by omega)]
  refine pc_if_ne (tgt := 98) dX2_turn_91 (by decide) (fun c91 => ?_) (fun c91 => ?_)
  ·
    refine pc_iload_n dX2_turn_98 rfl ?_
    exact pc_iret hQ dX2_turn_99 rfl rfl ⟨by rw [if_neg c91], (hF.up (by decide) (by decide)), hV, rfl, by omega, h3, h1000, h4, h5, h6, fun x hx => hs x (by omega)⟩
  ·
    refine pc_iload_n dX2_turn_94 rfl ?_
    refine pc_goto (tgt := 99) dX2_turn_95 (by decide) ?_
    exact pc_iret hQ dX2_turn_99 rfl rfl ⟨by rw [if_pos c91], (hF.up (by decide) (by decide)), hV, rfl, by omega, h3, h1000, h4, h5, h6, fun x hx => hs x (by omega)⟩
set_option maxHeartbeats 4000000 in
set_option maxRecDepth 20000 in
theorem cp_tJump (d : Nat) {sc0 ar0 sc ar : Nat → Nat → Int32} {sl : Value} {tf : Nat → Option Nat} {V : Nat → Int32} {h : Nat} {St : Nat → Int32} {t : Nat} {s : Int32} (bh : Int32) (tg : Int32) (hM : MT sc0 ar0 V h St t s sc ar) : CP (d + 5) 11 (fun al => [.ref (al 9), .int 6, .int (tg), .int bh]) noD (sc) (ar) sl tf (fun res sc2 ar2 => res = some (.int (tg)) ∧ MT sc0 ar0 V h St t s sc2 ar2) := by
  refine CP.of pm_X2_turn rfl (fun _ => rfl) (fun _ => Nat.le_of_ble_eq_true rfl) ?_
  intro fx al n g0 Q hn36 _ hQ
  show pc fx (px_body pm_X2_turn) (d + 4) Q al n g0 (sc) (ar) sl tf 0 [.ref (al 9), .int 6, .int (tg), .int bh] []
  obtain ⟨hF, hV, h2, h120, h3, h1000, h4, h5, h6, hs⟩ := id hM
  refine pc_iload_n dX2_turn_0 rfl ?_
  refine pc_tableIn (off := 99) (tgt := 100) dX2_turn_1 (by decide) (by decide) (by decide) (by decide) ?_
  refine pc_iload_n dX2_turn_100 rfl ?_
  exact pc_iret hQ dX2_turn_101 rfl rfl ⟨rfl, hM⟩
theorem MT.op2 {sc0 ar0 sc ar : Nat → Nat → Int32} {V : Nat → Int32} {h : Nat} {St : Nat → Int32} {t : Nat} {s : Int32} (hM : MT sc0 ar0 V (h + 2) St t s sc ar) (sk v : Int32) : MT sc0 ar0 V (h + 1) (upd St h v) t (s ||| sk) (up2 (up2 sc 9 4 (s ||| sk)) 9 2 (nI (h + 1))) (va_up ar 11 (upd (ar 11) h v)) := by
  obtain ⟨hF, hV, h2, h120, h3, h1000, h4, h5, h6, hs⟩ := hM
  refine ⟨((hF.up (by decide) (by decide)).up (by decide) (by decide)).ar (Or.inr rfl), hV, rfl, by omega, h3, h1000, rfl, h5, h6, fun x hx => ?_⟩
  rw [va_up_self]
  by_cases e : x = h
  · subst e; rw [pk_us, pk_us]
  · rw [pk_un e, pk_un e]; exact hs x (by omega)
set_option maxHeartbeats 4000000 in
set_option maxRecDepth 20000 in
theorem cp_tAdd (d : Nat) {sc0 ar0 sc ar : Nat → Nat → Int32} {sl : Value} {tf : Nat → Option Nat} {V : Nat → Int32} {h : Nat} {St : Nat → Int32} {t : Nat} {s : Int32} (bh : Int32) (sk : Int32) (hM : MT sc0 ar0 V (h + 2) St t s sc ar)  : CP (d + 5) 11 (fun al => [.ref (al 9), .int (nI 43), .int (sk), .int bh]) noD (sc) (ar) sl tf (fun res sc2 ar2 => res = some (.int (bh)) ∧ MT sc0 ar0 V (h + 1) (upd St h ((St h) + (St (h + 1)))) t (s ||| sk) sc2 ar2) := by
  refine CP.of pm_X2_turn rfl (fun _ => rfl) (fun _ => Nat.le_of_ble_eq_true rfl) ?_
  intro fx al n g0 Q hn36 _ hQ
  show pc fx (px_body pm_X2_turn) (d + 4) Q al n g0 (sc) (ar) sl tf 0 [.ref (al 9), .int (nI 43), .int (sk), .int bh] []
  obtain ⟨hF, hV, h2, h120, h3, h1000, h4, h5, h6, hs⟩ := id hM
  refine pc_iload_n dX2_turn_0 rfl ?_
  refine pc_tableOut (tgt := 102) dX2_turn_1 (by decide) (by decide) ?_
  refine pc_aload_n dX2_turn_102 rfl rfl ?_
  refine pc_dup dX2_turn_103 rfl ?_
  refine pc_getS (c := 9) (v := s) dX2_turn_104 fk_X2_31 (by decide) rfl rfl h4 ?_
  refine pc_iload_n dX2_turn_107 rfl ?_
  refine pc_ior dX2_turn_108 ?_
  refine pc_put (c := 9) dX2_turn_109 fk_X2_31 (by decide) rfl rfl ⟨_, _, _, rfl, rfl⟩ rfl rfl ?_
  refine pc_aload_n dX2_turn_112 rfl rfl ?_
  refine pc_iload_n dX2_turn_113 rfl ?_
  refine pc_call (c := 9) (As := fun al => [.int (nI 43)]) dX2_turn_114 cl_X2_76 (by decide) rfl (cp_woAdd d (up2 sc 9 4 (s ||| sk)) ar sl tf (h := h) h2 h120) (fun _ _ => trivial) rfl rfl (Nat.le_of_ble_eq_true rfl) ⟨rfl, rfl⟩ (fun res sc2 ar2 hn => ?_)
  obtain ⟨rfl, rfl, rfl⟩ := hn
  rw [hs h (by omega), hs (h + 1) (by omega)]
  refine pc_iload_n dX2_turn_117 rfl ?_
  exact pc_iret hQ dX2_turn_118 rfl rfl ⟨rfl, hM.op2 sk _⟩
set_option maxHeartbeats 4000000 in
set_option maxRecDepth 20000 in
theorem cp_tSub (d : Nat) {sc0 ar0 sc ar : Nat → Nat → Int32} {sl : Value} {tf : Nat → Option Nat} {V : Nat → Int32} {h : Nat} {St : Nat → Int32} {t : Nat} {s : Int32} (bh : Int32) (sk : Int32) (hM : MT sc0 ar0 V (h + 2) St t s sc ar)  : CP (d + 5) 11 (fun al => [.ref (al 9), .int (nI 45), .int (sk), .int bh]) noD (sc) (ar) sl tf (fun res sc2 ar2 => res = some (.int (bh)) ∧ MT sc0 ar0 V (h + 1) (upd St h ((St h) - (St (h + 1)))) t (s ||| sk) sc2 ar2) := by
  refine CP.of pm_X2_turn rfl (fun _ => rfl) (fun _ => Nat.le_of_ble_eq_true rfl) ?_
  intro fx al n g0 Q hn36 _ hQ
  show pc fx (px_body pm_X2_turn) (d + 4) Q al n g0 (sc) (ar) sl tf 0 [.ref (al 9), .int (nI 45), .int (sk), .int bh] []
  obtain ⟨hF, hV, h2, h120, h3, h1000, h4, h5, h6, hs⟩ := id hM
  refine pc_iload_n dX2_turn_0 rfl ?_
  refine pc_tableOut (tgt := 102) dX2_turn_1 (by decide) (by decide) ?_
  refine pc_aload_n dX2_turn_102 rfl rfl ?_
  refine pc_dup dX2_turn_103 rfl ?_
  refine pc_getS (c := 9) (v := s) dX2_turn_104 fk_X2_31 (by decide) rfl rfl h4 ?_
  refine pc_iload_n dX2_turn_107 rfl ?_
  refine pc_ior dX2_turn_108 ?_
  refine pc_put (c := 9) dX2_turn_109 fk_X2_31 (by decide) rfl rfl ⟨_, _, _, rfl, rfl⟩ rfl rfl ?_
  refine pc_aload_n dX2_turn_112 rfl rfl ?_
  refine pc_iload_n dX2_turn_113 rfl ?_
  refine pc_call (c := 9) (As := fun al => [.int (nI 45)]) dX2_turn_114 cl_X2_76 (by decide) rfl (cp_woSub d (up2 sc 9 4 (s ||| sk)) ar sl tf (h := h) h2 h120) (fun _ _ => trivial) rfl rfl (Nat.le_of_ble_eq_true rfl) ⟨rfl, rfl⟩ (fun res sc2 ar2 hn => ?_)
  obtain ⟨rfl, rfl, rfl⟩ := hn
  rw [hs h (by omega), hs (h + 1) (by omega)]
  refine pc_iload_n dX2_turn_117 rfl ?_
  exact pc_iret hQ dX2_turn_118 rfl rfl ⟨rfl, hM.op2 sk _⟩
set_option maxHeartbeats 4000000 in
set_option maxRecDepth 20000 in
theorem cp_tMul (d : Nat) {sc0 ar0 sc ar : Nat → Nat → Int32} {sl : Value} {tf : Nat → Option Nat} {V : Nat → Int32} {h : Nat} {St : Nat → Int32} {t : Nat} {s : Int32} (bh : Int32) (sk : Int32) (hM : MT sc0 ar0 V (h + 2) St t s sc ar)  : CP (d + 5) 11 (fun al => [.ref (al 9), .int (nI 42), .int (sk), .int bh]) noD (sc) (ar) sl tf (fun res sc2 ar2 => res = some (.int (bh)) ∧ MT sc0 ar0 V (h + 1) (upd St h ((St h) * (St (h + 1)))) t (s ||| sk) sc2 ar2) := by
  refine CP.of pm_X2_turn rfl (fun _ => rfl) (fun _ => Nat.le_of_ble_eq_true rfl) ?_
  intro fx al n g0 Q hn36 _ hQ
  show pc fx (px_body pm_X2_turn) (d + 4) Q al n g0 (sc) (ar) sl tf 0 [.ref (al 9), .int (nI 42), .int (sk), .int bh] []
  obtain ⟨hF, hV, h2, h120, h3, h1000, h4, h5, h6, hs⟩ := id hM
  refine pc_iload_n dX2_turn_0 rfl ?_
  refine pc_tableOut (tgt := 102) dX2_turn_1 (by decide) (by decide) ?_
  refine pc_aload_n dX2_turn_102 rfl rfl ?_
  refine pc_dup dX2_turn_103 rfl ?_
  refine pc_getS (c := 9) (v := s) dX2_turn_104 fk_X2_31 (by decide) rfl rfl h4 ?_
  refine pc_iload_n dX2_turn_107 rfl ?_
  refine pc_ior dX2_turn_108 ?_
  refine pc_put (c := 9) dX2_turn_109 fk_X2_31 (by decide) rfl rfl ⟨_, _, _, rfl, rfl⟩ rfl rfl ?_
  refine pc_aload_n dX2_turn_112 rfl rfl ?_
  refine pc_iload_n dX2_turn_113 rfl ?_
  refine pc_call (c := 9) (As := fun al => [.int (nI 42)]) dX2_turn_114 cl_X2_76 (by decide) rfl (cp_woMul d (up2 sc 9 4 (s ||| sk)) ar sl tf (h := h) h2 h120) (fun _ _ => trivial) rfl rfl (Nat.le_of_ble_eq_true rfl) ⟨rfl, rfl⟩ (fun res sc2 ar2 hn => ?_)
  obtain ⟨rfl, rfl, rfl⟩ := hn
  rw [hs h (by omega), hs (h + 1) (by omega)]
  refine pc_iload_n dX2_turn_117 rfl ?_
  exact pc_iret hQ dX2_turn_118 rfl rfl ⟨rfl, hM.op2 sk _⟩
set_option maxHeartbeats 4000000 in
set_option maxRecDepth 20000 in
theorem cp_tLt (d : Nat) {sc0 ar0 sc ar : Nat → Nat → Int32} {sl : Value} {tf : Nat → Option Nat} {V : Nat → Int32} {h : Nat} {St : Nat → Int32} {t : Nat} {s : Int32} (bh : Int32) (sk : Int32) (hM : MT sc0 ar0 V (h + 2) St t s sc ar)  : CP (d + 5) 11 (fun al => [.ref (al 9), .int (nI 60), .int (sk), .int bh]) noD (sc) (ar) sl tf (fun res sc2 ar2 => res = some (.int (bh)) ∧ MT sc0 ar0 V (h + 1) (upd St h (if (St h) < (St (h + 1)) then 1 else 0)) t (s ||| sk) sc2 ar2) := by
  refine CP.of pm_X2_turn rfl (fun _ => rfl) (fun _ => Nat.le_of_ble_eq_true rfl) ?_
  intro fx al n g0 Q hn36 _ hQ
  show pc fx (px_body pm_X2_turn) (d + 4) Q al n g0 (sc) (ar) sl tf 0 [.ref (al 9), .int (nI 60), .int (sk), .int bh] []
  obtain ⟨hF, hV, h2, h120, h3, h1000, h4, h5, h6, hs⟩ := id hM
  refine pc_iload_n dX2_turn_0 rfl ?_
  refine pc_tableOut (tgt := 102) dX2_turn_1 (by decide) (by decide) ?_
  refine pc_aload_n dX2_turn_102 rfl rfl ?_
  refine pc_dup dX2_turn_103 rfl ?_
  refine pc_getS (c := 9) (v := s) dX2_turn_104 fk_X2_31 (by decide) rfl rfl h4 ?_
  refine pc_iload_n dX2_turn_107 rfl ?_
  refine pc_ior dX2_turn_108 ?_
  refine pc_put (c := 9) dX2_turn_109 fk_X2_31 (by decide) rfl rfl ⟨_, _, _, rfl, rfl⟩ rfl rfl ?_
  refine pc_aload_n dX2_turn_112 rfl rfl ?_
  refine pc_iload_n dX2_turn_113 rfl ?_
  refine pc_call (c := 9) (As := fun al => [.int (nI 60)]) dX2_turn_114 cl_X2_76 (by decide) rfl (cp_woLt d (up2 sc 9 4 (s ||| sk)) ar sl tf (h := h) h2 h120) (fun _ _ => trivial) rfl rfl (Nat.le_of_ble_eq_true rfl) ⟨rfl, rfl⟩ (fun res sc2 ar2 hn => ?_)
  obtain ⟨rfl, rfl, rfl⟩ := hn
  rw [hs h (by omega), hs (h + 1) (by omega)]
  refine pc_iload_n dX2_turn_117 rfl ?_
  exact pc_iret hQ dX2_turn_118 rfl rfl ⟨rfl, hM.op2 sk _⟩
set_option maxHeartbeats 4000000 in
set_option maxRecDepth 20000 in
theorem cp_tDiv (d : Nat) {sc0 ar0 sc ar : Nat → Nat → Int32} {sl : Value} {tf : Nat → Option Nat} {V : Nat → Int32} {h : Nat} {St : Nat → Int32} {t : Nat} {s : Int32} (bh : Int32) (sk : Int32) (hM : MT sc0 ar0 V (h + 2) St t s sc ar) (hr : ¬ St (h + 1) = 0) : CP (d + 5) 11 (fun al => [.ref (al 9), .int (nI 47), .int (sk), .int bh]) noD (sc) (ar) sl tf (fun res sc2 ar2 => res = some (.int (bh)) ∧ MT sc0 ar0 V (h + 1) (upd St h ((St h) / (St (h + 1)))) t (s ||| sk) sc2 ar2) := by
  refine CP.of pm_X2_turn rfl (fun _ => rfl) (fun _ => Nat.le_of_ble_eq_true rfl) ?_
  intro fx al n g0 Q hn36 _ hQ
  show pc fx (px_body pm_X2_turn) (d + 4) Q al n g0 (sc) (ar) sl tf 0 [.ref (al 9), .int (nI 47), .int (sk), .int bh] []
  obtain ⟨hF, hV, h2, h120, h3, h1000, h4, h5, h6, hs⟩ := id hM
  refine pc_iload_n dX2_turn_0 rfl ?_
  refine pc_tableOut (tgt := 102) dX2_turn_1 (by decide) (by decide) ?_
  refine pc_aload_n dX2_turn_102 rfl rfl ?_
  refine pc_dup dX2_turn_103 rfl ?_
  refine pc_getS (c := 9) (v := s) dX2_turn_104 fk_X2_31 (by decide) rfl rfl h4 ?_
  refine pc_iload_n dX2_turn_107 rfl ?_
  refine pc_ior dX2_turn_108 ?_
  refine pc_put (c := 9) dX2_turn_109 fk_X2_31 (by decide) rfl rfl ⟨_, _, _, rfl, rfl⟩ rfl rfl ?_
  refine pc_aload_n dX2_turn_112 rfl rfl ?_
  refine pc_iload_n dX2_turn_113 rfl ?_
  refine pc_call (c := 9) (As := fun al => [.int (nI 47)]) dX2_turn_114 cl_X2_76 (by decide) rfl (cp_woDiv d (up2 sc 9 4 (s ||| sk)) ar sl tf (h := h) h2 h120 (by rw [hs (h + 1) (by omega)]; exact hr)) (fun _ _ => trivial) rfl rfl (Nat.le_of_ble_eq_true rfl) ⟨rfl, rfl⟩ (fun res sc2 ar2 hn => ?_)
  obtain ⟨rfl, rfl, rfl⟩ := hn
  rw [hs h (by omega), hs (h + 1) (by omega)]
  refine pc_iload_n dX2_turn_117 rfl ?_
  exact pc_iret hQ dX2_turn_118 rfl rfl ⟨rfl, hM.op2 sk _⟩
set_option maxHeartbeats 4000000 in
set_option maxRecDepth 20000 in
theorem cp_tRem (d : Nat) {sc0 ar0 sc ar : Nat → Nat → Int32} {sl : Value} {tf : Nat → Option Nat} {V : Nat → Int32} {h : Nat} {St : Nat → Int32} {t : Nat} {s : Int32} (bh : Int32) (sk : Int32) (hM : MT sc0 ar0 V (h + 2) St t s sc ar) (hr : ¬ St (h + 1) = 0) : CP (d + 5) 11 (fun al => [.ref (al 9), .int (nI 37), .int (sk), .int bh]) noD (sc) (ar) sl tf (fun res sc2 ar2 => res = some (.int (bh)) ∧ MT sc0 ar0 V (h + 1) (upd St h ((St h) - (St h) / (St (h + 1)) * (St (h + 1)))) t (s ||| sk) sc2 ar2) := by
  refine CP.of pm_X2_turn rfl (fun _ => rfl) (fun _ => Nat.le_of_ble_eq_true rfl) ?_
  intro fx al n g0 Q hn36 _ hQ
  show pc fx (px_body pm_X2_turn) (d + 4) Q al n g0 (sc) (ar) sl tf 0 [.ref (al 9), .int (nI 37), .int (sk), .int bh] []
  obtain ⟨hF, hV, h2, h120, h3, h1000, h4, h5, h6, hs⟩ := id hM
  refine pc_iload_n dX2_turn_0 rfl ?_
  refine pc_tableOut (tgt := 102) dX2_turn_1 (by decide) (by decide) ?_
  refine pc_aload_n dX2_turn_102 rfl rfl ?_
  refine pc_dup dX2_turn_103 rfl ?_
  refine pc_getS (c := 9) (v := s) dX2_turn_104 fk_X2_31 (by decide) rfl rfl h4 ?_
  refine pc_iload_n dX2_turn_107 rfl ?_
  refine pc_ior dX2_turn_108 ?_
  refine pc_put (c := 9) dX2_turn_109 fk_X2_31 (by decide) rfl rfl ⟨_, _, _, rfl, rfl⟩ rfl rfl ?_
  refine pc_aload_n dX2_turn_112 rfl rfl ?_
  refine pc_iload_n dX2_turn_113 rfl ?_
  refine pc_call (c := 9) (As := fun al => [.int (nI 37)]) dX2_turn_114 cl_X2_76 (by decide) rfl (cp_woRem d (up2 sc 9 4 (s ||| sk)) ar sl tf (h := h) h2 h120 (by rw [hs (h + 1) (by omega)]; exact hr)) (fun _ _ => trivial) rfl rfl (Nat.le_of_ble_eq_true rfl) ⟨rfl, rfl⟩ (fun res sc2 ar2 hn => ?_)
  obtain ⟨rfl, rfl, rfl⟩ := hn
  rw [hs h (by omega), hs (h + 1) (by omega)]
  refine pc_iload_n dX2_turn_117 rfl ?_
  exact pc_iret hQ dX2_turn_118 rfl rfl ⟨rfl, hM.op2 sk _⟩
set_option maxHeartbeats 4000000 in
set_option maxRecDepth 20000 in
theorem cp_tDiv0 (d : Nat) {sc0 ar0 sc ar : Nat → Nat → Int32} {sl : Value} {tf : Nat → Option Nat} {V : Nat → Int32} {h : Nat} {St : Nat → Int32} {t : Nat} {s : Int32} (bh : Int32) (sk : Int32) (hM : MT sc0 ar0 V (h + 2) St t s sc ar) (hr : St (h + 1) = 0) : CP (d + 5) 11 (fun al => [.ref (al 9), .int (nI 47), .int (sk), .int bh]) noD (sc) (ar) sl tf (fun res sc2 ar2 => (∃ v, res = some (.int v)) ∧ MO sc0 ar0 V 1 t (s ||| sk) sc2 ar2) := by
  refine CP.of pm_X2_turn rfl (fun _ => rfl) (fun _ => Nat.le_of_ble_eq_true rfl) ?_
  intro fx al n g0 Q hn36 _ hQ
  show pc fx (px_body pm_X2_turn) (d + 4) Q al n g0 (sc) (ar) sl tf 0 [.ref (al 9), .int (nI 47), .int (sk), .int bh] []
  obtain ⟨hF, hV, h2, h120, h3, h1000, h4, h5, h6, hs⟩ := id hM
  refine pc_iload_n dX2_turn_0 rfl ?_
  refine pc_tableOut (tgt := 102) dX2_turn_1 (by decide) (by decide) ?_
  refine pc_aload_n dX2_turn_102 rfl rfl ?_
  refine pc_dup dX2_turn_103 rfl ?_
  refine pc_getS (c := 9) (v := s) dX2_turn_104 fk_X2_31 (by decide) rfl rfl h4 ?_
  refine pc_iload_n dX2_turn_107 rfl ?_
  refine pc_ior dX2_turn_108 ?_
  refine pc_put (c := 9) dX2_turn_109 fk_X2_31 (by decide) rfl rfl ⟨_, _, _, rfl, rfl⟩ rfl rfl ?_
  refine pc_aload_n dX2_turn_112 rfl rfl ?_
  refine pc_iload_n dX2_turn_113 rfl ?_
  refine pc_call (c := 9) (As := fun al => [.int (nI 47)]) dX2_turn_114 cl_X2_76 (by decide) rfl (cp_woDiv0 d (up2 sc 9 4 (s ||| sk)) ar sl tf (h := h) h2 h120 (by rw [hs (h + 1) (by omega)]; exact hr)) (fun _ _ => trivial) rfl rfl (Nat.le_of_ble_eq_true rfl) ⟨rfl, rfl⟩ (fun res sc2 ar2 hn => ?_)
  obtain ⟨rfl, rfl, rfl⟩ := hn
  refine pc_iload_n dX2_turn_117 rfl ?_
  exact pc_iret hQ dX2_turn_118 rfl rfl ⟨⟨_, rfl⟩, ((((hF.up (by decide) (by decide)).up (by decide) (by decide)).up (by decide) (by decide)).up (by decide) (by decide)), hV, h3, rfl, rfl, rfl⟩
set_option maxHeartbeats 4000000 in
set_option maxRecDepth 20000 in
theorem cp_tRem0 (d : Nat) {sc0 ar0 sc ar : Nat → Nat → Int32} {sl : Value} {tf : Nat → Option Nat} {V : Nat → Int32} {h : Nat} {St : Nat → Int32} {t : Nat} {s : Int32} (bh : Int32) (sk : Int32) (hM : MT sc0 ar0 V (h + 2) St t s sc ar) (hr : St (h + 1) = 0) : CP (d + 5) 11 (fun al => [.ref (al 9), .int (nI 37), .int (sk), .int bh]) noD (sc) (ar) sl tf (fun res sc2 ar2 => (∃ v, res = some (.int v)) ∧ MO sc0 ar0 V 1 t (s ||| sk) sc2 ar2) := by
  refine CP.of pm_X2_turn rfl (fun _ => rfl) (fun _ => Nat.le_of_ble_eq_true rfl) ?_
  intro fx al n g0 Q hn36 _ hQ
  show pc fx (px_body pm_X2_turn) (d + 4) Q al n g0 (sc) (ar) sl tf 0 [.ref (al 9), .int (nI 37), .int (sk), .int bh] []
  obtain ⟨hF, hV, h2, h120, h3, h1000, h4, h5, h6, hs⟩ := id hM
  refine pc_iload_n dX2_turn_0 rfl ?_
  refine pc_tableOut (tgt := 102) dX2_turn_1 (by decide) (by decide) ?_
  refine pc_aload_n dX2_turn_102 rfl rfl ?_
  refine pc_dup dX2_turn_103 rfl ?_
  refine pc_getS (c := 9) (v := s) dX2_turn_104 fk_X2_31 (by decide) rfl rfl h4 ?_
  refine pc_iload_n dX2_turn_107 rfl ?_
  refine pc_ior dX2_turn_108 ?_
  refine pc_put (c := 9) dX2_turn_109 fk_X2_31 (by decide) rfl rfl ⟨_, _, _, rfl, rfl⟩ rfl rfl ?_
  refine pc_aload_n dX2_turn_112 rfl rfl ?_
  refine pc_iload_n dX2_turn_113 rfl ?_
  refine pc_call (c := 9) (As := fun al => [.int (nI 37)]) dX2_turn_114 cl_X2_76 (by decide) rfl (cp_woRem0 d (up2 sc 9 4 (s ||| sk)) ar sl tf (h := h) h2 h120 (by rw [hs (h + 1) (by omega)]; exact hr)) (fun _ _ => trivial) rfl rfl (Nat.le_of_ble_eq_true rfl) ⟨rfl, rfl⟩ (fun res sc2 ar2 hn => ?_)
  obtain ⟨rfl, rfl, rfl⟩ := hn
  refine pc_iload_n dX2_turn_117 rfl ?_
  exact pc_iret hQ dX2_turn_118 rfl rfl ⟨⟨_, rfl⟩, ((((hF.up (by decide) (by decide)).up (by decide) (by decide)).up (by decide) (by decide)).up (by decide) (by decide)), hV, h3, rfl, rfl, rfl⟩
