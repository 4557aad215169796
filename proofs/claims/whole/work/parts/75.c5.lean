/-- the class's parser: at token i, p operations made; what it began with: sc0, ar0 -/
def XT (T : Nat → Int32) (N : Nat) (sc0 ar0 : Nat → Nat → Int32) (i p : Nat) (sc ar : Nat → Nat → Int32) : Prop := (∀ c k, ¬ (c = 3 ∧ (k = 3 ∨ k = 4)) → sc c k = sc0 c k) ∧ sc 3 4 = nI i ∧ i ≤ N ∧ sc 3 3 = nI p ∧ p ≤ 121 ∧ (∀ a, a ≠ 7 → a ≠ 8 → ar a = ar0 a)
def xT (T : Nat → Int32) (N : Nat) (ar0 : Nat → Nat → Int32) : Prop := N ≤ 120 ∧ (∀ j, j ≤ N → ar0 5 j = T j) ∧ (T N = 0 ∨ T N = -2)
section XTS
variable {T : Nat → Int32} {N : Nat} {sc0 ar0 : Nat → Nat → Int32} {i p : Nat} {sc ar : Nat → Nat → Int32}
theorem up2_ne {s : Nat → Nat → Int32} {c k c2 k2 : Nat} {v : Int32} (h : ¬ (c2 = c ∧ k2 = k)) : up2 s c k v c2 k2 = s c2 k2 := by
  unfold up2
  by_cases e : c2 = c
  · subst e; rw [va_up_self, pk_un (fun z => h ⟨rfl, z⟩)]
  · rw [va_up_ne _ _ e]
theorem XT.at (h : XT T N sc0 ar0 i p sc ar) {i2 : Nat} (hi : i2 ≤ N) : XT T N sc0 ar0 i2 p (up2 sc 3 4 (nI i2)) ar := ⟨fun c k hc => (up2_ne (fun z => hc ⟨z.1, Or.inr z.2⟩)).trans (h.1 c k hc), rfl, hi, h.2.2.2.1, h.2.2.2.2.1, h.2.2.2.2.2⟩
theorem XT.lt (h : XT T N sc0 ar0 i p sc ar) (hT : xT T N ar0) (h0 : ¬ T i = 0) (h1 : ¬ T i = -2) : i < N := by
  have := h.2.2.1
  rcases Nat.lt_or_ge i N with z | z
  · exact z
  · obtain rfl : i = N := by omega
    exact hT.2.2.elim (fun z => absurd z h0) (fun z => absurd z h1)
theorem XT.tk (h : XT T N sc0 ar0 i p sc ar) (hT : xT T N ar0) : ar 5 i = T i := (congrFun (h.2.2.2.2.2 5 (by decide) (by decide)) i).trans (hT.2.1 i h.2.2.1)
end XTS
set_option maxHeartbeats 4000000 in
set_option maxRecDepth 20000 in
theorem cp_here (d : Nat) {T : Nat → Int32} {N : Nat} {sc0 ar0 : Nat → Nat → Int32} {sc ar : Nat → Nat → Int32} {sl : Value} {tf : Nat → Option Nat} {i p : Nat} (hT : xT T N ar0) (hX : XT T N sc0 ar0 i p sc ar) : CP (d + 1) 30 (fun al => [.ref (al 3)]) noD (sc) (ar) sl tf (fun res sc2 ar2 => res = some (.int (T i)) ∧ sc2 = sc ∧ ar2 = ar) := by
  refine CP.of pm_X3_here rfl (fun _ => rfl) (fun _ => Nat.le_of_ble_eq_true rfl) ?_
  intro fx al n g0 Q hn36 _ hQ
  show pc fx (px_body pm_X3_here) (d) Q al n g0 (sc) (ar) sl tf 0 [.ref (al 3)] []
  have hN := hT.1
  have hi := hX.2.2.1
  refine pc_aload_n dX3_here_0 rfl rfl ?_
  refine pc_getS (c := 3) (v := (nI i)) dX3_here_1 fk_X3_33 (by decide) rfl rfl hX.2.1 ?_
  refine pc_bipush dX3_here_4 (show (Int8.ofInt (120)).toInt32 = (120) by decide) ?_
  refine pc_icmp_gt (tgt := 24) dX3_here_6 (by decide) (fun c6 => absurd c6 (nI_nlt (a := 120) (b := i) (by omega) (by decide))) (fun c6 => ?_)
  refine pc_aload_n dX3_here_9 rfl rfl ?_
  refine pc_getR (c := 3) (d := 4) dX3_here_10 fk_X3_12 (by decide) rfl rfl ?_
  refine pc_getRN (c := 4) (d := 5) dX3_here_13 fk_X3_92 (by decide) rfl rfl ?_
  refine pc_aload_n dX3_here_16 rfl rfl ?_
  refine pc_getS (c := 3) (v := (nI i)) dX3_here_17 fk_X3_33 (by decide) rfl rfl hX.2.1 ?_
  refine pc_iald (c := 5) (v := (T i)) (j := i) dX3_here_20 (by decide) rfl rfl rfl (by omega) (by decide) (hX.tk hT) ?_
  refine pc_goto (tgt := 26) dX3_here_21 (by decide) ?_
  exact pc_iret hQ dX3_here_26 rfl rfl ⟨rfl, rfl, rfl⟩
set_option maxHeartbeats 4000000 in
set_option maxRecDepth 20000 in
theorem cp_take (d : Nat) {T : Nat → Int32} {N : Nat} {sc0 ar0 : Nat → Nat → Int32} {sc ar : Nat → Nat → Int32} {sl : Value} {tf : Nat → Option Nat} {i p : Nat} (hT : xT T N ar0) (hX : XT T N sc0 ar0 i p sc ar) {c : Nat} (hc : 0 < c) (hc2 : c < 2 ^ 31) : CP (d + 1) 31 (fun al => [.ref (al 3), .int (nI c)]) noD (sc) (ar) sl tf (fun res sc2 ar2 => (T i = nI c ∧ res = some (.int 1) ∧ i < N ∧ XT T N sc0 ar0 (i + 1) p sc2 ar2 ∧ ar2 = ar) ∨ (¬ T i = nI c ∧ res = some (.int 0) ∧ sc2 = sc ∧ ar2 = ar)) := by
  refine CP.of pm_X3_take rfl (fun _ => rfl) (fun _ => Nat.le_of_ble_eq_true rfl) ?_
  intro fx al n g0 Q hn36 _ hQ
  show pc fx (px_body pm_X3_take) (d) Q al n g0 (sc) (ar) sl tf 0 [.ref (al 3), .int (nI c)] []
  have hN := hT.1
  have hi := hX.2.2.1
  refine pc_aload_n dX3_take_0 rfl rfl ?_
  refine pc_getS (c := 3) (v := (nI i)) dX3_take_1 fk_X3_33 (by decide) rfl rfl hX.2.1 ?_
  refine pc_bipush dX3_take_4 (show (Int8.ofInt (120)).toInt32 = (120) by decide) ?_
  refine pc_icmp_gt (tgt := 25) dX3_take_6 (by decide) (fun c6 => absurd c6 (nI_nlt (a := 120) (b := i) (by omega) (by decide))) (fun c6 => ?_)
  refine pc_aload_n dX3_take_9 rfl rfl ?_
  refine pc_getR (c := 3) (d := 4) dX3_take_10 fk_X3_12 (by decide) rfl rfl ?_
  refine pc_getRN (c := 4) (d := 5) dX3_take_13 fk_X3_92 (by decide) rfl rfl ?_
  refine pc_aload_n dX3_take_16 rfl rfl ?_
  refine pc_getS (c := 3) (v := (nI i)) dX3_take_17 fk_X3_33 (by decide) rfl rfl hX.2.1 ?_
  refine pc_iald (c := 5) (v := (T i)) (j := i) dX3_take_20 (by decide) rfl rfl rfl (by omega) (by decide) (hX.tk hT) ?_
  refine pc_iload_n dX3_take_21 rfl ?_
  refine pc_icmp_eq (tgt := 27) dX3_take_22 (by decide) (fun c22 => ?_) (fun c22 => ?_)
  ·
    have hlt := hX.lt hT (lit_pos c22 hc hc2).1 (lit_pos c22 hc hc2).2
    refine pc_aload_n dX3_take_27 rfl rfl ?_
    refine pc_dup dX3_take_28 rfl ?_
    refine pc_getS (c := 3) (v := (nI i)) dX3_take_29 fk_X3_33 (by decide) rfl rfl hX.2.1 ?_
    refine pc_iconst dX3_take_32 (show Int32.ofInt (1) = (1) by decide) ?_
    refine pc_iadd dX3_take_33 ?_
    rw [nI_1]
    refine pc_put (c := 3) dX3_take_34 fk_X3_33 (by decide) rfl rfl ⟨_, _, _, rfl, rfl⟩ rfl rfl ?_
    refine pc_iconst dX3_take_37 (show Int32.ofInt (1) = (1) by decide) ?_
    exact pc_iret hQ dX3_take_38 rfl rfl (Or.inl ⟨c22, rfl, hlt, hX.at (by omega), rfl⟩)
  ·
    refine pc_iconst dX3_take_25 (show Int32.ofInt (0) = (0) by decide) ?_
    exact pc_iret hQ dX3_take_26 rfl rfl (Or.inr ⟨c22, rfl, rfl, rfl⟩)
set_option maxHeartbeats 4000000 in
set_option maxRecDepth 20000 in
theorem cp_emit (d : Nat) {T : Nat → Int32} {N : Nat} {sc0 ar0 : Nat → Nat → Int32} {sc ar : Nat → Nat → Int32} {sl : Value} {tf : Nat → Option Nat} {i p : Nat} (hT : xT T N ar0) (hX : XT T N sc0 ar0 i p sc ar) (o a : Int32) (hp : p ≤ 120) : CP (d + 1) 32 (fun al => [.ref (al 3), .int o, .int a]) noD (sc) (ar) sl tf (fun res sc2 ar2 => res = some (.int 1) ∧ XT T N sc0 ar0 i (p + 1) sc2 ar2 ∧ ar2 7 = upd (ar 7) p o ∧ ar2 8 = upd (ar 8) p a) := by
  refine CP.of pm_X3_emit rfl (fun _ => rfl) (fun _ => Nat.le_of_ble_eq_true rfl) ?_
  intro fx al n g0 Q hn36 _ hQ
  show pc fx (px_body pm_X3_emit) (d) Q al n g0 (sc) (ar) sl tf 0 [.ref (al 3), .int o, .int a] []
  have hN := hT.1
  have hi := hX.2.2.1
  refine pc_aload_n dX3_emit_0 rfl rfl ?_
  refine pc_getS (c := 3) (v := (nI p)) dX3_emit_1 fk_X3_29 (by decide) rfl rfl hX.2.2.2.1 ?_
  refine pc_bipush dX3_emit_4 (show (Int8.ofInt (121)).toInt32 = (121) by decide) ?_
  refine pc_icmp_lt (tgt := 11) dX3_emit_6 (by decide) (fun c6 => ?_) (fun c6 => absurd (nI_lt (show p < 121 by omega) (by decide)) c6)
  refine pc_aload_n dX3_emit_11 rfl rfl ?_
  refine pc_getR (c := 3) (d := 7) dX3_emit_12 fk_X3_18 (by decide) rfl rfl ?_
  refine pc_aload_n dX3_emit_15 rfl rfl ?_
  refine pc_getS (c := 3) (v := (nI p)) dX3_emit_16 fk_X3_29 (by decide) rfl rfl hX.2.2.2.1 ?_
  refine pc_iload_n dX3_emit_19 rfl ?_
  refine pc_iast (c := 7) (j := p) dX3_emit_20 (by decide) rfl rfl rfl (by omega) (by decide) ?_
  refine pc_aload_n dX3_emit_21 rfl rfl ?_
  refine pc_getR (c := 3) (d := 8) dX3_emit_22 fk_X3_22 (by decide) rfl rfl ?_
  refine pc_aload_n dX3_emit_25 rfl rfl ?_
  refine pc_getS (c := 3) (v := (nI p)) dX3_emit_26 fk_X3_29 (by decide) rfl rfl hX.2.2.2.1 ?_
  refine pc_iload_n dX3_emit_29 rfl ?_
  refine pc_iast (c := 8) (j := p) dX3_emit_30 (by decide) rfl rfl rfl (by omega) (by decide) ?_
  refine pc_aload_n dX3_emit_31 rfl rfl ?_
  refine pc_dup dX3_emit_32 rfl ?_
  refine pc_getS (c := 3) (v := (nI p)) dX3_emit_33 fk_X3_29 (by decide) rfl rfl hX.2.2.2.1 ?_
  refine pc_iconst dX3_emit_36 (show Int32.ofInt (1) = (1) by decide) ?_
  refine pc_iadd dX3_emit_37 ?_
  rw [nI_1]
  refine pc_put (c := 3) dX3_emit_38 fk_X3_29 (by decide) rfl rfl ⟨_, _, _, rfl, rfl⟩ rfl rfl ?_
  refine pc_iconst dX3_emit_41 (show Int32.ofInt (1) = (1) by decide) ?_
  exact pc_iret hQ dX3_emit_42 rfl rfl ⟨rfl, ⟨fun c k hc => (up2_ne (fun z => hc ⟨z.1, Or.inl z.2⟩)).trans (hX.1 c k hc), hX.2.1, hi, rfl, by omega, fun a a7 a8 => (va_up_ne _ _ a8).trans ((va_up_ne _ _ a7).trans (hX.2.2.2.2.2 a a7 a8))⟩, rfl, rfl⟩
set_option maxHeartbeats 4000000 in
set_option maxRecDepth 20000 in
theorem cp_aim (d : Nat) {T : Nat → Int32} {N : Nat} {sc0 ar0 : Nat → Nat → Int32} {sc ar : Nat → Nat → Int32} {sl : Value} {tf : Nat → Option Nat} {i p : Nat} (hT : xT T N ar0) (hX : XT T N sc0 ar0 i p sc ar) {x : Nat} (hx : x < p) : CP (d + 1) 33 (fun al => [.ref (al 3), .int (nI x)]) noD (sc) (ar) sl tf (fun res sc2 ar2 => res = none ∧ XT T N sc0 ar0 i p sc2 ar2 ∧ ar2 7 = ar 7 ∧ ar2 8 = upd (ar 8) x (nI p)) := by
  refine CP.of pm_X3_aim rfl (fun _ => rfl) (fun _ => Nat.le_of_ble_eq_true rfl) ?_
  intro fx al n g0 Q hn36 _ hQ
  show pc fx (px_body pm_X3_aim) (d) Q al n g0 (sc) (ar) sl tf 0 [.ref (al 3), .int (nI x)] []
  have hN := hT.1
  have hi := hX.2.2.1
  have hp1 := hX.2.2.2.2.1
  refine pc_iload_n dX3_aim_0 rfl ?_
  refine pc_aload_n dX3_aim_1 rfl rfl ?_
  refine pc_getS (c := 3) (v := (nI p)) dX3_aim_2 fk_X3_29 (by decide) rfl rfl hX.2.2.2.1 ?_
  refine pc_icmp_ge (tgt := 18) dX3_aim_5 (by decide) (fun c5 => absurd c5 (Int32.not_le.mpr (nI_lt hx (by omega)))) (fun c5 => ?_)
  refine pc_aload_n dX3_aim_8 rfl rfl ?_
  refine pc_getR (c := 3) (d := 8) dX3_aim_9 fk_X3_22 (by decide) rfl rfl ?_
  refine pc_iload_n dX3_aim_12 rfl ?_
  refine pc_aload_n dX3_aim_13 rfl rfl ?_
  refine pc_getS (c := 3) (v := (nI p)) dX3_aim_14 fk_X3_29 (by decide) rfl rfl hX.2.2.2.1 ?_
  refine pc_iast (c := 8) (j := x) dX3_aim_17 (by decide) rfl rfl rfl (by omega) (by decide) ?_
  exact pc_vret hQ dX3_aim_18 rfl ⟨rfl, ⟨hX.1, hX.2.1, hi, hX.2.2.2.1, hX.2.2.2.2.1, fun a a7 a8 => (va_up_ne _ _ a8).trans (hX.2.2.2.2.2 a a7 a8)⟩, rfl, rfl⟩
def xQ (T : Nat → Int32) (N : Nat) (sc0 ar0 : Nat → Nat → Int32) (f kd dp : Nat) (lp : Bool) (i p : Nat) (b : Bool) (j : Nat) (ar : Nat → Nat → Int32) : Option Value → (Nat → Nat → Int32) → (Nat → Nat → Int32) → Prop := fun res sc2 ar2 => res = some (.int (zB b)) ∧ ∃ p2, XT T N sc0 ar0 j p2 sc2 ar2 ∧ (b = true → p2 = p + nO T f kd dp false i ∧ (∀ x, x < p → ar2 7 x = ar 7 x ∧ ar2 8 x = ar 8 x) ∧ Cd T (ar2 7) (ar2 8) f kd dp lp none i p)
def xH (T : Nat → Int32) (N : Nat) (sc0 ar0 : Nat → Nat → Int32) (sl : Value) (tf : Nat → Option Nat) (f D : Nat) : Prop :=
  (∀ f0, f0 ≤ f → ∀ dp lp i p b j sc ar, XT T N sc0 ar0 i p sc ar → p ≤ i → dp ≤ 10 → pP T f0 0 dp i = some (b, j) → CP D 23 (fun al => [.ref (al 3), .int (nI dp), .int (zB lp)]) noD sc ar sl tf (xQ T N sc0 ar0 f0 0 dp lp i p b j ar))
  ∧ (∀ f0, f0 ≤ f → ∀ dp lp i p b j sc ar, XT T N sc0 ar0 i p sc ar → p ≤ i → dp ≤ 10 → pP T f0 1 dp i = some (b, j) → CP D 24 (fun al => [.ref (al 3), .int (nI dp), .int (zB lp)]) noD sc ar sl tf (xQ T N sc0 ar0 f0 1 dp lp i p b j ar))
  ∧ (∀ f0, f0 ≤ f → ∀ dp lp i p b j sc ar, XT T N sc0 ar0 i p sc ar → p ≤ i + 1 → dp ≤ 10 → pP T f0 2 dp i = some (b, j) → CP D 27 (fun al => [.ref (al 3), .int (nI dp), .int (zB lp)]) noD sc ar sl tf (xQ T N sc0 ar0 f0 2 dp lp i p b j ar))
  ∧ (∀ f0, f0 ≤ f → ∀ lv, lv < 4 → ∀ dp i p b j sc ar, XT T N sc0 ar0 i p sc ar → p ≤ i → dp ≤ 10 → pP T f0 (3 + lv) dp i = some (b, j) → CP D 28 (fun al => [.ref (al 3), .int (nI lv), .int (nI dp)]) noD sc ar sl tf (xQ T N sc0 ar0 f0 (3 + lv) dp false i p b j ar))
theorem lv0 {t : Int32} : lvlOf t = 0 ↔ t = nI 60 := by
  unfold lvlOf
  refine ⟨fun h => ?_, fun h => by rw [h]; decide⟩
  by_cases c : t = 60
  · exact c
  · exfalso; revert h; repeat (first | (rw [if_neg c]) | split | decide)
theorem lv1 {t : Int32} : lvlOf t = 1 ↔ (t = nI 43 ∨ t = nI 45) := by
  unfold lvlOf
  refine ⟨fun h => ?_, fun h => by rcases h with h | h <;> rw [h] <;> decide⟩
  by_cases c : t = 43
  · exact Or.inl c
  · by_cases c2 : t = 45
    · exact Or.inr c2
    · exfalso; rw [if_neg c, if_neg c2] at h; revert h; repeat (first | split | decide)
theorem lv2 {t : Int32} : lvlOf t = 2 ↔ (t = nI 42 ∨ t = nI 47 ∨ t = nI 37) := by
  unfold lvlOf
  refine ⟨fun h => ?_, fun h => by rcases h with h | h | h <;> rw [h] <;> decide⟩
  by_cases c : t = 42
  · exact Or.inl c
  · by_cases c2 : t = 47
    · exact Or.inr (Or.inl c2)
    · by_cases c3 : t = 37
      · exact Or.inr (Or.inr c3)
      · exfalso; rw [if_neg c3, if_neg c, if_neg c2] at h; revert h; repeat (first | split | decide)
theorem lv_pos {t : Int32} {v : Int32} (h : lvlOf t = v) (hv : ¬ v = -1) : ¬ t = 0 ∧ ¬ t = -2 := ⟨fun z => hv (by rw [← h, z]; decide), fun z => hv (by rw [← h, z]; decide)⟩
set_option maxHeartbeats 4000000 in
set_option maxRecDepth 20000 in
theorem xk_factor {T : Nat → Int32} {N : Nat} {sc0 ar0 : Nat → Nat → Int32} {sl : Value} {tf : Nat → Option Nat} {f : Nat} (hT : xT T N ar0) (H : xH T N sc0 ar0 sl tf f (2 * f + 5)) {f1 : Nat} (hf : f1 ≤ f) {dp : Nat} {i p : Nat} {b : Bool} {j : Nat} {sc ar : Nat → Nat → Int32} (hX : XT T N sc0 ar0 i p sc ar) (hp : p ≤ i) (hd : dp ≤ 10) (h : pP T (f1 + 1) 6 dp i = some (b, j)) : CP (2 * f + 6) 29 (fun al => [.ref (al 3), .int (nI dp)]) noD sc ar sl tf (xQ T N sc0 ar0 (f1 + 1) 6 dp false i p b j ar) := by
  refine CP.of pm_X3_factor rfl (fun _ => rfl) (fun _ => Nat.le_of_ble_eq_true rfl) ?_
  intro fx al n g0 Q hn36 _ hQ
  show pc fx (px_body pm_X3_factor) (2 * f + 5) Q al n g0 sc ar sl tf 0 [.ref (al 3), .int (nI dp), .float 0, .float 0] []
  have hN := hT.1
  have hi := hX.2.2.1
  rw [pP_6] at h
  refine pc_aload_n dX3_factor_0 rfl rfl ?_
  refine pc_call (c := 3) (As := fun al => []) dX3_factor_1 cl_X3_40 (by decide) rfl (cp_here (2 * f + 4) hT hX) (fun _ _ => trivial) rfl rfl (Nat.le_of_ble_eq_true rfl) ⟨rfl, rfl⟩ (fun res sc2 ar2 hn => ?_)
  obtain ⟨rfl, rfl, rfl⟩ := hn
  refine pc_istore_n dX3_factor_4 (Nat.le_of_ble_eq_true rfl) ?_
  refine pc_iload_n dX3_factor_5 rfl ?_
  refine pc_sipush dX3_factor_6 (show (Int16.ofInt (1000)).toInt32 = (1000) by decide) ?_
  refine pc_icmp_lt (tgt := 33) dX3_factor_9 (by decide) (fun c9 => ?_) (fun c9 => ?_)
  ·
    have c99 := Int32.not_le.mpr c9
    refine pc_iload_n dX3_factor_33 rfl ?_
    refine pc_callSCN dX3_factor_34 cl_X3_59 (rc_varOf (2 * f + 4) _) rfl rfl (Nat.le_of_ble_eq_true rfl) ⟨rfl, rfl⟩ ?_
    refine pc_istore_n dX3_factor_37 (Nat.le_of_ble_eq_true rfl) ?_
    refine pc_iload_n dX3_factor_38 rfl ?_
    refine pc_iconst dX3_factor_39 (show Int32.ofInt (-1) = (-1) by decide) ?_
    refine pc_icmp_eq (tgt := 60) dX3_factor_40 (by decide) (fun c40 => ?_) (fun c40 => ?_)
    ·
      have hv : ¬ (isVar (T i) = true ∨ 1000 ≤ T i) := fun z => z.elim (fun z => by rw [varOf_no.mp c40] at z; cases z) c99
      rw [if_neg hv] at h
      refine pc_iload_n dX3_factor_60 rfl ?_
      refine pc_bipush dX3_factor_61 (show (Int8.ofInt (10)).toInt32 = (10) by decide) ?_
      refine pc_icmp_ge (tgt := 99) dX3_factor_63 (by decide) (fun c63 => ?_) (fun c63 => ?_)
      ·
        have c639 := Int32.not_lt.mpr c63
        refine pc_iconst dX3_factor_99 (show Int32.ofInt (0) = (0) by decide) ?_
        rw [if_neg (fun z => absurd ((nI_leI (a := 10) (b := dp) (by decide) (by omega)).mp c63) (by omega))] at h
        cases h
        exact pc_iret hQ dX3_factor_100 rfl rfl ⟨rfl, p, hX, fun z => by cases z⟩
      ·
        have c639 := Int32.not_le.mp c63
        refine pc_aload_n dX3_factor_66 rfl rfl ?_
        refine pc_bipush dX3_factor_67 (show (Int8.ofInt (40)).toInt32 = (40) by decide) ?_
        refine pc_call (c := 3) (As := fun al => [.int (40)]) dX3_factor_69 cl_X3_63 (by decide) rfl (cp_take (2 * f + 4) hT hX (c := 40) (by decide) (by decide)) (fun _ _ => trivial) rfl rfl (Nat.le_of_ble_eq_true rfl) ⟨rfl, rfl⟩ (fun res sc2 ar2 hn => ?_)
        rcases hn with ⟨ht, rfl, hlt, hX1, rfl⟩ | ⟨ht, rfl, rfl, rfl⟩
        ·
          refine pc_if_eq (tgt := 99) dX3_factor_72 (by decide) (fun c72 => absurd c72 (by decide)) (fun _ => ?_)
          have hd9 : dp < 10 := by
            have := Int32.not_le.mp c63
            exact (nI_ltI (a := dp) (b := 10) (by omega) (by decide)).mp this
          rw [if_pos ⟨ht, hd9⟩] at h
          obtain ⟨q, hq, h⟩ : ∃ q : Bool × Nat, pP T f1 3 (dp + 1) (i + 1) = some (q.1, q.2) ∧ (if q.1 = false then some (false, q.2) else if T q.2 = nI 41 then some (true, q.2 + 1) else some (false, q.2)) = some (b, j) := by
            cases hz : pP T f1 3 (dp + 1) (i + 1) with
            | none => rw [hz] at h; cases h
            | some q => rw [hz, Option.bind_some] at h; exact ⟨q, rfl, h⟩
          refine pc_aload_n dX3_factor_75 rfl rfl ?_
          refine pc_iconst dX3_factor_76 (show Int32.ofInt (0) = (0) by decide) ?_
          refine pc_iload_n dX3_factor_77 rfl ?_
          refine pc_iconst dX3_factor_78 (show Int32.ofInt (1) = (1) by decide) ?_
          refine pc_iadd dX3_factor_79 ?_
          rw [nI_1]
          refine pc_call (c := 3) (As := fun al => [.int (nI 0), .int (nI (dp + 1))]) dX3_factor_80 cl_X3_67 (by decide) rfl (H.2.2.2 f1 hf 0 (by decide) (dp + 1) (i + 1) p q.1 q.2 _ _ hX1 (by omega) (by omega) hq) (fun _ _ => trivial) rfl rfl (Nat.le_of_ble_eq_true rfl) ⟨rfl, rfl⟩ (fun res sc2 ar2 hn => ?_)
          obtain ⟨rfl, p2, hX2, hok⟩ := hn
          refine pc_if_eq (tgt := 99) dX3_factor_83 (by decide) (fun c83 => ?_) (fun c83 => ?_)
          ·
            refine pc_iconst dX3_factor_99 (show Int32.ofInt (0) = (0) by decide) ?_
            have hb : q.1 = false := zB_0.mp c83
            rw [if_pos hb] at h
            cases h
            exact pc_iret hQ dX3_factor_100 rfl rfl ⟨rfl, p2, hX2, fun z => by cases z⟩
          ·
            have hb : q.1 = true := zB_n0 c83
            rw [if_neg (by rw [hb]; decide)] at h
            refine pc_aload_n dX3_factor_86 rfl rfl ?_
            refine pc_bipush dX3_factor_87 (show (Int8.ofInt (41)).toInt32 = (41) by decide) ?_
            refine pc_call (c := 3) (As := fun al => [.int (41)]) dX3_factor_89 cl_X3_63 (by decide) rfl (cp_take (2 * f + 4) hT hX2 (c := 41) (by decide) (by decide)) (fun _ _ => trivial) rfl rfl (Nat.le_of_ble_eq_true rfl) ⟨rfl, rfl⟩ (fun res sc2 ar2 hn => ?_)
            rcases hn with ⟨ht2, rfl, hlt2, hX3, rfl⟩ | ⟨ht2, rfl, rfl, rfl⟩
            ·
              refine pc_if_eq (tgt := 99) dX3_factor_92 (by decide) (fun c92 => absurd c92 (by decide)) (fun _ => ?_)
              refine pc_iconst dX3_factor_95 (show Int32.ofInt (1) = (1) by decide) ?_
              refine pc_goto (tgt := 100) dX3_factor_96 (by decide) ?_
              rw [if_pos ht2] at h
              cases h
              obtain ⟨e1, e2, e3⟩ := hok hb
              refine pc_iret hQ dX3_factor_100 rfl rfl ⟨rfl, p2, hX3, fun _ => ⟨by rw [nO_6, if_neg hv]; exact e1, e2, ?_⟩⟩
              rw [Cd_6]
              exact ⟨fun z => absurd (Or.inr z) hv, fun _ z => absurd (Or.inl z) hv, fun _ => e3⟩
            ·
              refine pc_if_eq (tgt := 99) dX3_factor_92 (by decide) (fun _ => ?_) (fun c92 => absurd c92 (by decide))
              refine pc_iconst dX3_factor_99 (show Int32.ofInt (0) = (0) by decide) ?_
              rw [if_neg ht2] at h
              cases h
              exact pc_iret hQ dX3_factor_100 rfl rfl ⟨rfl, p2, hX2, fun z => by cases z⟩
        ·
          refine pc_if_eq (tgt := 99) dX3_factor_72 (by decide) (fun _ => ?_) (fun c72 => absurd c72 (by decide))
          refine pc_iconst dX3_factor_99 (show Int32.ofInt (0) = (0) by decide) ?_
          rw [if_neg (fun z => ht z.1)] at h
          cases h
          exact pc_iret hQ dX3_factor_100 rfl rfl ⟨rfl, p, hX, fun z => by cases z⟩
    ·
      have hv1 : isVar (T i) = true := Bool.of_not_eq_false (fun z => c40 (varOf_no.mpr z))
      have hv : isVar (T i) = true ∨ 1000 ≤ T i := Or.inl hv1
      refine pc_aload_n dX3_factor_43 rfl rfl ?_
      refine pc_dup dX3_factor_44 rfl ?_
      refine pc_getS (c := 3) (v := (nI (i))) dX3_factor_45 fk_X3_33 (by decide) rfl rfl hX.2.1 ?_
      refine pc_iconst dX3_factor_48 (show Int32.ofInt (1) = (1) by decide) ?_
      refine pc_iadd dX3_factor_49 ?_
      rw [nI_1]
      refine pc_put (c := 3) dX3_factor_50 fk_X3_33 (by decide) rfl rfl ⟨_, _, _, rfl, rfl⟩ rfl rfl ?_
      refine pc_aload_n dX3_factor_53 rfl rfl ?_
      refine pc_iconst dX3_factor_54 (show Int32.ofInt (2) = (2) by decide) ?_
      refine pc_iload_n dX3_factor_55 rfl ?_
      refine pc_call (c := 3) (As := fun al => [.int (2), .int (varOf (T i))]) dX3_factor_56 cl_X3_44 (by decide) rfl (cp_emit (2 * f + 4) hT (hX.at (i2 := i + 1) (by have := hX.lt hT (isVar_pos hv1).1 (isVar_pos hv1).2; omega)) _ _ (by omega)) (fun _ _ => trivial) rfl rfl (Nat.le_of_ble_eq_true rfl) ⟨rfl, rfl⟩ (fun res sc2 ar2 hn => ?_)
      obtain ⟨rfl, hX2, h7, h8⟩ := hn
      rw [if_pos hv] at h
      cases h
      refine pc_iret hQ dX3_factor_59 rfl rfl ⟨rfl, p + 1, hX2, fun _ => ⟨by rw [nO_6, if_pos hv], fun x hx => ⟨by rw [h7, pk_un (by omega)], by rw [h8, pk_un (by omega)]⟩, ?_⟩⟩
      rw [Cd_6, h7, h8, pk_us, pk_us]
      exact ⟨fun z => absurd z c99, fun _ _ => ⟨rfl, rfl⟩, fun z => absurd hv z⟩
  ·
    have c99 := Int32.not_lt.mp c9
    have hv : isVar (T i) = true ∨ 1000 ≤ T i := Or.inr c99
    refine pc_aload_n dX3_factor_12 rfl rfl ?_
    refine pc_dup dX3_factor_13 rfl ?_
    refine pc_getS (c := 3) (v := (nI (i))) dX3_factor_14 fk_X3_33 (by decide) rfl rfl hX.2.1 ?_
    refine pc_iconst dX3_factor_17 (show Int32.ofInt (1) = (1) by decide) ?_
    refine pc_iadd dX3_factor_18 ?_
    rw [nI_1]
    refine pc_put (c := 3) dX3_factor_19 fk_X3_33 (by decide) rfl rfl ⟨_, _, _, rfl, rfl⟩ rfl rfl ?_
    refine pc_aload_n dX3_factor_22 rfl rfl ?_
    refine pc_iconst dX3_factor_23 (show Int32.ofInt (1) = (1) by decide) ?_
    refine pc_iload_n dX3_factor_24 rfl ?_
    refine pc_sipush dX3_factor_25 (show (Int16.ofInt (1000)).toInt32 = (1000) by decide) ?_
    refine pc_isub dX3_factor_28 ?_
    refine pc_call (c := 3) (As := fun al => [.int (1), .int ((T i) - (1000))]) dX3_factor_29 cl_X3_44 (by decide) rfl (cp_emit (2 * f + 4) hT (hX.at (i2 := i + 1) (by have := hX.lt hT (big_pos c99).1 (big_pos c99).2; omega)) _ _ (by omega)) (fun _ _ => trivial) rfl rfl (Nat.le_of_ble_eq_true rfl) ⟨rfl, rfl⟩ (fun res sc2 ar2 hn => ?_)
    obtain ⟨rfl, hX2, h7, h8⟩ := hn
    rw [if_pos hv] at h
    cases h
    refine pc_iret hQ dX3_factor_32 rfl rfl ⟨rfl, p + 1, hX2, fun _ => ⟨by rw [nO_6, if_pos hv], fun x hx => ⟨by rw [h7, pk_un (by omega)], by rw [h8, pk_un (by omega)]⟩, ?_⟩⟩
    rw [Cd_6, h7, h8, pk_us, pk_us]
    exact ⟨fun _ => ⟨rfl, rfl⟩, fun z => absurd c99 z, fun z => absurd hv z⟩
set_option maxHeartbeats 4000000 in
set_option maxRecDepth 20000 in
theorem xk_expr3 {T : Nat → Int32} {N : Nat} {sc0 ar0 : Nat → Nat → Int32} {sl : Value} {tf : Nat → Option Nat} {f : Nat} (hT : xT T N ar0) (H : xH T N sc0 ar0 sl tf f (2 * f + 5)) {f1 : Nat} (hf : f1 ≤ f) {dp : Nat} {i p : Nat} {b : Bool} {j : Nat} {sc ar : Nat → Nat → Int32} (hX : XT T N sc0 ar0 i p sc ar) (hp : p ≤ i) (hd : dp ≤ 10) (h : pP T (f1 + 1) 6 dp i = some (b, j)) : CP (2 * f + 7) 28 (fun al => [.ref (al 3), .int (nI 3), .int (nI dp)]) noD sc ar sl tf (xQ T N sc0 ar0 (f1 + 1) 6 dp false i p b j ar) := by
  refine CP.of pm_X3_expression rfl (fun _ => rfl) (fun _ => Nat.le_of_ble_eq_true rfl) ?_
  intro fx al n g0 Q hn36 _ hQ
  show pc fx (px_body pm_X3_expression) (2 * f + 6) Q al n g0 sc ar sl tf 0 [.ref (al 3), .int (nI 3), .int (nI dp), .float 0, .float 0, .float 0, .float 0] []
  have hN := hT.1
  have hi := hX.2.2.1
  refine pc_iload_n dX3_expression_0 rfl ?_
  refine pc_iconst dX3_expression_1 (show Int32.ofInt (2) = (2) by decide) ?_
  refine pc_icmp_le (tgt := 11) dX3_expression_2 (by decide) (fun c2 => absurd c2 (by decide)) (fun c2 => ?_)
  refine pc_aload_n dX3_expression_5 rfl rfl ?_
  refine pc_iload_n dX3_expression_6 rfl ?_
  refine pc_call (c := 3) (As := fun al => [.int (nI dp)]) dX3_expression_7 cl_X3_83 (by decide) rfl (xk_factor hT H hf hX hp hd h) (fun _ _ => trivial) rfl rfl (Nat.le_of_ble_eq_true rfl) ⟨rfl, rfl⟩ (fun res sc2 ar2 hn => ?_)
  obtain ⟨rfl, hn⟩ := hn
  exact pc_iret hQ dX3_expression_10 rfl (zB_nar b) ⟨rfl, hn⟩
set_option maxHeartbeats 4000000 in
set_option maxRecDepth 20000 in
theorem xl_expr2 {T : Nat → Int32} {N : Nat} {sc0 ar0 : Nat → Nat → Int32} {sl : Value} {tf : Nat → Option Nat} {f : Nat} (hT : xT T N ar0) (H : xH T N sc0 ar0 sl tf f (2 * f + 5)) : ∀ f1, f1 ≤ f → ∀ (fx : px_F) (al : Nat → Nat) (n : Nat) (g0 : Nat → px_O) (Q : px_Q) (dp q p1 c : Nat) (b : Bool) (j : Nat) (sc ar : Nat → Nat → Int32) (l6 : Value), XT T N sc0 ar0 q p1 sc ar → p1 ≤ q → c < q → dp ≤ 10 → (((T q = nI 42 ∨ T q = nI 47 ∨ T q = nI 37) ∧ pP T f1 5 dp (q + 1) = some (b, j)) ∨ (¬ (T q = nI 42 ∨ T q = nI 47 ∨ T q = nI 37) ∧ b = true ∧ j = q)) → (∀ res sc2 ar2 g2, (fun res sc2 ar2 => res = some (.int (zB b)) ∧ ∃ p2, XT T N sc0 ar0 j p2 sc2 ar2 ∧ (b = true → p2 = p1 + (if T q = nI 42 ∨ T q = nI 47 ∨ T q = nI 37 then nO T f1 5 dp true (q + 1) else 0) ∧ (∀ x, x < p1 → ar2 7 x = ar 7 x ∧ ar2 8 x = ar 8 x) ∧ ((T q = nI 42 ∨ T q = nI 47 ∨ T q = nI 37) → Cd T (ar2 7) (ar2 8) f1 5 dp false (some (T q)) (q + 1) p1))) res sc2 ar2 → CR al n g2 sc2 ar2 sl tf → cfr g0 g2 → Q (.inl res) al n g2) → pc fx (px_body pm_X3_expression) (2 * f + 6) Q al n g0 sc ar sl tf 35 [.ref (al 3), .int (nI 2), .int (nI dp), .int 1, .int 120, .int (nI c), l6] []
  | 0, hf, fx, al, n, g0, Q, dp, q, p1, c, b, j, sc, ar, l6, hX, hp, hc, hd, hr, hQ => by
    have hN := hT.1
    have hi := hX.2.2.1
    obtain ⟨hn, hb, hj⟩ := hr.resolve_left (fun z => by have z := z.2; rw [pP] at z; cases z)
    refine pc_iload dX3_expression_35 rfl ?_
    refine pc_iload dX3_expression_37 rfl ?_
    refine pc_icmp_ge (tgt := 110) dX3_expression_39 (by decide) (fun c39 => absurd c39 (Int32.not_le.mpr (nI_lt (show c < 120 by omega) (by decide)))) (fun c39 => ?_)
    refine pc_iload_n dX3_expression_42 rfl ?_
    refine pc_if_eq (tgt := 110) dX3_expression_43 (by decide) (fun c43 => absurd c43 (by decide)) (fun _ => ?_)
    refine pc_aload_n dX3_expression_46 rfl rfl ?_
    refine pc_call (c := 3) (As := fun al => []) dX3_expression_47 cl_X3_40 (by decide) rfl (cp_here (2 * f + 5) hT hX) (fun _ _ => trivial) rfl rfl (Nat.le_of_ble_eq_true rfl) ⟨rfl, rfl⟩ (fun res sc2 ar2 hn => ?_)
    obtain ⟨rfl, rfl, rfl⟩ := hn
    refine pc_callSCN dX3_expression_50 cl_X3_86 (rc_lvlOf (2 * f + 5) _) rfl rfl (Nat.le_of_ble_eq_true rfl) ⟨rfl, rfl⟩ ?_
    refine pc_iload_n dX3_expression_53 rfl ?_
    refine pc_icmp_ne (tgt := 110) dX3_expression_54 (by decide) (fun c54 => ?_) (fun c54 => absurd (lv2.mp c54) hn)
    refine pc_iload_n dX3_expression_110 rfl ?_
    exact pc_iret hQ dX3_expression_111 rfl rfl ⟨by rw [hb]; rfl, p1, by rw [hj]; exact hX, fun _ => ⟨by rw [if_neg hn, Nat.add_zero], fun x hx => ⟨rfl, rfl⟩, fun z => absurd z hn⟩⟩
  | f1 + 1, hf, fx, al, n, g0, Q, dp, q, p1, c, b, j, sc, ar, l6, hX, hp, hc, hd, hr, hQ => by
    have hN := hT.1
    have hi := hX.2.2.1
    rcases hr with ⟨hs, h⟩ | ⟨hn, hb, hj⟩
    rotate_left
    ·
      refine pc_iload dX3_expression_35 rfl ?_
      refine pc_iload dX3_expression_37 rfl ?_
      refine pc_icmp_ge (tgt := 110) dX3_expression_39 (by decide) (fun c39 => absurd c39 (Int32.not_le.mpr (nI_lt (show c < 120 by omega) (by decide)))) (fun c39 => ?_)
      refine pc_iload_n dX3_expression_42 rfl ?_
      refine pc_if_eq (tgt := 110) dX3_expression_43 (by decide) (fun c43 => absurd c43 (by decide)) (fun _ => ?_)
      refine pc_aload_n dX3_expression_46 rfl rfl ?_
      refine pc_call (c := 3) (As := fun al => []) dX3_expression_47 cl_X3_40 (by decide) rfl (cp_here (2 * f + 5) hT hX) (fun _ _ => trivial) rfl rfl (Nat.le_of_ble_eq_true rfl) ⟨rfl, rfl⟩ (fun res sc2 ar2 hn => ?_)
      obtain ⟨rfl, rfl, rfl⟩ := hn
      refine pc_callSCN dX3_expression_50 cl_X3_86 (rc_lvlOf (2 * f + 5) _) rfl rfl (Nat.le_of_ble_eq_true rfl) ⟨rfl, rfl⟩ ?_
      refine pc_iload_n dX3_expression_53 rfl ?_
      refine pc_icmp_ne (tgt := 110) dX3_expression_54 (by decide) (fun c54 => ?_) (fun c54 => absurd (lv2.mp c54) hn)
      refine pc_iload_n dX3_expression_110 rfl ?_
      exact pc_iret hQ dX3_expression_111 rfl rfl ⟨by rw [hb]; rfl, p1, by rw [hj]; exact hX, fun _ => ⟨by rw [if_neg hn, Nat.add_zero], fun x hx => ⟨rfl, rfl⟩, fun z => absurd z hn⟩⟩
    have hlt := hX.lt hT (lv_pos (lv2.mpr hs) (by decide)).1 (lv_pos (lv2.mpr hs) (by decide)).2
    rw [pP] at h
    obtain ⟨y, hy, h⟩ : ∃ y : Bool × Nat, pP T f1 6 dp (q + 1) = some (y.1, y.2) ∧ (if y.1 = false then some (false, y.2) else if T y.2 = nI 42 ∨ T y.2 = nI 47 ∨ T y.2 = nI 37 then pP T f1 5 dp (y.2 + 1) else some (true, y.2)) = some (b, j) := by
      cases hz : pP T f1 6 dp (q + 1) with
      | none => rw [hz] at h; cases h
      | some y => rw [hz, Option.bind_some] at h; exact ⟨y, rfl, h⟩
    refine pc_iload dX3_expression_35 rfl ?_
    refine pc_iload dX3_expression_37 rfl ?_
    refine pc_icmp_ge (tgt := 110) dX3_expression_39 (by decide) (fun c39 => absurd c39 (Int32.not_le.mpr (nI_lt (show c < 120 by omega) (by decide)))) (fun c39 => ?_)
    refine pc_iload_n dX3_expression_42 rfl ?_
    refine pc_if_eq (tgt := 110) dX3_expression_43 (by decide) (fun c43 => absurd c43 (by decide)) (fun _ => ?_)
    refine pc_aload_n dX3_expression_46 rfl rfl ?_
    refine pc_call (c := 3) (As := fun al => []) dX3_expression_47 cl_X3_40 (by decide) rfl (cp_here (2 * f + 5) hT hX) (fun _ _ => trivial) rfl rfl (Nat.le_of_ble_eq_true rfl) ⟨rfl, rfl⟩ (fun res sc2 ar2 hn => ?_)
    obtain ⟨rfl, rfl, rfl⟩ := hn
    refine pc_callSCN dX3_expression_50 cl_X3_86 (rc_lvlOf (2 * f + 5) _) rfl rfl (Nat.le_of_ble_eq_true rfl) ⟨rfl, rfl⟩ ?_
    refine pc_iload_n dX3_expression_53 rfl ?_
    refine pc_icmp_ne (tgt := 110) dX3_expression_54 (by decide) (fun c54 => absurd c54 (fun z => z (lv2.mpr hs))) (fun c54 => ?_)
    refine pc_aload_n dX3_expression_57 rfl rfl ?_
    refine pc_call (c := 3) (As := fun al => []) dX3_expression_58 cl_X3_40 (by decide) rfl (cp_here (2 * f + 5) hT hX) (fun _ _ => trivial) rfl rfl (Nat.le_of_ble_eq_true rfl) ⟨rfl, rfl⟩ (fun res sc2 ar2 hn => ?_)
    obtain ⟨rfl, rfl, rfl⟩ := hn
    refine pc_istore dX3_expression_61 (Nat.le_of_ble_eq_true rfl) ?_
    refine pc_aload_n dX3_expression_63 rfl rfl ?_
    refine pc_dup dX3_expression_64 rfl ?_
    refine pc_getS (c := 3) (v := (nI (q))) dX3_expression_65 fk_X3_33 (by decide) rfl rfl hX.2.1 ?_
    refine pc_iconst dX3_expression_68 (show Int32.ofInt (1) = (1) by decide) ?_
    refine pc_iadd dX3_expression_69 ?_
    rw [nI_1]
    refine pc_put (c := 3) dX3_expression_70 fk_X3_33 (by decide) rfl rfl ⟨_, _, _, rfl, rfl⟩ rfl rfl ?_
    refine pc_aload_n dX3_expression_73 rfl rfl ?_
    refine pc_iload_n dX3_expression_74 rfl ?_
    refine pc_iconst dX3_expression_75 (show Int32.ofInt (1) = (1) by decide) ?_
    refine pc_iadd dX3_expression_76 ?_
    rw [nI_1]
    refine pc_iload_n dX3_expression_77 rfl ?_
    refine pc_call (c := 3) (As := fun al => [.int (nI 3), .int (nI dp)]) dX3_expression_78 cl_X3_67 (by decide) rfl (CP.le (d2 := 2 * f + 6) (H.2.2.2 f1 (by omega) 3 (by decide) dp (q + 1) p1 y.1 y.2 _ _ (hX.at (i2 := q + 1) (by omega)) (by omega) hd hy) (by omega)) (fun _ _ => trivial) rfl rfl (Nat.le_of_ble_eq_true rfl) ⟨rfl, rfl⟩ (fun res scE arE hn => ?_)
    obtain ⟨rfl, p2, hX2, hok⟩ := hn
    refine pc_if_eq (tgt := 102) dX3_expression_81 (by decide) (fun c81 => ?_) (fun c81 => ?_)
    ·
      refine pc_iconst dX3_expression_102 (show Int32.ofInt (0) = (0) by decide) ?_
      refine pc_istore_n dX3_expression_103 (Nat.le_of_ble_eq_true rfl) ?_
      refine pc_iinc dX3_expression_104 rfl (show Int32.ofInt (1) = (1) by decide) ?_
      refine pc_goto (tgt := 35) dX3_expression_107 (by decide) ?_
      have hb : y.1 = false := zB_0.mp c81
      rw [if_pos hb] at h
      cases h
      rw [nI_1]
      refine (?_ : pc fx (px_body pm_X3_expression) (2 * f + 6) Q al n g0 _ _ sl tf 35 [.ref (al 3), .int (nI 2), .int (nI dp), .int 0, .int 120, .int (nI (c + 1)), .int (T q)] [])
      refine pc_iload dX3_expression_35 rfl ?_
      refine pc_iload dX3_expression_37 rfl ?_
      refine pc_icmp_ge (tgt := 110) dX3_expression_39 (by decide) (fun c39 => absurd c39 (Int32.not_le.mpr (nI_lt (show c + 1 < 120 by omega) (by decide)))) (fun c39 => ?_)
      refine pc_iload_n dX3_expression_42 rfl ?_
      refine pc_if_eq (tgt := 110) dX3_expression_43 (by decide) (fun _ => ?_) (fun c43 => absurd c43 (by decide))
      refine pc_iload_n dX3_expression_110 rfl ?_
      exact pc_iret hQ dX3_expression_111 rfl rfl ⟨rfl, p2, hX2, fun z => by cases z⟩
    ·
      have hb : y.1 = true := zB_n0 c81
      rw [if_neg (by rw [hb]; decide)] at h
      obtain ⟨e1, e2, e3⟩ := hok hb
      have e1 : p2 = p1 + nO T f1 6 dp false (q + 1) := e1
      have e3 : Cd T (arE 7) (arE 8) f1 6 dp false none (q + 1) p1 := e3
      have hyt : pP T f1 6 dp (q + 1) = some (true, y.2) := by rw [hy, hb]
      have hle := (nO_le f1 6 dp false (q + 1) y.2 (by decide) hyt).1
      rw [if_neg (by decide), if_neg (by decide)] at hle
      have hyl := (pP_lt _ _ _ _ _ (by decide) hyt).1
      have hi2 := hX2.2.2.1
      refine pc_aload_n dX3_expression_84 rfl rfl ?_
      refine pc_iload dX3_expression_85 rfl ?_
      refine pc_iload dX3_expression_87 rfl ?_
      refine pc_callSCN dX3_expression_89 cl_X3_89 (rc_sklOf (2 * f + 5) _) rfl rfl (Nat.le_of_ble_eq_true rfl) ⟨rfl, rfl⟩ ?_
      refine pc_call (c := 3) (As := fun al => [.int (T q), .int (sklOf (T q))]) dX3_expression_92 cl_X3_44 (by decide) rfl (cp_emit (2 * f + 5) hT hX2 (T q) (sklOf (T q)) (by omega)) (fun _ _ => trivial) rfl rfl (Nat.le_of_ble_eq_true rfl) ⟨rfl, rfl⟩ (fun res sc2 ar2 hn => ?_)
      obtain ⟨rfl, hX3, h7, h8⟩ := hn
      refine pc_if_eq (tgt := 102) dX3_expression_95 (by decide) (fun c95 => absurd c95 (by decide)) (fun _ => ?_)
      refine pc_iconst dX3_expression_98 (show Int32.ofInt (1) = (1) by decide) ?_
      refine pc_goto (tgt := 103) dX3_expression_99 (by decide) ?_
      refine pc_istore_n dX3_expression_103 (Nat.le_of_ble_eq_true rfl) ?_
      refine pc_iinc dX3_expression_104 rfl (show Int32.ofInt (1) = (1) by decide) ?_
      refine pc_goto (tgt := 35) dX3_expression_107 (by decide) ?_
      rw [nI_1]
      refine xl_expr2 hT H f1 (by omega) fx al n g0 Q dp y.2 (p2 + 1) (c + 1) b j _ _ _ hX3 (by omega) (by omega) hd ?_ ?_
      · by_cases c9 : T y.2 = nI 42 ∨ T y.2 = nI 47 ∨ T y.2 = nI 37
        · rw [if_pos c9] at h; exact Or.inl ⟨c9, h⟩
        · rw [if_neg c9] at h; cases h; exact Or.inr ⟨c9, rfl, rfl⟩
      · intro res sc3 ar3 g3 hn3 hR3 hF3
        obtain ⟨z1, p3, z2, z3⟩ := hn3
        refine hQ res sc3 ar3 g3 ⟨z1, p3, z2, fun hbt => ?_⟩ hR3 hF3
        obtain ⟨w1, w2, w3⟩ := z3 hbt
        have hkeep : ∀ x, x < p2 + 1 → x ≠ p2 → ar3 7 x = arE 7 x ∧ ar3 8 x = arE 8 x := fun x hx hne => ⟨(w2 x hx).1.trans (by rw [h7, pk_un hne]), (w2 x hx).2.trans (by rw [h8, pk_un hne])⟩
        refine ⟨?_, fun x hx => ?_, fun _ => ?_⟩
        · rw [w1, if_pos hs, nO, pE_of hyt, if_pos rfl, e1]; omega
        · exact ⟨(hkeep x (by omega) (by omega)).1.trans (e2 x hx).1, (hkeep x (by omega) (by omega)).2.trans (e2 x hx).2⟩
        · rw [Cd, pE_of hyt]
          refine ⟨Cd_cong f1 6 dp false none (q + 1) y.2 p1 (by decide) hyt (fun x a b => hkeep x (by simp only [Option.isSome] at b; omega) (by simp only [Option.isSome] at b; omega)) e3, fun sg hsg => ?_, fun c9 => ?_⟩
          · cases hsg
            rw [← e1]
            exact ⟨(w2 p2 (by omega)).1.trans (by rw [h7, pk_us]), (w2 p2 (by omega)).2.trans (by rw [h8, pk_us])⟩
          · have := w3 c9
            rw [e1] at this
            exact this
set_option maxHeartbeats 4000000 in
set_option maxRecDepth 20000 in
theorem xk_expr2 {T : Nat → Int32} {N : Nat} {sc0 ar0 : Nat → Nat → Int32} {sl : Value} {tf : Nat → Option Nat} {f : Nat} (hT : xT T N ar0) (H : xH T N sc0 ar0 sl tf f (2 * f + 5)) {f1 : Nat} (hf : f1 ≤ f) {dp : Nat} {i p : Nat} {b : Bool} {j : Nat} {sc ar : Nat → Nat → Int32} (hX : XT T N sc0 ar0 i p sc ar) (hp : p ≤ i) (hd : dp ≤ 10) (h : pP T (f1 + 1) 5 dp i = some (b, j)) : CP (2 * f + 7) 28 (fun al => [.ref (al 3), .int (nI 2), .int (nI dp)]) noD sc ar sl tf (xQ T N sc0 ar0 (f1 + 1) 5 dp false i p b j ar) := by
  refine CP.of pm_X3_expression rfl (fun _ => rfl) (fun _ => Nat.le_of_ble_eq_true rfl) ?_
  intro fx al n g0 Q hn36 _ hQ
  show pc fx (px_body pm_X3_expression) (2 * f + 6) Q al n g0 sc ar sl tf 0 [.ref (al 3), .int (nI 2), .int (nI dp), .float 0, .float 0, .float 0, .float 0] []
  have hN := hT.1
  have hi := hX.2.2.1
  rw [pP] at h
  obtain ⟨y, hy, h⟩ : ∃ y : Bool × Nat, pP T f1 6 dp i = some (y.1, y.2) ∧ (if y.1 = false then some (false, y.2) else if T y.2 = nI 42 ∨ T y.2 = nI 47 ∨ T y.2 = nI 37 then pP T f1 5 dp (y.2 + 1) else some (true, y.2)) = some (b, j) := by
    cases hz : pP T f1 6 dp i with
    | none => rw [hz] at h; cases h
    | some y => rw [hz, Option.bind_some] at h; exact ⟨y, rfl, h⟩
  refine pc_iload_n dX3_expression_0 rfl ?_
  refine pc_iconst dX3_expression_1 (show Int32.ofInt (2) = (2) by decide) ?_
  refine pc_icmp_le (tgt := 11) dX3_expression_2 (by decide) (fun c2 => ?_) (fun c2 => absurd (by decide) c2)
  refine pc_aload_n dX3_expression_11 rfl rfl ?_
  refine pc_iload_n dX3_expression_12 rfl ?_
  refine pc_iconst dX3_expression_13 (show Int32.ofInt (1) = (1) by decide) ?_
  refine pc_iadd dX3_expression_14 ?_
  rw [show nI 2 + 1 = nI 3 from nI_1 2]
  refine pc_iload_n dX3_expression_15 rfl ?_
  refine pc_call (c := 3) (As := fun al => [.int (nI 3), .int (nI dp)]) dX3_expression_16 cl_X3_67 (by decide) rfl ((H.2.2.2 f1 hf 3 (by decide) dp i p y.1 y.2 _ _ hX hp hd hy).le (by omega)) (fun _ _ => trivial) rfl rfl (Nat.le_of_ble_eq_true rfl) ⟨rfl, rfl⟩ (fun res sc2 ar2 hn => ?_)
  obtain ⟨rfl, p2, hX2, hok⟩ := hn
  refine pc_istore_n dX3_expression_19 (Nat.le_of_ble_eq_true rfl) ?_
  refine pc_iload_n dX3_expression_20 rfl ?_
  refine pc_if_ne (tgt := 28) dX3_expression_21 (by decide) (fun c21 => ?_) (fun c21 => absurd c21 (by decide))
  refine pc_bipush dX3_expression_28 (show (Int8.ofInt (120)).toInt32 = (120) by decide) ?_
  refine pc_istore dX3_expression_30 (Nat.le_of_ble_eq_true rfl) ?_
  refine pc_iconst dX3_expression_32 (show Int32.ofInt (0) = (0) by decide) ?_
  refine pc_istore dX3_expression_33 (Nat.le_of_ble_eq_true rfl) ?_
  cases hb : y.1
  · rw [hb] at h hok
    rw [if_pos rfl] at h
    cases h
    refine (?_ : pc fx (px_body pm_X3_expression) (2 * f + 6) Q al n g0 _ _ sl tf 35 [.ref (al 3), .int (nI 2), .int (nI dp), .int 0, .int 120, .int 0, .float 0] [])
    refine pc_iload dX3_expression_35 rfl ?_
    refine pc_iload dX3_expression_37 rfl ?_
    refine pc_icmp_ge (tgt := 110) dX3_expression_39 (by decide) (fun c39 => absurd c39 (by decide)) (fun c39 => ?_)
    refine pc_iload_n dX3_expression_42 rfl ?_
    refine pc_if_eq (tgt := 110) dX3_expression_43 (by decide) (fun _ => ?_) (fun c43 => absurd c43 (by decide))
    refine pc_iload_n dX3_expression_110 rfl ?_
    exact pc_iret hQ dX3_expression_111 rfl rfl ⟨rfl, p2, hX2, fun z => by cases z⟩
  · obtain ⟨e1, e2, e3⟩ := hok hb
    have e1 : p2 = p + nO T f1 6 dp false i := e1
    have e3 : Cd T (ar2 7) (ar2 8) f1 6 dp false none i p := e3
    rw [hb, if_neg (by decide)] at h
    have hyt : pP T f1 6 dp i = some (true, y.2) := by rw [hy, hb]
    have hle := (nO_le f1 6 dp false i y.2 (by decide) hyt).1
    rw [if_neg (by decide), if_neg (by decide)] at hle
    have hyl := (pP_lt _ _ _ _ _ (by decide) hyt).1
    refine xl_expr2 hT H f1 hf fx al n g0 Q dp y.2 p2 0 b j _ _ _ hX2 (by omega) (by omega) hd ?_ ?_
    · by_cases c9 : T y.2 = nI 42 ∨ T y.2 = nI 47 ∨ T y.2 = nI 37
      · rw [if_pos c9] at h; exact Or.inl ⟨c9, h⟩
      · rw [if_neg c9] at h; cases h; exact Or.inr ⟨c9, rfl, rfl⟩
    · intro res sc3 ar3 g3 hn3 hR3 hF3
      obtain ⟨z1, p3, z2, z3⟩ := hn3
      refine hQ res sc3 ar3 g3 ⟨z1, p3, z2, fun hbt => ?_⟩ hR3 hF3
      obtain ⟨w1, w2, w3⟩ := z3 hbt
      refine ⟨?_, fun x hx => ?_, ?_⟩
      · show p3 = p + nO T (f1 + 1) 5 dp false i
        rw [w1, nO, pE_of hyt, if_neg (show ¬ false = true by decide), e1]; omega
      · exact ⟨(w2 x (by omega)).1.trans (e2 x hx).1, (w2 x (by omega)).2.trans (e2 x hx).2⟩
      · show Cd T (ar3 7) (ar3 8) (f1 + 1) 5 dp false none i p
        rw [Cd, pE_of hyt]
        refine ⟨Cd_cong f1 6 dp false none i y.2 p (by decide) hyt (fun x a b => w2 x (by simp only [Option.isSome] at b; omega)) e3, fun sg hsg => by (cases hsg), fun c9 => ?_⟩
        have := w3 c9
        rw [e1] at this
        exact this
set_option maxHeartbeats 4000000 in
set_option maxRecDepth 20000 in
theorem xl_expr1 {T : Nat → Int32} {N : Nat} {sc0 ar0 : Nat → Nat → Int32} {sl : Value} {tf : Nat → Option Nat} {f : Nat} (hT : xT T N ar0) (H : xH T N sc0 ar0 sl tf f (2 * f + 5)) : ∀ f1, f1 ≤ f → ∀ (fx : px_F) (al : Nat → Nat) (n : Nat) (g0 : Nat → px_O) (Q : px_Q) (dp q p1 c : Nat) (b : Bool) (j : Nat) (sc ar : Nat → Nat → Int32) (l6 : Value), XT T N sc0 ar0 q p1 sc ar → p1 ≤ q → c < q → dp ≤ 10 → (((T q = nI 43 ∨ T q = nI 45) ∧ pP T f1 4 dp (q + 1) = some (b, j)) ∨ (¬ (T q = nI 43 ∨ T q = nI 45) ∧ b = true ∧ j = q)) → (∀ res sc2 ar2 g2, (fun res sc2 ar2 => res = some (.int (zB b)) ∧ ∃ p2, XT T N sc0 ar0 j p2 sc2 ar2 ∧ (b = true → p2 = p1 + (if T q = nI 43 ∨ T q = nI 45 then nO T f1 4 dp true (q + 1) else 0) ∧ (∀ x, x < p1 → ar2 7 x = ar 7 x ∧ ar2 8 x = ar 8 x) ∧ ((T q = nI 43 ∨ T q = nI 45) → Cd T (ar2 7) (ar2 8) f1 4 dp false (some (T q)) (q + 1) p1))) res sc2 ar2 → CR al n g2 sc2 ar2 sl tf → cfr g0 g2 → Q (.inl res) al n g2) → pc fx (px_body pm_X3_expression) (2 * f + 6) Q al n g0 sc ar sl tf 35 [.ref (al 3), .int (nI 1), .int (nI dp), .int 1, .int 120, .int (nI c), l6] []
  | 0, hf, fx, al, n, g0, Q, dp, q, p1, c, b, j, sc, ar, l6, hX, hp, hc, hd, hr, hQ => by
    have hN := hT.1
    have hi := hX.2.2.1
    obtain ⟨hn, hb, hj⟩ := hr.resolve_left (fun z => by have z := z.2; rw [pP] at z; cases z)
    refine pc_iload dX3_expression_35 rfl ?_
    refine pc_iload dX3_expression_37 rfl ?_
    refine pc_icmp_ge (tgt := 110) dX3_expression_39 (by decide) (fun c39 => absurd c39 (Int32.not_le.mpr (nI_lt (show c < 120 by omega) (by decide)))) (fun c39 => ?_)
    refine pc_iload_n dX3_expression_42 rfl ?_
    refine pc_if_eq (tgt := 110) dX3_expression_43 (by decide) (fun c43 => absurd c43 (by decide)) (fun _ => ?_)
    refine pc_aload_n dX3_expression_46 rfl rfl ?_
    refine pc_call (c := 3) (As := fun al => []) dX3_expression_47 cl_X3_40 (by decide) rfl (cp_here (2 * f + 5) hT hX) (fun _ _ => trivial) rfl rfl (Nat.le_of_ble_eq_true rfl) ⟨rfl, rfl⟩ (fun res sc2 ar2 hn => ?_)
    obtain ⟨rfl, rfl, rfl⟩ := hn
    refine pc_callSCN dX3_expression_50 cl_X3_86 (rc_lvlOf (2 * f + 5) _) rfl rfl (Nat.le_of_ble_eq_true rfl) ⟨rfl, rfl⟩ ?_
    refine pc_iload_n dX3_expression_53 rfl ?_
    refine pc_icmp_ne (tgt := 110) dX3_expression_54 (by decide) (fun c54 => ?_) (fun c54 => absurd (lv1.mp c54) hn)
    refine pc_iload_n dX3_expression_110 rfl ?_
    exact pc_iret hQ dX3_expression_111 rfl rfl ⟨by rw [hb]; rfl, p1, by rw [hj]; exact hX, fun _ => ⟨by rw [if_neg hn, Nat.add_zero], fun x hx => ⟨rfl, rfl⟩, fun z => absurd z hn⟩⟩
  | f1 + 1, hf, fx, al, n, g0, Q, dp, q, p1, c, b, j, sc, ar, l6, hX, hp, hc, hd, hr, hQ => by
    have hN := hT.1
    have hi := hX.2.2.1
    rcases hr with ⟨hs, h⟩ | ⟨hn, hb, hj⟩
    rotate_left
    ·
      refine pc_iload dX3_expression_35 rfl ?_
      refine pc_iload dX3_expression_37 rfl ?_
      refine pc_icmp_ge (tgt := 110) dX3_expression_39 (by decide) (fun c39 => absurd c39 (Int32.not_le.mpr (nI_lt (show c < 120 by omega) (by decide)))) (fun c39 => ?_)
      refine pc_iload_n dX3_expression_42 rfl ?_
      refine pc_if_eq (tgt := 110) dX3_expression_43 (by decide) (fun c43 => absurd c43 (by decide)) (fun _ => ?_)
      refine pc_aload_n dX3_expression_46 rfl rfl ?_
      refine pc_call (c := 3) (As := fun al => []) dX3_expression_47 cl_X3_40 (by decide) rfl (cp_here (2 * f + 5) hT hX) (fun _ _ => trivial) rfl rfl (Nat.le_of_ble_eq_true rfl) ⟨rfl, rfl⟩ (fun res sc2 ar2 hn => ?_)
      obtain ⟨rfl, rfl, rfl⟩ := hn
      refine pc_callSCN dX3_expression_50 cl_X3_86 (rc_lvlOf (2 * f + 5) _) rfl rfl (Nat.le_of_ble_eq_true rfl) ⟨rfl, rfl⟩ ?_
      refine pc_iload_n dX3_expression_53 rfl ?_
      refine pc_icmp_ne (tgt := 110) dX3_expression_54 (by decide) (fun c54 => ?_) (fun c54 => absurd (lv1.mp c54) hn)
      refine pc_iload_n dX3_expression_110 rfl ?_
      exact pc_iret hQ dX3_expression_111 rfl rfl ⟨by rw [hb]; rfl, p1, by rw [hj]; exact hX, fun _ => ⟨by rw [if_neg hn, Nat.add_zero], fun x hx => ⟨rfl, rfl⟩, fun z => absurd z hn⟩⟩
    have hlt := hX.lt hT (lv_pos (lv1.mpr hs) (by decide)).1 (lv_pos (lv1.mpr hs) (by decide)).2
    rw [pP] at h
    obtain ⟨y, hy, h⟩ : ∃ y : Bool × Nat, pP T f1 5 dp (q + 1) = some (y.1, y.2) ∧ (if y.1 = false then some (false, y.2) else if T y.2 = nI 43 ∨ T y.2 = nI 45 then pP T f1 4 dp (y.2 + 1) else some (true, y.2)) = some (b, j) := by
      cases hz : pP T f1 5 dp (q + 1) with
      | none => rw [hz] at h; cases h
      | some y => rw [hz, Option.bind_some] at h; exact ⟨y, rfl, h⟩
    refine pc_iload dX3_expression_35 rfl ?_
    refine pc_iload dX3_expression_37 rfl ?_
    refine pc_icmp_ge (tgt := 110) dX3_expression_39 (by decide) (fun c39 => absurd c39 (Int32.not_le.mpr (nI_lt (show c < 120 by omega) (by decide)))) (fun c39 => ?_)
    refine pc_iload_n dX3_expression_42 rfl ?_
    refine pc_if_eq (tgt := 110) dX3_expression_43 (by decide) (fun c43 => absurd c43 (by decide)) (fun _ => ?_)
    refine pc_aload_n dX3_expression_46 rfl rfl ?_
    refine pc_call (c := 3) (As := fun al => []) dX3_expression_47 cl_X3_40 (by decide) rfl (cp_here (2 * f + 5) hT hX) (fun _ _ => trivial) rfl rfl (Nat.le_of_ble_eq_true rfl) ⟨rfl, rfl⟩ (fun res sc2 ar2 hn => ?_)
    obtain ⟨rfl, rfl, rfl⟩ := hn
    refine pc_callSCN dX3_expression_50 cl_X3_86 (rc_lvlOf (2 * f + 5) _) rfl rfl (Nat.le_of_ble_eq_true rfl) ⟨rfl, rfl⟩ ?_
    refine pc_iload_n dX3_expression_53 rfl ?_
    refine pc_icmp_ne (tgt := 110) dX3_expression_54 (by decide) (fun c54 => absurd c54 (fun z => z (lv1.mpr hs))) (fun c54 => ?_)
    refine pc_aload_n dX3_expression_57 rfl rfl ?_
    refine pc_call (c := 3) (As := fun al => []) dX3_expression_58 cl_X3_40 (by decide) rfl (cp_here (2 * f + 5) hT hX) (fun _ _ => trivial) rfl rfl (Nat.le_of_ble_eq_true rfl) ⟨rfl, rfl⟩ (fun res sc2 ar2 hn => ?_)
    obtain ⟨rfl, rfl, rfl⟩ := hn
    refine pc_istore dX3_expression_61 (Nat.le_of_ble_eq_true rfl) ?_
    refine pc_aload_n dX3_expression_63 rfl rfl ?_
    refine pc_dup dX3_expression_64 rfl ?_
    refine pc_getS (c := 3) (v := (nI (q))) dX3_expression_65 fk_X3_33 (by decide) rfl rfl hX.2.1 ?_
    refine pc_iconst dX3_expression_68 (show Int32.ofInt (1) = (1) by decide) ?_
    refine pc_iadd dX3_expression_69 ?_
    rw [nI_1]
    refine pc_put (c := 3) dX3_expression_70 fk_X3_33 (by decide) rfl rfl ⟨_, _, _, rfl, rfl⟩ rfl rfl ?_
    refine pc_aload_n dX3_expression_73 rfl rfl ?_
    refine pc_iload_n dX3_expression_74 rfl ?_
    refine pc_iconst dX3_expression_75 (show Int32.ofInt (1) = (1) by decide) ?_
    refine pc_iadd dX3_expression_76 ?_
    rw [nI_1]
    refine pc_iload_n dX3_expression_77 rfl ?_
    refine pc_call (c := 3) (As := fun al => [.int (nI 2), .int (nI dp)]) dX3_expression_78 cl_X3_67 (by decide) rfl (CP.le (d2 := 2 * f + 6) (H.2.2.2 f1 (by omega) 2 (by decide) dp (q + 1) p1 y.1 y.2 _ _ (hX.at (i2 := q + 1) (by omega)) (by omega) hd hy) (by omega)) (fun _ _ => trivial) rfl rfl (Nat.le_of_ble_eq_true rfl) ⟨rfl, rfl⟩ (fun res scE arE hn => ?_)
    obtain ⟨rfl, p2, hX2, hok⟩ := hn
    refine pc_if_eq (tgt := 102) dX3_expression_81 (by decide) (fun c81 => ?_) (fun c81 => ?_)
    ·
      refine pc_iconst dX3_expression_102 (show Int32.ofInt (0) = (0) by decide) ?_
      refine pc_istore_n dX3_expression_103 (Nat.le_of_ble_eq_true rfl) ?_
      refine pc_iinc dX3_expression_104 rfl (show Int32.ofInt (1) = (1) by decide) ?_
      refine pc_goto (tgt := 35) dX3_expression_107 (by decide) ?_
      have hb : y.1 = false := zB_0.mp c81
      rw [if_pos hb] at h
      cases h
      rw [nI_1]
      refine (?_ : pc fx (px_body pm_X3_expression) (2 * f + 6) Q al n g0 _ _ sl tf 35 [.ref (al 3), .int (nI 1), .int (nI dp), .int 0, .int 120, .int (nI (c + 1)), .int (T q)] [])
      refine pc_iload dX3_expression_35 rfl ?_
      refine pc_iload dX3_expression_37 rfl ?_
      refine pc_icmp_ge (tgt := 110) dX3_expression_39 (by decide) (fun c39 => absurd c39 (Int32.not_le.mpr (nI_lt (show c + 1 < 120 by omega) (by decide)))) (fun c39 => ?_)
      refine pc_iload_n dX3_expression_42 rfl ?_
      refine pc_if_eq (tgt := 110) dX3_expression_43 (by decide) (fun _ => ?_) (fun c43 => absurd c43 (by decide))
      refine pc_iload_n dX3_expression_110 rfl ?_
      exact pc_iret hQ dX3_expression_111 rfl rfl ⟨rfl, p2, hX2, fun z => by cases z⟩
    ·
      have hb : y.1 = true := zB_n0 c81
      rw [if_neg (by rw [hb]; decide)] at h
      obtain ⟨e1, e2, e3⟩ := hok hb
      have e1 : p2 = p1 + nO T f1 5 dp false (q + 1) := e1
      have e3 : Cd T (arE 7) (arE 8) f1 5 dp false none (q + 1) p1 := e3
      have hyt : pP T f1 5 dp (q + 1) = some (true, y.2) := by rw [hy, hb]
      have hle := (nO_le f1 5 dp false (q + 1) y.2 (by decide) hyt).1
      rw [if_neg (by decide), if_neg (by decide)] at hle
      have hyl := (pP_lt _ _ _ _ _ (by decide) hyt).1
      have hi2 := hX2.2.2.1
      refine pc_aload_n dX3_expression_84 rfl rfl ?_
      refine pc_iload dX3_expression_85 rfl ?_
      refine pc_iload dX3_expression_87 rfl ?_
      refine pc_callSCN dX3_expression_89 cl_X3_89 (rc_sklOf (2 * f + 5) _) rfl rfl (Nat.le_of_ble_eq_true rfl) ⟨rfl, rfl⟩ ?_
      refine pc_call (c := 3) (As := fun al => [.int (T q), .int (sklOf (T q))]) dX3_expression_92 cl_X3_44 (by decide) rfl (cp_emit (2 * f + 5) hT hX2 (T q) (sklOf (T q)) (by omega)) (fun _ _ => trivial) rfl rfl (Nat.le_of_ble_eq_true rfl) ⟨rfl, rfl⟩ (fun res sc2 ar2 hn => ?_)
      obtain ⟨rfl, hX3, h7, h8⟩ := hn
      refine pc_if_eq (tgt := 102) dX3_expression_95 (by decide) (fun c95 => absurd c95 (by decide)) (fun _ => ?_)
      refine pc_iconst dX3_expression_98 (show Int32.ofInt (1) = (1) by decide) ?_
      refine pc_goto (tgt := 103) dX3_expression_99 (by decide) ?_
      refine pc_istore_n dX3_expression_103 (Nat.le_of_ble_eq_true rfl) ?_
      refine pc_iinc dX3_expression_104 rfl (show Int32.ofInt (1) = (1) by decide) ?_
      refine pc_goto (tgt := 35) dX3_expression_107 (by decide) ?_
      rw [nI_1]
      refine xl_expr1 hT H f1 (by omega) fx al n g0 Q dp y.2 (p2 + 1) (c + 1) b j _ _ _ hX3 (by omega) (by omega) hd ?_ ?_
      · by_cases c9 : T y.2 = nI 43 ∨ T y.2 = nI 45
        · rw [if_pos c9] at h; exact Or.inl ⟨c9, h⟩
        · rw [if_neg c9] at h; cases h; exact Or.inr ⟨c9, rfl, rfl⟩
      · intro res sc3 ar3 g3 hn3 hR3 hF3
        obtain ⟨z1, p3, z2, z3⟩ := hn3
        refine hQ res sc3 ar3 g3 ⟨z1, p3, z2, fun hbt => ?_⟩ hR3 hF3
        obtain ⟨w1, w2, w3⟩ := z3 hbt
        have hkeep : ∀ x, x < p2 + 1 → x ≠ p2 → ar3 7 x = arE 7 x ∧ ar3 8 x = arE 8 x := fun x hx hne => ⟨(w2 x hx).1.trans (by rw [h7, pk_un hne]), (w2 x hx).2.trans (by rw [h8, pk_un hne])⟩
        refine ⟨?_, fun x hx => ?_, fun _ => ?_⟩
        · rw [w1, if_pos hs, nO, pE_of hyt, if_pos rfl, e1]; omega
        · exact ⟨(hkeep x (by omega) (by omega)).1.trans (e2 x hx).1, (hkeep x (by omega) (by omega)).2.trans (e2 x hx).2⟩
        · rw [Cd, pE_of hyt]
          refine ⟨Cd_cong f1 5 dp false none (q + 1) y.2 p1 (by decide) hyt (fun x a b => hkeep x (by simp only [Option.isSome] at b; omega) (by simp only [Option.isSome] at b; omega)) e3, fun sg hsg => ?_, fun c9 => ?_⟩
          · cases hsg
            rw [← e1]
            exact ⟨(w2 p2 (by omega)).1.trans (by rw [h7, pk_us]), (w2 p2 (by omega)).2.trans (by rw [h8, pk_us])⟩
          · have := w3 c9
            rw [e1] at this
            exact this
set_option maxHeartbeats 4000000 in
set_option maxRecDepth 20000 in
theorem xk_expr1 {T : Nat → Int32} {N : Nat} {sc0 ar0 : Nat → Nat → Int32} {sl : Value} {tf : Nat → Option Nat} {f : Nat} (hT : xT T N ar0) (H : xH T N sc0 ar0 sl tf f (2 * f + 5)) {f1 : Nat} (hf : f1 ≤ f) {dp : Nat} {i p : Nat} {b : Bool} {j : Nat} {sc ar : Nat → Nat → Int32} (hX : XT T N sc0 ar0 i p sc ar) (hp : p ≤ i) (hd : dp ≤ 10) (h : pP T (f1 + 1) 4 dp i = some (b, j)) : CP (2 * f + 7) 28 (fun al => [.ref (al 3), .int (nI 1), .int (nI dp)]) noD sc ar sl tf (xQ T N sc0 ar0 (f1 + 1) 4 dp false i p b j ar) := by
  refine CP.of pm_X3_expression rfl (fun _ => rfl) (fun _ => Nat.le_of_ble_eq_true rfl) ?_
  intro fx al n g0 Q hn36 _ hQ
  show pc fx (px_body pm_X3_expression) (2 * f + 6) Q al n g0 sc ar sl tf 0 [.ref (al 3), .int (nI 1), .int (nI dp), .float 0, .float 0, .float 0, .float 0] []
  have hN := hT.1
  have hi := hX.2.2.1
  rw [pP] at h
  obtain ⟨y, hy, h⟩ : ∃ y : Bool × Nat, pP T f1 5 dp i = some (y.1, y.2) ∧ (if y.1 = false then some (false, y.2) else if T y.2 = nI 43 ∨ T y.2 = nI 45 then pP T f1 4 dp (y.2 + 1) else some (true, y.2)) = some (b, j) := by
    cases hz : pP T f1 5 dp i with
    | none => rw [hz] at h; cases h
    | some y => rw [hz, Option.bind_some] at h; exact ⟨y, rfl, h⟩
  refine pc_iload_n dX3_expression_0 rfl ?_
  refine pc_iconst dX3_expression_1 (show Int32.ofInt (2) = (2) by decide) ?_
  refine pc_icmp_le (tgt := 11) dX3_expression_2 (by decide) (fun c2 => ?_) (fun c2 => absurd (by decide) c2)
  refine pc_aload_n dX3_expression_11 rfl rfl ?_
  refine pc_iload_n dX3_expression_12 rfl ?_
  refine pc_iconst dX3_expression_13 (show Int32.ofInt (1) = (1) by decide) ?_
  refine pc_iadd dX3_expression_14 ?_
  rw [show nI 1 + 1 = nI 2 from nI_1 1]
  refine pc_iload_n dX3_expression_15 rfl ?_
  refine pc_call (c := 3) (As := fun al => [.int (nI 2), .int (nI dp)]) dX3_expression_16 cl_X3_67 (by decide) rfl ((H.2.2.2 f1 hf 2 (by decide) dp i p y.1 y.2 _ _ hX hp hd hy).le (by omega)) (fun _ _ => trivial) rfl rfl (Nat.le_of_ble_eq_true rfl) ⟨rfl, rfl⟩ (fun res sc2 ar2 hn => ?_)
  obtain ⟨rfl, p2, hX2, hok⟩ := hn
  refine pc_istore_n dX3_expression_19 (Nat.le_of_ble_eq_true rfl) ?_
  refine pc_iload_n dX3_expression_20 rfl ?_
  refine pc_if_ne (tgt := 28) dX3_expression_21 (by decide) (fun c21 => ?_) (fun c21 => absurd c21 (by decide))
  refine pc_bipush dX3_expression_28 (show (Int8.ofInt (120)).toInt32 = (120) by decide) ?_
  refine pc_istore dX3_expression_30 (Nat.le_of_ble_eq_true rfl) ?_
  refine pc_iconst dX3_expression_32 (show Int32.ofInt (0) = (0) by decide) ?_
  refine pc_istore dX3_expression_33 (Nat.le_of_ble_eq_true rfl) ?_
  cases hb : y.1
  · rw [hb] at h hok
    rw [if_pos rfl] at h
    cases h
    refine (?_ : pc fx (px_body pm_X3_expression) (2 * f + 6) Q al n g0 _ _ sl tf 35 [.ref (al 3), .int (nI 1), .int (nI dp), .int 0, .int 120, .int 0, .float 0] [])
    refine pc_iload dX3_expression_35 rfl ?_
    refine pc_iload dX3_expression_37 rfl ?_
    refine pc_icmp_ge (tgt := 110) dX3_expression_39 (by decide) (fun c39 => absurd c39 (by decide)) (fun c39 => ?_)
    refine pc_iload_n dX3_expression_42 rfl ?_
    refine pc_if_eq (tgt := 110) dX3_expression_43 (by decide) (fun _ => ?_) (fun c43 => absurd c43 (by decide))
    refine pc_iload_n dX3_expression_110 rfl ?_
    exact pc_iret hQ dX3_expression_111 rfl rfl ⟨rfl, p2, hX2, fun z => by cases z⟩
  · obtain ⟨e1, e2, e3⟩ := hok hb
    have e1 : p2 = p + nO T f1 5 dp false i := e1
    have e3 : Cd T (ar2 7) (ar2 8) f1 5 dp false none i p := e3
    rw [hb, if_neg (by decide)] at h
    have hyt : pP T f1 5 dp i = some (true, y.2) := by rw [hy, hb]
    have hle := (nO_le f1 5 dp false i y.2 (by decide) hyt).1
    rw [if_neg (by decide), if_neg (by decide)] at hle
    have hyl := (pP_lt _ _ _ _ _ (by decide) hyt).1
    refine xl_expr1 hT H f1 hf fx al n g0 Q dp y.2 p2 0 b j _ _ _ hX2 (by omega) (by omega) hd ?_ ?_
    · by_cases c9 : T y.2 = nI 43 ∨ T y.2 = nI 45
      · rw [if_pos c9] at h; exact Or.inl ⟨c9, h⟩
      · rw [if_neg c9] at h; cases h; exact Or.inr ⟨c9, rfl, rfl⟩
    · intro res sc3 ar3 g3 hn3 hR3 hF3
      obtain ⟨z1, p3, z2, z3⟩ := hn3
      refine hQ res sc3 ar3 g3 ⟨z1, p3, z2, fun hbt => ?_⟩ hR3 hF3
      obtain ⟨w1, w2, w3⟩ := z3 hbt
      refine ⟨?_, fun x hx => ?_, ?_⟩
      · show p3 = p + nO T (f1 + 1) 4 dp false i
        rw [w1, nO, pE_of hyt, if_neg (show ¬ false = true by decide), e1]; omega
      · exact ⟨(w2 x (by omega)).1.trans (e2 x hx).1, (w2 x (by omega)).2.trans (e2 x hx).2⟩
      · show Cd T (ar3 7) (ar3 8) (f1 + 1) 4 dp false none i p
        rw [Cd, pE_of hyt]
        refine ⟨Cd_cong f1 5 dp false none i y.2 p (by decide) hyt (fun x a b => w2 x (by simp only [Option.isSome] at b; omega)) e3, fun sg hsg => by (cases hsg), fun c9 => ?_⟩
        have := w3 c9
        rw [e1] at this
        exact this
