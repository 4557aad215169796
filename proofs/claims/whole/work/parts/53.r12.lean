/-- where token i begins -/
def ps (B : Nat → Nat) (e : Nat) : Nat → Nat
  | 0 => spn isBl B (e - 0) 0
  | i + 1 => spn isBl B (e - lexA B e (ps B e i)) (lexA B e (ps B e i))
/-- token i -/
def tk (B : Nat → Nat) (e i : Nat) : Int32 := tokI B e i (ps B e i)
theorem spn_le {c : Nat → Bool} {B : Nat → Nat} {e p : Nat} (h : p ≤ e) : spn c B (e - p) p ≤ e := by have := spn_ge c B (e - p) p; omega
theorem lexA_le {B : Nat → Nat} {e b : Nat} (h : b ≤ e) : b ≤ lexA B e b ∧ lexA B e b ≤ e := by
  unfold lexA
  split
  · omega
  · split
    · have := spn_ge isL B (e - b) b; omega
    · split
      · have := spn_ge isD B (e - b) b; omega
      · omega
theorem ps_le (B : Nat → Nat) (e : Nat) : ∀ i, ps B e i ≤ e
  | 0 => spn_le (Nat.zero_le _)
  | i + 1 => spn_le (lexA_le (ps_le B e i)).2
/-- the reference while it reads: i tokens taken, token i seen, dp deep; what it began with: sc0, ar0 -/
def PS (B : Nat → Nat) (e : Nat) (sc0 : Nat → Int32) (ar0 : Nat → Nat → Int32) (i dp : Nat) (sc : Nat → Int32) (ar : Nat → Nat → Int32) : Prop :=
  (∀ k, k ≠ 3 → k ≠ 5 → k ≠ 6 → k ≠ 10 → k ≠ 11 → k ≠ 12 → sc k = sc0 k) ∧ (∀ a, a ≠ 2 → ar a = ar0 a) ∧ rB sc ar B e ∧ sc 10 = nI i ∧ i ≤ 120 ∧ sc 11 = rT (tk B e i) ∧ sc 5 = nI (ps B e i) ∧ (¬ tk B e i = 0 → ¬ tk B e i = -2 → sc 6 = nI (lexA B e (ps B e i))) ∧ sc 12 = nI dp ∧ dp ≤ 10 ∧ ∀ j, j < i → ar 2 j = tk B e j
theorem rT_eq {t : Int32} {c : Nat} (h0 : 0 < c) (h : c < 2 ^ 31) : rT t = nI c ↔ t = nI c := by
  constructor
  · intro z
    unfold rT at z
    have hp := nI_pos h
    split at z
    · exact absurd (by rw [← z]; decide) hp
    · split at z
      · exact absurd (by rw [← z]; decide) hp
      · exact z
  · intro z
    rw [z, rT_nI h0 h]
theorem rT_id {t : Int32} (h1 : ¬ t = 0) (h2 : ¬ t = -2) : rT t = t := by unfold rT; rw [if_neg h1, if_neg h2]
theorem rT_var (t : Int32) : isVar (rT t) = isVar t := by
  unfold rT
  split
  · rename_i h; rw [h]; decide
  · split
    · rename_i h; rw [h]; decide
    · rfl
theorem rT_big (t : Int32) : 1000 ≤ rT t ↔ 1000 ≤ t := by
  unfold rT
  split
  · rename_i h; rw [h]; decide
  · split
    · rename_i h; rw [h]; decide
    · exact Iff.rfl
theorem tk_120 {B : Nat → Nat} {e : Nat} : tk B e 120 = 0 ∨ tk B e 120 = -2 := by
  unfold tk tokI
  by_cases h : ps B e 120 = e
  · rw [if_neg (fun z => z.2 h)]; exact Or.inl (lexT_end h)
  · rw [if_pos ⟨rfl, h⟩]; exact Or.inr rfl
set_option maxHeartbeats 4000000 in
set_option maxRecDepth 20000 in
theorem rp_look (d : Nat) (sc : Nat → Int32) (ar : Nat → Nat → Int32) {B : Nat → Nat} {e p i : Nat} (hB : rB sc ar B e) (hp : sc 3 = nI p) (hpe : p ≤ e) (hi : sc 10 = nI i) (hi1 : i ≤ 120) : RP (d + 7) 100 [] sc ar (fun res sc2 ar2 => ∃ sc1, NX B e i (spn isBl B (e - p) p) sc ar (some (.int (sc2 11))) sc1 ar2 ∧ res = none ∧ sc2 = upd sc1 11 (rT (tokI B e i (spn isBl B (e - p) p)))) := by
  refine RP.of pm_X10_look rfl rfl (Nat.le_of_ble_eq_true rfl) ?_
  intro fx al n g0 r Q hQ
  show pr fx (px_body pm_X10_look) (d + 6) Q al n g0 r sc ar 0 [.ref (al r)] []
  refine pr_aload_n dX10_look_0 rfl rfl ?_
  refine pr_aload_n dX10_look_1 rfl rfl ?_
  refine pr_callP dX10_look_2 cl_X10_134 (rp_next d sc ar hB hp hpe hi hi1) rfl rfl (Nat.le_of_ble_eq_true rfl) ⟨rfl, rfl⟩ (fun res sc2 ar2 hn => ?_)
  obtain ⟨a, rfl, rfl, rfl, h4⟩ := hn
  refine pr_put dX10_look_5 fk_X10_137 rfl ⟨_, _, _, rfl, rfl⟩ rfl rfl ?_
  exact pr_vretP hQ dX10_look_8 rfl ⟨S3 sc _ a, ⟨a, rfl, rfl, rfl, h4⟩, rfl, rfl⟩
set_option maxHeartbeats 4000000 in
set_option maxRecDepth 20000 in
theorem rp_accept (d : Nat) {B : Nat → Nat} {e : Nat} {sc0 : Nat → Int32} {ar0 : Nat → Nat → Int32} {i dp : Nat} {sc : Nat → Int32} {ar : Nat → Nat → Int32} (hS : PS B e sc0 ar0 i dp sc ar) (h1 : ¬ tk B e i = 0) (h2 : ¬ tk B e i = -2) : RP (d + 8) 101 [] sc ar (fun res sc2 ar2 => res = none ∧ PS B e sc0 ar0 (i + 1) dp sc2 ar2) := by
  refine RP.of pm_X10_accept rfl rfl (Nat.le_of_ble_eq_true rfl) ?_
  intro fx al n g0 r Q hQ
  show pr fx (px_body pm_X10_accept) (d + 7) Q al n g0 r sc ar 0 [.ref (al r)] []
  obtain ⟨hf, ha, hB, h10, h120, h11, h5, h6, h12, hdp, hdr⟩ := id hS
  have hi : i < 120 := by
    rcases Nat.lt_or_ge i 120 with z | z
    · exact z
    · have e1 : i = 120 := by omega
      subst e1
      exact tk_120.elim (fun z => absurd z h1) (fun z => absurd z h2)
  have hpl := lexA_le (B := B) (ps_le B e i)
  have h69 := h6 h1 h2
  refine pr_aload_n dX10_accept_0 rfl rfl ?_
  refine pr_getA dX10_accept_1 fk_X10_21 rfl ?_
  refine pr_aload_n dX10_accept_4 rfl rfl ?_
  refine pr_getS (v := nI i) dX10_accept_5 fk_X10_114 rfl h10 ?_
  refine pr_aload_n dX10_accept_8 rfl rfl ?_
  refine pr_getS (v := tk B e i) dX10_accept_9 fk_X10_137 rfl (h11.trans (rT_id h1 h2)) ?_
  refine pr_iast (j := i) dX10_accept_12 (by decide) rfl rfl (by show i < 120; omega) ?_
  refine pr_aload_n dX10_accept_13 rfl rfl ?_
  refine pr_dup dX10_accept_14 rfl ?_
  refine pr_getS (v := nI i) dX10_accept_15 fk_X10_114 rfl h10 ?_
  refine pr_iconst dX10_accept_18 (show Int32.ofInt (1) = (1) by decide) ?_
  refine pr_iadd dX10_accept_19 ?_
  rw [nI_1 i]
  refine pr_put dX10_accept_20 fk_X10_114 rfl ⟨_, _, _, rfl, rfl⟩ rfl rfl ?_
  refine pr_aload_n dX10_accept_23 rfl rfl ?_
  refine pr_aload_n dX10_accept_24 rfl rfl ?_
  refine pr_getS (v := nI (lexA B e (ps B e i))) dX10_accept_25 fk_X10_88 rfl h69 ?_
  refine pr_put dX10_accept_28 fk_X10_108 rfl ⟨_, _, _, rfl, rfl⟩ rfl rfl ?_
  refine pr_aload_n dX10_accept_31 rfl rfl ?_
  refine pr_callP dX10_accept_32 cl_X10_140 (rp_look d (upd (upd sc 10 (nI (i + 1))) 3 (nI (lexA B e (ps B e i)))) (va_up ar 2 (upd (ar 2) i (tk B e i))) (B := B) (e := e) (p := lexA B e (ps B e i)) (i := i + 1) ⟨hB.1, hB.2.1, fun j hj => hB.2.2 j hj⟩ rfl hpl.2 rfl (by omega)) rfl rfl (Nat.le_of_ble_eq_true rfl) ⟨rfl, rfl⟩ (fun res sc2 ar2 hn => ?_)
  obtain ⟨sc1, ⟨a, h91, rfl, rfl, h94⟩, rfl, rfl⟩ := hn
  refine pr_vretP hQ dX10_accept_35 rfl ⟨rfl, ?_, ?_, ?_, rfl, by omega, rfl, rfl, fun z1 z2 => congrArg nI (h94 z1 z2), h12, hdp, ?_⟩
  · intro k k3 k5 k6 k10 k11 k12
    simp only [S3, upd_at, if_neg k3, if_neg k5, if_neg k6, if_neg k10, if_neg k11]
    exact hf k k3 k5 k6 k10 k11 k12
  · intro a9 ha9
    rw [va_up_ne _ _ ha9]
    exact ha a9 ha9
  · exact ⟨hB.1, hB.2.1, fun j hj => hB.2.2 j hj⟩
  · intro j hj
    rw [va_up_self]
    by_cases e9 : j = i
    · subst e9; rw [pk_us]
    · rw [pk_un e9]; exact hdr j (by omega)
set_option maxHeartbeats 4000000 in
set_option maxRecDepth 20000 in
theorem rp_need (d : Nat) {B : Nat → Nat} {e : Nat} {sc0 : Nat → Int32} {ar0 : Nat → Nat → Int32} {i dp : Nat} {sc : Nat → Int32} {ar : Nat → Nat → Int32} (hS : PS B e sc0 ar0 i dp sc ar) {c : Nat} (hc : 0 < c) (hc2 : c < 2 ^ 31) : RP (d + 9) 102 [.int (nI c)] sc ar (fun res sc2 ar2 => (tk B e i = nI c ∧ res = some (.int 1) ∧ PS B e sc0 ar0 (i + 1) dp sc2 ar2) ∨ (¬ tk B e i = nI c ∧ res = some (.int 0) ∧ PS B e sc0 ar0 i dp sc2 ar2)) := by
  refine RP.of pm_X10_need rfl rfl (Nat.le_of_ble_eq_true rfl) ?_
  intro fx al n g0 r Q hQ
  show pr fx (px_body pm_X10_need) (d + 8) Q al n g0 r sc ar 0 [.ref (al r), .int (nI c)] []
  obtain ⟨hf, ha, hB, h10, h120, h11, h5, h6, h12, hdp, hdr⟩ := id hS
  refine pr_aload_n dX10_need_0 rfl rfl ?_
  refine pr_getS (v := rT (tk B e i)) dX10_need_1 fk_X10_137 rfl h11 ?_
  refine pr_iload_n dX10_need_4 rfl ?_
  refine pr_icmp_eq (tgt := 10) dX10_need_5 (by decide) (fun c5 => ?_) (fun c5 => ?_)
  ·
    have ht := (rT_eq hc hc2).mp c5
    refine pr_aload_n dX10_need_10 rfl rfl ?_
    refine pr_callP dX10_need_11 cl_X10_143 (rp_accept d hS (fun z => nI_ne0 hc hc2 (ht.symm.trans z)) (fun z => nI_pos hc2 (by rw [← ht, z]; decide))) rfl rfl (Nat.le_of_ble_eq_true rfl) ⟨rfl, rfl⟩ (fun res sc2 ar2 hn => ?_)
    obtain ⟨rfl, hn⟩ := hn
    refine pr_iconst dX10_need_14 (show Int32.ofInt (1) = (1) by decide) ?_
    exact pr_iretP hQ dX10_need_15 rfl rfl (Or.inl ⟨ht, rfl, hn⟩)
  ·
    refine pr_iconst dX10_need_8 (show Int32.ofInt (0) = (0) by decide) ?_
    exact pr_iretP hQ dX10_need_9 rfl rfl (Or.inr ⟨fun z => c5 ((rT_eq hc hc2).mpr z), rfl, hS⟩)
theorem PS.deep {B : Nat → Nat} {e : Nat} {sc0 : Nat → Int32} {ar0 : Nat → Nat → Int32} {i dp dp2 : Nat} {sc : Nat → Int32} {ar : Nat → Nat → Int32} (hS : PS B e sc0 ar0 i dp sc ar) (h : dp2 ≤ 10) : PS B e sc0 ar0 i dp2 (upd sc 12 (nI dp2)) ar := by
  obtain ⟨hf, ha, hB, h10, h120, h11, h5, h6, h12, hdp, hdr⟩ := hS
  exact ⟨fun k k3 k5 k6 k10 k11 k12 => by rw [pk_un k12]; exact hf k k3 k5 k6 k10 k11 k12, ha, hB, h10, h120, h11, h5, h6, rfl, h, hdr⟩
set_option maxHeartbeats 4000000 in
set_option maxRecDepth 20000 in
theorem rp_opens (d : Nat) {B : Nat → Nat} {e : Nat} {sc0 : Nat → Int32} {ar0 : Nat → Nat → Int32} {i dp : Nat} {sc : Nat → Int32} {ar : Nat → Nat → Int32} (hS : PS B e sc0 ar0 i dp sc ar) {c : Nat} (hc : 0 < c) (hc2 : c < 2 ^ 31) : RP (d + 9) 103 [.int (nI c)] sc ar (fun res sc2 ar2 => (tk B e i = nI c ∧ dp < 10 ∧ res = some (.int 1) ∧ PS B e sc0 ar0 (i + 1) (dp + 1) sc2 ar2) ∨ (¬ (tk B e i = nI c ∧ dp < 10) ∧ res = some (.int 0) ∧ PS B e sc0 ar0 i dp sc2 ar2)) := by
  refine RP.of pm_X10_opens rfl rfl (Nat.le_of_ble_eq_true rfl) ?_
  intro fx al n g0 r Q hQ
  show pr fx (px_body pm_X10_opens) (d + 8) Q al n g0 r sc ar 0 [.ref (al r), .int (nI c)] []
  obtain ⟨hf, ha, hB, h10, h120, h11, h5, h6, h12, hdp, hdr⟩ := id hS
  refine pr_aload_n dX10_opens_0 rfl rfl ?_
  refine pr_getS (v := rT (tk B e i)) dX10_opens_1 fk_X10_137 rfl h11 ?_
  refine pr_iload_n dX10_opens_4 rfl ?_
  refine pr_icmp_ne (tgt := 17) dX10_opens_5 (by decide) (fun c5 => ?_) (fun c5 => ?_)
  ·
    refine pr_iconst dX10_opens_17 (show Int32.ofInt (0) = (0) by decide) ?_
    exact pr_iretP hQ dX10_opens_18 rfl rfl (Or.inr ⟨fun z => c5 ((rT_eq hc hc2).mpr z.1), rfl, hS⟩)
  ·
    refine pr_aload_n dX10_opens_8 rfl rfl ?_
    refine pr_getS (v := nI dp) dX10_opens_9 fk_X10_146 rfl h12 ?_
    refine pr_bipush dX10_opens_12 (show (Int8.ofInt (10)).toInt32 = (10) by decide) ?_
    refine pr_icmp_ne (tgt := 19) dX10_opens_14 (by decide) (fun c14 => ?_) (fun c14 => ?_)
    ·
      have ht := (rT_eq hc hc2).mp c5
      have hd1 : ¬ dp = 10 := fun z => c14 (by rw [z]; rfl)
      refine pr_aload_n dX10_opens_19 rfl rfl ?_
      refine pr_dup dX10_opens_20 rfl ?_
      refine pr_getS (v := nI dp) dX10_opens_21 fk_X10_146 rfl h12 ?_
      refine pr_iconst dX10_opens_24 (show Int32.ofInt (1) = (1) by decide) ?_
      refine pr_iadd dX10_opens_25 ?_
      rw [nI_1 dp]
      refine pr_put dX10_opens_26 fk_X10_146 rfl ⟨_, _, _, rfl, rfl⟩ rfl rfl ?_
      refine pr_aload_n dX10_opens_29 rfl rfl ?_
      refine pr_callP dX10_opens_30 cl_X10_143 (rp_accept d (hS.deep (dp2 := dp + 1) (by omega)) (fun z => nI_ne0 hc hc2 (ht.symm.trans z)) (fun z => nI_pos hc2 (by rw [← ht, z]; decide))) rfl rfl (Nat.le_of_ble_eq_true rfl) ⟨rfl, rfl⟩ (fun res sc2 ar2 hn => ?_)
      obtain ⟨rfl, hn⟩ := hn
      refine pr_iconst dX10_opens_33 (show Int32.ofInt (1) = (1) by decide) ?_
      exact pr_iretP hQ dX10_opens_34 rfl rfl (Or.inl ⟨ht, by omega, rfl, hn⟩)
    ·
      refine pr_iconst dX10_opens_17 (show Int32.ofInt (0) = (0) by decide) ?_
      have h10 : dp = 10 := (nI_eq (a := dp) (b := 10) (by omega) (by decide)).mp c14
      exact pr_iretP hQ dX10_opens_18 rfl rfl (Or.inr ⟨fun z => by omega, rfl, hS⟩)
set_option maxHeartbeats 4000000 in
set_option maxRecDepth 20000 in
theorem rp_closes (d : Nat) {B : Nat → Nat} {e : Nat} {sc0 : Nat → Int32} {ar0 : Nat → Nat → Int32} {i dp : Nat} {sc : Nat → Int32} {ar : Nat → Nat → Int32} (hS : PS B e sc0 ar0 i dp sc ar) {c : Nat} (hc : 0 < c) (hc2 : c < 2 ^ 31) (hd1 : 0 < dp) : RP (d + 10) 104 [.int (nI c)] sc ar (fun res sc2 ar2 => (tk B e i = nI c ∧ res = some (.int 1) ∧ PS B e sc0 ar0 (i + 1) (dp - 1) sc2 ar2) ∨ (¬ tk B e i = nI c ∧ res = some (.int 0) ∧ PS B e sc0 ar0 i (dp - 1) sc2 ar2)) := by
  refine RP.of pm_X10_closes rfl rfl (Nat.le_of_ble_eq_true rfl) ?_
  intro fx al n g0 r Q hQ
  show pr fx (px_body pm_X10_closes) (d + 9) Q al n g0 r sc ar 0 [.ref (al r), .int (nI c)] []
  obtain ⟨hf, ha, hB, h10, h120, h11, h5, h6, h12, hdp, hdr⟩ := id hS
  refine pr_aload_n dX10_closes_0 rfl rfl ?_
  refine pr_dup dX10_closes_1 rfl ?_
  refine pr_getS (v := nI dp) dX10_closes_2 fk_X10_146 rfl h12 ?_
  refine pr_iconst dX10_closes_5 (show Int32.ofInt (1) = (1) by decide) ?_
  refine pr_isub dX10_closes_6 ?_
  rw [show nI dp - 1 = nI (dp - 1) from pk_sub (b := 1) (by omega)]
  refine pr_put dX10_closes_7 fk_X10_146 rfl ⟨_, _, _, rfl, rfl⟩ rfl rfl ?_
  refine pr_aload_n dX10_closes_10 rfl rfl ?_
  refine pr_iload_n dX10_closes_11 rfl ?_
  refine pr_callP dX10_closes_12 cl_X10_149 (rp_need d (hS.deep (dp2 := dp - 1) (by omega)) hc hc2) rfl rfl (Nat.le_of_ble_eq_true rfl) ⟨rfl, rfl⟩ (fun res sc2 ar2 hn => ?_)
  rcases hn with ⟨ht, rfl, hn⟩ | ⟨ht, rfl, hn⟩
  · exact pr_iretP hQ dX10_closes_15 rfl rfl (Or.inl ⟨ht, rfl, hn⟩)
  · exact pr_iretP hQ dX10_closes_15 rfl rfl (Or.inr ⟨ht, rfl, hn⟩)
