theorem isD_57 {b : Nat} (h : isD b = true) : b ≤ 57 := by
  unfold isD inR at h
  rw [Bool.and_eq_true, decide_eq_true_iff, decide_eq_true_iff] at h
  exact h.2
theorem isSg_pos : ∀ b, b < 256 → isSg b = true → 0 < b := by decide +kernel
theorem char256 : ∀ b, b < 256 → ((nI b).toUInt32 % 65536).toInt32 = nI b := by decide +kernel
theorem num_le (B : Nat → Nat) (b : Nat) : ∀ k, (∀ j, j < k → B (b + j) ≤ 57) → num B b k < 10 ^ k
  | 0, _ => Nat.zero_lt_one
  | k + 1, h => by
    have := num_le B b k (fun j hj => h j (by omega))
    have := h k (by omega)
    rw [num, Nat.pow_succ]
    omega
theorem lexT_n0 {B : Nat → Nat} {e b : Nat} (hbe : ¬ b = e) (hB : B b < 256) : ¬ lexT B e b = 0 := by
  unfold lexT
  rw [if_neg hbe]
  split
  · split
    · split
      · rename_i h; exact (isVar_pos h).1
      · decide
    · split
      · decide
      · split
        · decide
        · split <;> decide
  · split
    · split
      · decide
      · rename_i h6
        have hs := spn_ge isD B (e - b) b
        have hn := num_le B b (spn isD B (e - b) b - b) (fun j hj => isD_57 (spn_all isD B (e - b) b (b + j) (by omega) (by omega)))
        have hp : 10 ^ (spn isD B (e - b) b - b) ≤ 10 ^ 6 := Nat.pow_le_pow_right (by decide) (by omega)
        exact nI_ne0 (by omega) (by omega)
    · split
      · rename_i h
        have : 0 < B b := isSg_pos _ hB h
        exact nI_ne0 this (by omega)
      · decide
set_option maxHeartbeats 4000000 in
set_option maxRecDepth 20000 in
theorem cp_takeToken (d : Nat) (sc ar : Nat → Nat → Int32) (sl : Value) (tf : Nat → Option Nat) {B : Nat → Nat} {e : Nat} (hB : tB sc ar B e) {b : Nat} (hb : sc 4 3 = nI b) (hble : b ≤ e) : CP (d + 7) 46 (fun al => [.ref (al 4), .ref (al 1)]) noD (sc) (ar) sl tf (fun res sc2 ar2 => res = some (.int (lexT B e b)) ∧ sc2 = up2 sc 4 3 (nI (lexA B e b)) ∧ ar2 = ar) := by
  refine CP.of pm_X6_takeToken rfl (fun _ => rfl) (fun _ => Nat.le_of_ble_eq_true rfl) ?_
  intro fx al n g0 Q hn36 _ hQ
  show pc fx (px_body pm_X6_takeToken) (d + 6) Q al n g0 (sc) (ar) sl tf 0 [.ref (al 4), .ref (al 1), .float 0] []
  have hB4 := hB.2.1
  refine pc_aload_n dX6_takeToken_0 rfl rfl ?_
  refine pc_getS (c := 4) (v := (nI b)) dX6_takeToken_1 fk_X6_18 (by decide) rfl rfl hb ?_
  refine pc_aload_n dX6_takeToken_4 rfl rfl ?_
  refine pc_getSN (c := 1) (v := (nI e)) dX6_takeToken_5 fk_X6_33 (by decide) rfl rfl hB.1 ?_
  refine pc_icmp_lt (tgt := 13) dX6_takeToken_8 (by decide) (fun c8 => ?_) (fun c8 => ?_)
  ·
    have c89 := Int32.not_le.mpr c8
    have hlt : b < e := (nI_ltI (by omega) (by omega)).mp c8
    have hbe : ¬ b = e := by omega
    have hb6 := (hB.2.2 b hlt).2
    refine pc_aload_n dX6_takeToken_13 rfl rfl ?_
    refine pc_aload_n dX6_takeToken_14 rfl rfl ?_
    refine pc_getS (c := 4) (v := (nI b)) dX6_takeToken_15 fk_X6_18 (by decide) rfl rfl hb ?_
    refine pc_callN (c := 1) (As := fun al => [.int (nI b)]) dX6_takeToken_18 cl_X6_39 (by decide) rfl (cp_hasLetter (d + 5) _ _ _ _ hB (p := b) (by omega)) (fun _ _ => trivial) rfl rfl (Nat.le_of_ble_eq_true rfl) ⟨rfl, rfl⟩ (fun res sc2 ar2 hn => ?_)
    obtain ⟨rfl, rfl, rfl⟩ := hn
    rw [decide_eq_true hlt, Bool.true_and]
    refine pc_if_eq (tgt := 30) dX6_takeToken_21 (by decide) (fun c21 => ?_) (fun c21 => ?_)
    ·
      have hl : isL (B b) = false := zB_0.mp c21
      refine pc_aload_n dX6_takeToken_30 rfl rfl ?_
      refine pc_aload_n dX6_takeToken_31 rfl rfl ?_
      refine pc_getS (c := 4) (v := (nI b)) dX6_takeToken_32 fk_X6_18 (by decide) rfl rfl hb ?_
      refine pc_callN (c := 1) (As := fun al => [.int (nI b)]) dX6_takeToken_35 cl_X6_46 (by decide) rfl (cp_hasDigit (d + 5) _ _ _ _ hB (p := b) (by omega)) (fun _ _ => trivial) rfl rfl (Nat.le_of_ble_eq_true rfl) ⟨rfl, rfl⟩ (fun res sc2 ar2 hn => ?_)
      obtain ⟨rfl, rfl, rfl⟩ := hn
      rw [decide_eq_true hlt, Bool.true_and]
      refine pc_if_eq (tgt := 47) dX6_takeToken_38 (by decide) (fun c38 => ?_) (fun c38 => ?_)
      ·
        have hd : isD (B b) = false := zB_0.mp c38
        refine pc_aload_n dX6_takeToken_47 rfl rfl ?_
        refine pc_getRN (c := 1) (d := 2) dX6_takeToken_48 fk_X6_36 (by decide) rfl rfl ?_
        refine pc_aload_n dX6_takeToken_51 rfl rfl ?_
        refine pc_getS (c := 4) (v := (nI b)) dX6_takeToken_52 fk_X6_18 (by decide) rfl rfl hb ?_
        refine pc_iald (c := 2) (v := (nI (B b))) (j := b) dX6_takeToken_55 (by decide) rfl rfl rfl (by omega) (by decide) (hB.2.2 b hlt).1 ?_
        refine pc_istore_n dX6_takeToken_56 (Nat.le_of_ble_eq_true rfl) ?_
        refine pc_aload_n dX6_takeToken_57 rfl rfl ?_
        refine pc_dup dX6_takeToken_58 rfl ?_
        refine pc_getS (c := 4) (v := (nI b)) dX6_takeToken_59 fk_X6_18 (by decide) rfl rfl hb ?_
        refine pc_iconst dX6_takeToken_62 (show Int32.ofInt (1) = (1) by decide) ?_
        refine pc_iadd dX6_takeToken_63 ?_
        rw [nI_1]
        refine pc_put (c := 4) dX6_takeToken_64 fk_X6_18 (by decide) rfl rfl ⟨_, _, _, rfl, rfl⟩ rfl rfl ?_
        
        refine pc_ldcS (i := 0) dX6_takeToken_67 (List.mem_of_getElem? (i := 0) rfl) ?_
        refine pc_iload_n dX6_takeToken_69 rfl ?_
        refine pc_i2c dX6_takeToken_70 ?_
        rw [char256 _ hb6]
        refine pc_callT (i := 0) dX6_takeToken_71 cl_X6_54 (by decide) (fc_indexOf (d + 2) hb6) rfl rfl (Nat.le_of_ble_eq_true rfl) ⟨rfl, rfl⟩ ?_
        refine pc_if_lt (tgt := 81) dX6_takeToken_74 (by decide) (fun c74 => ?_) (fun c74 => ?_)
        ·
          have c749 := Int32.not_le.mpr c74
          refine pc_bipush dX6_takeToken_81 (show (Int8.ofInt (-2)).toInt32 = (-2) by decide) ?_
          exact pc_iret hQ dX6_takeToken_83 rfl rfl ⟨by rw [lexT_s hbe hl hd, if_neg (by rw [(ixF_sg (B b) hb6).mp c74]; decide)], by rw [lexA_s hbe hl hd], rfl⟩
        ·
          have c749 := Int32.not_lt.mp c74
          refine pc_iload_n dX6_takeToken_77 rfl ?_
          refine pc_goto (tgt := 83) dX6_takeToken_78 (by decide) ?_
          exact pc_iret hQ dX6_takeToken_83 rfl rfl ⟨by rw [lexT_s hbe hl hd, if_pos (Bool.of_not_eq_false (fun z => c74 ((ixF_sg (B b) hb6).mpr z)))], by rw [lexA_s hbe hl hd], rfl⟩
      ·
        refine pc_aload_n dX6_takeToken_41 rfl rfl ?_
        refine pc_aload_n dX6_takeToken_42 rfl rfl ?_
        refine pc_call (c := 4) (As := fun al => [.ref (al 1)]) dX6_takeToken_43 cl_X6_49 (by decide) rfl ((cp_takeNumber d _ _ _ _ hB hb hbe hble hl (zB_n0 c38)).le (by omega)) (fun _ _ => trivial) rfl rfl (Nat.le_of_ble_eq_true rfl) ⟨rfl, rfl⟩ (fun res sc2 ar2 hn => ?_)
        obtain ⟨rfl, rfl, rfl⟩ := hn
        exact pc_iret hQ dX6_takeToken_46 rfl rfl ⟨rfl, by rw [lexA_d hbe hl (zB_n0 c38)], rfl⟩
    ·
      refine pc_aload_n dX6_takeToken_24 rfl rfl ?_
      refine pc_aload_n dX6_takeToken_25 rfl rfl ?_
      refine pc_call (c := 4) (As := fun al => [.ref (al 1)]) dX6_takeToken_26 cl_X6_43 (by decide) rfl (cp_takeWord d _ _ _ _ hB hb hbe hble (zB_n0 c21)) (fun _ _ => trivial) rfl rfl (Nat.le_of_ble_eq_true rfl) ⟨rfl, rfl⟩ (fun res sc2 ar2 hn => ?_)
      obtain ⟨rfl, rfl, rfl⟩ := hn
      exact pc_iret hQ dX6_takeToken_29 rfl rfl ⟨rfl, by rw [lexA_l hbe (zB_n0 c21)], rfl⟩
  ·
    have c89 := Int32.not_lt.mp c8
    refine pc_iconst dX6_takeToken_11 (show Int32.ofInt (0) = (0) by decide) ?_
    have hbe : b = e := by
      have := (nI_leI (a := e) (b := b) (by omega) (by omega)).mp c89
      omega
    exact pc_iret hQ dX6_takeToken_12 rfl rfl ⟨by rw [lexT_end hbe], by rw [show lexA B e b = b from if_pos hbe, ← hb, up2_id], rfl⟩
def scR (sc sc1 : Nat → Nat → Int32) : Prop := ∀ c k, ¬ (c = 4 ∧ (k = 2 ∨ k = 3)) → sc1 c k = sc c k
theorem scR.up {sc sc1 : Nat → Nat → Int32} (h : scR sc sc1) {k : Nat} {v : Int32} (hk : k = 2 ∨ k = 3) : scR sc (up2 sc1 4 k v) := fun c j hc => by
  unfold up2
  by_cases e : c = 4
  · subst e
    rw [va_up_self, pk_un (show j ≠ k from fun z => hc ⟨rfl, z ▸ hk⟩)]
    exact h 4 j hc
  · rw [va_up_ne _ _ e]; exact h c j hc
/-- the scanner's tokens behind a scan: N of them, and what ended them -/
def scN (B : Nat → Nat) (e : Nat) (sc ar : Nat → Nat → Int32) (N : Nat) (sc2 ar2 : Nat → Nat → Int32) : Prop := N ≤ 120 ∧ (∀ j, j < N → ¬ tk B e j = 0 ∧ ¬ tk B e j = -2) ∧ (tk B e N = 0 ∨ tk B e N = -2) ∧ scR sc sc2 ∧ sc2 4 2 = nI N ∧ (∀ a, a ≠ 5 → a ≠ 6 → ar2 a = ar a) ∧ ∀ j, j ≤ N → ar2 5 j = tk B e j ∧ ar2 6 j = nI (ps B e j)
def psB (B : Nat → Nat) (e : Nat) : Nat → Nat
  | 0 => 0
  | i + 1 => lexA B e (ps B e i)
theorem ps_psB (B : Nat → Nat) (e : Nat) : ∀ i, ps B e i = spn isBl B (e - psB B e i) (psB B e i)
  | 0 => rfl
  | _ + 1 => rfl
theorem psB_le (B : Nat → Nat) (e : Nat) : ∀ i, psB B e i ≤ e
  | 0 => Nat.zero_le _
  | i + 1 => (lexA_le (ps_le B e i)).2
theorem scn_tk {B : Nat → Nat} {e i : Nat} {ar1 arF : Nat → Nat → Int32} (h5 : arF 5 = upd (ar1 5) i (tk B e i)) (h6 : arF 6 = upd (ar1 6) i (nI (ps B e i))) (hT : ∀ j, j < i → ar1 5 j = tk B e j ∧ ar1 6 j = nI (ps B e j)) : ∀ j, j < i + 1 → arF 5 j = tk B e j ∧ arF 6 j = nI (ps B e j) := by
  intro j hj
  rw [h5, h6]
  by_cases ej : j = i
  · subst ej; rw [pk_us, pk_us]; exact ⟨rfl, rfl⟩
  · rw [pk_un ej, pk_un ej]; exact hT j (by omega)
set_option maxHeartbeats 4000000 in
set_option maxRecDepth 20000 in
theorem cl_scan {fx : px_F} {dd : Nat} {Q : px_Q} {al : Nat → Nat} {n : Nat} {g0 : Nat → px_O} {sc ar : Nat → Nat → Int32} {sl : Value} {tf : Nat → Option Nat} {B : Nat → Nat} {e : Nat} (hB : tB sc ar B e) : ∀ (m i : Nat) (sc1 ar1 : Nat → Nat → Int32), i + m = 120 → scR sc sc1 → sc1 4 3 = nI (psB B e i) → (∀ a, a ≠ 5 → a ≠ 6 → ar1 a = ar a) → (∀ j, j < i → ar1 5 j = tk B e j ∧ ar1 6 j = nI (ps B e j)) → (∀ j, j < i → ¬ tk B e j = 0 ∧ ¬ tk B e j = -2) → (∀ res sc2 ar2 g2, (fun res sc2 ar2 => res = none ∧ ∃ N, scN B e sc ar N sc2 ar2) res sc2 ar2 → CR al n g2 sc2 ar2 sl tf → cfr g0 g2 → Q (.inl res) al n g2) → pc fx (px_body pm_X6_scan) (dd + 7) Q al n g0 (sc1) (ar1) sl tf 9 [.ref (al 4), .ref (al 1), .int 1, .int (nI i)] []
  | m, i, sc1, ar1, hi, hsc, h43, har, hT, hN, hQ => by
    have hB4 := hB.2.1
    have hB1 : tB sc1 ar1 B e := ⟨(hsc 1 1 (by omega)).trans hB.1, hB4, fun j hj => by rw [har 2 (by decide) (by decide)]; exact hB.2.2 j hj⟩
    have hpb := psB_le B e i
    have hpl := ps_le B e i
    refine pc_iload_n dX6_scan_9 rfl ?_
    refine pc_bipush dX6_scan_10 (show (Int8.ofInt (120)).toInt32 = (120) by decide) ?_
    refine pc_icmp_gt (tgt := 105) dX6_scan_12 (by decide) (fun c12 => absurd c12 (nI_nlt (a := 120) (b := i) (by omega) (by decide))) (fun c12 => ?_)
    refine pc_iload_n dX6_scan_15 rfl ?_
    refine pc_if_eq (tgt := 105) dX6_scan_16 (by decide) (fun c16 => absurd c16 (by decide)) (fun _ => ?_)
    refine pc_aload_n dX6_scan_19 rfl rfl ?_
    refine pc_aload_n dX6_scan_20 rfl rfl ?_
    refine pc_call (c := 4) (As := fun al => [.ref (al 1)]) dX6_scan_21 cl_X6_22 (by decide) rfl ((cp_passBlanks 0 sc1 ar1 sl tf hB1 h43 hpb).le (by omega)) (fun _ _ => trivial) rfl rfl (Nat.le_of_ble_eq_true rfl) ⟨rfl, rfl⟩ (fun res sc2 ar2 hn => ?_)
    obtain ⟨rfl, rfl, h9⟩ := hn
    subst ar2
    rw [← ps_psB]
    refine pc_aload_n dX6_scan_24 rfl rfl ?_
    refine pc_iload_n dX6_scan_25 rfl ?_
    refine pc_put (c := 4) dX6_scan_26 fk_X6_26 (by decide) rfl rfl ⟨_, _, _, rfl, rfl⟩ rfl rfl ?_
    refine pc_aload_n dX6_scan_29 rfl rfl ?_
    refine pc_getR (c := 4) (d := 6) dX6_scan_30 fk_X6_15 (by decide) rfl rfl ?_
    refine pc_iload_n dX6_scan_33 rfl ?_
    refine pc_aload_n dX6_scan_34 rfl rfl ?_
    refine pc_getS (c := 4) (v := (nI (ps B e i))) dX6_scan_35 fk_X6_18 (by decide) rfl rfl rfl ?_
    refine pc_iast (c := 6) (j := i) dX6_scan_38 (by decide) rfl rfl rfl (by omega) (by decide) ?_
    refine pc_aload_n dX6_scan_39 rfl rfl ?_
    refine pc_getR (c := 4) (d := 5) dX6_scan_40 fk_X6_9 (by decide) rfl rfl ?_
    refine pc_iload_n dX6_scan_43 rfl ?_
    refine pc_aload_n dX6_scan_44 rfl rfl ?_
    refine pc_aload_n dX6_scan_45 rfl rfl ?_
    refine pc_call (c := 4) (As := fun al => [.ref (al 1)]) dX6_scan_46 cl_X6_29 (by decide) rfl (cp_takeToken dd (up2 (up2 sc1 4 3 (nI (ps B e i))) 4 2 (nI i)) (va_up ar1 6 (upd (ar1 6) i (nI (ps B e i)))) sl tf (B := B) (e := e) ⟨hB1.1, hB4, hB1.2.2⟩ (b := ps B e i) rfl hpl) (fun _ _ => trivial) rfl rfl (Nat.le_of_ble_eq_true rfl) ⟨rfl, rfl⟩ (fun res sc2 ar2 hn => ?_)
    obtain ⟨rfl, rfl, rfl⟩ := hn
    refine pc_iast (c := 5) (j := i) dX6_scan_49 (by decide) rfl rfl rfl (by omega) (by decide) ?_
    refine pc_iload_n dX6_scan_50 rfl ?_
    refine pc_bipush dX6_scan_51 (show (Int8.ofInt (120)).toInt32 = (120) by decide) ?_
    refine pc_icmp_ne (tgt := 73) dX6_scan_53 (by decide) (fun c53 => ?_) (fun c53 => ?_)
    ·
      refine pc_aload_n dX6_scan_73 rfl rfl ?_
      refine pc_getR (c := 4) (d := 5) dX6_scan_74 fk_X6_9 (by decide) rfl rfl ?_
      refine pc_iload_n dX6_scan_77 rfl ?_
      refine pc_iald (c := 5) (v := (lexT B e (ps B e i))) (j := i) dX6_scan_78 (by decide) rfl rfl rfl (by omega) (by decide) (by rw [va_up_self, pk_us]) ?_
      refine pc_if_eq (tgt := 97) dX6_scan_79 (by decide) (fun c79 => ?_) (fun c79 => ?_)
      ·
        refine pc_iconst dX6_scan_97 (show Int32.ofInt (0) = (0) by decide) ?_
        refine pc_istore_n dX6_scan_98 (Nat.le_of_ble_eq_true rfl) ?_
        refine pc_iinc dX6_scan_99 rfl (show Int32.ofInt (1) = (1) by decide) ?_
        refine pc_goto (tgt := 9) dX6_scan_102 (by decide) ?_
        have htk : tk B e i = lexT B e (ps B e i) := if_neg (fun z => c53 (by rw [z.1]; rfl))
        rw [nI_1]
        have h5 : (va_up (va_up ar1 6 (upd (ar1 6) i (nI (ps B e i)))) 5 (upd ((va_up ar1 6 (upd (ar1 6) i (nI (ps B e i)))) 5) i (lexT B e (ps B e i)))) 5 = upd (ar1 5) i (tk B e i) := by
          rw [htk]
          rfl
        have hTT := scn_tk (arF := (va_up (va_up ar1 6 (upd (ar1 6) i (nI (ps B e i)))) 5 (upd ((va_up ar1 6 (upd (ar1 6) i (nI (ps B e i)))) 5) i (lexT B e (ps B e i))))) h5 rfl hT
        have hpost : ∃ N, scN B e sc ar N (up2 (up2 (up2 sc1 4 3 (nI (ps B e i))) 4 2 (nI i)) 4 3 (nI (lexA B e (ps B e i)))) (va_up (va_up ar1 6 (upd (ar1 6) i (nI (ps B e i)))) 5 (upd ((va_up ar1 6 (upd (ar1 6) i (nI (ps B e i)))) 5) i (lexT B e (ps B e i)))) := ⟨i, by omega, hN, Or.inl (by rw [htk]; exact c79), (((hsc.up (Or.inr rfl)).up (Or.inl rfl)).up (Or.inr rfl)), rfl, (fun a a5 a6 => (va_up_ne _ _ a5).trans ((va_up_ne _ _ a6).trans (har a a5 a6))), fun j hj => hTT j (by omega)⟩
        refine (?_ : pc fx (px_body pm_X6_scan) (dd + 7) Q al n g0 (up2 (up2 (up2 sc1 4 3 (nI (ps B e i))) 4 2 (nI i)) 4 3 (nI (lexA B e (ps B e i)))) (va_up (va_up ar1 6 (upd (ar1 6) i (nI (ps B e i)))) 5 (upd ((va_up ar1 6 (upd (ar1 6) i (nI (ps B e i)))) 5) i (lexT B e (ps B e i)))) sl tf 9 [.ref (al 4), .ref (al 1), .int 0, .int (nI (i + 1))] [])
        refine pc_iload_n dX6_scan_9 rfl ?_
        refine pc_bipush dX6_scan_10 (show (Int8.ofInt (120)).toInt32 = (120) by decide) ?_
        refine pc_icmp_gt (tgt := 105) dX6_scan_12 (by decide) (fun c12 => ?_) (fun c12 => ?_)
        ·
          have c129 := Int32.not_le.mpr c12
          exact pc_vret hQ dX6_scan_105 rfl ⟨rfl, hpost⟩
        ·
          have c129 := Int32.not_lt.mp c12
          refine pc_iload_n dX6_scan_15 rfl ?_
          refine pc_if_eq (tgt := 105) dX6_scan_16 (by decide) (fun _ => ?_) (fun c16 => absurd c16 (by decide))
          exact pc_vret hQ dX6_scan_105 rfl ⟨rfl, hpost⟩
      ·
        refine pc_aload_n dX6_scan_82 rfl rfl ?_
        refine pc_getR (c := 4) (d := 5) dX6_scan_83 fk_X6_9 (by decide) rfl rfl ?_
        refine pc_iload_n dX6_scan_86 rfl ?_
        refine pc_iald (c := 5) (v := (lexT B e (ps B e i))) (j := i) dX6_scan_87 (by decide) rfl rfl rfl (by omega) (by decide) (by rw [va_up_self, pk_us]) ?_
        refine pc_bipush dX6_scan_88 (show (Int8.ofInt (-2)).toInt32 = (-2) by decide) ?_
        refine pc_icmp_eq (tgt := 97) dX6_scan_90 (by decide) (fun c90 => ?_) (fun c90 => ?_)
        ·
          refine pc_iconst dX6_scan_97 (show Int32.ofInt (0) = (0) by decide) ?_
          refine pc_istore_n dX6_scan_98 (Nat.le_of_ble_eq_true rfl) ?_
          refine pc_iinc dX6_scan_99 rfl (show Int32.ofInt (1) = (1) by decide) ?_
          refine pc_goto (tgt := 9) dX6_scan_102 (by decide) ?_
          have htk : tk B e i = lexT B e (ps B e i) := if_neg (fun z => c53 (by rw [z.1]; rfl))
          rw [nI_1]
          have h5 : (va_up (va_up ar1 6 (upd (ar1 6) i (nI (ps B e i)))) 5 (upd ((va_up ar1 6 (upd (ar1 6) i (nI (ps B e i)))) 5) i (lexT B e (ps B e i)))) 5 = upd (ar1 5) i (tk B e i) := by
            rw [htk]
            rfl
          have hTT := scn_tk (arF := (va_up (va_up ar1 6 (upd (ar1 6) i (nI (ps B e i)))) 5 (upd ((va_up ar1 6 (upd (ar1 6) i (nI (ps B e i)))) 5) i (lexT B e (ps B e i))))) h5 rfl hT
          have hpost : ∃ N, scN B e sc ar N (up2 (up2 (up2 sc1 4 3 (nI (ps B e i))) 4 2 (nI i)) 4 3 (nI (lexA B e (ps B e i)))) (va_up (va_up ar1 6 (upd (ar1 6) i (nI (ps B e i)))) 5 (upd ((va_up ar1 6 (upd (ar1 6) i (nI (ps B e i)))) 5) i (lexT B e (ps B e i)))) := ⟨i, by omega, hN, Or.inr (by rw [htk]; exact c90), (((hsc.up (Or.inr rfl)).up (Or.inl rfl)).up (Or.inr rfl)), rfl, (fun a a5 a6 => (va_up_ne _ _ a5).trans ((va_up_ne _ _ a6).trans (har a a5 a6))), fun j hj => hTT j (by omega)⟩
          refine (?_ : pc fx (px_body pm_X6_scan) (dd + 7) Q al n g0 (up2 (up2 (up2 sc1 4 3 (nI (ps B e i))) 4 2 (nI i)) 4 3 (nI (lexA B e (ps B e i)))) (va_up (va_up ar1 6 (upd (ar1 6) i (nI (ps B e i)))) 5 (upd ((va_up ar1 6 (upd (ar1 6) i (nI (ps B e i)))) 5) i (lexT B e (ps B e i)))) sl tf 9 [.ref (al 4), .ref (al 1), .int 0, .int (nI (i + 1))] [])
          refine pc_iload_n dX6_scan_9 rfl ?_
          refine pc_bipush dX6_scan_10 (show (Int8.ofInt (120)).toInt32 = (120) by decide) ?_
          refine pc_icmp_gt (tgt := 105) dX6_scan_12 (by decide) (fun c12 => ?_) (fun c12 => ?_)
          ·
            have c129 := Int32.not_le.mpr c12
            exact pc_vret hQ dX6_scan_105 rfl ⟨rfl, hpost⟩
          ·
            have c129 := Int32.not_lt.mp c12
            refine pc_iload_n dX6_scan_15 rfl ?_
            refine pc_if_eq (tgt := 105) dX6_scan_16 (by decide) (fun _ => ?_) (fun c16 => absurd c16 (by decide))
            exact pc_vret hQ dX6_scan_105 rfl ⟨rfl, hpost⟩
        ·
          refine pc_iconst dX6_scan_93 (show Int32.ofInt (1) = (1) by decide) ?_
          refine pc_goto (tgt := 98) dX6_scan_94 (by decide) ?_
          refine pc_istore_n dX6_scan_98 (Nat.le_of_ble_eq_true rfl) ?_
          refine pc_iinc dX6_scan_99 rfl (show Int32.ofInt (1) = (1) by decide) ?_
          refine pc_goto (tgt := 9) dX6_scan_102 (by decide) ?_
          have htk : tk B e i = lexT B e (ps B e i) := if_neg (fun z => c53 (by rw [z.1]; rfl))
          rw [nI_1]
          have h5 : (va_up (va_up ar1 6 (upd (ar1 6) i (nI (ps B e i)))) 5 (upd ((va_up ar1 6 (upd (ar1 6) i (nI (ps B e i)))) 5) i (lexT B e (ps B e i)))) 5 = upd (ar1 5) i (tk B e i) := by
            rw [htk]
            rfl
          have hTT := scn_tk (arF := (va_up (va_up ar1 6 (upd (ar1 6) i (nI (ps B e i)))) 5 (upd ((va_up ar1 6 (upd (ar1 6) i (nI (ps B e i)))) 5) i (lexT B e (ps B e i))))) h5 rfl hT
          have hi120 : ¬ i = 120 := fun z => by
            subst z
            rcases tk_120 (B := B) (e := e) with h | h
            · exact c79 (htk ▸ h)
            · exact c90 (htk ▸ h)
          exact cl_scan hB (m - 1) (i + 1) _ _ (by omega) (((hsc.up (Or.inr rfl)).up (Or.inl rfl)).up (Or.inr rfl)) rfl (fun a a5 a6 => (va_up_ne _ _ a5).trans ((va_up_ne _ _ a6).trans (har a a5 a6))) hTT (fun j hj => by
              by_cases ej : j = i
              · subst ej; rw [htk]; exact ⟨c79, c90⟩
              · exact hN j (by omega)) hQ
    ·
      refine pc_aload_n dX6_scan_56 rfl rfl ?_
      refine pc_getR (c := 4) (d := 5) dX6_scan_57 fk_X6_9 (by decide) rfl rfl ?_
      refine pc_iload_n dX6_scan_60 rfl ?_
      refine pc_iald (c := 5) (v := (lexT B e (ps B e i))) (j := i) dX6_scan_61 (by decide) rfl rfl rfl (by omega) (by decide) (by rw [va_up_self, pk_us]) ?_
      refine pc_if_eq (tgt := 73) dX6_scan_62 (by decide) (fun c62 => ?_) (fun c62 => ?_)
      ·
        refine pc_aload_n dX6_scan_73 rfl rfl ?_
        refine pc_getR (c := 4) (d := 5) dX6_scan_74 fk_X6_9 (by decide) rfl rfl ?_
        refine pc_iload_n dX6_scan_77 rfl ?_
        refine pc_iald (c := 5) (v := (lexT B e (ps B e i))) (j := i) dX6_scan_78 (by decide) rfl rfl rfl (by omega) (by decide) (by rw [va_up_self, pk_us]) ?_
        refine pc_if_eq (tgt := 97) dX6_scan_79 (by decide) (fun c79 => ?_) (fun c79 => ?_)
        ·
          refine pc_iconst dX6_scan_97 (show Int32.ofInt (0) = (0) by decide) ?_
          refine pc_istore_n dX6_scan_98 (Nat.le_of_ble_eq_true rfl) ?_
          refine pc_iinc dX6_scan_99 rfl (show Int32.ofInt (1) = (1) by decide) ?_
          refine pc_goto (tgt := 9) dX6_scan_102 (by decide) ?_
          have htk : tk B e i = lexT B e (ps B e i) := if_neg (fun z => absurd c62 (lexT_n0 z.2 (hB.2.2 _ (by omega)).2))
          rw [nI_1]
          have h5 : (va_up (va_up ar1 6 (upd (ar1 6) i (nI (ps B e i)))) 5 (upd ((va_up ar1 6 (upd (ar1 6) i (nI (ps B e i)))) 5) i (lexT B e (ps B e i)))) 5 = upd (ar1 5) i (tk B e i) := by
            rw [htk]
            rfl
          have hTT := scn_tk (arF := (va_up (va_up ar1 6 (upd (ar1 6) i (nI (ps B e i)))) 5 (upd ((va_up ar1 6 (upd (ar1 6) i (nI (ps B e i)))) 5) i (lexT B e (ps B e i))))) h5 rfl hT
          have hpost : ∃ N, scN B e sc ar N (up2 (up2 (up2 sc1 4 3 (nI (ps B e i))) 4 2 (nI i)) 4 3 (nI (lexA B e (ps B e i)))) (va_up (va_up ar1 6 (upd (ar1 6) i (nI (ps B e i)))) 5 (upd ((va_up ar1 6 (upd (ar1 6) i (nI (ps B e i)))) 5) i (lexT B e (ps B e i)))) := ⟨i, by omega, hN, Or.inl (by rw [htk]; exact c79), (((hsc.up (Or.inr rfl)).up (Or.inl rfl)).up (Or.inr rfl)), rfl, (fun a a5 a6 => (va_up_ne _ _ a5).trans ((va_up_ne _ _ a6).trans (har a a5 a6))), fun j hj => hTT j (by omega)⟩
          refine (?_ : pc fx (px_body pm_X6_scan) (dd + 7) Q al n g0 (up2 (up2 (up2 sc1 4 3 (nI (ps B e i))) 4 2 (nI i)) 4 3 (nI (lexA B e (ps B e i)))) (va_up (va_up ar1 6 (upd (ar1 6) i (nI (ps B e i)))) 5 (upd ((va_up ar1 6 (upd (ar1 6) i (nI (ps B e i)))) 5) i (lexT B e (ps B e i)))) sl tf 9 [.ref (al 4), .ref (al 1), .int 0, .int (nI (i + 1))] [])
          refine pc_iload_n dX6_scan_9 rfl ?_
          refine pc_bipush dX6_scan_10 (show (Int8.ofInt (120)).toInt32 = (120) by decide) ?_
          refine pc_icmp_gt (tgt := 105) dX6_scan_12 (by decide) (fun c12 => ?_) (fun c12 => ?_)
          ·
            have c129 := Int32.not_le.mpr c12
            exact pc_vret hQ dX6_scan_105 rfl ⟨rfl, hpost⟩
          ·
            have c129 := Int32.not_lt.mp c12
            refine pc_iload_n dX6_scan_15 rfl ?_
            refine pc_if_eq (tgt := 105) dX6_scan_16 (by decide) (fun _ => ?_) (fun c16 => absurd c16 (by decide))
            exact pc_vret hQ dX6_scan_105 rfl ⟨rfl, hpost⟩
        ·
          refine pc_aload_n dX6_scan_82 rfl rfl ?_
          refine pc_getR (c := 4) (d := 5) dX6_scan_83 fk_X6_9 (by decide) rfl rfl ?_
          refine pc_iload_n dX6_scan_86 rfl ?_
          refine pc_iald (c := 5) (v := (lexT B e (ps B e i))) (j := i) dX6_scan_87 (by decide) rfl rfl rfl (by omega) (by decide) (by rw [va_up_self, pk_us]) ?_
          refine pc_bipush dX6_scan_88 (show (Int8.ofInt (-2)).toInt32 = (-2) by decide) ?_
          refine pc_icmp_eq (tgt := 97) dX6_scan_90 (by decide) (fun c90 => ?_) (fun c90 => ?_)
          ·
            refine pc_iconst dX6_scan_97 (show Int32.ofInt (0) = (0) by decide) ?_
            refine pc_istore_n dX6_scan_98 (Nat.le_of_ble_eq_true rfl) ?_
            refine pc_iinc dX6_scan_99 rfl (show Int32.ofInt (1) = (1) by decide) ?_
            refine pc_goto (tgt := 9) dX6_scan_102 (by decide) ?_
            have htk : tk B e i = lexT B e (ps B e i) := if_neg (fun z => absurd c62 (lexT_n0 z.2 (hB.2.2 _ (by omega)).2))
            rw [nI_1]
            have h5 : (va_up (va_up ar1 6 (upd (ar1 6) i (nI (ps B e i)))) 5 (upd ((va_up ar1 6 (upd (ar1 6) i (nI (ps B e i)))) 5) i (lexT B e (ps B e i)))) 5 = upd (ar1 5) i (tk B e i) := by
              rw [htk]
              rfl
            have hTT := scn_tk (arF := (va_up (va_up ar1 6 (upd (ar1 6) i (nI (ps B e i)))) 5 (upd ((va_up ar1 6 (upd (ar1 6) i (nI (ps B e i)))) 5) i (lexT B e (ps B e i))))) h5 rfl hT
            have hpost : ∃ N, scN B e sc ar N (up2 (up2 (up2 sc1 4 3 (nI (ps B e i))) 4 2 (nI i)) 4 3 (nI (lexA B e (ps B e i)))) (va_up (va_up ar1 6 (upd (ar1 6) i (nI (ps B e i)))) 5 (upd ((va_up ar1 6 (upd (ar1 6) i (nI (ps B e i)))) 5) i (lexT B e (ps B e i)))) := ⟨i, by omega, hN, Or.inr (by rw [htk]; exact c90), (((hsc.up (Or.inr rfl)).up (Or.inl rfl)).up (Or.inr rfl)), rfl, (fun a a5 a6 => (va_up_ne _ _ a5).trans ((va_up_ne _ _ a6).trans (har a a5 a6))), fun j hj => hTT j (by omega)⟩
            refine (?_ : pc fx (px_body pm_X6_scan) (dd + 7) Q al n g0 (up2 (up2 (up2 sc1 4 3 (nI (ps B e i))) 4 2 (nI i)) 4 3 (nI (lexA B e (ps B e i)))) (va_up (va_up ar1 6 (upd (ar1 6) i (nI (ps B e i)))) 5 (upd ((va_up ar1 6 (upd (ar1 6) i (nI (ps B e i)))) 5) i (lexT B e (ps B e i)))) sl tf 9 [.ref (al 4), .ref (al 1), .int 0, .int (nI (i + 1))] [])
            refine pc_iload_n dX6_scan_9 rfl ?_
            refine pc_bipush dX6_scan_10 (show (Int8.ofInt (120)).toInt32 = (120) by decide) ?_
            refine pc_icmp_gt (tgt := 105) dX6_scan_12 (by decide) (fun c12 => ?_) (fun c12 => ?_)
            ·
              have c129 := Int32.not_le.mpr c12
              exact pc_vret hQ dX6_scan_105 rfl ⟨rfl, hpost⟩
            ·
              have c129 := Int32.not_lt.mp c12
              refine pc_iload_n dX6_scan_15 rfl ?_
              refine pc_if_eq (tgt := 105) dX6_scan_16 (by decide) (fun _ => ?_) (fun c16 => absurd c16 (by decide))
              exact pc_vret hQ dX6_scan_105 rfl ⟨rfl, hpost⟩
          ·
            refine pc_iconst dX6_scan_93 (show Int32.ofInt (1) = (1) by decide) ?_
            refine pc_goto (tgt := 98) dX6_scan_94 (by decide) ?_
            refine pc_istore_n dX6_scan_98 (Nat.le_of_ble_eq_true rfl) ?_
            refine pc_iinc dX6_scan_99 rfl (show Int32.ofInt (1) = (1) by decide) ?_
            refine pc_goto (tgt := 9) dX6_scan_102 (by decide) ?_
            have htk : tk B e i = lexT B e (ps B e i) := if_neg (fun z => absurd c62 (lexT_n0 z.2 (hB.2.2 _ (by omega)).2))
            rw [nI_1]
            have h5 : (va_up (va_up ar1 6 (upd (ar1 6) i (nI (ps B e i)))) 5 (upd ((va_up ar1 6 (upd (ar1 6) i (nI (ps B e i)))) 5) i (lexT B e (ps B e i)))) 5 = upd (ar1 5) i (tk B e i) := by
              rw [htk]
              rfl
            have hTT := scn_tk (arF := (va_up (va_up ar1 6 (upd (ar1 6) i (nI (ps B e i)))) 5 (upd ((va_up ar1 6 (upd (ar1 6) i (nI (ps B e i)))) 5) i (lexT B e (ps B e i))))) h5 rfl hT
            have hi120 : ¬ i = 120 := fun z => by
              subst z
              rcases tk_120 (B := B) (e := e) with h | h
              · exact c79 (htk ▸ h)
              · exact c90 (htk ▸ h)
            exact cl_scan hB (m - 1) (i + 1) _ _ (by omega) (((hsc.up (Or.inr rfl)).up (Or.inl rfl)).up (Or.inr rfl)) rfl (fun a a5 a6 => (va_up_ne _ _ a5).trans ((va_up_ne _ _ a6).trans (har a a5 a6))) hTT (fun j hj => by
                by_cases ej : j = i
                · subst ej; rw [htk]; exact ⟨c79, c90⟩
                · exact hN j (by omega)) hQ
      ·
        refine pc_aload_n dX6_scan_65 rfl rfl ?_
        refine pc_getR (c := 4) (d := 5) dX6_scan_66 fk_X6_9 (by decide) rfl rfl ?_
        refine pc_iload_n dX6_scan_69 rfl ?_
        refine pc_bipush dX6_scan_70 (show (Int8.ofInt (-2)).toInt32 = (-2) by decide) ?_
        refine pc_iast (c := 5) (j := i) dX6_scan_72 (by decide) rfl rfl rfl (by omega) (by decide) ?_
        refine pc_aload_n dX6_scan_73 rfl rfl ?_
        refine pc_getR (c := 4) (d := 5) dX6_scan_74 fk_X6_9 (by decide) rfl rfl ?_
        refine pc_iload_n dX6_scan_77 rfl ?_
        refine pc_iald (c := 5) (v := (-2)) (j := i) dX6_scan_78 (by decide) rfl rfl rfl (by omega) (by decide) (by rw [va_up_self, pk_us]) ?_
        refine pc_if_eq (tgt := 97) dX6_scan_79 (by decide) (fun c79 => absurd c79 (by decide)) (fun _ => ?_)
        refine pc_aload_n dX6_scan_82 rfl rfl ?_
        refine pc_getR (c := 4) (d := 5) dX6_scan_83 fk_X6_9 (by decide) rfl rfl ?_
        refine pc_iload_n dX6_scan_86 rfl ?_
        refine pc_iald (c := 5) (v := (-2)) (j := i) dX6_scan_87 (by decide) rfl rfl rfl (by omega) (by decide) (by rw [va_up_self, pk_us]) ?_
        refine pc_bipush dX6_scan_88 (show (Int8.ofInt (-2)).toInt32 = (-2) by decide) ?_
        refine pc_icmp_eq (tgt := 97) dX6_scan_90 (by decide) (fun c90 => ?_) (fun c90 => ?_)
        ·
          refine pc_iconst dX6_scan_97 (show Int32.ofInt (0) = (0) by decide) ?_
          refine pc_istore_n dX6_scan_98 (Nat.le_of_ble_eq_true rfl) ?_
          refine pc_iinc dX6_scan_99 rfl (show Int32.ofInt (1) = (1) by decide) ?_
          refine pc_goto (tgt := 9) dX6_scan_102 (by decide) ?_
          have h120 : i = 120 := (nI_eq (a := i) (b := 120) (by omega) (by decide)).mp c53
          have htk : tk B e i = -2 := if_pos ⟨h120, fun z => c62 (lexT_end z)⟩
          rw [nI_1]
          have h5 : (va_up (va_up (va_up ar1 6 (upd (ar1 6) i (nI (ps B e i)))) 5 (upd ((va_up ar1 6 (upd (ar1 6) i (nI (ps B e i)))) 5) i (lexT B e (ps B e i)))) 5 (upd ((va_up (va_up ar1 6 (upd (ar1 6) i (nI (ps B e i)))) 5 (upd ((va_up ar1 6 (upd (ar1 6) i (nI (ps B e i)))) 5) i (lexT B e (ps B e i)))) 5) i (-2))) 5 = upd (ar1 5) i (tk B e i) := by
            rw [htk]
            show upd (upd (ar1 5) i (lexT B e (ps B e i))) i (-2) = _
            exact upd_upd _ _ _ _
          have hTT := scn_tk (arF := (va_up (va_up (va_up ar1 6 (upd (ar1 6) i (nI (ps B e i)))) 5 (upd ((va_up ar1 6 (upd (ar1 6) i (nI (ps B e i)))) 5) i (lexT B e (ps B e i)))) 5 (upd ((va_up (va_up ar1 6 (upd (ar1 6) i (nI (ps B e i)))) 5 (upd ((va_up ar1 6 (upd (ar1 6) i (nI (ps B e i)))) 5) i (lexT B e (ps B e i)))) 5) i (-2)))) h5 rfl hT
          have hpost : ∃ N, scN B e sc ar N (up2 (up2 (up2 sc1 4 3 (nI (ps B e i))) 4 2 (nI i)) 4 3 (nI (lexA B e (ps B e i)))) (va_up (va_up (va_up ar1 6 (upd (ar1 6) i (nI (ps B e i)))) 5 (upd ((va_up ar1 6 (upd (ar1 6) i (nI (ps B e i)))) 5) i (lexT B e (ps B e i)))) 5 (upd ((va_up (va_up ar1 6 (upd (ar1 6) i (nI (ps B e i)))) 5 (upd ((va_up ar1 6 (upd (ar1 6) i (nI (ps B e i)))) 5) i (lexT B e (ps B e i)))) 5) i (-2))) := ⟨i, by omega, hN, Or.inr htk, (((hsc.up (Or.inr rfl)).up (Or.inl rfl)).up (Or.inr rfl)), rfl, (fun a a5 a6 => (va_up_ne _ _ a5).trans ((va_up_ne _ _ a5).trans ((va_up_ne _ _ a6).trans (har a a5 a6)))), fun j hj => hTT j (by omega)⟩
          refine (?_ : pc fx (px_body pm_X6_scan) (dd + 7) Q al n g0 (up2 (up2 (up2 sc1 4 3 (nI (ps B e i))) 4 2 (nI i)) 4 3 (nI (lexA B e (ps B e i)))) (va_up (va_up (va_up ar1 6 (upd (ar1 6) i (nI (ps B e i)))) 5 (upd ((va_up ar1 6 (upd (ar1 6) i (nI (ps B e i)))) 5) i (lexT B e (ps B e i)))) 5 (upd ((va_up (va_up ar1 6 (upd (ar1 6) i (nI (ps B e i)))) 5 (upd ((va_up ar1 6 (upd (ar1 6) i (nI (ps B e i)))) 5) i (lexT B e (ps B e i)))) 5) i (-2))) sl tf 9 [.ref (al 4), .ref (al 1), .int 0, .int (nI (i + 1))] [])
          refine pc_iload_n dX6_scan_9 rfl ?_
          refine pc_bipush dX6_scan_10 (show (Int8.ofInt (120)).toInt32 = (120) by decide) ?_
          refine pc_icmp_gt (tgt := 105) dX6_scan_12 (by decide) (fun c12 => ?_) (fun c12 => ?_)
          ·
            have c129 := Int32.not_le.mpr c12
            exact pc_vret hQ dX6_scan_105 rfl ⟨rfl, hpost⟩
          ·
            have c129 := Int32.not_lt.mp c12
            refine pc_iload_n dX6_scan_15 rfl ?_
            refine pc_if_eq (tgt := 105) dX6_scan_16 (by decide) (fun _ => ?_) (fun c16 => absurd c16 (by decide))
            exact pc_vret hQ dX6_scan_105 rfl ⟨rfl, hpost⟩
        ·
          refine pc_iconst dX6_scan_93 (show Int32.ofInt (1) = (1) by decide) ?_
          refine pc_goto (tgt := 98) dX6_scan_94 (by decide) ?_
          refine pc_istore_n dX6_scan_98 (Nat.le_of_ble_eq_true rfl) ?_
          refine pc_iinc dX6_scan_99 rfl (show Int32.ofInt (1) = (1) by decide) ?_
          refine pc_goto (tgt := 9) dX6_scan_102 (by decide) ?_
          exact absurd rfl c90
set_option maxHeartbeats 4000000 in
set_option maxRecDepth 20000 in
theorem cp_scan (d : Nat) (sc ar : Nat → Nat → Int32) (sl : Value) (tf : Nat → Option Nat) {B : Nat → Nat} {e : Nat} (hB : tB sc ar B e) : CP (d + 8) 44 (fun al => [.ref (al 4), .ref (al 1)]) noD sc ar sl tf (fun res sc2 ar2 => res = none ∧ ∃ N, scN B e sc ar N sc2 ar2) := by
  refine CP.of pm_X6_scan rfl (fun _ => rfl) (fun _ => Nat.le_of_ble_eq_true rfl) ?_
  intro fx al n g0 Q _ _ hQ
  refine pc_aload_n dX6_scan_0 rfl rfl ?_
  refine pc_iconst dX6_scan_1 (show Int32.ofInt (0) = (0) by decide) ?_
  refine pc_put (c := 4) dX6_scan_2 fk_X6_18 (by decide) rfl rfl ⟨_, _, _, rfl, rfl⟩ rfl rfl ?_
  refine pc_iconst dX6_scan_5 (show Int32.ofInt (1) = (1) by decide) ?_
  refine pc_istore_n dX6_scan_6 (Nat.le_of_ble_eq_true rfl) ?_
  refine pc_iconst dX6_scan_7 (show Int32.ofInt (0) = (0) by decide) ?_
  refine pc_istore_n dX6_scan_8 (Nat.le_of_ble_eq_true rfl) ?_
  exact cl_scan (dd := d) hB 120 0 _ _ rfl (scR.up (fun _ _ _ => rfl) (Or.inr rfl)) rfl (fun _ _ _ => rfl) (fun j hj => absurd hj (Nat.not_lt_zero _)) (fun j hj => absurd hj (Nat.not_lt_zero _)) hQ
