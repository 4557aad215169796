theorem rw_n (i : Nat) : cCls (14 + i % 2) = none := by
  rcases Nat.mod_two_eq_zero_or_one i with h | h <;> rw [h] <;> rfl
theorem rw_a (i : Nat) : cAr (14 + i % 2) = some 121 := by
  rcases Nat.mod_two_eq_zero_or_one i with h | h <;> rw [h] <;> rfl
theorem nI_and1 (i : Nat) : nI i &&& 1 = nI (i % 2) := by
  apply Int32.toBitVec_inj.mp
  apply BitVec.eq_of_toNat_eq
  rw [Int32.toBitVec_and, BitVec.toNat_and]
  show (BitVec.ofNat 32 i).toNat &&& 1 = (BitVec.ofNat 32 (i % 2)).toNat
  rw [BitVec.toNat_ofNat, BitVec.toNat_ofNat, Nat.and_one_is_mod]
  omega
theorem pc_rwald {fx : px_F} {bd : px_B} {dd : Nat} {Q : px_Q} {al : Nat → Nat} {n : Nat} {g0 : Nat → px_O} {sc ar : Nat → Nat → Int32} {sl : Value} {tf : Nat → Option Nat} {p : Nat} {ls st : List Value} {j : Nat} {i : Int32} (h0 : decode bd.2.1 p = .ok (.aaload, 1)) (hi : i = nI j &&& 1) (kk : pc fx bd dd Q al n g0 sc ar sl tf (p + 1) ls (.ref (al (14 + j % 2)) :: st)) : pc fx bd dd Q al n g0 sc ar sl tf p ls (.int i :: .ref (al 13) :: st) := fun g hR hF => by
  subst hi
  rw [nI_and1]
  have k9 := kk g hR hF
  have hj : j % 2 < 2 := Nat.mod_lt _ (by decide)
  refine pg_aald (len := 2) (f := fun i => if i < 2 then some (al (14 + i)) else none) h0 (by have := hR.1; omega) (by decide) (by decide) (hR.2 13 (by decide)) (vp_in_nI hj (by decide)) ?_
  rw [nI_clamp (by omega), if_pos hj]
  exact k9
theorem pr1 {J : Nat} (h : 0 < J) : nI J - 1 = nI (J - 1) := by rw [← nI_dec]; exact nI_m1 h
theorem pr1_lt {c : Nat} (h : c < 2 ^ 30) : nI c - 1 < nI c := by
  by_cases z : c = 0
  · subst z; decide
  · rw [pr1 (by omega)]; exact nI_lt (by omega) (by omega)
/-- row i of the table, from column J on -/
def cmR (S W : Nat → Int32) (a b i J : Nat) (f : Nat → Int32) : Prop := ∀ y, J ≤ y → y ≤ b → f y = nI (ed S W a b (a - i) (b - y))
set_option maxHeartbeats 4000000 in
set_option maxRecDepth 20000 in
theorem cl_fillRow {fx : px_F} {dd : Nat} {Q : px_Q} {al : Nat → Nat} {n : Nat} {g0 : Nat → px_O} {sc ar : Nat → Nat → Int32} {sl : Value} {tf : Nat → Option Nat} {P P2 a b L L2 : Nat} {S O A W O2 A2 : Nat → Int32} {bd bd2 : Bool} (ha : a ≤ 120) (hb : b ≤ 120) (hD : PG al n g0 P a L S O A bd ∧ PG al n g0 P2 b L2 W O2 A2 bd2) {c i : Nat} (hc : sc 12 1 = nI c) (hci : c ≤ i) (hia : i ≤ a) (hcb : c ≤ b) (hr : i < a → cmR S W a b (i + 1) c (ar (14 + (i + 1) % 2))) (kk : ∀ f g2, cmR S W a b i c f → CR al n g2 sc (va_up ar (14 + i % 2) f) sl tf → cfr g0 g2 → Q (.inl none) al n g2) : ∀ (m J : Nat) (f : Nat → Int32), J = c + m → J ≤ b → cmR S W a b i J f → pc fx (px_body pm_X0_fillRow) (dd + 1) Q al n g0 (sc) (va_up ar (14 + i % 2) f) sl tf 47 [.ref (al 12), .ref (al P), .ref (al P2), .int (nI i), .ref (al (14 + i % 2)), .ref (al (14 + (i + 1) % 2)), .int (nI (a - i)), .int (nI J - 1)] []
  | 0, J, f, hJ, hJb, hf => by
    obtain rfl : J = c := by omega
    refine pc_iload dX0_fillRow_47 rfl ?_
    refine pc_aload_n dX0_fillRow_49 rfl rfl ?_
    refine pc_getS (c := 12) (v := (nI J)) dX0_fillRow_50 fk_X0_16 (by decide) rfl rfl hc ?_
    refine pc_icmp_lt (tgt := 145) dX0_fillRow_53 (by decide) (fun c53 => ?_) (fun c53 => absurd (pr1_lt (by omega)) c53)
    exact pc_vret (post := fun res s2 a2 => res = none ∧ s2 = sc ∧ ∃ f, cmR S W a b i J f ∧ a2 = va_up ar (14 + i % 2) f) (fun _ _ _ g2 hp hR hF => by obtain ⟨rfl, rfl, f, h1, rfl⟩ := hp; exact kk f g2 h1 hR hF) dX0_fillRow_145 rfl ⟨rfl, rfl, f, hf, rfl⟩
  | m + 1, J, f, hJ, hJb, hf => by
    have IH := cl_fillRow (fx := fx) (dd := dd) ha hb hD hc hci hia hcb hr kk m (J - 1)
    have hD9 := hD
    obtain ⟨⟨p1, p2, ⟨f1, q1, q2, q3, q4, q5⟩, q6, q7, q8⟩, ⟨r1, r2, ⟨f2, s1, s2, s3, s4, s5⟩, s6, s7, s8⟩⟩ := hD
    have hJ1 : nI J - 1 = nI (J - 1) := pr1 (by omega)
    have eJ : b - (J - 1) = (b - J) + 1 := by omega
    have i2 : i % 2 ≠ (i + 1) % 2 := by omega
    rw [hJ1]
    refine pc_iload dX0_fillRow_47 rfl ?_
    refine pc_aload_n dX0_fillRow_49 rfl rfl ?_
    refine pc_getS (c := 12) (v := (nI c)) dX0_fillRow_50 fk_X0_16 (by decide) rfl rfl hc ?_
    refine pc_icmp_lt (tgt := 145) dX0_fillRow_53 (by decide) (fun c53 => absurd c53 (nI_nlt (by omega) (by omega))) (fun c53 => ?_)
    refine pc_iload dX0_fillRow_56 rfl ?_
    refine pc_if_ne (tgt := 76) dX0_fillRow_58 (by decide) (fun c58 => ?_) (fun c58 => ?_)
    ·
      refine pc_aload_n dX0_fillRow_76 rfl rfl ?_
      refine pc_dgetN dX0_fillRow_77 fk_X0_26 p1 (by omega) q1 q2 ?_
      refine pc_iload_n dX0_fillRow_80 rfl ?_
      refine pc_dald (j := i) dX0_fillRow_81 (by omega) (by omega) q6 rfl (by
              by_cases z : i < a
              · exact z
              · exact absurd (show nI (a - i) = 0 by rw [show a - i = 0 by omega]; rfl) c58) (by omega) rfl ?_
      refine pc_aload_n dX0_fillRow_82 rfl rfl ?_
      refine pc_dgetN dX0_fillRow_83 fk_X0_26 r1 (by omega) s1 s2 ?_
      refine pc_iload dX0_fillRow_86 rfl ?_
      refine pc_dald (j := (J - 1)) dX0_fillRow_88 (by omega) (by omega) s6 rfl (by omega) (by omega) rfl ?_
      refine pc_icmp_ne (tgt := 107) dX0_fillRow_89 (by decide) (fun c89 => ?_) (fun c89 => ?_)
      ·
        refine pc_aload dX0_fillRow_107 rfl rfl ?_
        refine pc_iload dX0_fillRow_109 rfl ?_
        refine pc_iconst dX0_fillRow_111 (show Int32.ofInt (1) = (1) by decide) ?_
        refine pc_aload dX0_fillRow_112 rfl rfl ?_
        refine pc_iload dX0_fillRow_114 rfl ?_
        refine pc_iconst dX0_fillRow_116 (show Int32.ofInt (1) = (1) by decide) ?_
        refine pc_iadd dX0_fillRow_117 ?_
        rw [nI_1]
        have hia3 : i < a := by
          by_cases z : i < a
          · exact z
          · exact absurd (show nI (a - i) = 0 by rw [show a - i = 0 by omega]; rfl) c58
        have w1 : va_up ar (14 + i % 2) f (14 + (i + 1) % 2) (J - 1 + 1) = nI (ed S W a b (a - (i + 1)) (b - J)) := by
          rw [va_up_ne _ _ (by omega), hr hia3 (J - 1 + 1) (by omega) (by omega), show b - (J - 1 + 1) = b - J by omega]
        have w2 : va_up ar (14 + i % 2) f (14 + i % 2) (J - 1 + 1) = nI (ed S W a b (a - (i + 1) + 1) (b - J)) := by
          rw [va_up_self, hf (J - 1 + 1) (by omega) (by omega), show b - (J - 1 + 1) = b - J by omega, show a - (i + 1) + 1 = a - i by omega]
        have w3 : va_up ar (14 + i % 2) f (14 + (i + 1) % 2) (J - 1) = nI (ed S W a b (a - (i + 1)) (b - J + 1)) := by
          rw [va_up_ne _ _ (by omega), hr hia3 (J - 1) (by omega) (by omega), show b - (J - 1) = b - J + 1 by omega]
        have l1 := ed_le S W a b (a - (i + 1)) (b - J)
        have l2 := ed_le S W a b (a - (i + 1) + 1) (b - J)
        have l3 := ed_le S W a b (a - (i + 1)) (b - J + 1)
        refine pc_iald (c := (14 + (i + 1) % 2)) (v := (nI (ed S W a b (a - (i + 1)) (b - J)))) (j := J - 1 + 1) dX0_fillRow_118 (by omega) (rw_n _) (rw_a _) rfl (by omega) (by decide) w1 ?_
        refine pc_aload dX0_fillRow_119 rfl rfl ?_
        refine pc_iload dX0_fillRow_121 rfl ?_
        refine pc_iconst dX0_fillRow_123 (show Int32.ofInt (1) = (1) by decide) ?_
        refine pc_iadd dX0_fillRow_124 ?_
        rw [nI_1]
        refine pc_iald (c := (14 + i % 2)) (v := (nI (ed S W a b (a - (i + 1) + 1) (b - J)))) (j := J - 1 + 1) dX0_fillRow_125 (by omega) (rw_n _) (rw_a _) rfl (by omega) (by decide) w2 ?_
        refine pc_aload dX0_fillRow_126 rfl rfl ?_
        refine pc_iload dX0_fillRow_128 rfl ?_
        refine pc_iald (c := (14 + (i + 1) % 2)) (v := (nI (ed S W a b (a - (i + 1)) (b - J + 1)))) (j := J - 1) dX0_fillRow_130 (by omega) (rw_n _) (rw_a _) rfl (by omega) (by decide) w3 ?_
        refine pc_callSC dX0_fillRow_131 cl_X0_37 (sc_minN dd (by omega) (by omega)) rfl rfl (Nat.le_of_ble_eq_true rfl) ⟨rfl, rfl⟩ ?_
        refine pc_callSC dX0_fillRow_134 cl_X0_37 (sc_minN dd (by omega) (by omega)) rfl rfl (Nat.le_of_ble_eq_true rfl) ⟨rfl, rfl⟩ ?_
        refine pc_iadd dX0_fillRow_137 ?_
        refine pc_iast (c := (14 + i % 2)) (j := J - 1) dX0_fillRow_138 (by omega) (rw_n _) (rw_a _) rfl (by omega) (by decide) ?_
        refine pc_iinc dX0_fillRow_139 rfl (show Int32.ofInt (-1) = (-1) by decide) ?_
        refine pc_goto (tgt := 47) dX0_fillRow_142 (by decide) ?_
        rw [va_up_self, va_3, nI_dec]
        refine IH _ (by omega) (by omega) (fun y h1 h2 => ?_)
        by_cases ey : y = J - 1
        · subst ey
          rw [pk_us]
          have hia2 : i < a := by
            by_cases z : i < a
            · exact z
            · exact absurd (show nI (a - i) = 0 by rw [show a - i = 0 by omega]; rfl) c58
          rw [show a - i = (a - (i + 1)) + 1 by omega, eJ, ed_ne (by rw [show a - (a - (i + 1) + 1) = i by omega, show b - (b - J + 1) = J - 1 by omega]; exact c89)]
          rw [show (1 : Int32) = nI 1 from rfl, nI_add]
        · rw [pk_un ey]; exact hf y (by omega) h2
      ·
        refine pc_aload dX0_fillRow_92 rfl rfl ?_
        refine pc_iload dX0_fillRow_94 rfl ?_
        refine pc_aload dX0_fillRow_96 rfl rfl ?_
        refine pc_iload dX0_fillRow_98 rfl ?_
        refine pc_iconst dX0_fillRow_100 (show Int32.ofInt (1) = (1) by decide) ?_
        refine pc_iadd dX0_fillRow_101 ?_
        rw [nI_1]
        refine pc_iald (c := (14 + (i + 1) % 2)) (v := (ar (14 + (i + 1) % 2) (J - 1 + 1))) (j := J - 1 + 1) dX0_fillRow_102 (by omega) (rw_n _) (rw_a _) rfl (by omega) (by decide) (by rw [va_up_ne _ _ (by omega)]) ?_
        refine pc_iast (c := (14 + i % 2)) (j := J - 1) dX0_fillRow_103 (by omega) (rw_n _) (rw_a _) rfl (by omega) (by decide) ?_
        refine pc_goto (tgt := 139) dX0_fillRow_104 (by decide) ?_
        refine pc_iinc dX0_fillRow_139 rfl (show Int32.ofInt (-1) = (-1) by decide) ?_
        refine pc_goto (tgt := 47) dX0_fillRow_142 (by decide) ?_
        rw [va_up_self, va_3, nI_dec]
        refine IH _ (by omega) (by omega) (fun y h1 h2 => ?_)
        by_cases ey : y = J - 1
        · subst ey
          rw [pk_us]
          have hia2 : i < a := by
            by_cases z : i < a
            · exact z
            · exact absurd (show nI (a - i) = 0 by rw [show a - i = 0 by omega]; rfl) c58
          rw [show a - i = (a - (i + 1)) + 1 by omega, eJ, ed_eq (by rw [show a - (a - (i + 1) + 1) = i by omega, show b - (b - J + 1) = J - 1 by omega]; exact c89)]
          have := hr hia2 (J - 1 + 1) (by omega) (by omega)
          rw [this, show b - (J - 1 + 1) = b - J by omega]
        · rw [pk_un ey]; exact hf y (by omega) h2
    ·
      refine pc_aload dX0_fillRow_61 rfl rfl ?_
      refine pc_iload dX0_fillRow_63 rfl ?_
      refine pc_aload_n dX0_fillRow_65 rfl rfl ?_
      refine pc_callDN (As := fun al => []) dX0_fillRow_66 cl_X0_20 r1 (by omega) s1 (dp_size dd (P := P2)) (fun g hF => (hD9.2).fr hF) rfl rfl (Nat.le_of_ble_eq_true rfl) ⟨rfl, rfl⟩ ?_
      refine pc_iload dX0_fillRow_69 rfl ?_
      refine pc_isub dX0_fillRow_71 ?_
      refine pc_iast (c := (14 + i % 2)) (j := J - 1) dX0_fillRow_72 (by omega) (rw_n _) (rw_a _) rfl (by omega) (by decide) ?_
      refine pc_goto (tgt := 139) dX0_fillRow_73 (by decide) ?_
      refine pc_iinc dX0_fillRow_139 rfl (show Int32.ofInt (-1) = (-1) by decide) ?_
      refine pc_goto (tgt := 47) dX0_fillRow_142 (by decide) ?_
      rw [va_up_self, va_3, nI_dec]
      refine IH _ (by omega) (by omega) (fun y h1 h2 => ?_)
      by_cases ey : y = J - 1
      · subst ey
        rw [pk_us]
        have : a - i = 0 := by
          by_cases z : a - i = 0
          · exact z
          · exact absurd c58 (nI_ne0 (by omega) (by omega))
        rw [this, ed_0, pk_sub (by omega)]
      · rw [pk_un ey]; exact hf y (by omega) h2
set_option maxHeartbeats 4000000 in
set_option maxRecDepth 20000 in
theorem cp_fillRow (dd : Nat) {sc ar : Nat → Nat → Int32} {sl : Value} {tf : Nat → Option Nat} {P P2 a b L L2 : Nat} {S O A W O2 A2 : Nat → Int32} {bd bd2 : Bool} (ha : a ≤ 120) (hb : b ≤ 120) {c i : Nat} (hc : sc 12 1 = nI c) (hci : c ≤ i) (hia : i ≤ a) (hcb : c ≤ b) (hr : i < a → cmR S W a b (i + 1) c (ar (14 + (i + 1) % 2))) : CP (dd + 2) 2 (fun al => [.ref (al 12), .ref (al P), .ref (al P2), .int (nI i)]) (fun al n g => PG al n g P a L S O A bd ∧ PG al n g P2 b L2 W O2 A2 bd2) sc ar sl tf (fun res sc2 ar2 => res = none ∧ sc2 = sc ∧ ∃ f, cmR S W a b i c f ∧ ar2 = va_up ar (14 + i % 2) f) := by
  refine CP.of pm_X0_fillRow rfl (fun _ => rfl) (fun _ => Nat.le_of_ble_eq_true rfl) ?_
  intro fx al n g0 Q hn36 hD hQ
  have hD9 := hD
  obtain ⟨⟨p1, p2, ⟨f1, q1, q2, q3, q4, q5⟩, q6, q7, q8⟩, ⟨r1, r2, ⟨f2, s1, s2, s3, s4, s5⟩, s6, s7, s8⟩⟩ := hD
  show pc fx (px_body pm_X0_fillRow) (dd + 1) Q al n g0 (sc) (ar) sl tf 0 [.ref (al 12), .ref (al P), .ref (al P2), .int (nI i), .float 0, .float 0, .float 0, .float 0] []
  refine pc_aload_n dX0_fillRow_0 rfl rfl ?_
  refine pc_getR (c := 12) (d := 13) dX0_fillRow_1 fk_X0_11 (by decide) rfl rfl ?_
  refine pc_iload_n dX0_fillRow_4 rfl ?_
  refine pc_iconst dX0_fillRow_5 (show Int32.ofInt (1) = (1) by decide) ?_
  refine pc_iand dX0_fillRow_6 ?_
  refine pc_rwald (j := i) dX0_fillRow_7 rfl ?_
  refine pc_astore dX0_fillRow_8 (Nat.le_of_ble_eq_true rfl) rfl ?_
  refine pc_aload_n dX0_fillRow_10 rfl rfl ?_
  refine pc_getR (c := 12) (d := 13) dX0_fillRow_11 fk_X0_11 (by decide) rfl rfl ?_
  refine pc_iload_n dX0_fillRow_14 rfl ?_
  refine pc_iconst dX0_fillRow_15 (show Int32.ofInt (1) = (1) by decide) ?_
  refine pc_iadd dX0_fillRow_16 ?_
  rw [nI_1]
  refine pc_iconst dX0_fillRow_17 (show Int32.ofInt (1) = (1) by decide) ?_
  refine pc_iand dX0_fillRow_18 ?_
  refine pc_rwald (j := i + 1) dX0_fillRow_19 rfl ?_
  refine pc_astore dX0_fillRow_20 (Nat.le_of_ble_eq_true rfl) rfl ?_
  refine pc_aload_n dX0_fillRow_22 rfl rfl ?_
  refine pc_callDN (As := fun al => []) dX0_fillRow_23 cl_X0_20 p1 (by omega) q1 (dp_size dd (P := P)) (fun g hF => (hD9.1).fr hF) rfl rfl (Nat.le_of_ble_eq_true rfl) ⟨rfl, rfl⟩ ?_
  refine pc_iload_n dX0_fillRow_26 rfl ?_
  refine pc_isub dX0_fillRow_27 ?_
  rw [pk_sub (by omega)]
  refine pc_istore dX0_fillRow_28 (Nat.le_of_ble_eq_true rfl) ?_
  refine pc_aload dX0_fillRow_30 rfl rfl ?_
  refine pc_aload_n dX0_fillRow_32 rfl rfl ?_
  refine pc_callDN (As := fun al => []) dX0_fillRow_33 cl_X0_20 r1 (by omega) s1 (dp_size dd (P := P2)) (fun g hF => (hD9.2).fr hF) rfl rfl (Nat.le_of_ble_eq_true rfl) ⟨rfl, rfl⟩ ?_
  refine pc_iload dX0_fillRow_36 rfl ?_
  refine pc_iast (c := (14 + i % 2)) (j := b) dX0_fillRow_38 (by omega) (rw_n _) (rw_a _) rfl (by omega) (by decide) ?_
  refine pc_aload_n dX0_fillRow_39 rfl rfl ?_
  refine pc_callDN (As := fun al => []) dX0_fillRow_40 cl_X0_20 r1 (by omega) s1 (dp_size dd (P := P2)) (fun g hF => (hD9.2).fr hF) rfl rfl (Nat.le_of_ble_eq_true rfl) ⟨rfl, rfl⟩ ?_
  refine pc_iconst dX0_fillRow_43 (show Int32.ofInt (1) = (1) by decide) ?_
  refine pc_isub dX0_fillRow_44 ?_
  refine pc_istore dX0_fillRow_45 (Nat.le_of_ble_eq_true rfl) ?_
  refine cl_fillRow ha hb hD9 hc hci hia hcb hr (fun f g2 h1 hR hF => hQ _ _ _ g2 ⟨rfl, rfl, f, h1, rfl⟩ hR hF) (b - c) b _ (by omega) (by omega) (fun y h1 h2 => ?_)
  obtain rfl : y = b := by omega
  rw [pk_us, Nat.sub_self, ed_a0]
set_option maxHeartbeats 4000000 in
set_option maxRecDepth 20000 in
theorem cl_cmp1 {fx : px_F} {dd : Nat} {Q : px_Q} {al : Nat → Nat} {n : Nat} {g0 : Nat → px_O} {sc ar : Nat → Nat → Int32} {sl : Value} {tf : Nat → Option Nat} {P P2 a b L L2 : Nat} {S O A W O2 A2 : Nat → Int32} {bd bd2 : Bool} (ha : a ≤ 120) (hb : b ≤ 120) {C : Nat} (hD : PG al n g0 P a L S O A bd ∧ PG al n g0 P2 b L2 W O2 A2 bd2) {x3 : Value} (kk : pc fx (px_body pm_X0_compare) (dd + 1) Q al n g0 (up2 sc 12 1 (nI C)) (ar) sl tf 61 [.ref (al 12), .ref (al P), .ref (al P2), x3] []) : ∀ (m c : Nat), c + m = min a b → cpx S W m c = C → pc fx (px_body pm_X0_compare) (dd + 1) Q al n g0 (up2 sc 12 1 (nI c)) (ar) sl tf 5 [.ref (al 12), .ref (al P), .ref (al P2), x3] []
  | 0, c, hm, hC => by
    rw [cpx] at hC
    subst hC
    have hD9 := hD
    obtain ⟨⟨p1, p2, ⟨f1, q1, q2, q3, q4, q5⟩, q6, q7, q8⟩, ⟨r1, r2, ⟨f2, s1, s2, s3, s4, s5⟩, s6, s7, s8⟩⟩ := hD
    refine pc_aload_n dX0_compare_5 rfl rfl ?_
    refine pc_getS (c := 12) (v := (nI c)) dX0_compare_6 fk_X0_16 (by decide) rfl rfl rfl ?_
    refine pc_aload_n dX0_compare_9 rfl rfl ?_
    refine pc_callDN (As := fun al => []) dX0_compare_10 cl_X0_20 p1 (by omega) q1 (dp_size dd (P := P)) (fun g hF => (hD9.1).fr hF) rfl rfl (Nat.le_of_ble_eq_true rfl) ⟨rfl, rfl⟩ ?_
    refine pc_icmp_ge (tgt := 61) dX0_compare_13 (by decide) (fun c13 => ?_) (fun c13 => ?_)
    ·
      have c139 := Int32.not_lt.mpr c13
      exact kk
    ·
      have c139 := Int32.not_le.mp c13
      refine pc_aload_n dX0_compare_16 rfl rfl ?_
      refine pc_getS (c := 12) (v := (nI c)) dX0_compare_17 fk_X0_16 (by decide) rfl rfl rfl ?_
      refine pc_aload_n dX0_compare_20 rfl rfl ?_
      refine pc_callDN (As := fun al => []) dX0_compare_21 cl_X0_20 r1 (by omega) s1 (dp_size dd (P := P2)) (fun g hF => (hD9.2).fr hF) rfl rfl (Nat.le_of_ble_eq_true rfl) ⟨rfl, rfl⟩ ?_
      refine pc_icmp_ge (tgt := 61) dX0_compare_24 (by decide) (fun c24 => ?_) (fun c24 => ?_)
      ·
        have c249 := Int32.not_lt.mpr c24
        exact kk
      ·
        have c249 := Int32.not_le.mp c24
        refine pc_aload_n dX0_compare_27 rfl rfl ?_
        refine pc_dgetN dX0_compare_28 fk_X0_26 p1 (by omega) q1 q2 ?_
        refine pc_aload_n dX0_compare_31 rfl rfl ?_
        refine pc_getS (c := 12) (v := (nI c)) dX0_compare_32 fk_X0_16 (by decide) rfl rfl rfl ?_
        have z1 : ¬ a ≤ c := fun z => c13 (nI_le z (by omega))
        have z2 : ¬ b ≤ c := fun z => c24 (nI_le z (by omega))
        exfalso
        omega
  | m + 1, c, hm, hC => by
    rw [cpx] at hC
    have hD9 := hD
    obtain ⟨⟨p1, p2, ⟨f1, q1, q2, q3, q4, q5⟩, q6, q7, q8⟩, ⟨r1, r2, ⟨f2, s1, s2, s3, s4, s5⟩, s6, s7, s8⟩⟩ := hD
    refine pc_aload_n dX0_compare_5 rfl rfl ?_
    refine pc_getS (c := 12) (v := (nI c)) dX0_compare_6 fk_X0_16 (by decide) rfl rfl rfl ?_
    refine pc_aload_n dX0_compare_9 rfl rfl ?_
    refine pc_callDN (As := fun al => []) dX0_compare_10 cl_X0_20 p1 (by omega) q1 (dp_size dd (P := P)) (fun g hF => (hD9.1).fr hF) rfl rfl (Nat.le_of_ble_eq_true rfl) ⟨rfl, rfl⟩ ?_
    refine pc_icmp_ge (tgt := 61) dX0_compare_13 (by decide) (fun c13 => absurd c13 (nI_ge (by omega) (by omega))) (fun c13 => ?_)
    refine pc_aload_n dX0_compare_16 rfl rfl ?_
    refine pc_getS (c := 12) (v := (nI c)) dX0_compare_17 fk_X0_16 (by decide) rfl rfl rfl ?_
    refine pc_aload_n dX0_compare_20 rfl rfl ?_
    refine pc_callDN (As := fun al => []) dX0_compare_21 cl_X0_20 r1 (by omega) s1 (dp_size dd (P := P2)) (fun g hF => (hD9.2).fr hF) rfl rfl (Nat.le_of_ble_eq_true rfl) ⟨rfl, rfl⟩ ?_
    refine pc_icmp_ge (tgt := 61) dX0_compare_24 (by decide) (fun c24 => absurd c24 (nI_ge (by omega) (by omega))) (fun c24 => ?_)
    refine pc_aload_n dX0_compare_27 rfl rfl ?_
    refine pc_dgetN dX0_compare_28 fk_X0_26 p1 (by omega) q1 q2 ?_
    refine pc_aload_n dX0_compare_31 rfl rfl ?_
    refine pc_getS (c := 12) (v := (nI c)) dX0_compare_32 fk_X0_16 (by decide) rfl rfl rfl ?_
    refine pc_dald (j := c) dX0_compare_35 (by omega) (by omega) q6 rfl (by omega) (by omega) rfl ?_
    refine pc_aload_n dX0_compare_36 rfl rfl ?_
    refine pc_dgetN dX0_compare_37 fk_X0_26 r1 (by omega) s1 s2 ?_
    refine pc_aload_n dX0_compare_40 rfl rfl ?_
    refine pc_getS (c := 12) (v := (nI c)) dX0_compare_41 fk_X0_16 (by decide) rfl rfl rfl ?_
    refine pc_dald (j := c) dX0_compare_44 (by omega) (by omega) s6 rfl (by omega) (by omega) rfl ?_
    refine pc_icmp_ne (tgt := 61) dX0_compare_45 (by decide) (fun c45 => ?_) (fun c45 => ?_)
    ·
      rw [if_neg c45] at hC
      subst hC
      exact kk
    ·
      refine pc_aload_n dX0_compare_48 rfl rfl ?_
      refine pc_dup dX0_compare_49 rfl ?_
      refine pc_getS (c := 12) (v := (nI c)) dX0_compare_50 fk_X0_16 (by decide) rfl rfl rfl ?_
      refine pc_iconst dX0_compare_53 (show Int32.ofInt (1) = (1) by decide) ?_
      refine pc_iadd dX0_compare_54 ?_
      rw [nI_1]
      refine pc_put (c := 12) dX0_compare_55 fk_X0_16 (by decide) rfl rfl ⟨_, _, _, rfl, rfl⟩ rfl rfl ?_
      rw [up2_up2]
      refine pc_goto (tgt := 5) dX0_compare_58 (by decide) ?_
      rw [if_pos c45] at hC
      exact cl_cmp1 ha hb hD9 kk m (c + 1) (by omega) hC
set_option maxHeartbeats 4000000 in
set_option maxRecDepth 20000 in
theorem cl_cmp2 {fx : px_F} {dd : Nat} {Q : px_Q} {al : Nat → Nat} {n : Nat} {g0 : Nat → px_O} {sc : Nat → Nat → Int32} {sl : Value} {tf : Nat → Option Nat} {P P2 a b L L2 : Nat} {S O A W O2 A2 : Nat → Int32} {bd bd2 : Bool} (ha : a ≤ 120) (hb : b ≤ 120) (hD : PG al n g0 P a L S O A bd ∧ PG al n g0 P2 b L2 W O2 A2 bd2) {c : Nat} (hc : sc 12 1 = nI c) (hca : c ≤ a) (hcb : c ≤ b) : ∀ (m I : Nat) (ar : Nat → Nat → Int32), I = c + m → I ≤ a + 1 → (I ≤ a → cmR S W a b I c (ar (14 + I % 2))) → (I < a → cmR S W a b (I + 1) c (ar (14 + (I + 1) % 2))) → (∀ ar2, cmR S W a b c c (ar2 (14 + c % 2)) → (c < a → cmR S W a b (c + 1) c (ar2 (14 + (c + 1) % 2))) → (∀ x, x ≠ 14 → x ≠ 15 → ar2 x = ar x) → ∀ x3, pc fx (px_body pm_X0_compare) (dd + 2) Q al n g0 (sc) (ar2) sl tf 87 [.ref (al 12), .ref (al P), .ref (al P2), x3] []) → pc fx (px_body pm_X0_compare) (dd + 2) Q al n g0 (sc) (ar) sl tf 66 [.ref (al 12), .ref (al P), .ref (al P2), .int (nI I - 1)] []
  | 0, I, ar, hI, hIa, h1, h2, kk => by
    obtain rfl : I = c := by omega
    refine pc_iload_n dX0_compare_66 rfl ?_
    refine pc_aload_n dX0_compare_67 rfl rfl ?_
    refine pc_getS (c := 12) (v := (nI I)) dX0_compare_68 fk_X0_16 (by decide) rfl rfl hc ?_
    refine pc_icmp_lt (tgt := 87) dX0_compare_71 (by decide) (fun c71 => ?_) (fun c71 => absurd (pr1_lt (by omega)) c71)
    exact kk ar (h1 (by omega)) h2 (fun _ _ _ => rfl) _
  | m + 1, I, ar, hI, hIa, h1, h2, kk => by
    rw [pr1 (show 0 < I by omega)]
    refine pc_iload_n dX0_compare_66 rfl ?_
    refine pc_aload_n dX0_compare_67 rfl rfl ?_
    refine pc_getS (c := 12) (v := (nI c)) dX0_compare_68 fk_X0_16 (by decide) rfl rfl hc ?_
    refine pc_icmp_lt (tgt := 87) dX0_compare_71 (by decide) (fun c71 => absurd c71 (nI_nlt (by omega) (by omega))) (fun c71 => ?_)
    refine pc_aload_n dX0_compare_74 rfl rfl ?_
    refine pc_aload_n dX0_compare_75 rfl rfl ?_
    refine pc_aload_n dX0_compare_76 rfl rfl ?_
    refine pc_iload_n dX0_compare_77 rfl ?_
    refine pc_call (c := 12) (As := fun al => [.ref (al P), .ref (al P2), .int (nI (I - 1))]) dX0_compare_78 cl_X0_30 (by decide) rfl (cp_fillRow dd ha hb (P := P) (P2 := P2) (i := I - 1) hc (by omega) (by omega) hcb (fun z => by rw [show I - 1 + 1 = I by omega]; exact h1 (by omega))) (fun g hF => ⟨hD.1.fr hF, hD.2.fr hF⟩) rfl rfl (Nat.le_of_ble_eq_true rfl) ⟨rfl, rfl⟩ (fun res sc2 ar2 hn => ?_)
    obtain ⟨rfl, rfl, f, hf, rfl⟩ := hn
    refine pc_iinc dX0_compare_81 rfl (show Int32.ofInt (-1) = (-1) by decide) ?_
    refine pc_goto (tgt := 66) dX0_compare_84 (by decide) ?_
    rw [nI_dec]
    refine cl_cmp2 ha hb hD hc hca hcb m (I - 1) _ (by omega) (by omega) (fun _ => by rw [va_up_self]; exact hf) (fun z => by rw [show I - 1 + 1 = I by omega, va_up_ne _ _ (by omega)]; exact h1 (by omega)) (fun ar3 z1 z2 z3 x3 => kk ar3 z1 z2 (fun x e1 e2 => by rw [z3 x e1 e2, va_up_ne _ _ (by omega)]) x3)
/-- what a comparison leaves -/
def cmQ (S W : Nat → Int32) (a b : Nat) (sc ar sc2 ar2 : Nat → Nat → Int32) : Prop := sc2 = up2 (up2 sc 12 1 (nI (cpx S W (min a b) 0))) 12 2 (nI (ed S W a b a b)) ∧ (∀ x, x ≠ 14 → x ≠ 15 → ar2 x = ar x) ∧ cmR S W a b (cpx S W (min a b) 0) (cpx S W (min a b) 0) (ar2 (14 + cpx S W (min a b) 0 % 2)) ∧ (cpx S W (min a b) 0 < a → cmR S W a b (cpx S W (min a b) 0 + 1) (cpx S W (min a b) 0) (ar2 (14 + (cpx S W (min a b) 0 + 1) % 2)))
set_option maxHeartbeats 4000000 in
set_option maxRecDepth 20000 in
theorem cp_compare (dd : Nat) {sc ar : Nat → Nat → Int32} {sl : Value} {tf : Nat → Option Nat} {P P2 a b L L2 : Nat} {S O A W O2 A2 : Nat → Int32} {bd bd2 : Bool} (ha : a ≤ 120) (hb : b ≤ 120) : CP (dd + 3) 1 (fun al => [.ref (al 12), .ref (al P), .ref (al P2)]) (fun al n g => PG al n g P a L S O A bd ∧ PG al n g P2 b L2 W O2 A2 bd2) sc ar sl tf (fun res sc2 ar2 => res = none ∧ cmQ S W a b sc ar sc2 ar2) := by
  refine CP.of pm_X0_compare rfl (fun _ => rfl) (fun _ => Nat.le_of_ble_eq_true rfl) ?_
  intro fx al n g0 Q hn36 hD hQ
  have hD9 := hD
  have hcx := cpx_le S W (min a b) 0
  generalize hC : cpx S W (min a b) 0 = C at hcx
  have hec : ed S W a b (a - C) (b - C) = ed S W a b a b := by rw [← hC]; exact ed_cpx S W a b (min a b) 0 (by omega) (by omega)
  obtain ⟨⟨p1, p2, ⟨f1, q1, q2, q3, q4, q5⟩, q6, q7, q8⟩, ⟨r1, r2, ⟨f2, s1, s2, s3, s4, s5⟩, s6, s7, s8⟩⟩ := hD
  show pc fx (px_body pm_X0_compare) (dd + 2) Q al n g0 (sc) (ar) sl tf 0 [.ref (al 12), .ref (al P), .ref (al P2), .float 0] []
  refine pc_aload_n dX0_compare_0 rfl rfl ?_
  refine pc_iconst dX0_compare_1 (show Int32.ofInt (0) = (0) by decide) ?_
  refine pc_put (c := 12) dX0_compare_2 fk_X0_16 (by decide) rfl rfl ⟨_, _, _, rfl, rfl⟩ rfl rfl ?_
  refine cl_cmp1 (dd := dd + 1) ha hb hD9 ?_ (min a b) 0 (by omega) hC
  refine pc_aload_n dX0_compare_61 rfl rfl ?_
  refine pc_callDN (As := fun al => []) dX0_compare_62 cl_X0_20 p1 (by omega) q1 (dp_size (dd + 1) (P := P)) (fun g hF => (hD9.1).fr hF) rfl rfl (Nat.le_of_ble_eq_true rfl) ⟨rfl, rfl⟩ ?_
  refine pc_istore_n dX0_compare_65 (Nat.le_of_ble_eq_true rfl) ?_
  rw [show nI a = nI (a + 1) - 1 from (pr1 (J := a + 1) (by omega)).symm]
  refine cl_cmp2 ha hb hD9 (c := C) rfl (by omega) (by omega) (a + 1 - C) (a + 1) ar (by omega) (by omega) (fun z => by omega) (fun z => by omega) (fun ar2 z1 z2 z3 x3 => ?_)
  refine pc_aload_n dX0_compare_87 rfl rfl ?_
  refine pc_aload_n dX0_compare_88 rfl rfl ?_
  refine pc_getR (c := 12) (d := 13) dX0_compare_89 fk_X0_11 (by decide) rfl rfl ?_
  refine pc_aload_n dX0_compare_92 rfl rfl ?_
  refine pc_getS (c := 12) (v := (nI C)) dX0_compare_93 fk_X0_16 (by decide) rfl rfl rfl ?_
  refine pc_iconst dX0_compare_96 (show Int32.ofInt (1) = (1) by decide) ?_
  refine pc_iand dX0_compare_97 ?_
  refine pc_rwald (j := C) dX0_compare_98 rfl ?_
  refine pc_aload_n dX0_compare_99 rfl rfl ?_
  refine pc_getS (c := 12) (v := (nI C)) dX0_compare_100 fk_X0_16 (by decide) rfl rfl rfl ?_
  refine pc_iald (c := (14 + C % 2)) (v := (nI (ed S W a b a b))) (j := C) dX0_compare_103 (by omega) (rw_n _) (rw_a _) rfl (by omega) (by decide) ((z1 C (Nat.le_refl _) (by omega)).trans (congrArg nI hec)) ?_
  refine pc_put (c := 12) dX0_compare_104 fk_X0_34 (by decide) rfl rfl ⟨_, _, _, rfl, rfl⟩ rfl rfl ?_
  refine pc_vret hQ dX0_compare_107 rfl ⟨rfl, ?_⟩
  unfold cmQ
  rw [hC]
  exact ⟨rfl, z3, z1, z2⟩
set_option maxHeartbeats 4000000 in
set_option maxRecDepth 20000 in
theorem cp_firstKind (dd : Nat) {sl : Value} {tf : Nat → Option Nat} {sc0 ar0 sc ar : Nat → Nat → Int32} {P P2 a b L L2 : Nat} {S O A W O2 A2 : Nat → Int32} {bd bd2 : Bool} (ha : a ≤ 120) (hb : b ≤ 120) (hQ0 : cmQ S W a b sc0 ar0 sc ar) : CP (dd + 3) 3 (fun al => [.ref (al 12), .ref (al P), .ref (al P2)]) (fun al n g => PG al n g P a L S O A bd ∧ PG al n g P2 b L2 W O2 A2 bd2) sc ar sl tf (fun res sc2 ar2 => res = some (.int (if ed S W a b a b = 0 then -1 else nI (hkn S W a b (cpx S W (min a b) 0)))) ∧ sc2 = sc ∧ ar2 = ar) := by
  refine CP.of pm_X0_firstKind rfl (fun _ => rfl) (fun _ => Nat.le_of_ble_eq_true rfl) ?_
  intro fx al n g0 Q hn36 hD hQ
  have hD9 := hD
  unfold cmQ at hQ0
  have hcx := cpx_le S W (min a b) 0
  generalize hC : cpx S W (min a b) 0 = C at hcx hQ0 hQ
  obtain ⟨hs, _, hr1, hr2⟩ := hQ0
  have hb1 : sc 12 1 = nI C := by rw [hs]; rfl
  have hb2 : sc 12 2 = nI (ed S W a b a b) := by rw [hs]; rfl
  have le := ed_le S W a b a b
  generalize hE : ed S W a b a b = E at hb2 le hQ
  obtain ⟨⟨p1, p2, ⟨f1, q1, q2, q3, q4, q5⟩, q6, q7, q8⟩, ⟨r1, r2, ⟨f2, s1, s2, s3, s4, s5⟩, s6, s7, s8⟩⟩ := hD
  show pc fx (px_body pm_X0_firstKind) (dd + 2) Q al n g0 (sc) (ar) sl tf 0 [.ref (al 12), .ref (al P), .ref (al P2), .float 0, .float 0] []
  refine pc_aload_n dX0_firstKind_0 rfl rfl ?_
  refine pc_getS (c := 12) (v := (nI E)) dX0_firstKind_1 fk_X0_34 (by decide) rfl rfl hb2 ?_
  refine pc_if_ne (tgt := 9) dX0_firstKind_4 (by decide) (fun c4 => ?_) (fun c4 => ?_)
  ·
    have e0 : ¬ E = 0 := fun z => c4 (by rw [z]; rfl)
    refine pc_aload_n dX0_firstKind_9 rfl rfl ?_
    refine pc_getS (c := 12) (v := (nI C)) dX0_firstKind_10 fk_X0_16 (by decide) rfl rfl hb1 ?_
    refine pc_aload_n dX0_firstKind_13 rfl rfl ?_
    refine pc_callDN (As := fun al => []) dX0_firstKind_14 cl_X0_20 p1 (by omega) q1 (dp_size (dd + 1) (P := P)) (fun g hF => (hD9.1).fr hF) rfl rfl (Nat.le_of_ble_eq_true rfl) ⟨rfl, rfl⟩ ?_
    refine pc_icmp_ge (tgt := 24) dX0_firstKind_17 (by decide) (fun c17 => ?_) (fun c17 => ?_)
    ·
      have c179 := Int32.not_lt.mpr c17
      have za : ¬ C < a := fun z => nI_ge z (by omega) c17
      refine pc_iconst dX0_firstKind_24 (show Int32.ofInt (0) = (0) by decide) ?_
      refine pc_istore_n dX0_firstKind_25 (Nat.le_of_ble_eq_true rfl) ?_
      refine pc_aload_n dX0_firstKind_26 rfl rfl ?_
      refine pc_getS (c := 12) (v := (nI C)) dX0_firstKind_27 fk_X0_16 (by decide) rfl rfl hb1 ?_
      refine pc_aload_n dX0_firstKind_30 rfl rfl ?_
      refine pc_callDN (As := fun al => []) dX0_firstKind_31 cl_X0_20 r1 (by omega) s1 (dp_size (dd + 1) (P := P2)) (fun g hF => (hD9.2).fr hF) rfl rfl (Nat.le_of_ble_eq_true rfl) ⟨rfl, rfl⟩ ?_
      refine pc_icmp_ge (tgt := 41) dX0_firstKind_34 (by decide) (fun c34 => ?_) (fun c34 => ?_)
      ·
        have c349 := Int32.not_lt.mpr c34
        have zb : ¬ C < b := fun z => nI_ge z (by omega) c34
        refine pc_iconst dX0_firstKind_41 (show Int32.ofInt (0) = (0) by decide) ?_
        refine pc_istore dX0_firstKind_42 (Nat.le_of_ble_eq_true rfl) ?_
        refine pc_iload_n dX0_firstKind_44 rfl ?_
        refine pc_if_eq (tgt := 84) dX0_firstKind_45 (by decide) (fun _ => ?_) (fun c45 => absurd c45 (by decide))
        have n9 : C < a → C < b → ¬ ed S W a b (a - (C + 1)) (b - (C + 1)) + 1 = E := fun _ z _ => by omega
        refine pc_iload dX0_firstKind_84 rfl ?_
        refine pc_if_eq (tgt := 120) dX0_firstKind_86 (by decide) (fun _ => ?_) (fun c86 => absurd c86 (by decide))
        have m9 : C < b → ¬ ed S W a b (a - C) (b - (C + 1)) + 1 = E := fun z _ => by omega
        refine pc_iconst dX0_firstKind_120 (show Int32.ofInt (2) = (2) by decide) ?_
        refine pc_iret hQ dX0_firstKind_121 rfl rfl ?_
        refine ⟨?_, rfl, rfl⟩
        rw [if_neg (show ¬ E = 0 from e0)]
        unfold hkn
        rw [hE]
        rw [if_neg (fun z => n9 z.1 z.2.1 z.2.2), if_neg (fun z => m9 z.1 z.2)]
        rfl
      ·
        have c349 := Int32.not_le.mp c34
        have zb : C < b := by
          by_cases z : C < b
          · exact z
          · exact absurd (nI_le (show b ≤ C by omega) (by omega)) c34
        refine pc_iconst dX0_firstKind_37 (show Int32.ofInt (1) = (1) by decide) ?_
        refine pc_goto (tgt := 42) dX0_firstKind_38 (by decide) ?_
        refine pc_istore dX0_firstKind_42 (Nat.le_of_ble_eq_true rfl) ?_
        refine pc_iload_n dX0_firstKind_44 rfl ?_
        refine pc_if_eq (tgt := 84) dX0_firstKind_45 (by decide) (fun _ => ?_) (fun c45 => absurd c45 (by decide))
        have n9 : C < a → C < b → ¬ ed S W a b (a - (C + 1)) (b - (C + 1)) + 1 = E := fun _ z _ => by omega
        refine pc_iload dX0_firstKind_84 rfl ?_
        refine pc_if_eq (tgt := 120) dX0_firstKind_86 (by decide) (fun c86 => absurd c86 (by decide)) (fun _ => ?_)
        refine pc_aload_n dX0_firstKind_89 rfl rfl ?_
        refine pc_getR (c := 12) (d := 13) dX0_firstKind_90 fk_X0_11 (by decide) rfl rfl ?_
        refine pc_aload_n dX0_firstKind_93 rfl rfl ?_
        refine pc_getS (c := 12) (v := (nI C)) dX0_firstKind_94 fk_X0_16 (by decide) rfl rfl hb1 ?_
        refine pc_iconst dX0_firstKind_97 (show Int32.ofInt (1) = (1) by decide) ?_
        refine pc_iand dX0_firstKind_98 ?_
        refine pc_rwald (j := C) dX0_firstKind_99 rfl ?_
        refine pc_aload_n dX0_firstKind_100 rfl rfl ?_
        refine pc_getS (c := 12) (v := (nI C)) dX0_firstKind_101 fk_X0_16 (by decide) rfl rfl hb1 ?_
        refine pc_iconst dX0_firstKind_104 (show Int32.ofInt (1) = (1) by decide) ?_
        refine pc_iadd dX0_firstKind_105 ?_
        rw [nI_1]
        refine pc_iald (c := (14 + C % 2)) (v := (nI (ed S W a b (a - C) (b - (C + 1))))) (j := C + 1) dX0_firstKind_106 (by omega) (rw_n _) (rw_a _) rfl (by omega) (by decide) (hr1 (C + 1) (by omega) (by omega)) ?_
        refine pc_aload_n dX0_firstKind_107 rfl rfl ?_
        refine pc_getS (c := 12) (v := (nI E)) dX0_firstKind_108 fk_X0_34 (by decide) rfl rfl hb2 ?_
        refine pc_iconst dX0_firstKind_111 (show Int32.ofInt (1) = (1) by decide) ?_
        refine pc_isub dX0_firstKind_112 ?_
        refine pc_icmp_ne (tgt := 120) dX0_firstKind_113 (by decide) (fun c113 => ?_) (fun c113 => ?_)
        ·
          have m9 : C < b → ¬ ed S W a b (a - C) (b - (C + 1)) + 1 = E := fun _ z => c113 (by rw [pr1 (by omega), show E - 1 = ed S W a b (a - C) (b - (C + 1)) by omega])
          refine pc_iconst dX0_firstKind_120 (show Int32.ofInt (2) = (2) by decide) ?_
          refine pc_iret hQ dX0_firstKind_121 rfl rfl ?_
          refine ⟨?_, rfl, rfl⟩
          rw [if_neg (show ¬ E = 0 from e0)]
          unfold hkn
          rw [hE]
          rw [if_neg (fun z => n9 z.1 z.2.1 z.2.2), if_neg (fun z => m9 z.1 z.2)]
          rfl
        ·
          have l9 := ed_le S W a b (a - C) (b - (C + 1))
          have y9 : ed S W a b (a - C) (b - (C + 1)) + 1 = E := by
            rw [pr1 (by omega)] at c113
            have := (nI_eq (by omega) (by omega)).mp c113
            omega
          refine pc_iconst dX0_firstKind_116 (show Int32.ofInt (1) = (1) by decide) ?_
          refine pc_goto (tgt := 121) dX0_firstKind_117 (by decide) ?_
          refine pc_iret hQ dX0_firstKind_121 rfl rfl ?_
          refine ⟨?_, rfl, rfl⟩
          rw [if_neg (show ¬ E = 0 from e0)]
          unfold hkn
          rw [hE]
          rw [if_neg (fun z => n9 z.1 z.2.1 z.2.2), if_pos ⟨zb, y9⟩]
          rfl
    ·
      have c179 := Int32.not_le.mp c17
      have za : C < a := by
        by_cases z : C < a
        · exact z
        · exact absurd (nI_le (show a ≤ C by omega) (by omega)) c17
      refine pc_iconst dX0_firstKind_20 (show Int32.ofInt (1) = (1) by decide) ?_
      refine pc_goto (tgt := 25) dX0_firstKind_21 (by decide) ?_
      refine pc_istore_n dX0_firstKind_25 (Nat.le_of_ble_eq_true rfl) ?_
      refine pc_aload_n dX0_firstKind_26 rfl rfl ?_
      refine pc_getS (c := 12) (v := (nI C)) dX0_firstKind_27 fk_X0_16 (by decide) rfl rfl hb1 ?_
      refine pc_aload_n dX0_firstKind_30 rfl rfl ?_
      refine pc_callDN (As := fun al => []) dX0_firstKind_31 cl_X0_20 r1 (by omega) s1 (dp_size (dd + 1) (P := P2)) (fun g hF => (hD9.2).fr hF) rfl rfl (Nat.le_of_ble_eq_true rfl) ⟨rfl, rfl⟩ ?_
      refine pc_icmp_ge (tgt := 41) dX0_firstKind_34 (by decide) (fun c34 => ?_) (fun c34 => ?_)
      ·
        have c349 := Int32.not_lt.mpr c34
        have zb : ¬ C < b := fun z => nI_ge z (by omega) c34
        refine pc_iconst dX0_firstKind_41 (show Int32.ofInt (0) = (0) by decide) ?_
        refine pc_istore dX0_firstKind_42 (Nat.le_of_ble_eq_true rfl) ?_
        refine pc_iload_n dX0_firstKind_44 rfl ?_
        refine pc_if_eq (tgt := 84) dX0_firstKind_45 (by decide) (fun c45 => absurd c45 (by decide)) (fun _ => ?_)
        refine pc_iload dX0_firstKind_48 rfl ?_
        refine pc_if_eq (tgt := 84) dX0_firstKind_50 (by decide) (fun _ => ?_) (fun c50 => absurd c50 (by decide))
        have n9 : C < a → C < b → ¬ ed S W a b (a - (C + 1)) (b - (C + 1)) + 1 = E := fun _ z _ => by omega
        refine pc_iload dX0_firstKind_84 rfl ?_
        refine pc_if_eq (tgt := 120) dX0_firstKind_86 (by decide) (fun _ => ?_) (fun c86 => absurd c86 (by decide))
        have m9 : C < b → ¬ ed S W a b (a - C) (b - (C + 1)) + 1 = E := fun z _ => by omega
        refine pc_iconst dX0_firstKind_120 (show Int32.ofInt (2) = (2) by decide) ?_
        refine pc_iret hQ dX0_firstKind_121 rfl rfl ?_
        refine ⟨?_, rfl, rfl⟩
        rw [if_neg (show ¬ E = 0 from e0)]
        unfold hkn
        rw [hE]
        rw [if_neg (fun z => n9 z.1 z.2.1 z.2.2), if_neg (fun z => m9 z.1 z.2)]
        rfl
      ·
        have c349 := Int32.not_le.mp c34
        have zb : C < b := by
          by_cases z : C < b
          · exact z
          · exact absurd (nI_le (show b ≤ C by omega) (by omega)) c34
        refine pc_iconst dX0_firstKind_37 (show Int32.ofInt (1) = (1) by decide) ?_
        refine pc_goto (tgt := 42) dX0_firstKind_38 (by decide) ?_
        refine pc_istore dX0_firstKind_42 (Nat.le_of_ble_eq_true rfl) ?_
        refine pc_iload_n dX0_firstKind_44 rfl ?_
        refine pc_if_eq (tgt := 84) dX0_firstKind_45 (by decide) (fun c45 => absurd c45 (by decide)) (fun _ => ?_)
        refine pc_iload dX0_firstKind_48 rfl ?_
        refine pc_if_eq (tgt := 84) dX0_firstKind_50 (by decide) (fun c50 => absurd c50 (by decide)) (fun _ => ?_)
        refine pc_aload_n dX0_firstKind_53 rfl rfl ?_
        refine pc_getR (c := 12) (d := 13) dX0_firstKind_54 fk_X0_11 (by decide) rfl rfl ?_
        refine pc_aload_n dX0_firstKind_57 rfl rfl ?_
        refine pc_getS (c := 12) (v := (nI C)) dX0_firstKind_58 fk_X0_16 (by decide) rfl rfl hb1 ?_
        refine pc_iconst dX0_firstKind_61 (show Int32.ofInt (1) = (1) by decide) ?_
        refine pc_iadd dX0_firstKind_62 ?_
        rw [nI_1]
        refine pc_iconst dX0_firstKind_63 (show Int32.ofInt (1) = (1) by decide) ?_
        refine pc_iand dX0_firstKind_64 ?_
        refine pc_rwald (j := C + 1) dX0_firstKind_65 rfl ?_
        refine pc_aload_n dX0_firstKind_66 rfl rfl ?_
        refine pc_getS (c := 12) (v := (nI C)) dX0_firstKind_67 fk_X0_16 (by decide) rfl rfl hb1 ?_
        refine pc_iconst dX0_firstKind_70 (show Int32.ofInt (1) = (1) by decide) ?_
        refine pc_iadd dX0_firstKind_71 ?_
        rw [nI_1]
        refine pc_iald (c := (14 + (C + 1) % 2)) (v := (nI (ed S W a b (a - (C + 1)) (b - (C + 1))))) (j := C + 1) dX0_firstKind_72 (by omega) (rw_n _) (rw_a _) rfl (by omega) (by decide) (hr2 za (C + 1) (by omega) (by omega)) ?_
        refine pc_aload_n dX0_firstKind_73 rfl rfl ?_
        refine pc_getS (c := 12) (v := (nI E)) dX0_firstKind_74 fk_X0_34 (by decide) rfl rfl hb2 ?_
        refine pc_iconst dX0_firstKind_77 (show Int32.ofInt (1) = (1) by decide) ?_
        refine pc_isub dX0_firstKind_78 ?_
        refine pc_icmp_ne (tgt := 84) dX0_firstKind_79 (by decide) (fun c79 => ?_) (fun c79 => ?_)
        ·
          have n9 : C < a → C < b → ¬ ed S W a b (a - (C + 1)) (b - (C + 1)) + 1 = E := fun _ _ z => c79 (by rw [pr1 (by omega), show E - 1 = ed S W a b (a - (C + 1)) (b - (C + 1)) by omega])
          refine pc_iload dX0_firstKind_84 rfl ?_
          refine pc_if_eq (tgt := 120) dX0_firstKind_86 (by decide) (fun c86 => absurd c86 (by decide)) (fun _ => ?_)
          refine pc_aload_n dX0_firstKind_89 rfl rfl ?_
          refine pc_getR (c := 12) (d := 13) dX0_firstKind_90 fk_X0_11 (by decide) rfl rfl ?_
          refine pc_aload_n dX0_firstKind_93 rfl rfl ?_
          refine pc_getS (c := 12) (v := (nI C)) dX0_firstKind_94 fk_X0_16 (by decide) rfl rfl hb1 ?_
          refine pc_iconst dX0_firstKind_97 (show Int32.ofInt (1) = (1) by decide) ?_
          refine pc_iand dX0_firstKind_98 ?_
          refine pc_rwald (j := C) dX0_firstKind_99 rfl ?_
          refine pc_aload_n dX0_firstKind_100 rfl rfl ?_
          refine pc_getS (c := 12) (v := (nI C)) dX0_firstKind_101 fk_X0_16 (by decide) rfl rfl hb1 ?_
          refine pc_iconst dX0_firstKind_104 (show Int32.ofInt (1) = (1) by decide) ?_
          refine pc_iadd dX0_firstKind_105 ?_
          rw [nI_1]
          refine pc_iald (c := (14 + C % 2)) (v := (nI (ed S W a b (a - C) (b - (C + 1))))) (j := C + 1) dX0_firstKind_106 (by omega) (rw_n _) (rw_a _) rfl (by omega) (by decide) (hr1 (C + 1) (by omega) (by omega)) ?_
          refine pc_aload_n dX0_firstKind_107 rfl rfl ?_
          refine pc_getS (c := 12) (v := (nI E)) dX0_firstKind_108 fk_X0_34 (by decide) rfl rfl hb2 ?_
          refine pc_iconst dX0_firstKind_111 (show Int32.ofInt (1) = (1) by decide) ?_
          refine pc_isub dX0_firstKind_112 ?_
          refine pc_icmp_ne (tgt := 120) dX0_firstKind_113 (by decide) (fun c113 => ?_) (fun c113 => ?_)
          ·
            have m9 : C < b → ¬ ed S W a b (a - C) (b - (C + 1)) + 1 = E := fun _ z => c113 (by rw [pr1 (by omega), show E - 1 = ed S W a b (a - C) (b - (C + 1)) by omega])
            refine pc_iconst dX0_firstKind_120 (show Int32.ofInt (2) = (2) by decide) ?_
            refine pc_iret hQ dX0_firstKind_121 rfl rfl ?_
            refine ⟨?_, rfl, rfl⟩
            rw [if_neg (show ¬ E = 0 from e0)]
            unfold hkn
            rw [hE]
            rw [if_neg (fun z => n9 z.1 z.2.1 z.2.2), if_neg (fun z => m9 z.1 z.2)]
            rfl
          ·
            have l9 := ed_le S W a b (a - C) (b - (C + 1))
            have y9 : ed S W a b (a - C) (b - (C + 1)) + 1 = E := by
              rw [pr1 (by omega)] at c113
              have := (nI_eq (by omega) (by omega)).mp c113
              omega
            refine pc_iconst dX0_firstKind_116 (show Int32.ofInt (1) = (1) by decide) ?_
            refine pc_goto (tgt := 121) dX0_firstKind_117 (by decide) ?_
            refine pc_iret hQ dX0_firstKind_121 rfl rfl ?_
            refine ⟨?_, rfl, rfl⟩
            rw [if_neg (show ¬ E = 0 from e0)]
            unfold hkn
            rw [hE]
            rw [if_neg (fun z => n9 z.1 z.2.1 z.2.2), if_pos ⟨zb, y9⟩]
            rfl
        ·
          have l9 := ed_le S W a b (a - (C + 1)) (b - (C + 1))
          have x9 : ed S W a b (a - (C + 1)) (b - (C + 1)) + 1 = E := by
            rw [pr1 (by omega)] at c79
            have := (nI_eq (by omega) (by omega)).mp c79
            omega
          refine pc_iconst dX0_firstKind_82 (show Int32.ofInt (0) = (0) by decide) ?_
          refine pc_iret hQ dX0_firstKind_83 rfl rfl ?_
          refine ⟨?_, rfl, rfl⟩
          rw [if_neg (show ¬ E = 0 from e0)]
          unfold hkn
          rw [hE]
          rw [if_pos ⟨za, zb, x9⟩]
          rfl
  ·
    refine pc_iconst dX0_firstKind_7 (show Int32.ofInt (-1) = (-1) by decide) ?_
    have e0 : E = 0 := by
      by_cases z : E = 0
      · exact z
      · exact absurd c4 (nI_ne0 (by omega) (by omega))
    refine pc_iret hQ dX0_firstKind_8 rfl rfl ⟨?_, rfl, rfl⟩
    rw [if_pos e0]
