/-- the fewest changes from the last a tokens of S (n long) to the last b of W (m long) -/
def ed (S W : Nat → Int32) (n m : Nat) : Nat → Nat → Nat
  | 0 => fun b => b
  | a + 1 => fun b => Nat.rec (a + 1) (fun b r => min (ed S W n m a b + (if S (n - (a + 1)) = W (m - (b + 1)) then 0 else 1)) (1 + min r (ed S W n m a (b + 1)))) b
theorem ed_0 (S W : Nat → Int32) (n m b : Nat) : ed S W n m 0 b = b := rfl
theorem ed_s0 (S W : Nat → Int32) (n m a : Nat) : ed S W n m (a + 1) 0 = a + 1 := rfl
theorem ed_ss (S W : Nat → Int32) (n m a b : Nat) : ed S W n m (a + 1) (b + 1) = min (ed S W n m a b + (if S (n - (a + 1)) = W (m - (b + 1)) then 0 else 1)) (1 + min (ed S W n m (a + 1) b) (ed S W n m a (b + 1))) := rfl
theorem ed_a0 (S W : Nat → Int32) (n m : Nat) : ∀ a, ed S W n m a 0 = a
  | 0 => rfl
  | _ + 1 => rfl
theorem ed_le (S W : Nat → Int32) (n m : Nat) : ∀ a b, ed S W n m a b ≤ a + b
  | 0, b => by rw [ed_0]; omega
  | a + 1, 0 => by rw [ed_s0]; omega
  | a + 1, b + 1 => by
    have h1 := ed_le S W n m a b
    rw [ed_ss]
    split <;> omega
/-- one token more or fewer is one change more or fewer at most -/
theorem ed_lip (S W : Nat → Int32) (n m : Nat) : ∀ a b, ed S W n m a b ≤ ed S W n m (a + 1) b + 1 ∧ ed S W n m (a + 1) b ≤ ed S W n m a b + 1 ∧ ed S W n m a b ≤ ed S W n m a (b + 1) + 1 ∧ ed S W n m a (b + 1) ≤ ed S W n m a b + 1
  | 0, 0 => by
    rw [ed_0, ed_s0, ed_0]; omega
  | 0, b + 1 => by
    have h := ed_lip S W n m 0 b
    rw [ed_0, ed_0] at *
    rw [ed_ss, ed_0, ed_0]
    split <;> omega
  | a + 1, 0 => by
    have h := ed_lip S W n m a 0
    rw [ed_s0] at *
    rw [ed_s0, ed_ss, ed_s0, ed_a0] at *
    split <;> omega
  | a + 1, b + 1 => by
    have h1 := ed_lip S W n m a (b + 1)
    have h2 := ed_lip S W n m (a + 1) b
    have h3 := ed_lip S W n m a b
    have e1 := ed_ss S W n m (a + 1) b
    have e2 := ed_ss S W n m a (b + 1)
    have e3 := ed_ss S W n m a b
    have c1 : (if S (n - (a + 1 + 1)) = W (m - (b + 1)) then 0 else 1) ≤ 1 := by split <;> omega
    have c2 : (if S (n - (a + 1)) = W (m - (b + 1 + 1)) then 0 else 1) ≤ 1 := by split <;> omega
    refine ⟨?_, ?_, ?_, ?_⟩ <;> omega
theorem ed_eq {S W : Nat → Int32} {n m a b : Nat} (h : S (n - (a + 1)) = W (m - (b + 1))) : ed S W n m (a + 1) (b + 1) = ed S W n m a b := by
  have h1 := ed_lip S W n m a b
  rw [ed_ss, if_pos h]
  omega
theorem ed_ne {S W : Nat → Int32} {n m a b : Nat} (h : ¬ S (n - (a + 1)) = W (m - (b + 1))) : ed S W n m (a + 1) (b + 1) = 1 + min (ed S W n m a b) (min (ed S W n m (a + 1) b) (ed S W n m a (b + 1))) := by
  rw [ed_ss, if_neg h]
  omega
theorem nI_min {a b : Nat} (ha : a < 2 ^ 31) (hb : b < 2 ^ 31) : (if nI b < nI a then nI b else nI a) = nI (min a b) := by
  by_cases c : b < a
  · rw [if_pos (nI_lt c ha), Nat.min_eq_right (by omega)]
  · rw [if_neg (nI_nlt (by omega) hb), Nat.min_eq_left (by omega)]
theorem sc_minN (d : Nat) {a b : Nat} (ha : a < 2 ^ 31) (hb : b < 2 ^ 31) : SC (d + 1) 162 [.int (nI a), .int (nI b)] (some (.int (nI (min a b)))) := by
  have := sc_min d (nI a) (nI b)
  rwa [nI_min ha hb] at this
theorem sc_place (d i j : Nat) : SC (d + 1) 142 [.int (nI i), .int (nI j)] (some (.int (nI (121 * i + j)))) := by
  have := rc_placeOf d (nI i) (nI j)
  rwa [show (121 : Int32) * nI i + nI j = nI (121 * i + j) from ix_mul 121 i j] at this
theorem nI_dec (x : Int32) : x + -1 = x - 1 := (Int32.sub_eq_add_neg x 1).symm
def wyT (ar : Nat → Nat → Int32) (w : Nat) : Nat → Int32 := fun j => ar 15 (120 * w + j)
/-- the cells of 'left' that are right: the rows from I on, and of row i those from J on -/
def lfI (S W : Nat → Int32) (n m I i J : Nat) (f : Nat → Int32) : Prop := ∀ x y, x ≤ n → y ≤ m → (I ≤ x ∨ (x = i ∧ J ≤ y)) → f (121 * x + y) = nI (ed S W n m (n - x) (m - y))
set_option maxHeartbeats 4000000 in
set_option maxRecDepth 20000 in
theorem rl_chIn {fx : px_F} {dd : Nat} {Q : px_Q} {al : Nat → Nat} {nn : Nat} {g0 : Nat → px_O} {r : Nat} {sc : Nat → Int32} {ar : Nat → Nat → Int32} {n m w : Nat} (hn : sc 16 = nI n) (hn2 : n ≤ 120) (hm2 : m ≤ 120) (hw : w < 100) {i : Nat} (hi : i ≤ n) (kk : ∀ f l4 l5, lfI (ar 3) (wyT ar w) n m i i 0 f → pr fx (px_body pm_X10_changes) (dd + 1) Q al nn g0 r sc (va_up ar 20 f) 172 [.ref (al r), .int (nI w), .int (nI m), .int (nI i), l4, l5] []) : ∀ (J : Nat) (f : Nat → Int32) (l5 : Value), J ≤ m + 1 → lfI (ar 3) (wyT ar w) n m (i + 1) i J f → pr fx (px_body pm_X10_changes) (dd + 1) Q al nn g0 r sc (va_up ar 20 f) 19 [.ref (al r), .int (nI w), .int (nI m), .int (nI i), .int (nI J - 1), l5] []
  | 0, f, l5, hJ, hf => by
    refine pr_iload dX10_changes_19 rfl ?_
    refine pr_if_lt (tgt := 172) dX10_changes_21 (by decide) (fun c21 => ?_) (fun c21 => absurd (show nI 0 - 1 < 0 by decide) c21)
    refine kk f _ _ (fun x y hx hy h => hf x y hx hy ?_)
    rcases h with h | ⟨h1, h2⟩
    · by_cases e : x = i
      · exact Or.inr ⟨e, Nat.zero_le _⟩
      · exact Or.inl (by omega)
    · exact Or.inr ⟨h1, h2⟩
  | J + 1, f, l5, hJ, hf => by
    rw [nI_pred]
    have h240 : ∀ a b, a ≤ 121 → b ≤ 121 → ed (ar 3) (wyT ar w) n m a b ≤ 242 := fun a b ha hb => by have := ed_le (ar 3) (wyT ar w) n m a b; omega
    have done : ∀ l5 : Value, pr fx (px_body pm_X10_changes) (dd + 1) Q al nn g0 r sc (va_up ar 20 f) 153 [.ref (al r), .int (nI w), .int (nI m), .int (nI i), .int (nI J), .int (nI (ed (ar 3) (wyT ar w) n m (n - i) (m - J)))] [] := by
      intro l5
      refine pr_aload_n dX10_changes_153 rfl rfl ?_
      refine pr_getA dX10_changes_154 fk_X10_76 rfl ?_
      refine pr_iload_n dX10_changes_157 rfl ?_
      refine pr_iload dX10_changes_158 rfl ?_
      refine pr_callSC dX10_changes_160 cl_X10_280 (sc_place dd (i) (J)) rfl rfl (Nat.le_of_ble_eq_true rfl) ⟨rfl, rfl⟩ ?_
      refine pr_iload dX10_changes_163 rfl ?_
      refine pr_iast (j := 121 * i + J) dX10_changes_165 (by decide) rfl rfl (by show 121 * i + J < 14641; omega) ?_
      rw [va_3]
      refine pr_iinc dX10_changes_166 rfl (show Int32.ofInt (-1) = (-1) by decide) ?_
      rw [nI_dec]
      refine pr_goto (tgt := 19) dX10_changes_169 (by decide) ?_
      refine rl_chIn hn hn2 hm2 hw hi kk J _ _ (by omega) (fun x y hx hy h => ?_)
      by_cases e : x = i ∧ y = J
      · obtain ⟨rfl, rfl⟩ := e
        exact pk_us
      · rw [va_up_self]
        rw [pk_un (fun z => e (by omega))]
        exact hf x y hx hy (by omega)
    refine pr_iload dX10_changes_19 rfl ?_
    refine pr_if_lt (tgt := 172) dX10_changes_21 (by decide) (fun c21 => absurd c21 (nI_pos (by omega))) (fun c21 => ?_)
    refine pr_iload_n dX10_changes_24 rfl ?_
    refine pr_aload_n dX10_changes_25 rfl rfl ?_
    refine pr_getS (v := nI n) dX10_changes_26 fk_X10_184 rfl hn ?_
    refine pr_icmp_ne (tgt := 39) dX10_changes_29 (by decide) (fun c29 => ?_) (fun c29 => ?_)
    ·
      refine pr_iload dX10_changes_39 rfl ?_
      refine pr_iload_n dX10_changes_41 rfl ?_
      refine pr_icmp_ne (tgt := 54) dX10_changes_42 (by decide) (fun c42 => ?_) (fun c42 => ?_)
      ·
        refine pr_iconst dX10_changes_54 (show Int32.ofInt (0) = (0) by decide) ?_
        refine pr_istore dX10_changes_55 (Nat.le_of_ble_eq_true rfl) ?_
        refine pr_iload_n dX10_changes_57 rfl ?_
        refine pr_aload_n dX10_changes_58 rfl rfl ?_
        refine pr_getS (v := nI n) dX10_changes_59 fk_X10_184 rfl hn ?_
        refine pr_icmp_ge (tgt := 153) dX10_changes_62 (by decide) (fun c62 => ?_) (fun c62 => ?_)
        ·
          have c629 := Int32.not_lt.mpr c62
          exfalso
          have g1 : ¬ i = n := fun z => c29 (by rw [z])
          have g2 : ¬ J = m := fun z => c42 (by rw [z])
          exact absurd ((nI_leI (by omega) (by omega)).mp c62) (by omega)
        ·
          have c629 := Int32.not_le.mp c62
          refine pr_iload dX10_changes_65 rfl ?_
          refine pr_iload_n dX10_changes_67 rfl ?_
          refine pr_icmp_ge (tgt := 153) dX10_changes_68 (by decide) (fun c68 => ?_) (fun c68 => ?_)
          ·
            have c689 := Int32.not_lt.mpr c68
            exfalso
            have g1 : ¬ i = n := fun z => c29 (by rw [z])
            have g2 : ¬ J = m := fun z => c42 (by rw [z])
            exact absurd ((nI_leI (by omega) (by omega)).mp c68) (by omega)
          ·
            have c689 := Int32.not_le.mp c68
            have hin : i < n := (nI_ltI (by omega) (by omega)).mp (Int32.not_le.mp c62)
            have hjm : J < m := (nI_ltI (by omega) (by omega)).mp (Int32.not_le.mp c68)
            obtain ⟨a, ha⟩ : ∃ a, n - i = a + 1 := ⟨n - i - 1, by omega⟩
            obtain ⟨b, hb⟩ : ∃ b, m - J = b + 1 := ⟨m - J - 1, by omega⟩
            have e1 : n - (a + 1) = i := by omega
            have e2 : m - (b + 1) = J := by omega
            have f1 : f (121 * (i + 1) + (J + 1)) = nI (ed (ar 3) (wyT ar w) n m a b) := by rw [hf (i + 1) (J + 1) (by omega) (by omega) (Or.inl (Nat.le_refl _)), show n - (i + 1) = a from by omega, show m - (J + 1) = b from by omega]
            have f2 : f (121 * i + (J + 1)) = nI (ed (ar 3) (wyT ar w) n m (a + 1) b) := by rw [hf i (J + 1) (by omega) (by omega) (Or.inr ⟨rfl, Nat.le_refl _⟩), ha, show m - (J + 1) = b from by omega]
            have f3 : f (121 * (i + 1) + J) = nI (ed (ar 3) (wyT ar w) n m a (b + 1)) := by rw [hf (i + 1) J (by omega) (by omega) (Or.inl (Nat.le_refl _)), show n - (i + 1) = a from by omega, hb]
            have d1 := h240 a b (by omega) (by omega)
            have d2 := h240 (a + 1) b (by omega) (by omega)
            have d3 := h240 a (b + 1) (by omega) (by omega)
            refine pr_aload_n dX10_changes_71 rfl rfl ?_
            refine pr_getA dX10_changes_72 fk_X10_76 rfl ?_
            refine pr_iload_n dX10_changes_75 rfl ?_
            refine pr_iconst dX10_changes_76 (show Int32.ofInt (1) = (1) by decide) ?_
            refine pr_iadd dX10_changes_77 ?_
            rw [nI_1]
            refine pr_iload dX10_changes_78 rfl ?_
            refine pr_iconst dX10_changes_80 (show Int32.ofInt (1) = (1) by decide) ?_
            refine pr_iadd dX10_changes_81 ?_
            rw [nI_1]
            refine pr_callSC dX10_changes_82 cl_X10_280 (sc_place dd (i + 1) (J + 1)) rfl rfl (Nat.le_of_ble_eq_true rfl) ⟨rfl, rfl⟩ ?_
            refine pr_iald (v := (nI (ed (ar 3) (wyT ar w) n m a b))) (j := 121 * (i + 1) + (J + 1)) dX10_changes_85 (by decide) rfl rfl (by show 121 * (i + 1) + (J + 1) < 14641; omega) f1 ?_
            refine pr_aload_n dX10_changes_86 rfl rfl ?_
            refine pr_getA dX10_changes_87 fk_X10_24 rfl ?_
            refine pr_iload_n dX10_changes_90 rfl ?_
            refine pr_iald (v := (ar 3 i)) (j := i) dX10_changes_91 (by decide) rfl rfl (by show i < 120; omega) rfl ?_
            refine pr_aload_n dX10_changes_92 rfl rfl ?_
            refine pr_getA dX10_changes_93 fk_X10_61 rfl ?_
            refine pr_bipush dX10_changes_96 (show (Int8.ofInt (120)).toInt32 = (120) by decide) ?_
            refine pr_iload_n dX10_changes_98 rfl ?_
            refine pr_imul dX10_changes_99 ?_
            refine pr_iload dX10_changes_100 rfl ?_
            refine pr_iadd dX10_changes_102 ?_
            refine pr_iald (v := (wyT ar w J)) (j := 120 * w + J) dX10_changes_103 (by decide) rfl (ix_mul 120 w J) (by show 120 * w + J < 12000; omega) rfl ?_
            refine pr_icmp_ne (tgt := 111) dX10_changes_104 (by decide) (fun c104 => ?_) (fun c104 => ?_)
            ·
              refine pr_iconst dX10_changes_111 (show Int32.ofInt (1) = (1) by decide) ?_
              refine pr_iadd dX10_changes_112 ?_
              rw [show nI (ed (ar 3) (wyT ar w) n m a b) + 1 = nI (ed (ar 3) (wyT ar w) n m a b + 1) from nI_add _ 1]
              refine pr_istore dX10_changes_113 (Nat.le_of_ble_eq_true rfl) ?_
              refine pr_iload dX10_changes_115 rfl ?_
              refine pr_iconst dX10_changes_117 (show Int32.ofInt (1) = (1) by decide) ?_
              refine pr_aload_n dX10_changes_118 rfl rfl ?_
              refine pr_getA dX10_changes_119 fk_X10_76 rfl ?_
              refine pr_iload_n dX10_changes_122 rfl ?_
              refine pr_iload dX10_changes_123 rfl ?_
              refine pr_iconst dX10_changes_125 (show Int32.ofInt (1) = (1) by decide) ?_
              refine pr_iadd dX10_changes_126 ?_
              rw [nI_1]
              refine pr_callSC dX10_changes_127 cl_X10_280 (sc_place dd (i) (J + 1)) rfl rfl (Nat.le_of_ble_eq_true rfl) ⟨rfl, rfl⟩ ?_
              refine pr_iald (v := (nI (ed (ar 3) (wyT ar w) n m (a + 1) b))) (j := 121 * i + (J + 1)) dX10_changes_130 (by decide) rfl rfl (by show 121 * i + (J + 1) < 14641; omega) f2 ?_
              refine pr_aload_n dX10_changes_131 rfl rfl ?_
              refine pr_getA dX10_changes_132 fk_X10_76 rfl ?_
              refine pr_iload_n dX10_changes_135 rfl ?_
              refine pr_iconst dX10_changes_136 (show Int32.ofInt (1) = (1) by decide) ?_
              refine pr_iadd dX10_changes_137 ?_
              rw [nI_1]
              refine pr_iload dX10_changes_138 rfl ?_
              refine pr_callSC dX10_changes_140 cl_X10_280 (sc_place dd (i + 1) (J)) rfl rfl (Nat.le_of_ble_eq_true rfl) ⟨rfl, rfl⟩ ?_
              refine pr_iald (v := (nI (ed (ar 3) (wyT ar w) n m a (b + 1)))) (j := 121 * (i + 1) + J) dX10_changes_143 (by decide) rfl rfl (by show 121 * (i + 1) + J < 14641; omega) f3 ?_
              refine pr_callSC dX10_changes_144 cl_X10_270 (sc_minN dd (a := ed (ar 3) (wyT ar w) n m (a + 1) b) (b := ed (ar 3) (wyT ar w) n m a (b + 1)) (by omega) (by omega)) rfl rfl (Nat.le_of_ble_eq_true rfl) ⟨rfl, rfl⟩ ?_
              refine pr_iadd dX10_changes_147 ?_
              rw [show (1 : Int32) + nI (min (ed (ar 3) (wyT ar w) n m (a + 1) b) (ed (ar 3) (wyT ar w) n m a (b + 1))) = nI (1 + min (ed (ar 3) (wyT ar w) n m (a + 1) b) (ed (ar 3) (wyT ar w) n m a (b + 1))) from nI_add 1 _]
              refine pr_callSC dX10_changes_148 cl_X10_270 (sc_minN dd (a := ed (ar 3) (wyT ar w) n m a b + 1) (b := 1 + min (ed (ar 3) (wyT ar w) n m (a + 1) b) (ed (ar 3) (wyT ar w) n m a (b + 1))) (by omega) (by omega)) rfl rfl (Nat.le_of_ble_eq_true rfl) ⟨rfl, rfl⟩ ?_
              refine pr_istore dX10_changes_151 (Nat.le_of_ble_eq_true rfl) ?_
              have e9 : min (ed (ar 3) (wyT ar w) n m a b + 1) (1 + min (ed (ar 3) (wyT ar w) n m (a + 1) b) (ed (ar 3) (wyT ar w) n m a (b + 1))) = ed (ar 3) (wyT ar w) n m (n - i) (m - J) := by
                rw [ha, hb, ed_ss, e1, e2, if_neg c104]
              rw [e9]
              exact done .null
            ·
              refine pr_iconst dX10_changes_107 (show Int32.ofInt (0) = (0) by decide) ?_
              refine pr_goto (tgt := 112) dX10_changes_108 (by decide) ?_
              refine pr_iadd dX10_changes_112 ?_
              rw [show nI (ed (ar 3) (wyT ar w) n m a b) + 0 = nI (ed (ar 3) (wyT ar w) n m a b + 0) from nI_add _ 0]
              refine pr_istore dX10_changes_113 (Nat.le_of_ble_eq_true rfl) ?_
              refine pr_iload dX10_changes_115 rfl ?_
              refine pr_iconst dX10_changes_117 (show Int32.ofInt (1) = (1) by decide) ?_
              refine pr_aload_n dX10_changes_118 rfl rfl ?_
              refine pr_getA dX10_changes_119 fk_X10_76 rfl ?_
              refine pr_iload_n dX10_changes_122 rfl ?_
              refine pr_iload dX10_changes_123 rfl ?_
              refine pr_iconst dX10_changes_125 (show Int32.ofInt (1) = (1) by decide) ?_
              refine pr_iadd dX10_changes_126 ?_
              rw [nI_1]
              refine pr_callSC dX10_changes_127 cl_X10_280 (sc_place dd (i) (J + 1)) rfl rfl (Nat.le_of_ble_eq_true rfl) ⟨rfl, rfl⟩ ?_
              refine pr_iald (v := (nI (ed (ar 3) (wyT ar w) n m (a + 1) b))) (j := 121 * i + (J + 1)) dX10_changes_130 (by decide) rfl rfl (by show 121 * i + (J + 1) < 14641; omega) f2 ?_
              refine pr_aload_n dX10_changes_131 rfl rfl ?_
              refine pr_getA dX10_changes_132 fk_X10_76 rfl ?_
              refine pr_iload_n dX10_changes_135 rfl ?_
              refine pr_iconst dX10_changes_136 (show Int32.ofInt (1) = (1) by decide) ?_
              refine pr_iadd dX10_changes_137 ?_
              rw [nI_1]
              refine pr_iload dX10_changes_138 rfl ?_
              refine pr_callSC dX10_changes_140 cl_X10_280 (sc_place dd (i + 1) (J)) rfl rfl (Nat.le_of_ble_eq_true rfl) ⟨rfl, rfl⟩ ?_
              refine pr_iald (v := (nI (ed (ar 3) (wyT ar w) n m a (b + 1)))) (j := 121 * (i + 1) + J) dX10_changes_143 (by decide) rfl rfl (by show 121 * (i + 1) + J < 14641; omega) f3 ?_
              refine pr_callSC dX10_changes_144 cl_X10_270 (sc_minN dd (a := ed (ar 3) (wyT ar w) n m (a + 1) b) (b := ed (ar 3) (wyT ar w) n m a (b + 1)) (by omega) (by omega)) rfl rfl (Nat.le_of_ble_eq_true rfl) ⟨rfl, rfl⟩ ?_
              refine pr_iadd dX10_changes_147 ?_
              rw [show (1 : Int32) + nI (min (ed (ar 3) (wyT ar w) n m (a + 1) b) (ed (ar 3) (wyT ar w) n m a (b + 1))) = nI (1 + min (ed (ar 3) (wyT ar w) n m (a + 1) b) (ed (ar 3) (wyT ar w) n m a (b + 1))) from nI_add 1 _]
              refine pr_callSC dX10_changes_148 cl_X10_270 (sc_minN dd (a := ed (ar 3) (wyT ar w) n m a b + 0) (b := 1 + min (ed (ar 3) (wyT ar w) n m (a + 1) b) (ed (ar 3) (wyT ar w) n m a (b + 1))) (by omega) (by omega)) rfl rfl (Nat.le_of_ble_eq_true rfl) ⟨rfl, rfl⟩ ?_
              refine pr_istore dX10_changes_151 (Nat.le_of_ble_eq_true rfl) ?_
              have e9 : min (ed (ar 3) (wyT ar w) n m a b + 0) (1 + min (ed (ar 3) (wyT ar w) n m (a + 1) b) (ed (ar 3) (wyT ar w) n m a (b + 1))) = ed (ar 3) (wyT ar w) n m (n - i) (m - J) := by
                rw [ha, hb, ed_ss, e1, e2, if_pos c104]
              rw [e9]
              exact done .null
      ·
        refine pr_aload_n dX10_changes_45 rfl rfl ?_
        refine pr_getS (v := nI n) dX10_changes_46 fk_X10_184 rfl hn ?_
        refine pr_iload_n dX10_changes_49 rfl ?_
        refine pr_isub dX10_changes_50 ?_
        rw [show nI n - nI i = nI (n - i) from pk_sub (by omega)]
        refine pr_goto (tgt := 55) dX10_changes_51 (by decide) ?_
        refine pr_istore dX10_changes_55 (Nat.le_of_ble_eq_true rfl) ?_
        refine pr_iload_n dX10_changes_57 rfl ?_
        refine pr_aload_n dX10_changes_58 rfl rfl ?_
        refine pr_getS (v := nI n) dX10_changes_59 fk_X10_184 rfl hn ?_
        refine pr_icmp_ge (tgt := 153) dX10_changes_62 (by decide) (fun c62 => ?_) (fun c62 => ?_)
        ·
          have c629 := Int32.not_lt.mpr c62
          have e9 : J = m := (nI_eq (by omega) (by omega)).mp c42
          subst e9
          have key := done .null
          rw [Nat.sub_self, ed_a0] at key
          exact key
        ·
          have c629 := Int32.not_le.mp c62
          refine pr_iload dX10_changes_65 rfl ?_
          refine pr_iload_n dX10_changes_67 rfl ?_
          refine pr_icmp_ge (tgt := 153) dX10_changes_68 (by decide) (fun c68 => ?_) (fun c68 => ?_)
          ·
            have c689 := Int32.not_lt.mpr c68
            have e9 : J = m := (nI_eq (by omega) (by omega)).mp c42
            subst e9
            have key := done .null
            rw [Nat.sub_self, ed_a0] at key
            exact key
          ·
            have c689 := Int32.not_le.mp c68
            have hin : i < n := (nI_ltI (by omega) (by omega)).mp (Int32.not_le.mp c62)
            have hjm : J < m := (nI_ltI (by omega) (by omega)).mp (Int32.not_le.mp c68)
            obtain ⟨a, ha⟩ : ∃ a, n - i = a + 1 := ⟨n - i - 1, by omega⟩
            obtain ⟨b, hb⟩ : ∃ b, m - J = b + 1 := ⟨m - J - 1, by omega⟩
            have e1 : n - (a + 1) = i := by omega
            have e2 : m - (b + 1) = J := by omega
            have f1 : f (121 * (i + 1) + (J + 1)) = nI (ed (ar 3) (wyT ar w) n m a b) := by rw [hf (i + 1) (J + 1) (by omega) (by omega) (Or.inl (Nat.le_refl _)), show n - (i + 1) = a from by omega, show m - (J + 1) = b from by omega]
            have f2 : f (121 * i + (J + 1)) = nI (ed (ar 3) (wyT ar w) n m (a + 1) b) := by rw [hf i (J + 1) (by omega) (by omega) (Or.inr ⟨rfl, Nat.le_refl _⟩), ha, show m - (J + 1) = b from by omega]
            have f3 : f (121 * (i + 1) + J) = nI (ed (ar 3) (wyT ar w) n m a (b + 1)) := by rw [hf (i + 1) J (by omega) (by omega) (Or.inl (Nat.le_refl _)), show n - (i + 1) = a from by omega, hb]
            have d1 := h240 a b (by omega) (by omega)
            have d2 := h240 (a + 1) b (by omega) (by omega)
            have d3 := h240 a (b + 1) (by omega) (by omega)
            refine pr_aload_n dX10_changes_71 rfl rfl ?_
            refine pr_getA dX10_changes_72 fk_X10_76 rfl ?_
            refine pr_iload_n dX10_changes_75 rfl ?_
            refine pr_iconst dX10_changes_76 (show Int32.ofInt (1) = (1) by decide) ?_
            refine pr_iadd dX10_changes_77 ?_
            rw [nI_1]
            refine pr_iload dX10_changes_78 rfl ?_
            refine pr_iconst dX10_changes_80 (show Int32.ofInt (1) = (1) by decide) ?_
            refine pr_iadd dX10_changes_81 ?_
            rw [nI_1]
            refine pr_callSC dX10_changes_82 cl_X10_280 (sc_place dd (i + 1) (J + 1)) rfl rfl (Nat.le_of_ble_eq_true rfl) ⟨rfl, rfl⟩ ?_
            refine pr_iald (v := (nI (ed (ar 3) (wyT ar w) n m a b))) (j := 121 * (i + 1) + (J + 1)) dX10_changes_85 (by decide) rfl rfl (by show 121 * (i + 1) + (J + 1) < 14641; omega) f1 ?_
            refine pr_aload_n dX10_changes_86 rfl rfl ?_
            refine pr_getA dX10_changes_87 fk_X10_24 rfl ?_
            refine pr_iload_n dX10_changes_90 rfl ?_
            refine pr_iald (v := (ar 3 i)) (j := i) dX10_changes_91 (by decide) rfl rfl (by show i < 120; omega) rfl ?_
            refine pr_aload_n dX10_changes_92 rfl rfl ?_
            refine pr_getA dX10_changes_93 fk_X10_61 rfl ?_
            refine pr_bipush dX10_changes_96 (show (Int8.ofInt (120)).toInt32 = (120) by decide) ?_
            refine pr_iload_n dX10_changes_98 rfl ?_
            refine pr_imul dX10_changes_99 ?_
            refine pr_iload dX10_changes_100 rfl ?_
            refine pr_iadd dX10_changes_102 ?_
            refine pr_iald (v := (wyT ar w J)) (j := 120 * w + J) dX10_changes_103 (by decide) rfl (ix_mul 120 w J) (by show 120 * w + J < 12000; omega) rfl ?_
            refine pr_icmp_ne (tgt := 111) dX10_changes_104 (by decide) (fun c104 => ?_) (fun c104 => ?_)
            ·
              refine pr_iconst dX10_changes_111 (show Int32.ofInt (1) = (1) by decide) ?_
              refine pr_iadd dX10_changes_112 ?_
              rw [show nI (ed (ar 3) (wyT ar w) n m a b) + 1 = nI (ed (ar 3) (wyT ar w) n m a b + 1) from nI_add _ 1]
              refine pr_istore dX10_changes_113 (Nat.le_of_ble_eq_true rfl) ?_
              refine pr_iload dX10_changes_115 rfl ?_
              refine pr_iconst dX10_changes_117 (show Int32.ofInt (1) = (1) by decide) ?_
              refine pr_aload_n dX10_changes_118 rfl rfl ?_
              refine pr_getA dX10_changes_119 fk_X10_76 rfl ?_
              refine pr_iload_n dX10_changes_122 rfl ?_
              refine pr_iload dX10_changes_123 rfl ?_
              refine pr_iconst dX10_changes_125 (show Int32.ofInt (1) = (1) by decide) ?_
              refine pr_iadd dX10_changes_126 ?_
              rw [nI_1]
              refine pr_callSC dX10_changes_127 cl_X10_280 (sc_place dd (i) (J + 1)) rfl rfl (Nat.le_of_ble_eq_true rfl) ⟨rfl, rfl⟩ ?_
              refine pr_iald (v := (nI (ed (ar 3) (wyT ar w) n m (a + 1) b))) (j := 121 * i + (J + 1)) dX10_changes_130 (by decide) rfl rfl (by show 121 * i + (J + 1) < 14641; omega) f2 ?_
              refine pr_aload_n dX10_changes_131 rfl rfl ?_
              refine pr_getA dX10_changes_132 fk_X10_76 rfl ?_
              refine pr_iload_n dX10_changes_135 rfl ?_
              refine pr_iconst dX10_changes_136 (show Int32.ofInt (1) = (1) by decide) ?_
              refine pr_iadd dX10_changes_137 ?_
              rw [nI_1]
              refine pr_iload dX10_changes_138 rfl ?_
              refine pr_callSC dX10_changes_140 cl_X10_280 (sc_place dd (i + 1) (J)) rfl rfl (Nat.le_of_ble_eq_true rfl) ⟨rfl, rfl⟩ ?_
              refine pr_iald (v := (nI (ed (ar 3) (wyT ar w) n m a (b + 1)))) (j := 121 * (i + 1) + J) dX10_changes_143 (by decide) rfl rfl (by show 121 * (i + 1) + J < 14641; omega) f3 ?_
              refine pr_callSC dX10_changes_144 cl_X10_270 (sc_minN dd (a := ed (ar 3) (wyT ar w) n m (a + 1) b) (b := ed (ar 3) (wyT ar w) n m a (b + 1)) (by omega) (by omega)) rfl rfl (Nat.le_of_ble_eq_true rfl) ⟨rfl, rfl⟩ ?_
              refine pr_iadd dX10_changes_147 ?_
              rw [show (1 : Int32) + nI (min (ed (ar 3) (wyT ar w) n m (a + 1) b) (ed (ar 3) (wyT ar w) n m a (b + 1))) = nI (1 + min (ed (ar 3) (wyT ar w) n m (a + 1) b) (ed (ar 3) (wyT ar w) n m a (b + 1))) from nI_add 1 _]
              refine pr_callSC dX10_changes_148 cl_X10_270 (sc_minN dd (a := ed (ar 3) (wyT ar w) n m a b + 1) (b := 1 + min (ed (ar 3) (wyT ar w) n m (a + 1) b) (ed (ar 3) (wyT ar w) n m a (b + 1))) (by omega) (by omega)) rfl rfl (Nat.le_of_ble_eq_true rfl) ⟨rfl, rfl⟩ ?_
              refine pr_istore dX10_changes_151 (Nat.le_of_ble_eq_true rfl) ?_
              have e9 : min (ed (ar 3) (wyT ar w) n m a b + 1) (1 + min (ed (ar 3) (wyT ar w) n m (a + 1) b) (ed (ar 3) (wyT ar w) n m a (b + 1))) = ed (ar 3) (wyT ar w) n m (n - i) (m - J) := by
                rw [ha, hb, ed_ss, e1, e2, if_neg c104]
              rw [e9]
              exact done .null
            ·
              refine pr_iconst dX10_changes_107 (show Int32.ofInt (0) = (0) by decide) ?_
              refine pr_goto (tgt := 112) dX10_changes_108 (by decide) ?_
              refine pr_iadd dX10_changes_112 ?_
              rw [show nI (ed (ar 3) (wyT ar w) n m a b) + 0 = nI (ed (ar 3) (wyT ar w) n m a b + 0) from nI_add _ 0]
              refine pr_istore dX10_changes_113 (Nat.le_of_ble_eq_true rfl) ?_
              refine pr_iload dX10_changes_115 rfl ?_
              refine pr_iconst dX10_changes_117 (show Int32.ofInt (1) = (1) by decide) ?_
              refine pr_aload_n dX10_changes_118 rfl rfl ?_
              refine pr_getA dX10_changes_119 fk_X10_76 rfl ?_
              refine pr_iload_n dX10_changes_122 rfl ?_
              refine pr_iload dX10_changes_123 rfl ?_
              refine pr_iconst dX10_changes_125 (show Int32.ofInt (1) = (1) by decide) ?_
              refine pr_iadd dX10_changes_126 ?_
              rw [nI_1]
              refine pr_callSC dX10_changes_127 cl_X10_280 (sc_place dd (i) (J + 1)) rfl rfl (Nat.le_of_ble_eq_true rfl) ⟨rfl, rfl⟩ ?_
              refine pr_iald (v := (nI (ed (ar 3) (wyT ar w) n m (a + 1) b))) (j := 121 * i + (J + 1)) dX10_changes_130 (by decide) rfl rfl (by show 121 * i + (J + 1) < 14641; omega) f2 ?_
              refine pr_aload_n dX10_changes_131 rfl rfl ?_
              refine pr_getA dX10_changes_132 fk_X10_76 rfl ?_
              refine pr_iload_n dX10_changes_135 rfl ?_
              refine pr_iconst dX10_changes_136 (show Int32.ofInt (1) = (1) by decide) ?_
              refine pr_iadd dX10_changes_137 ?_
              rw [nI_1]
              refine pr_iload dX10_changes_138 rfl ?_
              refine pr_callSC dX10_changes_140 cl_X10_280 (sc_place dd (i + 1) (J)) rfl rfl (Nat.le_of_ble_eq_true rfl) ⟨rfl, rfl⟩ ?_
              refine pr_iald (v := (nI (ed (ar 3) (wyT ar w) n m a (b + 1)))) (j := 121 * (i + 1) + J) dX10_changes_143 (by decide) rfl rfl (by show 121 * (i + 1) + J < 14641; omega) f3 ?_
              refine pr_callSC dX10_changes_144 cl_X10_270 (sc_minN dd (a := ed (ar 3) (wyT ar w) n m (a + 1) b) (b := ed (ar 3) (wyT ar w) n m a (b + 1)) (by omega) (by omega)) rfl rfl (Nat.le_of_ble_eq_true rfl) ⟨rfl, rfl⟩ ?_
              refine pr_iadd dX10_changes_147 ?_
              rw [show (1 : Int32) + nI (min (ed (ar 3) (wyT ar w) n m (a + 1) b) (ed (ar 3) (wyT ar w) n m a (b + 1))) = nI (1 + min (ed (ar 3) (wyT ar w) n m (a + 1) b) (ed (ar 3) (wyT ar w) n m a (b + 1))) from nI_add 1 _]
              refine pr_callSC dX10_changes_148 cl_X10_270 (sc_minN dd (a := ed (ar 3) (wyT ar w) n m a b + 0) (b := 1 + min (ed (ar 3) (wyT ar w) n m (a + 1) b) (ed (ar 3) (wyT ar w) n m a (b + 1))) (by omega) (by omega)) rfl rfl (Nat.le_of_ble_eq_true rfl) ⟨rfl, rfl⟩ ?_
              refine pr_istore dX10_changes_151 (Nat.le_of_ble_eq_true rfl) ?_
              have e9 : min (ed (ar 3) (wyT ar w) n m a b + 0) (1 + min (ed (ar 3) (wyT ar w) n m (a + 1) b) (ed (ar 3) (wyT ar w) n m a (b + 1))) = ed (ar 3) (wyT ar w) n m (n - i) (m - J) := by
                rw [ha, hb, ed_ss, e1, e2, if_pos c104]
              rw [e9]
              exact done .null
    ·
      refine pr_iload_n dX10_changes_32 rfl ?_
      refine pr_iload dX10_changes_33 rfl ?_
      refine pr_isub dX10_changes_35 ?_
      rw [show nI m - nI J = nI (m - J) from pk_sub (by omega)]
      refine pr_goto (tgt := 55) dX10_changes_36 (by decide) ?_
      refine pr_istore dX10_changes_55 (Nat.le_of_ble_eq_true rfl) ?_
      refine pr_iload_n dX10_changes_57 rfl ?_
      refine pr_aload_n dX10_changes_58 rfl rfl ?_
      refine pr_getS (v := nI n) dX10_changes_59 fk_X10_184 rfl hn ?_
      refine pr_icmp_ge (tgt := 153) dX10_changes_62 (by decide) (fun c62 => ?_) (fun c62 => ?_)
      ·
        have c629 := Int32.not_lt.mpr c62
        have e9 : i = n := (nI_eq (by omega) (by omega)).mp c29
        subst e9
        have key := done .null
        rw [Nat.sub_self, ed_0] at key
        exact key
      ·
        have c629 := Int32.not_le.mp c62
        refine pr_iload dX10_changes_65 rfl ?_
        refine pr_iload_n dX10_changes_67 rfl ?_
        refine pr_icmp_ge (tgt := 153) dX10_changes_68 (by decide) (fun c68 => ?_) (fun c68 => ?_)
        ·
          have c689 := Int32.not_lt.mpr c68
          have e9 : i = n := (nI_eq (by omega) (by omega)).mp c29
          subst e9
          have key := done .null
          rw [Nat.sub_self, ed_0] at key
          exact key
        ·
          have c689 := Int32.not_le.mp c68
          have hin : i < n := (nI_ltI (by omega) (by omega)).mp (Int32.not_le.mp c62)
          have hjm : J < m := (nI_ltI (by omega) (by omega)).mp (Int32.not_le.mp c68)
          obtain ⟨a, ha⟩ : ∃ a, n - i = a + 1 := ⟨n - i - 1, by omega⟩
          obtain ⟨b, hb⟩ : ∃ b, m - J = b + 1 := ⟨m - J - 1, by omega⟩
          have e1 : n - (a + 1) = i := by omega
          have e2 : m - (b + 1) = J := by omega
          have f1 : f (121 * (i + 1) + (J + 1)) = nI (ed (ar 3) (wyT ar w) n m a b) := by rw [hf (i + 1) (J + 1) (by omega) (by omega) (Or.inl (Nat.le_refl _)), show n - (i + 1) = a from by omega, show m - (J + 1) = b from by omega]
          have f2 : f (121 * i + (J + 1)) = nI (ed (ar 3) (wyT ar w) n m (a + 1) b) := by rw [hf i (J + 1) (by omega) (by omega) (Or.inr ⟨rfl, Nat.le_refl _⟩), ha, show m - (J + 1) = b from by omega]
          have f3 : f (121 * (i + 1) + J) = nI (ed (ar 3) (wyT ar w) n m a (b + 1)) := by rw [hf (i + 1) J (by omega) (by omega) (Or.inl (Nat.le_refl _)), show n - (i + 1) = a from by omega, hb]
          have d1 := h240 a b (by omega) (by omega)
          have d2 := h240 (a + 1) b (by omega) (by omega)
          have d3 := h240 a (b + 1) (by omega) (by omega)
          refine pr_aload_n dX10_changes_71 rfl rfl ?_
          refine pr_getA dX10_changes_72 fk_X10_76 rfl ?_
          refine pr_iload_n dX10_changes_75 rfl ?_
          refine pr_iconst dX10_changes_76 (show Int32.ofInt (1) = (1) by decide) ?_
          refine pr_iadd dX10_changes_77 ?_
          rw [nI_1]
          refine pr_iload dX10_changes_78 rfl ?_
          refine pr_iconst dX10_changes_80 (show Int32.ofInt (1) = (1) by decide) ?_
          refine pr_iadd dX10_changes_81 ?_
          rw [nI_1]
          refine pr_callSC dX10_changes_82 cl_X10_280 (sc_place dd (i + 1) (J + 1)) rfl rfl (Nat.le_of_ble_eq_true rfl) ⟨rfl, rfl⟩ ?_
          refine pr_iald (v := (nI (ed (ar 3) (wyT ar w) n m a b))) (j := 121 * (i + 1) + (J + 1)) dX10_changes_85 (by decide) rfl rfl (by show 121 * (i + 1) + (J + 1) < 14641; omega) f1 ?_
          refine pr_aload_n dX10_changes_86 rfl rfl ?_
          refine pr_getA dX10_changes_87 fk_X10_24 rfl ?_
          refine pr_iload_n dX10_changes_90 rfl ?_
          refine pr_iald (v := (ar 3 i)) (j := i) dX10_changes_91 (by decide) rfl rfl (by show i < 120; omega) rfl ?_
          refine pr_aload_n dX10_changes_92 rfl rfl ?_
          refine pr_getA dX10_changes_93 fk_X10_61 rfl ?_
          refine pr_bipush dX10_changes_96 (show (Int8.ofInt (120)).toInt32 = (120) by decide) ?_
          refine pr_iload_n dX10_changes_98 rfl ?_
          refine pr_imul dX10_changes_99 ?_
          refine pr_iload dX10_changes_100 rfl ?_
          refine pr_iadd dX10_changes_102 ?_
          refine pr_iald (v := (wyT ar w J)) (j := 120 * w + J) dX10_changes_103 (by decide) rfl (ix_mul 120 w J) (by show 120 * w + J < 12000; omega) rfl ?_
          refine pr_icmp_ne (tgt := 111) dX10_changes_104 (by decide) (fun c104 => ?_) (fun c104 => ?_)
          ·
            refine pr_iconst dX10_changes_111 (show Int32.ofInt (1) = (1) by decide) ?_
            refine pr_iadd dX10_changes_112 ?_
            rw [show nI (ed (ar 3) (wyT ar w) n m a b) + 1 = nI (ed (ar 3) (wyT ar w) n m a b + 1) from nI_add _ 1]
            refine pr_istore dX10_changes_113 (Nat.le_of_ble_eq_true rfl) ?_
            refine pr_iload dX10_changes_115 rfl ?_
            refine pr_iconst dX10_changes_117 (show Int32.ofInt (1) = (1) by decide) ?_
            refine pr_aload_n dX10_changes_118 rfl rfl ?_
            refine pr_getA dX10_changes_119 fk_X10_76 rfl ?_
            refine pr_iload_n dX10_changes_122 rfl ?_
            refine pr_iload dX10_changes_123 rfl ?_
            refine pr_iconst dX10_changes_125 (show Int32.ofInt (1) = (1) by decide) ?_
            refine pr_iadd dX10_changes_126 ?_
            rw [nI_1]
            refine pr_callSC dX10_changes_127 cl_X10_280 (sc_place dd (i) (J + 1)) rfl rfl (Nat.le_of_ble_eq_true rfl) ⟨rfl, rfl⟩ ?_
            refine pr_iald (v := (nI (ed (ar 3) (wyT ar w) n m (a + 1) b))) (j := 121 * i + (J + 1)) dX10_changes_130 (by decide) rfl rfl (by show 121 * i + (J + 1) < 14641; omega) f2 ?_
            refine pr_aload_n dX10_changes_131 rfl rfl ?_
            refine pr_getA dX10_changes_132 fk_X10_76 rfl ?_
            refine pr_iload_n dX10_changes_135 rfl ?_
            refine pr_iconst dX10_changes_136 (show Int32.ofInt (1) = (1) by decide) ?_
            refine pr_iadd dX10_changes_137 ?_
            rw [nI_1]
            refine pr_iload dX10_changes_138 rfl ?_
            refine pr_callSC dX10_changes_140 cl_X10_280 (sc_place dd (i + 1) (J)) rfl rfl (Nat.le_of_ble_eq_true rfl) ⟨rfl, rfl⟩ ?_
            refine pr_iald (v := (nI (ed (ar 3) (wyT ar w) n m a (b + 1)))) (j := 121 * (i + 1) + J) dX10_changes_143 (by decide) rfl rfl (by show 121 * (i + 1) + J < 14641; omega) f3 ?_
            refine pr_callSC dX10_changes_144 cl_X10_270 (sc_minN dd (a := ed (ar 3) (wyT ar w) n m (a + 1) b) (b := ed (ar 3) (wyT ar w) n m a (b + 1)) (by omega) (by omega)) rfl rfl (Nat.le_of_ble_eq_true rfl) ⟨rfl, rfl⟩ ?_
            refine pr_iadd dX10_changes_147 ?_
            rw [show (1 : Int32) + nI (min (ed (ar 3) (wyT ar w) n m (a + 1) b) (ed (ar 3) (wyT ar w) n m a (b + 1))) = nI (1 + min (ed (ar 3) (wyT ar w) n m (a + 1) b) (ed (ar 3) (wyT ar w) n m a (b + 1))) from nI_add 1 _]
            refine pr_callSC dX10_changes_148 cl_X10_270 (sc_minN dd (a := ed (ar 3) (wyT ar w) n m a b + 1) (b := 1 + min (ed (ar 3) (wyT ar w) n m (a + 1) b) (ed (ar 3) (wyT ar w) n m a (b + 1))) (by omega) (by omega)) rfl rfl (Nat.le_of_ble_eq_true rfl) ⟨rfl, rfl⟩ ?_
            refine pr_istore dX10_changes_151 (Nat.le_of_ble_eq_true rfl) ?_
            have e9 : min (ed (ar 3) (wyT ar w) n m a b + 1) (1 + min (ed (ar 3) (wyT ar w) n m (a + 1) b) (ed (ar 3) (wyT ar w) n m a (b + 1))) = ed (ar 3) (wyT ar w) n m (n - i) (m - J) := by
              rw [ha, hb, ed_ss, e1, e2, if_neg c104]
            rw [e9]
            exact done .null
          ·
            refine pr_iconst dX10_changes_107 (show Int32.ofInt (0) = (0) by decide) ?_
            refine pr_goto (tgt := 112) dX10_changes_108 (by decide) ?_
            refine pr_iadd dX10_changes_112 ?_
            rw [show nI (ed (ar 3) (wyT ar w) n m a b) + 0 = nI (ed (ar 3) (wyT ar w) n m a b + 0) from nI_add _ 0]
            refine pr_istore dX10_changes_113 (Nat.le_of_ble_eq_true rfl) ?_
            refine pr_iload dX10_changes_115 rfl ?_
            refine pr_iconst dX10_changes_117 (show Int32.ofInt (1) = (1) by decide) ?_
            refine pr_aload_n dX10_changes_118 rfl rfl ?_
            refine pr_getA dX10_changes_119 fk_X10_76 rfl ?_
            refine pr_iload_n dX10_changes_122 rfl ?_
            refine pr_iload dX10_changes_123 rfl ?_
            refine pr_iconst dX10_changes_125 (show Int32.ofInt (1) = (1) by decide) ?_
            refine pr_iadd dX10_changes_126 ?_
            rw [nI_1]
            refine pr_callSC dX10_changes_127 cl_X10_280 (sc_place dd (i) (J + 1)) rfl rfl (Nat.le_of_ble_eq_true rfl) ⟨rfl, rfl⟩ ?_
            refine pr_iald (v := (nI (ed (ar 3) (wyT ar w) n m (a + 1) b))) (j := 121 * i + (J + 1)) dX10_changes_130 (by decide) rfl rfl (by show 121 * i + (J + 1) < 14641; omega) f2 ?_
            refine pr_aload_n dX10_changes_131 rfl rfl ?_
            refine pr_getA dX10_changes_132 fk_X10_76 rfl ?_
            refine pr_iload_n dX10_changes_135 rfl ?_
            refine pr_iconst dX10_changes_136 (show Int32.ofInt (1) = (1) by decide) ?_
            refine pr_iadd dX10_changes_137 ?_
            rw [nI_1]
            refine pr_iload dX10_changes_138 rfl ?_
            refine pr_callSC dX10_changes_140 cl_X10_280 (sc_place dd (i + 1) (J)) rfl rfl (Nat.le_of_ble_eq_true rfl) ⟨rfl, rfl⟩ ?_
            refine pr_iald (v := (nI (ed (ar 3) (wyT ar w) n m a (b + 1)))) (j := 121 * (i + 1) + J) dX10_changes_143 (by decide) rfl rfl (by show 121 * (i + 1) + J < 14641; omega) f3 ?_
            refine pr_callSC dX10_changes_144 cl_X10_270 (sc_minN dd (a := ed (ar 3) (wyT ar w) n m (a + 1) b) (b := ed (ar 3) (wyT ar w) n m a (b + 1)) (by omega) (by omega)) rfl rfl (Nat.le_of_ble_eq_true rfl) ⟨rfl, rfl⟩ ?_
            refine pr_iadd dX10_changes_147 ?_
            rw [show (1 : Int32) + nI (min (ed (ar 3) (wyT ar w) n m (a + 1) b) (ed (ar 3) (wyT ar w) n m a (b + 1))) = nI (1 + min (ed (ar 3) (wyT ar w) n m (a + 1) b) (ed (ar 3) (wyT ar w) n m a (b + 1))) from nI_add 1 _]
            refine pr_callSC dX10_changes_148 cl_X10_270 (sc_minN dd (a := ed (ar 3) (wyT ar w) n m a b + 0) (b := 1 + min (ed (ar 3) (wyT ar w) n m (a + 1) b) (ed (ar 3) (wyT ar w) n m a (b + 1))) (by omega) (by omega)) rfl rfl (Nat.le_of_ble_eq_true rfl) ⟨rfl, rfl⟩ ?_
            refine pr_istore dX10_changes_151 (Nat.le_of_ble_eq_true rfl) ?_
            have e9 : min (ed (ar 3) (wyT ar w) n m a b + 0) (1 + min (ed (ar 3) (wyT ar w) n m (a + 1) b) (ed (ar 3) (wyT ar w) n m a (b + 1))) = ed (ar 3) (wyT ar w) n m (n - i) (m - J) := by
              rw [ha, hb, ed_ss, e1, e2, if_pos c104]
            rw [e9]
            exact done .null
set_option maxHeartbeats 4000000 in
set_option maxRecDepth 20000 in
theorem rl_chOut {fx : px_F} {dd : Nat} {Q : px_Q} {al : Nat → Nat} {nn : Nat} {g0 : Nat → px_O} {r : Nat} {sc : Nat → Int32} {ar : Nat → Nat → Int32} {n m w : Nat} (hn : sc 16 = nI n) (hn2 : n ≤ 120) (hm2 : m ≤ 120) (hw : w < 100) (hQ : ∀ res sc2 ar2 g2, (res = some (.int (nI (ed (ar 3) (wyT ar w) n m n m))) ∧ sc2 = sc ∧ ∃ f, ar2 = va_up ar 20 f ∧ lfI (ar 3) (wyT ar w) n m 0 0 0 f) → RR al nn g2 r sc2 ar2 → rf_fr r g0 g2 → Q (.inl res) al nn g2) : ∀ (I : Nat) (f : Nat → Int32) (l4 l5 : Value), I ≤ n + 1 → lfI (ar 3) (wyT ar w) n m I 0 (m + 1) f → pr fx (px_body pm_X10_changes) (dd + 1) Q al nn g0 r sc (va_up ar 20 f) 12 [.ref (al r), .int (nI w), .int (nI m), .int (nI I - 1), l4, l5] []
  | 0, f, l4, l5, hI, hf => by
    refine pr_iload_n dX10_changes_12 rfl ?_
    refine pr_if_lt (tgt := 178) dX10_changes_13 (by decide) (fun c13 => ?_) (fun c13 => absurd (show nI 0 - 1 < 0 by decide) c13)
    refine pr_aload_n dX10_changes_178 rfl rfl ?_
    refine pr_getA dX10_changes_179 fk_X10_76 rfl ?_
    refine pr_iconst dX10_changes_182 (show Int32.ofInt (0) = (0) by decide) ?_
    refine pr_iald (j := 0) dX10_changes_183 (by decide) rfl rfl (by decide) (hf 0 0 (Nat.zero_le _) (Nat.zero_le _) (Or.inl (Nat.zero_le _))) ?_
    exact pr_iretP hQ dX10_changes_184 rfl rfl ⟨rfl, rfl, f, rfl, fun x y hx hy _ => hf x y hx hy (Or.inl (Nat.zero_le _))⟩
  | I + 1, f, l4, l5, hI, hf => by
    rw [nI_pred]
    refine pr_iload_n dX10_changes_12 rfl ?_
    refine pr_if_lt (tgt := 178) dX10_changes_13 (by decide) (fun c13 => absurd c13 (nI_pos (by omega))) (fun c13 => ?_)
    refine pr_iload_n dX10_changes_16 rfl ?_
    refine pr_istore dX10_changes_17 (Nat.le_of_ble_eq_true rfl) ?_
    suffices h9 : pr fx (px_body pm_X10_changes) (dd + 1) Q al nn g0 r sc (va_up ar 20 f) 19 [.ref (al r), .int (nI w), .int (nI m), .int (nI I), .int (nI (m + 1) - 1), l5] [] by
      rwa [nI_pred] at h9
    refine rl_chIn (i := I) hn hn2 hm2 hw (by omega) (fun f l4 l5 hf => ?_) (m + 1) f l5 (Nat.le_refl _) (fun x y hx hy h => hf x y hx hy (by omega))
    refine pr_iinc dX10_changes_172 rfl (show Int32.ofInt (-1) = (-1) by decide) ?_
    refine pr_goto (tgt := 12) dX10_changes_175 (by decide) ?_
    rw [nI_dec]
    exact rl_chOut hn hn2 hm2 hw hQ I f l4 l5 (by omega) (fun x y hx hy h => hf x y hx hy (by omega))
set_option maxHeartbeats 4000000 in
set_option maxRecDepth 20000 in
theorem rp_changes (d : Nat) (sc : Nat → Int32) (ar : Nat → Nat → Int32) {n m w : Nat} (hn : sc 16 = nI n) (hn2 : n ≤ 120) (hm2 : m ≤ 120) (hw : w < 100) (h14 : ar 14 w = nI m) : RP (d + 2) 143 [.int (nI w)] sc ar (fun res sc2 ar2 => res = some (.int (nI (ed (ar 3) (wyT ar w) n m n m))) ∧ sc2 = sc ∧ ∃ f, ar2 = va_up ar 20 f ∧ lfI (ar 3) (wyT ar w) n m 0 0 0 f) := by
  refine RP.of pm_X10_changes rfl rfl (Nat.le_of_ble_eq_true rfl) ?_
  intro fx al nn g0 r Q hQ
  show pr fx (px_body pm_X10_changes) (d + 1) Q al nn g0 r sc ar 0 [.ref (al r), .int (nI w), .float 0, .float 0, .float 0, .float 0] []
  refine pr_aload_n dX10_changes_0 rfl rfl ?_
  refine pr_getA dX10_changes_1 fk_X10_58 rfl ?_
  refine pr_iload_n dX10_changes_4 rfl ?_
  refine pr_iald (v := (nI m)) (j := w) dX10_changes_5 (by decide) rfl rfl (by show w < 100; omega) h14 ?_
  refine pr_istore_n dX10_changes_6 (Nat.le_of_ble_eq_true rfl) ?_
  refine pr_aload_n dX10_changes_7 rfl rfl ?_
  refine pr_getS (v := nI n) dX10_changes_8 fk_X10_184 rfl hn ?_
  refine pr_istore_n dX10_changes_11 (Nat.le_of_ble_eq_true rfl) ?_
  have key := rl_chOut (fx := fx) (dd := d) hn hn2 hm2 hw hQ (n + 1) (ar 20) (.float 0) (.float 0) (Nat.le_refl _) (fun x y hx hy h => by omega)
  rw [va_id, nI_pred] at key
  exact key
