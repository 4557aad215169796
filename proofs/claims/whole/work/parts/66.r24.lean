/-- the common begin, from c on -/
def cpx (S W : Nat → Int32) : Nat → Nat → Nat
  | 0, c => c
  | k + 1, c => if S c = W c then cpx S W k (c + 1) else c
theorem cpx_le (S W : Nat → Int32) : ∀ k c, c ≤ cpx S W k c ∧ cpx S W k c ≤ c + k
  | 0, c => by rw [cpx]; omega
  | k + 1, c => by
    rw [cpx]
    split
    · have := cpx_le S W k (c + 1); omega
    · omega
theorem cpx_ne (S W : Nat → Int32) : ∀ k c, cpx S W k c < c + k → ¬ S (cpx S W k c) = W (cpx S W k c)
  | 0, c, h => by rw [cpx] at h; omega
  | k + 1, c, h => by
    rw [cpx] at h ⊢
    by_cases e : S c = W c
    · rw [if_pos e] at h ⊢; exact cpx_ne S W k (c + 1) (by omega)
    · rw [if_neg e]; exact e
theorem cpx_eq (S W : Nat → Int32) : ∀ k c j, c ≤ j → j < cpx S W k c → S j = W j
  | 0, c, j, h1, h2 => by rw [cpx] at h2; omega
  | k + 1, c, j, h1, h2 => by
    rw [cpx] at h2
    by_cases e : S c = W c
    · rw [if_pos e] at h2
      by_cases e2 : j = c
      · rw [e2]; exact e
      · exact cpx_eq S W k (c + 1) j (by omega) h2
    · rw [if_neg e] at h2; omega
theorem ed_cpx (S W : Nat → Int32) (n m : Nat) : ∀ k c, c + k ≤ n → c + k ≤ m → ed S W n m (n - cpx S W k c) (m - cpx S W k c) = ed S W n m (n - c) (m - c)
  | 0, c, _, _ => by rw [cpx]
  | k + 1, c, h1, h2 => by
    rw [cpx]
    by_cases e : S c = W c
    · rw [if_pos e, ed_cpx S W n m k (c + 1) (by omega) (by omega)]
      obtain ⟨a, ha⟩ : ∃ a, n - c = a + 1 := ⟨n - c - 1, by omega⟩
      obtain ⟨b, hb⟩ : ∃ b, m - c = b + 1 := ⟨m - c - 1, by omega⟩
      rw [ha, hb, show n - (c + 1) = a from by omega, show m - (c + 1) = b from by omega]
      exact (ed_eq (by rw [show n - (a + 1) = c from by omega, show m - (b + 1) = c from by omega]; exact e)).symm
    · rw [if_neg e]
/-- the kind of the first change, behind the common begin c -/
def hkn (S W : Nat → Int32) (n m c : Nat) : Nat := if c < n ∧ c < m ∧ ed S W n m (n - (c + 1)) (m - (c + 1)) + 1 = ed S W n m n m then 0 else if c < m ∧ ed S W n m (n - c) (m - (c + 1)) + 1 = ed S W n m n m then 1 else 2
def hnS (sc : Nat → Int32) (c kd tk : Int32) : Nat → Int32 := upd (upd (upd sc 42 c) 41 kd) 43 tk
set_option maxHeartbeats 4000000 in
set_option maxRecDepth 20000 in
theorem rl_hints {fx : px_F} {dd : Nat} {Q : px_Q} {al : Nat → Nat} {nn : Nat} {g0 : Nat → px_O} {r : Nat} {sc : Nat → Int32} {ar : Nat → Nat → Int32} {n m w : Nat} {f : Nat → Int32} (hn : sc 16 = nI n) (hn2 : n ≤ 120) (hm2 : m ≤ 120) (hw : w < 100) (hf : lfI (ar 3) (wyT ar w) n m 0 0 0 f) (kk : pr fx (px_body pm_X10_hints) (dd + 1) Q al nn g0 r sc (va_up ar 20 f) 85 [.ref (al r), .int (nI w), .int (nI m), .int (nI (ed (ar 3) (wyT ar w) n m n m)), .int (nI (cpx (ar 3) (wyT ar w) (min n m) 0)), .int (nI (cpx (ar 3) (wyT ar w) (min n m) 0)), .float 0, .float 0] []) : ∀ (k c : Nat), c + k = min n m → cpx (ar 3) (wyT ar w) k c = cpx (ar 3) (wyT ar w) (min n m) 0 → ed (ar 3) (wyT ar w) n m (n - c) (m - c) = ed (ar 3) (wyT ar w) n m n m → pr fx (px_body pm_X10_hints) (dd + 1) Q al nn g0 r sc (va_up ar 20 f) 19 [.ref (al r), .int (nI w), .int (nI m), .int (nI (ed (ar 3) (wyT ar w) n m n m)), .int (nI (c)), .int (nI (c)), .float 0, .float 0] []
  | 0, c, hk, hc, he => by
    rw [cpx] at hc
    rw [← hc] at kk
    refine pr_iload dX10_hints_19 rfl ?_
    refine pr_aload_n dX10_hints_21 rfl rfl ?_
    refine pr_getS (v := nI n) dX10_hints_22 fk_X10_184 rfl hn ?_
    refine pr_icmp_ge (tgt := 85) dX10_hints_25 (by decide) (fun c25 => ?_) (fun c25 => ?_)
    ·
      have c259 := Int32.not_lt.mpr c25
      exact kk
    ·
      have c259 := Int32.not_le.mp c25
      refine pr_iload dX10_hints_28 rfl ?_
      refine pr_iload_n dX10_hints_30 rfl ?_
      refine pr_icmp_ge (tgt := 85) dX10_hints_31 (by decide) (fun c31 => ?_) (fun c31 => absurd ((nI_leI (by omega) (by omega)).mpr (by have := (nI_ltI (a := c) (b := n) (by omega) (by omega)).mp c259; omega)) c31)
      exact kk
  | k + 1, c, hk, hc, he => by
    rw [cpx] at hc
    have h240 : ∀ a b, a ≤ 121 → b ≤ 121 → ed (ar 3) (wyT ar w) n m a b ≤ 242 := fun a b ha hb => by have := ed_le (ar 3) (wyT ar w) n m a b; omega
    obtain ⟨a, ha⟩ : ∃ a, n - c = a + 1 := ⟨n - c - 1, by omega⟩
    obtain ⟨b, hb⟩ : ∃ b, m - c = b + 1 := ⟨m - c - 1, by omega⟩
    refine pr_iload dX10_hints_19 rfl ?_
    refine pr_aload_n dX10_hints_21 rfl rfl ?_
    refine pr_getS (v := nI n) dX10_hints_22 fk_X10_184 rfl hn ?_
    refine pr_icmp_ge (tgt := 85) dX10_hints_25 (by decide) (fun c25 => absurd c25 (Int32.not_le.mpr (nI_lt (by omega) (by omega)))) (fun c25 => ?_)
    refine pr_iload dX10_hints_28 rfl ?_
    refine pr_iload_n dX10_hints_30 rfl ?_
    refine pr_icmp_ge (tgt := 85) dX10_hints_31 (by decide) (fun c31 => absurd c31 (Int32.not_le.mpr (nI_lt (by omega) (by omega)))) (fun c31 => ?_)
    refine pr_aload_n dX10_hints_34 rfl rfl ?_
    refine pr_getA dX10_hints_35 fk_X10_24 rfl ?_
    refine pr_iload dX10_hints_38 rfl ?_
    refine pr_iald (v := (ar 3 c)) (j := c) dX10_hints_40 (by decide) rfl rfl (by show c < 120; omega) rfl ?_
    refine pr_aload_n dX10_hints_41 rfl rfl ?_
    refine pr_getA dX10_hints_42 fk_X10_61 rfl ?_
    refine pr_bipush dX10_hints_45 (show (Int8.ofInt (120)).toInt32 = (120) by decide) ?_
    refine pr_iload_n dX10_hints_47 rfl ?_
    refine pr_imul dX10_hints_48 ?_
    refine pr_iload dX10_hints_49 rfl ?_
    refine pr_iadd dX10_hints_51 ?_
    refine pr_iald (v := (wyT ar w c)) (j := 120 * w + c) dX10_hints_52 (by decide) rfl (ix_mul 120 w c) (by show 120 * w + c < 12000; omega) rfl ?_
    refine pr_icmp_ne (tgt := 85) dX10_hints_53 (by decide) (fun c53 => ?_) (fun c53 => ?_)
    ·
      rw [if_neg c53] at hc
      rw [← hc] at kk
      exact kk
    ·
      rw [if_pos c53] at hc
      have he2 : ed (ar 3) (wyT ar w) n m (n - (c + 1)) (m - (c + 1)) = ed (ar 3) (wyT ar w) n m n m := by
        rw [← he, ha, hb, show n - (c + 1) = a from by omega, show m - (c + 1) = b from by omega]
        exact (ed_eq (by rw [show n - (a + 1) = c from by omega, show m - (b + 1) = c from by omega]; exact c53)).symm
      refine pr_aload_n dX10_hints_56 rfl rfl ?_
      refine pr_getA dX10_hints_57 fk_X10_76 rfl ?_
      refine pr_iload dX10_hints_60 rfl ?_
      refine pr_iconst dX10_hints_62 (show Int32.ofInt (1) = (1) by decide) ?_
      refine pr_iadd dX10_hints_63 ?_
      rw [nI_1]
      refine pr_iload dX10_hints_64 rfl ?_
      refine pr_iconst dX10_hints_66 (show Int32.ofInt (1) = (1) by decide) ?_
      refine pr_iadd dX10_hints_67 ?_
      rw [nI_1]
      refine pr_callSC dX10_hints_68 cl_X10_280 (sc_place dd (c + 1) (c + 1)) rfl rfl (Nat.le_of_ble_eq_true rfl) ⟨rfl, rfl⟩ ?_
      refine pr_iald (v := (nI (ed (ar 3) (wyT ar w) n m (n - (c + 1)) (m - (c + 1))))) (j := 121 * (c + 1) + (c + 1)) dX10_hints_71 (by decide) rfl rfl (by show 121 * (c + 1) + (c + 1) < 14641; omega) (hf (c + 1) (c + 1) (by omega) (by omega) (Or.inl (Nat.zero_le _))) ?_
      refine pr_iload_n dX10_hints_72 rfl ?_
      refine pr_icmp_ne (tgt := 85) dX10_hints_73 (by decide) (fun c73 => absurd c73 (fun z => z (by rw [he2]))) (fun c73 => ?_)
      refine pr_iinc dX10_hints_76 rfl (show Int32.ofInt (1) = (1) by decide) ?_
      refine pr_iinc dX10_hints_79 rfl (show Int32.ofInt (1) = (1) by decide) ?_
      refine pr_goto (tgt := 19) dX10_hints_82 (by decide) ?_
      rw [nI_1]
      exact rl_hints hn hn2 hm2 hw hf kk k (c + 1) (by omega) hc he2
set_option maxHeartbeats 4000000 in
set_option maxRecDepth 20000 in
theorem rl_hints2 {fx : px_F} {dd : Nat} {Q : px_Q} {al : Nat → Nat} {nn : Nat} {g0 : Nat → px_O} {r : Nat} {sc : Nat → Int32} {ar : Nat → Nat → Int32} {n m w : Nat} {f : Nat → Int32} (hn : sc 16 = nI n) (hn2 : n ≤ 120) (hm2 : m ≤ 120) (hw : w < 100) (hf : lfI (ar 3) (wyT ar w) n m 0 0 0 f) {c : Nat} (hcm : c ≤ min n m) (hne : c < min n m → ¬ ar 3 c = wyT ar w c) (hQ : ∀ g2, RR al nn g2 r (hnS sc (nI c) (nI (hkn (ar 3) (wyT ar w) n m c)) (if hkn (ar 3) (wyT ar w) n m c = 2 then -1 else wyT ar w c)) (va_up ar 20 f) → rf_fr r g0 g2 → Q (.inl none) al nn g2) : pr fx (px_body pm_X10_hints) (dd + 1) Q al nn g0 r sc (va_up ar 20 f) 85 [.ref (al r), .int (nI w), .int (nI m), .int (nI (ed (ar 3) (wyT ar w) n m n m)), .int (nI (c)), .int (nI (c)), .float 0, .float 0] [] := by
  have h240 : ∀ a b, a ≤ 121 → b ≤ 121 → ed (ar 3) (wyT ar w) n m a b ≤ 242 := fun a b ha hb => by have := ed_le (ar 3) (wyT ar w) n m a b; omega
  have g0a := h240 n m (by omega) (by omega)
  have g1a := h240 (n - (c + 1)) (m - (c + 1)) (by omega) (by omega)
  have g2a := h240 (n - c) (m - (c + 1)) (by omega) (by omega)
  refine pr_aload_n dX10_hints_85 rfl rfl ?_
  refine pr_iload dX10_hints_86 rfl ?_
  refine pr_put dX10_hints_88 fk_X10_286 rfl ⟨_, _, _, rfl, rfl⟩ rfl rfl ?_
  refine pr_iload dX10_hints_91 rfl ?_
  refine pr_aload_n dX10_hints_93 rfl rfl ?_
  refine pr_getS (v := nI n) dX10_hints_94 fk_X10_184 rfl hn ?_
  refine pr_icmp_ge (tgt := 154) dX10_hints_97 (by decide) (fun c97 => ?_) (fun c97 => ?_)
  ·
    have c979 := Int32.not_lt.mpr c97
    refine pr_iconst dX10_hints_154 (show Int32.ofInt (0) = (0) by decide) ?_
    refine pr_istore dX10_hints_155 (Nat.le_of_ble_eq_true rfl) ?_
    refine pr_iload dX10_hints_157 rfl ?_
    refine pr_iload_n dX10_hints_159 rfl ?_
    refine pr_icmp_ge (tgt := 187) dX10_hints_160 (by decide) (fun c160 => ?_) (fun c160 => ?_)
    ·
      have c1609 := Int32.not_lt.mpr c160
      refine pr_iconst dX10_hints_187 (show Int32.ofInt (0) = (0) by decide) ?_
      refine pr_istore dX10_hints_188 (Nat.le_of_ble_eq_true rfl) ?_
      refine pr_aload_n dX10_hints_190 rfl rfl ?_
      refine pr_iload dX10_hints_191 rfl ?_
      refine pr_if_eq (tgt := 200) dX10_hints_193 (by decide) (fun _ => ?_) (fun c193 => absurd c193 (by decide))
      refine pr_iload dX10_hints_200 rfl ?_
      refine pr_if_eq (tgt := 209) dX10_hints_202 (by decide) (fun _ => ?_) (fun c202 => absurd c202 (by decide))
      refine pr_iconst dX10_hints_209 (show Int32.ofInt (2) = (2) by decide) ?_
      refine pr_put dX10_hints_210 fk_X10_289 rfl ⟨_, _, _, rfl, rfl⟩ rfl rfl ?_
      refine pr_aload_n dX10_hints_213 rfl rfl ?_
      refine pr_aload_n dX10_hints_214 rfl rfl ?_
      refine pr_getS (v := (2)) dX10_hints_215 fk_X10_289 rfl rfl ?_
      refine pr_iconst dX10_hints_218 (show Int32.ofInt (2) = (2) by decide) ?_
      refine pr_icmp_ne (tgt := 226) dX10_hints_219 (by decide) (fun c219 => absurd c219 (fun z => z rfl)) (fun c219 => ?_)
      refine pr_iconst dX10_hints_222 (show Int32.ofInt (-1) = (-1) by decide) ?_
      refine pr_goto (tgt := 238) dX10_hints_223 (by decide) ?_
      refine pr_put dX10_hints_238 fk_X10_292 rfl ⟨_, _, _, rfl, rfl⟩ rfl rfl ?_
      have hk : hkn (ar 3) (wyT ar w) n m c = 2 := by
        unfold hkn
        rw [if_neg (fun z => absurd ((nI_leI (a := n) (b := c) (by omega) (by omega)).mp c97) (by omega)), if_neg (fun z => absurd ((nI_leI (a := m) (b := c) (by omega) (by omega)).mp c160) (by omega))]
      rw [hk] at hQ
      exact pr_vret hQ dX10_hints_241 rfl rfl rfl rfl
    ·
      have c1609 := Int32.not_le.mp c160
      have ltm2 : c < m := (nI_ltI (a := c) (b := m) (by omega) (by omega)).mp c1609
      refine pr_aload_n dX10_hints_163 rfl rfl ?_
      refine pr_getA dX10_hints_164 fk_X10_76 rfl ?_
      refine pr_iload dX10_hints_167 rfl ?_
      refine pr_iload dX10_hints_169 rfl ?_
      refine pr_iconst dX10_hints_171 (show Int32.ofInt (1) = (1) by decide) ?_
      refine pr_iadd dX10_hints_172 ?_
      rw [nI_1]
      refine pr_callSC dX10_hints_173 cl_X10_280 (sc_place dd (c) (c + 1)) rfl rfl (Nat.le_of_ble_eq_true rfl) ⟨rfl, rfl⟩ ?_
      refine pr_iald (v := (nI (ed (ar 3) (wyT ar w) n m (n - (c)) (m - (c + 1))))) (j := 121 * (c) + (c + 1)) dX10_hints_176 (by decide) rfl rfl (by show 121 * (c) + (c + 1) < 14641; omega) (hf (c) (c + 1) (by omega) (by omega) (Or.inl (Nat.zero_le _))) ?_
      refine pr_iconst dX10_hints_177 (show Int32.ofInt (1) = (1) by decide) ?_
      refine pr_iadd dX10_hints_178 ?_
      rw [nI_1]
      refine pr_iload_n dX10_hints_179 rfl ?_
      refine pr_icmp_ne (tgt := 187) dX10_hints_180 (by decide) (fun c180 => ?_) (fun c180 => ?_)
      ·
        refine pr_iconst dX10_hints_187 (show Int32.ofInt (0) = (0) by decide) ?_
        refine pr_istore dX10_hints_188 (Nat.le_of_ble_eq_true rfl) ?_
        refine pr_aload_n dX10_hints_190 rfl rfl ?_
        refine pr_iload dX10_hints_191 rfl ?_
        refine pr_if_eq (tgt := 200) dX10_hints_193 (by decide) (fun _ => ?_) (fun c193 => absurd c193 (by decide))
        refine pr_iload dX10_hints_200 rfl ?_
        refine pr_if_eq (tgt := 209) dX10_hints_202 (by decide) (fun _ => ?_) (fun c202 => absurd c202 (by decide))
        refine pr_iconst dX10_hints_209 (show Int32.ofInt (2) = (2) by decide) ?_
        refine pr_put dX10_hints_210 fk_X10_289 rfl ⟨_, _, _, rfl, rfl⟩ rfl rfl ?_
        refine pr_aload_n dX10_hints_213 rfl rfl ?_
        refine pr_aload_n dX10_hints_214 rfl rfl ?_
        refine pr_getS (v := (2)) dX10_hints_215 fk_X10_289 rfl rfl ?_
        refine pr_iconst dX10_hints_218 (show Int32.ofInt (2) = (2) by decide) ?_
        refine pr_icmp_ne (tgt := 226) dX10_hints_219 (by decide) (fun c219 => absurd c219 (fun z => z rfl)) (fun c219 => ?_)
        refine pr_iconst dX10_hints_222 (show Int32.ofInt (-1) = (-1) by decide) ?_
        refine pr_goto (tgt := 238) dX10_hints_223 (by decide) ?_
        refine pr_put dX10_hints_238 fk_X10_292 rfl ⟨_, _, _, rfl, rfl⟩ rfl rfl ?_
        have hk : hkn (ar 3) (wyT ar w) n m c = 2 := by
          unfold hkn
          rw [if_neg (fun z => absurd ((nI_leI (a := n) (b := c) (by omega) (by omega)).mp c97) (by omega)), if_neg (fun z => c180 (by rw [z.2]))]
        rw [hk] at hQ
        exact pr_vret hQ dX10_hints_241 rfl rfl rfl rfl
      ·
        refine pr_iconst dX10_hints_183 (show Int32.ofInt (1) = (1) by decide) ?_
        refine pr_goto (tgt := 188) dX10_hints_184 (by decide) ?_
        refine pr_istore dX10_hints_188 (Nat.le_of_ble_eq_true rfl) ?_
        refine pr_aload_n dX10_hints_190 rfl rfl ?_
        refine pr_iload dX10_hints_191 rfl ?_
        refine pr_if_eq (tgt := 200) dX10_hints_193 (by decide) (fun _ => ?_) (fun c193 => absurd c193 (by decide))
        refine pr_iload dX10_hints_200 rfl ?_
        refine pr_if_eq (tgt := 209) dX10_hints_202 (by decide) (fun c202 => absurd c202 (by decide)) (fun _ => ?_)
        refine pr_iconst dX10_hints_205 (show Int32.ofInt (1) = (1) by decide) ?_
        refine pr_goto (tgt := 210) dX10_hints_206 (by decide) ?_
        refine pr_put dX10_hints_210 fk_X10_289 rfl ⟨_, _, _, rfl, rfl⟩ rfl rfl ?_
        refine pr_aload_n dX10_hints_213 rfl rfl ?_
        refine pr_aload_n dX10_hints_214 rfl rfl ?_
        refine pr_getS (v := (1)) dX10_hints_215 fk_X10_289 rfl rfl ?_
        refine pr_iconst dX10_hints_218 (show Int32.ofInt (2) = (2) by decide) ?_
        refine pr_icmp_ne (tgt := 226) dX10_hints_219 (by decide) (fun c219 => ?_) (fun c219 => absurd c219 (by decide))
        refine pr_aload_n dX10_hints_226 rfl rfl ?_
        refine pr_getA dX10_hints_227 fk_X10_61 rfl ?_
        refine pr_bipush dX10_hints_230 (show (Int8.ofInt (120)).toInt32 = (120) by decide) ?_
        refine pr_iload_n dX10_hints_232 rfl ?_
        refine pr_imul dX10_hints_233 ?_
        refine pr_iload dX10_hints_234 rfl ?_
        refine pr_iadd dX10_hints_236 ?_
        refine pr_iald (v := (wyT ar w c)) (j := 120 * w + c) dX10_hints_237 (by decide) rfl (ix_mul 120 w c) (by show 120 * w + c < 12000; omega) rfl ?_
        refine pr_put dX10_hints_238 fk_X10_292 rfl ⟨_, _, _, rfl, rfl⟩ rfl rfl ?_
        have hk : hkn (ar 3) (wyT ar w) n m c = 1 := by
          unfold hkn
          rw [if_neg (fun z => absurd ((nI_leI (a := n) (b := c) (by omega) (by omega)).mp c97) (by omega)), if_pos ⟨(nI_ltI (a := c) (b := m) (by omega) (by omega)).mp c1609, (nI_eq (a := ed (ar 3) (wyT ar w) n m (n - c) (m - (c + 1)) + 1) (b := ed (ar 3) (wyT ar w) n m n m) (by omega) (by omega)).mp c180⟩]
        rw [hk] at hQ
        exact pr_vret hQ dX10_hints_241 rfl rfl rfl rfl
  ·
    have c979 := Int32.not_le.mp c97
    refine pr_iload dX10_hints_100 rfl ?_
    refine pr_iload_n dX10_hints_102 rfl ?_
    refine pr_icmp_ge (tgt := 154) dX10_hints_103 (by decide) (fun c103 => ?_) (fun c103 => ?_)
    ·
      have c1039 := Int32.not_lt.mpr c103
      refine pr_iconst dX10_hints_154 (show Int32.ofInt (0) = (0) by decide) ?_
      refine pr_istore dX10_hints_155 (Nat.le_of_ble_eq_true rfl) ?_
      refine pr_iload dX10_hints_157 rfl ?_
      refine pr_iload_n dX10_hints_159 rfl ?_
      refine pr_icmp_ge (tgt := 187) dX10_hints_160 (by decide) (fun c160 => ?_) (fun c160 => ?_)
      ·
        have c1609 := Int32.not_lt.mpr c160
        refine pr_iconst dX10_hints_187 (show Int32.ofInt (0) = (0) by decide) ?_
        refine pr_istore dX10_hints_188 (Nat.le_of_ble_eq_true rfl) ?_
        refine pr_aload_n dX10_hints_190 rfl rfl ?_
        refine pr_iload dX10_hints_191 rfl ?_
        refine pr_if_eq (tgt := 200) dX10_hints_193 (by decide) (fun _ => ?_) (fun c193 => absurd c193 (by decide))
        refine pr_iload dX10_hints_200 rfl ?_
        refine pr_if_eq (tgt := 209) dX10_hints_202 (by decide) (fun _ => ?_) (fun c202 => absurd c202 (by decide))
        refine pr_iconst dX10_hints_209 (show Int32.ofInt (2) = (2) by decide) ?_
        refine pr_put dX10_hints_210 fk_X10_289 rfl ⟨_, _, _, rfl, rfl⟩ rfl rfl ?_
        refine pr_aload_n dX10_hints_213 rfl rfl ?_
        refine pr_aload_n dX10_hints_214 rfl rfl ?_
        refine pr_getS (v := (2)) dX10_hints_215 fk_X10_289 rfl rfl ?_
        refine pr_iconst dX10_hints_218 (show Int32.ofInt (2) = (2) by decide) ?_
        refine pr_icmp_ne (tgt := 226) dX10_hints_219 (by decide) (fun c219 => absurd c219 (fun z => z rfl)) (fun c219 => ?_)
        refine pr_iconst dX10_hints_222 (show Int32.ofInt (-1) = (-1) by decide) ?_
        refine pr_goto (tgt := 238) dX10_hints_223 (by decide) ?_
        refine pr_put dX10_hints_238 fk_X10_292 rfl ⟨_, _, _, rfl, rfl⟩ rfl rfl ?_
        have hk : hkn (ar 3) (wyT ar w) n m c = 2 := by
          unfold hkn
          rw [if_neg (fun z => absurd ((nI_leI (a := m) (b := c) (by omega) (by omega)).mp c103) (by omega)), if_neg (fun z => absurd ((nI_leI (a := m) (b := c) (by omega) (by omega)).mp c160) (by omega))]
        rw [hk] at hQ
        exact pr_vret hQ dX10_hints_241 rfl rfl rfl rfl
      ·
        have c1609 := Int32.not_le.mp c160
        have ltm2 : c < m := (nI_ltI (a := c) (b := m) (by omega) (by omega)).mp c1609
        refine pr_aload_n dX10_hints_163 rfl rfl ?_
        refine pr_getA dX10_hints_164 fk_X10_76 rfl ?_
        refine pr_iload dX10_hints_167 rfl ?_
        refine pr_iload dX10_hints_169 rfl ?_
        refine pr_iconst dX10_hints_171 (show Int32.ofInt (1) = (1) by decide) ?_
        refine pr_iadd dX10_hints_172 ?_
        rw [nI_1]
        refine pr_callSC dX10_hints_173 cl_X10_280 (sc_place dd (c) (c + 1)) rfl rfl (Nat.le_of_ble_eq_true rfl) ⟨rfl, rfl⟩ ?_
        refine pr_iald (v := (nI (ed (ar 3) (wyT ar w) n m (n - (c)) (m - (c + 1))))) (j := 121 * (c) + (c + 1)) dX10_hints_176 (by decide) rfl rfl (by show 121 * (c) + (c + 1) < 14641; omega) (hf (c) (c + 1) (by omega) (by omega) (Or.inl (Nat.zero_le _))) ?_
        refine pr_iconst dX10_hints_177 (show Int32.ofInt (1) = (1) by decide) ?_
        refine pr_iadd dX10_hints_178 ?_
        rw [nI_1]
        refine pr_iload_n dX10_hints_179 rfl ?_
        refine pr_icmp_ne (tgt := 187) dX10_hints_180 (by decide) (fun c180 => ?_) (fun c180 => ?_)
        ·
          refine pr_iconst dX10_hints_187 (show Int32.ofInt (0) = (0) by decide) ?_
          refine pr_istore dX10_hints_188 (Nat.le_of_ble_eq_true rfl) ?_
          refine pr_aload_n dX10_hints_190 rfl rfl ?_
          refine pr_iload dX10_hints_191 rfl ?_
          refine pr_if_eq (tgt := 200) dX10_hints_193 (by decide) (fun _ => ?_) (fun c193 => absurd c193 (by decide))
          refine pr_iload dX10_hints_200 rfl ?_
          refine pr_if_eq (tgt := 209) dX10_hints_202 (by decide) (fun _ => ?_) (fun c202 => absurd c202 (by decide))
          refine pr_iconst dX10_hints_209 (show Int32.ofInt (2) = (2) by decide) ?_
          refine pr_put dX10_hints_210 fk_X10_289 rfl ⟨_, _, _, rfl, rfl⟩ rfl rfl ?_
          refine pr_aload_n dX10_hints_213 rfl rfl ?_
          refine pr_aload_n dX10_hints_214 rfl rfl ?_
          refine pr_getS (v := (2)) dX10_hints_215 fk_X10_289 rfl rfl ?_
          refine pr_iconst dX10_hints_218 (show Int32.ofInt (2) = (2) by decide) ?_
          refine pr_icmp_ne (tgt := 226) dX10_hints_219 (by decide) (fun c219 => absurd c219 (fun z => z rfl)) (fun c219 => ?_)
          refine pr_iconst dX10_hints_222 (show Int32.ofInt (-1) = (-1) by decide) ?_
          refine pr_goto (tgt := 238) dX10_hints_223 (by decide) ?_
          refine pr_put dX10_hints_238 fk_X10_292 rfl ⟨_, _, _, rfl, rfl⟩ rfl rfl ?_
          have hk : hkn (ar 3) (wyT ar w) n m c = 2 := by
            unfold hkn
            rw [if_neg (fun z => absurd ((nI_leI (a := m) (b := c) (by omega) (by omega)).mp c103) (by omega)), if_neg (fun z => c180 (by rw [z.2]))]
          rw [hk] at hQ
          exact pr_vret hQ dX10_hints_241 rfl rfl rfl rfl
        ·
          refine pr_iconst dX10_hints_183 (show Int32.ofInt (1) = (1) by decide) ?_
          refine pr_goto (tgt := 188) dX10_hints_184 (by decide) ?_
          refine pr_istore dX10_hints_188 (Nat.le_of_ble_eq_true rfl) ?_
          refine pr_aload_n dX10_hints_190 rfl rfl ?_
          refine pr_iload dX10_hints_191 rfl ?_
          refine pr_if_eq (tgt := 200) dX10_hints_193 (by decide) (fun _ => ?_) (fun c193 => absurd c193 (by decide))
          refine pr_iload dX10_hints_200 rfl ?_
          refine pr_if_eq (tgt := 209) dX10_hints_202 (by decide) (fun c202 => absurd c202 (by decide)) (fun _ => ?_)
          refine pr_iconst dX10_hints_205 (show Int32.ofInt (1) = (1) by decide) ?_
          refine pr_goto (tgt := 210) dX10_hints_206 (by decide) ?_
          refine pr_put dX10_hints_210 fk_X10_289 rfl ⟨_, _, _, rfl, rfl⟩ rfl rfl ?_
          refine pr_aload_n dX10_hints_213 rfl rfl ?_
          refine pr_aload_n dX10_hints_214 rfl rfl ?_
          refine pr_getS (v := (1)) dX10_hints_215 fk_X10_289 rfl rfl ?_
          refine pr_iconst dX10_hints_218 (show Int32.ofInt (2) = (2) by decide) ?_
          refine pr_icmp_ne (tgt := 226) dX10_hints_219 (by decide) (fun c219 => ?_) (fun c219 => absurd c219 (by decide))
          refine pr_aload_n dX10_hints_226 rfl rfl ?_
          refine pr_getA dX10_hints_227 fk_X10_61 rfl ?_
          refine pr_bipush dX10_hints_230 (show (Int8.ofInt (120)).toInt32 = (120) by decide) ?_
          refine pr_iload_n dX10_hints_232 rfl ?_
          refine pr_imul dX10_hints_233 ?_
          refine pr_iload dX10_hints_234 rfl ?_
          refine pr_iadd dX10_hints_236 ?_
          refine pr_iald (v := (wyT ar w c)) (j := 120 * w + c) dX10_hints_237 (by decide) rfl (ix_mul 120 w c) (by show 120 * w + c < 12000; omega) rfl ?_
          refine pr_put dX10_hints_238 fk_X10_292 rfl ⟨_, _, _, rfl, rfl⟩ rfl rfl ?_
          have hk : hkn (ar 3) (wyT ar w) n m c = 1 := by
            unfold hkn
            rw [if_neg (fun z => absurd ((nI_leI (a := m) (b := c) (by omega) (by omega)).mp c103) (by omega)), if_pos ⟨(nI_ltI (a := c) (b := m) (by omega) (by omega)).mp c1609, (nI_eq (a := ed (ar 3) (wyT ar w) n m (n - c) (m - (c + 1)) + 1) (b := ed (ar 3) (wyT ar w) n m n m) (by omega) (by omega)).mp c180⟩]
          rw [hk] at hQ
          exact pr_vret hQ dX10_hints_241 rfl rfl rfl rfl
    ·
      have c1039 := Int32.not_le.mp c103
      have ltn : c < n := (nI_ltI (a := c) (b := n) (by omega) (by omega)).mp c979
      have ltm : c < m := (nI_ltI (a := c) (b := m) (by omega) (by omega)).mp c1039
      refine pr_aload_n dX10_hints_106 rfl rfl ?_
      refine pr_getA dX10_hints_107 fk_X10_24 rfl ?_
      refine pr_iload dX10_hints_110 rfl ?_
      refine pr_iald (v := (ar 3 c)) (j := c) dX10_hints_112 (by decide) rfl rfl (by show c < 120; omega) rfl ?_
      refine pr_aload_n dX10_hints_113 rfl rfl ?_
      refine pr_getA dX10_hints_114 fk_X10_61 rfl ?_
      refine pr_bipush dX10_hints_117 (show (Int8.ofInt (120)).toInt32 = (120) by decide) ?_
      refine pr_iload_n dX10_hints_119 rfl ?_
      refine pr_imul dX10_hints_120 ?_
      refine pr_iload dX10_hints_121 rfl ?_
      refine pr_iadd dX10_hints_123 ?_
      refine pr_iald (v := (wyT ar w c)) (j := 120 * w + c) dX10_hints_124 (by decide) rfl (ix_mul 120 w c) (by show 120 * w + c < 12000; omega) rfl ?_
      refine pr_icmp_eq (tgt := 154) dX10_hints_125 (by decide) (fun c125 => absurd c125 (hne (by omega))) (fun c125 => ?_)
      refine pr_aload_n dX10_hints_128 rfl rfl ?_
      refine pr_getA dX10_hints_129 fk_X10_76 rfl ?_
      refine pr_iload dX10_hints_132 rfl ?_
      refine pr_iconst dX10_hints_134 (show Int32.ofInt (1) = (1) by decide) ?_
      refine pr_iadd dX10_hints_135 ?_
      rw [nI_1]
      refine pr_iload dX10_hints_136 rfl ?_
      refine pr_iconst dX10_hints_138 (show Int32.ofInt (1) = (1) by decide) ?_
      refine pr_iadd dX10_hints_139 ?_
      rw [nI_1]
      refine pr_callSC dX10_hints_140 cl_X10_280 (sc_place dd (c + 1) (c + 1)) rfl rfl (Nat.le_of_ble_eq_true rfl) ⟨rfl, rfl⟩ ?_
      refine pr_iald (v := (nI (ed (ar 3) (wyT ar w) n m (n - (c + 1)) (m - (c + 1))))) (j := 121 * (c + 1) + (c + 1)) dX10_hints_143 (by decide) rfl rfl (by show 121 * (c + 1) + (c + 1) < 14641; omega) (hf (c + 1) (c + 1) (by omega) (by omega) (Or.inl (Nat.zero_le _))) ?_
      refine pr_iconst dX10_hints_144 (show Int32.ofInt (1) = (1) by decide) ?_
      refine pr_iadd dX10_hints_145 ?_
      rw [nI_1]
      refine pr_iload_n dX10_hints_146 rfl ?_
      refine pr_icmp_ne (tgt := 154) dX10_hints_147 (by decide) (fun c147 => ?_) (fun c147 => ?_)
      ·
        refine pr_iconst dX10_hints_154 (show Int32.ofInt (0) = (0) by decide) ?_
        refine pr_istore dX10_hints_155 (Nat.le_of_ble_eq_true rfl) ?_
        refine pr_iload dX10_hints_157 rfl ?_
        refine pr_iload_n dX10_hints_159 rfl ?_
        refine pr_icmp_ge (tgt := 187) dX10_hints_160 (by decide) (fun c160 => ?_) (fun c160 => ?_)
        ·
          have c1609 := Int32.not_lt.mpr c160
          refine pr_iconst dX10_hints_187 (show Int32.ofInt (0) = (0) by decide) ?_
          refine pr_istore dX10_hints_188 (Nat.le_of_ble_eq_true rfl) ?_
          refine pr_aload_n dX10_hints_190 rfl rfl ?_
          refine pr_iload dX10_hints_191 rfl ?_
          refine pr_if_eq (tgt := 200) dX10_hints_193 (by decide) (fun _ => ?_) (fun c193 => absurd c193 (by decide))
          refine pr_iload dX10_hints_200 rfl ?_
          refine pr_if_eq (tgt := 209) dX10_hints_202 (by decide) (fun _ => ?_) (fun c202 => absurd c202 (by decide))
          refine pr_iconst dX10_hints_209 (show Int32.ofInt (2) = (2) by decide) ?_
          refine pr_put dX10_hints_210 fk_X10_289 rfl ⟨_, _, _, rfl, rfl⟩ rfl rfl ?_
          refine pr_aload_n dX10_hints_213 rfl rfl ?_
          refine pr_aload_n dX10_hints_214 rfl rfl ?_
          refine pr_getS (v := (2)) dX10_hints_215 fk_X10_289 rfl rfl ?_
          refine pr_iconst dX10_hints_218 (show Int32.ofInt (2) = (2) by decide) ?_
          refine pr_icmp_ne (tgt := 226) dX10_hints_219 (by decide) (fun c219 => absurd c219 (fun z => z rfl)) (fun c219 => ?_)
          refine pr_iconst dX10_hints_222 (show Int32.ofInt (-1) = (-1) by decide) ?_
          refine pr_goto (tgt := 238) dX10_hints_223 (by decide) ?_
          refine pr_put dX10_hints_238 fk_X10_292 rfl ⟨_, _, _, rfl, rfl⟩ rfl rfl ?_
          have hk : hkn (ar 3) (wyT ar w) n m c = 2 := by
            unfold hkn
            rw [if_neg (fun z => c147 (by rw [z.2.2])), if_neg (fun z => absurd ((nI_leI (a := m) (b := c) (by omega) (by omega)).mp c160) (by omega))]
          rw [hk] at hQ
          exact pr_vret hQ dX10_hints_241 rfl rfl rfl rfl
        ·
          have c1609 := Int32.not_le.mp c160
          have ltm2 : c < m := (nI_ltI (a := c) (b := m) (by omega) (by omega)).mp c1609
          refine pr_aload_n dX10_hints_163 rfl rfl ?_
          refine pr_getA dX10_hints_164 fk_X10_76 rfl ?_
          refine pr_iload dX10_hints_167 rfl ?_
          refine pr_iload dX10_hints_169 rfl ?_
          refine pr_iconst dX10_hints_171 (show Int32.ofInt (1) = (1) by decide) ?_
          refine pr_iadd dX10_hints_172 ?_
          rw [nI_1]
          refine pr_callSC dX10_hints_173 cl_X10_280 (sc_place dd (c) (c + 1)) rfl rfl (Nat.le_of_ble_eq_true rfl) ⟨rfl, rfl⟩ ?_
          refine pr_iald (v := (nI (ed (ar 3) (wyT ar w) n m (n - (c)) (m - (c + 1))))) (j := 121 * (c) + (c + 1)) dX10_hints_176 (by decide) rfl rfl (by show 121 * (c) + (c + 1) < 14641; omega) (hf (c) (c + 1) (by omega) (by omega) (Or.inl (Nat.zero_le _))) ?_
          refine pr_iconst dX10_hints_177 (show Int32.ofInt (1) = (1) by decide) ?_
          refine pr_iadd dX10_hints_178 ?_
          rw [nI_1]
          refine pr_iload_n dX10_hints_179 rfl ?_
          refine pr_icmp_ne (tgt := 187) dX10_hints_180 (by decide) (fun c180 => ?_) (fun c180 => ?_)
          ·
            refine pr_iconst dX10_hints_187 (show Int32.ofInt (0) = (0) by decide) ?_
            refine pr_istore dX10_hints_188 (Nat.le_of_ble_eq_true rfl) ?_
            refine pr_aload_n dX10_hints_190 rfl rfl ?_
            refine pr_iload dX10_hints_191 rfl ?_
            refine pr_if_eq (tgt := 200) dX10_hints_193 (by decide) (fun _ => ?_) (fun c193 => absurd c193 (by decide))
            refine pr_iload dX10_hints_200 rfl ?_
            refine pr_if_eq (tgt := 209) dX10_hints_202 (by decide) (fun _ => ?_) (fun c202 => absurd c202 (by decide))
            refine pr_iconst dX10_hints_209 (show Int32.ofInt (2) = (2) by decide) ?_
            refine pr_put dX10_hints_210 fk_X10_289 rfl ⟨_, _, _, rfl, rfl⟩ rfl rfl ?_
            refine pr_aload_n dX10_hints_213 rfl rfl ?_
            refine pr_aload_n dX10_hints_214 rfl rfl ?_
            refine pr_getS (v := (2)) dX10_hints_215 fk_X10_289 rfl rfl ?_
            refine pr_iconst dX10_hints_218 (show Int32.ofInt (2) = (2) by decide) ?_
            refine pr_icmp_ne (tgt := 226) dX10_hints_219 (by decide) (fun c219 => absurd c219 (fun z => z rfl)) (fun c219 => ?_)
            refine pr_iconst dX10_hints_222 (show Int32.ofInt (-1) = (-1) by decide) ?_
            refine pr_goto (tgt := 238) dX10_hints_223 (by decide) ?_
            refine pr_put dX10_hints_238 fk_X10_292 rfl ⟨_, _, _, rfl, rfl⟩ rfl rfl ?_
            have hk : hkn (ar 3) (wyT ar w) n m c = 2 := by
              unfold hkn
              rw [if_neg (fun z => c147 (by rw [z.2.2])), if_neg (fun z => c180 (by rw [z.2]))]
            rw [hk] at hQ
            exact pr_vret hQ dX10_hints_241 rfl rfl rfl rfl
          ·
            refine pr_iconst dX10_hints_183 (show Int32.ofInt (1) = (1) by decide) ?_
            refine pr_goto (tgt := 188) dX10_hints_184 (by decide) ?_
            refine pr_istore dX10_hints_188 (Nat.le_of_ble_eq_true rfl) ?_
            refine pr_aload_n dX10_hints_190 rfl rfl ?_
            refine pr_iload dX10_hints_191 rfl ?_
            refine pr_if_eq (tgt := 200) dX10_hints_193 (by decide) (fun _ => ?_) (fun c193 => absurd c193 (by decide))
            refine pr_iload dX10_hints_200 rfl ?_
            refine pr_if_eq (tgt := 209) dX10_hints_202 (by decide) (fun c202 => absurd c202 (by decide)) (fun _ => ?_)
            refine pr_iconst dX10_hints_205 (show Int32.ofInt (1) = (1) by decide) ?_
            refine pr_goto (tgt := 210) dX10_hints_206 (by decide) ?_
            refine pr_put dX10_hints_210 fk_X10_289 rfl ⟨_, _, _, rfl, rfl⟩ rfl rfl ?_
            refine pr_aload_n dX10_hints_213 rfl rfl ?_
            refine pr_aload_n dX10_hints_214 rfl rfl ?_
            refine pr_getS (v := (1)) dX10_hints_215 fk_X10_289 rfl rfl ?_
            refine pr_iconst dX10_hints_218 (show Int32.ofInt (2) = (2) by decide) ?_
            refine pr_icmp_ne (tgt := 226) dX10_hints_219 (by decide) (fun c219 => ?_) (fun c219 => absurd c219 (by decide))
            refine pr_aload_n dX10_hints_226 rfl rfl ?_
            refine pr_getA dX10_hints_227 fk_X10_61 rfl ?_
            refine pr_bipush dX10_hints_230 (show (Int8.ofInt (120)).toInt32 = (120) by decide) ?_
            refine pr_iload_n dX10_hints_232 rfl ?_
            refine pr_imul dX10_hints_233 ?_
            refine pr_iload dX10_hints_234 rfl ?_
            refine pr_iadd dX10_hints_236 ?_
            refine pr_iald (v := (wyT ar w c)) (j := 120 * w + c) dX10_hints_237 (by decide) rfl (ix_mul 120 w c) (by show 120 * w + c < 12000; omega) rfl ?_
            refine pr_put dX10_hints_238 fk_X10_292 rfl ⟨_, _, _, rfl, rfl⟩ rfl rfl ?_
            have hk : hkn (ar 3) (wyT ar w) n m c = 1 := by
              unfold hkn
              rw [if_neg (fun z => c147 (by rw [z.2.2])), if_pos ⟨(nI_ltI (a := c) (b := m) (by omega) (by omega)).mp c1609, (nI_eq (a := ed (ar 3) (wyT ar w) n m (n - c) (m - (c + 1)) + 1) (b := ed (ar 3) (wyT ar w) n m n m) (by omega) (by omega)).mp c180⟩]
            rw [hk] at hQ
            exact pr_vret hQ dX10_hints_241 rfl rfl rfl rfl
      ·
        refine pr_iconst dX10_hints_150 (show Int32.ofInt (1) = (1) by decide) ?_
        refine pr_goto (tgt := 155) dX10_hints_151 (by decide) ?_
        refine pr_istore dX10_hints_155 (Nat.le_of_ble_eq_true rfl) ?_
        refine pr_iload dX10_hints_157 rfl ?_
        refine pr_iload_n dX10_hints_159 rfl ?_
        refine pr_icmp_ge (tgt := 187) dX10_hints_160 (by decide) (fun c160 => ?_) (fun c160 => ?_)
        ·
          have c1609 := Int32.not_lt.mpr c160
          refine pr_iconst dX10_hints_187 (show Int32.ofInt (0) = (0) by decide) ?_
          refine pr_istore dX10_hints_188 (Nat.le_of_ble_eq_true rfl) ?_
          refine pr_aload_n dX10_hints_190 rfl rfl ?_
          refine pr_iload dX10_hints_191 rfl ?_
          refine pr_if_eq (tgt := 200) dX10_hints_193 (by decide) (fun c193 => absurd c193 (by decide)) (fun _ => ?_)
          refine pr_iconst dX10_hints_196 (show Int32.ofInt (0) = (0) by decide) ?_
          refine pr_goto (tgt := 210) dX10_hints_197 (by decide) ?_
          refine pr_put dX10_hints_210 fk_X10_289 rfl ⟨_, _, _, rfl, rfl⟩ rfl rfl ?_
          refine pr_aload_n dX10_hints_213 rfl rfl ?_
          refine pr_aload_n dX10_hints_214 rfl rfl ?_
          refine pr_getS (v := (0)) dX10_hints_215 fk_X10_289 rfl rfl ?_
          refine pr_iconst dX10_hints_218 (show Int32.ofInt (2) = (2) by decide) ?_
          refine pr_icmp_ne (tgt := 226) dX10_hints_219 (by decide) (fun c219 => ?_) (fun c219 => absurd c219 (by decide))
          refine pr_aload_n dX10_hints_226 rfl rfl ?_
          refine pr_getA dX10_hints_227 fk_X10_61 rfl ?_
          refine pr_bipush dX10_hints_230 (show (Int8.ofInt (120)).toInt32 = (120) by decide) ?_
          refine pr_iload_n dX10_hints_232 rfl ?_
          refine pr_imul dX10_hints_233 ?_
          refine pr_iload dX10_hints_234 rfl ?_
          refine pr_iadd dX10_hints_236 ?_
          refine pr_iald (v := (wyT ar w c)) (j := 120 * w + c) dX10_hints_237 (by decide) rfl (ix_mul 120 w c) (by show 120 * w + c < 12000; omega) rfl ?_
          refine pr_put dX10_hints_238 fk_X10_292 rfl ⟨_, _, _, rfl, rfl⟩ rfl rfl ?_
          have hk : hkn (ar 3) (wyT ar w) n m c = 0 := by
            unfold hkn
            rw [if_pos ⟨(nI_ltI (a := c) (b := n) (by omega) (by omega)).mp c979, (nI_ltI (a := c) (b := m) (by omega) (by omega)).mp c1039, (nI_eq (a := ed (ar 3) (wyT ar w) n m (n - (c + 1)) (m - (c + 1)) + 1) (b := ed (ar 3) (wyT ar w) n m n m) (by omega) (by omega)).mp c147⟩]
          rw [hk] at hQ
          exact pr_vret hQ dX10_hints_241 rfl rfl rfl rfl
        ·
          have c1609 := Int32.not_le.mp c160
          have ltm2 : c < m := (nI_ltI (a := c) (b := m) (by omega) (by omega)).mp c1609
          refine pr_aload_n dX10_hints_163 rfl rfl ?_
          refine pr_getA dX10_hints_164 fk_X10_76 rfl ?_
          refine pr_iload dX10_hints_167 rfl ?_
          refine pr_iload dX10_hints_169 rfl ?_
          refine pr_iconst dX10_hints_171 (show Int32.ofInt (1) = (1) by decide) ?_
          refine pr_iadd dX10_hints_172 ?_
          rw [nI_1]
          refine pr_callSC dX10_hints_173 cl_X10_280 (sc_place dd (c) (c + 1)) rfl rfl (Nat.le_of_ble_eq_true rfl) ⟨rfl, rfl⟩ ?_
          refine pr_iald (v := (nI (ed (ar 3) (wyT ar w) n m (n - (c)) (m - (c + 1))))) (j := 121 * (c) + (c + 1)) dX10_hints_176 (by decide) rfl rfl (by show 121 * (c) + (c + 1) < 14641; omega) (hf (c) (c + 1) (by omega) (by omega) (Or.inl (Nat.zero_le _))) ?_
          refine pr_iconst dX10_hints_177 (show Int32.ofInt (1) = (1) by decide) ?_
          refine pr_iadd dX10_hints_178 ?_
          rw [nI_1]
          refine pr_iload_n dX10_hints_179 rfl ?_
          refine pr_icmp_ne (tgt := 187) dX10_hints_180 (by decide) (fun c180 => ?_) (fun c180 => ?_)
          ·
            refine pr_iconst dX10_hints_187 (show Int32.ofInt (0) = (0) by decide) ?_
            refine pr_istore dX10_hints_188 (Nat.le_of_ble_eq_true rfl) ?_
            refine pr_aload_n dX10_hints_190 rfl rfl ?_
            refine pr_iload dX10_hints_191 rfl ?_
            refine pr_if_eq (tgt := 200) dX10_hints_193 (by decide) (fun c193 => absurd c193 (by decide)) (fun _ => ?_)
            refine pr_iconst dX10_hints_196 (show Int32.ofInt (0) = (0) by decide) ?_
            refine pr_goto (tgt := 210) dX10_hints_197 (by decide) ?_
            refine pr_put dX10_hints_210 fk_X10_289 rfl ⟨_, _, _, rfl, rfl⟩ rfl rfl ?_
            refine pr_aload_n dX10_hints_213 rfl rfl ?_
            refine pr_aload_n dX10_hints_214 rfl rfl ?_
            refine pr_getS (v := (0)) dX10_hints_215 fk_X10_289 rfl rfl ?_
            refine pr_iconst dX10_hints_218 (show Int32.ofInt (2) = (2) by decide) ?_
            refine pr_icmp_ne (tgt := 226) dX10_hints_219 (by decide) (fun c219 => ?_) (fun c219 => absurd c219 (by decide))
            refine pr_aload_n dX10_hints_226 rfl rfl ?_
            refine pr_getA dX10_hints_227 fk_X10_61 rfl ?_
            refine pr_bipush dX10_hints_230 (show (Int8.ofInt (120)).toInt32 = (120) by decide) ?_
            refine pr_iload_n dX10_hints_232 rfl ?_
            refine pr_imul dX10_hints_233 ?_
            refine pr_iload dX10_hints_234 rfl ?_
            refine pr_iadd dX10_hints_236 ?_
            refine pr_iald (v := (wyT ar w c)) (j := 120 * w + c) dX10_hints_237 (by decide) rfl (ix_mul 120 w c) (by show 120 * w + c < 12000; omega) rfl ?_
            refine pr_put dX10_hints_238 fk_X10_292 rfl ⟨_, _, _, rfl, rfl⟩ rfl rfl ?_
            have hk : hkn (ar 3) (wyT ar w) n m c = 0 := by
              unfold hkn
              rw [if_pos ⟨(nI_ltI (a := c) (b := n) (by omega) (by omega)).mp c979, (nI_ltI (a := c) (b := m) (by omega) (by omega)).mp c1039, (nI_eq (a := ed (ar 3) (wyT ar w) n m (n - (c + 1)) (m - (c + 1)) + 1) (b := ed (ar 3) (wyT ar w) n m n m) (by omega) (by omega)).mp c147⟩]
            rw [hk] at hQ
            exact pr_vret hQ dX10_hints_241 rfl rfl rfl rfl
          ·
            refine pr_iconst dX10_hints_183 (show Int32.ofInt (1) = (1) by decide) ?_
            refine pr_goto (tgt := 188) dX10_hints_184 (by decide) ?_
            refine pr_istore dX10_hints_188 (Nat.le_of_ble_eq_true rfl) ?_
            refine pr_aload_n dX10_hints_190 rfl rfl ?_
            refine pr_iload dX10_hints_191 rfl ?_
            refine pr_if_eq (tgt := 200) dX10_hints_193 (by decide) (fun c193 => absurd c193 (by decide)) (fun _ => ?_)
            refine pr_iconst dX10_hints_196 (show Int32.ofInt (0) = (0) by decide) ?_
            refine pr_goto (tgt := 210) dX10_hints_197 (by decide) ?_
            refine pr_put dX10_hints_210 fk_X10_289 rfl ⟨_, _, _, rfl, rfl⟩ rfl rfl ?_
            refine pr_aload_n dX10_hints_213 rfl rfl ?_
            refine pr_aload_n dX10_hints_214 rfl rfl ?_
            refine pr_getS (v := (0)) dX10_hints_215 fk_X10_289 rfl rfl ?_
            refine pr_iconst dX10_hints_218 (show Int32.ofInt (2) = (2) by decide) ?_
            refine pr_icmp_ne (tgt := 226) dX10_hints_219 (by decide) (fun c219 => ?_) (fun c219 => absurd c219 (by decide))
            refine pr_aload_n dX10_hints_226 rfl rfl ?_
            refine pr_getA dX10_hints_227 fk_X10_61 rfl ?_
            refine pr_bipush dX10_hints_230 (show (Int8.ofInt (120)).toInt32 = (120) by decide) ?_
            refine pr_iload_n dX10_hints_232 rfl ?_
            refine pr_imul dX10_hints_233 ?_
            refine pr_iload dX10_hints_234 rfl ?_
            refine pr_iadd dX10_hints_236 ?_
            refine pr_iald (v := (wyT ar w c)) (j := 120 * w + c) dX10_hints_237 (by decide) rfl (ix_mul 120 w c) (by show 120 * w + c < 12000; omega) rfl ?_
            refine pr_put dX10_hints_238 fk_X10_292 rfl ⟨_, _, _, rfl, rfl⟩ rfl rfl ?_
            have hk : hkn (ar 3) (wyT ar w) n m c = 0 := by
              unfold hkn
              rw [if_pos ⟨(nI_ltI (a := c) (b := n) (by omega) (by omega)).mp c979, (nI_ltI (a := c) (b := m) (by omega) (by omega)).mp c1039, (nI_eq (a := ed (ar 3) (wyT ar w) n m (n - (c + 1)) (m - (c + 1)) + 1) (b := ed (ar 3) (wyT ar w) n m n m) (by omega) (by omega)).mp c147⟩]
            rw [hk] at hQ
            exact pr_vret hQ dX10_hints_241 rfl rfl rfl rfl
set_option maxHeartbeats 4000000 in
set_option maxRecDepth 20000 in
theorem rp_hints (d : Nat) (sc : Nat → Int32) (ar : Nat → Nat → Int32) {n m w : Nat} (hn : sc 16 = nI n) (hn2 : n ≤ 120) (hm2 : m ≤ 120) (hw : w < 100) (h14 : ar 14 w = nI m) : RP (d + 3) 144 [.int (nI w)] sc ar (fun res sc2 ar2 => res = none ∧ sc2 = hnS sc (nI (cpx (ar 3) (wyT ar w) (min n m) 0)) (nI (hkn (ar 3) (wyT ar w) n m (cpx (ar 3) (wyT ar w) (min n m) 0))) (if hkn (ar 3) (wyT ar w) n m (cpx (ar 3) (wyT ar w) (min n m) 0) = 2 then -1 else wyT ar w (cpx (ar 3) (wyT ar w) (min n m) 0)) ∧ ∃ f, ar2 = va_up ar 20 f) := by
  refine RP.of pm_X10_hints rfl rfl (Nat.le_of_ble_eq_true rfl) ?_
  intro fx al nn g0 r Q hQ
  show pr fx (px_body pm_X10_hints) (d + 2) Q al nn g0 r sc ar 0 [.ref (al r), .int (nI w), .float 0, .float 0, .float 0, .float 0, .float 0, .float 0] []
  refine pr_aload_n dX10_hints_0 rfl rfl ?_
  refine pr_getA dX10_hints_1 fk_X10_58 rfl ?_
  refine pr_iload_n dX10_hints_4 rfl ?_
  refine pr_iald (v := (nI m)) (j := w) dX10_hints_5 (by decide) rfl rfl (by show w < 100; omega) h14 ?_
  refine pr_istore_n dX10_hints_6 (Nat.le_of_ble_eq_true rfl) ?_
  refine pr_aload_n dX10_hints_7 rfl rfl ?_
  refine pr_iload_n dX10_hints_8 rfl ?_
  refine pr_callP dX10_hints_9 cl_X10_283 (rp_changes d sc ar hn hn2 hm2 hw h14) rfl rfl (Nat.le_of_ble_eq_true rfl) ⟨rfl, rfl⟩ (fun res sc2 ar2 hc => ?_)
  obtain ⟨rfl, rfl, f, rfl, hf⟩ := hc
  refine pr_istore_n dX10_hints_12 (Nat.le_of_ble_eq_true rfl) ?_
  refine pr_iconst dX10_hints_13 (show Int32.ofInt (0) = (0) by decide) ?_
  refine pr_istore dX10_hints_14 (Nat.le_of_ble_eq_true rfl) ?_
  refine pr_iconst dX10_hints_16 (show Int32.ofInt (0) = (0) by decide) ?_
  refine pr_istore dX10_hints_17 (Nat.le_of_ble_eq_true rfl) ?_
  have hle := cpx_le (ar 3) (wyT ar w) (min n m) 0
  refine rl_hints (dd := d + 1) hn hn2 hm2 hw hf ?_ (min n m) 0 (by omega) rfl rfl
  refine rl_hints2 (dd := d + 1) hn hn2 hm2 hw hf (by omega) (fun z => cpx_ne (ar 3) (wyT ar w) (min n m) 0 (by omega)) (fun g2 hR hF => hQ _ _ _ g2 ⟨rfl, rfl, f, rfl⟩ hR hF)
def hStp (D : Nat → Nat) (w : Nat) : Option (Nat × Nat) → Option (Nat × Nat)
  | none => some (w, D w)
  | some (v, l) => if D w < l then some (w, D w) else some (v, l)
/-- the nearest way: the first of those with the fewest changes -/
def hBest (D : Nat → Nat) : Nat → Nat → Option (Nat × Nat) → Option (Nat × Nat)
  | 0, _, b => b
  | j + 1, w, b => hBest D j (w + 1) (hStp D w b)
def eB : Option (Nat × Nat) → Int32 × Int32
  | none => (-1, 0)
  | some (w, l) => (nI w, nI l)
def hAns (S : Nat → Int32) (Wf : Nat → Nat → Int32) (n : Nat) (M : Nat → Nat) (q : Int32) : Option (Nat × Nat) → Int32
  | none => -1
  | some (w, l) => if q = 0 then nI l else if q = 1 then nI w else if l = 0 then -1 else if q = 2 then nI (hkn S (Wf w) n (M w) (cpx S (Wf w) (min n (M w)) 0)) else if q = 3 then nI (cpx S (Wf w) (min n (M w)) 0) else if hkn S (Wf w) n (M w) (cpx S (Wf w) (min n (M w)) 0) = 2 then -1 else Wf w (cpx S (Wf w) (min n (M w)) 0)
def wyD (ar : Nat → Nat → Int32) (n t : Nat) (M : Nat → Nat) : Nat → Nat := fun w => ed (ar 3) (wyT ar (10 * t + w)) n (M w) n (M w)
set_option maxHeartbeats 4000000 in
set_option maxRecDepth 20000 in
theorem rl_hint {fx : px_F} {dd : Nat} {Q : px_Q} {al : Nat → Nat} {nn : Nat} {g0 : Nat → px_O} {r : Nat} {sc : Nat → Int32} {ar : Nat → Nat → Int32} {n t Y : Nat} {q : Int32} {M : Nat → Nat} (hn : sc 16 = nI n) (hn2 : n ≤ 120) (ht : t < 10) (hY : Y ≤ 10) (h13 : ar 13 t = nI Y) (hM : ∀ w, w < Y → ar 14 (10 * t + w) = nI (M w) ∧ M w ≤ 120) (kk : ∀ f b l6, b = hBest (wyD ar n t M) Y 0 none → (∀ w l, b = some (w, l) → w < Y ∧ l ≤ 242) → pr fx (px_body pm_X10_hint) (dd + 2) Q al nn g0 r sc (va_up ar 20 f) 121 [.ref (al r), .int (nI t), .int q, .int (eB b).1, .int (eB b).2, .int (nI Y), l6] []) : ∀ (j w : Nat) (b : Option (Nat × Nat)) (f : Nat → Int32) (l6 : Value), w + j = Y → hBest (wyD ar n t M) j w b = hBest (wyD ar n t M) Y 0 none → (∀ w l, b = some (w, l) → w < Y ∧ l ≤ 242) → pr fx (px_body pm_X10_hint) (dd + 2) Q al nn g0 r sc (va_up ar 20 f) 70 [.ref (al r), .int (nI t), .int q, .int (eB b).1, .int (eB b).2, .int (nI w), l6] []
  | 0, w, b, f, l6, hw, hb, hB => by
    obtain rfl : w = Y := by omega
    refine pr_iload dX10_hint_70 rfl ?_
    refine pr_aload_n dX10_hint_72 rfl rfl ?_
    refine pr_getA dX10_hint_73 fk_X10_55 rfl ?_
    refine pr_iload_n dX10_hint_76 rfl ?_
    refine pr_iald (v := (nI w)) (j := t) dX10_hint_77 (by decide) rfl rfl (by show t < 10; omega) h13 ?_
    refine pr_icmp_ge (tgt := 121) dX10_hint_78 (by decide) (fun c78 => ?_) (fun c78 => absurd (Int32.le_refl _) c78)
    exact kk f b l6 hb hB
  | j + 1, w, b, f, l6, hw, hb, hB => by
    rw [hBest] at hb
    have hD : wyD ar n t M w ≤ 242 := by
      have := ed_le (ar 3) (wyT ar (10 * t + w)) n (M w) n (M w)
      have := (hM w (by omega)).2
      unfold wyD; omega
    refine pr_iload dX10_hint_70 rfl ?_
    refine pr_aload_n dX10_hint_72 rfl rfl ?_
    refine pr_getA dX10_hint_73 fk_X10_55 rfl ?_
    refine pr_iload_n dX10_hint_76 rfl ?_
    refine pr_iald (v := (nI Y)) (j := t) dX10_hint_77 (by decide) rfl rfl (by show t < 10; omega) h13 ?_
    refine pr_icmp_ge (tgt := 121) dX10_hint_78 (by decide) (fun c78 => absurd c78 (Int32.not_le.mpr (nI_lt (by omega) (by omega)))) (fun c78 => ?_)
    refine pr_aload_n dX10_hint_81 rfl rfl ?_
    refine pr_bipush dX10_hint_82 (show (Int8.ofInt (10)).toInt32 = (10) by decide) ?_
    refine pr_iload_n dX10_hint_84 rfl ?_
    refine pr_imul dX10_hint_85 ?_
    refine pr_iload dX10_hint_86 rfl ?_
    refine pr_iadd dX10_hint_88 ?_
    rw [show (10 : Int32) * nI t + nI w = nI (10 * t + w) from ix_mul 10 t w]
    refine pr_callP dX10_hint_89 cl_X10_283 (rp_changes dd sc (va_up ar 20 f) (m := M w) (w := 10 * t + w) hn hn2 (hM w (by omega)).2 (by omega) (hM w (by omega)).1) rfl rfl (Nat.le_of_ble_eq_true rfl) ⟨rfl, rfl⟩ (fun res sc2 ar2 hc => ?_)
    obtain ⟨rfl, h9, f2, rfl, _⟩ := hc
    subst sc2
    rw [va_3]
    refine (?_ : pr fx (px_body pm_X10_hint) (dd + 2) Q al nn g0 r sc (va_up ar 20 f2) 92 [.ref (al r), .int (nI t), .int q, .int (eB b).1, .int (eB b).2, .int (nI w), l6] [.int (nI (wyD ar n t M w))])
    rcases b with _ | ⟨v, l⟩
    ·
      refine pr_istore dX10_hint_92 (Nat.le_of_ble_eq_true rfl) ?_
      refine pr_iload_n dX10_hint_94 rfl ?_
      refine pr_if_lt (tgt := 108) dX10_hint_95 (by decide) (fun c95 => ?_) (fun c95 => absurd (show (-1 : Int32) < 0 by decide) c95)
      refine pr_iload dX10_hint_108 rfl ?_
      refine pr_istore_n dX10_hint_110 (Nat.le_of_ble_eq_true rfl) ?_
      refine pr_iload dX10_hint_111 rfl ?_
      refine pr_istore dX10_hint_113 (Nat.le_of_ble_eq_true rfl) ?_
      refine pr_iinc dX10_hint_115 rfl (show Int32.ofInt (1) = (1) by decide) ?_
      refine pr_goto (tgt := 70) dX10_hint_118 (by decide) ?_
      rw [nI_1]
      exact rl_hint hn hn2 ht hY h13 hM kk j (w + 1) (some (w, wyD ar n t M w)) f2 _ (by omega) hb (fun v l h => by cases h; exact ⟨by omega, hD⟩)
    ·
      have hvl := hB v l rfl
      refine pr_istore dX10_hint_92 (Nat.le_of_ble_eq_true rfl) ?_
      refine pr_iload_n dX10_hint_94 rfl ?_
      refine pr_if_lt (tgt := 108) dX10_hint_95 (by decide) (fun c95 => absurd c95 (nI_pos (by omega))) (fun c95 => ?_)
      refine pr_iload dX10_hint_98 rfl ?_
      refine pr_iload dX10_hint_100 rfl ?_
      refine pr_icmp_lt (tgt := 108) dX10_hint_102 (by decide) (fun c102 => ?_) (fun c102 => ?_)
      ·
        have c1029 := Int32.not_le.mpr c102
        refine pr_iload dX10_hint_108 rfl ?_
        refine pr_istore_n dX10_hint_110 (Nat.le_of_ble_eq_true rfl) ?_
        refine pr_iload dX10_hint_111 rfl ?_
        refine pr_istore dX10_hint_113 (Nat.le_of_ble_eq_true rfl) ?_
        refine pr_iinc dX10_hint_115 rfl (show Int32.ofInt (1) = (1) by decide) ?_
        refine pr_goto (tgt := 70) dX10_hint_118 (by decide) ?_
        rw [nI_1]
        have hlt : wyD ar n t M w < l := (nI_ltI (by omega) (by omega)).mp c102
        exact rl_hint hn hn2 ht hY h13 hM kk j (w + 1) (some (w, wyD ar n t M w)) f2 _ (by omega) (by rw [← hb]; show _ = hBest _ j (w + 1) (if wyD ar n t M w < l then some (w, wyD ar n t M w) else some (v, l)); rw [if_pos hlt]) (fun v l h => by cases h; exact ⟨by omega, hD⟩)
      ·
        have c1029 := Int32.not_lt.mp c102
        refine pr_goto (tgt := 115) dX10_hint_105 (by decide) ?_
        refine pr_iinc dX10_hint_115 rfl (show Int32.ofInt (1) = (1) by decide) ?_
        refine pr_goto (tgt := 70) dX10_hint_118 (by decide) ?_
        rw [nI_1]
        have hlt : ¬ wyD ar n t M w < l := fun z => c102 (nI_lt z (by omega))
        exact rl_hint hn hn2 ht hY h13 hM kk j (w + 1) (some (v, l)) f2 _ (by omega) (by rw [← hb]; show _ = hBest _ j (w + 1) (if wyD ar n t M w < l then some (w, wyD ar n t M w) else some (v, l)); rw [if_neg hlt]) hB
set_option maxHeartbeats 4000000 in
set_option maxRecDepth 20000 in
theorem rp_hint_ok (sc : Nat → Int32) (ar : Nat → Nat → Int32) {n t Y : Nat} {q : Int32} {M : Nat → Nat} {T : Nat} (hT : sc 30 = nI T) (h10 : T ≤ 10) (ht : t < T) (hn : sc 16 = nI n) (hn0 : 0 < n) (hn2 : n ≤ 120) (hY : Y ≤ 10) (h13 : ar 13 t = nI Y) (hM : ∀ w, w < Y → ar 14 (10 * t + w) = nI (M w) ∧ M w ≤ 120) (hq : 0 ≤ q ∧ q ≤ 4) : RP (1733) 145 [.int (nI t), .int q] sc ar (fun res sc2 ar2 => res = some (.int (hAns (ar 3) (fun w => wyT ar (10 * t + w)) n M q (hBest (wyD ar n t M) Y 0 none))) ∧ sc2 0 = 0 ∧ (∀ k, k ≠ 0 → k ≠ 41 → k ≠ 42 → k ≠ 43 → sc2 k = sc k) ∧ ∃ f, ar2 = va_up ar 20 f) := by
  refine RP.of pm_X10_hint rfl rfl (Nat.le_of_ble_eq_true rfl) ?_
  intro fx al n_ g0 r Q hQ
  show pr fx (px_body pm_X10_hint) (1732) Q al n_ g0 r sc ar 0 [.ref (al r), .int (nI t), .int q, .float 0, .float 0, .float 0, .float 0] []
  have ht9 : t < 10 := by omega
  refine pr_aload_n dX10_hint_0 rfl rfl ?_
  refine pr_iconst dX10_hint_1 (show Int32.ofInt (0) = (0) by decide) ?_
  refine pr_put dX10_hint_2 fk_X10_79 rfl ⟨_, _, _, rfl, rfl⟩ rfl rfl ?_
  refine pr_aload_n dX10_hint_5 rfl rfl ?_
  refine pr_aload_n dX10_hint_6 rfl rfl ?_
  refine pr_iload_n dX10_hint_7 rfl ?_
  refine pr_call dX10_hint_8 cl_X10_248 (rc_noTask_f 1730 (sc := upd sc 0 0) ar (T := T) hT h10 ht) rfl rfl (Nat.le_of_ble_eq_true rfl) ⟨rfl, rfl⟩ ?_
  refine pr_iconst dX10_hint_11 (show Int32.ofInt (1) = (1) by decide) ?_
  refine pr_call dX10_hint_12 cl_X10_180 (rc_throwsIf_f _ _ _ _) rfl rfl (Nat.le_of_ble_eq_true rfl) ⟨rfl, rfl⟩ ?_
  refine pr_if_ne (tgt := 60) dX10_hint_15 (by decide) (fun c15 => absurd c15 (by decide)) (fun _ => ?_)
  refine pr_aload_n dX10_hint_18 rfl rfl ?_
  refine pr_aload_n dX10_hint_19 rfl rfl ?_
  refine pr_getS (v := nI n) dX10_hint_20 fk_X10_184 rfl hn ?_
  refine pr_if_ne (tgt := 30) dX10_hint_23 (by decide) (fun c23 => ?_) (fun c23 => absurd c23 (nI_ne0 hn0 (by omega)))
  refine pr_iconst dX10_hint_30 (show Int32.ofInt (0) = (0) by decide) ?_
  refine pr_iconst dX10_hint_31 (show Int32.ofInt (2) = (2) by decide) ?_
  refine pr_call dX10_hint_32 cl_X10_180 (rc_throwsIf_f _ _ _ _) rfl rfl (Nat.le_of_ble_eq_true rfl) ⟨rfl, rfl⟩ ?_
  refine pr_if_ne (tgt := 60) dX10_hint_35 (by decide) (fun c35 => absurd c35 (by decide)) (fun _ => ?_)
  refine pr_aload_n dX10_hint_38 rfl rfl ?_
  refine pr_iload_n dX10_hint_39 rfl ?_
  refine pr_iconst dX10_hint_40 (show Int32.ofInt (0) = (0) by decide) ?_
  refine pr_iconst dX10_hint_41 (show Int32.ofInt (4) = (4) by decide) ?_
  refine pr_callSC dX10_hint_42 cl_X10_104 (rc_in_t 1731 hq.1 hq.2) rfl rfl (Nat.le_of_ble_eq_true rfl) ⟨rfl, rfl⟩ ?_
  refine pr_if_ne (tgt := 52) dX10_hint_45 (by decide) (fun _ => ?_) (fun c45 => absurd c45 (by decide))
  refine pr_iconst dX10_hint_52 (show Int32.ofInt (0) = (0) by decide) ?_
  refine pr_iconst dX10_hint_53 (show Int32.ofInt (3) = (3) by decide) ?_
  refine pr_call dX10_hint_54 cl_X10_180 (rc_throwsIf_f _ _ _ _) rfl rfl (Nat.le_of_ble_eq_true rfl) ⟨rfl, rfl⟩ ?_
  refine pr_if_eq (tgt := 62) dX10_hint_57 (by decide) (fun _ => ?_) (fun c57 => absurd c57 (by decide))
  refine pr_iconst dX10_hint_62 (show Int32.ofInt (-1) = (-1) by decide) ?_
  refine pr_istore_n dX10_hint_63 (Nat.le_of_ble_eq_true rfl) ?_
  refine pr_iconst dX10_hint_64 (show Int32.ofInt (0) = (0) by decide) ?_
  refine pr_istore dX10_hint_65 (Nat.le_of_ble_eq_true rfl) ?_
  refine pr_iconst dX10_hint_67 (show Int32.ofInt (0) = (0) by decide) ?_
  refine pr_istore dX10_hint_68 (Nat.le_of_ble_eq_true rfl) ?_
  have key := rl_hint (fx := fx) (dd := 1730) (Q := Q) (al := al) (nn := n_) (g0 := g0) (r := r) (sc := upd sc 0 0) (ar := ar) (n := n) (t := t) (Y := Y) (q := q) (M := M) hn hn2 ht9 hY h13 hM ?_ Y 0 none (ar 20) (.float 0) (by omega) rfl (fun _ _ h => by cases h)
  · rw [va_id] at key
    exact key
  · intro f b l6 hb hB
    rcases b with _ | ⟨v, l⟩
    · refine (?_ : pr fx (px_body pm_X10_hint) 1732 Q al n_ g0 r (upd sc 0 0) (va_up ar 20 f) 121 [.ref (al r), .int (nI t), .int q, .int (-1), .int 0, .int (nI Y), l6] [])
      refine pr_iload_n dX10_hint_121 rfl ?_
      refine pr_if_ge (tgt := 127) dX10_hint_122 (by decide) (fun c122 => absurd c122 (by decide)) (fun c122 => ?_)
      refine pr_iconst dX10_hint_125 (show Int32.ofInt (-1) = (-1) by decide) ?_
      refine pr_iretP hQ dX10_hint_126 rfl rfl ⟨?_, rfl, fun k k0 _ _ _ => pk_un k0, f, rfl⟩
      rw [← hb]
      rfl
    · have hvl := hB v l rfl
      refine (?_ : pr fx (px_body pm_X10_hint) 1732 Q al n_ g0 r (upd sc 0 0) (va_up ar 20 f) 121 [.ref (al r), .int (nI t), .int q, .int (nI v), .int (nI l), .int (nI Y), l6] [])
      refine pr_iload_n dX10_hint_121 rfl ?_
      refine pr_if_ge (tgt := 127) dX10_hint_122 (by decide) (fun c122 => ?_) (fun c122 => absurd (nI_pos' (by omega)) c122)
      refine pr_iload_n dX10_hint_127 rfl ?_
      refine pr_if_ne (tgt := 134) dX10_hint_128 (by decide) (fun c128 => ?_) (fun c128 => ?_)
      ·
        refine pr_iload_n dX10_hint_134 rfl ?_
        refine pr_iconst dX10_hint_135 (show Int32.ofInt (1) = (1) by decide) ?_
        refine pr_icmp_ne (tgt := 141) dX10_hint_136 (by decide) (fun c136 => ?_) (fun c136 => ?_)
        ·
          refine pr_iload dX10_hint_141 rfl ?_
          refine pr_if_ne (tgt := 148) dX10_hint_143 (by decide) (fun c143 => ?_) (fun c143 => ?_)
          ·
            have hl0 : ¬ l = 0 := fun z => c143 (by rw [z]; rfl)
            refine pr_aload_n dX10_hint_148 rfl rfl ?_
            refine pr_bipush dX10_hint_149 (show (Int8.ofInt (10)).toInt32 = (10) by decide) ?_
            refine pr_iload_n dX10_hint_151 rfl ?_
            refine pr_imul dX10_hint_152 ?_
            refine pr_iload_n dX10_hint_153 rfl ?_
            refine pr_iadd dX10_hint_154 ?_
            rw [show (10 : Int32) * nI t + nI v = nI (10 * t + v) from ix_mul 10 t v]
            refine pr_callP dX10_hint_155 cl_X10_295 (rp_hints 1729 (upd sc 0 0) (va_up ar 20 f) (m := M v) (w := 10 * t + v) hn hn2 (hM v hvl.1).2 (by omega) (hM v hvl.1).1) rfl rfl (Nat.le_of_ble_eq_true rfl) ⟨rfl, rfl⟩ (fun res sc2 ar2 hc => ?_)
            obtain ⟨rfl, rfl, f3, rfl⟩ := hc
            rw [va_3]
            refine pr_iload_n dX10_hint_158 rfl ?_
            refine pr_iconst dX10_hint_159 (show Int32.ofInt (2) = (2) by decide) ?_
            refine pr_icmp_ne (tgt := 170) dX10_hint_160 (by decide) (fun c160 => ?_) (fun c160 => ?_)
            ·
              refine pr_iload_n dX10_hint_170 rfl ?_
              refine pr_iconst dX10_hint_171 (show Int32.ofInt (3) = (3) by decide) ?_
              refine pr_icmp_ne (tgt := 182) dX10_hint_172 (by decide) (fun c172 => ?_) (fun c172 => ?_)
              ·
                refine pr_aload_n dX10_hint_182 rfl rfl ?_
                refine pr_getS dX10_hint_183 fk_X10_292 rfl rfl ?_
                refine pr_iretP hQ dX10_hint_186 rfl rfl ⟨?_, rfl, fun k k0 k1 k2 k3 => ?_, f3, rfl⟩
                · rw [← hb]
                  show _ = some (Value.int (hAns (ar 3) (fun w => wyT ar (10 * t + w)) n M q (some (v, l))))
                  rw [hAns, if_neg c128, if_neg c136, if_neg hl0, if_neg c160, if_neg c172]
                  rfl
                · show upd (upd (upd (upd sc 0 0) 42 _) 41 _) 43 _ k = sc k
                  rw [pk_un k3, pk_un k1, pk_un k2, pk_un k0]
              ·
                refine pr_aload_n dX10_hint_175 rfl rfl ?_
                refine pr_getS dX10_hint_176 fk_X10_286 rfl rfl ?_
                refine pr_goto (tgt := 186) dX10_hint_179 (by decide) ?_
                refine pr_iretP hQ dX10_hint_186 rfl rfl ⟨?_, rfl, fun k k0 k1 k2 k3 => ?_, f3, rfl⟩
                · rw [← hb]
                  show _ = some (Value.int (hAns (ar 3) (fun w => wyT ar (10 * t + w)) n M q (some (v, l))))
                  rw [hAns, if_neg c128, if_neg c136, if_neg hl0, if_neg c160, if_pos c172]
                  rfl
                · show upd (upd (upd (upd sc 0 0) 42 _) 41 _) 43 _ k = sc k
                  rw [pk_un k3, pk_un k1, pk_un k2, pk_un k0]
            ·
              refine pr_aload_n dX10_hint_163 rfl rfl ?_
              refine pr_getS dX10_hint_164 fk_X10_289 rfl rfl ?_
              refine pr_goto (tgt := 186) dX10_hint_167 (by decide) ?_
              refine pr_iretP hQ dX10_hint_186 rfl rfl ⟨?_, rfl, fun k k0 k1 k2 k3 => ?_, f3, rfl⟩
              · rw [← hb]
                show _ = some (Value.int (hAns (ar 3) (fun w => wyT ar (10 * t + w)) n M q (some (v, l))))
                rw [hAns, if_neg c128, if_neg c136, if_neg hl0, if_pos c160]
                rfl
              · show upd (upd (upd (upd sc 0 0) 42 _) 41 _) 43 _ k = sc k
                rw [pk_un k3, pk_un k1, pk_un k2, pk_un k0]
          ·
            refine pr_iconst dX10_hint_146 (show Int32.ofInt (-1) = (-1) by decide) ?_
            have hl0 : l = 0 := (nI_eq (a := l) (b := 0) (by omega) (by decide)).mp c143
            refine pr_iretP hQ dX10_hint_147 rfl rfl ⟨?_, rfl, fun k k0 _ _ _ => pk_un k0, f, rfl⟩
            rw [← hb]
            show _ = some (Value.int (hAns (ar 3) (fun w => wyT ar (10 * t + w)) n M q (some (v, l))))
            rw [hAns, if_neg c128, if_neg c136, if_pos hl0]
        ·
          refine pr_iload_n dX10_hint_139 rfl ?_
          refine pr_iretP hQ dX10_hint_140 rfl rfl ⟨?_, rfl, fun k k0 _ _ _ => pk_un k0, f, rfl⟩
          rw [← hb]
          show _ = some (Value.int (hAns (ar 3) (fun w => wyT ar (10 * t + w)) n M q (some (v, l))))
          rw [hAns, if_neg c128, if_pos c136]
      ·
        refine pr_iload dX10_hint_131 rfl ?_
        refine pr_iretP hQ dX10_hint_133 rfl rfl ⟨?_, rfl, fun k k0 _ _ _ => pk_un k0, f, rfl⟩
        rw [← hb]
        show _ = some (Value.int (hAns (ar 3) (fun w => wyT ar (10 * t + w)) n M q (some (v, l))))
        rw [hAns, if_pos c128]
set_option maxHeartbeats 4000000 in
set_option maxRecDepth 20000 in
theorem rc_hint_bad1 (sc : Nat → Int32) (ar : Nat → Nat → Int32) {t : Int32} (q : Int32) (ht : ¬ (0 ≤ t ∧ t ≤ sc 30 - 1)) : RC (1733) 145 [.int t, .int q] sc ar (some (.int 0)) (upd (upd sc 0 0) 0 1) (ar) := by
  refine RC.of pm_X10_hint rfl rfl (Nat.le_of_ble_eq_true rfl) ?_
  intro fx al n g0 r Q hQ
  show pr fx (px_body pm_X10_hint) (1732) Q al n g0 r sc ar 0 [.ref (al r), .int t, .int q, .float 0, .float 0, .float 0, .float 0] []
  refine pr_aload_n dX10_hint_0 rfl rfl ?_
  refine pr_iconst dX10_hint_1 (show Int32.ofInt (0) = (0) by decide) ?_
  refine pr_put dX10_hint_2 fk_X10_79 rfl ⟨_, _, _, rfl, rfl⟩ rfl rfl ?_
  refine pr_aload_n dX10_hint_5 rfl rfl ?_
  refine pr_aload_n dX10_hint_6 rfl rfl ?_
  refine pr_iload_n dX10_hint_7 rfl ?_
  refine pr_call dX10_hint_8 cl_X10_248 (rc_noTask_t 1730 (sc := upd sc 0 0) ar ht) rfl rfl (Nat.le_of_ble_eq_true rfl) ⟨rfl, rfl⟩ ?_
  refine pr_iconst dX10_hint_11 (show Int32.ofInt (1) = (1) by decide) ?_
  refine pr_call dX10_hint_12 cl_X10_180 (rc_throwsIf_t _ _ _ _) rfl rfl (Nat.le_of_ble_eq_true rfl) ⟨rfl, rfl⟩ ?_
  refine pr_if_ne (tgt := 60) dX10_hint_15 (by decide) (fun _ => ?_) (fun c15 => absurd c15 (by decide))
  refine pr_iconst dX10_hint_60 (show Int32.ofInt (0) = (0) by decide) ?_
  exact pr_iret hQ dX10_hint_61 rfl rfl rfl rfl rfl
set_option maxHeartbeats 4000000 in
set_option maxRecDepth 20000 in
theorem rc_hint_bad2 (sc : Nat → Int32) (ar : Nat → Nat → Int32) {t T : Nat} (q : Int32) (hT : sc 30 = nI T) (h10 : T ≤ 10) (ht : t < T) (hm : sc 16 = 0) : RC (1733) 145 [.int (nI t), .int q] sc ar (some (.int 0)) (upd (upd sc 0 0) 0 2) (ar) := by
  refine RC.of pm_X10_hint rfl rfl (Nat.le_of_ble_eq_true rfl) ?_
  intro fx al n g0 r Q hQ
  show pr fx (px_body pm_X10_hint) (1732) Q al n g0 r sc ar 0 [.ref (al r), .int (nI t), .int q, .float 0, .float 0, .float 0, .float 0] []
  refine pr_aload_n dX10_hint_0 rfl rfl ?_
  refine pr_iconst dX10_hint_1 (show Int32.ofInt (0) = (0) by decide) ?_
  refine pr_put dX10_hint_2 fk_X10_79 rfl ⟨_, _, _, rfl, rfl⟩ rfl rfl ?_
  refine pr_aload_n dX10_hint_5 rfl rfl ?_
  refine pr_aload_n dX10_hint_6 rfl rfl ?_
  refine pr_iload_n dX10_hint_7 rfl ?_
  refine pr_call dX10_hint_8 cl_X10_248 (rc_noTask_f 1730 (sc := upd sc 0 0) ar (T := T) hT h10 ht) rfl rfl (Nat.le_of_ble_eq_true rfl) ⟨rfl, rfl⟩ ?_
  refine pr_iconst dX10_hint_11 (show Int32.ofInt (1) = (1) by decide) ?_
  refine pr_call dX10_hint_12 cl_X10_180 (rc_throwsIf_f _ _ _ _) rfl rfl (Nat.le_of_ble_eq_true rfl) ⟨rfl, rfl⟩ ?_
  refine pr_if_ne (tgt := 60) dX10_hint_15 (by decide) (fun c15 => absurd c15 (by decide)) (fun _ => ?_)
  refine pr_aload_n dX10_hint_18 rfl rfl ?_
  refine pr_aload_n dX10_hint_19 rfl rfl ?_
  refine pr_getS (v := 0) dX10_hint_20 fk_X10_184 rfl hm ?_
  refine pr_if_ne (tgt := 30) dX10_hint_23 (by decide) (fun c23 => absurd rfl c23) (fun c23 => ?_)
  refine pr_iconst dX10_hint_26 (show Int32.ofInt (1) = (1) by decide) ?_
  refine pr_goto (tgt := 31) dX10_hint_27 (by decide) ?_
  refine pr_iconst dX10_hint_31 (show Int32.ofInt (2) = (2) by decide) ?_
  refine pr_call dX10_hint_32 cl_X10_180 (rc_throwsIf_t _ _ _ _) rfl rfl (Nat.le_of_ble_eq_true rfl) ⟨rfl, rfl⟩ ?_
  refine pr_if_ne (tgt := 60) dX10_hint_35 (by decide) (fun _ => ?_) (fun c35 => absurd c35 (by decide))
  refine pr_iconst dX10_hint_60 (show Int32.ofInt (0) = (0) by decide) ?_
  exact pr_iret hQ dX10_hint_61 rfl rfl rfl rfl rfl
set_option maxHeartbeats 4000000 in
set_option maxRecDepth 20000 in
theorem rc_hint_bad3 (sc : Nat → Int32) (ar : Nat → Nat → Int32) {t T : Nat} {q : Int32} (hT : sc 30 = nI T) (h10 : T ≤ 10) (ht : t < T) (hm : ¬ sc 16 = 0) (hq : ¬ (0 ≤ q ∧ q ≤ 4)) : RC (1733) 145 [.int (nI t), .int q] sc ar (some (.int 0)) (upd (upd sc 0 0) 0 3) (ar) := by
  refine RC.of pm_X10_hint rfl rfl (Nat.le_of_ble_eq_true rfl) ?_
  intro fx al n g0 r Q hQ
  show pr fx (px_body pm_X10_hint) (1732) Q al n g0 r sc ar 0 [.ref (al r), .int (nI t), .int q, .float 0, .float 0, .float 0, .float 0] []
  refine pr_aload_n dX10_hint_0 rfl rfl ?_
  refine pr_iconst dX10_hint_1 (show Int32.ofInt (0) = (0) by decide) ?_
  refine pr_put dX10_hint_2 fk_X10_79 rfl ⟨_, _, _, rfl, rfl⟩ rfl rfl ?_
  refine pr_aload_n dX10_hint_5 rfl rfl ?_
  refine pr_aload_n dX10_hint_6 rfl rfl ?_
  refine pr_iload_n dX10_hint_7 rfl ?_
  refine pr_call dX10_hint_8 cl_X10_248 (rc_noTask_f 1730 (sc := upd sc 0 0) ar (T := T) hT h10 ht) rfl rfl (Nat.le_of_ble_eq_true rfl) ⟨rfl, rfl⟩ ?_
  refine pr_iconst dX10_hint_11 (show Int32.ofInt (1) = (1) by decide) ?_
  refine pr_call dX10_hint_12 cl_X10_180 (rc_throwsIf_f _ _ _ _) rfl rfl (Nat.le_of_ble_eq_true rfl) ⟨rfl, rfl⟩ ?_
  refine pr_if_ne (tgt := 60) dX10_hint_15 (by decide) (fun c15 => absurd c15 (by decide)) (fun _ => ?_)
  refine pr_aload_n dX10_hint_18 rfl rfl ?_
  refine pr_aload_n dX10_hint_19 rfl rfl ?_
  refine pr_getS (v := (sc 16)) dX10_hint_20 fk_X10_184 rfl rfl ?_
  refine pr_if_ne (tgt := 30) dX10_hint_23 (by decide) (fun c23 => ?_) (fun c23 => absurd c23 hm)
  refine pr_iconst dX10_hint_30 (show Int32.ofInt (0) = (0) by decide) ?_
  refine pr_iconst dX10_hint_31 (show Int32.ofInt (2) = (2) by decide) ?_
  refine pr_call dX10_hint_32 cl_X10_180 (rc_throwsIf_f _ _ _ _) rfl rfl (Nat.le_of_ble_eq_true rfl) ⟨rfl, rfl⟩ ?_
  refine pr_if_ne (tgt := 60) dX10_hint_35 (by decide) (fun c35 => absurd c35 (by decide)) (fun _ => ?_)
  refine pr_aload_n dX10_hint_38 rfl rfl ?_
  refine pr_iload_n dX10_hint_39 rfl ?_
  refine pr_iconst dX10_hint_40 (show Int32.ofInt (0) = (0) by decide) ?_
  refine pr_iconst dX10_hint_41 (show Int32.ofInt (4) = (4) by decide) ?_
  refine pr_callSC dX10_hint_42 cl_X10_104 (rc_in_f 1731 hq) rfl rfl (Nat.le_of_ble_eq_true rfl) ⟨rfl, rfl⟩ ?_
  refine pr_if_ne (tgt := 52) dX10_hint_45 (by decide) (fun c45 => absurd c45 (by decide)) (fun _ => ?_)
  refine pr_iconst dX10_hint_48 (show Int32.ofInt (1) = (1) by decide) ?_
  refine pr_goto (tgt := 53) dX10_hint_49 (by decide) ?_
  refine pr_iconst dX10_hint_53 (show Int32.ofInt (3) = (3) by decide) ?_
  refine pr_call dX10_hint_54 cl_X10_180 (rc_throwsIf_t _ _ _ _) rfl rfl (Nat.le_of_ble_eq_true rfl) ⟨rfl, rfl⟩ ?_
  refine pr_if_eq (tgt := 62) dX10_hint_57 (by decide) (fun c57 => absurd c57 (by decide)) (fun _ => ?_)
  refine pr_iconst dX10_hint_60 (show Int32.ofInt (0) = (0) by decide) ?_
  exact pr_iret hQ dX10_hint_61 rfl rfl rfl rfl rfl
