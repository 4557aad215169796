theorem nI_or (a b : Nat) : nI a ||| nI b = nI (a ||| b) := by
  apply Int32.toBitVec_inj.mp
  show BitVec.ofNat 32 a ||| BitVec.ofNat 32 b = BitVec.ofNat 32 (a ||| b)
  apply BitVec.eq_of_getLsbD_eq
  intro i hi
  simp [hi]
theorem nI_sh1 : ∀ k, k < 8 → (1 : Int32) <<< (nI k &&& 31) = nI (2 ^ k) := by decide +kernel
theorem rCans_nat (can : Nat → Int32) (l : Nat) : ∀ k, k ≤ 8 → ∃ b, b < 2 ^ k ∧ rCans can l k = nI b
  | 0, _ => ⟨0, by decide, rfl⟩
  | k + 1, h => by
    obtain ⟨b, hb, e⟩ := rCans_nat can l k (by omega)
    rw [rCans, e, nI_sh1 k (by omega)]
    split
    · exact ⟨b ||| 2 ^ k, Nat.or_lt_two_pow (Nat.lt_of_lt_of_le hb (Nat.pow_le_pow_right (by decide) (by omega))) (Nat.pow_lt_pow_right (by decide) (by omega)), nI_or _ _⟩
    · refine ⟨b, Nat.lt_of_lt_of_le hb (Nat.pow_le_pow_right (by decide) (by omega)), ?_⟩
      rw [show (0 : Int32) = nI 0 from rfl, nI_or, Nat.or_zero]
/-- the tasks taken from the set k, in the round v -/
def wSp (needs shows : Nat → Int32) (k : Nat) (v : Int32) : Nat → Nat → (Nat → Int32) → Nat → Int32
  | 0, _, f => f
  | m + 1, t, f => wSp needs shows k v m (t + 1) (if (needs t &&& (nI k ^^^ -1)) = 0 ∧ f ((nI k ||| shows t).toNatClampNeg) < 0 then upd f ((nI k ||| shows t).toNatClampNeg) (v + 1) else f)
/-- a round over the sets from k on: none where the wished skill is there; else whether there was a set of this round, and what is reached -/
def wK (needs shows : Nat → Int32) (T s : Nat) (v : Int32) : Nat → Nat → (Nat → Int32) → Int32 → Option (Int32 × (Nat → Int32))
  | 0, _, f, sm => some (sm, f)
  | m + 1, k, f, sm => if f k = v then (if (nI k >>> (nI s &&& 31)) &&& 1 = 1 then none else wK needs shows T s v m (k + 1) (wSp needs shows k v T 0 f) 1) else wK needs shows T s v m (k + 1) f sm
def wN (needs shows : Nat → Int32) (T s : Nat) : Nat → Nat → (Nat → Int32) → Int32
  | 0, _, _ => -1
  | m + 1, v, f => match wK needs shows T s (nI v) 256 0 f 0 with
    | none => nI v
    | some (sm, f2) => if sm = 0 then -1 else wN needs shows T s m (v + 1) f2
def wInit (b : Nat) : Nat → Int32 := upd (fun _ => -1) b 0
set_option maxHeartbeats 4000000 in
set_option maxRecDepth 20000 in
theorem rl_wSp {fx : px_F} {dd : Nat} {Q : px_Q} {al : Nat → Nat} {n : Nat} {g0 : Nat → px_O} {r : Nat} {sc : Nat → Int32} {ar : Nat → Nat → Int32} {l s v k T : Nat} {sm : Int32} (hk : k < 256) (hT : sc 30 = nI T) (h10 : T ≤ 10) (hsh : ∀ t, t < T → ∃ b, b < 256 ∧ ar 10 t = nI b) : ∀ (m t : Nat) (f : Nat → Int32), t + m = T → (pr fx (px_body pm_X10_wish) dd Q al n g0 r sc (va_up ar 19 (wSp (ar 9) (ar 10) k (nI v) m t f)) 191 [.ref (al r), .int (nI l), .int (nI s), .int (nI v), .int sm, .int (nI k), .int (nI T)] []) → pr fx (px_body pm_X10_wish) dd Q al n g0 r sc (va_up ar 19 f) 125 [.ref (al r), .int (nI l), .int (nI s), .int (nI v), .int sm, .int (nI k), .int (nI t)] []
  | 0, t, f, ht, kont => by
    obtain rfl : t = T := by omega
    refine pr_iload dX10_wish_125 rfl ?_
    refine pr_aload_n dX10_wish_127 rfl rfl ?_
    refine pr_getS (v := nI t) dX10_wish_128 fk_X10_245 rfl hT ?_
    refine pr_icmp_ge (tgt := 191) dX10_wish_131 (by decide) (fun c131 => ?_) (fun c131 => absurd (Int32.le_refl (nI t)) c131)
    exact kont
  | m + 1, t, f, ht, kont => by
    obtain ⟨b, hb1, hb2⟩ := hsh t (by omega)
    have hlt : k ||| b < 256 := Nat.or_lt_two_pow (n := 8) hk hb1
    have hor : nI k ||| ar 10 t = nI (k ||| b) := by rw [hb2]; exact nI_or _ _
    have hcl : (nI k ||| ar 10 t).toNatClampNeg = k ||| b := by rw [hor]; exact nI_clamp (by omega)
    rw [wSp, hcl] at kont
    refine pr_iload dX10_wish_125 rfl ?_
    refine pr_aload_n dX10_wish_127 rfl rfl ?_
    refine pr_getS (v := nI T) dX10_wish_128 fk_X10_245 rfl hT ?_
    refine pr_icmp_ge (tgt := 191) dX10_wish_131 (by decide) (fun c131 => absurd c131 (nI_ge (a := t) (b := T) (by omega) (by omega))) (fun c131 => ?_)
    refine pr_aload_n dX10_wish_134 rfl rfl ?_
    refine pr_getA dX10_wish_135 fk_X10_43 rfl ?_
    refine pr_iload dX10_wish_138 rfl ?_
    refine pr_iald (v := ar 9 t) (j := t) dX10_wish_140 (by decide) rfl rfl (by show t < 10; omega) (congrFun (va_up_ne _ _ (by decide)) t) ?_
    refine pr_iload dX10_wish_141 rfl ?_
    refine pr_iconst dX10_wish_143 (show Int32.ofInt (-1) = (-1) by decide) ?_
    refine pr_ixor dX10_wish_144 ?_
    refine pr_iand dX10_wish_145 ?_
    refine pr_if_ne (tgt := 185) dX10_wish_146 (by decide) (fun c146 => ?_) (fun c146 => ?_)
    ·
      refine pr_iinc dX10_wish_185 rfl (show Int32.ofInt (1) = (1) by decide) ?_
      refine pr_goto (tgt := 125) dX10_wish_188 (by decide) ?_
      rw [nI_1 t]
      first | (rw [if_pos ⟨c146, c1649⟩] at kont; exact rl_wSp hk hT h10 hsh m (t + 1) _ (by omega) kont) | (rw [if_neg (fun z => c146 z.1)] at kont; exact rl_wSp hk hT h10 hsh m (t + 1) _ (by omega) kont) | (rw [if_neg (fun z => Int32.not_le.mpr z.2 c164)] at kont; exact rl_wSp hk hT h10 hsh m (t + 1) _ (by omega) kont)
    ·
      refine pr_aload_n dX10_wish_149 rfl rfl ?_
      refine pr_getA dX10_wish_150 fk_X10_73 rfl ?_
      refine pr_iload dX10_wish_153 rfl ?_
      refine pr_aload_n dX10_wish_155 rfl rfl ?_
      refine pr_getA dX10_wish_156 fk_X10_46 rfl ?_
      refine pr_iload dX10_wish_159 rfl ?_
      refine pr_iald (v := ar 10 t) (j := t) dX10_wish_161 (by decide) rfl rfl (by show t < 10; omega) (congrFun (va_up_ne _ _ (by decide)) t) ?_
      refine pr_ior dX10_wish_162 ?_
      refine pr_iald (v := f (k ||| b)) (j := k ||| b) dX10_wish_163 (by decide) rfl hor hlt (congrFun (va_up_self _ _ _) _) ?_
      refine pr_if_ge (tgt := 185) dX10_wish_164 (by decide) (fun c164 => ?_) (fun c164 => ?_)
      ·
        have c1649 := Int32.not_lt.mpr c164
        refine pr_iinc dX10_wish_185 rfl (show Int32.ofInt (1) = (1) by decide) ?_
        refine pr_goto (tgt := 125) dX10_wish_188 (by decide) ?_
        rw [nI_1 t]
        first | (rw [if_pos ⟨c146, c1649⟩] at kont; exact rl_wSp hk hT h10 hsh m (t + 1) _ (by omega) kont) | (rw [if_neg (fun z => c146 z.1)] at kont; exact rl_wSp hk hT h10 hsh m (t + 1) _ (by omega) kont) | (rw [if_neg (fun z => Int32.not_le.mpr z.2 c164)] at kont; exact rl_wSp hk hT h10 hsh m (t + 1) _ (by omega) kont)
      ·
        have c1649 := Int32.not_le.mp c164
        refine pr_aload_n dX10_wish_167 rfl rfl ?_
        refine pr_getA dX10_wish_168 fk_X10_73 rfl ?_
        refine pr_iload dX10_wish_171 rfl ?_
        refine pr_aload_n dX10_wish_173 rfl rfl ?_
        refine pr_getA dX10_wish_174 fk_X10_46 rfl ?_
        refine pr_iload dX10_wish_177 rfl ?_
        refine pr_iald (v := ar 10 t) (j := t) dX10_wish_179 (by decide) rfl rfl (by show t < 10; omega) (congrFun (va_up_ne _ _ (by decide)) t) ?_
        refine pr_ior dX10_wish_180 ?_
        refine pr_iload_n dX10_wish_181 rfl ?_
        refine pr_iconst dX10_wish_182 (show Int32.ofInt (1) = (1) by decide) ?_
        refine pr_iadd dX10_wish_183 ?_
        refine pr_iast (j := k ||| b) dX10_wish_184 (by decide) rfl hor hlt ?_
        rw [va_up_self, bx_uu]
        refine pr_iinc dX10_wish_185 rfl (show Int32.ofInt (1) = (1) by decide) ?_
        refine pr_goto (tgt := 125) dX10_wish_188 (by decide) ?_
        rw [nI_1 t]
        first | (rw [if_pos ⟨c146, c1649⟩] at kont; exact rl_wSp hk hT h10 hsh m (t + 1) _ (by omega) kont) | (rw [if_neg (fun z => c146 z.1)] at kont; exact rl_wSp hk hT h10 hsh m (t + 1) _ (by omega) kont) | (rw [if_neg (fun z => Int32.not_le.mpr z.2 c164)] at kont; exact rl_wSp hk hT h10 hsh m (t + 1) _ (by omega) kont)
set_option maxHeartbeats 4000000 in
set_option maxRecDepth 20000 in
theorem rl_wK {fx : px_F} {dd : Nat} {Q : px_Q} {al : Nat → Nat} {n : Nat} {g0 : Nat → px_O} {r : Nat} {sc : Nat → Int32} {ar : Nat → Nat → Int32} {l s v T : Nat} (hs : s < 8) (hT : sc 30 = nI T) (h10 : T ≤ 10) (hsh : ∀ t, t < T → ∃ b, b < 256 ∧ ar 10 t = nI b) (F : Prop) (hfound : F → ∀ f ls, pr fx (px_body pm_X10_wish) dd Q al n g0 r sc (va_up ar 19 f) 118 ls [.int (nI v)]) (OUT : Int32 → (Nat → Int32) → Prop) (kont : ∀ f sm x5 x6, OUT sm f → pr fx (px_body pm_X10_wish) dd Q al n g0 r sc (va_up ar 19 f) 197 [.ref (al r), .int (nI l), .int (nI s), .int (nI v), .int sm, x5, x6] []) : ∀ (m k : Nat) (f : Nat → Int32) (sm : Int32) (x6 : Value), k + m = 256 → (∀ sm2 f2, wK (ar 9) (ar 10) T s (nI v) m k f sm = some (sm2, f2) → OUT sm2 f2) → (wK (ar 9) (ar 10) T s (nI v) m k f sm = none → F) → pr fx (px_body pm_X10_wish) dd Q al n g0 r sc (va_up ar 19 f) 85 [.ref (al r), .int (nI l), .int (nI s), .int (nI v), .int sm, .int (nI k), x6] []
  | 0, k, f, sm, x6, hk, ho, hn => by
    obtain rfl : k = 256 := by omega
    refine pr_iload dX10_wish_85 rfl ?_
    refine pr_sipush dX10_wish_87 (show (Int16.ofInt (256)).toInt32 = (256) by decide) ?_
    refine pr_icmp_ge (tgt := 197) dX10_wish_90 (by decide) (fun c90 => ?_) (fun c90 => absurd (show (256 : Int32) ≤ nI 256 by decide) c90)
    exact kont _ _ _ _ (ho _ _ rfl)
  | m + 1, k, f, sm, x6, hk, ho, hn => by
    have ih := rl_wK (l := l) hs hT h10 hsh F hfound OUT kont m (k + 1)
    rw [wK] at ho hn
    refine pr_iload dX10_wish_85 rfl ?_
    refine pr_sipush dX10_wish_87 (show (Int16.ofInt (256)).toInt32 = (256) by decide) ?_
    refine pr_icmp_ge (tgt := 197) dX10_wish_90 (by decide) (fun c90 => absurd c90 (nI_ge (a := k) (b := 256) (by omega) (by decide))) (fun c90 => ?_)
    refine pr_aload_n dX10_wish_93 rfl rfl ?_
    refine pr_getA dX10_wish_94 fk_X10_73 rfl ?_
    refine pr_iload dX10_wish_97 rfl ?_
    refine pr_iald (v := f k) (j := k) dX10_wish_99 (by decide) rfl rfl (by show k < 256; omega) (congrFun (va_up_self _ _ _) k) ?_
    refine pr_iload_n dX10_wish_100 rfl ?_
    refine pr_icmp_eq (tgt := 107) dX10_wish_101 (by decide) (fun c101 => ?_) (fun c101 => ?_)
    ·
      refine pr_iload dX10_wish_107 rfl ?_
      refine pr_iload_n dX10_wish_109 rfl ?_
      refine pr_ishr dX10_wish_110 ?_
      refine pr_iconst dX10_wish_111 (show Int32.ofInt (1) = (1) by decide) ?_
      refine pr_iand dX10_wish_112 ?_
      refine pr_iconst dX10_wish_113 (show Int32.ofInt (1) = (1) by decide) ?_
      refine pr_icmp_ne (tgt := 119) dX10_wish_114 (by decide) (fun c114 => ?_) (fun c114 => ?_)
      ·
        refine pr_iconst dX10_wish_119 (show Int32.ofInt (1) = (1) by decide) ?_
        refine pr_istore dX10_wish_120 (Nat.le_of_ble_eq_true rfl) ?_
        refine pr_iconst dX10_wish_122 (show Int32.ofInt (0) = (0) by decide) ?_
        refine pr_istore dX10_wish_123 (Nat.le_of_ble_eq_true rfl) ?_
        refine rl_wSp (by omega) hT h10 hsh T 0 f (Nat.zero_add T) ?_
        refine pr_iinc dX10_wish_191 rfl (show Int32.ofInt (1) = (1) by decide) ?_
        refine pr_goto (tgt := 85) dX10_wish_194 (by decide) ?_
        rw [nI_1 k]
        rw [if_pos c101, if_neg c114] at ho hn
        exact ih _ _ _ (by omega) ho hn
      ·
        refine pr_iload_n dX10_wish_117 rfl ?_
        rw [if_pos c101, if_pos c114] at hn
        exact hfound (hn rfl) _ _
    ·
      refine pr_goto (tgt := 191) dX10_wish_104 (by decide) ?_
      refine pr_iinc dX10_wish_191 rfl (show Int32.ofInt (1) = (1) by decide) ?_
      refine pr_goto (tgt := 85) dX10_wish_194 (by decide) ?_
      rw [nI_1 k]
      rw [if_neg c101] at ho hn
      exact ih _ _ _ (by omega) ho hn
set_option maxHeartbeats 4000000 in
set_option maxRecDepth 20000 in
theorem rl_wN {fx : px_F} {dd : Nat} {Q : px_Q} {al : Nat → Nat} {n : Nat} {g0 : Nat → px_O} {r : Nat} {sc : Nat → Int32} {ar : Nat → Nat → Int32} {l s T : Nat} (hs : s < 8) (hT : sc 30 = nI T) (h10 : T ≤ 10) (hsh : ∀ t, t < T → ∃ b, b < 256 ∧ ar 10 t = nI b) : ∀ (m v : Nat) (f : Nat → Int32) (x4 x5 x6 : Value), v + m = 256 → (∀ g2 f2, RR al n g2 r sc (va_up ar 19 f2) → rf_fr r g0 g2 → Q (.inl (some (.int (wN (ar 9) (ar 10) T s m v f)))) al n g2) → pr fx (px_body pm_X10_wish) dd Q al n g0 r sc (va_up ar 19 f) 72 [.ref (al r), .int (nI l), .int (nI s), .int (nI v), x4, x5, x6] []
  | 0, v, f, x4, x5, x6, hv, hQ9 => by
    obtain rfl : v = 256 := by omega
    have hQ := fun g2 => hQ9 g2 f
    refine pr_iload_n dX10_wish_72 rfl ?_
    refine pr_sipush dX10_wish_73 (show (Int16.ofInt (256)).toInt32 = (256) by decide) ?_
    refine pr_icmp_ge (tgt := 210) dX10_wish_76 (by decide) (fun c76 => ?_) (fun c76 => absurd (show (256 : Int32) ≤ nI 256 by decide) c76)
    refine pr_iconst dX10_wish_210 (show Int32.ofInt (-1) = (-1) by decide) ?_
    exact pr_iret hQ dX10_wish_211 rfl rfl rfl rfl rfl
  | m + 1, v, f, x4, x5, x6, hv, hQ9 => by
    rw [wN] at hQ9
    refine pr_iload_n dX10_wish_72 rfl ?_
    refine pr_sipush dX10_wish_73 (show (Int16.ofInt (256)).toInt32 = (256) by decide) ?_
    refine pr_icmp_ge (tgt := 210) dX10_wish_76 (by decide) (fun c76 => absurd c76 (nI_ge (a := v) (b := 256) (by omega) (by decide))) (fun c76 => ?_)
    refine pr_iconst dX10_wish_79 (show Int32.ofInt (0) = (0) by decide) ?_
    refine pr_istore dX10_wish_80 (Nat.le_of_ble_eq_true rfl) ?_
    refine pr_iconst dX10_wish_82 (show Int32.ofInt (0) = (0) by decide) ?_
    refine pr_istore dX10_wish_83 (Nat.le_of_ble_eq_true rfl) ?_
    cases hw : wK (ar 9) (ar 10) T s (nI v) 256 0 f 0 with
    | none =>
      rw [hw] at hQ9
      refine rl_wK (l := l) hs hT h10 hsh True (fun _ f2 ls => ?_) (fun _ _ => False) (fun _ _ _ _ z => z.elim) 256 0 f 0 _ rfl (fun sm2 f2 z => by rw [hw] at z; cases z) (fun _ => trivial)
      have hQ := fun g2 => hQ9 g2 f2
      exact pr_iret hQ dX10_wish_118 rfl rfl rfl rfl rfl
    | some q =>
      rw [hw] at hQ9
      obtain ⟨sm, f3⟩ := q
      dsimp only at hQ9
      refine rl_wK (l := l) hs hT h10 hsh False (fun z => z.elim) (fun sm2 f2 => sm2 = sm ∧ f2 = f3) (fun f2 sm2 y5 y6 z => ?_) 256 0 f 0 _ rfl (fun sm2 f2 z => by rw [hw] at z; cases z; exact ⟨rfl, rfl⟩) (fun z => by rw [hw] at z; cases z)
      · obtain ⟨rfl, rfl⟩ := z
        refine pr_iload dX10_wish_197 rfl ?_
        refine pr_if_ne (tgt := 204) dX10_wish_199 (by decide) (fun c199 => ?_) (fun c199 => ?_)
        ·
          refine pr_iinc dX10_wish_204 rfl (show Int32.ofInt (1) = (1) by decide) ?_
          refine pr_goto (tgt := 72) dX10_wish_207 (by decide) ?_
          rw [nI_1 v]
          rw [if_neg c199] at hQ9
          exact rl_wN hs hT h10 hsh m (v + 1) _ _ _ _ (by omega) hQ9
        ·
          refine pr_iconst dX10_wish_202 (show Int32.ofInt (-1) = (-1) by decide) ?_
          rw [if_pos c199] at hQ9
          have hQ := fun g2 => hQ9 g2 f2
          exact pr_iret hQ dX10_wish_203 rfl rfl rfl rfl rfl
