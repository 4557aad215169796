theorem IX_IX (sc : Nat → Int32) (a t s o h a2 t2 s2 o2 h2 : Int32) : IX (IX sc a t s o h) a2 t2 s2 o2 h2 = IX sc a2 t2 s2 o2 h2 := by
  funext k
  unfold IX
  split
  · rfl
  · split
    · rfl
    · split
      · rfl
      · split
        · rfl
        · split <;> rfl
theorem IX_id (sc : Nat → Int32) : IX sc (sc 21) (sc 22) (sc 23) (sc 25) (sc 24) = sc := by
  funext k
  unfold IX
  split
  · rename_i h; rw [h]
  · split
    · rename_i h; rw [h]
    · split
      · rename_i h; rw [h]
      · split
        · rename_i h; rw [h]
        · split
          · rename_i h; rw [h]
          · rfl
theorem wL_2 {E : (Nat → Int32) → Int32 → Option Int32 × Int32} {Bd : (Nat → Int32) → Nat → Int32 → StX} {wb : Int32} (hB : ∀ V t s, (Bd V t s).1 ≤ 2) : ∀ m V t s, (wL E Bd wb m V t s).1 ≤ 2
  | 0, V, t, s => Nat.le_refl _
  | m + 1, V, t, s => by
    rw [wL]
    split
    · exact Nat.le_refl _
    · cases h : (E V (s ||| wb)).1 with
      | none => rw [bX_n h]; exact Nat.le_succ 1
      | some v =>
        rw [bX_s h]
        split
        · exact Nat.zero_le _
        · by_cases h0 : (Bd V (t + 1) (E V (s ||| wb)).2).1 = 0
          · rw [nX_0 h0]; exact wL_2 hB m _ _ _
          · rw [nX_1 h0]; exact hB _ _ _
theorem dX_le2 (T : Nat → Int32) : ∀ f kd dp lp i V t s, (dX T f kd dp lp i V t s).1 ≤ 2
  | 0, _, _, _, _, _, _, _ => by rw [dX]; exact Nat.le_refl _
  | f + 1, 0, dp, lp, i, V, t, s => by
    rw [dX]
    by_cases h0 : (dX T f 1 dp lp i V t s).1 = 0
    · rw [nX_0 h0]
      split
      · exact dX_le2 T f 0 dp lp _ _ _ _
      · exact Nat.zero_le _
    · rw [nX_1 h0]; exact dX_le2 T f 1 dp lp i V t s
  | f + 1, 1, dp, lp, i, V, t, s => by
    rw [dX]
    split
    · exact wL_2 (fun V t s => dX_le2 T f 2 dp true _ V t s) _ _ _ _
    · split
      · exact Nat.le_refl _
      · split
        · cases h : (eX T V f 3 dp none (i + 1) (s ||| 32)).1 with
          | none => rw [bX_n h]; exact Nat.le_succ 1
          | some v =>
            rw [bX_s h]
            split
            · split
              · exact dX_le2 T f 2 dp lp _ _ _ _
              · exact Nat.zero_le _
            · exact dX_le2 T f 2 dp lp _ _ _ _
        · cases h : (eX T V f 3 dp none (i + 2) (s ||| 1)).1 with
          | none => rw [bX_n h]; exact Nat.le_succ 1
          | some v => rw [bX_s h]; exact Nat.zero_le _
  | f + 1, kd + 2, dp, lp, i, V, t, s => by
    rw [show dX T (f + 1) (kd + 2) dp lp i V t s = dX T f 0 (dp + 1) lp (i + 1) V t s from by rw [dX] <;> (intro z; omega)]
    exact dX_le2 T f 0 _ _ _ _ _ _
/-- the tries of a task's worlds from w on: where it failed, or the skills shown in all -/
def atL (m : Nat) (S A B R : Nat → Int32) : Nat → Nat → Int32 → Option Nat × Int32
  | 0, _, all => (none, all)
  | j + 1, w, all => if (runC m S (A w) (B w)).1 = 0 ∧ (runC m S (A w) (B w)).2.1 114 = R w then atL m S A B R j (w + 1) (all ||| (runC m S (A w) (B w)).2.2.2) else (some w, all)
def wA (Wd : Nat → Int32) (t q : Nat) : Nat → Int32 := fun w => Wd (3 * (6 * t + w) + q)
theorem atL_le {m : Nat} {S A B R : Nat → Int32} : ∀ j w all x, (atL m S A B R j w all).1 = some x → x < w + j
  | 0, _, _, _, h => by rw [atL] at h; cases h
  | j + 1, w, all, x, h => by
    rw [atL] at h
    split at h
    · have := atL_le j (w + 1) _ x h; omega
    · cases h; omega
set_option maxHeartbeats 4000000 in
set_option maxRecDepth 20000 in
theorem rl_attempt {fx : px_F} {Q : px_Q} {al : Nat → Nat} {n : Nat} {g0 : Nat → px_O} {r : Nat} {sc : Nat → Int32} {ar : Nat → Nat → Int32} {t l m W : Nat} {hd : Int32} (hm : okS sc ar m) (h0 : 0 < m) (ht : t < 10) (hW : W ≤ 6) (h11 : ar 11 t = nI W) : ∀ (j w : Nat) (all : Int32) (a1 t1 s1 o1 h1 : Int32) (V : Nat → Int32) (l6 : Value) (X : Option Nat × Int32), w + j = W → atL m (ar 3) (wA (ar 12) t 0) (wA (ar 12) t 1) (wA (ar 12) t 2) j w all = X → (∀ w2 a1 t1 s1 o1 h1 V g2, X.1 = some w2 → RR al n g2 r (IX sc a1 t1 s1 o1 h1) (va_up ar 8 V) → rf_fr r g0 g2 → Q (.inl (some (.int (nI (1 + w2))))) al n g2) → (∀ a1 t1 s1 o1 h1 V l6, X.1 = none → pr fx (px_body pm_X10_attempt) 1732 Q al n g0 r (IX sc a1 t1 s1 o1 h1) (va_up ar 8 V) 170 [.ref (al r), .int (nI t), .int (nI l), .int hd, .int X.2, .int (nI W), l6] []) → pr fx (px_body pm_X10_attempt) 1732 Q al n g0 r (IX sc a1 t1 s1 o1 h1) (va_up ar 8 V) 82 [.ref (al r), .int (nI t), .int (nI l), .int hd, .int all, .int (nI w), l6] []
  | 0, w, all, a1, t1, s1, o1, h1, V, l6, X, hw, hX, hF, hK => by
    obtain rfl : w = W := by omega
    rw [atL] at hX
    subst hX
    refine pr_iload dX10_attempt_82 rfl ?_
    refine pr_aload_n dX10_attempt_84 rfl rfl ?_
    refine pr_getA dX10_attempt_85 fk_X10_49 rfl ?_
    refine pr_iload_n dX10_attempt_88 rfl ?_
    refine pr_iald (v := (nI w)) (j := t) dX10_attempt_89 (by decide) rfl rfl (by show t < 10; omega) h11 ?_
    refine pr_icmp_ge (tgt := 170) dX10_attempt_90 (by decide) (fun c90 => ?_) (fun c90 => absurd (Int32.le_refl _) c90)
    exact hK _ _ _ _ _ _ _ rfl
  | j + 1, w, all, a1, t1, s1, o1, h1, V, l6, X, hw, hX, hF, hK => by
    rw [atL] at hX
    have hmX : okS (IX sc a1 t1 s1 o1 h1) (va_up ar 8 V) m := hm
    have hx2 := dX_le2 (tz m (ar 3)) 860 0 0 false 0 (vS V (wA (ar 12) t 0 w) (wA (ar 12) t 1 w)) 0 0
    have hE := runX_eq m (ar 3) V (wA (ar 12) t 0 w) (wA (ar 12) t 1 w)
    refine pr_iload dX10_attempt_82 rfl ?_
    refine pr_aload_n dX10_attempt_84 rfl rfl ?_
    refine pr_getA dX10_attempt_85 fk_X10_49 rfl ?_
    refine pr_iload_n dX10_attempt_88 rfl ?_
    refine pr_iald (v := (nI W)) (j := t) dX10_attempt_89 (by decide) rfl rfl (by show t < 10; omega) h11 ?_
    refine pr_icmp_ge (tgt := 170) dX10_attempt_90 (by decide) (fun c90 => absurd c90 (Int32.not_le.mpr (nI_lt (by omega) (by omega)))) (fun c90 => ?_)
    refine pr_iconst dX10_attempt_93 (show Int32.ofInt (3) = (3) by decide) ?_
    refine pr_bipush dX10_attempt_94 (show (Int8.ofInt (6)).toInt32 = (6) by decide) ?_
    refine pr_iload_n dX10_attempt_96 rfl ?_
    refine pr_imul dX10_attempt_97 ?_
    refine pr_iload dX10_attempt_98 rfl ?_
    refine pr_iadd dX10_attempt_100 ?_
    refine pr_imul dX10_attempt_101 ?_
    rw [show (3 : Int32) * (6 * nI t + nI w) = nI (3 * (6 * t + w)) from by rw [show (6 : Int32) * nI t + nI w = nI (6 * t + w) from ix_mul 6 t w]; exact pk_mul 3 _]
    refine pr_istore dX10_attempt_102 (Nat.le_of_ble_eq_true rfl) ?_
    refine pr_aload_n dX10_attempt_104 rfl rfl ?_
    refine pr_aload_n dX10_attempt_105 rfl rfl ?_
    refine pr_getA dX10_attempt_106 fk_X10_52 rfl ?_
    refine pr_iload dX10_attempt_109 rfl ?_
    refine pr_iald (v := (wA (ar 12) t 0 w)) (j := 3 * (6 * t + w)) dX10_attempt_111 (by decide) rfl rfl (by show _ < 180; omega) rfl ?_
    refine pr_aload_n dX10_attempt_112 rfl rfl ?_
    refine pr_getA dX10_attempt_113 fk_X10_52 rfl ?_
    refine pr_iload dX10_attempt_116 rfl ?_
    refine pr_iconst dX10_attempt_118 (show Int32.ofInt (1) = (1) by decide) ?_
    refine pr_iadd dX10_attempt_119 ?_
    refine pr_iald (v := (wA (ar 12) t 1 w)) (j := 3 * (6 * t + w) + 1) dX10_attempt_120 (by decide) rfl (nI_add (3 * (6 * t + w)) 1) (by show _ < 180; omega) rfl ?_
    refine pr_callP dX10_attempt_121 cl_X10_241 (rp_runs (wA (ar 12) t 0 w) (wA (ar 12) t 1 w) hmX h0) rfl rfl (Nat.le_of_ble_eq_true rfl) ⟨rfl, rfl⟩ (fun res sc2 ar2 hn => ?_)
    obtain ⟨rfl, rfl, a0, o, rfl⟩ := hn.flat
    rw [IX_IX, va_val]
    refine pr_aload_n dX10_attempt_124 rfl rfl ?_
    refine pr_getS (v := nI (runX m (ar 3) V (wA (ar 12) t 0 w) (wA (ar 12) t 1 w)).1) dX10_attempt_125 fk_X10_197 rfl rfl ?_
    refine pr_if_ne (tgt := 150) dX10_attempt_128 (by decide) (fun c128 => ?_) (fun c128 => ?_)
    ·
      refine pr_iconst dX10_attempt_150 (show Int32.ofInt (1) = (1) by decide) ?_
      refine pr_iload dX10_attempt_151 rfl ?_
      refine pr_iadd dX10_attempt_153 ?_
      rw [if_neg (fun z => c128 (by rw [hE.1, z.1]; rfl))] at hX
      rw [show (1 : Int32) + nI w = nI (1 + w) from nI_add 1 w]
      subst hX
      exact fun g hR hF9 => pg_iret dX10_attempt_154 rfl rfl (Nat.zero_le _) (Nat.zero_le _) (hF w _ _ _ _ _ _ g rfl hR hF9)
    ·
      refine pr_aload_n dX10_attempt_131 rfl rfl ?_
      refine pr_getA dX10_attempt_132 fk_X10_40 rfl ?_
      refine pr_bipush dX10_attempt_135 (show (Int8.ofInt (114)).toInt32 = (114) by decide) ?_
      refine pr_iald (v := ((runX m (ar 3) V (wA (ar 12) t 0 w) (wA (ar 12) t 1 w)).2.1 114)) (j := 114) dX10_attempt_137 (by decide) rfl rfl (by decide) rfl ?_
      refine pr_aload_n dX10_attempt_138 rfl rfl ?_
      refine pr_getA dX10_attempt_139 fk_X10_52 rfl ?_
      refine pr_iload dX10_attempt_142 rfl ?_
      refine pr_iconst dX10_attempt_144 (show Int32.ofInt (2) = (2) by decide) ?_
      refine pr_iadd dX10_attempt_145 ?_
      refine pr_iald (v := (wA (ar 12) t 2 w)) (j := 3 * (6 * t + w) + 2) dX10_attempt_146 (by decide) rfl (nI_add (3 * (6 * t + w)) 2) (by show _ < 180; omega) rfl ?_
      refine pr_icmp_eq (tgt := 155) dX10_attempt_147 (by decide) (fun c147 => ?_) (fun c147 => ?_)
      ·
        have hx1 : (runX m (ar 3) V (wA (ar 12) t 0 w) (wA (ar 12) t 1 w)).1 = 0 := by
          have hd2 : (runX m (ar 3) V (wA (ar 12) t 0 w) (wA (ar 12) t 1 w)).1 ≤ 2 := hx2
          exact (nI_eq (a := (runX m (ar 3) V (wA (ar 12) t 0 w) (wA (ar 12) t 1 w)).1) (b := 0) (by omega) (by decide)).mp c128
        rw [if_pos ⟨hE.1 ▸ hx1, hE.r ▸ c147⟩, ← congrArg Prod.snd hE.2.2] at hX
        refine pr_iload dX10_attempt_155 rfl ?_
        refine pr_aload_n dX10_attempt_157 rfl rfl ?_
        refine pr_getS (v := (runX m (ar 3) V (wA (ar 12) t 0 w) (wA (ar 12) t 1 w)).2.2.2) dX10_attempt_158 fk_X10_216 rfl rfl ?_
        refine pr_ior dX10_attempt_161 ?_
        refine pr_istore dX10_attempt_162 (Nat.le_of_ble_eq_true rfl) ?_
        refine pr_iinc dX10_attempt_164 rfl (show Int32.ofInt (1) = (1) by decide) ?_
        refine pr_goto (tgt := 82) dX10_attempt_167 (by decide) ?_
        rw [nI_1]
        exact rl_attempt hm h0 ht hW h11 j (w + 1) _ _ _ _ _ _ _ _ X (by omega) hX hF hK
      ·
        refine pr_iconst dX10_attempt_150 (show Int32.ofInt (1) = (1) by decide) ?_
        refine pr_iload dX10_attempt_151 rfl ?_
        refine pr_iadd dX10_attempt_153 ?_
        rw [if_neg (fun z => c147 (hE.r.trans z.2))] at hX
        rw [show (1 : Int32) + nI w = nI (1 + w) from nI_add 1 w]
        subst hX
        exact fun g hR hF9 => pg_iret dX10_attempt_154 rfl rfl (Nat.zero_le _) (Nat.zero_le _) (hF w _ _ _ _ _ _ g rfl hR hF9)
theorem sc_min (d : Nat) (x y : Int32) : SC (d + 1) 162 [.int x, .int y] (some (.int (if y < x then y else x))) := fc_min d x y
/-- what a pass adds to what a learner can -/
def cnS (C : Nat → Int32) (l : Nat) (all by_ : Int32) : Nat → Nat → Int32
  | 0 => C
  | k + 1 => if (all >>> (nI k &&& 31)) &&& 1 = 1 then upd (cnS C l all by_ k) (8 * l + k) (if cnS C l all by_ k (8 * l + k) + by_ < 64 then cnS C l all by_ k (8 * l + k) + by_ else 64) else cnS C l all by_ k
theorem cnS_0 (C : Nat → Int32) (l : Nat) (all b : Int32) : cnS C l all b 0 = C := rfl
def psR (ar : Nat → Nat → Int32) (t l m : Nat) (all by_ : Int32) : Nat → Nat → Int32 := if 0 < ar 16 (10 * l + t) then ar else va_up (va_up (va_up ar 16 (upd (ar 16) (10 * l + t) (nI m))) 17 (wyS (ar 17) (fun i => shp (ar 3) 0 m i) (120 * (10 * l + t)) m)) 18 (cnS (ar 18) l all by_ 8)
set_option maxHeartbeats 4000000 in
set_option maxRecDepth 20000 in
theorem rl_atcan {fx : px_F} {dd : Nat} {Q : px_Q} {al : Nat → Nat} {n : Nat} {g0 : Nat → px_O} {r : Nat} {sc : Nat → Int32} {ar : Nat → Nat → Int32} {t l : Nat} {hd all : Int32} {l5 : Value} (hl : l < 8) (hQ : ∀ g2, RR al n g2 r sc (va_up ar 18 (cnS (ar 18) l all (if hd = 0 then 16 else 4) 8)) → rf_fr r g0 g2 → Q (.inl (some (.int 0))) al n g2) : ∀ (mm k : Nat), k + mm = 8 → pr fx (px_body pm_X10_attempt) (dd + 1) Q al n g0 r sc (va_up ar 18 (cnS (ar 18) l all (if hd = 0 then 16 else 4) k)) 264 [.ref (al r), .int (nI t), .int (nI l), .int hd, .int all, l5, .int (nI k)] []
  | 0, k, hk => by
    obtain rfl : k = 8 := by omega
    refine pr_iload dX10_attempt_264 rfl ?_
    refine pr_bipush dX10_attempt_266 (show (Int8.ofInt (8)).toInt32 = (8) by decide) ?_
    refine pr_icmp_ge (tgt := 328) dX10_attempt_268 (by decide) (fun c268 => ?_) (fun c268 => absurd (show (8 : Int32) ≤ nI 8 by decide) c268)
    refine pr_iconst dX10_attempt_328 (show Int32.ofInt (0) = (0) by decide) ?_
    exact pr_iret hQ dX10_attempt_329 rfl rfl rfl rfl rfl
  | mm + 1, k, hk => by
    have ih := rl_atcan (fx := fx) (dd := dd) (t := t) (l5 := l5) hl hQ mm (k + 1) (by omega)
    rw [cnS] at ih
    refine pr_iload dX10_attempt_264 rfl ?_
    refine pr_bipush dX10_attempt_266 (show (Int8.ofInt (8)).toInt32 = (8) by decide) ?_
    refine pr_icmp_ge (tgt := 328) dX10_attempt_268 (by decide) (fun c268 => absurd c268 (nI_ge (a := k) (b := 8) (by omega) (by decide))) (fun c268 => ?_)
    refine pr_iload dX10_attempt_271 rfl ?_
    refine pr_iload dX10_attempt_273 rfl ?_
    refine pr_ishr dX10_attempt_275 ?_
    refine pr_iconst dX10_attempt_276 (show Int32.ofInt (1) = (1) by decide) ?_
    refine pr_iand dX10_attempt_277 ?_
    refine pr_iconst dX10_attempt_278 (show Int32.ofInt (1) = (1) by decide) ?_
    refine pr_icmp_ne (tgt := 322) dX10_attempt_279 (by decide) (fun c279 => ?_) (fun c279 => ?_)
    ·
      refine pr_iinc dX10_attempt_322 rfl (show Int32.ofInt (1) = (1) by decide) ?_
      refine pr_goto (tgt := 264) dX10_attempt_325 (by decide) ?_
      rw [if_neg c279] at ih
      rw [nI_1]
      exact ih
    ·
      rw [if_pos c279] at ih
      refine pr_aload_n dX10_attempt_282 rfl rfl ?_
      refine pr_getA dX10_attempt_283 fk_X10_70 rfl ?_
      refine pr_bipush dX10_attempt_286 (show (Int8.ofInt (8)).toInt32 = (8) by decide) ?_
      refine pr_iload_n dX10_attempt_288 rfl ?_
      refine pr_imul dX10_attempt_289 ?_
      refine pr_iload dX10_attempt_290 rfl ?_
      refine pr_iadd dX10_attempt_292 ?_
      refine pr_bipush dX10_attempt_293 (show (Int8.ofInt (64)).toInt32 = (64) by decide) ?_
      refine pr_aload_n dX10_attempt_295 rfl rfl ?_
      refine pr_getA dX10_attempt_296 fk_X10_70 rfl ?_
      refine pr_bipush dX10_attempt_299 (show (Int8.ofInt (8)).toInt32 = (8) by decide) ?_
      refine pr_iload_n dX10_attempt_301 rfl ?_
      refine pr_imul dX10_attempt_302 ?_
      refine pr_iload dX10_attempt_303 rfl ?_
      refine pr_iadd dX10_attempt_305 ?_
      refine pr_iald (v := (cnS (ar 18) l all (if hd = 0 then 16 else 4) k (8 * l + k))) (j := 8 * l + k) dX10_attempt_306 (by decide) rfl (ix_mul 8 l k) (by show 8 * l + k < 64; omega) rfl ?_
      refine pr_iload_n dX10_attempt_307 rfl ?_
      refine pr_if_eq (tgt := 315) dX10_attempt_308 (by decide) (fun c308 => ?_) (fun c308 => ?_)
      ·
        refine pr_bipush dX10_attempt_315 (show (Int8.ofInt (16)).toInt32 = (16) by decide) ?_
        rw [if_pos c308] at ih ⊢
        refine pr_iadd dX10_attempt_317 ?_
        refine pr_callSC dX10_attempt_318 cl_X10_270 (sc_min dd 64 ((cnS (ar 18) l all 16 k (8 * l + k)) + 16)) rfl rfl (Nat.le_of_ble_eq_true rfl) ⟨rfl, rfl⟩ ?_
        refine pr_iast (j := 8 * l + k) dX10_attempt_321 (by decide) rfl (ix_mul 8 l k) (by show 8 * l + k < 64; omega) ?_
        rw [va_3]
        refine pr_iinc dX10_attempt_322 rfl (show Int32.ofInt (1) = (1) by decide) ?_
        refine pr_goto (tgt := 264) dX10_attempt_325 (by decide) ?_
        rw [nI_1]
        exact ih
      ·
        refine pr_iconst dX10_attempt_311 (show Int32.ofInt (4) = (4) by decide) ?_
        refine pr_goto (tgt := 317) dX10_attempt_312 (by decide) ?_
        rw [if_neg c308] at ih ⊢
        refine pr_iadd dX10_attempt_317 ?_
        refine pr_callSC dX10_attempt_318 cl_X10_270 (sc_min dd 64 ((cnS (ar 18) l all 4 k (8 * l + k)) + 4)) rfl rfl (Nat.le_of_ble_eq_true rfl) ⟨rfl, rfl⟩ ?_
        refine pr_iast (j := 8 * l + k) dX10_attempt_321 (by decide) rfl (ix_mul 8 l k) (by show 8 * l + k < 64; omega) ?_
        rw [va_3]
        refine pr_iinc dX10_attempt_322 rfl (show Int32.ofInt (1) = (1) by decide) ?_
        refine pr_goto (tgt := 264) dX10_attempt_325 (by decide) ?_
        rw [nI_1]
        exact ih
set_option maxHeartbeats 4000000 in
set_option maxRecDepth 20000 in
theorem rl_atps {fx : px_F} {dd : Nat} {Q : px_Q} {al : Nat → Nat} {n : Nat} {g0 : Nat → px_O} {r : Nat} {sc : Nat → Int32} {ar : Nat → Nat → Int32} {t l p m : Nat} {hd all : Int32} (hm : sc 16 = nI m) (hm2 : m ≤ 120) (hp : p < 80) (kk : pr fx (px_body pm_X10_attempt) (dd + 1) Q al n g0 r sc (va_up ar 17 (wyS (ar 17) (fun i => shp (ar 3) 0 m i) (120 * p) m)) 261 [.ref (al r), .int (nI t), .int (nI l), .int hd, .int all, .int (nI p), .int (nI m)] []) : ∀ (mm k : Nat), k + mm = m → pr fx (px_body pm_X10_attempt) (dd + 1) Q al n g0 r sc (va_up ar 17 (wyS (ar 17) (fun i => shp (ar 3) 0 m i) (120 * p) k)) 219 [.ref (al r), .int (nI t), .int (nI l), .int hd, .int all, .int (nI p), .int (nI k)] []
  | 0, k, hk => by
    obtain rfl : k = m := by omega
    refine pr_iload dX10_attempt_219 rfl ?_
    refine pr_aload_n dX10_attempt_221 rfl rfl ?_
    refine pr_getS (v := nI k) dX10_attempt_222 fk_X10_184 rfl hm ?_
    refine pr_icmp_ge (tgt := 261) dX10_attempt_225 (by decide) (fun c225 => ?_) (fun c225 => absurd (Int32.le_refl _) c225)
    exact kk
  | mm + 1, k, hk => by
    have ih := rl_atps hm hm2 hp kk mm (k + 1) (by omega)
    rw [← wyS_1] at ih
    refine pr_iload dX10_attempt_219 rfl ?_
    refine pr_aload_n dX10_attempt_221 rfl rfl ?_
    refine pr_getS (v := nI m) dX10_attempt_222 fk_X10_184 rfl hm ?_
    refine pr_icmp_ge (tgt := 261) dX10_attempt_225 (by decide) (fun c225 => absurd c225 (Int32.not_le.mpr (nI_lt (by omega) (by omega)))) (fun c225 => ?_)
    refine pr_aload_n dX10_attempt_228 rfl rfl ?_
    refine pr_getA dX10_attempt_229 fk_X10_67 rfl ?_
    refine pr_bipush dX10_attempt_232 (show (Int8.ofInt (120)).toInt32 = (120) by decide) ?_
    refine pr_iload dX10_attempt_234 rfl ?_
    refine pr_imul dX10_attempt_236 ?_
    refine pr_iload dX10_attempt_237 rfl ?_
    refine pr_iadd dX10_attempt_239 ?_
    refine pr_aload_n dX10_attempt_240 rfl rfl ?_
    refine pr_getA dX10_attempt_241 fk_X10_24 rfl ?_
    refine pr_iconst dX10_attempt_244 (show Int32.ofInt (0) = (0) by decide) ?_
    refine pr_aload_n dX10_attempt_245 rfl rfl ?_
    refine pr_getS (v := nI m) dX10_attempt_246 fk_X10_184 rfl hm ?_
    refine pr_iload dX10_attempt_249 rfl ?_
    refine pr_callRS (As := fun al r => [.ref (al (r + 1 + 3)), .int (nI 0), .int (nI m), .int (nI k)]) dX10_attempt_251 cl_X10_251 (rs_shaped dd sc _ (a := 3) (fr := 0) (by decide) rfl (by show 0 + m ≤ 120; omega) (by decide) (by omega)) rfl rfl (Nat.le_of_ble_eq_true rfl) ⟨rfl, rfl⟩ ?_
    refine pr_iast (j := 120 * p + k) dX10_attempt_254 (by decide) rfl (ix_mul 120 p k) (by show 120 * p + k < 9600; omega) ?_
    rw [va_3]
    refine pr_iinc dX10_attempt_255 rfl (show Int32.ofInt (1) = (1) by decide) ?_
    refine pr_goto (tgt := 219) dX10_attempt_258 (by decide) ?_
    rw [nI_1]
    exact ih
set_option maxHeartbeats 4000000 in
set_option maxRecDepth 20000 in
theorem kpR_ne (ar : Nat → Nat → Int32) (t m Y : Nat) {a : Nat} (h13 : a ≠ 13) (h14 : a ≠ 14) (h15 : a ≠ 15) : kpR ar t m Y a = ar a := by
  unfold kpR
  split
  · rfl
  · unfold kpA; rw [va_up_ne _ _ h13, va_up_ne _ _ h15, va_up_ne _ _ h14]
theorem rl_attail {fx : px_F} {dd : Nat} {Q : px_Q} {al : Nat → Nat} {n : Nat} {g0 : Nat → px_O} {r : Nat} {sc : Nat → Int32} {ar : Nat → Nat → Int32} {t l m Y : Nat} {hd all : Int32} {l5 l6 : Value} (hm : sc 16 = nI m) (hm2 : m ≤ 120) (ht : t < 10) (hl : l < 8) (hY : Y ≤ 10) (h13 : ar 13 t = nI Y) (hQ : ∀ g2, RR al n g2 r (upd sc 32 (sc 32 + 1)) (psR (kpR ar t m Y) t l m all (if hd = 0 then 16 else 4)) → rf_fr r g0 g2 → Q (.inl (some (.int 0))) al n g2) : pr fx (px_body pm_X10_attempt) (dd + 3) Q al n g0 r sc ar 170 [.ref (al r), .int (nI t), .int (nI l), .int hd, .int all, l5, l6] [] := by
  unfold psR at hQ
  refine pr_aload_n dX10_attempt_170 rfl rfl ?_
  refine pr_dup dX10_attempt_171 rfl ?_
  refine pr_getS (v := sc 32) dX10_attempt_172 fk_X10_264 rfl rfl ?_
  refine pr_iconst dX10_attempt_175 (show Int32.ofInt (1) = (1) by decide) ?_
  refine pr_iadd dX10_attempt_176 ?_
  refine pr_put dX10_attempt_177 fk_X10_264 rfl ⟨_, _, _, rfl, rfl⟩ rfl rfl ?_
  refine pr_aload_n dX10_attempt_180 rfl rfl ?_
  refine pr_iload_n dX10_attempt_181 rfl ?_
  refine pr_call dX10_attempt_182 cl_X10_267 (rc_keeps dd (upd sc 32 (sc 32 + 1)) ar hm hm2 ht hY h13) rfl rfl (Nat.le_of_ble_eq_true rfl) ⟨rfl, rfl⟩ ?_
  refine pr_bipush dX10_attempt_185 (show (Int8.ofInt (10)).toInt32 = (10) by decide) ?_
  refine pr_iload_n dX10_attempt_187 rfl ?_
  refine pr_imul dX10_attempt_188 ?_
  refine pr_iload_n dX10_attempt_189 rfl ?_
  refine pr_iadd dX10_attempt_190 ?_
  rw [show (10 : Int32) * nI l + nI t = nI (10 * l + t) from ix_mul 10 l t]
  refine pr_istore dX10_attempt_191 (Nat.le_of_ble_eq_true rfl) ?_
  refine pr_aload_n dX10_attempt_193 rfl rfl ?_
  refine pr_getA dX10_attempt_194 fk_X10_64 rfl ?_
  refine pr_iload dX10_attempt_197 rfl ?_
  refine pr_iald (v := (kpR ar t m Y 16 (10 * l + t))) (j := 10 * l + t) dX10_attempt_199 (by decide) rfl rfl (by show 10 * l + t < 80; omega) rfl ?_
  refine pr_if_le (tgt := 205) dX10_attempt_200 (by decide) (fun c200 => ?_) (fun c200 => ?_)
  ·
    have c2009 := Int32.not_lt.mpr c200
    rw [if_neg (Int32.not_lt.mpr c200)] at hQ
    refine pr_aload_n dX10_attempt_205 rfl rfl ?_
    refine pr_getA dX10_attempt_206 fk_X10_64 rfl ?_
    refine pr_iload dX10_attempt_209 rfl ?_
    refine pr_aload_n dX10_attempt_211 rfl rfl ?_
    refine pr_getS (v := nI m) dX10_attempt_212 fk_X10_184 rfl hm ?_
    refine pr_iast (j := 10 * l + t) dX10_attempt_215 (by decide) rfl rfl (by show 10 * l + t < 80; omega) ?_
    refine pr_iconst dX10_attempt_216 (show Int32.ofInt (0) = (0) by decide) ?_
    refine pr_istore dX10_attempt_217 (Nat.le_of_ble_eq_true rfl) ?_
    have key := rl_atps (fx := fx) (dd := dd + 2) (Q := Q) (al := al) (n := n) (g0 := g0) (r := r) (sc := upd sc 32 (sc 32 + 1)) (ar := va_up (kpR ar t m Y) 16 (upd (kpR ar t m Y 16) (10 * l + t) (nI m))) (t := t) (l := l) (p := 10 * l + t) (m := m) (hd := hd) (all := all) hm hm2 (by omega) ?_ m 0 (by omega)
    · rw [wyS_0, va_id] at key
      exact key
    · refine pr_iconst dX10_attempt_261 (show Int32.ofInt (0) = (0) by decide) ?_
      refine pr_istore dX10_attempt_262 (Nat.le_of_ble_eq_true rfl) ?_
      have key := rl_atcan (fx := fx) (dd := dd + 2) (Q := Q) (al := al) (n := n) (g0 := g0) (r := r) (sc := upd sc 32 (sc 32 + 1)) (ar := va_up (va_up (kpR ar t m Y) 16 (upd (kpR ar t m Y 16) (10 * l + t) (nI m))) 17 (wyS (kpR ar t m Y 17) (fun i => shp (kpR ar t m Y 3) 0 m i) (120 * (10 * l + t)) m)) (t := t) (l := l) (hd := hd) (all := all) (l5 := .int (nI (10 * l + t))) hl hQ 8 0 (by omega)
      rw [cnS_0, va_id] at key
      exact key
  ·
    have c2009 := Int32.not_le.mp c200
    refine pr_iconst dX10_attempt_203 (show Int32.ofInt (0) = (0) by decide) ?_
    rw [if_pos (Int32.not_le.mp c200)] at hQ
    exact pr_iret hQ dX10_attempt_204 rfl rfl rfl rfl rfl
set_option maxHeartbeats 4000000 in
set_option maxRecDepth 20000 in
theorem rc_attempt_none (sc : Nat → Int32) (ar : Nat → Nat → Int32) {t l m : Nat} (hd : Int32) {T : Nat} (hT : sc 30 = nI T) (h10 : T ≤ 10)  (ht : t < T) (hl : l < 8) (hm : okS sc ar m) (h0 : 0 < m) (h11 : ar 11 t = 0) : RC (1733) 135 [.int (nI t), .int (nI l), .int hd] sc ar (some (.int (-1))) (upd sc 0 0) (ar) := by
  refine RC.of pm_X10_attempt rfl rfl (Nat.le_of_ble_eq_true rfl) ?_
  intro fx al n g0 r Q hQ
  show pr fx (px_body pm_X10_attempt) (1732) Q al n g0 r sc ar 0 [.ref (al r), .int (nI t), .int (nI l), .int hd, .float 0, .float 0, .float 0] []
  refine pr_aload_n dX10_attempt_0 rfl rfl ?_
  refine pr_iconst dX10_attempt_1 (show Int32.ofInt (0) = (0) by decide) ?_
  refine pr_put dX10_attempt_2 fk_X10_79 rfl ⟨_, _, _, rfl, rfl⟩ rfl rfl ?_
  refine pr_aload_n dX10_attempt_5 rfl rfl ?_
  refine pr_aload_n dX10_attempt_6 rfl rfl ?_
  refine pr_iload_n dX10_attempt_7 rfl ?_
  refine pr_call dX10_attempt_8 cl_X10_248 (rc_noTask_f 1730 (sc := upd sc 0 0) ar (T := T) hT h10 ht) rfl rfl (Nat.le_of_ble_eq_true rfl) ⟨rfl, rfl⟩ ?_
  refine pr_if_ne (tgt := 21) dX10_attempt_11 (by decide) (fun c11 => absurd c11 (by decide)) (fun _ => ?_)
  refine pr_iload_n dX10_attempt_14 rfl ?_
  refine pr_callSC dX10_attempt_15 cl_X10_258 (rc_noLearner_f 1730 hl) rfl rfl (Nat.le_of_ble_eq_true rfl) ⟨rfl, rfl⟩ ?_
  refine pr_if_eq (tgt := 25) dX10_attempt_18 (by decide) (fun _ => ?_) (fun c18 => absurd c18 (by decide))
  refine pr_iconst dX10_attempt_25 (show Int32.ofInt (0) = (0) by decide) ?_
  refine pr_iconst dX10_attempt_26 (show Int32.ofInt (1) = (1) by decide) ?_
  refine pr_call dX10_attempt_27 cl_X10_180 (rc_throwsIf_f _ _ _ _) rfl rfl (Nat.le_of_ble_eq_true rfl) ⟨rfl, rfl⟩ ?_
  refine pr_if_ne (tgt := 53) dX10_attempt_30 (by decide) (fun c30 => absurd c30 (by decide)) (fun _ => ?_)
  refine pr_aload_n dX10_attempt_33 rfl rfl ?_
  refine pr_aload_n dX10_attempt_34 rfl rfl ?_
  refine pr_getS (v := nI m) dX10_attempt_35 fk_X10_184 rfl hm.1 ?_
  refine pr_if_ne (tgt := 45) dX10_attempt_38 (by decide) (fun c38 => ?_) (fun c38 => absurd c38 (nI_ne0 h0 (by have := hm.2.1; omega)))
  refine pr_iconst dX10_attempt_45 (show Int32.ofInt (0) = (0) by decide) ?_
  refine pr_iconst dX10_attempt_46 (show Int32.ofInt (2) = (2) by decide) ?_
  refine pr_call dX10_attempt_47 cl_X10_180 (rc_throwsIf_f _ _ _ _) rfl rfl (Nat.le_of_ble_eq_true rfl) ⟨rfl, rfl⟩ ?_
  refine pr_if_eq (tgt := 55) dX10_attempt_50 (by decide) (fun _ => ?_) (fun c50 => absurd c50 (by decide))
  refine pr_aload_n dX10_attempt_55 rfl rfl ?_
  refine pr_getA dX10_attempt_56 fk_X10_49 rfl ?_
  refine pr_iload_n dX10_attempt_59 rfl ?_
  refine pr_iald (v := 0) (j := t) dX10_attempt_60 (by decide) rfl rfl (by show t < 10; omega) h11 ?_
  refine pr_if_ne (tgt := 66) dX10_attempt_61 (by decide) (fun c61 => absurd c61 (fun z => z rfl)) (fun c61 => ?_)
  refine pr_iconst dX10_attempt_64 (show Int32.ofInt (-1) = (-1) by decide) ?_
  exact pr_iret hQ dX10_attempt_65 rfl rfl rfl rfl rfl
set_option maxHeartbeats 4000000 in
set_option maxRecDepth 20000 in
theorem rp_attempt_ok (sc : Nat → Int32) (ar : Nat → Nat → Int32) {t l m : Nat} (hd : Int32) {T : Nat} (hT : sc 30 = nI T) (h10 : T ≤ 10) {W : Nat} (ht : t < T) (hl : l < 8) (hm : okS sc ar m) (h0 : 0 < m) (hW : W ≤ 6) (h11 : ar 11 t = nI W) (hW0 : 0 < W) {Y : Nat} (hY : Y ≤ 10) (h13 : ar 13 t = nI Y) : RP (1733) 135 [.int (nI t), .int (nI l), .int hd] sc ar (fun res sc2 ar2 => (∃ w, (atL m (ar 3) (wA (ar 12) t 0) (wA (ar 12) t 1) (wA (ar 12) t 2) W 0 0).1 = some w ∧ res = some (.int (nI (1 + w))) ∧ ∃ a1 t1 s1 o1 h1 V, sc2 = IX (upd (upd sc 0 0) 31 (sc 31 + 1)) a1 t1 s1 o1 h1 ∧ ar2 = va_up ar 8 V) ∨ ((atL m (ar 3) (wA (ar 12) t 0) (wA (ar 12) t 1) (wA (ar 12) t 2) W 0 0).1 = none ∧ res = some (.int 0) ∧ ∃ a1 t1 s1 o1 h1 V, sc2 = upd (IX (upd (upd sc 0 0) 31 (sc 31 + 1)) a1 t1 s1 o1 h1) 32 (sc 32 + 1) ∧ ar2 = psR (kpR (va_up ar 8 V) t m Y) t l m (atL m (ar 3) (wA (ar 12) t 0) (wA (ar 12) t 1) (wA (ar 12) t 2) W 0 0).2 (if hd = 0 then 16 else 4))) := by
  refine RP.of pm_X10_attempt rfl rfl (Nat.le_of_ble_eq_true rfl) ?_
  intro fx al n g0 r Q hQ
  show pr fx (px_body pm_X10_attempt) (1732) Q al n g0 r sc ar 0 [.ref (al r), .int (nI t), .int (nI l), .int hd, .float 0, .float 0, .float 0] []
  refine pr_aload_n dX10_attempt_0 rfl rfl ?_
  refine pr_iconst dX10_attempt_1 (show Int32.ofInt (0) = (0) by decide) ?_
  refine pr_put dX10_attempt_2 fk_X10_79 rfl ⟨_, _, _, rfl, rfl⟩ rfl rfl ?_
  refine pr_aload_n dX10_attempt_5 rfl rfl ?_
  refine pr_aload_n dX10_attempt_6 rfl rfl ?_
  refine pr_iload_n dX10_attempt_7 rfl ?_
  refine pr_call dX10_attempt_8 cl_X10_248 (rc_noTask_f 1730 (sc := upd sc 0 0) ar (T := T) hT h10 ht) rfl rfl (Nat.le_of_ble_eq_true rfl) ⟨rfl, rfl⟩ ?_
  refine pr_if_ne (tgt := 21) dX10_attempt_11 (by decide) (fun c11 => absurd c11 (by decide)) (fun _ => ?_)
  refine pr_iload_n dX10_attempt_14 rfl ?_
  refine pr_callSC dX10_attempt_15 cl_X10_258 (rc_noLearner_f 1730 hl) rfl rfl (Nat.le_of_ble_eq_true rfl) ⟨rfl, rfl⟩ ?_
  refine pr_if_eq (tgt := 25) dX10_attempt_18 (by decide) (fun _ => ?_) (fun c18 => absurd c18 (by decide))
  refine pr_iconst dX10_attempt_25 (show Int32.ofInt (0) = (0) by decide) ?_
  refine pr_iconst dX10_attempt_26 (show Int32.ofInt (1) = (1) by decide) ?_
  refine pr_call dX10_attempt_27 cl_X10_180 (rc_throwsIf_f _ _ _ _) rfl rfl (Nat.le_of_ble_eq_true rfl) ⟨rfl, rfl⟩ ?_
  refine pr_if_ne (tgt := 53) dX10_attempt_30 (by decide) (fun c30 => absurd c30 (by decide)) (fun _ => ?_)
  refine pr_aload_n dX10_attempt_33 rfl rfl ?_
  refine pr_aload_n dX10_attempt_34 rfl rfl ?_
  refine pr_getS (v := nI m) dX10_attempt_35 fk_X10_184 rfl hm.1 ?_
  refine pr_if_ne (tgt := 45) dX10_attempt_38 (by decide) (fun c38 => ?_) (fun c38 => absurd c38 (nI_ne0 h0 (by have := hm.2.1; omega)))
  refine pr_iconst dX10_attempt_45 (show Int32.ofInt (0) = (0) by decide) ?_
  refine pr_iconst dX10_attempt_46 (show Int32.ofInt (2) = (2) by decide) ?_
  refine pr_call dX10_attempt_47 cl_X10_180 (rc_throwsIf_f _ _ _ _) rfl rfl (Nat.le_of_ble_eq_true rfl) ⟨rfl, rfl⟩ ?_
  refine pr_if_eq (tgt := 55) dX10_attempt_50 (by decide) (fun _ => ?_) (fun c50 => absurd c50 (by decide))
  refine pr_aload_n dX10_attempt_55 rfl rfl ?_
  refine pr_getA dX10_attempt_56 fk_X10_49 rfl ?_
  refine pr_iload_n dX10_attempt_59 rfl ?_
  refine pr_iald (v := (nI W)) (j := t) dX10_attempt_60 (by decide) rfl rfl (by show t < 10; omega) h11 ?_
  refine pr_if_ne (tgt := 66) dX10_attempt_61 (by decide) (fun c61 => ?_) (fun c61 => absurd c61 (nI_ne0 hW0 (by omega)))
  refine pr_aload_n dX10_attempt_66 rfl rfl ?_
  refine pr_dup dX10_attempt_67 rfl ?_
  refine pr_getS (v := sc 31) dX10_attempt_68 fk_X10_261 rfl rfl ?_
  refine pr_iconst dX10_attempt_71 (show Int32.ofInt (1) = (1) by decide) ?_
  refine pr_iadd dX10_attempt_72 ?_
  refine pr_put dX10_attempt_73 fk_X10_261 rfl ⟨_, _, _, rfl, rfl⟩ rfl rfl ?_
  refine pr_iconst dX10_attempt_76 (show Int32.ofInt (0) = (0) by decide) ?_
  refine pr_istore dX10_attempt_77 (Nat.le_of_ble_eq_true rfl) ?_
  refine pr_iconst dX10_attempt_79 (show Int32.ofInt (0) = (0) by decide) ?_
  refine pr_istore dX10_attempt_80 (Nat.le_of_ble_eq_true rfl) ?_
  refine (?_ : pr fx (px_body pm_X10_attempt) 1732 Q al n g0 r (upd (upd sc 0 0) 31 (sc 31 + 1)) ar 82 [.ref (al r), .int (nI t), .int (nI l), .int hd, .int 0, .int (nI 0), .float 0] [])
  have key := fun hF hK => rl_attempt (fx := fx) (Q := Q) (al := al) (n := n) (g0 := g0) (r := r) (sc := (upd (upd sc 0 0) 31 (sc 31 + 1))) (ar := ar) (t := t) (l := l) (m := m) (W := W) (hd := hd) hm h0 (by omega) hW h11 W 0 0 ((upd (upd sc 0 0) 31 (sc 31 + 1)) 21) ((upd (upd sc 0 0) 31 (sc 31 + 1)) 22) ((upd (upd sc 0 0) 31 (sc 31 + 1)) 23) ((upd (upd sc 0 0) 31 (sc 31 + 1)) 25) ((upd (upd sc 0 0) 31 (sc 31 + 1)) 24) (ar 8) (.float 0) _ (by omega) rfl hF hK
  rw [IX_id, va_id] at key
  refine key ?_ ?_
  · intro w2 a1 t1 s1 o1 h1 V g2 hw2 hR hF9
    exact hQ _ _ _ g2 (Or.inl ⟨w2, hw2, rfl, a1, t1, s1, o1, h1, V, rfl, rfl⟩) hR hF9
  · intro a1 t1 s1 o1 h1 V l6 hn
    refine rl_attail (dd := 1729) (Y := Y) hm.1 hm.2.1 (by omega) hl hY h13 ?_
    intro g2 hR hF9
    exact hQ _ _ _ g2 (Or.inr ⟨hn, rfl, a1, t1, s1, o1, h1, V, rfl, rfl⟩) hR hF9
set_option maxHeartbeats 4000000 in
set_option maxRecDepth 20000 in
theorem rc_attempt_bad1 (sc : Nat → Int32) (ar : Nat → Nat → Int32) {t : Int32} (l hd : Int32) (ht : ¬ (0 ≤ t ∧ t ≤ sc 30 - 1)) : RC (1733) 135 [.int t, .int l, .int hd] sc ar (some (.int 0)) (upd (upd sc 0 0) 0 1) (ar) := by
  refine RC.of pm_X10_attempt rfl rfl (Nat.le_of_ble_eq_true rfl) ?_
  intro fx al n g0 r Q hQ
  show pr fx (px_body pm_X10_attempt) (1732) Q al n g0 r sc ar 0 [.ref (al r), .int t, .int l, .int hd, .float 0, .float 0, .float 0] []
  refine pr_aload_n dX10_attempt_0 rfl rfl ?_
  refine pr_iconst dX10_attempt_1 (show Int32.ofInt (0) = (0) by decide) ?_
  refine pr_put dX10_attempt_2 fk_X10_79 rfl ⟨_, _, _, rfl, rfl⟩ rfl rfl ?_
  refine pr_aload_n dX10_attempt_5 rfl rfl ?_
  refine pr_aload_n dX10_attempt_6 rfl rfl ?_
  refine pr_iload_n dX10_attempt_7 rfl ?_
  refine pr_call dX10_attempt_8 cl_X10_248 (rc_noTask_t 1730 (sc := upd sc 0 0) ar ht) rfl rfl (Nat.le_of_ble_eq_true rfl) ⟨rfl, rfl⟩ ?_
  refine pr_if_ne (tgt := 21) dX10_attempt_11 (by decide) (fun _ => ?_) (fun c11 => absurd c11 (by decide))
  refine pr_iconst dX10_attempt_21 (show Int32.ofInt (1) = (1) by decide) ?_
  refine pr_goto (tgt := 26) dX10_attempt_22 (by decide) ?_
  refine pr_iconst dX10_attempt_26 (show Int32.ofInt (1) = (1) by decide) ?_
  refine pr_call dX10_attempt_27 cl_X10_180 (rc_throwsIf_t _ _ _ _) rfl rfl (Nat.le_of_ble_eq_true rfl) ⟨rfl, rfl⟩ ?_
  refine pr_if_ne (tgt := 53) dX10_attempt_30 (by decide) (fun _ => ?_) (fun c30 => absurd c30 (by decide))
  refine pr_iconst dX10_attempt_53 (show Int32.ofInt (0) = (0) by decide) ?_
  exact pr_iret hQ dX10_attempt_54 rfl rfl rfl rfl rfl
set_option maxHeartbeats 4000000 in
set_option maxRecDepth 20000 in
theorem rc_attempt_bad2 (sc : Nat → Int32) (ar : Nat → Nat → Int32) {t : Nat} {l : Int32} (hd : Int32) {T : Nat} (hT : sc 30 = nI T) (h10 : T ≤ 10) (ht : t < T) (hl : ¬ (0 ≤ l ∧ l ≤ 7)) : RC (1733) 135 [.int (nI t), .int l, .int hd] sc ar (some (.int 0)) (upd (upd sc 0 0) 0 1) (ar) := by
  refine RC.of pm_X10_attempt rfl rfl (Nat.le_of_ble_eq_true rfl) ?_
  intro fx al n g0 r Q hQ
  show pr fx (px_body pm_X10_attempt) (1732) Q al n g0 r sc ar 0 [.ref (al r), .int (nI t), .int l, .int hd, .float 0, .float 0, .float 0] []
  refine pr_aload_n dX10_attempt_0 rfl rfl ?_
  refine pr_iconst dX10_attempt_1 (show Int32.ofInt (0) = (0) by decide) ?_
  refine pr_put dX10_attempt_2 fk_X10_79 rfl ⟨_, _, _, rfl, rfl⟩ rfl rfl ?_
  refine pr_aload_n dX10_attempt_5 rfl rfl ?_
  refine pr_aload_n dX10_attempt_6 rfl rfl ?_
  refine pr_iload_n dX10_attempt_7 rfl ?_
  refine pr_call dX10_attempt_8 cl_X10_248 (rc_noTask_f 1730 (sc := upd sc 0 0) ar (T := T) hT h10 ht) rfl rfl (Nat.le_of_ble_eq_true rfl) ⟨rfl, rfl⟩ ?_
  refine pr_if_ne (tgt := 21) dX10_attempt_11 (by decide) (fun c11 => absurd c11 (by decide)) (fun _ => ?_)
  refine pr_iload_n dX10_attempt_14 rfl ?_
  refine pr_callSC dX10_attempt_15 cl_X10_258 (rc_noLearner_t 1730 hl) rfl rfl (Nat.le_of_ble_eq_true rfl) ⟨rfl, rfl⟩ ?_
  refine pr_if_eq (tgt := 25) dX10_attempt_18 (by decide) (fun c18 => absurd c18 (by decide)) (fun _ => ?_)
  refine pr_iconst dX10_attempt_21 (show Int32.ofInt (1) = (1) by decide) ?_
  refine pr_goto (tgt := 26) dX10_attempt_22 (by decide) ?_
  refine pr_iconst dX10_attempt_26 (show Int32.ofInt (1) = (1) by decide) ?_
  refine pr_call dX10_attempt_27 cl_X10_180 (rc_throwsIf_t _ _ _ _) rfl rfl (Nat.le_of_ble_eq_true rfl) ⟨rfl, rfl⟩ ?_
  refine pr_if_ne (tgt := 53) dX10_attempt_30 (by decide) (fun _ => ?_) (fun c30 => absurd c30 (by decide))
  refine pr_iconst dX10_attempt_53 (show Int32.ofInt (0) = (0) by decide) ?_
  exact pr_iret hQ dX10_attempt_54 rfl rfl rfl rfl rfl
set_option maxHeartbeats 4000000 in
set_option maxRecDepth 20000 in
theorem rc_attempt_bad3 (sc : Nat → Int32) (ar : Nat → Nat → Int32) {t l : Nat} (hd : Int32) {T : Nat} (hT : sc 30 = nI T) (h10 : T ≤ 10) (ht : t < T) (hl : l < 8) (hm : sc 16 = 0) : RC (1733) 135 [.int (nI t), .int (nI l), .int hd] sc ar (some (.int 0)) (upd (upd sc 0 0) 0 2) (ar) := by
  refine RC.of pm_X10_attempt rfl rfl (Nat.le_of_ble_eq_true rfl) ?_
  intro fx al n g0 r Q hQ
  show pr fx (px_body pm_X10_attempt) (1732) Q al n g0 r sc ar 0 [.ref (al r), .int (nI t), .int (nI l), .int hd, .float 0, .float 0, .float 0] []
  refine pr_aload_n dX10_attempt_0 rfl rfl ?_
  refine pr_iconst dX10_attempt_1 (show Int32.ofInt (0) = (0) by decide) ?_
  refine pr_put dX10_attempt_2 fk_X10_79 rfl ⟨_, _, _, rfl, rfl⟩ rfl rfl ?_
  refine pr_aload_n dX10_attempt_5 rfl rfl ?_
  refine pr_aload_n dX10_attempt_6 rfl rfl ?_
  refine pr_iload_n dX10_attempt_7 rfl ?_
  refine pr_call dX10_attempt_8 cl_X10_248 (rc_noTask_f 1730 (sc := upd sc 0 0) ar (T := T) hT h10 ht) rfl rfl (Nat.le_of_ble_eq_true rfl) ⟨rfl, rfl⟩ ?_
  refine pr_if_ne (tgt := 21) dX10_attempt_11 (by decide) (fun c11 => absurd c11 (by decide)) (fun _ => ?_)
  refine pr_iload_n dX10_attempt_14 rfl ?_
  refine pr_callSC dX10_attempt_15 cl_X10_258 (rc_noLearner_f 1730 hl) rfl rfl (Nat.le_of_ble_eq_true rfl) ⟨rfl, rfl⟩ ?_
  refine pr_if_eq (tgt := 25) dX10_attempt_18 (by decide) (fun _ => ?_) (fun c18 => absurd c18 (by decide))
  refine pr_iconst dX10_attempt_25 (show Int32.ofInt (0) = (0) by decide) ?_
  refine pr_iconst dX10_attempt_26 (show Int32.ofInt (1) = (1) by decide) ?_
  refine pr_call dX10_attempt_27 cl_X10_180 (rc_throwsIf_f _ _ _ _) rfl rfl (Nat.le_of_ble_eq_true rfl) ⟨rfl, rfl⟩ ?_
  refine pr_if_ne (tgt := 53) dX10_attempt_30 (by decide) (fun c30 => absurd c30 (by decide)) (fun _ => ?_)
  refine pr_aload_n dX10_attempt_33 rfl rfl ?_
  refine pr_aload_n dX10_attempt_34 rfl rfl ?_
  refine pr_getS (v := 0) dX10_attempt_35 fk_X10_184 rfl hm ?_
  refine pr_if_ne (tgt := 45) dX10_attempt_38 (by decide) (fun c38 => absurd rfl c38) (fun c38 => ?_)
  refine pr_iconst dX10_attempt_41 (show Int32.ofInt (1) = (1) by decide) ?_
  refine pr_goto (tgt := 46) dX10_attempt_42 (by decide) ?_
  refine pr_iconst dX10_attempt_46 (show Int32.ofInt (2) = (2) by decide) ?_
  refine pr_call dX10_attempt_47 cl_X10_180 (rc_throwsIf_t _ _ _ _) rfl rfl (Nat.le_of_ble_eq_true rfl) ⟨rfl, rfl⟩ ?_
  refine pr_if_eq (tgt := 55) dX10_attempt_50 (by decide) (fun c50 => absurd c50 (by decide)) (fun _ => ?_)
  refine pr_iconst dX10_attempt_53 (show Int32.ofInt (0) = (0) by decide) ?_
  exact pr_iret hQ dX10_attempt_54 rfl rfl rfl rfl rfl
