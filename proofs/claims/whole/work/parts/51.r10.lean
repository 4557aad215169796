theorem rT_nI {t : Nat} (h0 : 0 < t) (h : t < 2 ^ 31) : rT (nI t) = nI t := by
  unfold rT
  rw [if_neg (nI_ne0 h0 h), if_neg (fun z => by have z1 : nI t < 0 := by rw [z]; decide
                                                exact nI_pos h z1)]
section LEX
variable {B : Nat → Nat} {e b : Nat}
theorem lexT_end (h : b = e) : lexT B e b = 0 := if_pos h
theorem lexT_l (h : ¬ b = e) (hl : isL (B b) = true) : lexT B e b = (if spn isL B (e - b) b = b + 1 then (if isVar (nI (B b)) = true then nI (B b) else -2) else if wIs B b (spn isL B (e - b) b) 1 = true then 256 else if wIs B b (spn isL B (e - b) b) 2 = true then 257 else if wIs B b (spn isL B (e - b) b) 3 = true then 258 else -2) := by unfold lexT; rw [if_neg h, if_pos hl]
theorem lexT_d (h : ¬ b = e) (hl : isL (B b) = false) (hd : isD (B b) = true) : lexT B e b = (if b + 6 < spn isD B (e - b) b then -2 else nI (1000 + num B b (spn isD B (e - b) b - b))) := by unfold lexT; rw [if_neg h, if_neg (by rw [hl]; decide), if_pos hd]
theorem lexT_s (h : ¬ b = e) (hl : isL (B b) = false) (hd : isD (B b) = false) : lexT B e b = if isSg (B b) = true then nI (B b) else -2 := by unfold lexT; rw [if_neg h, if_neg (by rw [hl]; decide), if_neg (by rw [hd]; decide)]
theorem lexA_l (h : ¬ b = e) (hl : isL (B b) = true) : lexA B e b = spn isL B (e - b) b := by unfold lexA; rw [if_neg h, if_pos hl]
theorem lexA_d (h : ¬ b = e) (hl : isL (B b) = false) (hd : isD (B b) = true) : lexA B e b = spn isD B (e - b) b := by unfold lexA; rw [if_neg h, if_neg (by rw [hl]; decide), if_pos hd]
theorem lexA_s (h : ¬ b = e) (hl : isL (B b) = false) (hd : isD (B b) = false) : lexA B e b = b + 1 := by unfold lexA; rw [if_neg h, if_neg (by rw [hl]; decide), if_neg (by rw [hd]; decide)]
end LEX
theorem isL_lt {b : Nat} (h : isL b = true) : 97 ≤ b ∧ b ≤ 122 := by simpa [isL, inR] using h
theorem isD_lt {b : Nat} (h : isD b = true) : 48 ≤ b ∧ b ≤ 57 := by simpa [isD, inR] using h
theorem spn_in {c : Nat → Bool} {B : Nat → Nat} : ∀ (m p j : Nat), p ≤ j → j < spn c B m p → c (B j) = true
  | 0, p, j, h1, h2 => by rw [spn] at h2; omega
  | m + 1, p, j, h1, h2 => by
    rw [spn] at h2
    split at h2
    · rename_i hc
      rcases Nat.eq_or_lt_of_le h1 with rfl | h
      · exact hc
      · exact spn_in m (p + 1) j h h2
    · omega
theorem num_lt {B : Nat → Nat} {b : Nat} : ∀ k, (∀ j, j < k → B (b + j) ≤ 57) → num B b k < 10 ^ k
  | 0, _ => by show 0 < 1; decide
  | k + 1, h => by
    have h1 := num_lt k (fun j hj => h j (by omega))
    have h2 := h k (by omega)
    rw [num, Nat.pow_succ]
    omega
/-- the reference behind a look at the text: the token's begin and end -/
def S3 (sc : Nat → Int32) (b a : Nat) : Nat → Int32 := upd (upd (upd sc 3 (nI b)) 5 (nI b)) 6 (nI a)
set_option maxHeartbeats 4000000 in
set_option maxRecDepth 20000 in
theorem rl_blank {fx : px_F} {dd : Nat} {Q : px_Q} {al : Nat → Nat} {n : Nat} {g0 : Nat → px_O} {r : Nat} {sc : Nat → Int32} {ar : Nat → Nat → Int32} {B : Nat → Nat} {e : Nat} (hB : rB sc ar B e) : ∀ (m p : Nat), p + m = e → pr fx (px_body pm_X10_next) (dd + 5) Q al n g0 r (upd sc 3 (nI (spn isBl B m p))) ar 28 [.ref (al r), .float 0] [] → pr fx (px_body pm_X10_next) (dd + 5) Q al n g0 r (upd sc 3 (nI p)) ar 0 [.ref (al r), .float 0] []
  | 0, p, hp, kont => by
    have he := hB.2.1
    have hpe : p = e := by omega
    refine pr_aload_n dX10_next_0 rfl rfl ?_
    refine pr_aload_n dX10_next_1 rfl rfl ?_
    refine pr_getS (v := (nI p)) dX10_next_2 fk_X10_108 rfl rfl ?_
    refine pr_bipush dX10_next_5 (show (Int8.ofInt (32)).toInt32 = (32) by decide) ?_
    refine pr_bipush dX10_next_7 (show (Int8.ofInt (32)).toInt32 = (32) by decide) ?_
    refine pr_call dX10_next_9 cl_X10_111 (rc_isAt (dd + 4) (upd sc 3 (nI p)) ar (B := B) (e := e) (p := p) (lo := 32) (hi := 32) hB (by decide) (by decide) (by decide) (by omega)) rfl rfl (Nat.le_of_ble_eq_true rfl) ⟨rfl, rfl⟩ ?_
    refine pr_if_eq (tgt := 28) dX10_next_12 (by decide) (fun c12 => ?_) (fun c12 => absurd (zB_f (by rw [decide_eq_false (by omega)]; rfl)) c12)
    exact kont
  | m + 1, p, hp, kont => by
    have he := hB.2.1
    rw [spn] at kont
    refine pr_aload_n dX10_next_0 rfl rfl ?_
    refine pr_aload_n dX10_next_1 rfl rfl ?_
    refine pr_getS (v := (nI p)) dX10_next_2 fk_X10_108 rfl rfl ?_
    refine pr_bipush dX10_next_5 (show (Int8.ofInt (32)).toInt32 = (32) by decide) ?_
    refine pr_bipush dX10_next_7 (show (Int8.ofInt (32)).toInt32 = (32) by decide) ?_
    refine pr_call dX10_next_9 cl_X10_111 (rc_isAt (dd + 4) (upd sc 3 (nI p)) ar (B := B) (e := e) (p := p) (lo := 32) (hi := 32) hB (by decide) (by decide) (by decide) (by omega)) rfl rfl (Nat.le_of_ble_eq_true rfl) ⟨rfl, rfl⟩ ?_
    refine pr_if_eq (tgt := 28) dX10_next_12 (by decide) (fun c12 => ?_) (fun c12 => ?_)
    ·
      have hf : isBl (B p) = false := by have := zB_0.mp c12; rw [decide_eq_true (show p < e by omega)] at this; exact this
      rw [if_neg (by rw [hf]; decide)] at kont
      exact kont
    ·
      refine pr_aload_n dX10_next_15 rfl rfl ?_
      refine pr_dup dX10_next_16 rfl ?_
      refine pr_getS (v := (nI p)) dX10_next_17 fk_X10_108 rfl rfl ?_
      refine pr_iconst dX10_next_20 (show Int32.ofInt (1) = (1) by decide) ?_
      refine pr_iadd dX10_next_21 ?_
      rw [nI_1 p]
      refine pr_put dX10_next_22 fk_X10_108 rfl ⟨_, _, _, rfl, rfl⟩ rfl rfl ?_
      rw [upd_upd]
      refine pr_goto (tgt := 0) dX10_next_25 (by decide) ?_
      have hf : isBl (B p) = true := by
        cases hq : isBl (B p) with
        | true => rfl
        | false => exact absurd (zB_f (by rw [show inR 32 32 (B p) = false from hq, Bool.and_false])) c12
      rw [if_pos hf] at kont
      exact rl_blank hB m (p + 1) (by omega) kont
set_option maxHeartbeats 4000000 in
set_option maxRecDepth 20000 in
theorem rl_let {fx : px_F} {dd : Nat} {Q : px_Q} {al : Nat → Nat} {n : Nat} {g0 : Nat → px_O} {r : Nat} {sc : Nat → Int32} {ar : Nat → Nat → Int32} {B : Nat → Nat} {e : Nat} (hB : rB sc ar B e) {b : Nat} : ∀ (m a : Nat), a + m = e → pr fx (px_body pm_X10_next) (dd + 5) Q al n g0 r (S3 sc b (spn isL B m a)) ar 113 [.ref (al r), .float 0] [] → pr fx (px_body pm_X10_next) (dd + 5) Q al n g0 r (S3 sc b a) ar 85 [.ref (al r), .float 0] []
  | 0, a, hp, kont => by
    have he := hB.2.1
    have hpe : a = e := by omega
    refine pr_aload_n dX10_next_85 rfl rfl ?_
    refine pr_aload_n dX10_next_86 rfl rfl ?_
    refine pr_getS (v := (nI a)) dX10_next_87 fk_X10_88 rfl rfl ?_
    refine pr_bipush dX10_next_90 (show (Int8.ofInt (97)).toInt32 = (97) by decide) ?_
    refine pr_bipush dX10_next_92 (show (Int8.ofInt (122)).toInt32 = (122) by decide) ?_
    refine pr_call dX10_next_94 cl_X10_111 (rc_isAt (dd + 4) (S3 sc b a) ar (B := B) (e := e) (p := a) (lo := 97) (hi := 122) hB (by decide) (by decide) (by decide) (by omega)) rfl rfl (Nat.le_of_ble_eq_true rfl) ⟨rfl, rfl⟩ ?_
    refine pr_if_eq (tgt := 113) dX10_next_97 (by decide) (fun c97 => ?_) (fun c97 => absurd (zB_f (by rw [decide_eq_false (by omega)]; rfl)) c97)
    exact kont
  | m + 1, a, hp, kont => by
    have he := hB.2.1
    rw [spn] at kont
    refine pr_aload_n dX10_next_85 rfl rfl ?_
    refine pr_aload_n dX10_next_86 rfl rfl ?_
    refine pr_getS (v := (nI a)) dX10_next_87 fk_X10_88 rfl rfl ?_
    refine pr_bipush dX10_next_90 (show (Int8.ofInt (97)).toInt32 = (97) by decide) ?_
    refine pr_bipush dX10_next_92 (show (Int8.ofInt (122)).toInt32 = (122) by decide) ?_
    refine pr_call dX10_next_94 cl_X10_111 (rc_isAt (dd + 4) (S3 sc b a) ar (B := B) (e := e) (p := a) (lo := 97) (hi := 122) hB (by decide) (by decide) (by decide) (by omega)) rfl rfl (Nat.le_of_ble_eq_true rfl) ⟨rfl, rfl⟩ ?_
    refine pr_if_eq (tgt := 113) dX10_next_97 (by decide) (fun c97 => ?_) (fun c97 => ?_)
    ·
      have hf : isL (B a) = false := by have := zB_0.mp c97; rw [decide_eq_true (show a < e by omega)] at this; exact this
      rw [if_neg (by rw [hf]; decide)] at kont
      exact kont
    ·
      refine pr_aload_n dX10_next_100 rfl rfl ?_
      refine pr_dup dX10_next_101 rfl ?_
      refine pr_getS (v := (nI a)) dX10_next_102 fk_X10_88 rfl rfl ?_
      refine pr_iconst dX10_next_105 (show Int32.ofInt (1) = (1) by decide) ?_
      refine pr_iadd dX10_next_106 ?_
      rw [nI_1 a]
      refine pr_put dX10_next_107 fk_X10_88 rfl ⟨_, _, _, rfl, rfl⟩ rfl rfl ?_
      rw [show upd (S3 sc b a) 6 (nI (a + 1)) = S3 sc b (a + 1) from upd_upd _ _ _ _]
      refine pr_goto (tgt := 85) dX10_next_110 (by decide) ?_
      have hf : isL (B a) = true := by
        cases hq : isL (B a) with
        | true => rfl
        | false => exact absurd (zB_f (by rw [show inR 97 122 (B a) = false from hq, Bool.and_false])) c97
      rw [if_pos hf] at kont
      exact rl_let hB m (a + 1) (by omega) kont
set_option maxHeartbeats 4000000 in
set_option maxRecDepth 20000 in
theorem rl_dig {fx : px_F} {dd : Nat} {Q : px_Q} {al : Nat → Nat} {n : Nat} {g0 : Nat → px_O} {r : Nat} {sc : Nat → Int32} {ar : Nat → Nat → Int32} {B : Nat → Nat} {e : Nat} (hB : rB sc ar B e) {b : Nat} : ∀ (m a : Nat), a + m = e → b ≤ a → (∀ j, b ≤ j → j < a → isD (B j) = true) → pr fx (px_body pm_X10_next) (dd + 5) Q al n g0 r (S3 sc b (spn isD B m a)) ar 285 [.ref (al r), .int (nI (num B b (min (spn isD B m a - b) 6)))] [] → pr fx (px_body pm_X10_next) (dd + 5) Q al n g0 r (S3 sc b a) ar 221 [.ref (al r), .int (nI (num B b (min (a - b) 6)))] []
  | 0, a, hp, hba, hdg, kont => by
    have he := hB.2.1
    have hpe : a = e := by omega
    refine pr_aload_n dX10_next_221 rfl rfl ?_
    refine pr_aload_n dX10_next_222 rfl rfl ?_
    refine pr_getS (v := (nI a)) dX10_next_223 fk_X10_88 rfl rfl ?_
    refine pr_bipush dX10_next_226 (show (Int8.ofInt (48)).toInt32 = (48) by decide) ?_
    refine pr_bipush dX10_next_228 (show (Int8.ofInt (57)).toInt32 = (57) by decide) ?_
    refine pr_call dX10_next_230 cl_X10_111 (rc_isAt (dd + 4) (S3 sc b a) ar (B := B) (e := e) (p := a) (lo := 48) (hi := 57) hB (by decide) (by decide) (by decide) (by omega)) rfl rfl (Nat.le_of_ble_eq_true rfl) ⟨rfl, rfl⟩ ?_
    refine pr_if_eq (tgt := 285) dX10_next_233 (by decide) (fun c233 => ?_) (fun c233 => absurd (zB_f (by rw [decide_eq_false (by omega)]; rfl)) c233)
    exact kont
  | m + 1, a, hp, hba, hdg, kont => by
    have he := hB.2.1
    rw [spn] at kont
    refine pr_aload_n dX10_next_221 rfl rfl ?_
    refine pr_aload_n dX10_next_222 rfl rfl ?_
    refine pr_getS (v := (nI a)) dX10_next_223 fk_X10_88 rfl rfl ?_
    refine pr_bipush dX10_next_226 (show (Int8.ofInt (48)).toInt32 = (48) by decide) ?_
    refine pr_bipush dX10_next_228 (show (Int8.ofInt (57)).toInt32 = (57) by decide) ?_
    refine pr_call dX10_next_230 cl_X10_111 (rc_isAt (dd + 4) (S3 sc b a) ar (B := B) (e := e) (p := a) (lo := 48) (hi := 57) hB (by decide) (by decide) (by decide) (by omega)) rfl rfl (Nat.le_of_ble_eq_true rfl) ⟨rfl, rfl⟩ ?_
    refine pr_if_eq (tgt := 285) dX10_next_233 (by decide) (fun c233 => ?_) (fun c233 => ?_)
    ·
      have hf : isD (B a) = false := by have := zB_0.mp c233; rw [decide_eq_true (show a < e by omega)] at this; exact this
      rw [if_neg (by rw [hf]; decide)] at kont
      exact kont
    ·
      have hf : isD (B a) = true := by
        cases hq : isD (B a) with
        | true => rfl
        | false => exact absurd (zB_f (by rw [show inR 48 57 (B a) = false from hq, Bool.and_false])) c233
      rw [if_pos hf] at kont
      have hda := isD_lt hf
      have hn9 : ∀ j, b ≤ j → j < a + 1 → isD (B j) = true := fun j h1 h2 => (Nat.lt_or_ge j a).elim (hdg j h1) (fun h3 => by rw [show j = a by omega]; exact hf)
      refine pr_aload_n dX10_next_236 rfl rfl ?_
      refine pr_getS (v := (nI a)) dX10_next_237 fk_X10_88 rfl rfl ?_
      refine pr_aload_n dX10_next_240 rfl rfl ?_
      refine pr_getS (v := (nI b)) dX10_next_241 fk_X10_91 rfl rfl ?_
      refine pr_isub dX10_next_244 ?_
      rw [show nI a - nI b = nI (a - b) from pk_sub hba]
      refine pr_bipush dX10_next_245 (show (Int8.ofInt (6)).toInt32 = (6) by decide) ?_
      refine pr_icmp_ge (tgt := 270) dX10_next_247 (by decide) (fun c247 => ?_) (fun c247 => ?_)
      ·
        have c2479 := Int32.not_lt.mpr c247
        refine pr_iload_n dX10_next_270 rfl ?_
        refine pr_istore_n dX10_next_271 (Nat.le_of_ble_eq_true rfl) ?_
        refine pr_aload_n dX10_next_272 rfl rfl ?_
        refine pr_dup dX10_next_273 rfl ?_
        refine pr_getS (v := (nI a)) dX10_next_274 fk_X10_88 rfl rfl ?_
        refine pr_iconst dX10_next_277 (show Int32.ofInt (1) = (1) by decide) ?_
        refine pr_iadd dX10_next_278 ?_
        rw [nI_1 a]
        refine pr_put dX10_next_279 fk_X10_88 rfl ⟨_, _, _, rfl, rfl⟩ rfl rfl ?_
        rw [show upd (S3 sc b a) 6 (nI (a + 1)) = S3 sc b (a + 1) from upd_upd _ _ _ _]
        refine pr_goto (tgt := 221) dX10_next_282 (by decide) ?_
        have h6 : 6 ≤ a - b := by
          have := nI_leI (a := 6) (b := a - b) (by decide) (by omega)
          exact this.mp c247
        have e6 : min (a - b) 6 = min (a + 1 - b) 6 := by omega
        have ih := rl_dig (fx := fx) (dd := dd) (Q := Q) (al := al) (n := n) (g0 := g0) (r := r) hB (b := b) m (a + 1) (by omega) (by omega) hn9 kont
        rw [← e6] at ih
        exact ih
      ·
        have c2479 := Int32.not_le.mp c247
        refine pr_bipush dX10_next_250 (show (Int8.ofInt (10)).toInt32 = (10) by decide) ?_
        refine pr_iload_n dX10_next_252 rfl ?_
        refine pr_imul dX10_next_253 ?_
        refine pr_aload_n dX10_next_254 rfl rfl ?_
        refine pr_getA dX10_next_255 fk_X10_9 rfl ?_
        refine pr_aload_n dX10_next_258 rfl rfl ?_
        refine pr_getS (v := (nI a)) dX10_next_259 fk_X10_88 rfl rfl ?_
        refine pr_bald (v := nI (B a)) (j := a) dX10_next_262 (by decide) rfl rfl (by show a < 400; omega) ((hB.2.2 a (by omega)).1.trans (sb_lo _ (by omega))) ?_
        refine pr_iadd dX10_next_263 ?_
        refine pr_bipush dX10_next_264 (show (Int8.ofInt (48)).toInt32 = (48) by decide) ?_
        refine pr_isub dX10_next_266 ?_
        have h6 : a - b < 6 := by
          have := nI_ltI (a := a - b) (b := 6) (by omega) (by decide)
          exact this.mp c2479
        rw [show (10 : Int32) * nI (num B b (min (a - b) 6)) + nI (B a) - 48 = nI (num B b (min (a + 1 - b) 6)) by
          rw [Nat.min_eq_left (by omega), Nat.min_eq_left (by omega), show a + 1 - b = (a - b) + 1 by omega, num, show b + (a - b) = a by omega, show (10 : Int32) * nI (num B b (a - b)) + nI (B a) = nI (10 * num B b (a - b) + B a) from ix_mul 10 _ _, show nI (10 * num B b (a - b) + B a) - 48 = nI (10 * num B b (a - b) + B a - 48) from pk_sub (b := 48) (by omega), Nat.add_sub_assoc (by omega)]]
        refine pr_goto (tgt := 271) dX10_next_267 (by decide) ?_
        refine pr_istore_n dX10_next_271 (Nat.le_of_ble_eq_true rfl) ?_
        refine pr_aload_n dX10_next_272 rfl rfl ?_
        refine pr_dup dX10_next_273 rfl ?_
        refine pr_getS (v := (nI a)) dX10_next_274 fk_X10_88 rfl rfl ?_
        refine pr_iconst dX10_next_277 (show Int32.ofInt (1) = (1) by decide) ?_
        refine pr_iadd dX10_next_278 ?_
        rw [nI_1 a]
        refine pr_put dX10_next_279 fk_X10_88 rfl ⟨_, _, _, rfl, rfl⟩ rfl rfl ?_
        rw [show upd (S3 sc b a) 6 (nI (a + 1)) = S3 sc b (a + 1) from upd_upd _ _ _ _]
        refine pr_goto (tgt := 221) dX10_next_282 (by decide) ?_
        exact rl_dig hB m (a + 1) (by omega) (by omega) hn9 kont
