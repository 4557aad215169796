def tokI (B : Nat → Nat) (e i b : Nat) : Int32 := if i = 120 ∧ ¬ b = e then -2 else lexT B e b
/-- what the reference's next() leaves: the token, its begin b, its end -/
def NX (B : Nat → Nat) (e i b : Nat) (sc : Nat → Int32) (ar : Nat → Nat → Int32) : Option Value → (Nat → Int32) → (Nat → Nat → Int32) → Prop := fun res sc2 ar2 => ∃ a, res = some (.int (rT (tokI B e i b))) ∧ sc2 = S3 sc b a ∧ ar2 = ar ∧ (¬ tokI B e i b = 0 → ¬ tokI B e i b = -2 → a = lexA B e b)
theorem tokI_lo {B : Nat → Nat} {e i b : Nat} (h : ¬ i = 120) : tokI B e i b = lexT B e b := if_neg (fun z => h z.1)
theorem rT_m2 : rT (-2) = -3 := by decide
theorem wIs_word {B : Nat → Nat} {b a i : Nat} (h : zB (wIs B b a i) = 0) : ¬ wIs B b a i = true := by rw [zB_0.mp h]; decide
theorem zB_n0 {b : Bool} (h : ¬ zB b = 0) : b = true := by cases b with
  | true => rfl
  | false => exact absurd rfl h
set_option maxHeartbeats 4000000 in
set_option maxRecDepth 20000 in
theorem rp_next (d : Nat) (sc : Nat → Int32) (ar : Nat → Nat → Int32) {B : Nat → Nat} {e p i : Nat} (hB : rB sc ar B e) (hp : sc 3 = nI p) (hpe : p ≤ e) (hi : sc 10 = nI i) (hi1 : i ≤ 120) : RP (d + 6) 99 [] sc ar (NX B e i (spn isBl B (e - p) p) sc ar) := by
  refine RP.of pm_X10_next rfl rfl (Nat.le_of_ble_eq_true rfl) ?_
  intro fx al n g0 r Q hQ
  show pr fx (px_body pm_X10_next) (d + 5) Q al n g0 r sc ar 0 [.ref (al r), .float 0] []
  have he := hB.2.1
  have h0 : pr fx (px_body pm_X10_next) (d + 5) Q al n g0 r (upd sc 3 (nI p)) ar 0 [.ref (al r), .float 0] [] → pr fx (px_body pm_X10_next) (d + 5) Q al n g0 r sc ar 0 [.ref (al r), .float 0] [] := fun z => by rw [upd_self hp] at z; exact z
  refine h0 (rl_blank hB (e - p) p (by omega) ?_)
  have hbg := spn_ge isBl B (e - p) p
  obtain ⟨b, hb9⟩ : ∃ b, spn isBl B (e - p) p = b := ⟨_, rfl⟩
  rw [hb9] at hbg hQ ⊢
  have hble : b ≤ e := by omega
  refine pr_aload_n dX10_next_28 rfl rfl ?_
  refine pr_aload_n dX10_next_29 rfl rfl ?_
  refine pr_getS (v := (nI b)) dX10_next_30 fk_X10_108 rfl rfl ?_
  refine pr_put dX10_next_33 fk_X10_91 rfl ⟨_, _, _, rfl, rfl⟩ rfl rfl ?_
  refine pr_aload_n dX10_next_36 rfl rfl ?_
  refine pr_aload_n dX10_next_37 rfl rfl ?_
  refine pr_getS (v := (nI b)) dX10_next_38 fk_X10_108 rfl rfl ?_
  refine pr_put dX10_next_41 fk_X10_88 rfl ⟨_, _, _, rfl, rfl⟩ rfl rfl ?_
  refine pr_aload_n dX10_next_44 rfl rfl ?_
  refine pr_getS (v := (nI b)) dX10_next_45 fk_X10_108 rfl rfl ?_
  refine pr_aload_n dX10_next_48 rfl rfl ?_
  refine pr_getS (v := nI e) dX10_next_49 fk_X10_85 rfl hB.1 ?_
  refine pr_icmp_ne (tgt := 58) dX10_next_52 (by decide) (fun c52 => ?_) (fun c52 => ?_)
  ·
    have hbe : ¬ b = e := fun z => c52 (by rw [z])
    have hblt : b < e := by omega
    refine pr_aload_n dX10_next_58 rfl rfl ?_
    refine pr_getS (v := nI i) dX10_next_59 fk_X10_114 rfl hi ?_
    refine pr_bipush dX10_next_62 (show (Int8.ofInt (120)).toInt32 = (120) by decide) ?_
    refine pr_icmp_ne (tgt := 70) dX10_next_64 (by decide) (fun c64 => ?_) (fun c64 => ?_)
    ·
      have hi0 : ¬ i = 120 := fun z => c64 (by rw [z]; rfl)
      refine pr_aload_n dX10_next_70 rfl rfl ?_
      refine pr_aload_n dX10_next_71 rfl rfl ?_
      refine pr_getS (v := (nI b)) dX10_next_72 fk_X10_108 rfl rfl ?_
      refine pr_bipush dX10_next_75 (show (Int8.ofInt (97)).toInt32 = (97) by decide) ?_
      refine pr_bipush dX10_next_77 (show (Int8.ofInt (122)).toInt32 = (122) by decide) ?_
      refine pr_call dX10_next_79 cl_X10_111 (rc_isAt (d + 4) (S3 sc b b) ar (B := B) (e := e) (p := b) (lo := 97) (hi := 122) hB (by decide) (by decide) (by decide) (by omega)) rfl rfl (Nat.le_of_ble_eq_true rfl) ⟨rfl, rfl⟩ ?_
      refine pr_if_eq (tgt := 204) dX10_next_82 (by decide) (fun c82 => ?_) (fun c82 => ?_)
      ·
        refine pr_aload_n dX10_next_204 rfl rfl ?_
        refine pr_aload_n dX10_next_205 rfl rfl ?_
        refine pr_getS (v := (nI b)) dX10_next_206 fk_X10_108 rfl rfl ?_
        refine pr_bipush dX10_next_209 (show (Int8.ofInt (48)).toInt32 = (48) by decide) ?_
        refine pr_bipush dX10_next_211 (show (Int8.ofInt (57)).toInt32 = (57) by decide) ?_
        refine pr_call dX10_next_213 cl_X10_111 (rc_isAt (d + 4) (S3 sc b b) ar (B := B) (e := e) (p := b) (lo := 48) (hi := 57) hB (by decide) (by decide) (by decide) (by omega)) rfl rfl (Nat.le_of_ble_eq_true rfl) ⟨rfl, rfl⟩ ?_
        refine pr_if_eq (tgt := 310) dX10_next_216 (by decide) (fun c216 => ?_) (fun c216 => ?_)
        ·
          have hl0 : isL (B b) = false := by
            have := zB_0.mp c82
            rw [decide_eq_true hblt, Bool.true_and] at this
            exact this
          have hd0 : isD (B b) = false := by
            have := zB_0.mp c216
            rw [decide_eq_true hblt, Bool.true_and] at this
            exact this
          refine pr_aload_n dX10_next_310 rfl rfl ?_
          refine pr_dup dX10_next_311 rfl ?_
          refine pr_getS (v := (nI b)) dX10_next_312 fk_X10_88 rfl rfl ?_
          refine pr_iconst dX10_next_315 (show Int32.ofInt (1) = (1) by decide) ?_
          refine pr_iadd dX10_next_316 ?_
          rw [nI_1 b]
          refine pr_put dX10_next_317 fk_X10_88 rfl ⟨_, _, _, rfl, rfl⟩ rfl rfl ?_
          rw [show upd (S3 sc b b) 6 (nI (b + 1)) = S3 sc b (b + 1) from upd_upd _ _ _ _]
          refine pr_aload_n dX10_next_320 rfl rfl ?_
          refine pr_getA dX10_next_321 fk_X10_9 rfl ?_
          refine pr_aload_n dX10_next_324 rfl rfl ?_
          refine pr_getS (v := (nI b)) dX10_next_325 fk_X10_91 rfl rfl ?_
          refine pr_bald (v := sb (B b)) (j := b) dX10_next_328 (by decide) rfl rfl (by show b < 400; omega) (hB.2.2 b hblt).1 ?_
          refine pr_callSC dX10_next_329 cl_X10_131 (rc_isSign (d + 4) (sb (B b))) rfl rfl (Nat.le_of_ble_eq_true rfl) ⟨rfl, rfl⟩ ?_
          refine pr_if_eq (tgt := 347) dX10_next_332 (by decide) (fun c332 => ?_) (fun c332 => ?_)
          ·
            have hsg9 : isSg (B b) = false := by rw [← isSg_sb _ (hB.2.2 b hblt).2]; exact zB_0.mp c332
            refine pr_bipush dX10_next_347 (show (Int8.ofInt (-3)).toInt32 = (-3) by decide) ?_
            have e9 : tokI B e i b = -2 := by rw [tokI_lo hi0, lexT_s hbe hl0 hd0, if_neg (by rw [hsg9]; decide)]
            exact pr_iretP hQ dX10_next_349 rfl rfl ⟨b + 1, by rw [e9, rT_m2], rfl, rfl, fun _ z => absurd e9 z⟩
          ·
            have hsg9 : isSg (B b) = true := by rw [← isSg_sb _ (hB.2.2 b hblt).2]; exact zB_n0 c332
            refine pr_aload_n dX10_next_335 rfl rfl ?_
            refine pr_getA dX10_next_336 fk_X10_9 rfl ?_
            refine pr_aload_n dX10_next_339 rfl rfl ?_
            refine pr_getS (v := (nI b)) dX10_next_340 fk_X10_91 rfl rfl ?_
            refine pr_bald (v := sb (B b)) (j := b) dX10_next_343 (by decide) rfl rfl (by show b < 400; omega) (hB.2.2 b hblt).1 ?_
            refine pr_goto (tgt := 349) dX10_next_344 (by decide) ?_
            have hs1 := isSg_lo (B b) (hB.2.2 b hblt).2 hsg9
            have hs0 : 0 < B b := by
              rcases Nat.eq_zero_or_pos (B b) with z | z
              · rw [z] at hsg9; exact absurd hsg9 (by decide)
              · exact z
            have e9 : tokI B e i b = nI (B b) := by rw [tokI_lo hi0, lexT_s hbe hl0 hd0, if_pos hsg9]
            exact pr_iretP hQ dX10_next_349 rfl rfl ⟨b + 1, by rw [e9, rT_nI hs0 (by omega), sb_lo _ hs1], rfl, rfl, fun _ _ => (lexA_s hbe hl0 hd0).symm⟩
        ·
          refine pr_iconst dX10_next_219 (show Int32.ofInt (0) = (0) by decide) ?_
          refine pr_istore_n dX10_next_220 (Nat.le_of_ble_eq_true rfl) ?_
          have hl0 : isL (B b) = false := by
            have := zB_0.mp c82
            rw [decide_eq_true hblt, Bool.true_and] at this
            exact this
          have hd0 : isD (B b) = true := by
            have := zB_n0 c216
            rw [decide_eq_true hblt, Bool.true_and] at this
            exact this
          have step : pr fx (px_body pm_X10_next) (d + 5) Q al n g0 r (S3 sc b (spn isD B (e - b) b)) ar 285 [.ref (al r), .int (nI (num B b (min (spn isD B (e - b) b - b) 6)))] [] → pr fx (px_body pm_X10_next) (d + 5) Q al n g0 r (S3 sc b b) ar 221 [.ref (al r), .int 0] [] := fun kont => by
            have h9 := rl_dig hB (e - b) b (by omega) (Nat.le_refl _) (fun j h1 h2 => by omega) kont
            rw [Nat.sub_self] at h9
            exact h9
          refine step ?_
          obtain ⟨A, hA⟩ : ∃ A, spn isD B (e - b) b = A := ⟨_, rfl⟩
          have hg := spn_ge isD B (e - b) b
          have hin9 := fun j => spn_in (c := isD) (B := B) (e - b) b j
          rw [hA] at hg hin9 ⊢
          have hAe : A ≤ e := by omega
          have hbA : b ≤ A := hg.1
          have hnl : A - b ≤ 6 → num B b (A - b) < 10 ^ (A - b) := fun _ => num_lt (A - b) (fun j hj => (isD_lt (hin9 (b + j) (by omega) (by omega))).2)
          have hnm : A - b ≤ 6 → num B b (A - b) < 1000000 := fun z => Nat.lt_of_lt_of_le (hnl z) (Nat.pow_le_pow_right (by decide) z)
          refine pr_aload_n dX10_next_285 rfl rfl ?_
          refine pr_getS (v := (nI A)) dX10_next_286 fk_X10_88 rfl rfl ?_
          refine pr_aload_n dX10_next_289 rfl rfl ?_
          refine pr_getS (v := (nI b)) dX10_next_290 fk_X10_91 rfl rfl ?_
          refine pr_isub dX10_next_293 ?_
          rw [show nI A - nI b = nI (A - b) from pk_sub hbA]
          refine pr_bipush dX10_next_294 (show (Int8.ofInt (6)).toInt32 = (6) by decide) ?_
          refine pr_icmp_le (tgt := 304) dX10_next_296 (by decide) (fun c296 => ?_) (fun c296 => ?_)
          ·
            have c2969 := Int32.not_lt.mpr c296
            have h6 : A - b ≤ 6 := by
              have := nI_leI (a := A - b) (b := 6) (by omega) (by decide)
              exact this.mp c296
            have hn6 := hnm h6
            refine pr_sipush dX10_next_304 (show (Int16.ofInt (1000)).toInt32 = (1000) by decide) ?_
            refine pr_iload_n dX10_next_307 rfl ?_
            refine pr_iadd dX10_next_308 ?_
            have e9 : tokI B e i b = nI (1000 + num B b (A - b)) := by rw [tokI_lo hi0, lexT_d hbe hl0 hd0, hA, if_neg (by omega)]
            exact pr_iretP hQ dX10_next_309 rfl rfl ⟨A, by rw [e9, rT_nI (by omega) (by omega), Nat.min_eq_left (by omega)]; rw [show (1000 : Int32) + nI (num B b (A - b)) = nI (1000 + num B b (A - b)) from nI_add 1000 _], rfl, rfl, fun _ _ => by rw [lexA_d hbe hl0 hd0, hA]⟩
          ·
            have c2969 := Int32.not_le.mp c296
            have h6 : 6 < A - b := by
              have := nI_ltI (a := 6) (b := A - b) (by decide) (by omega)
              exact this.mp c2969
            refine pr_bipush dX10_next_299 (show (Int8.ofInt (-3)).toInt32 = (-3) by decide) ?_
            refine pr_goto (tgt := 309) dX10_next_301 (by decide) ?_
            have e9 : tokI B e i b = -2 := by rw [tokI_lo hi0, lexT_d hbe hl0 hd0, hA, if_pos (by omega)]
            exact pr_iretP hQ dX10_next_309 rfl rfl ⟨A, by rw [e9, rT_m2], rfl, rfl, fun _ z => absurd e9 z⟩
      ·
        have hl0 : isL (B b) = true := by
          have := zB_n0 c82
          rw [decide_eq_true hblt, Bool.true_and] at this
          exact this
        have hbb := isL_lt hl0
        refine rl_let hB (e - b) b (by omega) ?_
        obtain ⟨A, hA⟩ : ∃ A, spn isL B (e - b) b = A := ⟨_, rfl⟩
        have hg := spn_ge isL B (e - b) b
        have hin9 := fun j => spn_in (c := isL) (B := B) (e - b) b j
        rw [hA] at hg hin9 ⊢
        have hAe : A ≤ e := by omega
        have hbA : b ≤ A := hg.1
        have hlet : ∀ k, b + k < A → B (b + k) < 128 := fun k hk => by have := isL_lt (hin9 (b + k) (by omega) hk); omega
        refine pr_aload_n dX10_next_113 rfl rfl ?_
        refine pr_getS (v := (nI A)) dX10_next_114 fk_X10_88 rfl rfl ?_
        refine pr_aload_n dX10_next_117 rfl rfl ?_
        refine pr_getS (v := (nI b)) dX10_next_118 fk_X10_91 rfl rfl ?_
        refine pr_isub dX10_next_121 ?_
        rw [show nI A - nI b = nI (A - b) from pk_sub hbA]
        refine pr_iconst dX10_next_122 (show Int32.ofInt (1) = (1) by decide) ?_
        refine pr_icmp_ne (tgt := 156) dX10_next_123 (by decide) (fun c123 => ?_) (fun c123 => ?_)
        ·
          have hA1 : ¬ A = b + 1 := fun z => c123 (by rw [z, Nat.add_sub_cancel_left]; rfl)
          refine pr_aload_n dX10_next_156 rfl rfl ?_
          refine pr_ldcS (i := 1) dX10_next_157 (List.mem_of_getElem? (i := 4) rfl) ?_
          refine pr_callX dX10_next_159 cl_X10_123 (rx_isWord d (S3 sc b A) ar (B := B) (e := e) (i := 1) hB (by decide) rfl rfl hAe hbA hlet) rfl rfl (Nat.le_of_ble_eq_true rfl) ⟨rfl, rfl⟩ ?_
          refine pr_if_eq (tgt := 171) dX10_next_162 (by decide) (fun c162 => ?_) (fun c162 => ?_)
          ·
            refine pr_aload_n dX10_next_171 rfl rfl ?_
            refine pr_ldcS (i := 2) dX10_next_172 (List.mem_of_getElem? (i := 5) rfl) ?_
            refine pr_callX dX10_next_174 cl_X10_123 (rx_isWord d (S3 sc b A) ar (B := B) (e := e) (i := 2) hB (by decide) rfl rfl hAe hbA hlet) rfl rfl (Nat.le_of_ble_eq_true rfl) ⟨rfl, rfl⟩ ?_
            refine pr_if_eq (tgt := 186) dX10_next_177 (by decide) (fun c177 => ?_) (fun c177 => ?_)
            ·
              refine pr_aload_n dX10_next_186 rfl rfl ?_
              refine pr_ldcS (i := 3) dX10_next_187 (List.mem_of_getElem? (i := 6) rfl) ?_
              refine pr_callX dX10_next_189 cl_X10_123 (rx_isWord d (S3 sc b A) ar (B := B) (e := e) (i := 3) hB (by decide) rfl rfl hAe hbA hlet) rfl rfl (Nat.le_of_ble_eq_true rfl) ⟨rfl, rfl⟩ ?_
              refine pr_if_eq (tgt := 201) dX10_next_192 (by decide) (fun c192 => ?_) (fun c192 => ?_)
              ·
                refine pr_bipush dX10_next_201 (show (Int8.ofInt (-3)).toInt32 = (-3) by decide) ?_
                have e9 : tokI B e i b = -2 := by rw [tokI_lo hi0, lexT_l hbe hl0, hA, if_neg hA1, if_neg (wIs_word c162), if_neg (wIs_word c177), if_neg (wIs_word c192)]
                exact pr_iretP hQ dX10_next_203 rfl rfl ⟨A, by rw [e9, rT_m2], rfl, rfl, fun _ z => absurd e9 z⟩
              ·
                refine pr_sipush dX10_next_195 (show (Int16.ofInt (258)).toInt32 = (258) by decide) ?_
                refine pr_goto (tgt := 203) dX10_next_198 (by decide) ?_
                have e9 : tokI B e i b = 258 := by rw [tokI_lo hi0, lexT_l hbe hl0, hA, if_neg hA1, if_neg (wIs_word c162), if_neg (wIs_word c177), if_pos (zB_n0 c192)]
                exact pr_iretP hQ dX10_next_203 rfl rfl ⟨A, by rw [e9]; rfl, rfl, rfl, fun _ _ => by rw [lexA_l hbe hl0, hA]⟩
            ·
              refine pr_sipush dX10_next_180 (show (Int16.ofInt (257)).toInt32 = (257) by decide) ?_
              refine pr_goto (tgt := 203) dX10_next_183 (by decide) ?_
              have e9 : tokI B e i b = 257 := by rw [tokI_lo hi0, lexT_l hbe hl0, hA, if_neg hA1, if_neg (wIs_word c162), if_pos (zB_n0 c177)]
              exact pr_iretP hQ dX10_next_203 rfl rfl ⟨A, by rw [e9]; rfl, rfl, rfl, fun _ _ => by rw [lexA_l hbe hl0, hA]⟩
          ·
            refine pr_sipush dX10_next_165 (show (Int16.ofInt (256)).toInt32 = (256) by decide) ?_
            refine pr_goto (tgt := 203) dX10_next_168 (by decide) ?_
            have e9 : tokI B e i b = 256 := by rw [tokI_lo hi0, lexT_l hbe hl0, hA, if_neg hA1, if_pos (zB_n0 c162)]
            exact pr_iretP hQ dX10_next_203 rfl rfl ⟨A, by rw [e9]; rfl, rfl, rfl, fun _ _ => by rw [lexA_l hbe hl0, hA]⟩
        ·
          have hA1 : A = b + 1 := by
            have := (nI_eq (a := A - b) (b := 1) (by omega) (by decide)).mp c123
            omega
          refine pr_aload_n dX10_next_126 rfl rfl ?_
          refine pr_getA dX10_next_127 fk_X10_9 rfl ?_
          refine pr_aload_n dX10_next_130 rfl rfl ?_
          refine pr_getS (v := (nI b)) dX10_next_131 fk_X10_91 rfl rfl ?_
          refine pr_bald (v := nI (B b)) (j := b) dX10_next_134 (by decide) rfl rfl (by show b < 400; omega) ((hB.2.2 b hblt).1.trans (sb_lo _ (by omega))) ?_
          refine pr_callSC dX10_next_135 cl_X10_117 (rc_isVariable (d + 3) (nI (B b))) rfl rfl (Nat.le_of_ble_eq_true rfl) ⟨rfl, rfl⟩ ?_
          refine pr_if_eq (tgt := 153) dX10_next_138 (by decide) (fun c138 => ?_) (fun c138 => ?_)
          ·
            refine pr_bipush dX10_next_153 (show (Int8.ofInt (-3)).toInt32 = (-3) by decide) ?_
            have e9 : tokI B e i b = -2 := by rw [tokI_lo hi0, lexT_l hbe hl0, hA, if_pos hA1, if_neg (by rw [zB_0.mp c138]; decide)]
            exact pr_iretP hQ dX10_next_155 rfl rfl ⟨A, by rw [e9, rT_m2], rfl, rfl, fun _ z => absurd e9 z⟩
          ·
            refine pr_aload_n dX10_next_141 rfl rfl ?_
            refine pr_getA dX10_next_142 fk_X10_9 rfl ?_
            refine pr_aload_n dX10_next_145 rfl rfl ?_
            refine pr_getS (v := (nI b)) dX10_next_146 fk_X10_91 rfl rfl ?_
            refine pr_bald (v := nI (B b)) (j := b) dX10_next_149 (by decide) rfl rfl (by show b < 400; omega) ((hB.2.2 b hblt).1.trans (sb_lo _ (by omega))) ?_
            refine pr_goto (tgt := 155) dX10_next_150 (by decide) ?_
            have e9 : tokI B e i b = nI (B b) := by rw [tokI_lo hi0, lexT_l hbe hl0, hA, if_pos hA1, if_pos (zB_n0 c138)]
            exact pr_iretP hQ dX10_next_155 rfl rfl ⟨A, by rw [e9, rT_nI (by omega) (by omega)], rfl, rfl, fun _ _ => by rw [lexA_l hbe hl0, hA]⟩
    ·
      refine pr_bipush dX10_next_67 (show (Int8.ofInt (-3)).toInt32 = (-3) by decide) ?_
      have hi9 : i = 120 := (nI_eq (a := i) (b := 120) (by omega) (by decide)).mp c64
      have e9 : tokI B e i b = -2 := by unfold tokI; rw [if_pos ⟨hi9, hbe⟩]
      exact pr_iretP hQ dX10_next_69 rfl rfl ⟨b, by rw [e9, rT_m2], rfl, rfl, fun _ z => absurd e9 z⟩
  ·
    refine pr_bipush dX10_next_55 (show (Int8.ofInt (-2)).toInt32 = (-2) by decide) ?_
    have hbe : b = e := (nI_eq (by omega) (by omega)).mp c52
    have e9 : tokI B e i b = 0 := by unfold tokI; rw [if_neg (fun z => z.2 hbe), lexT_end hbe]
    exact pr_iretP hQ dX10_next_57 rfl rfl ⟨b, by rw [e9]; rfl, rfl, rfl, fun z => absurd e9 z⟩
