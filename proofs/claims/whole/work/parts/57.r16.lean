set_option maxHeartbeats 4000000 in
set_option maxRecDepth 20000 in
theorem re_factor {m : Nat} {sc0 : Nat → Int32} {ar0 : Nat → Nat → Int32} {f : Nat} (hm : sc0 16 = nI m) (hm2 : m ≤ 120) (H : eH m sc0 ar0 f (f + 10)) {f1 : Nat} (hf : f1 ≤ f) {dp i j : Nat} {V : Nat → Int32} {t s hh : Int32} (h : pP (tz m (ar0 3)) (f1 + 1) 6 dp i = some (true, j)) : RP (f + 11) 118 [] (IX sc0 (nI i) t s 0 hh) (va_up ar0 8 V) (eQ sc0 ar0 V t hh j (eX (tz m (ar0 3)) V (f1 + 1) 6 dp none i s)) := by
  refine RP.of pm_X10_factor rfl rfl (Nat.le_of_ble_eq_true rfl) ?_
  intro fx al n g0 r Q hQ
  show pr fx (px_body pm_X10_factor) (f + 10) Q al n g0 r (IX sc0 (nI i) t s 0 hh) (va_up ar0 8 V) 0 [.ref (al r), .float 0, .float 0] []
  generalize hX : eX (tz m (ar0 3)) V (f1 + 1) 6 dp none i s = X at hQ
  rw [eX_6] at hX
  have hi := pP_in (by decide) h
  refine pr_aload_n dX10_factor_0 rfl rfl ?_
  refine pr_getA dX10_factor_1 fk_X10_24 rfl ?_
  refine pr_aload_n dX10_factor_4 rfl rfl ?_
  refine pr_getS (v := (nI i)) dX10_factor_5 fk_X10_207 rfl rfl ?_
  refine pr_iald (v := (tz m (ar0 3) i)) (j := i) dX10_factor_8 (by decide) rfl rfl (by show i < 120; omega) (tz_lt (by omega)).symm ?_
  refine pr_istore_n dX10_factor_9 (Nat.le_of_ble_eq_true rfl) ?_
  refine pr_aload_n dX10_factor_10 rfl rfl ?_
  refine pr_dup dX10_factor_11 rfl ?_
  refine pr_getS (v := (nI i)) dX10_factor_12 fk_X10_207 rfl rfl ?_
  refine pr_iconst dX10_factor_15 (show Int32.ofInt (1) = (1) by decide) ?_
  refine pr_iadd dX10_factor_16 ?_
  rw [nI_1]
  refine pr_put dX10_factor_17 fk_X10_207 rfl ⟨_, _, _, rfl, rfl⟩ rfl rfl ?_
  rw [IX_21]
  refine pr_iload_n dX10_factor_20 rfl ?_
  refine pr_sipush dX10_factor_21 (show (Int16.ofInt (1000)).toInt32 = (1000) by decide) ?_
  refine pr_icmp_lt (tgt := 33) dX10_factor_24 (by decide) (fun c24 => ?_) (fun c24 => ?_)
  ·
    have c249 := Int32.not_le.mpr c24
    refine pr_iload_n dX10_factor_33 rfl ?_
    refine pr_bipush dX10_factor_34 (show (Int8.ofInt (40)).toInt32 = (40) by decide) ?_
    refine pr_icmp_eq (tgt := 46) dX10_factor_36 (by decide) (fun c36 => ?_) (fun c36 => ?_)
    ·
      obtain ⟨hd, q, hq, htq, rfl⟩ : dp < 10 ∧ ∃ q, pP (tz m (ar0 3)) f1 3 (dp + 1) (i + 1) = some (true, q) ∧ tz m (ar0 3) q = nI 41 ∧ j = q + 1 := by
        rcases pP_t6 h with ⟨hv, e⟩ | ⟨_, _, hd, z⟩
        · rw [c36] at hv; exact absurd hv (by decide)
        · exact ⟨hd, z⟩
      rw [if_neg (Int32.not_le.mpr c24), if_pos (show tz m (ar0 3) i = nI 40 from c36)] at hX
      refine pr_aload_n dX10_factor_46 rfl rfl ?_
      refine pr_callP dX10_factor_47 cl_X10_210 (H f1 (by omega) 3 (by decide) (by decide) (dp + 1) (i + 1) q V t s hh hq) rfl rfl (Nat.le_of_ble_eq_true rfl) ⟨rfl, rfl⟩ (fun res sc2 ar2 hn => ?_)
      rcases hn with ⟨rfl, ⟨v, hv, rfl, rfl⟩ | ⟨hv, v, a, rfl, rfl⟩⟩
      ·
        refine pr_istore_n dX10_factor_50 (Nat.le_of_ble_eq_true rfl) ?_
        refine pr_aload_n dX10_factor_51 rfl rfl ?_
        refine pr_dup dX10_factor_52 rfl ?_
        refine pr_getS (v := (nI q)) dX10_factor_53 fk_X10_207 rfl rfl ?_
        refine pr_iconst dX10_factor_56 (show Int32.ofInt (1) = (1) by decide) ?_
        refine pr_iadd dX10_factor_57 ?_
        rw [nI_1]
        refine pr_put dX10_factor_58 fk_X10_207 rfl ⟨_, _, _, rfl, rfl⟩ rfl rfl ?_
        rw [IX_21]
        refine pr_iload_n dX10_factor_61 rfl ?_
        subst hX
        exact pr_iretP hQ dX10_factor_62 rfl rfl ⟨rfl, Or.inl ⟨_, hv, rfl, rfl⟩⟩
      ·
        refine pr_istore_n dX10_factor_50 (Nat.le_of_ble_eq_true rfl) ?_
        refine pr_aload_n dX10_factor_51 rfl rfl ?_
        refine pr_dup dX10_factor_52 rfl ?_
        refine pr_getS (v := a) dX10_factor_53 fk_X10_207 rfl rfl ?_
        refine pr_iconst dX10_factor_56 (show Int32.ofInt (1) = (1) by decide) ?_
        refine pr_iadd dX10_factor_57 ?_
        refine pr_put dX10_factor_58 fk_X10_207 rfl ⟨_, _, _, rfl, rfl⟩ rfl rfl ?_
        rw [IX_21]
        refine pr_iload_n dX10_factor_61 rfl ?_
        subst hX
        exact pr_iretP hQ dX10_factor_62 rfl rfl ⟨rfl, Or.inr ⟨hv, _, _, rfl, rfl⟩⟩
    ·
      obtain ⟨hv, rfl⟩ : isVar (tz m (ar0 3) i) = true ∧ j = i + 1 := by
        rcases pP_t6 h with ⟨hv, e⟩ | ⟨hv, ht, _⟩
        · exact ⟨hv.elim id (fun z => absurd z (Int32.not_le.mpr c24)), e⟩
        · exact absurd ht c36
      rw [if_neg (Int32.not_le.mpr c24), if_neg (show ¬ tz m (ar0 3) i = nI 40 from c36)] at hX
      refine pr_aload_n dX10_factor_39 rfl rfl ?_
      refine pr_getA dX10_factor_40 fk_X10_40 rfl ?_
      refine pr_iload_n dX10_factor_43 rfl ?_
      refine pr_iald (v := (V (vN (tz m (ar0 3) i)))) (j := vN (tz m (ar0 3) i)) dX10_factor_44 (by decide) rfl (vN_of hv) (by show _ < 128; exact vN_lt _) rfl ?_
      subst hX
      exact pr_iretP hQ dX10_factor_45 rfl rfl ⟨rfl, Or.inl ⟨_, rfl, rfl, rfl⟩⟩
  ·
    have c249 := Int32.not_lt.mp c24
    refine pr_iload_n dX10_factor_27 rfl ?_
    refine pr_sipush dX10_factor_28 (show (Int16.ofInt (1000)).toInt32 = (1000) by decide) ?_
    refine pr_isub dX10_factor_31 ?_
    rw [if_pos c249] at hX
    subst hX
    rcases pP_t6 h with ⟨hv, rfl⟩ | ⟨hv, _⟩
    · exact pr_iretP hQ dX10_factor_32 rfl rfl ⟨rfl, Or.inl ⟨_, rfl, rfl, rfl⟩⟩
    · exact absurd (Or.inr c249) hv
set_option maxHeartbeats 4000000 in
set_option maxRecDepth 20000 in
theorem re_expr {m : Nat} {sc0 : Nat → Int32} {ar0 : Nat → Nat → Int32} {f : Nat} (hm : sc0 16 = nI m) (hm2 : m ≤ 120) (H : eH m sc0 ar0 f (f + 10)) {f1 : Nat} (hf : f1 ≤ f) {dp i j : Nat} {V : Nat → Int32} {t s hh : Int32} (h : pP (tz m (ar0 3)) (f1 + 1) 3 dp i = some (true, j)) : RP (f + 11) 121 [] (IX sc0 (nI i) t s 0 hh) (va_up ar0 8 V) (eQ sc0 ar0 V t hh j (eX (tz m (ar0 3)) V (f1 + 1) 3 dp none i s)) := by
  refine RP.of pm_X10_expr rfl rfl (Nat.le_of_ble_eq_true rfl) ?_
  intro fx al n g0 r Q hQ
  show pr fx (px_body pm_X10_expr) (f + 10) Q al n g0 r (IX sc0 (nI i) t s 0 hh) (va_up ar0 8 V) 0 [.ref (al r), .float 0, .float 0] []
  generalize hX : eX (tz m (ar0 3)) V (f1 + 1) 3 dp none i s = X at hQ
  rw [eX] at hX
  have hi := pP_in (by decide) h
  obtain ⟨q, hq, hr⟩ := pP_t3 h
  rw [pE_of hq] at hX
  have hq9 := pP_in (by decide) hq
  refine pr_aload_n dX10_expr_0 rfl rfl ?_
  refine pr_callP dX10_expr_1 cl_X10_222 (H f1 (by omega) 4 (by decide) (by decide) dp i q V t s hh hq) rfl rfl (Nat.le_of_ble_eq_true rfl) ⟨rfl, rfl⟩ (fun res sc2 ar2 hn => ?_)
  rcases hn with ⟨rfl, ⟨v, hv, rfl, rfl⟩ | ⟨hv, v, a, rfl, rfl⟩⟩
  ·
    refine pr_istore_n dX10_expr_4 (Nat.le_of_ble_eq_true rfl) ?_
    refine pr_aload_n dX10_expr_5 rfl rfl ?_
    refine pr_getS (v := (0)) dX10_expr_6 fk_X10_193 rfl rfl ?_
    refine pr_if_ne (tgt := 37) dX10_expr_9 (by decide) (fun c9 => absurd c9 (by decide)) (fun _ => ?_)
    refine pr_aload_n dX10_expr_12 rfl rfl ?_
    refine pr_getS (v := (nI q)) dX10_expr_13 fk_X10_207 rfl rfl ?_
    refine pr_aload_n dX10_expr_16 rfl rfl ?_
    refine pr_getS (v := (nI m)) dX10_expr_17 fk_X10_184 rfl hm ?_
    refine pr_icmp_eq (tgt := 37) dX10_expr_20 (by decide) (fun c20 => ?_) (fun c20 => ?_)
    ·
      refine pr_iload_n dX10_expr_37 rfl ?_
      rw [bX_s hv] at hX
      obtain ⟨hn, rfl⟩ := hr.resolve_left (fun z => by have e9 := (nI_eq (a := q) (b := m) (by omega) (by omega)).mp c20; have := lit_in z.1 (by decide) (by decide); omega)
      rw [if_neg hn] at hX
      subst hX
      exact pr_iretP hQ dX10_expr_38 rfl rfl ⟨rfl, Or.inl ⟨_, rfl, rfl, rfl⟩⟩
    ·
      have hq2 : q < m := by
        have z : ¬ q = m := fun z => c20 (by rw [z])
        omega
      refine pr_aload_n dX10_expr_23 rfl rfl ?_
      refine pr_getA dX10_expr_24 fk_X10_24 rfl ?_
      refine pr_aload_n dX10_expr_27 rfl rfl ?_
      refine pr_getS (v := (nI q)) dX10_expr_28 fk_X10_207 rfl rfl ?_
      refine pr_iald (v := (tz m (ar0 3) q)) (j := q) dX10_expr_31 (by decide) rfl rfl (by show q < 120; omega) (tz_lt (by omega)).symm ?_
      refine pr_bipush dX10_expr_32 (show (Int8.ofInt (60)).toInt32 = (60) by decide) ?_
      refine pr_icmp_eq (tgt := 39) dX10_expr_34 (by decide) (fun c34 => ?_) (fun c34 => ?_)
      ·
        obtain ⟨_, hq3⟩ := hr.resolve_right (fun z => z.1 c34)
        have hj := pP_in (by decide) hq3
        rw [bX_s hv, if_pos (show tz m (ar0 3) q = nI 60 from c34)] at hX
        refine pr_aload_n dX10_expr_39 rfl rfl ?_
        refine pr_dup dX10_expr_40 rfl ?_
        refine pr_getS (v := (nI q)) dX10_expr_41 fk_X10_207 rfl rfl ?_
        refine pr_iconst dX10_expr_44 (show Int32.ofInt (1) = (1) by decide) ?_
        refine pr_iadd dX10_expr_45 ?_
        rw [nI_1]
        refine pr_put dX10_expr_46 fk_X10_207 rfl ⟨_, _, _, rfl, rfl⟩ rfl rfl ?_
        rw [IX_21]
        refine pr_aload_n dX10_expr_49 rfl rfl ?_
        refine pr_callP dX10_expr_50 cl_X10_222 (H f1 (by omega) 4 (by decide) (by decide) dp (q + 1) j V t (eX (tz m (ar0 3)) V f1 4 dp none i s).2 hh hq3) rfl rfl (Nat.le_of_ble_eq_true rfl) ⟨rfl, rfl⟩ (fun res sc2 ar2 hn => ?_)
        rcases hn with ⟨rfl, ⟨w, hw, rfl, rfl⟩ | ⟨hw, w, a2, rfl, rfl⟩⟩
        ·
          refine pr_istore_n dX10_expr_53 (Nat.le_of_ble_eq_true rfl) ?_
          refine pr_aload_n dX10_expr_54 rfl rfl ?_
          refine pr_getS (v := (0)) dX10_expr_55 fk_X10_193 rfl rfl ?_
          refine pr_if_eq (tgt := 63) dX10_expr_58 (by decide) (fun _ => ?_) (fun c58 => absurd c58 (by decide))
          rw [bX_s hw] at hX
          refine pr_aload_n dX10_expr_63 rfl rfl ?_
          refine pr_dup dX10_expr_64 rfl ?_
          refine pr_getS (v := (eX (tz m (ar0 3)) V f1 4 dp none (q + 1) (eX (tz m (ar0 3)) V f1 4 dp none i s).2).2) dX10_expr_65 fk_X10_216 rfl rfl ?_
          refine pr_bipush dX10_expr_68 (show (Int8.ofInt (16)).toInt32 = (16) by decide) ?_
          refine pr_ior dX10_expr_70 ?_
          refine pr_put dX10_expr_71 fk_X10_216 rfl ⟨_, _, _, rfl, rfl⟩ rfl rfl ?_
          rw [IX_23]
          refine pr_iload_n dX10_expr_74 rfl ?_
          refine pr_iload_n dX10_expr_75 rfl ?_
          refine pr_icmp_ge (tgt := 83) dX10_expr_76 (by decide) (fun c76 => ?_) (fun c76 => ?_)
          ·
            have c769 := Int32.not_lt.mpr c76
            rw [if_neg c769] at hX
            refine pr_iconst dX10_expr_83 (show Int32.ofInt (0) = (0) by decide) ?_
            subst hX
            exact pr_iretP hQ dX10_expr_84 rfl rfl ⟨rfl, Or.inl ⟨_, rfl, rfl, rfl⟩⟩
          ·
            have c769 := Int32.not_le.mp c76
            rw [if_pos c769] at hX
            refine pr_iconst dX10_expr_79 (show Int32.ofInt (1) = (1) by decide) ?_
            refine pr_goto (tgt := 84) dX10_expr_80 (by decide) ?_
            subst hX
            exact pr_iretP hQ dX10_expr_84 rfl rfl ⟨rfl, Or.inl ⟨_, rfl, rfl, rfl⟩⟩
        ·
          refine pr_istore_n dX10_expr_53 (Nat.le_of_ble_eq_true rfl) ?_
          refine pr_aload_n dX10_expr_54 rfl rfl ?_
          refine pr_getS (v := (1)) dX10_expr_55 fk_X10_193 rfl rfl ?_
          refine pr_if_eq (tgt := 63) dX10_expr_58 (by decide) (fun c58 => absurd c58 (by decide)) (fun _ => ?_)
          refine pr_iconst dX10_expr_61 (show Int32.ofInt (0) = (0) by decide) ?_
          rw [bX_n hw] at hX
          subst hX
          exact pr_iretP hQ dX10_expr_62 rfl rfl ⟨rfl, Or.inr ⟨rfl, _, _, rfl, rfl⟩⟩
      ·
        refine pr_iload_n dX10_expr_37 rfl ?_
        rw [bX_s hv] at hX
        obtain ⟨hn, rfl⟩ := hr.resolve_left (fun z => c34 z.1)
        rw [if_neg hn] at hX
        subst hX
        exact pr_iretP hQ dX10_expr_38 rfl rfl ⟨rfl, Or.inl ⟨_, rfl, rfl, rfl⟩⟩
  ·
    refine pr_istore_n dX10_expr_4 (Nat.le_of_ble_eq_true rfl) ?_
    refine pr_aload_n dX10_expr_5 rfl rfl ?_
    refine pr_getS (v := (1)) dX10_expr_6 fk_X10_193 rfl rfl ?_
    refine pr_if_ne (tgt := 37) dX10_expr_9 (by decide) (fun _ => ?_) (fun c9 => absurd c9 (by decide))
    refine pr_iload_n dX10_expr_37 rfl ?_
    rw [bX_n hv] at hX
    subst hX
    exact pr_iretP hQ dX10_expr_38 rfl rfl ⟨rfl, Or.inr ⟨rfl, _, _, rfl, rfl⟩⟩
set_option maxHeartbeats 4000000 in
set_option maxRecDepth 20000 in
theorem rx_term {m : Nat} {sc0 : Nat → Int32} {ar0 : Nat → Nat → Int32} {f : Nat} (hm : sc0 16 = nI m) (hm2 : m ≤ 120) {fx : px_F} {al : Nat → Nat} {n : Nat} {g0 : Nat → px_O} {r : Nat} {Q : px_Q} {dp q j : Nat} {V : Nat → Int32} {v t s hh : Int32} {X : Option Int32 × Int32} {l2 l3 : Value} (hn : ¬ (tz m (ar0 3) q = nI 42 ∨ tz m (ar0 3) q = nI 47 ∨ tz m (ar0 3) q = nI 37)) (hqm : q ≤ m) (hX : (some v, s) = X) (hj : j = q) (hQ : (∀ res sc2 ar2 g2, eQ sc0 ar0 V t hh j X res sc2 ar2 → RR al n g2 r sc2 ar2 → rf_fr r g0 g2 → Q (.inl res) al n g2)) : pr fx (px_body pm_X10_term) (f + 10) Q al n g0 r (IX sc0 (nI q) t s 0 hh) (va_up ar0 8 V) 5 [.ref (al r), .int v, l2, l3] [] := by
  subst hj
  refine pr_aload_n dX10_term_5 rfl rfl ?_
  refine pr_getS (v := (0)) dX10_term_6 fk_X10_193 rfl rfl ?_
  refine pr_if_ne (tgt := 168) dX10_term_9 (by decide) (fun c9 => absurd c9 (by decide)) (fun _ => ?_)
  refine pr_aload_n dX10_term_12 rfl rfl ?_
  refine pr_getS (v := (nI j)) dX10_term_13 fk_X10_207 rfl rfl ?_
  refine pr_aload_n dX10_term_16 rfl rfl ?_
  refine pr_getS (v := (nI m)) dX10_term_17 fk_X10_184 rfl hm ?_
  refine pr_icmp_ge (tgt := 168) dX10_term_20 (by decide) (fun c20 => ?_) (fun c20 => ?_)
  ·
    have c209 := Int32.not_lt.mpr c20
    refine pr_iload_n dX10_term_168 rfl ?_
    subst hX
    exact pr_iretP hQ dX10_term_169 rfl rfl ⟨rfl, Or.inl ⟨_, rfl, rfl, rfl⟩⟩
  ·
    have c209 := Int32.not_le.mp c20
    have hq2 : j < m := (nI_ltI (by omega) (by omega)).mp c209
    refine pr_aload_n dX10_term_23 rfl rfl ?_
    refine pr_getA dX10_term_24 fk_X10_24 rfl ?_
    refine pr_aload_n dX10_term_27 rfl rfl ?_
    refine pr_getS (v := (nI j)) dX10_term_28 fk_X10_207 rfl rfl ?_
    refine pr_iald (v := (tz m (ar0 3) j)) (j := j) dX10_term_31 (by decide) rfl rfl (by show j < 120; omega) (tz_lt (by omega)).symm ?_
    refine pr_bipush dX10_term_32 (show (Int8.ofInt (42)).toInt32 = (42) by decide) ?_
    refine pr_icmp_eq (tgt := 65) dX10_term_34 (by decide) (fun c34 => absurd c34 (fun z => hn (Or.inl z))) (fun c34 => ?_)
    refine pr_aload_n dX10_term_37 rfl rfl ?_
    refine pr_getA dX10_term_38 fk_X10_24 rfl ?_
    refine pr_aload_n dX10_term_41 rfl rfl ?_
    refine pr_getS (v := (nI j)) dX10_term_42 fk_X10_207 rfl rfl ?_
    refine pr_iald (v := (tz m (ar0 3) j)) (j := j) dX10_term_45 (by decide) rfl rfl (by show j < 120; omega) (tz_lt (by omega)).symm ?_
    refine pr_bipush dX10_term_46 (show (Int8.ofInt (47)).toInt32 = (47) by decide) ?_
    refine pr_icmp_eq (tgt := 65) dX10_term_48 (by decide) (fun c48 => absurd c48 (fun z => hn (Or.inr (Or.inl z)))) (fun c48 => ?_)
    refine pr_aload_n dX10_term_51 rfl rfl ?_
    refine pr_getA dX10_term_52 fk_X10_24 rfl ?_
    refine pr_aload_n dX10_term_55 rfl rfl ?_
    refine pr_getS (v := (nI j)) dX10_term_56 fk_X10_207 rfl rfl ?_
    refine pr_iald (v := (tz m (ar0 3) j)) (j := j) dX10_term_59 (by decide) rfl rfl (by show j < 120; omega) (tz_lt (by omega)).symm ?_
    refine pr_bipush dX10_term_60 (show (Int8.ofInt (37)).toInt32 = (37) by decide) ?_
    refine pr_icmp_ne (tgt := 168) dX10_term_62 (by decide) (fun c62 => ?_) (fun c62 => absurd c62 (fun z => hn (Or.inr (Or.inr z))))
    refine pr_iload_n dX10_term_168 rfl ?_
    subst hX
    exact pr_iretP hQ dX10_term_169 rfl rfl ⟨rfl, Or.inl ⟨_, rfl, rfl, rfl⟩⟩
set_option maxHeartbeats 4000000 in
set_option maxRecDepth 20000 in
theorem rl_term {m : Nat} {sc0 : Nat → Int32} {ar0 : Nat → Nat → Int32} {f : Nat} (hm : sc0 16 = nI m) (hm2 : m ≤ 120) (H : eH m sc0 ar0 f (f + 10)) : ∀ f1, f1 ≤ f → ∀ (fx : px_F) (al : Nat → Nat) (n : Nat) (g0 : Nat → px_O) (r : Nat) (Q : px_Q) (dp q j : Nat) (V : Nat → Int32) (v t s hh : Int32) (X : Option Int32 × Int32) (l2 l3 : Value), (((tz m (ar0 3) q = nI 42 ∨ tz m (ar0 3) q = nI 47 ∨ tz m (ar0 3) q = nI 37) ∧ pP (tz m (ar0 3)) f1 5 dp (q + 1) = some (true, j)) ∨ (¬ (tz m (ar0 3) q = nI 42 ∨ tz m (ar0 3) q = nI 47 ∨ tz m (ar0 3) q = nI 37) ∧ j = q)) → q ≤ m → (if tz m (ar0 3) q = nI 42 ∨ tz m (ar0 3) q = nI 47 ∨ tz m (ar0 3) q = nI 37 then eX (tz m (ar0 3)) V f1 5 dp (some (tz m (ar0 3) q, v)) (q + 1) s else (some v, s)) = X → (∀ res sc2 ar2 g2, eQ sc0 ar0 V t hh j X res sc2 ar2 → RR al n g2 r sc2 ar2 → rf_fr r g0 g2 → Q (.inl res) al n g2) → pr fx (px_body pm_X10_term) (f + 10) Q al n g0 r (IX sc0 (nI q) t s 0 hh) (va_up ar0 8 V) 5 [.ref (al r), .int v, l2, l3] []
  | 0, hf => fun fx al n g0 r Q dp q j V v t s hh X l2 l3 hr hqm hX hQ => by
    rcases hr with ⟨_, z⟩ | ⟨hn, hj⟩
    · rw [pP] at z; cases z
    · rw [if_neg hn] at hX
      exact rx_term (f := f) (dp := 0) hm hm2 hn hqm hX hj hQ
  | f1 + 1, hf => fun fx al n g0 r Q dp q j V v t s hh X l2 l3 hr hqm hX hQ => by
    rcases hr with ⟨hc, hC⟩ | ⟨hn, hj⟩
    rotate_left
    · rw [if_neg hn] at hX
      exact rx_term (f := f) (dp := 0) hm hm2 hn hqm hX hj hQ
    have hqm2 : q < m := hc.elim (fun z => lit_in z (by decide) (by decide)) (fun z => z.elim (fun z => lit_in z (by decide) (by decide)) (fun z => lit_in z (by decide) (by decide)))
    obtain ⟨q2, hq2, hr⟩ := pP_t5 hC
    have hq9 := pP_in (by decide) hq2
    rw [if_pos hc, eX, pE_of hq2] at hX
    refine pr_aload_n dX10_term_5 rfl rfl ?_
    refine pr_getS (v := (0)) dX10_term_6 fk_X10_193 rfl rfl ?_
    refine pr_if_ne (tgt := 168) dX10_term_9 (by decide) (fun c9 => absurd c9 (by decide)) (fun _ => ?_)
    refine pr_aload_n dX10_term_12 rfl rfl ?_
    refine pr_getS (v := (nI q)) dX10_term_13 fk_X10_207 rfl rfl ?_
    refine pr_aload_n dX10_term_16 rfl rfl ?_
    refine pr_getS (v := (nI m)) dX10_term_17 fk_X10_184 rfl hm ?_
    refine pr_icmp_ge (tgt := 168) dX10_term_20 (by decide) (fun c20 => absurd c20 (Int32.not_le.mpr (nI_lt hqm2 (by omega)))) (fun c20 => ?_)
    refine pr_aload_n dX10_term_23 rfl rfl ?_
    refine pr_getA dX10_term_24 fk_X10_24 rfl ?_
    refine pr_aload_n dX10_term_27 rfl rfl ?_
    refine pr_getS (v := (nI q)) dX10_term_28 fk_X10_207 rfl rfl ?_
    refine pr_iald (v := (tz m (ar0 3) q)) (j := q) dX10_term_31 (by decide) rfl rfl (by show q < 120; omega) (tz_lt (by omega)).symm ?_
    refine pr_bipush dX10_term_32 (show (Int8.ofInt (42)).toInt32 = (42) by decide) ?_
    refine pr_icmp_eq (tgt := 65) dX10_term_34 (by decide) (fun c34 => ?_) (fun c34 => ?_)
    ·
      refine pr_aload_n dX10_term_65 rfl rfl ?_
      refine pr_getA dX10_term_66 fk_X10_24 rfl ?_
      refine pr_aload_n dX10_term_69 rfl rfl ?_
      refine pr_getS (v := (nI q)) dX10_term_70 fk_X10_207 rfl rfl ?_
      refine pr_iald (v := (tz m (ar0 3) q)) (j := q) dX10_term_73 (by decide) rfl rfl (by show q < 120; omega) (tz_lt (by omega)).symm ?_
      refine pr_istore_n dX10_term_74 (Nat.le_of_ble_eq_true rfl) ?_
      refine pr_aload_n dX10_term_75 rfl rfl ?_
      refine pr_dup dX10_term_76 rfl ?_
      refine pr_getS (v := (nI q)) dX10_term_77 fk_X10_207 rfl rfl ?_
      refine pr_iconst dX10_term_80 (show Int32.ofInt (1) = (1) by decide) ?_
      refine pr_iadd dX10_term_81 ?_
      rw [nI_1]
      refine pr_put dX10_term_82 fk_X10_207 rfl ⟨_, _, _, rfl, rfl⟩ rfl rfl ?_
      rw [IX_21]
      refine pr_aload_n dX10_term_85 rfl rfl ?_
      refine pr_callP dX10_term_86 cl_X10_213 (H f1 (by omega) 6 (by decide) (by decide) dp (q + 1) q2 V t s hh hq2) rfl rfl (Nat.le_of_ble_eq_true rfl) ⟨rfl, rfl⟩ (fun res sc2 ar2 hn => ?_)
      rcases hn with ⟨rfl, ⟨w, hw, rfl, rfl⟩ | ⟨hw, w, a, rfl, rfl⟩⟩
      ·
        refine pr_istore_n dX10_term_89 (Nat.le_of_ble_eq_true rfl) ?_
        refine pr_aload_n dX10_term_90 rfl rfl ?_
        refine pr_getS (v := (0)) dX10_term_91 fk_X10_193 rfl rfl ?_
        refine pr_if_eq (tgt := 99) dX10_term_94 (by decide) (fun _ => ?_) (fun c94 => absurd c94 (by decide))
        rw [bX_s hw] at hX
        rw [show tmC (some (tz m (ar0 3) q, v)) w (eX (tz m (ar0 3)) V f1 6 dp none (q + 1) s).2 = (some (v * w), (eX (tz m (ar0 3)) V f1 6 dp none (q + 1) s).2 ||| 4) from if_pos c34, bX_s rfl] at hX
        refine pr_aload_n dX10_term_99 rfl rfl ?_
        refine pr_dup dX10_term_100 rfl ?_
        refine pr_getS (v := (eX (tz m (ar0 3)) V f1 6 dp none (q + 1) s).2) dX10_term_101 fk_X10_216 rfl rfl ?_
        refine pr_iload_n dX10_term_104 rfl ?_
        refine pr_bipush dX10_term_105 (show (Int8.ofInt (42)).toInt32 = (42) by decide) ?_
        refine pr_icmp_ne (tgt := 114) dX10_term_107 (by decide) (fun c107 => absurd c107 (fun z => z c34)) (fun c107 => ?_)
        refine pr_iconst dX10_term_110 (show Int32.ofInt (4) = (4) by decide) ?_
        refine pr_goto (tgt := 116) dX10_term_111 (by decide) ?_
        refine pr_ior dX10_term_116 ?_
        refine pr_put dX10_term_117 fk_X10_216 rfl ⟨_, _, _, rfl, rfl⟩ rfl rfl ?_
        rw [IX_23]
        refine pr_iload_n dX10_term_120 rfl ?_
        refine pr_bipush dX10_term_121 (show (Int8.ofInt (42)).toInt32 = (42) by decide) ?_
        refine pr_icmp_eq (tgt := 137) dX10_term_123 (by decide) (fun c123 => ?_) (fun c123 => absurd c34 c123)
        refine pr_iload_n dX10_term_137 rfl ?_
        refine pr_bipush dX10_term_138 (show (Int8.ofInt (42)).toInt32 = (42) by decide) ?_
        refine pr_icmp_ne (tgt := 149) dX10_term_140 (by decide) (fun c140 => absurd c140 (fun z => z c34)) (fun c140 => ?_)
        refine pr_iload_n dX10_term_143 rfl ?_
        refine pr_iload_n dX10_term_144 rfl ?_
        refine pr_imul dX10_term_145 ?_
        refine pr_goto (tgt := 164) dX10_term_146 (by decide) ?_
        refine pr_istore_n dX10_term_164 (Nat.le_of_ble_eq_true rfl) ?_
        refine pr_goto (tgt := 5) dX10_term_165 (by decide) ?_
        exact rl_term hm hm2 H f1 (by omega) _ _ _ _ _ _ _ _ _ _ _ _ _ _ _ _ _ hr (by omega) hX hQ
      ·
        refine pr_istore_n dX10_term_89 (Nat.le_of_ble_eq_true rfl) ?_
        refine pr_aload_n dX10_term_90 rfl rfl ?_
        refine pr_getS (v := (1)) dX10_term_91 fk_X10_193 rfl rfl ?_
        refine pr_if_eq (tgt := 99) dX10_term_94 (by decide) (fun c94 => absurd c94 (by decide)) (fun _ => ?_)
        refine pr_iconst dX10_term_97 (show Int32.ofInt (0) = (0) by decide) ?_
        rw [bX_n hw] at hX
        subst hX
        exact pr_iretP hQ dX10_term_98 rfl rfl ⟨rfl, Or.inr ⟨rfl, _, _, rfl, rfl⟩⟩
    ·
      refine pr_aload_n dX10_term_37 rfl rfl ?_
      refine pr_getA dX10_term_38 fk_X10_24 rfl ?_
      refine pr_aload_n dX10_term_41 rfl rfl ?_
      refine pr_getS (v := (nI q)) dX10_term_42 fk_X10_207 rfl rfl ?_
      refine pr_iald (v := (tz m (ar0 3) q)) (j := q) dX10_term_45 (by decide) rfl rfl (by show q < 120; omega) (tz_lt (by omega)).symm ?_
      refine pr_bipush dX10_term_46 (show (Int8.ofInt (47)).toInt32 = (47) by decide) ?_
      refine pr_icmp_eq (tgt := 65) dX10_term_48 (by decide) (fun c48 => ?_) (fun c48 => ?_)
      ·
        refine pr_aload_n dX10_term_65 rfl rfl ?_
        refine pr_getA dX10_term_66 fk_X10_24 rfl ?_
        refine pr_aload_n dX10_term_69 rfl rfl ?_
        refine pr_getS (v := (nI q)) dX10_term_70 fk_X10_207 rfl rfl ?_
        refine pr_iald (v := (tz m (ar0 3) q)) (j := q) dX10_term_73 (by decide) rfl rfl (by show q < 120; omega) (tz_lt (by omega)).symm ?_
        refine pr_istore_n dX10_term_74 (Nat.le_of_ble_eq_true rfl) ?_
        refine pr_aload_n dX10_term_75 rfl rfl ?_
        refine pr_dup dX10_term_76 rfl ?_
        refine pr_getS (v := (nI q)) dX10_term_77 fk_X10_207 rfl rfl ?_
        refine pr_iconst dX10_term_80 (show Int32.ofInt (1) = (1) by decide) ?_
        refine pr_iadd dX10_term_81 ?_
        rw [nI_1]
        refine pr_put dX10_term_82 fk_X10_207 rfl ⟨_, _, _, rfl, rfl⟩ rfl rfl ?_
        rw [IX_21]
        refine pr_aload_n dX10_term_85 rfl rfl ?_
        refine pr_callP dX10_term_86 cl_X10_213 (H f1 (by omega) 6 (by decide) (by decide) dp (q + 1) q2 V t s hh hq2) rfl rfl (Nat.le_of_ble_eq_true rfl) ⟨rfl, rfl⟩ (fun res sc2 ar2 hn => ?_)
        rcases hn with ⟨rfl, ⟨w, hw, rfl, rfl⟩ | ⟨hw, w, a, rfl, rfl⟩⟩
        ·
          refine pr_istore_n dX10_term_89 (Nat.le_of_ble_eq_true rfl) ?_
          refine pr_aload_n dX10_term_90 rfl rfl ?_
          refine pr_getS (v := (0)) dX10_term_91 fk_X10_193 rfl rfl ?_
          refine pr_if_eq (tgt := 99) dX10_term_94 (by decide) (fun _ => ?_) (fun c94 => absurd c94 (by decide))
          rw [bX_s hw] at hX
          refine pr_aload_n dX10_term_99 rfl rfl ?_
          refine pr_dup dX10_term_100 rfl ?_
          refine pr_getS (v := (eX (tz m (ar0 3)) V f1 6 dp none (q + 1) s).2) dX10_term_101 fk_X10_216 rfl rfl ?_
          refine pr_iload_n dX10_term_104 rfl ?_
          refine pr_bipush dX10_term_105 (show (Int8.ofInt (42)).toInt32 = (42) by decide) ?_
          refine pr_icmp_ne (tgt := 114) dX10_term_107 (by decide) (fun c107 => ?_) (fun c107 => absurd c107 c34)
          refine pr_bipush dX10_term_114 (show (Int8.ofInt (8)).toInt32 = (8) by decide) ?_
          refine pr_ior dX10_term_116 ?_
          refine pr_put dX10_term_117 fk_X10_216 rfl ⟨_, _, _, rfl, rfl⟩ rfl rfl ?_
          rw [IX_23]
          refine pr_iload_n dX10_term_120 rfl ?_
          refine pr_bipush dX10_term_121 (show (Int8.ofInt (42)).toInt32 = (42) by decide) ?_
          refine pr_icmp_eq (tgt := 137) dX10_term_123 (by decide) (fun c123 => absurd c123 c34) (fun c123 => ?_)
          refine pr_iload_n dX10_term_126 rfl ?_
          refine pr_if_ne (tgt := 137) dX10_term_127 (by decide) (fun c127 => ?_) (fun c127 => ?_)
          ·
            rw [show tmC (some (tz m (ar0 3) q, v)) w (eX (tz m (ar0 3)) V f1 6 dp none (q + 1) s).2 = (some (v / w), (eX (tz m (ar0 3)) V f1 6 dp none (q + 1) s).2 ||| 8) from (if_neg c34).trans ((if_neg c127).trans (by rw [if_pos (show tz m (ar0 3) q = nI 47 from c48)])), bX_s rfl] at hX
            refine pr_iload_n dX10_term_137 rfl ?_
            refine pr_bipush dX10_term_138 (show (Int8.ofInt (42)).toInt32 = (42) by decide) ?_
            refine pr_icmp_ne (tgt := 149) dX10_term_140 (by decide) (fun c140 => ?_) (fun c140 => absurd c140 c34)
            refine pr_iload_n dX10_term_149 rfl ?_
            refine pr_bipush dX10_term_150 (show (Int8.ofInt (47)).toInt32 = (47) by decide) ?_
            refine pr_icmp_ne (tgt := 161) dX10_term_152 (by decide) (fun c152 => absurd c152 (fun z => z c48)) (fun c152 => ?_)
            refine pr_iload_n dX10_term_155 rfl ?_
            refine pr_iload_n dX10_term_156 rfl ?_
            refine pr_idiv dX10_term_157 c127 ?_
            refine pr_goto (tgt := 164) dX10_term_158 (by decide) ?_
            refine pr_istore_n dX10_term_164 (Nat.le_of_ble_eq_true rfl) ?_
            refine pr_goto (tgt := 5) dX10_term_165 (by decide) ?_
            exact rl_term hm hm2 H f1 (by omega) _ _ _ _ _ _ _ _ _ _ _ _ _ _ _ _ _ hr (by omega) hX hQ
          ·
            refine pr_aload_n dX10_term_130 rfl rfl ?_
            refine pr_iconst dX10_term_131 (show Int32.ofInt (1) = (1) by decide) ?_
            refine pr_call dX10_term_132 cl_X10_203 (rc_ends (f + 9) _ _ 1) rfl rfl (Nat.le_of_ble_eq_true rfl) ⟨rfl, rfl⟩ ?_
            rw [IX_25, IX_24]
            refine pr_iconst dX10_term_135 (show Int32.ofInt (0) = (0) by decide) ?_
            rw [show tmC (some (tz m (ar0 3) q, v)) w (eX (tz m (ar0 3)) V f1 6 dp none (q + 1) s).2 = (none, (eX (tz m (ar0 3)) V f1 6 dp none (q + 1) s).2 ||| 8) from (if_neg c34).trans (if_pos (c127)), bX_n rfl] at hX
            subst hX
            exact pr_iretP hQ dX10_term_136 rfl rfl ⟨rfl, Or.inr ⟨rfl, _, _, rfl, rfl⟩⟩
        ·
          refine pr_istore_n dX10_term_89 (Nat.le_of_ble_eq_true rfl) ?_
          refine pr_aload_n dX10_term_90 rfl rfl ?_
          refine pr_getS (v := (1)) dX10_term_91 fk_X10_193 rfl rfl ?_
          refine pr_if_eq (tgt := 99) dX10_term_94 (by decide) (fun c94 => absurd c94 (by decide)) (fun _ => ?_)
          refine pr_iconst dX10_term_97 (show Int32.ofInt (0) = (0) by decide) ?_
          rw [bX_n hw] at hX
          subst hX
          exact pr_iretP hQ dX10_term_98 rfl rfl ⟨rfl, Or.inr ⟨rfl, _, _, rfl, rfl⟩⟩
      ·
        refine pr_aload_n dX10_term_51 rfl rfl ?_
        refine pr_getA dX10_term_52 fk_X10_24 rfl ?_
        refine pr_aload_n dX10_term_55 rfl rfl ?_
        refine pr_getS (v := (nI q)) dX10_term_56 fk_X10_207 rfl rfl ?_
        refine pr_iald (v := (tz m (ar0 3) q)) (j := q) dX10_term_59 (by decide) rfl rfl (by show q < 120; omega) (tz_lt (by omega)).symm ?_
        refine pr_bipush dX10_term_60 (show (Int8.ofInt (37)).toInt32 = (37) by decide) ?_
        refine pr_icmp_ne (tgt := 168) dX10_term_62 (by decide) (fun c62 => absurd ((hc.resolve_left c34).resolve_left c48) c62) (fun c62 => ?_)
        refine pr_aload_n dX10_term_65 rfl rfl ?_
        refine pr_getA dX10_term_66 fk_X10_24 rfl ?_
        refine pr_aload_n dX10_term_69 rfl rfl ?_
        refine pr_getS (v := (nI q)) dX10_term_70 fk_X10_207 rfl rfl ?_
        refine pr_iald (v := (tz m (ar0 3) q)) (j := q) dX10_term_73 (by decide) rfl rfl (by show q < 120; omega) (tz_lt (by omega)).symm ?_
        refine pr_istore_n dX10_term_74 (Nat.le_of_ble_eq_true rfl) ?_
        refine pr_aload_n dX10_term_75 rfl rfl ?_
        refine pr_dup dX10_term_76 rfl ?_
        refine pr_getS (v := (nI q)) dX10_term_77 fk_X10_207 rfl rfl ?_
        refine pr_iconst dX10_term_80 (show Int32.ofInt (1) = (1) by decide) ?_
        refine pr_iadd dX10_term_81 ?_
        rw [nI_1]
        refine pr_put dX10_term_82 fk_X10_207 rfl ⟨_, _, _, rfl, rfl⟩ rfl rfl ?_
        rw [IX_21]
        refine pr_aload_n dX10_term_85 rfl rfl ?_
        refine pr_callP dX10_term_86 cl_X10_213 (H f1 (by omega) 6 (by decide) (by decide) dp (q + 1) q2 V t s hh hq2) rfl rfl (Nat.le_of_ble_eq_true rfl) ⟨rfl, rfl⟩ (fun res sc2 ar2 hn => ?_)
        rcases hn with ⟨rfl, ⟨w, hw, rfl, rfl⟩ | ⟨hw, w, a, rfl, rfl⟩⟩
        ·
          refine pr_istore_n dX10_term_89 (Nat.le_of_ble_eq_true rfl) ?_
          refine pr_aload_n dX10_term_90 rfl rfl ?_
          refine pr_getS (v := (0)) dX10_term_91 fk_X10_193 rfl rfl ?_
          refine pr_if_eq (tgt := 99) dX10_term_94 (by decide) (fun _ => ?_) (fun c94 => absurd c94 (by decide))
          rw [bX_s hw] at hX
          have c379 : tz m (ar0 3) q = nI 37 := (hc.resolve_left c34).resolve_left c48
          refine pr_aload_n dX10_term_99 rfl rfl ?_
          refine pr_dup dX10_term_100 rfl ?_
          refine pr_getS (v := (eX (tz m (ar0 3)) V f1 6 dp none (q + 1) s).2) dX10_term_101 fk_X10_216 rfl rfl ?_
          refine pr_iload_n dX10_term_104 rfl ?_
          refine pr_bipush dX10_term_105 (show (Int8.ofInt (42)).toInt32 = (42) by decide) ?_
          refine pr_icmp_ne (tgt := 114) dX10_term_107 (by decide) (fun c107 => ?_) (fun c107 => absurd c107 c34)
          refine pr_bipush dX10_term_114 (show (Int8.ofInt (8)).toInt32 = (8) by decide) ?_
          refine pr_ior dX10_term_116 ?_
          refine pr_put dX10_term_117 fk_X10_216 rfl ⟨_, _, _, rfl, rfl⟩ rfl rfl ?_
          rw [IX_23]
          refine pr_iload_n dX10_term_120 rfl ?_
          refine pr_bipush dX10_term_121 (show (Int8.ofInt (42)).toInt32 = (42) by decide) ?_
          refine pr_icmp_eq (tgt := 137) dX10_term_123 (by decide) (fun c123 => absurd c123 c34) (fun c123 => ?_)
          refine pr_iload_n dX10_term_126 rfl ?_
          refine pr_if_ne (tgt := 137) dX10_term_127 (by decide) (fun c127 => ?_) (fun c127 => ?_)
          ·
            rw [show tmC (some (tz m (ar0 3) q, v)) w (eX (tz m (ar0 3)) V f1 6 dp none (q + 1) s).2 = (some (v - v / w * w), (eX (tz m (ar0 3)) V f1 6 dp none (q + 1) s).2 ||| 8) from (if_neg c34).trans ((if_neg c127).trans (by rw [if_neg (show ¬ tz m (ar0 3) q = nI 47 from c48)])), bX_s rfl] at hX
            refine pr_iload_n dX10_term_137 rfl ?_
            refine pr_bipush dX10_term_138 (show (Int8.ofInt (42)).toInt32 = (42) by decide) ?_
            refine pr_icmp_ne (tgt := 149) dX10_term_140 (by decide) (fun c140 => ?_) (fun c140 => absurd c140 c34)
            refine pr_iload_n dX10_term_149 rfl ?_
            refine pr_bipush dX10_term_150 (show (Int8.ofInt (47)).toInt32 = (47) by decide) ?_
            refine pr_icmp_ne (tgt := 161) dX10_term_152 (by decide) (fun c152 => ?_) (fun c152 => absurd c152 c48)
            refine pr_iload_n dX10_term_161 rfl ?_
            refine pr_iload_n dX10_term_162 rfl ?_
            refine pr_irem dX10_term_163 c127 ?_
            refine pr_istore_n dX10_term_164 (Nat.le_of_ble_eq_true rfl) ?_
            refine pr_goto (tgt := 5) dX10_term_165 (by decide) ?_
            exact rl_term hm hm2 H f1 (by omega) _ _ _ _ _ _ _ _ _ _ _ _ _ _ _ _ _ hr (by omega) hX hQ
          ·
            refine pr_aload_n dX10_term_130 rfl rfl ?_
            refine pr_iconst dX10_term_131 (show Int32.ofInt (1) = (1) by decide) ?_
            refine pr_call dX10_term_132 cl_X10_203 (rc_ends (f + 9) _ _ 1) rfl rfl (Nat.le_of_ble_eq_true rfl) ⟨rfl, rfl⟩ ?_
            rw [IX_25, IX_24]
            refine pr_iconst dX10_term_135 (show Int32.ofInt (0) = (0) by decide) ?_
            rw [show tmC (some (tz m (ar0 3) q, v)) w (eX (tz m (ar0 3)) V f1 6 dp none (q + 1) s).2 = (none, (eX (tz m (ar0 3)) V f1 6 dp none (q + 1) s).2 ||| 8) from (if_neg c34).trans (if_pos (c127)), bX_n rfl] at hX
            subst hX
            exact pr_iretP hQ dX10_term_136 rfl rfl ⟨rfl, Or.inr ⟨rfl, _, _, rfl, rfl⟩⟩
        ·
          refine pr_istore_n dX10_term_89 (Nat.le_of_ble_eq_true rfl) ?_
          refine pr_aload_n dX10_term_90 rfl rfl ?_
          refine pr_getS (v := (1)) dX10_term_91 fk_X10_193 rfl rfl ?_
          refine pr_if_eq (tgt := 99) dX10_term_94 (by decide) (fun c94 => absurd c94 (by decide)) (fun _ => ?_)
          refine pr_iconst dX10_term_97 (show Int32.ofInt (0) = (0) by decide) ?_
          rw [bX_n hw] at hX
          subst hX
          exact pr_iretP hQ dX10_term_98 rfl rfl ⟨rfl, Or.inr ⟨rfl, _, _, rfl, rfl⟩⟩
set_option maxHeartbeats 4000000 in
set_option maxRecDepth 20000 in
theorem re_term {m : Nat} {sc0 : Nat → Int32} {ar0 : Nat → Nat → Int32} {f : Nat} (hm : sc0 16 = nI m) (hm2 : m ≤ 120) (H : eH m sc0 ar0 f (f + 10)) {f1 : Nat} (hf : f1 ≤ f) {dp i j : Nat} {V : Nat → Int32} {t s hh : Int32} (h : pP (tz m (ar0 3)) (f1 + 1) 5 dp i = some (true, j)) : RP (f + 11) 119 [] (IX sc0 (nI i) t s 0 hh) (va_up ar0 8 V) (eQ sc0 ar0 V t hh j (eX (tz m (ar0 3)) V (f1 + 1) 5 dp none i s)) := by
  refine RP.of pm_X10_term rfl rfl (Nat.le_of_ble_eq_true rfl) ?_
  intro fx al n g0 r Q hQ
  show pr fx (px_body pm_X10_term) (f + 10) Q al n g0 r (IX sc0 (nI i) t s 0 hh) (va_up ar0 8 V) 0 [.ref (al r), .float 0, .float 0, .float 0] []
  generalize hX : eX (tz m (ar0 3)) V (f1 + 1) 5 dp none i s = X at hQ
  rw [eX] at hX
  have hi := pP_in (by decide) h
  obtain ⟨q, hq, hr⟩ := pP_t5 h
  rw [pE_of hq] at hX
  have hq9 := pP_in (by decide) hq
  refine pr_aload_n dX10_term_0 rfl rfl ?_
  refine pr_callP dX10_term_1 cl_X10_213 (H f1 (by omega) 6 (by decide) (by decide) dp i q V t s hh hq) rfl rfl (Nat.le_of_ble_eq_true rfl) ⟨rfl, rfl⟩ (fun res sc2 ar2 hn => ?_)
  rcases hn with ⟨rfl, ⟨v, hv, rfl, rfl⟩ | ⟨hv, v, a, rfl, rfl⟩⟩
  ·
    refine pr_istore_n dX10_term_4 (Nat.le_of_ble_eq_true rfl) ?_
    rw [bX_s hv] at hX
    rw [show tmC none v (eX (tz m (ar0 3)) V f1 6 dp none i s).2 = (some v, (eX (tz m (ar0 3)) V f1 6 dp none i s).2) from rfl, bX_s rfl] at hX
    exact rl_term hm hm2 H f1 hf _ _ _ _ _ _ _ _ _ _ _ _ _ _ _ _ _ hr (by omega) hX hQ
  ·
    refine pr_istore_n dX10_term_4 (Nat.le_of_ble_eq_true rfl) ?_
    refine pr_aload_n dX10_term_5 rfl rfl ?_
    refine pr_getS (v := (1)) dX10_term_6 fk_X10_193 rfl rfl ?_
    refine pr_if_ne (tgt := 168) dX10_term_9 (by decide) (fun _ => ?_) (fun c9 => absurd c9 (by decide))
    refine pr_iload_n dX10_term_168 rfl ?_
    rw [bX_n hv] at hX
    subst hX
    exact pr_iretP hQ dX10_term_169 rfl rfl ⟨rfl, Or.inr ⟨rfl, _, _, rfl, rfl⟩⟩
set_option maxHeartbeats 4000000 in
set_option maxRecDepth 20000 in
theorem rx_sum {m : Nat} {sc0 : Nat → Int32} {ar0 : Nat → Nat → Int32} {f : Nat} (hm : sc0 16 = nI m) (hm2 : m ≤ 120) {fx : px_F} {al : Nat → Nat} {n : Nat} {g0 : Nat → px_O} {r : Nat} {Q : px_Q} {dp q j : Nat} {V : Nat → Int32} {v t s hh : Int32} {X : Option Int32 × Int32} {l2 l3 : Value} (hn : ¬ (tz m (ar0 3) q = nI 43 ∨ tz m (ar0 3) q = nI 45)) (hqm : q ≤ m) (hX : (some v, s) = X) (hj : j = q) (hQ : (∀ res sc2 ar2 g2, eQ sc0 ar0 V t hh j X res sc2 ar2 → RR al n g2 r sc2 ar2 → rf_fr r g0 g2 → Q (.inl res) al n g2)) : pr fx (px_body pm_X10_sum) (f + 10) Q al n g0 r (IX sc0 (nI q) t s 0 hh) (va_up ar0 8 V) 5 [.ref (al r), .int v, l2, l3] [] := by
  subst hj
  refine pr_aload_n dX10_sum_5 rfl rfl ?_
  refine pr_getS (v := (0)) dX10_sum_6 fk_X10_193 rfl rfl ?_
  refine pr_if_ne (tgt := 114) dX10_sum_9 (by decide) (fun c9 => absurd c9 (by decide)) (fun _ => ?_)
  refine pr_aload_n dX10_sum_12 rfl rfl ?_
  refine pr_getS (v := (nI j)) dX10_sum_13 fk_X10_207 rfl rfl ?_
  refine pr_aload_n dX10_sum_16 rfl rfl ?_
  refine pr_getS (v := (nI m)) dX10_sum_17 fk_X10_184 rfl hm ?_
  refine pr_icmp_ge (tgt := 114) dX10_sum_20 (by decide) (fun c20 => ?_) (fun c20 => ?_)
  ·
    have c209 := Int32.not_lt.mpr c20
    refine pr_iload_n dX10_sum_114 rfl ?_
    subst hX
    exact pr_iretP hQ dX10_sum_115 rfl rfl ⟨rfl, Or.inl ⟨_, rfl, rfl, rfl⟩⟩
  ·
    have c209 := Int32.not_le.mp c20
    have hq2 : j < m := (nI_ltI (by omega) (by omega)).mp c209
    refine pr_aload_n dX10_sum_23 rfl rfl ?_
    refine pr_getA dX10_sum_24 fk_X10_24 rfl ?_
    refine pr_aload_n dX10_sum_27 rfl rfl ?_
    refine pr_getS (v := (nI j)) dX10_sum_28 fk_X10_207 rfl rfl ?_
    refine pr_iald (v := (tz m (ar0 3) j)) (j := j) dX10_sum_31 (by decide) rfl rfl (by show j < 120; omega) (tz_lt (by omega)).symm ?_
    refine pr_bipush dX10_sum_32 (show (Int8.ofInt (43)).toInt32 = (43) by decide) ?_
    refine pr_icmp_eq (tgt := 51) dX10_sum_34 (by decide) (fun c34 => absurd c34 (fun z => hn (Or.inl z))) (fun c34 => ?_)
    refine pr_aload_n dX10_sum_37 rfl rfl ?_
    refine pr_getA dX10_sum_38 fk_X10_24 rfl ?_
    refine pr_aload_n dX10_sum_41 rfl rfl ?_
    refine pr_getS (v := (nI j)) dX10_sum_42 fk_X10_207 rfl rfl ?_
    refine pr_iald (v := (tz m (ar0 3) j)) (j := j) dX10_sum_45 (by decide) rfl rfl (by show j < 120; omega) (tz_lt (by omega)).symm ?_
    refine pr_bipush dX10_sum_46 (show (Int8.ofInt (45)).toInt32 = (45) by decide) ?_
    refine pr_icmp_ne (tgt := 114) dX10_sum_48 (by decide) (fun c48 => ?_) (fun c48 => absurd c48 (fun z => hn (Or.inr z)))
    refine pr_iload_n dX10_sum_114 rfl ?_
    subst hX
    exact pr_iretP hQ dX10_sum_115 rfl rfl ⟨rfl, Or.inl ⟨_, rfl, rfl, rfl⟩⟩
set_option maxHeartbeats 4000000 in
set_option maxRecDepth 20000 in
theorem rl_sum {m : Nat} {sc0 : Nat → Int32} {ar0 : Nat → Nat → Int32} {f : Nat} (hm : sc0 16 = nI m) (hm2 : m ≤ 120) (H : eH m sc0 ar0 f (f + 10)) : ∀ f1, f1 ≤ f → ∀ (fx : px_F) (al : Nat → Nat) (n : Nat) (g0 : Nat → px_O) (r : Nat) (Q : px_Q) (dp q j : Nat) (V : Nat → Int32) (v t s hh : Int32) (X : Option Int32 × Int32) (l2 l3 : Value), (((tz m (ar0 3) q = nI 43 ∨ tz m (ar0 3) q = nI 45) ∧ pP (tz m (ar0 3)) f1 4 dp (q + 1) = some (true, j)) ∨ (¬ (tz m (ar0 3) q = nI 43 ∨ tz m (ar0 3) q = nI 45) ∧ j = q)) → q ≤ m → (if tz m (ar0 3) q = nI 43 ∨ tz m (ar0 3) q = nI 45 then eX (tz m (ar0 3)) V f1 4 dp (some (tz m (ar0 3) q, v)) (q + 1) s else (some v, s)) = X → (∀ res sc2 ar2 g2, eQ sc0 ar0 V t hh j X res sc2 ar2 → RR al n g2 r sc2 ar2 → rf_fr r g0 g2 → Q (.inl res) al n g2) → pr fx (px_body pm_X10_sum) (f + 10) Q al n g0 r (IX sc0 (nI q) t s 0 hh) (va_up ar0 8 V) 5 [.ref (al r), .int v, l2, l3] []
  | 0, hf => fun fx al n g0 r Q dp q j V v t s hh X l2 l3 hr hqm hX hQ => by
    rcases hr with ⟨_, z⟩ | ⟨hn, hj⟩
    · rw [pP] at z; cases z
    · rw [if_neg hn] at hX
      exact rx_sum (f := f) (dp := 0) hm hm2 hn hqm hX hj hQ
  | f1 + 1, hf => fun fx al n g0 r Q dp q j V v t s hh X l2 l3 hr hqm hX hQ => by
    rcases hr with ⟨hc, hC⟩ | ⟨hn, hj⟩
    rotate_left
    · rw [if_neg hn] at hX
      exact rx_sum (f := f) (dp := 0) hm hm2 hn hqm hX hj hQ
    have hqm2 : q < m := hc.elim (fun z => lit_in z (by decide) (by decide)) (fun z => lit_in z (by decide) (by decide))
    obtain ⟨q2, hq2, hr⟩ := pP_t4 hC
    have hq9 := pP_in (by decide) hq2
    rw [if_pos hc, eX, pE_of hq2] at hX
    refine pr_aload_n dX10_sum_5 rfl rfl ?_
    refine pr_getS (v := (0)) dX10_sum_6 fk_X10_193 rfl rfl ?_
    refine pr_if_ne (tgt := 114) dX10_sum_9 (by decide) (fun c9 => absurd c9 (by decide)) (fun _ => ?_)
    refine pr_aload_n dX10_sum_12 rfl rfl ?_
    refine pr_getS (v := (nI q)) dX10_sum_13 fk_X10_207 rfl rfl ?_
    refine pr_aload_n dX10_sum_16 rfl rfl ?_
    refine pr_getS (v := (nI m)) dX10_sum_17 fk_X10_184 rfl hm ?_
    refine pr_icmp_ge (tgt := 114) dX10_sum_20 (by decide) (fun c20 => absurd c20 (Int32.not_le.mpr (nI_lt hqm2 (by omega)))) (fun c20 => ?_)
    refine pr_aload_n dX10_sum_23 rfl rfl ?_
    refine pr_getA dX10_sum_24 fk_X10_24 rfl ?_
    refine pr_aload_n dX10_sum_27 rfl rfl ?_
    refine pr_getS (v := (nI q)) dX10_sum_28 fk_X10_207 rfl rfl ?_
    refine pr_iald (v := (tz m (ar0 3) q)) (j := q) dX10_sum_31 (by decide) rfl rfl (by show q < 120; omega) (tz_lt (by omega)).symm ?_
    refine pr_bipush dX10_sum_32 (show (Int8.ofInt (43)).toInt32 = (43) by decide) ?_
    refine pr_icmp_eq (tgt := 51) dX10_sum_34 (by decide) (fun c34 => ?_) (fun c34 => ?_)
    ·
      refine pr_aload_n dX10_sum_51 rfl rfl ?_
      refine pr_getA dX10_sum_52 fk_X10_24 rfl ?_
      refine pr_aload_n dX10_sum_55 rfl rfl ?_
      refine pr_getS (v := (nI q)) dX10_sum_56 fk_X10_207 rfl rfl ?_
      refine pr_iald (v := (tz m (ar0 3) q)) (j := q) dX10_sum_59 (by decide) rfl rfl (by show q < 120; omega) (tz_lt (by omega)).symm ?_
      refine pr_istore_n dX10_sum_60 (Nat.le_of_ble_eq_true rfl) ?_
      refine pr_aload_n dX10_sum_61 rfl rfl ?_
      refine pr_dup dX10_sum_62 rfl ?_
      refine pr_getS (v := (nI q)) dX10_sum_63 fk_X10_207 rfl rfl ?_
      refine pr_iconst dX10_sum_66 (show Int32.ofInt (1) = (1) by decide) ?_
      refine pr_iadd dX10_sum_67 ?_
      rw [nI_1]
      refine pr_put dX10_sum_68 fk_X10_207 rfl ⟨_, _, _, rfl, rfl⟩ rfl rfl ?_
      rw [IX_21]
      refine pr_aload_n dX10_sum_71 rfl rfl ?_
      refine pr_callP dX10_sum_72 cl_X10_219 (H f1 (by omega) 5 (by decide) (by decide) dp (q + 1) q2 V t s hh hq2) rfl rfl (Nat.le_of_ble_eq_true rfl) ⟨rfl, rfl⟩ (fun res sc2 ar2 hn => ?_)
      rcases hn with ⟨rfl, ⟨w, hw, rfl, rfl⟩ | ⟨hw, w, a, rfl, rfl⟩⟩
      ·
        refine pr_istore_n dX10_sum_75 (Nat.le_of_ble_eq_true rfl) ?_
        refine pr_aload_n dX10_sum_76 rfl rfl ?_
        refine pr_getS (v := (0)) dX10_sum_77 fk_X10_193 rfl rfl ?_
        refine pr_if_eq (tgt := 85) dX10_sum_80 (by decide) (fun _ => ?_) (fun c80 => absurd c80 (by decide))
        rw [bX_s hw, show smC (some (tz m (ar0 3) q, v)) w (eX (tz m (ar0 3)) V f1 5 dp none (q + 1) s).2 = (v + w, (eX (tz m (ar0 3)) V f1 5 dp none (q + 1) s).2 ||| 2) from by unfold smC; simp only [if_pos (show tz m (ar0 3) q = nI 43 from c34)]] at hX
        refine pr_aload_n dX10_sum_85 rfl rfl ?_
        refine pr_dup dX10_sum_86 rfl ?_
        refine pr_getS (v := (eX (tz m (ar0 3)) V f1 5 dp none (q + 1) s).2) dX10_sum_87 fk_X10_216 rfl rfl ?_
        refine pr_iconst dX10_sum_90 (show Int32.ofInt (2) = (2) by decide) ?_
        refine pr_ior dX10_sum_91 ?_
        refine pr_put dX10_sum_92 fk_X10_216 rfl ⟨_, _, _, rfl, rfl⟩ rfl rfl ?_
        rw [IX_23]
        refine pr_iload_n dX10_sum_95 rfl ?_
        refine pr_bipush dX10_sum_96 (show (Int8.ofInt (43)).toInt32 = (43) by decide) ?_
        refine pr_icmp_ne (tgt := 107) dX10_sum_98 (by decide) (fun c98 => absurd c98 (fun z => z c34)) (fun c98 => ?_)
        refine pr_iload_n dX10_sum_101 rfl ?_
        refine pr_iload_n dX10_sum_102 rfl ?_
        refine pr_iadd dX10_sum_103 ?_
        refine pr_goto (tgt := 110) dX10_sum_104 (by decide) ?_
        refine pr_istore_n dX10_sum_110 (Nat.le_of_ble_eq_true rfl) ?_
        refine pr_goto (tgt := 5) dX10_sum_111 (by decide) ?_
        exact rl_sum hm hm2 H f1 (by omega) _ _ _ _ _ _ _ _ _ _ _ _ _ _ _ _ _ hr (by omega) hX hQ
      ·
        refine pr_istore_n dX10_sum_75 (Nat.le_of_ble_eq_true rfl) ?_
        refine pr_aload_n dX10_sum_76 rfl rfl ?_
        refine pr_getS (v := (1)) dX10_sum_77 fk_X10_193 rfl rfl ?_
        refine pr_if_eq (tgt := 85) dX10_sum_80 (by decide) (fun c80 => absurd c80 (by decide)) (fun _ => ?_)
        refine pr_iconst dX10_sum_83 (show Int32.ofInt (0) = (0) by decide) ?_
        rw [bX_n hw] at hX
        subst hX
        exact pr_iretP hQ dX10_sum_84 rfl rfl ⟨rfl, Or.inr ⟨rfl, _, _, rfl, rfl⟩⟩
    ·
      refine pr_aload_n dX10_sum_37 rfl rfl ?_
      refine pr_getA dX10_sum_38 fk_X10_24 rfl ?_
      refine pr_aload_n dX10_sum_41 rfl rfl ?_
      refine pr_getS (v := (nI q)) dX10_sum_42 fk_X10_207 rfl rfl ?_
      refine pr_iald (v := (tz m (ar0 3) q)) (j := q) dX10_sum_45 (by decide) rfl rfl (by show q < 120; omega) (tz_lt (by omega)).symm ?_
      refine pr_bipush dX10_sum_46 (show (Int8.ofInt (45)).toInt32 = (45) by decide) ?_
      refine pr_icmp_ne (tgt := 114) dX10_sum_48 (by decide) (fun c48 => absurd (hc.resolve_left c34) c48) (fun c48 => ?_)
      refine pr_aload_n dX10_sum_51 rfl rfl ?_
      refine pr_getA dX10_sum_52 fk_X10_24 rfl ?_
      refine pr_aload_n dX10_sum_55 rfl rfl ?_
      refine pr_getS (v := (nI q)) dX10_sum_56 fk_X10_207 rfl rfl ?_
      refine pr_iald (v := (tz m (ar0 3) q)) (j := q) dX10_sum_59 (by decide) rfl rfl (by show q < 120; omega) (tz_lt (by omega)).symm ?_
      refine pr_istore_n dX10_sum_60 (Nat.le_of_ble_eq_true rfl) ?_
      refine pr_aload_n dX10_sum_61 rfl rfl ?_
      refine pr_dup dX10_sum_62 rfl ?_
      refine pr_getS (v := (nI q)) dX10_sum_63 fk_X10_207 rfl rfl ?_
      refine pr_iconst dX10_sum_66 (show Int32.ofInt (1) = (1) by decide) ?_
      refine pr_iadd dX10_sum_67 ?_
      rw [nI_1]
      refine pr_put dX10_sum_68 fk_X10_207 rfl ⟨_, _, _, rfl, rfl⟩ rfl rfl ?_
      rw [IX_21]
      refine pr_aload_n dX10_sum_71 rfl rfl ?_
      refine pr_callP dX10_sum_72 cl_X10_219 (H f1 (by omega) 5 (by decide) (by decide) dp (q + 1) q2 V t s hh hq2) rfl rfl (Nat.le_of_ble_eq_true rfl) ⟨rfl, rfl⟩ (fun res sc2 ar2 hn => ?_)
      rcases hn with ⟨rfl, ⟨w, hw, rfl, rfl⟩ | ⟨hw, w, a, rfl, rfl⟩⟩
      ·
        refine pr_istore_n dX10_sum_75 (Nat.le_of_ble_eq_true rfl) ?_
        refine pr_aload_n dX10_sum_76 rfl rfl ?_
        refine pr_getS (v := (0)) dX10_sum_77 fk_X10_193 rfl rfl ?_
        refine pr_if_eq (tgt := 85) dX10_sum_80 (by decide) (fun _ => ?_) (fun c80 => absurd c80 (by decide))
        rw [bX_s hw, show smC (some (tz m (ar0 3) q, v)) w (eX (tz m (ar0 3)) V f1 5 dp none (q + 1) s).2 = (v - w, (eX (tz m (ar0 3)) V f1 5 dp none (q + 1) s).2 ||| 2) from by unfold smC; simp only [if_neg (show ¬ tz m (ar0 3) q = nI 43 from c34)]] at hX
        refine pr_aload_n dX10_sum_85 rfl rfl ?_
        refine pr_dup dX10_sum_86 rfl ?_
        refine pr_getS (v := (eX (tz m (ar0 3)) V f1 5 dp none (q + 1) s).2) dX10_sum_87 fk_X10_216 rfl rfl ?_
        refine pr_iconst dX10_sum_90 (show Int32.ofInt (2) = (2) by decide) ?_
        refine pr_ior dX10_sum_91 ?_
        refine pr_put dX10_sum_92 fk_X10_216 rfl ⟨_, _, _, rfl, rfl⟩ rfl rfl ?_
        rw [IX_23]
        refine pr_iload_n dX10_sum_95 rfl ?_
        refine pr_bipush dX10_sum_96 (show (Int8.ofInt (43)).toInt32 = (43) by decide) ?_
        refine pr_icmp_ne (tgt := 107) dX10_sum_98 (by decide) (fun c98 => ?_) (fun c98 => absurd c98 c34)
        refine pr_iload_n dX10_sum_107 rfl ?_
        refine pr_iload_n dX10_sum_108 rfl ?_
        refine pr_isub dX10_sum_109 ?_
        refine pr_istore_n dX10_sum_110 (Nat.le_of_ble_eq_true rfl) ?_
        refine pr_goto (tgt := 5) dX10_sum_111 (by decide) ?_
        exact rl_sum hm hm2 H f1 (by omega) _ _ _ _ _ _ _ _ _ _ _ _ _ _ _ _ _ hr (by omega) hX hQ
      ·
        refine pr_istore_n dX10_sum_75 (Nat.le_of_ble_eq_true rfl) ?_
        refine pr_aload_n dX10_sum_76 rfl rfl ?_
        refine pr_getS (v := (1)) dX10_sum_77 fk_X10_193 rfl rfl ?_
        refine pr_if_eq (tgt := 85) dX10_sum_80 (by decide) (fun c80 => absurd c80 (by decide)) (fun _ => ?_)
        refine pr_iconst dX10_sum_83 (show Int32.ofInt (0) = (0) by decide) ?_
        rw [bX_n hw] at hX
        subst hX
        exact pr_iretP hQ dX10_sum_84 rfl rfl ⟨rfl, Or.inr ⟨rfl, _, _, rfl, rfl⟩⟩
set_option maxHeartbeats 4000000 in
set_option maxRecDepth 20000 in
theorem re_sum {m : Nat} {sc0 : Nat → Int32} {ar0 : Nat → Nat → Int32} {f : Nat} (hm : sc0 16 = nI m) (hm2 : m ≤ 120) (H : eH m sc0 ar0 f (f + 10)) {f1 : Nat} (hf : f1 ≤ f) {dp i j : Nat} {V : Nat → Int32} {t s hh : Int32} (h : pP (tz m (ar0 3)) (f1 + 1) 4 dp i = some (true, j)) : RP (f + 11) 120 [] (IX sc0 (nI i) t s 0 hh) (va_up ar0 8 V) (eQ sc0 ar0 V t hh j (eX (tz m (ar0 3)) V (f1 + 1) 4 dp none i s)) := by
  refine RP.of pm_X10_sum rfl rfl (Nat.le_of_ble_eq_true rfl) ?_
  intro fx al n g0 r Q hQ
  show pr fx (px_body pm_X10_sum) (f + 10) Q al n g0 r (IX sc0 (nI i) t s 0 hh) (va_up ar0 8 V) 0 [.ref (al r), .float 0, .float 0, .float 0] []
  generalize hX : eX (tz m (ar0 3)) V (f1 + 1) 4 dp none i s = X at hQ
  rw [eX] at hX
  have hi := pP_in (by decide) h
  obtain ⟨q, hq, hr⟩ := pP_t4 h
  rw [pE_of hq] at hX
  have hq9 := pP_in (by decide) hq
  refine pr_aload_n dX10_sum_0 rfl rfl ?_
  refine pr_callP dX10_sum_1 cl_X10_219 (H f1 (by omega) 5 (by decide) (by decide) dp i q V t s hh hq) rfl rfl (Nat.le_of_ble_eq_true rfl) ⟨rfl, rfl⟩ (fun res sc2 ar2 hn => ?_)
  rcases hn with ⟨rfl, ⟨v, hv, rfl, rfl⟩ | ⟨hv, v, a, rfl, rfl⟩⟩
  ·
    refine pr_istore_n dX10_sum_4 (Nat.le_of_ble_eq_true rfl) ?_
    rw [bX_s hv] at hX
    exact rl_sum hm hm2 H f1 hf _ _ _ _ _ _ _ _ _ _ _ _ _ _ _ _ _ hr (by omega) hX hQ
  ·
    refine pr_istore_n dX10_sum_4 (Nat.le_of_ble_eq_true rfl) ?_
    refine pr_aload_n dX10_sum_5 rfl rfl ?_
    refine pr_getS (v := (1)) dX10_sum_6 fk_X10_193 rfl rfl ?_
    refine pr_if_ne (tgt := 114) dX10_sum_9 (by decide) (fun _ => ?_) (fun c9 => absurd c9 (by decide))
    refine pr_iload_n dX10_sum_114 rfl ?_
    rw [bX_n hv] at hX
    subst hX
    exact pr_iretP hQ dX10_sum_115 rfl rfl ⟨rfl, Or.inr ⟨rfl, _, _, rfl, rfl⟩⟩
/-- all kinds of expressions, with any fuel -/
theorem eH_all {m : Nat} {sc0 : Nat → Int32} {ar0 : Nat → Nat → Int32} (hm : sc0 16 = nI m) (hm2 : m ≤ 120) : ∀ f, eH m sc0 ar0 f (f + 10)
  | 0 => fun f0 h0 kd hk hk2 dp i j V t s h hp => by
    obtain rfl : f0 = 0 := by omega
    rw [pP] at hp
    cases hp
  | f + 1 => fun f0 h0 kd hk hk2 dp i j V t s h hp => by
    have H := eH_all (ar0 := ar0) hm hm2 f
    cases f0 with
    | zero => rw [pP] at hp; cases hp
    | succ f1 =>
      match kd, hk, hk2 with
      | 0, hk, _ => omega
      | 1, hk, _ => omega
      | 2, hk, _ => omega
      | 3, _, _ => exact re_expr hm hm2 H (by omega) hp
      | 4, _, _ => exact re_sum hm hm2 H (by omega) hp
      | 5, _, _ => exact re_term hm hm2 H (by omega) hp
      | 6, _, _ => exact re_factor hm hm2 H (by omega) hp
      | kd + 7, _, hk => omega
