/-- the gain of a task for a learner -/
def rGain (sh : Int32) (can : Nat → Int32) (l : Nat) : Nat → Int32
  | 0 => 0
  | k + 1 => rGain sh can l k + (if (sh >>> (nI k &&& 31)) &&& 1 = 1 then 64 - can (8 * l + k) else 0)
def rSkip (ar : Nat → Nat → Int32) (bits : Int32) (l t : Nat) : Prop := ar 11 t = 0 ∨ 0 < ar 16 (10 * l + t) ∨ ¬ (ar 9 t &&& (bits ^^^ -1)) = 0
/-- the best task so far, and its gain -/
noncomputable def rNx (ar : Nat → Nat → Int32) (bits : Int32) (l : Nat) : Nat → Int32 × Int32
  | 0 => (-1, 0)
  | t + 1 => by
    classical
    exact if rSkip ar bits l t ∨ (0 ≤ (rNx ar bits l t).1 ∧ rGain (ar 10 t) (ar 18) l 8 ≤ (rNx ar bits l t).2) then rNx ar bits l t else (nI t, rGain (ar 10 t) (ar 18) l 8)
theorem rNx_old {ar : Nat → Nat → Int32} {bits : Int32} {l t : Nat} (h : rSkip ar bits l t ∨ (0 ≤ (rNx ar bits l t).1 ∧ rGain (ar 10 t) (ar 18) l 8 ≤ (rNx ar bits l t).2)) : rNx ar bits l (t + 1) = rNx ar bits l t := if_pos h
theorem rNx_new {ar : Nat → Nat → Int32} {bits : Int32} {l t : Nat} (h : ¬ (rSkip ar bits l t ∨ (0 ≤ (rNx ar bits l t).1 ∧ rGain (ar 10 t) (ar 18) l 8 ≤ (rNx ar bits l t).2))) : rNx ar bits l (t + 1) = (nI t, rGain (ar 10 t) (ar 18) l 8) := if_neg h
set_option maxHeartbeats 4000000 in
set_option maxRecDepth 20000 in
theorem rl_gain {fx : px_F} {dd : Nat} {Q : px_Q} {al : Nat → Nat} {n : Nat} {g0 : Nat → px_O} {r : Nat} {sc : Nat → Int32} {ar : Nat → Nat → Int32} {l t : Nat} {bits best most : Int32} (hl : l < 8) (ht : t < 10) (kont : pr fx (px_body pm_X10_next_) dd Q al n g0 r sc ar 143 [.ref (al r), .int (nI l), .int bits, .int best, .int most, .int (nI t), .int (rGain (ar 10 t) (ar 18) l 8), .int (nI 8)] []) : ∀ (m k : Nat), k + m = 8 → pr fx (px_body pm_X10_next_) dd Q al n g0 r sc ar 90 [.ref (al r), .int (nI l), .int bits, .int best, .int most, .int (nI t), .int (rGain (ar 10 t) (ar 18) l k), .int (nI k)] []
  | 0, k, hk => by
    obtain rfl : k = 8 := by omega
    refine pr_iload dX10_next__90 rfl ?_
    refine pr_bipush dX10_next__92 (show (Int8.ofInt (8)).toInt32 = (8) by decide) ?_
    refine pr_icmp_ge (tgt := 143) dX10_next__94 (by decide) (fun c94 => ?_) (fun c94 => absurd (show (8 : Int32) ≤ nI 8 by decide) c94)
    exact kont
  | m + 1, k, hk => by
    have ih := rl_gain hl ht kont m (k + 1) (by omega)
    refine pr_iload dX10_next__90 rfl ?_
    refine pr_bipush dX10_next__92 (show (Int8.ofInt (8)).toInt32 = (8) by decide) ?_
    refine pr_icmp_ge (tgt := 143) dX10_next__94 (by decide) (fun c94 => absurd c94 (nI_ge (a := k) (b := 8) (by omega) (by decide))) (fun c94 => ?_)
    refine pr_iload dX10_next__97 rfl ?_
    refine pr_aload_n dX10_next__99 rfl rfl ?_
    refine pr_getA dX10_next__100 fk_X10_46 rfl ?_
    refine pr_iload dX10_next__103 rfl ?_
    refine pr_iald (j := t) dX10_next__105 (by decide) rfl rfl (by show t < 10; omega) rfl ?_
    refine pr_iload dX10_next__106 rfl ?_
    refine pr_ishr dX10_next__108 ?_
    refine pr_iconst dX10_next__109 (show Int32.ofInt (1) = (1) by decide) ?_
    refine pr_iand dX10_next__110 ?_
    refine pr_iconst dX10_next__111 (show Int32.ofInt (1) = (1) by decide) ?_
    refine pr_icmp_ne (tgt := 133) dX10_next__112 (by decide) (fun c112 => ?_) (fun c112 => ?_)
    ·
      refine pr_iconst dX10_next__133 (show Int32.ofInt (0) = (0) by decide) ?_
      refine pr_iadd dX10_next__134 ?_
      refine pr_istore dX10_next__135 (Nat.le_of_ble_eq_true rfl) ?_
      refine pr_iinc dX10_next__137 rfl (show Int32.ofInt (1) = (1) by decide) ?_
      refine pr_goto (tgt := 90) dX10_next__140 (by decide) ?_
      rw [nI_1]
      rw [rGain] at ih
      first | (rw [if_pos c112] at ih; exact ih) | (rw [if_neg c112] at ih; exact ih)
    ·
      refine pr_bipush dX10_next__115 (show (Int8.ofInt (64)).toInt32 = (64) by decide) ?_
      refine pr_aload_n dX10_next__117 rfl rfl ?_
      refine pr_getA dX10_next__118 fk_X10_70 rfl ?_
      refine pr_bipush dX10_next__121 (show (Int8.ofInt (8)).toInt32 = (8) by decide) ?_
      refine pr_iload_n dX10_next__123 rfl ?_
      refine pr_imul dX10_next__124 ?_
      refine pr_iload dX10_next__125 rfl ?_
      refine pr_iadd dX10_next__127 ?_
      refine pr_iald (j := 8 * l + k) dX10_next__128 (by decide) rfl (ix_mul 8 l k) (by show 8 * l + k < 64; omega) rfl ?_
      refine pr_isub dX10_next__129 ?_
      refine pr_goto (tgt := 134) dX10_next__130 (by decide) ?_
      refine pr_iadd dX10_next__134 ?_
      refine pr_istore dX10_next__135 (Nat.le_of_ble_eq_true rfl) ?_
      refine pr_iinc dX10_next__137 rfl (show Int32.ofInt (1) = (1) by decide) ?_
      refine pr_goto (tgt := 90) dX10_next__140 (by decide) ?_
      rw [nI_1]
      rw [rGain] at ih
      first | (rw [if_pos c112] at ih; exact ih) | (rw [if_neg c112] at ih; exact ih)
set_option maxHeartbeats 4000000 in
set_option maxRecDepth 20000 in
theorem rl_next {fx : px_F} {dd : Nat} {Q : px_Q} {al : Nat → Nat} {n : Nat} {g0 : Nat → px_O} {r : Nat} {sc : Nat → Int32} {ar : Nat → Nat → Int32} {l T : Nat} {bits : Int32} (hl : l < 8) (hT : sc 30 = nI T) (h10 : T ≤ 10) (hQ : ∀ g2, RR al n g2 r sc ar → rf_fr r g0 g2 → Q (.inl (some (.int (rNx ar bits l T).1))) al n g2) : ∀ (m t : Nat) (v6 v7 : Value), t + m = T → pr fx (px_body pm_X10_next_) dd Q al n g0 r sc ar 33 [.ref (al r), .int (nI l), .int bits, .int (rNx ar bits l t).1, .int (rNx ar bits l t).2, .int (nI t), v6, v7] []
  | 0, t, v6, v7, hk => by
    obtain rfl : t = T := by omega
    refine pr_iload dX10_next__33 rfl ?_
    refine pr_aload_n dX10_next__35 rfl rfl ?_
    refine pr_getS (v := nI t) dX10_next__36 fk_X10_245 rfl hT ?_
    refine pr_icmp_ge (tgt := 170) dX10_next__39 (by decide) (fun c39 => ?_) (fun c39 => absurd (Int32.le_refl (nI t)) c39)
    refine pr_iload_n dX10_next__170 rfl ?_
    exact pr_iret hQ dX10_next__171 rfl rfl rfl rfl rfl
  | m + 1, t, v6, v7, hk => by
    have ih := fun v6 v7 => rl_next (fx := fx) (dd := dd) hl hT h10 hQ m (t + 1) v6 v7 (by omega)
    refine pr_iload dX10_next__33 rfl ?_
    refine pr_aload_n dX10_next__35 rfl rfl ?_
    refine pr_getS (v := nI T) dX10_next__36 fk_X10_245 rfl hT ?_
    refine pr_icmp_ge (tgt := 170) dX10_next__39 (by decide) (fun c39 => absurd c39 (nI_ge (a := t) (b := T) (by omega) (by omega))) (fun c39 => ?_)
    refine pr_aload_n dX10_next__42 rfl rfl ?_
    refine pr_getA dX10_next__43 fk_X10_49 rfl ?_
    refine pr_iload dX10_next__46 rfl ?_
    refine pr_iald (j := t) dX10_next__48 (by decide) rfl rfl (by show t < 10; omega) rfl ?_
    refine pr_if_eq (tgt := 164) dX10_next__49 (by decide) (fun c49 => ?_) (fun c49 => ?_)
    ·
      refine pr_iinc dX10_next__164 rfl (show Int32.ofInt (1) = (1) by decide) ?_
      refine pr_goto (tgt := 33) dX10_next__167 (by decide) ?_
      rw [nI_1]
      first
        | (rw [rNx_old (Or.inl (Or.inl c49))] at ih; exact ih _ _)
        | (rw [rNx_old (Or.inl (Or.inr (Or.inl c64)))] at ih; exact ih _ _)
        | (rw [rNx_old (Or.inl (Or.inr (Or.inr c78)))] at ih; exact ih _ _)
    ·
      refine pr_aload_n dX10_next__52 rfl rfl ?_
      refine pr_getA dX10_next__53 fk_X10_64 rfl ?_
      refine pr_bipush dX10_next__56 (show (Int8.ofInt (10)).toInt32 = (10) by decide) ?_
      refine pr_iload_n dX10_next__58 rfl ?_
      refine pr_imul dX10_next__59 ?_
      refine pr_iload dX10_next__60 rfl ?_
      refine pr_iadd dX10_next__62 ?_
      refine pr_iald (j := 10 * l + t) dX10_next__63 (by decide) rfl (ix_mul 10 l t) (by show 10 * l + t < 80; omega) rfl ?_
      refine pr_if_gt (tgt := 164) dX10_next__64 (by decide) (fun c64 => ?_) (fun c64 => ?_)
      ·
        have c649 := Int32.not_le.mpr c64
        refine pr_iinc dX10_next__164 rfl (show Int32.ofInt (1) = (1) by decide) ?_
        refine pr_goto (tgt := 33) dX10_next__167 (by decide) ?_
        rw [nI_1]
        first
          | (rw [rNx_old (Or.inl (Or.inl c49))] at ih; exact ih _ _)
          | (rw [rNx_old (Or.inl (Or.inr (Or.inl c64)))] at ih; exact ih _ _)
          | (rw [rNx_old (Or.inl (Or.inr (Or.inr c78)))] at ih; exact ih _ _)
      ·
        have c649 := Int32.not_lt.mp c64
        refine pr_aload_n dX10_next__67 rfl rfl ?_
        refine pr_getA dX10_next__68 fk_X10_43 rfl ?_
        refine pr_iload dX10_next__71 rfl ?_
        refine pr_iald (j := t) dX10_next__73 (by decide) rfl rfl (by show t < 10; omega) rfl ?_
        refine pr_iload_n dX10_next__74 rfl ?_
        refine pr_iconst dX10_next__75 (show Int32.ofInt (-1) = (-1) by decide) ?_
        refine pr_ixor dX10_next__76 ?_
        refine pr_iand dX10_next__77 ?_
        refine pr_if_eq (tgt := 84) dX10_next__78 (by decide) (fun c78 => ?_) (fun c78 => ?_)
        ·
          refine pr_iconst dX10_next__84 (show Int32.ofInt (0) = (0) by decide) ?_
          refine pr_istore dX10_next__85 (Nat.le_of_ble_eq_true rfl) ?_
          refine pr_iconst dX10_next__87 (show Int32.ofInt (0) = (0) by decide) ?_
          refine pr_istore dX10_next__88 (Nat.le_of_ble_eq_true rfl) ?_
          have hs : ¬ rSkip ar bits l t := fun z => z.elim c49 (fun z => z.elim (fun z => c64 z) (fun z => z c78))
          refine rl_gain hl (by omega) ?_ 8 0 rfl
          refine pr_iload_n dX10_next__143 rfl ?_
          refine pr_if_lt (tgt := 157) dX10_next__144 (by decide) (fun c144 => ?_) (fun c144 => ?_)
          ·
            have c1449 := Int32.not_le.mpr c144
            refine pr_iload dX10_next__157 rfl ?_
            refine pr_istore_n dX10_next__159 (Nat.le_of_ble_eq_true rfl) ?_
            refine pr_iload dX10_next__160 rfl ?_
            refine pr_istore dX10_next__162 (Nat.le_of_ble_eq_true rfl) ?_
            refine pr_iinc dX10_next__164 rfl (show Int32.ofInt (1) = (1) by decide) ?_
            refine pr_goto (tgt := 33) dX10_next__167 (by decide) ?_
            rw [nI_1]
            first
              | (rw [rNx_old (Or.inr ⟨c1449, c1519⟩)] at ih; exact ih _ _)
              | (rw [rNx_new (fun z => z.elim hs (fun z => Int32.not_lt.mpr z.1 c144))] at ih; exact ih _ _)
              | (rw [rNx_new (fun z => z.elim hs (fun z => Int32.not_lt.mpr z.2 c151))] at ih; exact ih _ _)
          ·
            have c1449 := Int32.not_lt.mp c144
            refine pr_iload dX10_next__147 rfl ?_
            refine pr_iload dX10_next__149 rfl ?_
            refine pr_icmp_gt (tgt := 157) dX10_next__151 (by decide) (fun c151 => ?_) (fun c151 => ?_)
            ·
              have c1519 := Int32.not_le.mpr c151
              refine pr_iload dX10_next__157 rfl ?_
              refine pr_istore_n dX10_next__159 (Nat.le_of_ble_eq_true rfl) ?_
              refine pr_iload dX10_next__160 rfl ?_
              refine pr_istore dX10_next__162 (Nat.le_of_ble_eq_true rfl) ?_
              refine pr_iinc dX10_next__164 rfl (show Int32.ofInt (1) = (1) by decide) ?_
              refine pr_goto (tgt := 33) dX10_next__167 (by decide) ?_
              rw [nI_1]
              first
                | (rw [rNx_old (Or.inr ⟨c1449, c1519⟩)] at ih; exact ih _ _)
                | (rw [rNx_new (fun z => z.elim hs (fun z => Int32.not_lt.mpr z.1 c144))] at ih; exact ih _ _)
                | (rw [rNx_new (fun z => z.elim hs (fun z => Int32.not_lt.mpr z.2 c151))] at ih; exact ih _ _)
            ·
              have c1519 := Int32.not_lt.mp c151
              refine pr_goto (tgt := 164) dX10_next__154 (by decide) ?_
              refine pr_iinc dX10_next__164 rfl (show Int32.ofInt (1) = (1) by decide) ?_
              refine pr_goto (tgt := 33) dX10_next__167 (by decide) ?_
              rw [nI_1]
              first
                | (rw [rNx_old (Or.inr ⟨c1449, c1519⟩)] at ih; exact ih _ _)
                | (rw [rNx_new (fun z => z.elim hs (fun z => Int32.not_lt.mpr z.1 c144))] at ih; exact ih _ _)
                | (rw [rNx_new (fun z => z.elim hs (fun z => Int32.not_lt.mpr z.2 c151))] at ih; exact ih _ _)
        ·
          refine pr_goto (tgt := 164) dX10_next__81 (by decide) ?_
          refine pr_iinc dX10_next__164 rfl (show Int32.ofInt (1) = (1) by decide) ?_
          refine pr_goto (tgt := 33) dX10_next__167 (by decide) ?_
          rw [nI_1]
          first
            | (rw [rNx_old (Or.inl (Or.inl c49))] at ih; exact ih _ _)
            | (rw [rNx_old (Or.inl (Or.inr (Or.inl c64)))] at ih; exact ih _ _)
            | (rw [rNx_old (Or.inl (Or.inr (Or.inr c78)))] at ih; exact ih _ _)
set_option maxHeartbeats 4000000 in
set_option maxRecDepth 20000 in
theorem rc_next_ok (d : Nat) (sc : Nat → Int32) (ar : Nat → Nat → Int32) {T : Nat} (hT : sc 30 = nI T) (h10 : T ≤ 10) {l : Nat} (hl : l < 8) : RC (d + 3) 139 [.int (nI l)] sc ar (some (.int (rNx ar (rCans (ar 18) l 8) l T).1)) (upd sc 0 0) (ar) := by
  refine RC.of pm_X10_next_ rfl rfl (Nat.le_of_ble_eq_true rfl) ?_
  intro fx al n g0 r Q hQ
  show pr fx (px_body pm_X10_next_) (d + 2) Q al n g0 r sc ar 0 [.ref (al r), .int (nI l), .float 0, .float 0, .float 0, .float 0, .float 0, .float 0] []
  refine pr_aload_n dX10_next__0 rfl rfl ?_
  refine pr_iconst dX10_next__1 (show Int32.ofInt (0) = (0) by decide) ?_
  refine pr_put dX10_next__2 fk_X10_79 rfl ⟨_, _, _, rfl, rfl⟩ rfl rfl ?_
  refine pr_aload_n dX10_next__5 rfl rfl ?_
  refine pr_iload_n dX10_next__6 rfl ?_
  refine pr_callSC dX10_next__7 cl_X10_258 (rc_noLearner_f d hl) rfl rfl (Nat.le_of_ble_eq_true rfl) ⟨rfl, rfl⟩ ?_
  refine pr_iconst dX10_next__10 (show Int32.ofInt (1) = (1) by decide) ?_
  refine pr_call dX10_next__11 cl_X10_180 (rc_throwsIf_f _ _ _ _) rfl rfl (Nat.le_of_ble_eq_true rfl) ⟨rfl, rfl⟩ ?_
  refine pr_if_eq (tgt := 19) dX10_next__14 (by decide) (fun _ => ?_) (fun c14 => absurd c14 (by decide))
  refine pr_aload_n dX10_next__19 rfl rfl ?_
  refine pr_iload_n dX10_next__20 rfl ?_
  refine pr_call dX10_next__21 cl_X10_276 (rc_cans (d + 1) _ _ hl) rfl rfl (Nat.le_of_ble_eq_true rfl) ⟨rfl, rfl⟩ ?_
  refine pr_istore_n dX10_next__24 (Nat.le_of_ble_eq_true rfl) ?_
  refine pr_iconst dX10_next__25 (show Int32.ofInt (-1) = (-1) by decide) ?_
  refine pr_istore_n dX10_next__26 (Nat.le_of_ble_eq_true rfl) ?_
  refine pr_iconst dX10_next__27 (show Int32.ofInt (0) = (0) by decide) ?_
  refine pr_istore dX10_next__28 (Nat.le_of_ble_eq_true rfl) ?_
  refine pr_iconst dX10_next__30 (show Int32.ofInt (0) = (0) by decide) ?_
  refine pr_istore dX10_next__31 (Nat.le_of_ble_eq_true rfl) ?_
  exact rl_next (sc := upd sc 0 0) hl hT h10 hQ T 0 _ _ (Nat.zero_add T)
set_option maxHeartbeats 4000000 in
set_option maxRecDepth 20000 in
theorem rc_next_bad (d : Nat) (sc : Nat → Int32) (ar : Nat → Nat → Int32) {l : Int32} (hl : ¬ (0 ≤ l ∧ l ≤ 7)) : RC (d + 3) 139 [.int l] sc ar (some (.int 0)) (upd (upd sc 0 0) 0 1) (ar) := by
  refine RC.of pm_X10_next_ rfl rfl (Nat.le_of_ble_eq_true rfl) ?_
  intro fx al n g0 r Q hQ
  show pr fx (px_body pm_X10_next_) (d + 2) Q al n g0 r sc ar 0 [.ref (al r), .int l, .float 0, .float 0, .float 0, .float 0, .float 0, .float 0] []
  refine pr_aload_n dX10_next__0 rfl rfl ?_
  refine pr_iconst dX10_next__1 (show Int32.ofInt (0) = (0) by decide) ?_
  refine pr_put dX10_next__2 fk_X10_79 rfl ⟨_, _, _, rfl, rfl⟩ rfl rfl ?_
  refine pr_aload_n dX10_next__5 rfl rfl ?_
  refine pr_iload_n dX10_next__6 rfl ?_
  refine pr_callSC dX10_next__7 cl_X10_258 (rc_noLearner_t d hl) rfl rfl (Nat.le_of_ble_eq_true rfl) ⟨rfl, rfl⟩ ?_
  refine pr_iconst dX10_next__10 (show Int32.ofInt (1) = (1) by decide) ?_
  refine pr_call dX10_next__11 cl_X10_180 (rc_throwsIf_t _ _ _ _) rfl rfl (Nat.le_of_ble_eq_true rfl) ⟨rfl, rfl⟩ ?_
  refine pr_if_eq (tgt := 19) dX10_next__14 (by decide) (fun c14 => absurd c14 (by decide)) (fun _ => ?_)
  refine pr_iconst dX10_next__17 (show Int32.ofInt (0) = (0) by decide) ?_
  exact pr_iret hQ dX10_next__18 rfl rfl rfl rfl rfl
