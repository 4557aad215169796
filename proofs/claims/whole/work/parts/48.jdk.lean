/-- what a method does that looks at nothing but the texts -/
def FC (d k : Nat) (as : px_F → List Value) (res : Option Value) : Prop := ∀ (fx : px_F) (al : Nat → Nat) (n : Nat) (g : Nat → px_O) (Q : px_Q), Q (.inl res) al n g → pm px_tb fx d k (as fx) al n g Q
theorem SC.toF {d k : Nat} {as : List Value} {res : Option Value} (h : SC d k as res) : FC d k (fun _ => as) res := h
theorem FC.of {d k : Nat} {as : px_F → List Value} {res : Option Value} (m : px_M) (hm : px_tb k = some m) (hi : ∀ fx, (as fx).all px_isI = true) (hl : ∀ fx, (as fx).length ≤ m.2.2.1)
    (h : ∀ fx al n g Q, Q (.inl res) al n g → pg px_tb fx (px_body m) (pm px_tb fx d) Q al n g 0 (px_in (as fx) m.2.2.1) [] 0 0) : FC (d + 1) k as res :=
  fun fx al n g Q hQ => ⟨m, hm, hi fx, hl fx, h fx al n g Q hQ⟩
theorem fg_call {fx : px_F} {bd : px_B} {d : Nat} {Q : px_Q} {al : Nat → Nat} {n : Nat} {g : Nat → px_O} {pc : Nat} {ls st : List Value} {idx k : Nat} {as : px_F → List Value} {st0 : List Value} {res : Option Value} (h0 : decode bd.2.1 pc = .ok (.invokestatic idx, 3)) {na : Nat} (h1 : px_cS px_tb bd.1 idx k na) (hC : FC d k as res) (hn : (as fx).length = na) (h4 : st0 = (as fx).reverse ++ st) (h5 : (st.map fun v => v.category).sum ≤ 8) (hz : px_mc px_tb k = 0 ∧ px_ms px_tb k = 0)
    (kk : pg px_tb fx bd (pm px_tb fx d) Q al n g (pc + 3) ls (res.toList ++ st) 0 0) : pg px_tb fx bd (pm px_tb fx d) Q al n g pc ls st0 0 0 := by
  refine pg_callS (pm_mono px_tb fx d) (idx := idx) (k := k) (As := as fx) h0 (hn ▸ h1) h4 h5 (by rw [hz.1]; exact Nat.zero_le _) (by rw [hz.2]; exact Nat.zero_le _) ?_
  rw [hz.1, hz.2]
  exact hC fx al n g _ kk
theorem fg_callT {fx : px_F} {bd : px_B} {d : Nat} {Q : px_Q} {al : Nat → Nat} {n : Nat} {g : Nat → px_O} {pc : Nat} {ls st : List Value} {idx k i : Nat} {As st0 : List Value} {res : Option Value} (h0 : decode bd.2.1 pc = .ok (.invokevirtual idx, 3)) {na : Nat} (h1 : px_cT px_tb bd.1 idx k na) (hi : i < 4) (hC : FC d k (fun fx => .ref (fx.1 i) :: As) res) (hn : As.length = na) (h4 : st0 = As.reverse ++ .ref (fx.1 i) :: st) (h5 : (st.map fun v => v.category).sum ≤ 8) (hz : px_mc px_tb k = 0 ∧ px_ms px_tb k = 0)
    (kk : pg px_tb fx bd (pm px_tb fx d) Q al n g (pc + 3) ls (res.toList ++ st) 0 0) : pg px_tb fx bd (pm px_tb fx d) Q al n g pc ls st0 0 0 := by
  refine pg_callT (pm_mono px_tb fx d) (idx := idx) (k := k) (i := i) (As := As) h0 (hn ▸ h1) hi h4 h5 (by rw [hz.1]; exact Nat.zero_le _) (by rw [hz.2]; exact Nat.zero_le _) ?_
  rw [hz.1, hz.2]
  exact hC fx al n g _ kk
theorem pr_callT {fx : px_F} {bd : px_B} {dd : Nat} {Q : px_Q} {al : Nat → Nat} {n : Nat} {g0 : Nat → px_O} {r : Nat} {sc : Nat → Int32} {ar : Nat → Nat → Int32} {pc : Nat} {ls st : List Value} {idx k i : Nat} {As st0 : List Value} {res : Option Value} (h0 : decode bd.2.1 pc = .ok (.invokevirtual idx, 3)) {na : Nat} (h1 : px_cT px_tb bd.1 idx k na) (hi : i < 4) (hC : FC dd k (fun fx => .ref (fx.1 i) :: As) res) (hn : As.length = na) (h4 : st0 = As.reverse ++ .ref (fx.1 i) :: st) (h5 : (st.map fun v => v.category).sum ≤ 8) (hz : px_mc px_tb k = 0 ∧ px_ms px_tb k = 0)
    (kk : pr fx bd dd Q al n g0 r sc ar (pc + 3) ls (res.toList ++ st)) : pr fx bd dd Q al n g0 r sc ar pc ls st0 := fun g hR hF => fg_callT h0 h1 hi hC hn h4 h5 hz (kk g hR hF)
theorem sg_vret {fx : px_F} {bd : px_B} {K : px_K} {Q : px_Q} {al : Nat → Nat} {n : Nat} {g : Nat → px_O} {pc : Nat} {ls : List Value} {res : Option Value} (hQ : Q (.inl res) al n g) (h0 : decode bd.2.1 pc = .ok (.return_, 1)) (h1 : bd.2.2.1 = none) (e1 : none = res) : pg px_tb fx bd K Q al n g pc ls [] 0 0 := by
  subst e1
  exact pg_vret h0 h1 (Nat.zero_le _) (Nat.zero_le _) hQ
def sTx (i j : Nat) : Int32 := (px_byt.getD i []).getD j 0
theorem sTx_c : ∀ i, i < 4 → ∀ j, j < px_len.getD i 0 → ((sTx i j &&& 255).toUInt32 % 65536).toInt32 = sTx i j ∧ narrow .char (.int (sTx i j)) = .int (sTx i j) := by decide +kernel
set_option maxHeartbeats 4000000 in
set_option maxRecDepth 20000 in
theorem fc_coder (d : Nat) {i : Nat} (hi : i < 4) : FC (d + 1) 167 (fun fx => [.ref (fx.1 i)]) (some (.int 0)) := by
  refine FC.of pm_J0_coder_7d493 rfl (fun _ => rfl) (fun _ => Nat.le_of_ble_eq_true rfl) ?_
  intro fx al n g Q hQ
  show pg px_tb fx (px_body pm_J0_coder_7d493) (pm px_tb fx (d)) Q al n g 0 [.ref (fx.1 i)] [] 0 0
  refine pg_gets dJ0_coder_7d493_0 (px_big_of (List.mem_append_right _ (List.mem_of_getElem? (i := 294) (by decide +kernel))) rfl) ?_
  refine pg_if_eq (tgt := 13) dJ0_coder_7d493_3 (by decide) (fun c3 => absurd c3 (by decide)) (fun c3 => ?_)
  refine pg_aload_n dJ0_coder_7d493_6 rfl rfl ?_
  refine pg_strcod dJ0_coder_7d493_7 hi (px_big_of (List.mem_append_right _ (List.mem_of_getElem? (i := 1297) (by decide +kernel))) rfl) ?_
  refine pg_goto (tgt := 14) dJ0_coder_7d493_10 (by decide) ?_
  exact sg_iret hQ dJ0_coder_7d493_14 rfl rfl rfl
set_option maxHeartbeats 4000000 in
set_option maxRecDepth 20000 in
theorem fc_isLatin1 (d : Nat) {i : Nat} (hi : i < 4) : FC (d + 1) 168 (fun fx => [.ref (fx.1 i)]) (some (.int 1)) := by
  refine FC.of pm_J0_isLatin1_aae02 rfl (fun _ => rfl) (fun _ => Nat.le_of_ble_eq_true rfl) ?_
  intro fx al n g Q hQ
  show pg px_tb fx (px_body pm_J0_isLatin1_aae02) (pm px_tb fx (d)) Q al n g 0 [.ref (fx.1 i)] [] 0 0
  refine pg_gets dJ0_isLatin1_aae02_0 (px_big_of (List.mem_append_right _ (List.mem_of_getElem? (i := 294) (by decide +kernel))) rfl) ?_
  refine pg_if_eq (tgt := 17) dJ0_isLatin1_aae02_3 (by decide) (fun c3 => absurd c3 (by decide)) (fun c3 => ?_)
  refine pg_aload_n dJ0_isLatin1_aae02_6 rfl rfl ?_
  refine pg_strcod dJ0_isLatin1_aae02_7 hi (px_big_of (List.mem_append_right _ (List.mem_of_getElem? (i := 1297) (by decide +kernel))) rfl) ?_
  refine pg_if_ne (tgt := 17) dJ0_isLatin1_aae02_10 (by decide) (fun c10 => absurd c10 (by decide)) (fun c10 => ?_)
  refine pg_iconst dJ0_isLatin1_aae02_13 (show Int32.ofInt (1) = (1) by decide) ?_
  refine pg_goto (tgt := 18) dJ0_isLatin1_aae02_14 (by decide) ?_
  exact sg_iret hQ dJ0_isLatin1_aae02_18 rfl rfl rfl
set_option maxHeartbeats 4000000 in
set_option maxRecDepth 20000 in
theorem fc_length (d : Nat) {i : Nat} (hi : i < 4) : FC (d + 2) 163 (fun fx => [.ref (fx.1 i)]) (some (.int (nI (px_len.getD i 0)))) := by
  refine FC.of pm_J0_length_8abf5 rfl (fun _ => rfl) (fun _ => Nat.le_of_ble_eq_true rfl) ?_
  intro fx al n g Q hQ
  show pg px_tb fx (px_body pm_J0_length_8abf5) (pm px_tb fx (d + 1)) Q al n g 0 [.ref (fx.1 i)] [] 0 0
  refine pg_aload_n dJ0_length_8abf5_0 rfl rfl ?_
  refine pg_strval dJ0_length_8abf5_1 hi (px_big_of (List.mem_append_right _ (List.mem_of_getElem? (i := 1296) (by decide +kernel))) rfl) ?_
  refine pg_strlen dJ0_length_8abf5_4 hi ?_
  refine pg_aload_n dJ0_length_8abf5_5 rfl rfl ?_
  refine fg_callT dJ0_length_8abf5_6 cl_J0_335 hi (fc_coder d hi) rfl rfl (Nat.le_of_ble_eq_true rfl) ⟨rfl, rfl⟩ ?_
  refine pg_ishr dJ0_length_8abf5_9 ?_
  exact sg_iret hQ dJ0_length_8abf5_10 rfl rfl (by rw [sb_shr0]; rfl)
set_option maxHeartbeats 4000000 in
set_option maxRecDepth 20000 in
theorem fc_pcheck (d : Nat) {j m : Nat} {v : Value} (hv : px_isR v = true) (hj : j < m) (hm : m < 2 ^ 31) : FC (d + 1) 177 (fun fx => [.int (nI j), .int (nI m), v]) (some (.int (nI j))) := by
  refine FC.of pm_J3_checkIndex_8e157 rfl (fun _ => (by show (true && (true && (px_isI v && true))) = true; rw [px_isR_I hv]; rfl)) (fun _ => Nat.le_of_ble_eq_true rfl) ?_
  intro fx al n g Q hQ
  show pg px_tb fx (px_body pm_J3_checkIndex_8e157) (pm px_tb fx (d)) Q al n g 0 [.int (nI j), .int (nI m), v] [] 0 0
  refine pg_iload_n dJ3_checkIndex_8e157_0 rfl ?_
  refine pg_if_lt (tgt := 9) dJ3_checkIndex_8e157_1 (by decide) (fun c1 => absurd c1 (nI_pos (by omega))) (fun c1 => ?_)
  refine pg_iload_n dJ3_checkIndex_8e157_4 rfl ?_
  refine pg_iload_n dJ3_checkIndex_8e157_5 rfl ?_
  refine pg_icmp_lt (tgt := 16) dJ3_checkIndex_8e157_6 (by decide) (fun c6 => ?_) (fun c6 => absurd (nI_lt hj hm) c6)
  refine pg_iload_n dJ3_checkIndex_8e157_16 rfl ?_
  exact sg_iret hQ dJ3_checkIndex_8e157_17 rfl rfl rfl
set_option maxHeartbeats 4000000 in
set_option maxRecDepth 20000 in
theorem fc_check (d : Nat) {j m : Nat} (hj : j < m) (hm : m < 2 ^ 31) : FC (d + 2) 169 (fun fx => [.int (nI j), .int (nI m)]) (none) := by
  refine FC.of pm_J0_checkIndex_df160 rfl (fun _ => rfl) (fun _ => Nat.le_of_ble_eq_true rfl) ?_
  intro fx al n g Q hQ
  show pg px_tb fx (px_body pm_J0_checkIndex_df160) (pm px_tb fx (d + 1)) Q al n g 0 [.int (nI j), .int (nI m)] [] 0 0
  refine pg_iload_n dJ0_checkIndex_df160_0 rfl ?_
  refine pg_iload_n dJ0_checkIndex_df160_1 rfl ?_
  refine pg_getsq dJ0_checkIndex_df160_2 (px_big_of (List.mem_append_right _ (List.mem_of_getElem? (i := 310) (by decide +kernel))) rfl) (fun v hv => ?_)
  refine fg_call dJ0_checkIndex_df160_5 cl_J0_1059 (fc_pcheck d hv hj hm) rfl rfl (Nat.le_of_ble_eq_true rfl) ⟨rfl, rfl⟩ ?_
  refine pg_pop dJ0_checkIndex_df160_8 rfl ?_
  exact sg_vret hQ dJ0_checkIndex_df160_9 rfl rfl
set_option maxHeartbeats 4000000 in
set_option maxRecDepth 20000 in
theorem fc_charAtL (d : Nat) {i j : Nat} (hi : i < 4) (hj : j < px_len.getD i 0) : FC (d + 3) 171 (fun fx => [.ref (fx.2.1 i), .int (nI j)]) (some (.int (sTx i j))) := by
  refine FC.of pm_J1_charAt_3b067 rfl (fun _ => rfl) (fun _ => Nat.le_of_ble_eq_true rfl) ?_
  intro fx al n g Q hQ
  show pg px_tb fx (px_body pm_J1_charAt_3b067) (pm px_tb fx (d + 2)) Q al n g 0 [.ref (fx.2.1 i), .int (nI j)] [] 0 0
  have hm : px_len.getD i 0 < 2 ^ 31 := by
    rcases (show i = 0 ∨ i = 1 ∨ i = 2 ∨ i = 3 by omega) with rfl | rfl | rfl | rfl <;> decide
  refine pg_iload_n dJ1_charAt_3b067_0 rfl ?_
  refine pg_aload_n dJ1_charAt_3b067_1 rfl rfl ?_
  refine pg_strlen dJ1_charAt_3b067_2 hi ?_
  refine fg_call dJ1_charAt_3b067_3 cl_J1_9 (fc_check d hj hm) rfl rfl (Nat.le_of_ble_eq_true rfl) ⟨rfl, rfl⟩ ?_
  refine pg_aload_n dJ1_charAt_3b067_6 rfl rfl ?_
  refine pg_iload_n dJ1_charAt_3b067_7 rfl ?_
  refine pg_strbyt dJ1_charAt_3b067_8 hi (vp_in_nI hj hm) ?_
  rw [nI_clamp (by omega)]
  show pg _ _ _ _ _ _ _ _ _ _ [.int (sTx i j)] _ _
  refine pg_sipush dJ1_charAt_3b067_9 (show (Int16.ofInt (255)).toInt32 = (255) by decide) ?_
  refine pg_iand dJ1_charAt_3b067_12 ?_
  refine pg_i2c dJ1_charAt_3b067_13 ?_
  rw [(sTx_c i hi j hj).1]
  exact sg_iret hQ dJ1_charAt_3b067_14 rfl (sTx_c i hi j hj).2 rfl
set_option maxHeartbeats 4000000 in
set_option maxRecDepth 20000 in
theorem fc_charAt (d : Nat) {i j : Nat} (hi : i < 4) (hj : j < px_len.getD i 0) : FC (d + 4) 164 (fun fx => [.ref (fx.1 i), .int (nI j)]) (some (.int (sTx i j))) := by
  refine FC.of pm_J0_charAt_5068e rfl (fun _ => rfl) (fun _ => Nat.le_of_ble_eq_true rfl) ?_
  intro fx al n g Q hQ
  show pg px_tb fx (px_body pm_J0_charAt_5068e) (pm px_tb fx (d + 3)) Q al n g 0 [.ref (fx.1 i), .int (nI j)] [] 0 0
  refine pg_aload_n dJ0_charAt_5068e_0 rfl rfl ?_
  refine fg_callT dJ0_charAt_5068e_1 cl_J0_492 hi (fc_isLatin1 (d + 2) hi) rfl rfl (Nat.le_of_ble_eq_true rfl) ⟨rfl, rfl⟩ ?_
  refine pg_if_eq (tgt := 16) dJ0_charAt_5068e_4 (by decide) (fun c4 => absurd c4 (by decide)) (fun c4 => ?_)
  refine pg_aload_n dJ0_charAt_5068e_7 rfl rfl ?_
  refine pg_strval dJ0_charAt_5068e_8 hi (px_big_of (List.mem_append_right _ (List.mem_of_getElem? (i := 1296) (by decide +kernel))) rfl) ?_
  refine pg_iload_n dJ0_charAt_5068e_11 rfl ?_
  refine fg_call dJ0_charAt_5068e_12 cl_J0_495 (fc_charAtL d hi hj) rfl rfl (Nat.le_of_ble_eq_true rfl) ⟨rfl, rfl⟩ ?_
  exact sg_iret hQ dJ0_charAt_5068e_15 rfl (sTx_c i hi j hj).2 rfl
set_option maxHeartbeats 4000000 in
set_option maxRecDepth 20000 in
theorem fc_min (d : Nat) (x y : Int32) : FC (d + 1) 162 (fun fx => [.int x, .int y]) (some (.int (if y < x then y else x))) := by
  refine FC.of pm_J9_min_7cf53 rfl (fun _ => rfl) (fun _ => Nat.le_of_ble_eq_true rfl) ?_
  intro fx al n g Q hQ
  show pg px_tb fx (px_body pm_J9_min_7cf53) (pm px_tb fx (d)) Q al n g 0 [.int x, .int y] [] 0 0
  refine pg_iload_n dJ9_min_7cf53_0 rfl ?_
  refine pg_iload_n dJ9_min_7cf53_1 rfl ?_
  refine pg_icmp_gt (tgt := 9) dJ9_min_7cf53_2 (by decide) (fun c2 => ?_) (fun c2 => ?_)
  ·
    have c29 := Int32.not_le.mpr c2
    refine pg_iload_n dJ9_min_7cf53_9 rfl ?_
    exact sg_iret hQ dJ9_min_7cf53_10 rfl rfl (by simp [c2, c29])
  ·
    have c29 := Int32.not_lt.mp c2
    refine pg_iload_n dJ9_min_7cf53_5 rfl ?_
    refine pg_goto (tgt := 10) dJ9_min_7cf53_6 (by decide) ?_
    exact sg_iret hQ dJ9_min_7cf53_10 rfl rfl (by simp [c2, c29])
set_option maxHeartbeats 4000000 in
set_option maxRecDepth 20000 in
theorem fc_max (d : Nat) (x y : Int32) : FC (d + 1) 161 (fun fx => [.int x, .int y]) (some (.int (if x < y then y else x))) := by
  refine FC.of pm_J9_max_7cf53 rfl (fun _ => rfl) (fun _ => Nat.le_of_ble_eq_true rfl) ?_
  intro fx al n g Q hQ
  show pg px_tb fx (px_body pm_J9_max_7cf53) (pm px_tb fx (d)) Q al n g 0 [.int x, .int y] [] 0 0
  refine pg_iload_n dJ9_max_7cf53_0 rfl ?_
  refine pg_iload_n dJ9_max_7cf53_1 rfl ?_
  refine pg_icmp_lt (tgt := 9) dJ9_max_7cf53_2 (by decide) (fun c2 => ?_) (fun c2 => ?_)
  ·
    have c29 := Int32.not_le.mpr c2
    refine pg_iload_n dJ9_max_7cf53_9 rfl ?_
    exact sg_iret hQ dJ9_max_7cf53_10 rfl rfl (by simp [c2, c29])
  ·
    have c29 := Int32.not_lt.mp c2
    refine pg_iload_n dJ9_max_7cf53_5 rfl ?_
    refine pg_goto (tgt := 10) dJ9_max_7cf53_6 (by decide) ?_
    exact sg_iret hQ dJ9_max_7cf53_10 rfl rfl (by simp [c2, c29])
