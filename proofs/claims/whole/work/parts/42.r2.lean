theorem ix_mul (c l k : Nat) : nI c * nI l + nI k = nI (c * l + k) := by rw [pk_mul, nI_add]
theorem upd_upd (f : Nat → Int32) (k : Nat) (v w : Int32) : upd (upd f k v) k w = upd f k w := by
  funext j
  by_cases e : j = k
  · subst e; rw [pk_us, pk_us]
  · rw [pk_un e, pk_un e, pk_un e]
theorem upd_at (f : Nat → Int32) (k j : Nat) (v : Int32) : upd f k v j = if j = k then v else f j := rfl
theorem va_up_at {α : Type} (f : Nat → α) (k j : Nat) (v : α) : va_up f k v j = if j = k then v else f j := rfl
theorem nI_lit (c : Nat) : nI c = Int32.ofNat c := rfl
theorem in_iff {v : Int32} {m : Nat} (hm : m < 2 ^ 31) (h0 : ¬ v < 0) (h1 : v < nI m) : ∃ j, j < m ∧ v = nI j := by
  obtain ⟨j, hj, rfl⟩ := nI_of h0
  exact ⟨j, (nI_ltI hj hm).mp h1, rfl⟩
/-- the reference's table of what a learner can, as bits -/
def rCans (can : Nat → Int32) (l : Nat) : Nat → Int32
  | 0 => 0
  | k + 1 => rCans can l k ||| (if 32 ≤ can (8 * l + k) then 1 <<< (nI k &&& 31) else 0)
set_option maxHeartbeats 4000000 in
set_option maxRecDepth 20000 in
theorem rl_cans {fx : px_F} {dd : Nat} {Q : px_Q} {al : Nat → Nat} {n : Nat} {g0 : Nat → px_O} {r : Nat} {sc : Nat → Int32} {ar : Nat → Nat → Int32} {l : Nat} (hl : l < 8) (hQ : ∀ g2, RR al n g2 r sc ar → rf_fr r g0 g2 → Q (.inl (some (.int (rCans (ar 18) l 8)))) al n g2) : ∀ m k, k + m = 8 → pr fx (px_body pm_X10_cans) dd Q al n g0 r sc ar 4 [.ref (al r), .int (nI l), .int (rCans (ar 18) l k), .int (nI k)] []
  | 0, k, hk => by
    obtain rfl : k = 8 := by omega
    refine pr_iload_n dX10_cans_4 rfl ?_
    refine pr_bipush dX10_cans_5 (show (Int8.ofInt (8)).toInt32 = (8) by decide) ?_
    refine pr_icmp_ge (tgt := 42) dX10_cans_7 (by decide) (fun c7 => ?_) (fun c7 => absurd (show (8 : Int32) ≤ nI 8 by decide) c7)
    refine pr_iload_n dX10_cans_42 rfl ?_
    exact pr_iret hQ dX10_cans_43 rfl rfl rfl rfl rfl
  | m + 1, k, hk => by
    have ih := rl_cans (fx := fx) (dd := dd) hl hQ m (k + 1) (by omega)
    refine pr_iload_n dX10_cans_4 rfl ?_
    refine pr_bipush dX10_cans_5 (show (Int8.ofInt (8)).toInt32 = (8) by decide) ?_
    refine pr_icmp_ge (tgt := 42) dX10_cans_7 (by decide) (fun c7 => absurd c7 (nI_ge (a := k) (b := 8) (by omega) (by decide))) (fun c7 => ?_)
    refine pr_iload_n dX10_cans_10 rfl ?_
    refine pr_aload_n dX10_cans_11 rfl rfl ?_
    refine pr_getA dX10_cans_12 fk_X10_70 rfl ?_
    refine pr_bipush dX10_cans_15 (show (Int8.ofInt (8)).toInt32 = (8) by decide) ?_
    refine pr_iload_n dX10_cans_17 rfl ?_
    refine pr_imul dX10_cans_18 ?_
    refine pr_iload_n dX10_cans_19 rfl ?_
    refine pr_iadd dX10_cans_20 ?_
    refine pr_iald (j := 8 * l + k) dX10_cans_21 (by decide) rfl (ix_mul 8 l k) (by show 8 * l + k < 64; omega) rfl ?_
    refine pr_bipush dX10_cans_22 (show (Int8.ofInt (32)).toInt32 = (32) by decide) ?_
    refine pr_icmp_lt (tgt := 33) dX10_cans_24 (by decide) (fun c24 => ?_) (fun c24 => ?_)
    ·
      have c249 := Int32.not_le.mpr c24
      refine pr_iconst dX10_cans_33 (show Int32.ofInt (0) = (0) by decide) ?_
      refine pr_ior dX10_cans_34 ?_
      refine pr_istore_n dX10_cans_35 (Nat.le_of_ble_eq_true rfl) ?_
      refine pr_iinc dX10_cans_36 rfl (show Int32.ofInt (1) = (1) by decide) ?_
      refine pr_goto (tgt := 4) dX10_cans_39 (by decide) ?_
      rw [nI_1]
      have e1 : rCans (ar 18) l (k + 1) = _ := rfl
      rw [rCans] at ih
      first | (rw [if_pos (by simpa [Int32.not_lt] using c24)] at ih; exact ih) | (rw [if_neg (by simpa [Int32.not_le] using c24)] at ih; exact ih)
    ·
      have c249 := Int32.not_lt.mp c24
      refine pr_iconst dX10_cans_27 (show Int32.ofInt (1) = (1) by decide) ?_
      refine pr_iload_n dX10_cans_28 rfl ?_
      refine pr_ishl dX10_cans_29 ?_
      refine pr_goto (tgt := 34) dX10_cans_30 (by decide) ?_
      refine pr_ior dX10_cans_34 ?_
      refine pr_istore_n dX10_cans_35 (Nat.le_of_ble_eq_true rfl) ?_
      refine pr_iinc dX10_cans_36 rfl (show Int32.ofInt (1) = (1) by decide) ?_
      refine pr_goto (tgt := 4) dX10_cans_39 (by decide) ?_
      rw [nI_1]
      have e1 : rCans (ar 18) l (k + 1) = _ := rfl
      rw [rCans] at ih
      first | (rw [if_pos (by simpa [Int32.not_lt] using c24)] at ih; exact ih) | (rw [if_neg (by simpa [Int32.not_le] using c24)] at ih; exact ih)
set_option maxHeartbeats 4000000 in
set_option maxRecDepth 20000 in
theorem rc_cans (d : Nat) (sc : Nat → Int32) (ar : Nat → Nat → Int32) {l : Nat} (hl : l < 8) : RC (d + 1) 138 [.int (nI l)] sc ar (some (.int (rCans (ar 18) l 8))) (sc) (ar) := by
  refine RC.of pm_X10_cans rfl rfl (Nat.le_of_ble_eq_true rfl) ?_
  intro fx al n g0 r Q hQ
  show pr fx (px_body pm_X10_cans) (d) Q al n g0 r sc ar 0 [.ref (al r), .int (nI l), .float 0, .float 0] []
  refine pr_iconst dX10_cans_0 (show Int32.ofInt (0) = (0) by decide) ?_
  refine pr_istore_n dX10_cans_1 (Nat.le_of_ble_eq_true rfl) ?_
  refine pr_iconst dX10_cans_2 (show Int32.ofInt (0) = (0) by decide) ?_
  refine pr_istore_n dX10_cans_3 (Nat.le_of_ble_eq_true rfl) ?_
  exact rl_cans hl hQ 8 0 rfl
