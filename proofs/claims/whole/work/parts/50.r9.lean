theorem upd_self {f : Nat → Int32} {k : Nat} {v : Int32} (h : f k = v) : upd f k v = f := by
  funext j
  by_cases e : j = k
  · subst e; rw [pk_us, h]
  · rw [pk_un e]
theorem wE_mono {B : Nat → Nat} {b i k : Nat} (h : wE B b i k = false) : ∀ m, wE B b i (k + m) = false
  | 0 => h
  | m + 1 => by show (wE B b i (k + m) && _) = false; rw [wE_mono h m]; rfl
/-- a contract whose arguments name a text -/
def RX (d k : Nat) (as : px_F → List Value) (sc : Nat → Int32) (ar : Nat → Nat → Int32) (res : Option Value) (sc2 : Nat → Int32) (ar2 : Nat → Nat → Int32) : Prop :=
  ∀ (fx : px_F) (al : Nat → Nat) (n : Nat) (g : Nat → px_O) (r : Nat) (Q : px_Q), RR al n g r sc ar → (∀ g2, RR al n g2 r sc2 ar2 → rf_fr r g g2 → Q (.inl res) al n g2) → pm px_tb fx d k (.ref (al r) :: as fx) al n g Q
theorem pr_callX {fx : px_F} {bd : px_B} {dd : Nat} {Q : px_Q} {al : Nat → Nat} {n : Nat} {g0 : Nat → px_O} {r : Nat} {sc : Nat → Int32} {ar : Nat → Nat → Int32} {pc : Nat} {ls st : List Value} {idx k : Nat} {as : px_F → List Value} {st0 : List Value} {res : Option Value} {sc2 : Nat → Int32} {ar2 : Nat → Nat → Int32} (h0 : decode bd.2.1 pc = .ok (.invokevirtual idx, 3)) {na : Nat} (h1 : px_cV px_tb bd.1 idx k 10 na) (hC : RX dd k as sc ar res sc2 ar2) (hn : (as fx).length = na) (h4 : st0 = (as fx).reverse ++ .ref (al r) :: st) (h5 : (st.map fun v => v.category).sum ≤ 8) (hz : px_mc px_tb k = 0 ∧ px_ms px_tb k = 0)
    (kk : pr fx bd dd Q al n g0 r sc2 ar2 (pc + 3) ls (res.toList ++ st)) : pr fx bd dd Q al n g0 r sc ar pc ls st0 := fun g hR hF => by
  refine pg_callV (pm_mono px_tb fx dd) (idx := idx) (k := k) (As := as fx) h0 (hn ▸ h1) (by have := hR.1; omega) hR.2.1 h4 h5 (by rw [hz.1]; exact Nat.zero_le _) (by rw [hz.2]; exact Nat.zero_le _) ?_
  rw [hz.1, hz.2]
  exact hC fx al n g r _ hR (fun g2 hR2 hF2 => kk g2 hR2 (hF.tr hF2))
set_option maxHeartbeats 4000000 in
set_option maxRecDepth 20000 in
theorem rl_isWord {fx : px_F} {dd : Nat} {Q : px_Q} {al : Nat → Nat} {n : Nat} {g0 : Nat → px_O} {r : Nat} {sc : Nat → Int32} {ar : Nat → Nat → Int32} {B : Nat → Nat} {e b a i : Nat} (hB : rB sc ar B e) (hi : i < 4) (hb : sc 5 = nI b) (hae : a ≤ e) (hlen : a - b = px_len.getD i 0) (hba : b ≤ a) (hlet : ∀ k, b + k < a → B (b + k) < 128) (hQ : ∀ g2, RR al n g2 r sc ar → rf_fr r g0 g2 → Q (.inl (some (.int (zB (wE B b i (px_len.getD i 0)))))) al n g2) : ∀ (m k : Nat) (bb : Bool), k + m = px_len.getD i 0 → bb = wE B b i k → pr fx (px_body pm_X10_isWord) (dd + 4) Q al n g0 r sc ar 24 [.ref (al r), .ref (fx.1 i), .int (zB bb), .int (nI k)] []
  | 0, k, bb, hk, hbb => by
    have hlt : px_len.getD i 0 < 2 ^ 31 := by have := hB.2.1; omega
    obtain rfl : k = px_len.getD i 0 := by omega
    refine pr_iload_n dX10_isWord_24 rfl ?_
    refine pr_if_eq (tgt := 67) dX10_isWord_25 (by decide) (fun c25 => ?_) (fun c25 => ?_)
    ·
      refine pr_iload_n dX10_isWord_67 rfl ?_
      subst hbb
      exact pr_iret hQ dX10_isWord_68 rfl (zB_nar _) rfl rfl rfl
    ·
      refine pr_iload_n dX10_isWord_28 rfl ?_
      refine pr_aload_n dX10_isWord_29 rfl rfl ?_
      refine pr_callT dX10_isWord_30 cl_X10_94 hi (fc_length (dd + 2) hi) rfl rfl (Nat.le_of_ble_eq_true rfl) ⟨rfl, rfl⟩ ?_
      refine pr_icmp_ge (tgt := 67) dX10_isWord_33 (by decide) (fun c33 => ?_) (fun c33 => absurd (Int32.le_refl _) c33)
      refine pr_iload_n dX10_isWord_67 rfl ?_
      subst hbb
      exact pr_iret hQ dX10_isWord_68 rfl (zB_nar _) rfl rfl rfl
  | m + 1, k, bb, hk, hbb => by
    have hlt : px_len.getD i 0 < 2 ^ 31 := by have := hB.2.1; omega
    have ih := rl_isWord (fx := fx) (dd := dd) hB hi hb hae hlen hba hlet hQ m (k + 1)
    refine pr_iload_n dX10_isWord_24 rfl ?_
    refine pr_if_eq (tgt := 67) dX10_isWord_25 (by decide) (fun c25 => ?_) (fun c25 => ?_)
    ·
      refine pr_iload_n dX10_isWord_67 rfl ?_
      have hf : bb = false := zB_0.mp c25
      subst hf
      have := wE_mono hbb.symm (m + 1)
      rw [hk] at this
      rw [this] at hQ
      exact pr_iret hQ dX10_isWord_68 rfl rfl rfl rfl rfl
    ·
      refine pr_iload_n dX10_isWord_28 rfl ?_
      refine pr_aload_n dX10_isWord_29 rfl rfl ?_
      refine pr_callT dX10_isWord_30 cl_X10_94 hi (fc_length (dd + 2) hi) rfl rfl (Nat.le_of_ble_eq_true rfl) ⟨rfl, rfl⟩ ?_
      refine pr_icmp_ge (tgt := 67) dX10_isWord_33 (by decide) (fun c33 => absurd c33 (nI_ge (a := k) (by omega) hlt)) (fun c33 => ?_)
      refine pr_aload_n dX10_isWord_36 rfl rfl ?_
      refine pr_getA dX10_isWord_37 fk_X10_9 rfl ?_
      refine pr_aload_n dX10_isWord_40 rfl rfl ?_
      refine pr_getS (v := nI b) dX10_isWord_41 fk_X10_91 rfl hb ?_
      refine pr_iload_n dX10_isWord_44 rfl ?_
      refine pr_iadd dX10_isWord_45 ?_
      have hbk : B (b + k) < 128 := hlet k (by omega)
      refine pr_bald (v := nI (B (b + k))) (j := b + k) dX10_isWord_46 (by decide) rfl (nI_add b k) (by have := hB.2.1; show b + k < 400; omega) ((hB.2.2 (b + k) (by omega)).1.trans (sb_lo _ hbk)) ?_
      refine pr_aload_n dX10_isWord_47 rfl rfl ?_
      refine pr_iload_n dX10_isWord_48 rfl ?_
      refine pr_callT dX10_isWord_49 cl_X10_100 hi (fc_charAt dd hi (j := k) (by omega)) rfl rfl (Nat.le_of_ble_eq_true rfl) ⟨rfl, rfl⟩ ?_
      refine pr_icmp_ne (tgt := 59) dX10_isWord_52 (by decide) (fun c52 => ?_) (fun c52 => ?_)
      ·
        refine pr_iconst dX10_isWord_59 (show Int32.ofInt (0) = (0) by decide) ?_
        refine pr_istore_n dX10_isWord_60 (Nat.le_of_ble_eq_true rfl) ?_
        refine pr_iinc dX10_isWord_61 rfl (show Int32.ofInt (1) = (1) by decide) ?_
        refine pr_goto (tgt := 24) dX10_isWord_64 (by decide) ?_
        have ht : bb = true := by
          cases bb with
          | true => rfl
          | false => exact absurd rfl c25
        rw [nI_1 k]
        exact ih false (by omega) (by show false = (wE B b i k && _); rw [decide_eq_false c52, Bool.and_false])
      ·
        refine pr_iconst dX10_isWord_55 (show Int32.ofInt (1) = (1) by decide) ?_
        refine pr_goto (tgt := 60) dX10_isWord_56 (by decide) ?_
        refine pr_istore_n dX10_isWord_60 (Nat.le_of_ble_eq_true rfl) ?_
        refine pr_iinc dX10_isWord_61 rfl (show Int32.ofInt (1) = (1) by decide) ?_
        refine pr_goto (tgt := 24) dX10_isWord_64 (by decide) ?_
        have ht : bb = true := by
          cases bb with
          | true => rfl
          | false => exact absurd rfl c25
        rw [nI_1 k]
        exact ih true (by omega) (by show true = (wE B b i k && _); rw [← hbb, ht, decide_eq_true c52]; rfl)
set_option maxHeartbeats 4000000 in
set_option maxRecDepth 20000 in
theorem rx_isWord (d : Nat) (sc : Nat → Int32) (ar : Nat → Nat → Int32) {B : Nat → Nat} {e b a i : Nat} (hB : rB sc ar B e) (hi : i < 4) (hb : sc 5 = nI b) (ha : sc 6 = nI a) (hae : a ≤ e) (hba : b ≤ a) (hlet : ∀ k, b + k < a → B (b + k) < 128) : RX (d + 5) 96 (fun fx => [.ref (fx.1 i)]) sc ar (some (.int (zB (wIs B b a i)))) sc ar := by
  intro fx al n g r Q hR hQ
  refine ⟨pm_X10_isWord, rfl, rfl, Nat.le_of_ble_eq_true rfl, ?_⟩
  have g0 := g
  have hlt : px_len.getD i 0 < 2 ^ 31 := by
    rcases (show i = 0 ∨ i = 1 ∨ i = 2 ∨ i = 3 by omega) with rfl | rfl | rfl | rfl <;> decide
  refine (?_ : pr fx (px_body pm_X10_isWord) (d + 4) Q al n g r sc ar 0 [.ref (al r), .ref (fx.1 i), .float 0, .float 0] []) g hR rf_fr.rf
  refine pr_aload_n dX10_isWord_0 rfl rfl ?_
  refine pr_getS (v := nI a) dX10_isWord_1 fk_X10_88 rfl ha ?_
  refine pr_aload_n dX10_isWord_4 rfl rfl ?_
  refine pr_getS (v := nI b) dX10_isWord_5 fk_X10_91 rfl hb ?_
  refine pr_isub dX10_isWord_8 ?_
  rw [show nI a - nI b = nI (a - b) from pk_sub hba]
  refine pr_aload_n dX10_isWord_9 rfl rfl ?_
  refine pr_callT dX10_isWord_10 cl_X10_94 hi (fc_length (d + 2) hi) rfl rfl (Nat.le_of_ble_eq_true rfl) ⟨rfl, rfl⟩ ?_
  refine pr_icmp_ne (tgt := 20) dX10_isWord_13 (by decide) (fun c13 => ?_) (fun c13 => ?_)
  ·
    refine pr_iconst dX10_isWord_20 (show Int32.ofInt (0) = (0) by decide) ?_
    refine pr_istore_n dX10_isWord_21 (Nat.le_of_ble_eq_true rfl) ?_
    refine pr_iconst dX10_isWord_22 (show Int32.ofInt (0) = (0) by decide) ?_
    refine pr_istore_n dX10_isWord_23 (Nat.le_of_ble_eq_true rfl) ?_
    have hne : ¬ a - b = px_len.getD i 0 := fun z => c13 (by rw [z])
    rw [show wIs B b a i = false by unfold wIs; rw [decide_eq_false hne]; rfl] at hQ
    refine pr_iload_n dX10_isWord_24 rfl ?_
    refine pr_if_eq (tgt := 67) dX10_isWord_25 (by decide) (fun c25 => ?_) (fun c25 => absurd (show ((0 : Int32) = 0) from rfl) c25)
    refine pr_iload_n dX10_isWord_67 rfl ?_
    exact pr_iret hQ dX10_isWord_68 rfl rfl rfl rfl rfl
  ·
    refine pr_iconst dX10_isWord_16 (show Int32.ofInt (1) = (1) by decide) ?_
    refine pr_goto (tgt := 21) dX10_isWord_17 (by decide) ?_
    refine pr_istore_n dX10_isWord_21 (Nat.le_of_ble_eq_true rfl) ?_
    refine pr_iconst dX10_isWord_22 (show Int32.ofInt (0) = (0) by decide) ?_
    refine pr_istore_n dX10_isWord_23 (Nat.le_of_ble_eq_true rfl) ?_
    have heq : a - b = px_len.getD i 0 := (nI_eq (by have := hB.2.1; omega) hlt).mp c13
    rw [show wIs B b a i = wE B b i (px_len.getD i 0) by unfold wIs; rw [decide_eq_true heq]; rfl] at hQ
    exact rl_isWord hB hi hb hae heq hba hlet hQ (px_len.getD i 0) 0 true (Nat.zero_add _) rfl
