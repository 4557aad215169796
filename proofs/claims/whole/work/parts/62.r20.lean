theorem pP_cong {T T' : Nat → Int32} : ∀ (f kd dp i j : Nat), kd < 7 → pP T f kd dp i = some (true, j) → (∀ k, k ≤ j → T' k = T k) → pP T' f kd dp i = some (true, j)
  | 0, _, _, _, _, _, h, _ => by rw [pP] at h; cases h
  | f + 1, kd, dp, i, j, hk, h, hc => by
    have IH := pP_cong (T := T) (T' := T') f
    match kd, hk, h with
    | 0, _, h =>
      obtain ⟨q, h1, h2⟩ := pP_t0 h
      have l1 := pP_lt _ _ _ _ _ (by decide) h1
      rcases h2 with ⟨c, h2⟩ | ⟨c, rfl⟩
      · have l2 := pP_lt _ _ _ _ _ (by decide) h2
        rw [pP, IH 1 dp i q (by decide) h1 (fun k hk => hc k (by omega)), Option.bind_some, if_neg (fun z => Bool.noConfusion z)]
        show (if T' q = nI 59 then pP T' f 0 dp (q + 1) else some (true, q)) = _
        rw [hc q (by omega), if_pos c]
        exact IH 0 dp (q + 1) j (by decide) h2 hc
      · rw [pP, IH 1 dp i j (by decide) h1 hc, Option.bind_some, if_neg (fun z => Bool.noConfusion z)]
        show (if T' j = nI 59 then pP T' f 0 dp (j + 1) else some (true, j)) = _
        rw [hc j (Nat.le_refl _), if_neg c]
    | 1, _, h =>
      rcases pP_t1 h with ⟨hv, h1, h2⟩ | ⟨hv, c, q, w, h1, h2, h3⟩
      · have l2 := pP_lt _ _ _ _ _ (by decide) h2
        rw [pP, hc i (by omega), hc (i + 1) (by omega), if_pos hv, if_pos h1]
        exact IH 3 dp (i + 2) j (by decide) h2 hc
      · have l1 := pP_lt _ _ _ _ _ (by decide) h1
        have l2 := pP_lt _ _ _ _ _ (by decide) h2
        have hwj : w ≤ j := by
          rcases h3 with ⟨_, _, h3⟩ | ⟨_, rfl⟩
          · have := pP_lt _ _ _ _ _ (by decide) h3; omega
          · exact Nat.le_refl _
        rw [pP, hc i (by omega), if_neg hv, if_pos c, IH 3 dp (i + 1) q (by decide) h1 (fun k hk => hc k (by omega)), Option.bind_some, if_neg (fun z => Bool.noConfusion z)]
        show (pP T' f 2 dp q).bind _ = _
        rw [IH 2 dp q w (by decide) h2 (fun k hk => hc k (by omega)), Option.bind_some, if_neg (fun z => Bool.noConfusion z)]
        show (if T i = nI 257 ∧ T' w = nI 258 then pP T' f 2 dp (w + 1) else some (true, w)) = _
        rw [hc w hwj]
        rcases h3 with ⟨c1, c2, h3⟩ | ⟨c3, rfl⟩
        · rw [if_pos ⟨c1, c2⟩]; exact IH 2 dp (w + 1) j (by decide) h3 hc
        · rw [if_neg c3]
    | 2, _, h =>
      obtain ⟨c, hd, q, h1, h2, rfl⟩ := pP_t2 h
      have l1 := pP_lt _ _ _ _ _ (by decide) h1
      rw [pP, hc i (by omega), if_pos ⟨c, hd⟩, IH 0 (dp + 1) (i + 1) q (by decide) h1 (fun k hk => hc k (by omega)), Option.bind_some, if_neg (fun z => Bool.noConfusion z)]
      show (if T' q = nI 125 then some (true, q + 1) else some (false, q)) = _
      rw [hc q (by omega), if_pos h2]
    | 3, _, h =>
      obtain ⟨q, h1, h2⟩ := pP_t3 h
      have l1 := pP_lt _ _ _ _ _ (by decide) h1
      rcases h2 with ⟨c, h2⟩ | ⟨c, rfl⟩
      · have l2 := pP_lt _ _ _ _ _ (by decide) h2
        rw [pP, IH 4 dp i q (by decide) h1 (fun k hk => hc k (by omega)), Option.bind_some, if_neg (fun z => Bool.noConfusion z)]
        show (if T' q = nI 60 then pP T' f 4 dp (q + 1) else some (true, q)) = _
        rw [hc q (by omega), if_pos c]
        exact IH 4 dp (q + 1) j (by decide) h2 hc
      · rw [pP, IH 4 dp i j (by decide) h1 hc, Option.bind_some, if_neg (fun z => Bool.noConfusion z)]
        show (if T' j = nI 60 then pP T' f 4 dp (j + 1) else some (true, j)) = _
        rw [hc j (Nat.le_refl _), if_neg c]
    | 4, _, h =>
      obtain ⟨q, h1, h2⟩ := pP_t4 h
      have l1 := pP_lt _ _ _ _ _ (by decide) h1
      rcases h2 with ⟨c, h2⟩ | ⟨c, rfl⟩
      · have l2 := pP_lt _ _ _ _ _ (by decide) h2
        rw [pP, IH 5 dp i q (by decide) h1 (fun k hk => hc k (by omega)), Option.bind_some, if_neg (fun z => Bool.noConfusion z)]
        show (if T' q = nI 43 ∨ T' q = nI 45 then pP T' f 4 dp (q + 1) else some (true, q)) = _
        rw [hc q (by omega), if_pos c]
        exact IH 4 dp (q + 1) j (by decide) h2 hc
      · rw [pP, IH 5 dp i j (by decide) h1 hc, Option.bind_some, if_neg (fun z => Bool.noConfusion z)]
        show (if T' j = nI 43 ∨ T' j = nI 45 then pP T' f 4 dp (j + 1) else some (true, j)) = _
        rw [hc j (Nat.le_refl _), if_neg c]
    | 5, _, h =>
      obtain ⟨q, h1, h2⟩ := pP_t5 h
      have l1 := pP_lt _ _ _ _ _ (by decide) h1
      rcases h2 with ⟨c, h2⟩ | ⟨c, rfl⟩
      · have l2 := pP_lt _ _ _ _ _ (by decide) h2
        rw [pP, IH 6 dp i q (by decide) h1 (fun k hk => hc k (by omega)), Option.bind_some, if_neg (fun z => Bool.noConfusion z)]
        show (if T' q = nI 42 ∨ T' q = nI 47 ∨ T' q = nI 37 then pP T' f 5 dp (q + 1) else some (true, q)) = _
        rw [hc q (by omega), if_pos c]
        exact IH 5 dp (q + 1) j (by decide) h2 hc
      · rw [pP, IH 6 dp i j (by decide) h1 hc, Option.bind_some, if_neg (fun z => Bool.noConfusion z)]
        show (if T' j = nI 42 ∨ T' j = nI 47 ∨ T' j = nI 37 then pP T' f 5 dp (j + 1) else some (true, j)) = _
        rw [hc j (Nat.le_refl _), if_neg c]
    | 6, _, h =>
      rw [pP_6]
      rcases pP_t6 h with ⟨c, rfl⟩ | ⟨c0, c, hd, q, h1, h2, rfl⟩
      · rw [hc i (by omega), if_pos c]
      · have l1 := pP_lt _ _ _ _ _ (by decide) h1
        rw [hc i (by omega), if_neg c0, if_pos ⟨c, hd⟩, IH 3 (dp + 1) (i + 1) q (by decide) h1 (fun k hk => hc k (by omega)), Option.bind_some, if_neg (fun z => Bool.noConfusion z)]
        show (if T' q = nI 41 then some (true, q + 1) else some (false, q)) = _
        rw [hc q (by omega), if_pos h2]
set_option maxHeartbeats 4000000 in
set_option maxRecDepth 20000 in
theorem rp_pairs (d : Nat) {sc : Nat → Int32} {ar : Nat → Nat → Int32} {m : Nat} (hm : sc 16 = nI m) (hm2 : m ≤ 120) (hP : pP (tz m (ar 3)) 860 0 0 0 = some (true, m)) : RP (d + 1) 113 [] sc ar (fun res sc2 ar2 => res = none ∧ sc2 = sc ∧ (∀ a, a ≠ 4 → a ≠ 5 → a ≠ 6 → a ≠ 7 → ar2 a = ar a) ∧ pK (tz m (ar 3)) (ar2 4) (ar2 5) 860 0 0 false 0) := by
  refine RP.of pm_X10_pairs rfl rfl (Nat.le_of_ble_eq_true rfl) ?_
  intro fx al n g0 r Q hQ
  show pr fx (px_body pm_X10_pairs) d Q al n g0 r sc ar 0 [.ref (al r), .float 0, .float 0, .float 0] []
  refine pr_iconst dX10_pairs_0 (show Int32.ofInt (0) = (0) by decide) ?_
  refine pr_istore_n dX10_pairs_1 (Nat.le_of_ble_eq_true rfl) ?_
  refine pr_iconst dX10_pairs_2 (show Int32.ofInt (0) = (0) by decide) ?_
  refine pr_istore_n dX10_pairs_3 (Nat.le_of_ble_eq_true rfl) ?_
  refine pr_aload_n dX10_pairs_4 rfl rfl ?_
  refine pr_getA dX10_pairs_5 fk_X10_37 rfl ?_
  refine pr_iconst dX10_pairs_8 (show Int32.ofInt (0) = (0) by decide) ?_
  refine pr_iconst dX10_pairs_9 (show Int32.ofInt (0) = (0) by decide) ?_
  refine pr_zast (j := 0) dX10_pairs_10 (by decide) rfl rfl (by decide) ?_
  rw [show vp_nar .boolean 0 = 0 from by decide]
  refine pr_iconst dX10_pairs_11 (show Int32.ofInt (0) = (0) by decide) ?_
  refine pr_istore_n dX10_pairs_12 (Nat.le_of_ble_eq_true rfl) ?_
  refine pw_all (S := ar 3) hm hm2 860 0 0 0 m false false (va_up ar 7 (upd (ar 7) 0 0)) (by decide) (by decide) hP rfl rfl (fun lo2 ar2 hR hK => ?_)
  show pr fx (px_body pm_X10_pairs) d Q al n g0 r sc ar2 13 [.ref (al r), .int (nI 0), .int (zB lo2), .int (nI m)] []
  refine pr_iload_n dX10_pairs_13 rfl ?_
  refine pr_aload_n dX10_pairs_14 rfl rfl ?_
  refine pr_getS (v := nI m) dX10_pairs_15 fk_X10_184 rfl hm ?_
  refine pr_icmp_ge (tgt := 161) dX10_pairs_18 (by decide) (fun c18 => ?_) (fun c18 => absurd (Int32.le_refl _) c18)
  exact pr_vretP hQ dX10_pairs_161 rfl ⟨rfl, rfl, fun a a4 a5 a6 a7 => (hR.1 a a4 a5 a6 a7).trans (va_up_ne _ _ a7), hK⟩
def cpS (S D : Nat → Int32) (k : Nat) : Nat → Int32 := fun j => if j < k then D j else S j
theorem cpS_0 (S D : Nat → Int32) : cpS S D 0 = S := by funext j; unfold cpS; rw [if_neg (by omega)]
theorem cpS_1 (S D : Nat → Int32) (k : Nat) : upd (cpS S D k) k (D k) = cpS S D (k + 1) := by
  funext j
  by_cases e : j = k
  · subst e; rw [pk_us]; unfold cpS; rw [if_pos (by omega)]
  · rw [pk_un e]; unfold cpS
    by_cases c : j < k
    · rw [if_pos c, if_pos (by omega)]
    · rw [if_neg c, if_neg (by omega)]
theorem va_3 (ar : Nat → Nat → Int32) (a : Nat) (V W : Nat → Int32) : va_up (va_up ar a V) a W = va_up ar a W := by
  funext b
  by_cases e : b = a
  · subst e; rw [va_up_self, va_up_self]
  · rw [va_up_ne _ _ e, va_up_ne _ _ e, va_up_ne _ _ e]
set_option maxHeartbeats 4000000 in
set_option maxRecDepth 20000 in
theorem rl_rcopy {fx : px_F} {dd : Nat} {Q : px_Q} {al : Nat → Nat} {n : Nat} {g0 : Nat → px_O} {r : Nat} {sc : Nat → Int32} {ar : Nat → Nat → Int32} {m : Nat} (hm : sc 16 = nI m) (hm2 : m ≤ 120) (kk : pr fx (px_body pm_X10_read) dd Q al n g0 r sc (va_up ar 3 (cpS (ar 3) (ar 2) m)) 130 [.ref (al r), .int 1, .int (nI m)] []) : ∀ (mm k : Nat), k + mm = m → pr fx (px_body pm_X10_read) dd Q al n g0 r sc (va_up ar 3 (cpS (ar 3) (ar 2) k)) 104 [.ref (al r), .int 1, .int (nI k)] []
  | 0, k, hk => by
    obtain rfl : k = m := by omega
    refine pr_iload_n dX10_read_104 rfl ?_
    refine pr_aload_n dX10_read_105 rfl rfl ?_
    refine pr_getS (v := nI k) dX10_read_106 fk_X10_184 rfl hm ?_
    refine pr_icmp_ge (tgt := 130) dX10_read_109 (by decide) (fun c109 => ?_) (fun c109 => absurd (Int32.le_refl _) c109)
    exact kk
  | mm + 1, k, hk => by
    have ih := rl_rcopy hm hm2 kk mm (k + 1) (by omega)
    rw [← cpS_1] at ih
    refine pr_iload_n dX10_read_104 rfl ?_
    refine pr_aload_n dX10_read_105 rfl rfl ?_
    refine pr_getS (v := nI m) dX10_read_106 fk_X10_184 rfl hm ?_
    refine pr_icmp_ge (tgt := 130) dX10_read_109 (by decide) (fun c109 => absurd c109 (Int32.not_le.mpr (nI_lt (by omega) (by omega)))) (fun c109 => ?_)
    refine pr_aload_n dX10_read_112 rfl rfl ?_
    refine pr_getA dX10_read_113 fk_X10_24 rfl ?_
    refine pr_iload_n dX10_read_116 rfl ?_
    refine pr_aload_n dX10_read_117 rfl rfl ?_
    refine pr_getA dX10_read_118 fk_X10_21 rfl ?_
    refine pr_iload_n dX10_read_121 rfl ?_
    refine pr_iald (j := k) dX10_read_122 (by decide) rfl rfl (by show k < 120; omega) rfl ?_
    refine pr_iast (j := k) dX10_read_123 (by decide) rfl rfl (by show k < 120; omega) ?_
    rw [va_3]
    refine pr_iinc dX10_read_124 rfl (show Int32.ofInt (1) = (1) by decide) ?_
    refine pr_goto (tgt := 104) dX10_read_127 (by decide) ?_
    rw [nI_1]
    exact ih
theorem rT_end {t : Int32} (h : rT t = -2) : t = 0 := by
  unfold rT at h
  by_cases c : t = 0
  · exact c
  · rw [if_neg c] at h
    by_cases c2 : t = -2
    · rw [if_pos c2] at h; exact absurd h (by decide)
    · rw [if_neg c2] at h; exact absurd h c2
set_option maxHeartbeats 4000000 in
set_option maxRecDepth 20000 in
theorem rp_read_bad (sc : Nat → Int32) (ar : Nat → Nat → Int32) {B : Nat → Nat} {e : Nat} (h2 : sc 2 = nI e) (he : e ≤ 400) (hB : ∀ j, j < e → ar 0 j = sb (B j) ∧ B j < 256) {b : Bool} {j : Nat} (hP : pP (tk B e) 860 0 0 0 = some (b, j)) (hbad : ¬ (b = true ∧ tk B e j = 0)) : RP (871) 112 [] sc ar (fun res sc2 ar2 => res = some (.int 0) ∧ (sc2 0 = 1 ∧ sc2 2 = 0 ∧ sc2 7 = nI (ps B e j) ∧ sc2 16 = sc 16 ∧ sc2 17 = sc 17 ∧ sc2 30 = sc 30 ∧ sc2 31 = sc 31 ∧ sc2 32 = sc 32) ∧ ∀ a, a ≠ 2 → ar2 a = ar a) := by
  refine RP.of pm_X10_read rfl rfl (Nat.le_of_ble_eq_true rfl) ?_
  intro fx al n g0 r Q hQ
  show pr fx (px_body pm_X10_read) (870) Q al n g0 r sc ar 0 [.ref (al r), .float 0, .float 0] []
  refine pr_aload_n dX10_read_0 rfl rfl ?_
  refine pr_iconst dX10_read_1 (show Int32.ofInt (0) = (0) by decide) ?_
  refine pr_put dX10_read_2 fk_X10_79 rfl ⟨_, _, _, rfl, rfl⟩ rfl rfl ?_
  refine pr_aload_n dX10_read_5 rfl rfl ?_
  refine pr_aload_n dX10_read_6 rfl rfl ?_
  refine pr_getS (v := nI e) dX10_read_7 fk_X10_82 rfl h2 ?_
  refine pr_put dX10_read_10 fk_X10_85 rfl ⟨_, _, _, rfl, rfl⟩ rfl rfl ?_
  refine pr_aload_n dX10_read_13 rfl rfl ?_
  refine pr_iconst dX10_read_14 (show Int32.ofInt (0) = (0) by decide) ?_
  refine pr_put dX10_read_15 fk_X10_82 rfl ⟨_, _, _, rfl, rfl⟩ rfl rfl ?_
  refine pr_aload_n dX10_read_18 rfl rfl ?_
  refine pr_iconst dX10_read_19 (show Int32.ofInt (0) = (0) by decide) ?_
  refine pr_put dX10_read_20 fk_X10_108 rfl ⟨_, _, _, rfl, rfl⟩ rfl rfl ?_
  refine pr_aload_n dX10_read_23 rfl rfl ?_
  refine pr_iconst dX10_read_24 (show Int32.ofInt (0) = (0) by decide) ?_
  refine pr_put dX10_read_25 fk_X10_114 rfl ⟨_, _, _, rfl, rfl⟩ rfl rfl ?_
  refine pr_aload_n dX10_read_28 rfl rfl ?_
  refine pr_iconst dX10_read_29 (show Int32.ofInt (0) = (0) by decide) ?_
  refine pr_put dX10_read_30 fk_X10_146 rfl ⟨_, _, _, rfl, rfl⟩ rfl rfl ?_
  refine pr_aload_n dX10_read_33 rfl rfl ?_
  refine pr_callP dX10_read_34 cl_X10_140 (rp_look 863 (upd (upd (upd (upd (upd (upd sc 0 0) 4 (nI e)) 2 0) 3 0) 10 0) 12 0) ar (B := B) (e := e) (p := 0) (i := 0) ⟨rfl, he, hB⟩ rfl (Nat.zero_le _) rfl (Nat.zero_le _)) rfl rfl (Nat.le_of_ble_eq_true rfl) ⟨rfl, rfl⟩ (fun res sc2 ar2 hn => ?_)
  obtain ⟨sc1, ⟨a, h91, rfl, h93, h94⟩, rfl, rfl⟩ := hn
  subst ar2
  have hS : PS B e (upd (upd (upd (upd (upd (upd sc 0 0) 4 (nI e)) 2 0) 3 0) 10 0) 12 0) ar 0 0 (upd (S3 (upd (upd (upd (upd (upd (upd sc 0 0) 4 (nI e)) 2 0) 3 0) 10 0) 12 0) (spn isBl B (e - 0) 0) a) 11 (rT (tokI B e 0 (spn isBl B (e - 0) 0)))) ar := by
    refine ⟨?_, fun a9 _ => rfl, ?_, rfl, by decide, rfl, rfl, fun z1 z2 => congrArg nI (h94 z1 z2), rfl, by decide, fun j hj => by omega⟩
    · intro k k3 k5 k6 k10 k11 k12
      simp only [S3, upd_at, if_neg k3, if_neg k5, if_neg k6, if_neg k10, if_neg k11, if_neg k12]
    · exact ⟨rfl, he, hB⟩
  refine pr_aload_n dX10_read_37 rfl rfl ?_
  refine pr_callP dX10_read_38 cl_X10_159 (pH_all B e (upd (upd (upd (upd (upd (upd sc 0 0) 4 (nI e)) 2 0) 3 0) 10 0) 12 0) ar 860 860 (Nat.le_refl _) 0 (by decide) 0 0 b j _ _ hS hP) rfl rfl (Nat.le_of_ble_eq_true rfl) ⟨rfl, rfl⟩ (fun res sc2 ar2 hn => ?_)
  clear hS
  obtain ⟨rfl, dp2, hS, _⟩ := hn
  obtain ⟨hf, ha, hB9, h10, h120, h11, h5, h6, h12, hdp, hdr⟩ := hS
  refine pr_if_eq (tgt := 57) dX10_read_41 (by decide) (fun c41 => ?_) (fun c41 => ?_)
  ·
    refine pr_iconst dX10_read_57 (show Int32.ofInt (0) = (0) by decide) ?_
    refine pr_istore_n dX10_read_58 (Nat.le_of_ble_eq_true rfl) ?_
    refine pr_aload_n dX10_read_59 rfl rfl ?_
    refine pr_iload_n dX10_read_60 rfl ?_
    refine pr_if_eq (tgt := 68) dX10_read_61 (by decide) (fun _ => ?_) (fun c61 => absurd c61 (by decide))
    refine pr_aload_n dX10_read_68 rfl rfl ?_
    refine pr_getS (v := nI (ps B e j)) dX10_read_69 fk_X10_91 rfl h5 ?_
    refine pr_put dX10_read_72 fk_X10_13 rfl ⟨_, _, _, rfl, rfl⟩ rfl rfl ?_
    refine pr_aload_n dX10_read_75 rfl rfl ?_
    refine pr_iload_n dX10_read_76 rfl ?_
    refine pr_if_ne (tgt := 84) dX10_read_77 (by decide) (fun c77 => absurd c77 (by decide)) (fun _ => ?_)
    refine pr_iconst dX10_read_80 (show Int32.ofInt (1) = (1) by decide) ?_
    refine pr_goto (tgt := 85) dX10_read_81 (by decide) ?_
    refine pr_iconst dX10_read_85 (show Int32.ofInt (1) = (1) by decide) ?_
    refine pr_call dX10_read_86 cl_X10_180 (rc_throwsIf_t _ _ _ _) rfl rfl (Nat.le_of_ble_eq_true rfl) ⟨rfl, rfl⟩ ?_
    refine pr_if_eq (tgt := 94) dX10_read_89 (by decide) (fun c89 => absurd c89 (by decide)) (fun _ => ?_)
    refine pr_iconst dX10_read_92 (show Int32.ofInt (0) = (0) by decide) ?_
    exact pr_iretP hQ dX10_read_93 rfl rfl ⟨rfl, ⟨rfl, (hf 2 (by decide) (by decide) (by decide) (by decide) (by decide) (by decide)).trans rfl, rfl, (hf 16 (by decide) (by decide) (by decide) (by decide) (by decide) (by decide)).trans rfl, (hf 17 (by decide) (by decide) (by decide) (by decide) (by decide) (by decide)).trans rfl, (hf 30 (by decide) (by decide) (by decide) (by decide) (by decide) (by decide)).trans rfl, (hf 31 (by decide) (by decide) (by decide) (by decide) (by decide) (by decide)).trans rfl, (hf 32 (by decide) (by decide) (by decide) (by decide) (by decide) (by decide)).trans rfl⟩, ha⟩
  ·
    refine pr_aload_n dX10_read_44 rfl rfl ?_
    refine pr_getS (v := rT (tk B e j)) dX10_read_45 fk_X10_137 rfl h11 ?_
    refine pr_bipush dX10_read_48 (show (Int8.ofInt (-2)).toInt32 = (-2) by decide) ?_
    refine pr_icmp_ne (tgt := 57) dX10_read_50 (by decide) (fun c50 => ?_) (fun c50 => ?_)
    ·
      refine pr_iconst dX10_read_57 (show Int32.ofInt (0) = (0) by decide) ?_
      refine pr_istore_n dX10_read_58 (Nat.le_of_ble_eq_true rfl) ?_
      refine pr_aload_n dX10_read_59 rfl rfl ?_
      refine pr_iload_n dX10_read_60 rfl ?_
      refine pr_if_eq (tgt := 68) dX10_read_61 (by decide) (fun _ => ?_) (fun c61 => absurd c61 (by decide))
      refine pr_aload_n dX10_read_68 rfl rfl ?_
      refine pr_getS (v := nI (ps B e j)) dX10_read_69 fk_X10_91 rfl h5 ?_
      refine pr_put dX10_read_72 fk_X10_13 rfl ⟨_, _, _, rfl, rfl⟩ rfl rfl ?_
      refine pr_aload_n dX10_read_75 rfl rfl ?_
      refine pr_iload_n dX10_read_76 rfl ?_
      refine pr_if_ne (tgt := 84) dX10_read_77 (by decide) (fun c77 => absurd c77 (by decide)) (fun _ => ?_)
      refine pr_iconst dX10_read_80 (show Int32.ofInt (1) = (1) by decide) ?_
      refine pr_goto (tgt := 85) dX10_read_81 (by decide) ?_
      refine pr_iconst dX10_read_85 (show Int32.ofInt (1) = (1) by decide) ?_
      refine pr_call dX10_read_86 cl_X10_180 (rc_throwsIf_t _ _ _ _) rfl rfl (Nat.le_of_ble_eq_true rfl) ⟨rfl, rfl⟩ ?_
      refine pr_if_eq (tgt := 94) dX10_read_89 (by decide) (fun c89 => absurd c89 (by decide)) (fun _ => ?_)
      refine pr_iconst dX10_read_92 (show Int32.ofInt (0) = (0) by decide) ?_
      exact pr_iretP hQ dX10_read_93 rfl rfl ⟨rfl, ⟨rfl, (hf 2 (by decide) (by decide) (by decide) (by decide) (by decide) (by decide)).trans rfl, rfl, (hf 16 (by decide) (by decide) (by decide) (by decide) (by decide) (by decide)).trans rfl, (hf 17 (by decide) (by decide) (by decide) (by decide) (by decide) (by decide)).trans rfl, (hf 30 (by decide) (by decide) (by decide) (by decide) (by decide) (by decide)).trans rfl, (hf 31 (by decide) (by decide) (by decide) (by decide) (by decide) (by decide)).trans rfl, (hf 32 (by decide) (by decide) (by decide) (by decide) (by decide) (by decide)).trans rfl⟩, ha⟩
    ·
      exact absurd ⟨zB_n0 c41, rT_end c50⟩ hbad
set_option maxHeartbeats 4000000 in
set_option maxRecDepth 20000 in
theorem rp_read_ok (sc : Nat → Int32) (ar : Nat → Nat → Int32) {B : Nat → Nat} {e : Nat} (h2 : sc 2 = nI e) (he : e ≤ 400) (hB : ∀ j, j < e → ar 0 j = sb (B j) ∧ B j < 256) {j : Nat} (hP : pP (tk B e) 860 0 0 0 = some (true, j)) (hz : tk B e j = 0) : RP (871) 112 [] sc ar (fun res sc2 ar2 => res = some (.int (nI j)) ∧ (sc2 0 = 0 ∧ sc2 2 = 0 ∧ sc2 7 = -1 ∧ sc2 16 = nI j ∧ sc2 17 = sc 17 + 1 ∧ sc2 30 = sc 30 ∧ sc2 31 = sc 31 ∧ sc2 32 = sc 32) ∧ (∀ a, a ≠ 2 → a ≠ 3 → a ≠ 4 → a ≠ 5 → a ≠ 6 → a ≠ 7 → ar2 a = ar a) ∧ (∀ k, k < j → ar2 3 k = tk B e k) ∧ okS sc2 ar2 j) := by
  refine RP.of pm_X10_read rfl rfl (Nat.le_of_ble_eq_true rfl) ?_
  intro fx al n g0 r Q hQ
  show pr fx (px_body pm_X10_read) (870) Q al n g0 r sc ar 0 [.ref (al r), .float 0, .float 0] []
  refine pr_aload_n dX10_read_0 rfl rfl ?_
  refine pr_iconst dX10_read_1 (show Int32.ofInt (0) = (0) by decide) ?_
  refine pr_put dX10_read_2 fk_X10_79 rfl ⟨_, _, _, rfl, rfl⟩ rfl rfl ?_
  refine pr_aload_n dX10_read_5 rfl rfl ?_
  refine pr_aload_n dX10_read_6 rfl rfl ?_
  refine pr_getS (v := nI e) dX10_read_7 fk_X10_82 rfl h2 ?_
  refine pr_put dX10_read_10 fk_X10_85 rfl ⟨_, _, _, rfl, rfl⟩ rfl rfl ?_
  refine pr_aload_n dX10_read_13 rfl rfl ?_
  refine pr_iconst dX10_read_14 (show Int32.ofInt (0) = (0) by decide) ?_
  refine pr_put dX10_read_15 fk_X10_82 rfl ⟨_, _, _, rfl, rfl⟩ rfl rfl ?_
  refine pr_aload_n dX10_read_18 rfl rfl ?_
  refine pr_iconst dX10_read_19 (show Int32.ofInt (0) = (0) by decide) ?_
  refine pr_put dX10_read_20 fk_X10_108 rfl ⟨_, _, _, rfl, rfl⟩ rfl rfl ?_
  refine pr_aload_n dX10_read_23 rfl rfl ?_
  refine pr_iconst dX10_read_24 (show Int32.ofInt (0) = (0) by decide) ?_
  refine pr_put dX10_read_25 fk_X10_114 rfl ⟨_, _, _, rfl, rfl⟩ rfl rfl ?_
  refine pr_aload_n dX10_read_28 rfl rfl ?_
  refine pr_iconst dX10_read_29 (show Int32.ofInt (0) = (0) by decide) ?_
  refine pr_put dX10_read_30 fk_X10_146 rfl ⟨_, _, _, rfl, rfl⟩ rfl rfl ?_
  refine pr_aload_n dX10_read_33 rfl rfl ?_
  refine pr_callP dX10_read_34 cl_X10_140 (rp_look 863 (upd (upd (upd (upd (upd (upd sc 0 0) 4 (nI e)) 2 0) 3 0) 10 0) 12 0) ar (B := B) (e := e) (p := 0) (i := 0) ⟨rfl, he, hB⟩ rfl (Nat.zero_le _) rfl (Nat.zero_le _)) rfl rfl (Nat.le_of_ble_eq_true rfl) ⟨rfl, rfl⟩ (fun res sc2 ar2 hn => ?_)
  obtain ⟨sc1, ⟨a, h91, rfl, h93, h94⟩, rfl, rfl⟩ := hn
  subst ar2
  have hS : PS B e (upd (upd (upd (upd (upd (upd sc 0 0) 4 (nI e)) 2 0) 3 0) 10 0) 12 0) ar 0 0 (upd (S3 (upd (upd (upd (upd (upd (upd sc 0 0) 4 (nI e)) 2 0) 3 0) 10 0) 12 0) (spn isBl B (e - 0) 0) a) 11 (rT (tokI B e 0 (spn isBl B (e - 0) 0)))) ar := by
    refine ⟨?_, fun a9 _ => rfl, ?_, rfl, by decide, rfl, rfl, fun z1 z2 => congrArg nI (h94 z1 z2), rfl, by decide, fun j hj => by omega⟩
    · intro k k3 k5 k6 k10 k11 k12
      simp only [S3, upd_at, if_neg k3, if_neg k5, if_neg k6, if_neg k10, if_neg k11, if_neg k12]
    · exact ⟨rfl, he, hB⟩
  refine pr_aload_n dX10_read_37 rfl rfl ?_
  refine pr_callP dX10_read_38 cl_X10_159 (pH_all B e (upd (upd (upd (upd (upd (upd sc 0 0) 4 (nI e)) 2 0) 3 0) 10 0) 12 0) ar 860 860 (Nat.le_refl _) 0 (by decide) 0 0 true j _ _ hS hP) rfl rfl (Nat.le_of_ble_eq_true rfl) ⟨rfl, rfl⟩ (fun res sc2 ar2 hn => ?_)
  clear hS
  obtain ⟨rfl, dp2, hS, _⟩ := hn
  obtain ⟨hf, ha, hB9, h10, h120, h11, h5, h6, h12, hdp, hdr⟩ := hS
  refine pr_if_eq (tgt := 57) dX10_read_41 (by decide) (fun c41 => absurd c41 (by decide)) (fun c41 => ?_)
  refine pr_aload_n dX10_read_44 rfl rfl ?_
  refine pr_getS (v := rT (tk B e j)) dX10_read_45 fk_X10_137 rfl h11 ?_
  refine pr_bipush dX10_read_48 (show (Int8.ofInt (-2)).toInt32 = (-2) by decide) ?_
  refine pr_icmp_ne (tgt := 57) dX10_read_50 (by decide) (fun c50 => absurd (show rT (tk B e j) = -2 by rw [hz]; decide) c50) (fun c50 => ?_)
  refine pr_iconst dX10_read_53 (show Int32.ofInt (1) = (1) by decide) ?_
  refine pr_goto (tgt := 58) dX10_read_54 (by decide) ?_
  refine pr_istore_n dX10_read_58 (Nat.le_of_ble_eq_true rfl) ?_
  refine pr_aload_n dX10_read_59 rfl rfl ?_
  refine pr_iload_n dX10_read_60 rfl ?_
  refine pr_if_eq (tgt := 68) dX10_read_61 (by decide) (fun c61 => absurd c61 (by decide)) (fun _ => ?_)
  refine pr_iconst dX10_read_64 (show Int32.ofInt (-1) = (-1) by decide) ?_
  refine pr_goto (tgt := 72) dX10_read_65 (by decide) ?_
  refine pr_put dX10_read_72 fk_X10_13 rfl ⟨_, _, _, rfl, rfl⟩ rfl rfl ?_
  refine pr_aload_n dX10_read_75 rfl rfl ?_
  refine pr_iload_n dX10_read_76 rfl ?_
  refine pr_if_ne (tgt := 84) dX10_read_77 (by decide) (fun _ => ?_) (fun c77 => absurd c77 (by decide))
  refine pr_iconst dX10_read_84 (show Int32.ofInt (0) = (0) by decide) ?_
  refine pr_iconst dX10_read_85 (show Int32.ofInt (1) = (1) by decide) ?_
  refine pr_call dX10_read_86 cl_X10_180 (rc_throwsIf_f _ _ _ _) rfl rfl (Nat.le_of_ble_eq_true rfl) ⟨rfl, rfl⟩ ?_
  refine pr_if_eq (tgt := 94) dX10_read_89 (by decide) (fun _ => ?_) (fun c89 => absurd c89 (by decide))
  refine pr_aload_n dX10_read_94 rfl rfl ?_
  refine pr_aload_n dX10_read_95 rfl rfl ?_
  refine pr_getS (v := nI j) dX10_read_96 fk_X10_114 rfl h10 ?_
  refine pr_put dX10_read_99 fk_X10_184 rfl ⟨_, _, _, rfl, rfl⟩ rfl rfl ?_
  refine pr_iconst dX10_read_102 (show Int32.ofInt (0) = (0) by decide) ?_
  refine pr_istore_n dX10_read_103 (Nat.le_of_ble_eq_true rfl) ?_
  have hm9 : upd (upd sc2 7 (-1)) 16 (nI j) 16 = nI j := rfl
  refine (?_ : pr fx (px_body pm_X10_read) 870 Q al n g0 r (upd (upd sc2 7 (-1)) 16 (nI j)) ar2 104 [.ref (al r), .int 1, .int (nI 0)] [])
  have key := rl_rcopy (fx := fx) (dd := 870) (Q := Q) (al := al) (n := n) (g0 := g0) (r := r) (sc := upd (upd sc2 7 (-1)) 16 (nI j)) (ar := ar2) (m := j) hm9 h120 ?_ j 0 (by omega)
  · rw [cpS_0, va_id] at key
    exact key
  · refine pr_aload_n dX10_read_130 rfl rfl ?_
    refine pr_dup dX10_read_131 rfl ?_
    refine pr_getS (v := sc2 17) dX10_read_132 fk_X10_187 rfl rfl ?_
    refine pr_iconst dX10_read_135 (show Int32.ofInt (1) = (1) by decide) ?_
    refine pr_iadd dX10_read_136 ?_
    refine pr_put dX10_read_137 fk_X10_187 rfl ⟨_, _, _, rfl, rfl⟩ rfl rfl ?_
    refine pr_aload_n dX10_read_140 rfl rfl ?_
    have hT9 : ∀ k, k ≤ j → tz j (va_up ar2 3 (cpS (ar2 3) (ar2 2) j) 3) k = tk B e k := by
      intro k hk
      rw [va_up_self]
      by_cases e9 : k < j
      · rw [tz_lt e9]; unfold cpS; rw [if_pos e9]; exact hdr k e9
      · obtain rfl : k = j := by omega
        rw [hz]; exact if_neg (by omega)
    have hP9 := pP_cong 860 0 0 0 j (by decide) hP hT9
    refine pr_callP dX10_read_141 cl_X10_190 (rp_pairs 869 (sc := upd (upd (upd sc2 7 (-1)) 16 (nI j)) 17 (sc2 17 + 1)) (m := j) rfl h120 hP9) rfl rfl (Nat.le_of_ble_eq_true rfl) ⟨rfl, rfl⟩ (fun res sc3 ar3 hn => ?_)
    obtain ⟨rfl, rfl, hn3, hn4⟩ := hn
    refine pr_aload_n dX10_read_144 rfl rfl ?_
    refine pr_getS (v := nI j) dX10_read_145 fk_X10_184 rfl rfl ?_
    have h16 := fun a (z2 : a ≠ 2) (z3 : a ≠ 3) (z4 : a ≠ 4) (z5 : a ≠ 5) (z6 : a ≠ 6) (z7 : a ≠ 7) => (hn3 a z4 z5 z6 z7).trans ((va_up_ne _ _ z3).trans (ha a z2))
    have e3 : ar3 3 = cpS (ar2 3) (ar2 2) j := (hn3 3 (by decide) (by decide) (by decide) (by decide)).trans (va_up_self _ _ _)
    refine pr_iretP hQ dX10_read_148 rfl rfl ⟨rfl, ⟨(hf 0 (by decide) (by decide) (by decide) (by decide) (by decide) (by decide)).trans rfl, (hf 2 (by decide) (by decide) (by decide) (by decide) (by decide) (by decide)).trans rfl, rfl, rfl, congrArg (· + 1) ((hf 17 (by decide) (by decide) (by decide) (by decide) (by decide) (by decide)).trans rfl), (hf 30 (by decide) (by decide) (by decide) (by decide) (by decide) (by decide)).trans rfl, (hf 31 (by decide) (by decide) (by decide) (by decide) (by decide) (by decide)).trans rfl, (hf 32 (by decide) (by decide) (by decide) (by decide) (by decide) (by decide)).trans rfl⟩, h16, ?_, rfl, h120, fun _ => ?_⟩
    · intro k hk
      rw [e3]; unfold cpS; rw [if_pos hk]; exact hdr k hk
    · rw [e3]
      rw [va_up_self] at hP9 hn4
      exact ⟨hP9, hn4⟩
