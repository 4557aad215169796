/-- what comparisons leave as it was -/
def HF (sc ar sc2 ar2 : Nat → Nat → Int32) : Prop := (∀ c k, ¬ (c = 12 ∧ (k = 1 ∨ k = 2)) → sc2 c k = sc c k) ∧ ∀ a, a ≠ 14 → a ≠ 15 → ar2 a = ar a
theorem HF.rf (sc ar : Nat → Nat → Int32) : HF sc ar sc ar := ⟨fun _ _ _ => rfl, fun _ _ _ => rfl⟩
theorem HF.tr {sc ar sc2 ar2 sc3 ar3 : Nat → Nat → Int32} (h : HF sc ar sc2 ar2) (h2 : HF sc2 ar2 sc3 ar3) : HF sc ar sc3 ar3 := ⟨fun c k z => (h2.1 c k z).trans (h.1 c k z), fun a z1 z2 => (h2.2 a z1 z2).trans (h.2 a z1 z2)⟩
theorem cmQ.hf {S W : Nat → Int32} {a b : Nat} {sc ar sc2 ar2 : Nat → Nat → Int32} (h : cmQ S W a b sc ar sc2 ar2) : HF sc ar sc2 ar2 := by
  refine ⟨fun c k z => ?_, h.2.1⟩
  rw [h.1]
  have u : ∀ (s9 : Nat → Nat → Int32) (k9 : Nat) (v : Int32), k9 = 1 ∨ k9 = 2 → up2 s9 12 k9 v c k = s9 c k := fun s9 k9 v q1 => by
    unfold up2
    by_cases e : c = 12
    · subst e
      rw [va_up_self, pk_un (by omega)]
    · rw [va_up_ne _ _ e]
  rw [u _ _ _ (Or.inr rfl), u _ _ _ (Or.inl rfl)]
theorem cmQ.c1 {S W : Nat → Int32} {a b : Nat} {sc ar sc2 ar2 : Nat → Nat → Int32} (h : cmQ S W a b sc ar sc2 ar2) : sc2 12 1 = nI (cpx S W (min a b) 0) := by rw [h.1]; rfl
theorem cmQ.c2 {S W : Nat → Int32} {a b : Nat} {sc ar sc2 ar2 : Nat → Nat → Int32} (h : cmQ S W a b sc ar sc2 ar2) : sc2 12 2 = nI (ed S W a b a b) := by rw [h.1]; rfl
theorem MF.tr2 {sc ar sc2 ar2 sc3 ar3 : Nat → Nat → Int32} (h : MF sc ar sc2 ar2) (h2 : MF sc2 ar2 sc3 ar3) : MF sc ar sc3 ar3 := ⟨fun c k z => (h2.1 c k z).trans (h.1 c k z), fun a z1 z2 => (h2.2 a z1 z2).trans (h.2 a z1 z2)⟩
/-- the best so far is one of the ways, with its own distance -/
def okB (D : Nat → Nat) (y : Nat) (b : Option (Nat × Nat)) : Prop := ∀ v l, b = some (v, l) → v < y ∧ l = D v
theorem okB.st {D : Nat → Nat} {y i : Nat} {b : Option (Nat × Nat)} (h : okB D y b) (hi : i < y) : okB D y (hStp D i b) := by
  intro v l e
  rcases b with _ | ⟨v0, l0⟩
  · rw [hStp] at e; cases e; exact ⟨hi, rfl⟩
  · rw [hStp] at e
    by_cases c : D i < l0
    · rw [if_pos c] at e; cases e; exact ⟨hi, rfl⟩
    · rw [if_neg c] at e; cases e; exact h _ _ rfl
theorem okB.all {D : Nat → Nat} {y : Nat} : ∀ (j i : Nat) (b : Option (Nat × Nat)), i + j = y → okB D y b → okB D y (hBest D j i b)
  | 0, _, b, _, h => h
  | j + 1, i, b, hi, h => okB.all j (i + 1) _ (by omega) (h.st (by omega))
/-- the changes from the program to each way -/
def dY (m : Nat) (S : Nat → Int32) (mY : Nat → Nat) (SY : Nat → Nat → Int32) : Nat → Nat := fun i => ed S (SY i) m (mY i) m (mY i)
set_option maxHeartbeats 4000000 in
set_option maxRecDepth 20000 in
theorem kl_near {fx : px_F} {d : Nat} {Q : px_Q} {al : Nat → Nat} {n : Nat} {g0 : Nat → px_O} {sl : Value} {tf : Nat → Option Nat} {nd sh : Int32} {w y : Nat} {WA WB WR : Nat → Int32} {Y F : Nat → Option Nat} {Tc : Nat} {PY mY LY : Nat → Nat} {SY OY AY : Nat → Nat → Int32} {P m L : Nat} {S O A : Nat → Int32} (hy : y ≤ 10) (hm : m ≤ 120) (hK : TK al (n) (g0) Tc nd sh (w) (y) (WA) (WB) (WR) (Y) (F)) (hP : PG al n g0 P m L S O A (bD m S)) (hY : YP al n g0 y Y PY mY LY SY OY AY) {sc0 ar0 : Nat → Nat → Int32} (hQ : ∀ sc2 ar2, HF sc0 ar0 sc2 ar2 → kq Q (.inl (some (.int (eB (hBest (dY m S mY SY) y 0 none)).1))) al (n) (g0) (sc2) (ar2) (sl) (tf)) : ∀ (j i : Nat) (b : Option (Nat × Nat)) (sc ar : Nat → Nat → Int32), i + j = y → okB (dY m S mY SY) y b → hBest (dY m S mY SY) j i b = hBest (dY m S mY SY) y 0 none → HF sc0 ar0 sc ar → pk fx (px_body pm_X9_nearestWay) (d + 3) Q al (n) (g0) (sc) (ar) (sl) (tf) 8 [.ref (al 0), .ref (al Tc), .ref (al P), .int (eB b).1, .int (eB b).2, .int (nI i)] [] 0 0
  | 0, i, b, sc, ar, hj, hb, he, hF => by
    obtain rfl : i = y := by omega
    rw [hBest] at he
    rw [he]
    obtain ⟨p1, p2, ⟨ff, q0, q1, q2, q3, q4, q5, q6, q7, q8, q9⟩, r1, r2, r3, r4, r5⟩ := id hK
    refine pk_iload dX9_nearestWay_8 rfl ?_
    refine pk_aload_n dX9_nearestWay_10 rfl rfl ?_
    refine pk_dgetN (j := Tc) dX9_nearestWay_11 fk_X9_201 p1 (by omega) q0 q9 ?_
    refine pk_icmp_ge (tgt := 67) dX9_nearestWay_14 (by decide) (fun c14 => ?_) (fun c14 => absurd (Int32.le_refl _) c14)
    refine pk_iload_n dX9_nearestWay_67 rfl ?_
    refine pk_iret dX9_nearestWay_68 rfl rfl (Nat.le_of_ble_eq_true rfl) (Nat.le_of_ble_eq_true rfl) (hQ _ _ hF)
  | j + 1, i, b, sc, ar, hj, hb, he, hF => by
    rw [hBest] at he
    obtain ⟨p1, p2, ⟨ff, q0, q1, q2, q3, q4, q5, q6, q7, q8, q9⟩, r1, r2, r3, r4, r5⟩ := id hK
    obtain ⟨y1, y2, y3⟩ := hY i (by omega)
    refine pk_iload dX9_nearestWay_8 rfl ?_
    refine pk_aload_n dX9_nearestWay_10 rfl rfl ?_
    refine pk_dgetN (j := Tc) dX9_nearestWay_11 fk_X9_201 p1 (by omega) q0 q9 ?_
    refine pk_icmp_ge (tgt := 67) dX9_nearestWay_14 (by decide) (fun c14 => absurd c14 (nI_ge (by omega) (by omega))) (fun c14 => ?_)
    refine pk_aload_n dX9_nearestWay_17 rfl rfl ?_
    refine pk_getR (c := 0) (d := 12) dX9_nearestWay_18 fk_X9_33 (by decide) rfl rfl ?_
    refine pk_aload_n dX9_nearestWay_21 rfl rfl ?_
    refine pk_aload_n dX9_nearestWay_22 rfl rfl ?_
    refine pk_dgetN (j := Tc) dX9_nearestWay_23 fk_X9_211 p1 (by omega) q0 q6 ?_
    refine pk_iload dX9_nearestWay_26 rfl ?_
    refine pk_daald (j := i) dX9_nearestWay_28 (by omega) (by omega) (by decide) (by decide) r4 rfl (by omega) (by decide) ?_
    rw [y1]
    refine pk_callN (c := 12) (As := fun al => [.ref (al P), .ref (al (PY i))]) dX9_nearestWay_29 cl_X9_215 (by decide) rfl (cp_compare d (P := P) (P2 := PY i) hm y2) (fun g hF => ⟨hP.fr hF, y3.fr hF⟩) rfl rfl (Nat.le_of_ble_eq_true rfl) ⟨rfl, rfl⟩ (Nat.le_of_ble_eq_true rfl) (Nat.le_of_ble_eq_true rfl) (fun res sc2 ar2 hn => ?_)
    obtain ⟨rfl, hC⟩ := hn
    have le := ed_le S (SY i) m (mY i) m (mY i)
    rcases b with _ | ⟨v, lw⟩
    ·
      refine pk_iload_n dX9_nearestWay_32 rfl ?_
      refine pk_iconst dX9_nearestWay_33 (show Int32.ofInt (-1) = (-1) by decide) ?_
      refine pk_icmp_eq (tgt := 49) dX9_nearestWay_34 (by decide) (fun c34 => ?_) (fun c34 => absurd rfl c34)
      refine pk_iload dX9_nearestWay_49 rfl ?_
      refine pk_istore_n dX9_nearestWay_51 (Nat.le_of_ble_eq_true rfl) ?_
      refine pk_aload_n dX9_nearestWay_52 rfl rfl ?_
      refine pk_getR (c := 0) (d := 12) dX9_nearestWay_53 fk_X9_33 (by decide) rfl rfl ?_
      refine pk_getSN (c := 12) (v := (nI (ed S (SY i) m (mY i) m (mY i)))) dX9_nearestWay_56 fk_X9_223 (by decide) rfl rfl hC.c2 ?_
      refine pk_istore dX9_nearestWay_59 (Nat.le_of_ble_eq_true rfl) ?_
      refine pk_iinc dX9_nearestWay_61 rfl (show Int32.ofInt (1) = (1) by decide) ?_
      refine pk_goto (tgt := 8) dX9_nearestWay_64 (by decide) ?_
      rw [nI_1]
      exact kl_near hy hm hK hP hY hQ j (i + 1) _ _ _ (by omega) (hb.st (by omega)) he (hF.tr hC.hf)
    ·
      obtain ⟨hv1, hv2⟩ := hb v lw rfl
      have hv3 := (hY v hv1).2.1
      have lv := ed_le S (SY v) m (mY v) m (mY v)
      have hlw : lw ≤ 240 := by
        rw [hv2]
        show ed S (SY v) m (mY v) m (mY v) ≤ 240
        omega
      refine pk_iload_n dX9_nearestWay_32 rfl ?_
      refine pk_iconst dX9_nearestWay_33 (show Int32.ofInt (-1) = (-1) by decide) ?_
      refine pk_icmp_eq (tgt := 49) dX9_nearestWay_34 (by decide) (fun c34 => absurd c34 (nI_nm1 (by omega))) (fun c34 => ?_)
      refine pk_aload_n dX9_nearestWay_37 rfl rfl ?_
      refine pk_getR (c := 0) (d := 12) dX9_nearestWay_38 fk_X9_33 (by decide) rfl rfl ?_
      refine pk_getSN (c := 12) (v := (nI (ed S (SY i) m (mY i) m (mY i)))) dX9_nearestWay_41 fk_X9_223 (by decide) rfl rfl hC.c2 ?_
      refine pk_iload dX9_nearestWay_44 rfl ?_
      refine pk_icmp_ge (tgt := 61) dX9_nearestWay_46 (by decide) (fun c46 => ?_) (fun c46 => ?_)
      ·
        have c469 := Int32.not_lt.mpr c46
        refine pk_iinc dX9_nearestWay_61 rfl (show Int32.ofInt (1) = (1) by decide) ?_
        refine pk_goto (tgt := 8) dX9_nearestWay_64 (by decide) ?_
        have h9 : hStp (dY m S mY SY) i (some (v, lw)) = some (v, lw) := by
          rw [hStp, if_neg]
          intro z
          exact nI_ge z (by omega) c46
        rw [h9] at he
        rw [nI_1]
        exact kl_near hy hm hK hP hY hQ j (i + 1) _ _ _ (by omega) hb he (hF.tr hC.hf)
      ·
        have c469 := Int32.not_le.mp c46
        refine pk_iload dX9_nearestWay_49 rfl ?_
        refine pk_istore_n dX9_nearestWay_51 (Nat.le_of_ble_eq_true rfl) ?_
        refine pk_aload_n dX9_nearestWay_52 rfl rfl ?_
        refine pk_getR (c := 0) (d := 12) dX9_nearestWay_53 fk_X9_33 (by decide) rfl rfl ?_
        refine pk_getSN (c := 12) (v := (nI (ed S (SY i) m (mY i) m (mY i)))) dX9_nearestWay_56 fk_X9_223 (by decide) rfl rfl hC.c2 ?_
        refine pk_istore dX9_nearestWay_59 (Nat.le_of_ble_eq_true rfl) ?_
        refine pk_iinc dX9_nearestWay_61 rfl (show Int32.ofInt (1) = (1) by decide) ?_
        refine pk_goto (tgt := 8) dX9_nearestWay_64 (by decide) ?_
        have h9 : hStp (dY m S mY SY) i (some (v, lw)) = some (i, ed S (SY i) m (mY i) m (mY i)) := by
          rw [hStp, if_pos]
          · rfl
          · by_cases z : (dY m S mY SY) i < lw
            · exact z
            · exact absurd (nI_le (show lw ≤ (dY m S mY SY) i by omega) (by show ed S (SY i) m (mY i) m (mY i) < 2 ^ 31; omega)) c46
        have h8 := hb.st (i := i) (by omega)
        rw [h9] at he h8
        rw [nI_1]
        exact kl_near hy hm hK hP hY hQ j (i + 1) _ _ _ (by omega) h8 he (hF.tr hC.hf)
set_option maxHeartbeats 4000000 in
set_option maxRecDepth 20000 in
theorem kp_nearest {fx : px_F} {d : Nat} {Q : px_Q} {al : Nat → Nat} {n : Nat} {g0 : Nat → px_O} {sc ar : Nat → Nat → Int32} {sl : Value} {tf : Nat → Option Nat} {nd sh : Int32} {w y : Nat} {WA WB WR : Nat → Int32} {Y F : Nat → Option Nat} {Tc : Nat} {PY mY LY : Nat → Nat} {SY OY AY : Nat → Nat → Int32} {P m L : Nat} {S O A : Nat → Int32} (hy : y ≤ 10) (hm : m ≤ 120) (hK : TK al (n) (g0) Tc nd sh (w) (y) (WA) (WB) (WR) (Y) (F)) (hP : PG al n g0 P m L S O A (bD m S)) (hY : YP al n g0 y Y PY mY LY SY OY AY) (hQ : ∀ sc2 ar2, HF sc ar sc2 ar2 → kq Q (.inl (some (.int (eB (hBest (dY m S mY SY) y 0 none)).1))) al (n) (g0) (sc2) (ar2) (sl) (tf)) : kp fx (d + 4) 79 [.ref (al 0), .ref (al Tc), .ref (al P)] Q al n (g0) (sc) (ar) (sl) (tf) := by
  refine kp.of pm_X9_nearestWay rfl rfl (Nat.le_of_ble_eq_true rfl) ?_
  show pk fx (px_body pm_X9_nearestWay) (d + 3) Q al (n) (g0) (sc) (ar) (sl) (tf) 0 [.ref (al 0), .ref (al Tc), .ref (al P), .float 0, .float 0, .float 0] [] 0 0
  refine pk_iconst dX9_nearestWay_0 (show Int32.ofInt (-1) = (-1) by decide) ?_
  refine pk_istore_n dX9_nearestWay_1 (Nat.le_of_ble_eq_true rfl) ?_
  refine pk_iconst dX9_nearestWay_2 (show Int32.ofInt (0) = (0) by decide) ?_
  refine pk_istore dX9_nearestWay_3 (Nat.le_of_ble_eq_true rfl) ?_
  refine pk_iconst dX9_nearestWay_5 (show Int32.ofInt (0) = (0) by decide) ?_
  refine pk_istore dX9_nearestWay_6 (Nat.le_of_ble_eq_true rfl) ?_
  exact kl_near hy hm hK hP hY hQ y 0 none sc ar (by omega) (fun _ _ z => by cases z) rfl (HF.rf sc ar)
set_option maxHeartbeats 4000000 in
set_option maxRecDepth 20000 in
theorem kp_hint_ok {fx : px_F} {d : Nat} {Q : px_Q} {al : Nat → Nat} {n : Nat} {g0 : Nat → px_O} {sc ar : Nat → Nat → Int32} {tf : Nat → Option Nat} {TT : Nat} (hT : sc 0 9 = nI TT) (hTT : TT ≤ 10) {t : Nat} (ht : t < TT) {nd sh : Int32} {w y : Nat} {WA WB WR : Nat → Int32} {Y F : Nat → Option Nat} {Tc : Nat} {PY mY LY : Nat → Nat} {SY OY AY : Nat → Nat → Int32} {P m L : Nat} {S O A : Nat → Int32} (hy : y ≤ 10) (hm : m ≤ 120) (hK : TK al (n) (g0) Tc nd sh (w) (y) (WA) (WB) (WR) (Y) (F)) (hP : PG al n g0 P m L S O A (bD m S)) (hY : YP al n g0 y Y PY mY LY SY OY AY) (e1 : tf t = some (al Tc)) {q : Int32} (hw : 0 ≤ q ∧ q ≤ 4) (hQ : ∀ sc2 ar2, HF sc ar sc2 ar2 → kq Q (.inl (some (.int (hAns S SY m mY q (hBest (dY m S mY SY) y 0 none))))) al (n) (g0) (sc2) (ar2) (.ref (al P)) (tf)) : kp fx (d + 6) 75 [.ref (al 0), .int (nI t), .int q] Q al n (g0) (sc) (ar) (.ref (al P)) (tf) := by
  refine kp.of pm_X9_hint rfl rfl (Nat.le_of_ble_eq_true rfl) ?_
  show pk fx (px_body pm_X9_hint) (d + 5) Q al (n) (g0) (sc) (ar) (.ref (al P)) (tf) 0 [.ref (al 0), .int (nI t), .int q, .float 0, .float 0, .float 0, .float 0, .float 0] [] 0 0
  obtain ⟨p1, p2, ⟨ff, q0, q1, q2, q3, q4, q5, q6, q7, q8, q9⟩, r1, r2, r3, r4, r5⟩ := id hK
  refine pk_aload_n dX9_hint_0 rfl rfl ?_
  refine pk_iload_n dX9_hint_1 rfl ?_
  refine pk_kV (c := 0) (As := [.int (nI t)]) dX9_hint_2 cl_X9_134 (by decide) rfl rfl rfl (Nat.le_of_ble_eq_true rfl) (Nat.le_of_ble_eq_true rfl) (Nat.le_of_ble_eq_true rfl) ?_
  refine kp_taskAt_ok (d := d + 4) hT hTT ht e1 (kq_aft ?_)
  refine pk_astore_n dX9_hint_5 (Nat.le_of_ble_eq_true rfl) rfl ?_
  refine pk_aload_n dX9_hint_6 rfl rfl ?_
  refine pk_kV (c := 0) (As := []) dX9_hint_7 cl_X9_94 (by decide) rfl rfl rfl (Nat.le_of_ble_eq_true rfl) (Nat.le_of_ble_eq_true rfl) (Nat.le_of_ble_eq_true rfl) ?_
  refine kp_slate_ok (d := d + 4) (kq_aft ?_)
  refine pk_astore dX9_hint_10 (Nat.le_of_ble_eq_true rfl) rfl ?_
  refine pk_iload_n dX9_hint_12 rfl ?_
  refine pk_iconst dX9_hint_13 (show Int32.ofInt (4) = (4) by decide) ?_
  refine pk_kS (As := [.int q, .int 4]) dX9_hint_14 cl_X9_98 rfl rfl (Nat.le_of_ble_eq_true rfl) (Nat.le_of_ble_eq_true rfl) (Nat.le_of_ble_eq_true rfl) ?_
  refine kp_checkWhat_ok (d := d + 4) hw (kq_aft ?_)
  refine pk_aload_n dX9_hint_17 rfl rfl ?_
  refine pk_aload_n dX9_hint_18 rfl rfl ?_
  refine pk_aload dX9_hint_19 rfl rfl ?_
  refine pk_kV (c := 0) (As := [.ref (al Tc), .ref (al P)]) dX9_hint_21 cl_X9_207 (by decide) rfl rfl rfl (Nat.le_of_ble_eq_true rfl) (Nat.le_of_ble_eq_true rfl) (Nat.le_of_ble_eq_true rfl) ?_
  refine kp_nearest (d := d + 1) hy hm hK hP hY (fun sc2 ar2 hf => kq_aft ?_)
  have okb := okB.all (D := (dY m S mY SY)) (y := y) y 0 none (by omega) (fun _ _ z => by cases z)
  rcases hB : hBest (dY m S mY SY) y 0 none with _ | ⟨v, lw⟩
  ·
    refine pk_istore dX9_hint_24 (Nat.le_of_ble_eq_true rfl) ?_
    refine pk_iload dX9_hint_26 rfl ?_
    refine pk_iconst dX9_hint_28 (show Int32.ofInt (-1) = (-1) by decide) ?_
    refine pk_icmp_eq (tgt := 37) dX9_hint_29 (by decide) (fun c29 => ?_) (fun c29 => absurd rfl c29)
    refine pk_iload dX9_hint_37 rfl ?_
    refine pk_iret dX9_hint_39 rfl rfl (Nat.le_of_ble_eq_true rfl) (Nat.le_of_ble_eq_true rfl) ?_
    have := hQ _ _ hf
    rw [hB] at this
    exact this
  ·
    obtain ⟨hv1, hv2⟩ := okb v lw hB
    replace hv2 : lw = ed S (SY v) m (mY v) m (mY v) := hv2
    obtain ⟨y1, y2, y3⟩ := hY v hv1
    have le := ed_le S (SY v) m (mY v) m (mY v)
    obtain ⟨u1, u2, ⟨f2, u3, _⟩, _⟩ := id y3
    refine pk_istore dX9_hint_24 (Nat.le_of_ble_eq_true rfl) ?_
    refine pk_iload dX9_hint_26 rfl ?_
    refine pk_iconst dX9_hint_28 (show Int32.ofInt (-1) = (-1) by decide) ?_
    refine pk_icmp_eq (tgt := 37) dX9_hint_29 (by decide) (fun c29 => absurd c29 (nI_nm1 (by omega))) (fun c29 => ?_)
    refine pk_iload_n dX9_hint_32 rfl ?_
    refine pk_iconst dX9_hint_33 (show Int32.ofInt (1) = (1) by decide) ?_
    refine pk_icmp_ne (tgt := 40) dX9_hint_34 (by decide) (fun c34 => ?_) (fun c34 => ?_)
    ·
      refine pk_aload_n dX9_hint_40 rfl rfl ?_
      refine pk_dgetN (j := Tc) dX9_hint_41 fk_X9_211 p1 (by omega) q0 q6 ?_
      refine pk_iload dX9_hint_44 rfl ?_
      refine pk_daald (j := v) dX9_hint_46 (by omega) (by omega) (by decide) (by decide) r4 rfl (by omega) (by decide) ?_
      rw [y1]
      refine pk_astore dX9_hint_47 (Nat.le_of_ble_eq_true rfl) rfl ?_
      refine pk_aload_n dX9_hint_49 rfl rfl ?_
      refine pk_getR (c := 0) (d := 12) dX9_hint_50 fk_X9_33 (by decide) rfl rfl ?_
      refine pk_aload dX9_hint_53 rfl rfl ?_
      refine pk_aload dX9_hint_55 rfl rfl ?_
      refine pk_callN (c := 12) (As := fun al => [.ref (al P), .ref (al (PY v))]) dX9_hint_57 cl_X9_215 (by decide) rfl (cp_compare (d + 2) (P := P) (P2 := PY v) hm y2) (fun g hF => ⟨hP.fr hF, y3.fr hF⟩) rfl rfl (Nat.le_of_ble_eq_true rfl) ⟨rfl, rfl⟩ (Nat.le_of_ble_eq_true rfl) (Nat.le_of_ble_eq_true rfl) (fun r3 sc3 ar3 n3 => ?_)
      obtain ⟨rfl, hC⟩ := n3
      refine pk_aload_n dX9_hint_60 rfl rfl ?_
      refine pk_getR (c := 0) (d := 12) dX9_hint_61 fk_X9_33 (by decide) rfl rfl ?_
      refine pk_aload dX9_hint_64 rfl rfl ?_
      refine pk_aload dX9_hint_66 rfl rfl ?_
      refine pk_callN (c := 12) (As := fun al => [.ref (al P), .ref (al (PY v))]) dX9_hint_68 cl_X9_219 (by decide) rfl (cp_firstKind (d + 2) (P := P) (P2 := PY v) hm y2 hC) (fun g hF => ⟨hP.fr hF, y3.fr hF⟩) rfl rfl (Nat.le_of_ble_eq_true rfl) ⟨rfl, rfl⟩ (Nat.le_of_ble_eq_true rfl) (Nat.le_of_ble_eq_true rfl) (fun r4 sc3 ar3 n4 => ?_)
      obtain ⟨rfl, rfl, rfl⟩ := n4
      refine pk_istore dX9_hint_71 (Nat.le_of_ble_eq_true rfl) ?_
      refine pk_iload_n dX9_hint_73 rfl ?_
      refine pk_if_ne (tgt := 85) dX9_hint_74 (by decide) (fun c74 => ?_) (fun c74 => ?_)
      ·
        refine pk_iload_n dX9_hint_85 rfl ?_
        refine pk_iconst dX9_hint_86 (show Int32.ofInt (2) = (2) by decide) ?_
        refine pk_icmp_eq (tgt := 96) dX9_hint_87 (by decide) (fun c87 => ?_) (fun c87 => ?_)
        ·
          refine pk_iload dX9_hint_96 rfl ?_
          refine pk_iret dX9_hint_98 rfl rfl (Nat.le_of_ble_eq_true rfl) (Nat.le_of_ble_eq_true rfl) ?_
          have h9 := hQ _ _ (hf.tr hC.hf)
          rw [hB, hAns, if_neg c74, if_neg c34] at h9
          by_cases z : ed S (SY v) m (mY v) m (mY v) = 0
          · rw [if_pos (show lw = 0 from hv2.trans z)] at h9
            rw [if_pos z]
            exact h9
          · rw [if_neg (show ¬ lw = 0 from fun w => z (hv2.symm.trans w)), if_pos c87] at h9
            rw [if_neg z]
            exact h9
        ·
          refine pk_iload dX9_hint_90 rfl ?_
          refine pk_iconst dX9_hint_92 (show Int32.ofInt (-1) = (-1) by decide) ?_
          refine pk_icmp_ne (tgt := 99) dX9_hint_93 (by decide) (fun c93 => ?_) (fun c93 => ?_)
          ·
            refine pk_iload_n dX9_hint_99 rfl ?_
            refine pk_iconst dX9_hint_100 (show Int32.ofInt (3) = (3) by decide) ?_
            refine pk_icmp_ne (tgt := 112) dX9_hint_101 (by decide) (fun c101 => ?_) (fun c101 => ?_)
            ·
              refine pk_iload dX9_hint_112 rfl ?_
              refine pk_iconst dX9_hint_114 (show Int32.ofInt (2) = (2) by decide) ?_
              refine pk_icmp_ne (tgt := 122) dX9_hint_115 (by decide) (fun c115 => ?_) (fun c115 => ?_)
              ·
                have z9 : ¬ ed S (SY v) m (mY v) m (mY v) = 0 := fun z => by
                  rw [if_pos z] at c93
                  exact c93 rfl
                have hk9 : ¬ hkn S (SY v) m (mY v) (cpx S (SY v) (min m (mY v)) 0) = 2 := fun w => by
                  rw [if_neg z9, w] at c115
                  exact c115 rfl
                have hc9 : cpx S (SY v) (min m (mY v)) 0 < mY v := by
                  by_cases w : cpx S (SY v) (min m (mY v)) 0 < mY v
                  · exact w
                  · refine absurd ?_ hk9
                    unfold hkn
                    rw [if_neg (fun x => w x.2.1), if_neg (fun x => w x.1)]
                refine pk_aload dX9_hint_122 rfl rfl ?_
                refine pk_aload_n dX9_hint_124 rfl rfl ?_
                refine pk_getR (c := 0) (d := 12) dX9_hint_125 fk_X9_33 (by decide) rfl rfl ?_
                refine pk_getSN (c := 12) (v := (nI (cpx S (SY v) (min m (mY v)) 0))) dX9_hint_128 fk_X9_226 (by decide) rfl rfl hC.c1 ?_
                refine pk_callDN (j := PY v) (As := fun al => [.int (nI (cpx S (SY v) (min m (mY v)) 0))]) dX9_hint_131 cl_X9_229 u1 (by omega) u3 (dp_tokenAt_in (d + 4) (P := PY v) (by omega) hc9) (fun g hF => y3.fr hF) rfl rfl (Nat.le_of_ble_eq_true rfl) ⟨rfl, rfl⟩ (Nat.le_of_ble_eq_true rfl) (Nat.le_of_ble_eq_true rfl) ?_
                refine pk_iret dX9_hint_134 rfl rfl (Nat.le_of_ble_eq_true rfl) (Nat.le_of_ble_eq_true rfl) ?_
                have z : ¬ ed S (SY v) m (mY v) m (mY v) = 0 := fun z => by
                  rw [if_pos z] at c93
                  exact c93 rfl
                have h9 := hQ _ _ (hf.tr hC.hf)
                rw [hB, hAns, if_neg c74, if_neg c34, if_neg (show ¬ lw = 0 from fun w => z (hv2.symm.trans w)), if_neg c87, if_neg c101] at h9
                rw [if_neg hk9] at h9
                exact h9
              ·
                refine pk_iconst dX9_hint_118 (show Int32.ofInt (-1) = (-1) by decide) ?_
                refine pk_goto (tgt := 134) dX9_hint_119 (by decide) ?_
                refine pk_iret dX9_hint_134 rfl rfl (Nat.le_of_ble_eq_true rfl) (Nat.le_of_ble_eq_true rfl) ?_
                have z : ¬ ed S (SY v) m (mY v) m (mY v) = 0 := fun z => by
                  rw [if_pos z] at c93
                  exact c93 rfl
                have h9 := hQ _ _ (hf.tr hC.hf)
                rw [hB, hAns, if_neg c74, if_neg c34, if_neg (show ¬ lw = 0 from fun w => z (hv2.symm.trans w)), if_neg c87, if_neg c101] at h9
                rw [if_neg z] at c115
                rw [if_pos (show hkn S (SY v) m (mY v) (cpx S (SY v) (min m (mY v)) 0) = 2 from (nI_eq (by unfold hkn; split <;> first | decide | (split <;> decide)) (by decide)).mp c115)] at h9
                exact h9
            ·
              refine pk_aload_n dX9_hint_104 rfl rfl ?_
              refine pk_getR (c := 0) (d := 12) dX9_hint_105 fk_X9_33 (by decide) rfl rfl ?_
              refine pk_getSN (c := 12) (v := (nI (cpx S (SY v) (min m (mY v)) 0))) dX9_hint_108 fk_X9_226 (by decide) rfl rfl hC.c1 ?_
              refine pk_iret dX9_hint_111 rfl rfl (Nat.le_of_ble_eq_true rfl) (Nat.le_of_ble_eq_true rfl) ?_
              have z : ¬ ed S (SY v) m (mY v) m (mY v) = 0 := fun z => by
                rw [if_pos z] at c93
                exact c93 rfl
              have h9 := hQ _ _ (hf.tr hC.hf)
              rw [hB, hAns, if_neg c74, if_neg c34, if_neg (show ¬ lw = 0 from fun w => z (hv2.symm.trans w)), if_neg c87, if_pos c101] at h9
              exact h9
          ·
            refine pk_iload dX9_hint_96 rfl ?_
            refine pk_iret dX9_hint_98 rfl rfl (Nat.le_of_ble_eq_true rfl) (Nat.le_of_ble_eq_true rfl) ?_
            have h9 := hQ _ _ (hf.tr hC.hf)
            rw [hB, hAns, if_neg c74, if_neg c34] at h9
            have z : ed S (SY v) m (mY v) m (mY v) = 0 := by
              by_cases z : ed S (SY v) m (mY v) m (mY v) = 0
              · exact z
              · rw [if_neg z] at c93
                exact absurd c93 (nI_nm1 (by unfold hkn; split <;> first | decide | (split <;> decide)))
            rw [if_pos (show lw = 0 from hv2.trans z)] at h9
            rw [if_pos z]
            exact h9
      ·
        refine pk_aload_n dX9_hint_77 rfl rfl ?_
        refine pk_getR (c := 0) (d := 12) dX9_hint_78 fk_X9_33 (by decide) rfl rfl ?_
        refine pk_getSN (c := 12) (v := (nI (ed S (SY v) m (mY v) m (mY v)))) dX9_hint_81 fk_X9_223 (by decide) rfl rfl hC.c2 ?_
        refine pk_iret dX9_hint_84 rfl rfl (Nat.le_of_ble_eq_true rfl) (Nat.le_of_ble_eq_true rfl) ?_
        have h9 := hQ _ _ (hf.tr hC.hf)
        rw [hB, hAns, if_pos c74, hv2] at h9
        exact h9
    ·
      refine pk_iload dX9_hint_37 rfl ?_
      refine pk_iret dX9_hint_39 rfl rfl (Nat.le_of_ble_eq_true rfl) (Nat.le_of_ble_eq_true rfl) ?_
      have := hQ _ _ hf
      rw [hB, hAns, if_neg (by rw [c34]; decide), if_pos c34] at this
      exact this
set_option maxHeartbeats 4000000 in
set_option maxRecDepth 20000 in
theorem kp_hint_bad1 {fx : px_F} {d : Nat} {Q : px_Q} {al : Nat → Nat} {n : Nat} {g0 : Nat → px_O} {sc ar : Nat → Nat → Int32} {sl : Value} {tf : Nat → Option Nat} {t : Int32} (q : Int32) (ht : ¬ (0 ≤ t ∧ t < sc 0 9)) (hQ : kq Q (.inr "java/lang/IndexOutOfBoundsException") al (n) (g0) (sc) (ar) (sl) (tf)) : kp fx (d + 2) 75 [.ref (al 0), .int t, .int q] Q al n (g0) (sc) (ar) (sl) (tf) := by
  refine kp.of pm_X9_hint rfl rfl (Nat.le_of_ble_eq_true rfl) ?_
  show pk fx (px_body pm_X9_hint) (d + 1) Q al (n) (g0) (sc) (ar) (sl) (tf) 0 [.ref (al 0), .int t, .int q, .float 0, .float 0, .float 0, .float 0, .float 0] [] 0 0
  refine pk_aload_n dX9_hint_0 rfl rfl ?_
  refine pk_iload_n dX9_hint_1 rfl ?_
  refine pk_kV (c := 0) (As := [.int t]) dX9_hint_2 cl_X9_134 (by decide) rfl rfl rfl (Nat.le_of_ble_eq_true rfl) (Nat.le_of_ble_eq_true rfl) (Nat.le_of_ble_eq_true rfl) ?_
  exact kp_taskAt_bad (d := d) ht (kq_exc rfl hQ)
set_option maxHeartbeats 4000000 in
set_option maxRecDepth 20000 in
theorem kp_hint_bad2 {fx : px_F} {d : Nat} {Q : px_Q} {al : Nat → Nat} {n : Nat} {g0 : Nat → px_O} {sc ar : Nat → Nat → Int32} {tf : Nat → Option Nat} {TT : Nat} (hT : sc 0 9 = nI TT) (hTT : TT ≤ 10) {t Tc : Nat} (ht : t < TT) (e1 : tf t = some (al Tc)) (q : Int32) (hQ : kq Q (.inr "java/lang/IllegalStateException") al (n) (g0) (sc) (ar) (.null) (tf)) : kp fx (d + 2) 75 [.ref (al 0), .int (nI t), .int q] Q al n (g0) (sc) (ar) (.null) (tf) := by
  refine kp.of pm_X9_hint rfl rfl (Nat.le_of_ble_eq_true rfl) ?_
  show pk fx (px_body pm_X9_hint) (d + 1) Q al (n) (g0) (sc) (ar) (.null) (tf) 0 [.ref (al 0), .int (nI t), .int q, .float 0, .float 0, .float 0, .float 0, .float 0] [] 0 0
  refine pk_aload_n dX9_hint_0 rfl rfl ?_
  refine pk_iload_n dX9_hint_1 rfl ?_
  refine pk_kV (c := 0) (As := [.int (nI t)]) dX9_hint_2 cl_X9_134 (by decide) rfl rfl rfl (Nat.le_of_ble_eq_true rfl) (Nat.le_of_ble_eq_true rfl) (Nat.le_of_ble_eq_true rfl) ?_
  refine kp_taskAt_ok (d := d) hT hTT ht e1 (kq_aft ?_)
  refine pk_astore_n dX9_hint_5 (Nat.le_of_ble_eq_true rfl) rfl ?_
  refine pk_aload_n dX9_hint_6 rfl rfl ?_
  refine pk_kV (c := 0) (As := []) dX9_hint_7 cl_X9_94 (by decide) rfl rfl rfl (Nat.le_of_ble_eq_true rfl) (Nat.le_of_ble_eq_true rfl) (Nat.le_of_ble_eq_true rfl) ?_
  exact kp_slate_bad (d := d) (kq_exc rfl hQ)
set_option maxHeartbeats 4000000 in
set_option maxRecDepth 20000 in
theorem kp_hint_bad3 {fx : px_F} {d : Nat} {Q : px_Q} {al : Nat → Nat} {n : Nat} {g0 : Nat → px_O} {sc ar : Nat → Nat → Int32} {tf : Nat → Option Nat} {TT : Nat} (hT : sc 0 9 = nI TT) (hTT : TT ≤ 10) {t Tc P : Nat} (ht : t < TT) (e1 : tf t = some (al Tc)) {q : Int32} (hw : ¬ (0 ≤ q ∧ q ≤ 4)) (hQ : kq Q (.inr "java/util/NoSuchElementException") al (n) (g0) (sc) (ar) (.ref (al P)) (tf)) : kp fx (d + 2) 75 [.ref (al 0), .int (nI t), .int q] Q al n (g0) (sc) (ar) (.ref (al P)) (tf) := by
  refine kp.of pm_X9_hint rfl rfl (Nat.le_of_ble_eq_true rfl) ?_
  show pk fx (px_body pm_X9_hint) (d + 1) Q al (n) (g0) (sc) (ar) (.ref (al P)) (tf) 0 [.ref (al 0), .int (nI t), .int q, .float 0, .float 0, .float 0, .float 0, .float 0] [] 0 0
  refine pk_aload_n dX9_hint_0 rfl rfl ?_
  refine pk_iload_n dX9_hint_1 rfl ?_
  refine pk_kV (c := 0) (As := [.int (nI t)]) dX9_hint_2 cl_X9_134 (by decide) rfl rfl rfl (Nat.le_of_ble_eq_true rfl) (Nat.le_of_ble_eq_true rfl) (Nat.le_of_ble_eq_true rfl) ?_
  refine kp_taskAt_ok (d := d) hT hTT ht e1 (kq_aft ?_)
  refine pk_astore_n dX9_hint_5 (Nat.le_of_ble_eq_true rfl) rfl ?_
  refine pk_aload_n dX9_hint_6 rfl rfl ?_
  refine pk_kV (c := 0) (As := []) dX9_hint_7 cl_X9_94 (by decide) rfl rfl rfl (Nat.le_of_ble_eq_true rfl) (Nat.le_of_ble_eq_true rfl) (Nat.le_of_ble_eq_true rfl) ?_
  refine kp_slate_ok (d := d) (kq_aft ?_)
  refine pk_astore dX9_hint_10 (Nat.le_of_ble_eq_true rfl) rfl ?_
  refine pk_iload_n dX9_hint_12 rfl ?_
  refine pk_iconst dX9_hint_13 (show Int32.ofInt (4) = (4) by decide) ?_
  refine pk_kS (As := [.int q, .int 4]) dX9_hint_14 cl_X9_98 rfl rfl (Nat.le_of_ble_eq_true rfl) (Nat.le_of_ble_eq_true rfl) (Nat.le_of_ble_eq_true rfl) ?_
  exact kp_checkWhat_bad (d := d) hw (kq_exc rfl hQ)
