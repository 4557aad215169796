set_option maxHeartbeats 4000000 in
set_option maxRecDepth 20000 in
theorem kl_att {fx : px_F} {d : Nat} {Q : px_Q} {al : Nat → Nat} {n : Nat} {g0 : Nat → px_O} {sl : Value} {tf : Nat → Option Nat} {nd sh : Int32} {w y : Nat} {WA WB WR : Nat → Int32} {Y F : Nat → Option Nat} {Tc : Nat} {P m L : Nat} {S O A : Nat → Int32} (hK : TK al (n) (g0) Tc nd sh (w) (y) (WA) (WB) (WR) (Y) (F)) (hP : PG al n g0 P m L S O A (bD m S)) (hO : POK m L S O A) (hw6 : w ≤ 6) {sc0 ar0 : Nat → Nat → Int32} {l : Nat} {hd : Int32} {t1 : Value} (kf : ∀ x sc2 ar2, (atL m S WA WB WR w 0 0).1 = some x → MF sc0 ar0 sc2 ar2 → kq Q (.inl (some (.int (nI (1 + x))))) al (n) (g0) (sc2) (ar2) (sl) (tf)) (kk : ∀ all sc2 ar2, atL m S WA WB WR w 0 0 = (none, all) → MF sc0 ar0 sc2 ar2 → pk fx (px_body pm_X9_attempt) (d + 7) Q al (n) (g0) (sc2) (ar2) (sl) (tf) 132 [.ref (al 0), t1, .int (nI l), .int hd, .ref (al Tc), .ref (al (20 + 2 * l)), .ref (al P), .int all, .int (nI w)] [] 3 18) : ∀ (j i : Nat) (all : Int32) (sc ar : Nat → Nat → Int32), i + j = w → MF sc0 ar0 sc ar → atL m S WA WB WR j i all = atL m S WA WB WR w 0 0 → pk fx (px_body pm_X9_attempt) (d + 7) Q al (n) (g0) (sc) (ar) (sl) (tf) 46 [.ref (al 0), t1, .int (nI l), .int hd, .ref (al Tc), .ref (al (20 + 2 * l)), .ref (al P), .int all, .int (nI i)] [] 3 18
  | 0, i, all, sc, ar, hj, hF, he => by
    obtain rfl : i = w := by omega
    rw [atL] at he
    obtain ⟨p1, p2, ⟨ff, q0, q1, q2, q3, q4, q5, q6, q7, q8, q9⟩, r1, r2, r3, r4, r5⟩ := id hK
    refine pk_iload dX9_attempt_46 rfl ?_
    refine pk_aload dX9_attempt_48 rfl rfl ?_
    refine pk_dgetN (j := Tc) dX9_attempt_50 fk_X9_146 p1 (by omega) q0 q8 ?_
    refine pk_icmp_ge (tgt := 132) dX9_attempt_53 (by decide) (fun c53 => ?_) (fun c53 => absurd (Int32.le_refl _) c53)
    exact kk all sc ar he.symm hF
  | j + 1, i, all, sc, ar, hj, hF, he => by
    rw [atL] at he
    obtain ⟨p1, p2, ⟨ff, q0, q1, q2, q3, q4, q5, q6, q7, q8, q9⟩, r1, r2, r3, r4, r5⟩ := id hK
    refine pk_iload dX9_attempt_46 rfl ?_
    refine pk_aload dX9_attempt_48 rfl rfl ?_
    refine pk_dgetN (j := Tc) dX9_attempt_50 fk_X9_146 p1 (by omega) q0 q8 ?_
    refine pk_icmp_ge (tgt := 132) dX9_attempt_53 (by decide) (fun c53 => absurd c53 (nI_ge (by omega) (by omega))) (fun c53 => ?_)
    refine pk_aload_n dX9_attempt_56 rfl rfl ?_
    refine pk_getR (c := 0) (d := 9) dX9_attempt_57 fk_X9_26 (by decide) rfl rfl ?_
    refine pk_aload dX9_attempt_60 rfl rfl ?_
    refine pk_aload dX9_attempt_62 rfl rfl ?_
    refine pk_dgetN (j := Tc) dX9_attempt_64 fk_X9_152 p1 (by omega) q0 q3 ?_
    refine pk_iload dX9_attempt_67 rfl ?_
    refine pk_dald (j := i) dX9_attempt_69 (by omega) (by omega) r1 rfl (by omega) (by decide) rfl ?_
    refine pk_aload dX9_attempt_70 rfl rfl ?_
    refine pk_dgetN (j := Tc) dX9_attempt_72 fk_X9_156 p1 (by omega) q0 q4 ?_
    refine pk_iload dX9_attempt_75 rfl ?_
    refine pk_dald (j := i) dX9_attempt_77 (by omega) (by omega) r2 rfl (by omega) (by decide) rfl ?_
    refine pk_callN (c := 9) (As := fun al => [.ref (al P), .int (WA i), .int (WB i)]) dX9_attempt_78 cl_X9_102 (by decide) rfl (cp_execute (d + 1) _ _ _ tf hO (WA i) (WB i)) (fun g hF => hP.fr hF) rfl rfl (Nat.le_of_ble_eq_true rfl) ⟨rfl, rfl⟩ (Nat.le_of_ble_eq_true rfl) (Nat.le_of_ble_eq_true rfl) (fun res sc2 ar2 hn => ?_)
    obtain ⟨rfl, hM⟩ := hn
    refine pk_aload_n dX9_attempt_81 rfl rfl ?_
    refine pk_getR (c := 0) (d := 9) dX9_attempt_82 fk_X9_26 (by decide) rfl rfl ?_
    refine pk_getSN (c := 9) (v := (nI (runC m S (WA i) (WB i)).1)) dX9_attempt_85 fk_X9_106 (by decide) rfl rfl hM.2.2.2.2.1 ?_
    refine pk_if_ne (tgt := 109) dX9_attempt_88 (by decide) (fun c88 => ?_) (fun c88 => ?_)
    ·
      refine pk_iconst dX9_attempt_109 (show Int32.ofInt (1) = (1) by decide) ?_
      refine pk_iload dX9_attempt_110 rfl ?_
      refine pk_iadd dX9_attempt_112 ?_
      rw [if_neg (fun z => c88 (by rw [z.1]; rfl))] at he
      rw [show (1 : Int32) + nI i = nI (1 + i) from nI_add 1 i]
      exact pk_iret dX9_attempt_113 rfl rfl (Nat.le_of_ble_eq_true rfl) (Nat.le_of_ble_eq_true rfl) (kf i _ _ (by rw [← he]) (hF.tr2 hM.1))
    ·
      refine pk_aload_n dX9_attempt_91 rfl rfl ?_
      refine pk_getR (c := 0) (d := 9) dX9_attempt_92 fk_X9_26 (by decide) rfl rfl ?_
      refine pk_callN (c := 9) (As := fun al => []) dX9_attempt_95 cl_X9_109 (by decide) rfl (cp_result (d + 6) _ _ _ tf) (fun _ _ => trivial) rfl rfl (Nat.le_of_ble_eq_true rfl) ⟨rfl, rfl⟩ (Nat.le_of_ble_eq_true rfl) (Nat.le_of_ble_eq_true rfl) (fun res3 sc2 ar2 hn3 => ?_)
      obtain ⟨rfl, rfl, rfl⟩ := hn3
      rw [hM.2.1.2.2.2.2]
      refine pk_aload dX9_attempt_98 rfl rfl ?_
      refine pk_dgetN (j := Tc) dX9_attempt_100 fk_X9_159 p1 (by omega) q0 q5 ?_
      refine pk_iload dX9_attempt_103 rfl ?_
      refine pk_dald (j := i) dX9_attempt_105 (by omega) (by omega) r3 rfl (by omega) (by decide) rfl ?_
      refine pk_icmp_eq (tgt := 114) dX9_attempt_106 (by decide) (fun c106 => ?_) (fun c106 => ?_)
      ·
        have x0 : (runC m S (WA i) (WB i)).1 = 0 := by
          by_cases z : (runC m S (WA i) (WB i)).1 = 0
          · exact z
          · have l9 : (runC m S (WA i) (WB i)).1 ≤ 2 := dX_le2 _ _ _ _ _ _ _ _ _
            exact absurd c88 (nI_ne0 (by omega) (by omega))
        rw [if_pos ⟨x0, c106⟩] at he
        refine pk_iload dX9_attempt_114 rfl ?_
        refine pk_aload_n dX9_attempt_116 rfl rfl ?_
        refine pk_getR (c := 0) (d := 9) dX9_attempt_117 fk_X9_26 (by decide) rfl rfl ?_
        refine pk_getSN (c := 9) (v := ((runC m S (WA i) (WB i)).2.2.2)) dX9_attempt_120 fk_X9_115 (by decide) rfl rfl hM.2.2.2.1 ?_
        refine pk_ior dX9_attempt_123 ?_
        refine pk_istore dX9_attempt_124 (Nat.le_of_ble_eq_true rfl) ?_
        refine pk_iinc dX9_attempt_126 rfl (show Int32.ofInt (1) = (1) by decide) ?_
        refine pk_goto (tgt := 46) dX9_attempt_129 (by decide) ?_
        rw [nI_1]
        exact kl_att hK hP hO hw6 kf kk j (i + 1) _ _ _ (by omega) (hF.tr2 hM.1) he
      ·
        refine pk_iconst dX9_attempt_109 (show Int32.ofInt (1) = (1) by decide) ?_
        refine pk_iload dX9_attempt_110 rfl ?_
        refine pk_iadd dX9_attempt_112 ?_
        rw [if_neg (fun z => c106 z.2)] at he
        rw [show (1 : Int32) + nI i = nI (1 + i) from nI_add 1 i]
        exact pk_iret dX9_attempt_113 rfl rfl (Nat.le_of_ble_eq_true rfl) (Nat.le_of_ble_eq_true rfl) (kf i _ _ (by rw [← he]) (hF.tr2 hM.1))
set_option maxHeartbeats 4000000 in
set_option maxRecDepth 20000 in
theorem kp_attempt_none {fx : px_F} {d : Nat} {Q : px_Q} {al : Nat → Nat} {n : Nat} {g0 : Nat → px_O} {sc ar : Nat → Nat → Int32} {tf : Nat → Option Nat} {TT : Nat} (hT : sc 0 9 = nI TT) (hTT : TT ≤ 10) {t : Nat} (ht : t < TT) {nd sh : Int32} {w y : Nat} {WA WB WR : Nat → Int32} {Y F : Nat → Option Nat} {Tc : Nat} {P m L : Nat} {S O A : Nat → Int32} (hK : TK al (n) (g0) Tc nd sh (w) (y) (WA) (WB) (WR) (Y) (F)) (hP : PG al n g0 P m L S O A (bD m S)) (hO : POK m L S O A) (hw6 : w ≤ 6) (e1 : tf t = some (al Tc)) {l : Nat} (hl : l < 8) {hd : Int32} (hw : w = 0) (hQ : kq Q (.inl (some (.int (-1)))) al (n) (g0) (sc) (ar) (.ref (al P)) (tf)) : kp fx (d + 8) 69 [.ref (al 0), .int (nI t), .int (nI l), .int hd] Q al n (g0) (sc) (ar) (.ref (al P)) (tf) := by
  refine kp.of pm_X9_attempt rfl rfl (Nat.le_of_ble_eq_true rfl) ?_
  show pk fx (px_body pm_X9_attempt) (d + 7) Q al (n) (g0) (sc) (ar) (.ref (al P)) (tf) 0 [.ref (al 0), .int (nI t), .int (nI l), .int hd, .float 0, .float 0, .float 0, .float 0, .float 0] [] 0 0
  obtain ⟨p1, p2, ⟨ff, q0, q1, q2, q3, q4, q5, q6, q7, q8, q9⟩, r1, r2, r3, r4, r5⟩ := id hK
  refine pk_aload_n dX9_attempt_0 rfl rfl ?_
  refine pk_iload_n dX9_attempt_1 rfl ?_
  refine pk_kV (c := 0) (As := [.int (nI t)]) dX9_attempt_2 cl_X9_134 (by decide) rfl rfl rfl (Nat.le_of_ble_eq_true rfl) (Nat.le_of_ble_eq_true rfl) (Nat.le_of_ble_eq_true rfl) ?_
  refine kp_taskAt_ok (d := d + 6) hT hTT ht e1 (kq_aft ?_)
  refine pk_astore dX9_attempt_5 (Nat.le_of_ble_eq_true rfl) rfl ?_
  refine pk_aload_n dX9_attempt_7 rfl rfl ?_
  refine pk_iload_n dX9_attempt_8 rfl ?_
  refine pk_kV (c := 0) (As := [.int (nI l)]) dX9_attempt_9 cl_X9_142 (by decide) rfl rfl rfl (Nat.le_of_ble_eq_true rfl) (Nat.le_of_ble_eq_true rfl) (Nat.le_of_ble_eq_true rfl) ?_
  refine kp_learnerAt_ok (d := d + 6) hl (kq_aft ?_)
  refine pk_astore dX9_attempt_12 (Nat.le_of_ble_eq_true rfl) rfl ?_
  refine pk_aload_n dX9_attempt_14 rfl rfl ?_
  refine pk_kV (c := 0) (As := []) dX9_attempt_15 cl_X9_94 (by decide) rfl rfl rfl (Nat.le_of_ble_eq_true rfl) (Nat.le_of_ble_eq_true rfl) (Nat.le_of_ble_eq_true rfl) ?_
  refine kp_slate_ok (d := d + 6) (kq_aft ?_)
  refine pk_astore dX9_attempt_18 (Nat.le_of_ble_eq_true rfl) rfl ?_
  refine pk_aload dX9_attempt_20 rfl rfl ?_
  refine pk_dgetN (j := Tc) dX9_attempt_22 fk_X9_146 p1 (by omega) q0 q8 ?_
  refine pk_if_ne (tgt := 30) dX9_attempt_25 (by decide) (fun c25 => absurd c25 (fun z => z (by rw [hw]; rfl))) (fun c25 => ?_)
  refine pk_iconst dX9_attempt_28 (show Int32.ofInt (-1) = (-1) by decide) ?_
  exact pk_iret dX9_attempt_29 rfl rfl (Nat.le_of_ble_eq_true rfl) (Nat.le_of_ble_eq_true rfl) hQ
set_option maxHeartbeats 4000000 in
set_option maxRecDepth 20000 in
theorem kp_attempt_ok {fx : px_F} {d : Nat} {Q : px_Q} {al : Nat → Nat} {n : Nat} {g0 : Nat → px_O} {sc ar : Nat → Nat → Int32} {tf : Nat → Option Nat} {TT : Nat} (hT : sc 0 9 = nI TT) (hTT : TT ≤ 10) {t : Nat} (ht : t < TT) {nd sh : Int32} {w y : Nat} {WA WB WR : Nat → Int32} {Y F : Nat → Option Nat} {Tc : Nat} {P m L : Nat} {S O A : Nat → Int32} (hK : TK al (n) (g0) Tc nd sh (w) (y) (WA) (WB) (WR) (Y) (F)) (hP : PG al n g0 P m L S O A (bD m S)) (hO : POK m L S O A) (hw6 : w ≤ 6) (e1 : tf t = some (al Tc)) {l : Nat} (hl : l < 8) {hd : Int32} (hw : 0 < w) {PY mY LY : Nat → Nat} {SY OY AY : Nat → Nat → Int32} (hy : y ≤ 10) (hY : YP al n g0 y Y PY mY LY SY OY AY) (hPT : P < Tc ∨ Tc + 6 ≤ P) (hPT2 : ∀ k, P ≤ k → k < P + 4 → k ≠ Tc + 5) (hYT : ∀ i, i < y → ∀ k, PY i ≤ k → k < PY i + 4 → k ≠ Tc + 5) (hF : ∀ x sc2 ar2, (atL m S WA WB WR w 0 0).1 = some x → MF (up2 sc 0 11 (sc 0 11 + 1)) ar sc2 ar2 → kq Q (.inl (some (.int (nI (1 + x))))) al (n) (g0) (sc2) (ar2) (.ref (al P)) (tf)) (hQ : ∀ all sc1 ar1 g2 y2 Y2 F2, atL m S WA WB WR w 0 0 = (none, all) → MF (up2 sc 0 11 (sc 0 11 + 1)) ar sc1 ar1 → ((wyH mY SY m S y 0 = true ∨ y = 10) → y2 = y ∧ Y2 = Y) → (¬ (wyH mY SY m S y 0 = true ∨ y = 10) → y2 = y + 1 ∧ Y2 = va_up Y y (some (al P))) → F2 = (if F l = none then va_up F l (some (al P)) else F) → TK al (n) (g2) Tc nd sh (w) (y2) (WA) (WB) (WR) (Y2) (F2) → (∀ k, (k < Tc ∨ Tc + 6 ≤ k) → g2 k = g0 k) → kq Q (.inl (some (.int 0))) al (n) (g2) (up2 sc1 0 12 (sc1 0 12 + 1)) (if F l = none then va_up ar1 (21 + 2 * l) (cnS (ar1 (21 + 2 * l)) 0 all (if hd = 0 then 16 else 4) 8) else ar1) (.ref (al P)) (tf)) : kp fx (d + 8) 69 [.ref (al 0), .int (nI t), .int (nI l), .int hd] Q al n (g0) (sc) (ar) (.ref (al P)) (tf) := by
  refine kp.of pm_X9_attempt rfl rfl (Nat.le_of_ble_eq_true rfl) ?_
  show pk fx (px_body pm_X9_attempt) (d + 7) Q al (n) (g0) (sc) (ar) (.ref (al P)) (tf) 0 [.ref (al 0), .int (nI t), .int (nI l), .int hd, .float 0, .float 0, .float 0, .float 0, .float 0] [] 0 0
  obtain ⟨p1, p2, ⟨ff, q0, q1, q2, q3, q4, q5, q6, q7, q8, q9⟩, r1, r2, r3, r4, r5⟩ := id hK
  refine pk_aload_n dX9_attempt_0 rfl rfl ?_
  refine pk_iload_n dX9_attempt_1 rfl ?_
  refine pk_kV (c := 0) (As := [.int (nI t)]) dX9_attempt_2 cl_X9_134 (by decide) rfl rfl rfl (Nat.le_of_ble_eq_true rfl) (Nat.le_of_ble_eq_true rfl) (Nat.le_of_ble_eq_true rfl) ?_
  refine kp_taskAt_ok (d := d + 6) hT hTT ht e1 (kq_aft ?_)
  refine pk_astore dX9_attempt_5 (Nat.le_of_ble_eq_true rfl) rfl ?_
  refine pk_aload_n dX9_attempt_7 rfl rfl ?_
  refine pk_iload_n dX9_attempt_8 rfl ?_
  refine pk_kV (c := 0) (As := [.int (nI l)]) dX9_attempt_9 cl_X9_142 (by decide) rfl rfl rfl (Nat.le_of_ble_eq_true rfl) (Nat.le_of_ble_eq_true rfl) (Nat.le_of_ble_eq_true rfl) ?_
  refine kp_learnerAt_ok (d := d + 6) hl (kq_aft ?_)
  refine pk_astore dX9_attempt_12 (Nat.le_of_ble_eq_true rfl) rfl ?_
  refine pk_aload_n dX9_attempt_14 rfl rfl ?_
  refine pk_kV (c := 0) (As := []) dX9_attempt_15 cl_X9_94 (by decide) rfl rfl rfl (Nat.le_of_ble_eq_true rfl) (Nat.le_of_ble_eq_true rfl) (Nat.le_of_ble_eq_true rfl) ?_
  refine kp_slate_ok (d := d + 6) (kq_aft ?_)
  refine pk_astore dX9_attempt_18 (Nat.le_of_ble_eq_true rfl) rfl ?_
  refine pk_aload dX9_attempt_20 rfl rfl ?_
  refine pk_dgetN (j := Tc) dX9_attempt_22 fk_X9_146 p1 (by omega) q0 q8 ?_
  refine pk_if_ne (tgt := 30) dX9_attempt_25 (by decide) (fun c25 => ?_) (fun c25 => absurd c25 (nI_ne0 hw (by omega)))
  refine pk_aload_n dX9_attempt_30 rfl rfl ?_
  refine pk_dup dX9_attempt_31 rfl ?_
  refine pk_getS (c := 0) (v := (sc 0 11)) dX9_attempt_32 fk_X9_149 (by decide) rfl rfl rfl ?_
  refine pk_iconst dX9_attempt_35 (show Int32.ofInt (1) = (1) by decide) ?_
  refine pk_iadd dX9_attempt_36 ?_
  refine pk_put (c := 0) dX9_attempt_37 fk_X9_149 (by decide) rfl rfl ⟨_, _, _, rfl, rfl⟩ rfl rfl ?_
  refine pk_iconst dX9_attempt_40 (show Int32.ofInt (0) = (0) by decide) ?_
  refine pk_istore dX9_attempt_41 (Nat.le_of_ble_eq_true rfl) ?_
  refine pk_iconst dX9_attempt_43 (show Int32.ofInt (0) = (0) by decide) ?_
  refine pk_istore dX9_attempt_44 (Nat.le_of_ble_eq_true rfl) ?_
  refine kl_att hK hP hO hw6 hF (fun all sc1 ar1 he hM1 => ?_) w 0 0 _ _ (by omega) ⟨fun _ _ _ => rfl, fun _ _ _ => rfl⟩ rfl
  refine pk_aload_n dX9_attempt_132 rfl rfl ?_
  refine pk_dup dX9_attempt_133 rfl ?_
  refine pk_getS (c := 0) (v := (sc1 0 12)) dX9_attempt_134 fk_X9_162 (by decide) rfl rfl rfl ?_
  refine pk_iconst dX9_attempt_137 (show Int32.ofInt (1) = (1) by decide) ?_
  refine pk_iadd dX9_attempt_138 ?_
  refine pk_put (c := 0) dX9_attempt_139 fk_X9_162 (by decide) rfl rfl ⟨_, _, _, rfl, rfl⟩ rfl rfl ?_
  refine pk_aload dX9_attempt_142 rfl rfl ?_
  refine pk_iload_n dX9_attempt_144 rfl ?_
  refine pk_callDN (j := Tc) (As := fun al => [.int (nI l)]) dX9_attempt_145 cl_X9_165 p1 (by omega) q0 (dp_isPassedBy (d + 6) (T := Tc) hl) (fun g hF => hK.fr (Nat.le_refl _) (fun _ _ => rfl) (fun k h1 _ => hF k (by omega))) rfl rfl (Nat.le_of_ble_eq_true rfl) ⟨rfl, rfl⟩ (Nat.le_of_ble_eq_true rfl) (Nat.le_of_ble_eq_true rfl) ?_
  refine pk_if_ne (tgt := 168) dX9_attempt_148 (by decide) (fun c148 => ?_) (fun c148 => ?_)
  ·
    refine pk_aload dX9_attempt_168 rfl rfl ?_
    refine pk_iload_n dX9_attempt_170 rfl ?_
    refine pk_aload dX9_attempt_171 rfl rfl ?_
    refine pk_kDN (j := Tc) (As := [.int (nI l), .ref (al P)]) dX9_attempt_173 cl_X9_171 p1 (by omega) q0 rfl rfl (Nat.le_of_ble_eq_true rfl) (Nat.le_of_ble_eq_true rfl) (Nat.le_of_ble_eq_true rfl) ?_
    refine kp_keepPass (d := d + 2) hy hO.1 hK hP hY hl hPT hPT2 hYT (fun g2 y2 Y2 F2 z1 z2 z3 z4 z5 => kq_aftN ?_)
    have h9 := hQ all sc1 ar1 g2 y2 Y2 F2 he hM1 z1 z2 z3 z4 z5
    rw [if_neg (fun z => by rw [z] at c148; exact c148 rfl)] at h9
    refine pk_iconst dX9_attempt_176 (show Int32.ofInt (0) = (0) by decide) ?_
    exact pk_iret dX9_attempt_177 rfl rfl (Nat.le_of_ble_eq_true rfl) (Nat.le_of_ble_eq_true rfl) h9
  ·
    refine pk_aload dX9_attempt_151 rfl rfl ?_
    refine pk_iload dX9_attempt_153 rfl ?_
    refine pk_iload_n dX9_attempt_155 rfl ?_
    refine pk_if_eq (tgt := 163) dX9_attempt_156 (by decide) (fun c156 => ?_) (fun c156 => ?_)
    ·
      refine pk_bipush dX9_attempt_163 (show (Int8.ofInt (16)).toInt32 = (16) by decide) ?_
      refine pk_callN (c := (20 + 2 * l)) (As := fun al => [.int all, .int (16)]) dX9_attempt_165 cl_X9_168 (by omega) (lrn_c hl) (cp_grow (d + 5) hl all _) (fun _ _ => trivial) rfl rfl (Nat.le_of_ble_eq_true rfl) ⟨rfl, rfl⟩ (Nat.le_of_ble_eq_true rfl) (Nat.le_of_ble_eq_true rfl) (fun r6 sc6 ar6 n6 => ?_)
      obtain ⟨rfl, rfl, rfl⟩ := n6
      refine pk_aload dX9_attempt_168 rfl rfl ?_
      refine pk_iload_n dX9_attempt_170 rfl ?_
      refine pk_aload dX9_attempt_171 rfl rfl ?_
      refine pk_kDN (j := Tc) (As := [.int (nI l), .ref (al P)]) dX9_attempt_173 cl_X9_171 p1 (by omega) q0 rfl rfl (Nat.le_of_ble_eq_true rfl) (Nat.le_of_ble_eq_true rfl) (Nat.le_of_ble_eq_true rfl) ?_
      refine kp_keepPass (d := d + 2) hy hO.1 hK hP hY hl hPT hPT2 hYT (fun g2 y2 Y2 F2 z1 z2 z3 z4 z5 => kq_aftN ?_)
      have h9 := hQ all sc1 ar1 g2 y2 Y2 F2 he hM1 z1 z2 z3 z4 z5
      rw [if_pos (show F l = none from Option.isNone_iff_eq_none.mp (by have := zB_0.mp c148; cases hF9 : F l with
        | none => rfl
        | some x => rw [hF9] at this; cases this))] at h9
      rw [if_pos c156] at h9
      refine pk_iconst dX9_attempt_176 (show Int32.ofInt (0) = (0) by decide) ?_
      exact pk_iret dX9_attempt_177 rfl rfl (Nat.le_of_ble_eq_true rfl) (Nat.le_of_ble_eq_true rfl) h9
    ·
      refine pk_iconst dX9_attempt_159 (show Int32.ofInt (4) = (4) by decide) ?_
      refine pk_goto (tgt := 165) dX9_attempt_160 (by decide) ?_
      refine pk_callN (c := (20 + 2 * l)) (As := fun al => [.int all, .int (4)]) dX9_attempt_165 cl_X9_168 (by omega) (lrn_c hl) (cp_grow (d + 5) hl all _) (fun _ _ => trivial) rfl rfl (Nat.le_of_ble_eq_true rfl) ⟨rfl, rfl⟩ (Nat.le_of_ble_eq_true rfl) (Nat.le_of_ble_eq_true rfl) (fun r6 sc6 ar6 n6 => ?_)
      obtain ⟨rfl, rfl, rfl⟩ := n6
      refine pk_aload dX9_attempt_168 rfl rfl ?_
      refine pk_iload_n dX9_attempt_170 rfl ?_
      refine pk_aload dX9_attempt_171 rfl rfl ?_
      refine pk_kDN (j := Tc) (As := [.int (nI l), .ref (al P)]) dX9_attempt_173 cl_X9_171 p1 (by omega) q0 rfl rfl (Nat.le_of_ble_eq_true rfl) (Nat.le_of_ble_eq_true rfl) (Nat.le_of_ble_eq_true rfl) ?_
      refine kp_keepPass (d := d + 2) hy hO.1 hK hP hY hl hPT hPT2 hYT (fun g2 y2 Y2 F2 z1 z2 z3 z4 z5 => kq_aftN ?_)
      have h9 := hQ all sc1 ar1 g2 y2 Y2 F2 he hM1 z1 z2 z3 z4 z5
      rw [if_pos (show F l = none from Option.isNone_iff_eq_none.mp (by have := zB_0.mp c148; cases hF9 : F l with
        | none => rfl
        | some x => rw [hF9] at this; cases this))] at h9
      rw [if_neg c156] at h9
      refine pk_iconst dX9_attempt_176 (show Int32.ofInt (0) = (0) by decide) ?_
      exact pk_iret dX9_attempt_177 rfl rfl (Nat.le_of_ble_eq_true rfl) (Nat.le_of_ble_eq_true rfl) h9
set_option maxHeartbeats 4000000 in
set_option maxRecDepth 20000 in
theorem kp_attempt_bad1 {fx : px_F} {d : Nat} {Q : px_Q} {al : Nat → Nat} {n : Nat} {g0 : Nat → px_O} {sc ar : Nat → Nat → Int32} {sl : Value} {tf : Nat → Option Nat} {t : Int32} (l hd : Int32) (ht : ¬ (0 ≤ t ∧ t < sc 0 9)) (hQ : kq Q (.inr "java/lang/IndexOutOfBoundsException") al (n) (g0) (sc) (ar) (sl) (tf)) : kp fx (d + 2) 69 [.ref (al 0), .int t, .int l, .int hd] Q al n (g0) (sc) (ar) (sl) (tf) := by
  refine kp.of pm_X9_attempt rfl rfl (Nat.le_of_ble_eq_true rfl) ?_
  show pk fx (px_body pm_X9_attempt) (d + 1) Q al (n) (g0) (sc) (ar) (sl) (tf) 0 [.ref (al 0), .int t, .int l, .int hd, .float 0, .float 0, .float 0, .float 0, .float 0] [] 0 0
  refine pk_aload_n dX9_attempt_0 rfl rfl ?_
  refine pk_iload_n dX9_attempt_1 rfl ?_
  refine pk_kV (c := 0) (As := [.int t]) dX9_attempt_2 cl_X9_134 (by decide) rfl rfl rfl (Nat.le_of_ble_eq_true rfl) (Nat.le_of_ble_eq_true rfl) (Nat.le_of_ble_eq_true rfl) ?_
  exact kp_taskAt_bad (d := d) ht (kq_exc rfl hQ)
set_option maxHeartbeats 4000000 in
set_option maxRecDepth 20000 in
theorem kp_attempt_bad2 {fx : px_F} {d : Nat} {Q : px_Q} {al : Nat → Nat} {n : Nat} {g0 : Nat → px_O} {sc ar : Nat → Nat → Int32} {sl : Value} {tf : Nat → Option Nat} {TT : Nat} (hT : sc 0 9 = nI TT) (hTT : TT ≤ 10) {t Tc : Nat} (ht : t < TT) (e1 : tf t = some (al Tc)) {l : Int32} (hd : Int32) (hl : ¬ (0 ≤ l ∧ l < 8)) (hQ : kq Q (.inr "java/lang/IndexOutOfBoundsException") al (n) (g0) (sc) (ar) (sl) (tf)) : kp fx (d + 2) 69 [.ref (al 0), .int (nI t), .int l, .int hd] Q al n (g0) (sc) (ar) (sl) (tf) := by
  refine kp.of pm_X9_attempt rfl rfl (Nat.le_of_ble_eq_true rfl) ?_
  show pk fx (px_body pm_X9_attempt) (d + 1) Q al (n) (g0) (sc) (ar) (sl) (tf) 0 [.ref (al 0), .int (nI t), .int l, .int hd, .float 0, .float 0, .float 0, .float 0, .float 0] [] 0 0
  refine pk_aload_n dX9_attempt_0 rfl rfl ?_
  refine pk_iload_n dX9_attempt_1 rfl ?_
  refine pk_kV (c := 0) (As := [.int (nI t)]) dX9_attempt_2 cl_X9_134 (by decide) rfl rfl rfl (Nat.le_of_ble_eq_true rfl) (Nat.le_of_ble_eq_true rfl) (Nat.le_of_ble_eq_true rfl) ?_
  refine kp_taskAt_ok (d := d) hT hTT ht e1 (kq_aft ?_)
  refine pk_astore dX9_attempt_5 (Nat.le_of_ble_eq_true rfl) rfl ?_
  refine pk_aload_n dX9_attempt_7 rfl rfl ?_
  refine pk_iload_n dX9_attempt_8 rfl ?_
  refine pk_kV (c := 0) (As := [.int l]) dX9_attempt_9 cl_X9_142 (by decide) rfl rfl rfl (Nat.le_of_ble_eq_true rfl) (Nat.le_of_ble_eq_true rfl) (Nat.le_of_ble_eq_true rfl) ?_
  exact kp_learnerAt_bad (d := d) hl (kq_exc rfl hQ)
set_option maxHeartbeats 4000000 in
set_option maxRecDepth 20000 in
theorem kp_attempt_bad3 {fx : px_F} {d : Nat} {Q : px_Q} {al : Nat → Nat} {n : Nat} {g0 : Nat → px_O} {sc ar : Nat → Nat → Int32} {tf : Nat → Option Nat} {TT : Nat} (hT : sc 0 9 = nI TT) (hTT : TT ≤ 10) {t Tc : Nat} (ht : t < TT) (e1 : tf t = some (al Tc)) {l : Nat} (hl : l < 8) (hd : Int32) (hQ : kq Q (.inr "java/lang/IllegalStateException") al (n) (g0) (sc) (ar) (.null) (tf)) : kp fx (d + 2) 69 [.ref (al 0), .int (nI t), .int (nI l), .int hd] Q al n (g0) (sc) (ar) (.null) (tf) := by
  refine kp.of pm_X9_attempt rfl rfl (Nat.le_of_ble_eq_true rfl) ?_
  show pk fx (px_body pm_X9_attempt) (d + 1) Q al (n) (g0) (sc) (ar) (.null) (tf) 0 [.ref (al 0), .int (nI t), .int (nI l), .int hd, .float 0, .float 0, .float 0, .float 0, .float 0] [] 0 0
  refine pk_aload_n dX9_attempt_0 rfl rfl ?_
  refine pk_iload_n dX9_attempt_1 rfl ?_
  refine pk_kV (c := 0) (As := [.int (nI t)]) dX9_attempt_2 cl_X9_134 (by decide) rfl rfl rfl (Nat.le_of_ble_eq_true rfl) (Nat.le_of_ble_eq_true rfl) (Nat.le_of_ble_eq_true rfl) ?_
  refine kp_taskAt_ok (d := d) hT hTT ht e1 (kq_aft ?_)
  refine pk_astore dX9_attempt_5 (Nat.le_of_ble_eq_true rfl) rfl ?_
  refine pk_aload_n dX9_attempt_7 rfl rfl ?_
  refine pk_iload_n dX9_attempt_8 rfl ?_
  refine pk_kV (c := 0) (As := [.int (nI l)]) dX9_attempt_9 cl_X9_142 (by decide) rfl rfl rfl (Nat.le_of_ble_eq_true rfl) (Nat.le_of_ble_eq_true rfl) (Nat.le_of_ble_eq_true rfl) ?_
  refine kp_learnerAt_ok (d := d) hl (kq_aft ?_)
  refine pk_astore dX9_attempt_12 (Nat.le_of_ble_eq_true rfl) rfl ?_
  refine pk_aload_n dX9_attempt_14 rfl rfl ?_
  refine pk_kV (c := 0) (As := []) dX9_attempt_15 cl_X9_94 (by decide) rfl rfl rfl (Nat.le_of_ble_eq_true rfl) (Nat.le_of_ble_eq_true rfl) (Nat.le_of_ble_eq_true rfl) ?_
  exact kp_slate_bad (d := d) (kq_exc rfl hQ)
