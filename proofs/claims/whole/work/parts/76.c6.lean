set_option maxHeartbeats 4000000 in
set_option maxRecDepth 20000 in
theorem xk_expr0 {T : Nat → Int32} {N : Nat} {sc0 ar0 : Nat → Nat → Int32} {sl : Value} {tf : Nat → Option Nat} {f : Nat} (hT : xT T N ar0) (H : xH T N sc0 ar0 sl tf f (2 * f + 5)) {f1 : Nat} (hf : f1 ≤ f) {dp : Nat} {i p : Nat} {b : Bool} {j : Nat} {sc ar : Nat → Nat → Int32} (hX : XT T N sc0 ar0 i p sc ar) (hp : p ≤ i) (hd : dp ≤ 10) (h : pP T (f1 + 1) 3 dp i = some (b, j)) : CP (2 * f + 7) 28 (fun al => [.ref (al 3), .int (nI 0), .int (nI dp)]) noD sc ar sl tf (xQ T N sc0 ar0 (f1 + 1) 3 dp false i p b j ar) := by
  refine CP.of pm_X3_expression rfl (fun _ => rfl) (fun _ => Nat.le_of_ble_eq_true rfl) ?_
  intro fx al n g0 Q hn36 _ hQ
  show pc fx (px_body pm_X3_expression) (2 * f + 6) Q al n g0 sc ar sl tf 0 [.ref (al 3), .int (nI 0), .int (nI dp), .float 0, .float 0, .float 0, .float 0] []
  have hN := hT.1
  have hi := hX.2.2.1
  rw [pP] at h
  obtain ⟨y, hy, h⟩ : ∃ y : Bool × Nat, pP T f1 4 dp i = some (y.1, y.2) ∧ (if y.1 = false then some (false, y.2) else if T y.2 = nI 60 then pP T f1 4 dp (y.2 + 1) else some (true, y.2)) = some (b, j) := by
    cases hz : pP T f1 4 dp i with
    | none => rw [hz] at h; cases h
    | some y => rw [hz, Option.bind_some] at h; exact ⟨y, rfl, h⟩
  refine pc_iload_n dX3_expression_0 rfl ?_
  refine pc_iconst dX3_expression_1 (show Int32.ofInt (2) = (2) by decide) ?_
  refine pc_icmp_le (tgt := 11) dX3_expression_2 (by decide) (fun c2 => ?_) (fun c2 => absurd (by decide) c2)
  refine pc_aload_n dX3_expression_11 rfl rfl ?_
  refine pc_iload_n dX3_expression_12 rfl ?_
  refine pc_iconst dX3_expression_13 (show Int32.ofInt (1) = (1) by decide) ?_
  refine pc_iadd dX3_expression_14 ?_
  rw [show nI 0 + 1 = nI 1 from nI_1 0]
  refine pc_iload_n dX3_expression_15 rfl ?_
  refine pc_call (c := 3) (As := fun al => [.int (nI 1), .int (nI dp)]) dX3_expression_16 cl_X3_67 (by decide) rfl ((H.2.2.2 f1 hf 1 (by decide) dp i p y.1 y.2 _ _ hX hp hd hy).le (by omega)) (fun _ _ => trivial) rfl rfl (Nat.le_of_ble_eq_true rfl) ⟨rfl, rfl⟩ (fun res scE arE hn => ?_)
  obtain ⟨rfl, p2, hX2, hok⟩ := hn
  refine pc_istore_n dX3_expression_19 (Nat.le_of_ble_eq_true rfl) ?_
  refine pc_iload_n dX3_expression_20 rfl ?_
  refine pc_if_ne (tgt := 28) dX3_expression_21 (by decide) (fun c21 => absurd c21 (fun z => z (by decide))) (fun c21 => ?_)
  refine pc_iconst dX3_expression_24 (show Int32.ofInt (1) = (1) by decide) ?_
  refine pc_goto (tgt := 30) dX3_expression_25 (by decide) ?_
  refine pc_istore dX3_expression_30 (Nat.le_of_ble_eq_true rfl) ?_
  refine pc_iconst dX3_expression_32 (show Int32.ofInt (0) = (0) by decide) ?_
  refine pc_istore dX3_expression_33 (Nat.le_of_ble_eq_true rfl) ?_
  cases hb : y.1
  · rw [hb] at h hok
    rw [if_pos rfl] at h
    cases h
    refine (?_ : pc fx (px_body pm_X3_expression) (2 * f + 6) Q al n g0 _ _ sl tf 35 [.ref (al 3), .int (nI 0), .int (nI dp), .int 0, .int 1, .int 0, .float 0] [])
    refine pc_iload dX3_expression_35 rfl ?_
    refine pc_iload dX3_expression_37 rfl ?_
    refine pc_icmp_ge (tgt := 110) dX3_expression_39 (by decide) (fun c39 => absurd c39 (by decide)) (fun c39 => ?_)
    refine pc_iload_n dX3_expression_42 rfl ?_
    refine pc_if_eq (tgt := 110) dX3_expression_43 (by decide) (fun _ => ?_) (fun c43 => absurd c43 (by decide))
    refine pc_iload_n dX3_expression_110 rfl ?_
    exact pc_iret hQ dX3_expression_111 rfl rfl ⟨rfl, p2, hX2, fun z => by cases z⟩
  · obtain ⟨e1, e2, e3⟩ := hok hb
    have e1 : p2 = p + nO T f1 4 dp false i := e1
    have e3 : Cd T (arE 7) (arE 8) f1 4 dp false none i p := e3
    rw [hb, if_neg (by decide)] at h
    have hyt : pP T f1 4 dp i = some (true, y.2) := by rw [hy, hb]
    have hle := (nO_le f1 4 dp false i y.2 (by decide) hyt).1
    rw [if_neg (by decide), if_neg (by decide)] at hle
    have hyl := (pP_lt _ _ _ _ _ (by decide) hyt).1
    have hi2 := hX2.2.2.1
    refine (?_ : pc fx (px_body pm_X3_expression) (2 * f + 6) Q al n g0 scE arE sl tf 35 [.ref (al 3), .int (nI 0), .int (nI dp), .int 1, .int 1, .int 0, .float 0] [])
    refine pc_iload dX3_expression_35 rfl ?_
    refine pc_iload dX3_expression_37 rfl ?_
    refine pc_icmp_ge (tgt := 110) dX3_expression_39 (by decide) (fun c39 => absurd c39 (by decide)) (fun c39 => ?_)
    refine pc_iload_n dX3_expression_42 rfl ?_
    refine pc_if_eq (tgt := 110) dX3_expression_43 (by decide) (fun c43 => absurd c43 (by decide)) (fun _ => ?_)
    refine pc_aload_n dX3_expression_46 rfl rfl ?_
    refine pc_call (c := 3) (As := fun al => []) dX3_expression_47 cl_X3_40 (by decide) rfl (cp_here (2 * f + 5) hT hX2) (fun _ _ => trivial) rfl rfl (Nat.le_of_ble_eq_true rfl) ⟨rfl, rfl⟩ (fun res sc2 ar2 hn => ?_)
    obtain ⟨rfl, h91, h92⟩ := hn
    subst sc2
    subst ar2
    refine pc_callSCN dX3_expression_50 cl_X3_86 (rc_lvlOf (2 * f + 5) _) rfl rfl (Nat.le_of_ble_eq_true rfl) ⟨rfl, rfl⟩ ?_
    refine pc_iload_n dX3_expression_53 rfl ?_
    refine pc_icmp_ne (tgt := 110) dX3_expression_54 (by decide) (fun c54 => ?_) (fun c54 => ?_)
    ·
      refine pc_iload_n dX3_expression_110 rfl ?_
      have hno : ¬ T y.2 = nI 60 := fun z => c54 (lv0.mpr z)
      rw [if_neg hno] at h
      cases h
      refine pc_iret hQ dX3_expression_111 rfl rfl ⟨rfl, p2, hX2, fun _ => ⟨?_, e2, ?_⟩⟩
      · show p2 = p + nO T (f1 + 1) 3 dp false i
        rw [nO, pE_of hyt, if_neg hno]; exact e1
      · show Cd T (arE 7) (arE 8) (f1 + 1) 3 dp false none i p
        rw [Cd, pE_of hyt]
        exact ⟨e3, fun z => absurd z hno⟩
    ·
      have c549 : T y.2 = nI 60 := lv0.mp c54
      rw [if_pos c549] at h
      have hlt := hX2.lt hT (lit_pos c549 (by decide) (by decide)).1 (lit_pos c549 (by decide) (by decide)).2
      refine pc_aload_n dX3_expression_57 rfl rfl ?_
      refine pc_call (c := 3) (As := fun al => []) dX3_expression_58 cl_X3_40 (by decide) rfl (cp_here (2 * f + 5) hT hX2) (fun _ _ => trivial) rfl rfl (Nat.le_of_ble_eq_true rfl) ⟨rfl, rfl⟩ (fun res sc2 ar2 hn => ?_)
      obtain ⟨rfl, h91, h92⟩ := hn
      subst sc2
      subst ar2
      refine pc_istore dX3_expression_61 (Nat.le_of_ble_eq_true rfl) ?_
      refine pc_aload_n dX3_expression_63 rfl rfl ?_
      refine pc_dup dX3_expression_64 rfl ?_
      refine pc_getS (c := 3) (v := (nI (y.2))) dX3_expression_65 fk_X3_33 (by decide) rfl rfl hX2.2.1 ?_
      refine pc_iconst dX3_expression_68 (show Int32.ofInt (1) = (1) by decide) ?_
      refine pc_iadd dX3_expression_69 ?_
      rw [nI_1]
      refine pc_put (c := 3) dX3_expression_70 fk_X3_33 (by decide) rfl rfl ⟨_, _, _, rfl, rfl⟩ rfl rfl ?_
      refine pc_aload_n dX3_expression_73 rfl rfl ?_
      refine pc_iload_n dX3_expression_74 rfl ?_
      refine pc_iconst dX3_expression_75 (show Int32.ofInt (1) = (1) by decide) ?_
      refine pc_iadd dX3_expression_76 ?_
      rw [nI_1]
      refine pc_iload_n dX3_expression_77 rfl ?_
      refine pc_call (c := 3) (As := fun al => [.int (nI 1), .int (nI dp)]) dX3_expression_78 cl_X3_67 (by decide) rfl (CP.le (d2 := 2 * f + 6) (H.2.2.2 f1 hf 1 (by decide) dp (y.2 + 1) p2 b j _ _ (hX2.at (i2 := y.2 + 1) (by omega)) (by omega) hd h) (by omega)) (fun _ _ => trivial) rfl rfl (Nat.le_of_ble_eq_true rfl) ⟨rfl, rfl⟩ (fun res scG arG hn => ?_)
      obtain ⟨rfl, p3, hX3, hok3⟩ := hn
      refine pc_if_eq (tgt := 102) dX3_expression_81 (by decide) (fun c81 => ?_) (fun c81 => ?_)
      ·
        refine pc_iconst dX3_expression_102 (show Int32.ofInt (0) = (0) by decide) ?_
        refine pc_istore_n dX3_expression_103 (Nat.le_of_ble_eq_true rfl) ?_
        refine pc_iinc dX3_expression_104 rfl (show Int32.ofInt (1) = (1) by decide) ?_
        refine pc_goto (tgt := 35) dX3_expression_107 (by decide) ?_
        have hbz : b = false := zB_0.mp c81
        refine (?_ : pc fx (px_body pm_X3_expression) (2 * f + 6) Q al n g0 _ _ sl tf 35 [.ref (al 3), .int (nI 0), .int (nI dp), .int 0, .int 1, .int (nI 1), .int (T y.2)] [])
        refine pc_iload dX3_expression_35 rfl ?_
        refine pc_iload dX3_expression_37 rfl ?_
        refine pc_icmp_ge (tgt := 110) dX3_expression_39 (by decide) (fun c39 => ?_) (fun c39 => absurd (by decide) c39)
        refine pc_iload_n dX3_expression_110 rfl ?_
        exact pc_iret hQ dX3_expression_111 rfl rfl ⟨by rw [hbz]; rfl, p3, hX3, fun z => by rw [hbz] at z; cases z⟩
      ·
        have hbt : b = true := zB_n0 c81
        obtain ⟨g1, g2, g3⟩ := hok3 hbt
        have g1 : p3 = p2 + nO T f1 4 dp false (y.2 + 1) := g1
        have g3 : Cd T (arG 7) (arG 8) f1 4 dp false none (y.2 + 1) p2 := g3
        have hle2 := (nO_le f1 4 dp false (y.2 + 1) j (by decide) (hbt ▸ h)).1
        rw [if_neg (by decide), if_neg (by decide)] at hle2
        have hi3 := hX3.2.2.1
        refine pc_aload_n dX3_expression_84 rfl rfl ?_
        refine pc_iload dX3_expression_85 rfl ?_
        refine pc_iload dX3_expression_87 rfl ?_
        refine pc_callSCN dX3_expression_89 cl_X3_89 (rc_sklOf (2 * f + 5) _) rfl rfl (Nat.le_of_ble_eq_true rfl) ⟨rfl, rfl⟩ ?_
        refine pc_call (c := 3) (As := fun al => [.int (T y.2), .int (sklOf (T y.2))]) dX3_expression_92 cl_X3_44 (by decide) rfl (cp_emit (2 * f + 5) hT hX3 (T y.2) (sklOf (T y.2)) (by omega)) (fun _ _ => trivial) rfl rfl (Nat.le_of_ble_eq_true rfl) ⟨rfl, rfl⟩ (fun res sc2 ar2 hn => ?_)
        obtain ⟨rfl, hX4, h7, h8⟩ := hn
        refine pc_if_eq (tgt := 102) dX3_expression_95 (by decide) (fun c95 => absurd c95 (by decide)) (fun _ => ?_)
        refine pc_iconst dX3_expression_98 (show Int32.ofInt (1) = (1) by decide) ?_
        refine pc_goto (tgt := 103) dX3_expression_99 (by decide) ?_
        refine pc_istore_n dX3_expression_103 (Nat.le_of_ble_eq_true rfl) ?_
        refine pc_iinc dX3_expression_104 rfl (show Int32.ofInt (1) = (1) by decide) ?_
        refine pc_goto (tgt := 35) dX3_expression_107 (by decide) ?_
        refine (?_ : pc fx (px_body pm_X3_expression) (2 * f + 6) Q al n g0 _ _ sl tf 35 [.ref (al 3), .int (nI 0), .int (nI dp), .int 1, .int 1, .int (nI 1), .int (T y.2)] [])
        refine pc_iload dX3_expression_35 rfl ?_
        refine pc_iload dX3_expression_37 rfl ?_
        refine pc_icmp_ge (tgt := 110) dX3_expression_39 (by decide) (fun c39 => ?_) (fun c39 => absurd (by decide) c39)
        refine pc_iload_n dX3_expression_110 rfl ?_
        refine pc_iret hQ dX3_expression_111 rfl rfl ⟨by rw [hbt]; rfl, p3 + 1, hX4, fun _ => ⟨?_, fun x hx => ?_, ?_⟩⟩
        · show p3 + 1 = p + nO T (f1 + 1) 3 dp false i
          rw [nO, pE_of hyt, if_pos c549, g1, e1]; omega
        · exact ⟨by rw [h7, pk_un (by omega)]; exact (g2 x (by omega)).1.trans (e2 x hx).1, by rw [h8, pk_un (by omega)]; exact (g2 x (by omega)).2.trans (e2 x hx).2⟩
        · show Cd T (ar2 7) (ar2 8) (f1 + 1) 3 dp false none i p
          have hk : ∀ x, x ≠ p3 → ar2 7 x = arG 7 x ∧ ar2 8 x = arG 8 x := fun x hne => ⟨by rw [h7, pk_un hne], by rw [h8, pk_un hne]⟩
          rw [Cd, pE_of hyt]
          refine ⟨Cd_cong f1 4 dp false none i y.2 p (by decide) hyt (fun x a b => ⟨(hk x (by simp only [Option.isSome] at b; omega)).1.trans (g2 x (by simp only [Option.isSome] at b; omega)).1, (hk x (by simp only [Option.isSome] at b; omega)).2.trans (g2 x (by simp only [Option.isSome] at b; omega)).2⟩) e3, fun _ => ⟨?_, ?_, ?_⟩⟩
          · rw [← e1]
            exact Cd_cong f1 4 dp false none (y.2 + 1) j p2 (by decide) (hbt ▸ h) (fun x a b => hk x (by simp only [Option.isSome] at b; omega)) g3
          · rw [← e1, ← g1, h7, pk_us]; exact c549
          · rw [← e1, ← g1, h8, pk_us, c549]; decide
set_option maxHeartbeats 4000000 in
set_option maxRecDepth 20000 in
theorem xk_braced {T : Nat → Int32} {N : Nat} {sc0 ar0 : Nat → Nat → Int32} {sl : Value} {tf : Nat → Option Nat} {f : Nat} (hT : xT T N ar0) (H : xH T N sc0 ar0 sl tf f (2 * f + 5)) {f1 : Nat} (hf : f1 ≤ f) {dp : Nat} {lp : Bool} {i p : Nat} {b : Bool} {j : Nat} {sc ar : Nat → Nat → Int32} (hX : XT T N sc0 ar0 i p sc ar) (hp : p ≤ i + 1) (hd : dp ≤ 10) (h : pP T (f1 + 1) 2 dp i = some (b, j)) : CP (2 * f + 6) 27 (fun al => [.ref (al 3), .int (nI dp), .int (zB lp)]) noD sc ar sl tf (xQ T N sc0 ar0 (f1 + 1) 2 dp lp i p b j ar) := by
  refine CP.of pm_X3_braced rfl (fun _ => rfl) (fun _ => Nat.le_of_ble_eq_true rfl) ?_
  intro fx al n g0 Q hn36 _ hQ
  show pc fx (px_body pm_X3_braced) (2 * f + 5) Q al n g0 sc ar sl tf 0 [.ref (al 3), .int (nI dp), .int (zB lp)] []
  have hN := hT.1
  have hi := hX.2.2.1
  rw [pP] at h
  refine pc_iload_n dX3_braced_0 rfl ?_
  refine pc_bipush dX3_braced_1 (show (Int8.ofInt (10)).toInt32 = (10) by decide) ?_
  refine pc_icmp_ge (tgt := 39) dX3_braced_3 (by decide) (fun c3 => ?_) (fun c3 => ?_)
  ·
    have c39 := Int32.not_lt.mpr c3
    refine pc_iconst dX3_braced_39 (show Int32.ofInt (0) = (0) by decide) ?_
    rw [if_neg (fun z => absurd ((nI_leI (a := 10) (b := dp) (by decide) (by omega)).mp c3) (by omega))] at h
    cases h
    exact pc_iret hQ dX3_braced_40 rfl rfl ⟨rfl, p, hX, fun z => by cases z⟩
  ·
    have c39 := Int32.not_le.mp c3
    refine pc_aload_n dX3_braced_6 rfl rfl ?_
    refine pc_bipush dX3_braced_7 (show (Int8.ofInt (123)).toInt32 = (123) by decide) ?_
    refine pc_call (c := 3) (As := fun al => [.int (nI 123)]) dX3_braced_9 cl_X3_63 (by decide) rfl (cp_take (2 * f + 4) hT hX (c := 123) (by decide) (by decide)) (fun _ _ => trivial) rfl rfl (Nat.le_of_ble_eq_true rfl) ⟨rfl, rfl⟩ (fun res sc2 ar2 hn => ?_)
    rcases hn with ⟨ht, rfl, hlt, hX1, rfl⟩ | ⟨ht, rfl, rfl, rfl⟩
    ·
      refine pc_if_eq (tgt := 39) dX3_braced_12 (by decide) (fun c12 => absurd c12 (by decide)) (fun _ => ?_)
      have hd9 : dp < 10 := by
        have := Int32.not_le.mp c3
        exact (nI_ltI (a := dp) (b := 10) (by omega) (by decide)).mp this
      rw [if_pos ⟨ht, hd9⟩] at h
      obtain ⟨q, hq, h⟩ : ∃ q : Bool × Nat, pP T f1 0 (dp + 1) (i + 1) = some (q.1, q.2) ∧ (if q.1 = false then some (false, q.2) else if T q.2 = nI 125 then some (true, q.2 + 1) else some (false, q.2)) = some (b, j) := by
        cases hz : pP T f1 0 (dp + 1) (i + 1) with
        | none => rw [hz] at h; cases h
        | some q => rw [hz, Option.bind_some] at h; exact ⟨q, rfl, h⟩
      refine pc_aload_n dX3_braced_15 rfl rfl ?_
      refine pc_iload_n dX3_braced_16 rfl ?_
      refine pc_iconst dX3_braced_17 (show Int32.ofInt (1) = (1) by decide) ?_
      refine pc_iadd dX3_braced_18 ?_
      rw [nI_1]
      refine pc_iload_n dX3_braced_19 rfl ?_
      refine pc_call (c := 3) (As := fun al => [.int (nI (dp + 1)), .int (zB lp)]) dX3_braced_20 cl_X3_36 (by decide) rfl (H.1 f1 hf (dp + 1) lp (i + 1) p q.1 q.2 _ _ hX1 (by omega) (by omega) hq) (fun _ _ => trivial) rfl rfl (Nat.le_of_ble_eq_true rfl) ⟨rfl, rfl⟩ (fun res sc2 ar2 hn => ?_)
      obtain ⟨rfl, p2, hX2, hok⟩ := hn
      refine pc_if_eq (tgt := 39) dX3_braced_23 (by decide) (fun c23 => ?_) (fun c23 => ?_)
      ·
        refine pc_iconst dX3_braced_39 (show Int32.ofInt (0) = (0) by decide) ?_
        have hb : q.1 = false := zB_0.mp c23
        rw [if_pos hb] at h
        cases h
        exact pc_iret hQ dX3_braced_40 rfl rfl ⟨rfl, p2, hX2, fun z => by cases z⟩
      ·
        have hb : q.1 = true := zB_n0 c23
        rw [if_neg (by rw [hb]; decide)] at h
        refine pc_aload_n dX3_braced_26 rfl rfl ?_
        refine pc_bipush dX3_braced_27 (show (Int8.ofInt (125)).toInt32 = (125) by decide) ?_
        refine pc_call (c := 3) (As := fun al => [.int (nI 125)]) dX3_braced_29 cl_X3_63 (by decide) rfl (cp_take (2 * f + 4) hT hX2 (c := 125) (by decide) (by decide)) (fun _ _ => trivial) rfl rfl (Nat.le_of_ble_eq_true rfl) ⟨rfl, rfl⟩ (fun res sc2 ar2 hn => ?_)
        rcases hn with ⟨ht2, rfl, hlt2, hX3, rfl⟩ | ⟨ht2, rfl, rfl, rfl⟩
        ·
          refine pc_if_eq (tgt := 39) dX3_braced_32 (by decide) (fun c32 => absurd c32 (by decide)) (fun _ => ?_)
          refine pc_iconst dX3_braced_35 (show Int32.ofInt (1) = (1) by decide) ?_
          refine pc_goto (tgt := 40) dX3_braced_36 (by decide) ?_
          rw [if_pos ht2] at h
          cases h
          obtain ⟨e1, e2, e3⟩ := hok hb
          refine pc_iret hQ dX3_braced_40 rfl rfl ⟨rfl, p2, hX3, fun _ => ⟨by rw [nO]; exact e1, e2, ?_⟩⟩
          rw [Cd]
          exact e3
        ·
          refine pc_if_eq (tgt := 39) dX3_braced_32 (by decide) (fun _ => ?_) (fun c32 => absurd c32 (by decide))
          refine pc_iconst dX3_braced_39 (show Int32.ofInt (0) = (0) by decide) ?_
          rw [if_neg ht2] at h
          cases h
          exact pc_iret hQ dX3_braced_40 rfl rfl ⟨rfl, p2, hX2, fun z => by cases z⟩
    ·
      refine pc_if_eq (tgt := 39) dX3_braced_12 (by decide) (fun _ => ?_) (fun c12 => absurd c12 (by decide))
      refine pc_iconst dX3_braced_39 (show Int32.ofInt (0) = (0) by decide) ?_
      rw [if_neg (fun z => ht z.1)] at h
      cases h
      exact pc_iret hQ dX3_braced_40 rfl rfl ⟨rfl, p, hX, fun z => by cases z⟩
set_option maxHeartbeats 4000000 in
set_option maxRecDepth 20000 in
theorem xk_loop {T : Nat → Int32} {N : Nat} {sc0 ar0 : Nat → Nat → Int32} {sl : Value} {tf : Nat → Option Nat} {f : Nat} (hT : xT T N ar0) (H : xH T N sc0 ar0 sl tf f (2 * f + 5)) {f1 : Nat} (hf : f1 ≤ f) {dp : Nat} {lp : Bool} {i p : Nat} {b : Bool} {j : Nat} {sc ar : Nat → Nat → Int32} (hX : XT T N sc0 ar0 (i + 1) p sc ar) (hp : p ≤ i) (hd : dp ≤ 10) (hti : T i = nI 256) (h : (pP T f1 3 dp (i + 1)).bind (fun q => if q.1 = false then some (false, q.2) else (pP T f1 2 dp q.2).bind (fun w => if w.1 = false then some (false, w.2) else if T i = nI 257 ∧ T w.2 = nI 258 then pP T f1 2 dp (w.2 + 1) else some (true, w.2))) = some (b, j)) : CP (2 * f + 6) 25 (fun al => [.ref (al 3), .int (nI dp), .int (zB lp)]) noD sc ar sl tf (xQ T N sc0 ar0 (f1 + 1) 1 dp lp i p b j ar) := by
  refine CP.of pm_X3_loop rfl (fun _ => rfl) (fun _ => Nat.le_of_ble_eq_true rfl) ?_
  intro fx al n g0 Q hn36 _ hQ
  show pc fx (px_body pm_X3_loop) (2 * f + 5) Q al n g0 sc ar sl tf 0 [.ref (al 3), .int (nI dp), .int (zB lp), .float 0, .float 0] []
  have hN := hT.1
  have hi := hX.2.2.1
  have hnv : ¬ isVar (T i) = true := by rw [hti]; decide
  obtain ⟨q, hq, h⟩ : ∃ q : Bool × Nat, pP T f1 3 dp (i + 1) = some (q.1, q.2) ∧ (if q.1 = false then some (false, q.2) else (pP T f1 2 dp q.2).bind (fun w => if w.1 = false then some (false, w.2) else if T i = nI 257 ∧ T w.2 = nI 258 then pP T f1 2 dp (w.2 + 1) else some (true, w.2))) = some (b, j) := by
    cases hz : pP T f1 3 dp (i + 1) with
    | none => rw [hz] at h; cases h
    | some q => rw [hz, Option.bind_some] at h; exact ⟨q, rfl, h⟩
  refine pc_aload_n dX3_loop_0 rfl rfl ?_
  refine pc_getS (c := 3) (v := (nI (p))) dX3_loop_1 fk_X3_29 (by decide) rfl rfl hX.2.2.2.1 ?_
  refine pc_istore_n dX3_loop_4 (Nat.le_of_ble_eq_true rfl) ?_
  refine pc_aload_n dX3_loop_5 rfl rfl ?_
  refine pc_iconst dX3_loop_6 (show Int32.ofInt (4) = (4) by decide) ?_
  refine pc_iload_n dX3_loop_7 rfl ?_
  refine pc_if_eq (tgt := 17) dX3_loop_8 (by decide) (fun c8 => ?_) (fun c8 => ?_)
  ·
    refine pc_bipush dX3_loop_17 (show (Int8.ofInt (64)).toInt32 = (64) by decide) ?_
    refine pc_call (c := 3) (As := fun al => [.int (4), .int (64)]) dX3_loop_19 cl_X3_44 (by decide) rfl (cp_emit (2 * f + 4) hT hX (4) (64) (by omega)) (fun _ _ => trivial) rfl rfl (Nat.le_of_ble_eq_true rfl) ⟨rfl, rfl⟩ (fun res scA arA hn => ?_)
    obtain ⟨rfl, hXA, h7A, h8A⟩ := hn
    refine pc_pop dX3_loop_22 rfl ?_
    refine pc_aload_n dX3_loop_23 rfl rfl ?_
    refine pc_iconst dX3_loop_24 (show Int32.ofInt (0) = (0) by decide) ?_
    refine pc_iload_n dX3_loop_25 rfl ?_
    refine pc_call (c := 3) (As := fun al => [.int (nI 0), .int (nI dp)]) dX3_loop_26 cl_X3_67 (by decide) rfl (H.2.2.2 f1 hf 0 (by decide) dp (i + 1) (p + 1) q.1 q.2 _ _ hXA (by omega) hd hq) (fun _ _ => trivial) rfl rfl (Nat.le_of_ble_eq_true rfl) ⟨rfl, rfl⟩ (fun res scE arE hn => ?_)
    obtain ⟨rfl, p2, hX2, hok⟩ := hn
    refine pc_if_ne (tgt := 34) dX3_loop_29 (by decide) (fun c29 => ?_) (fun c29 => ?_)
    ·
      have hb : q.1 = true := zB_n0 c29
      rw [if_neg (by rw [hb]; decide)] at h
      obtain ⟨w, hw, h⟩ : ∃ w : Bool × Nat, pP T f1 2 dp q.2 = some (w.1, w.2) ∧ (if w.1 = false then some (false, w.2) else if T i = nI 257 ∧ T w.2 = nI 258 then pP T f1 2 dp (w.2 + 1) else some (true, w.2)) = some (b, j) := by
        cases hz : pP T f1 2 dp q.2 with
        | none => rw [hz] at h; cases h
        | some w => rw [hz, Option.bind_some] at h; exact ⟨w, rfl, h⟩
      obtain ⟨e1, e2, e3⟩ := hok hb
      have e1 : p2 = p + 1 + nO T f1 3 dp false (i + 1) := e1
      have e3 : Cd T (arE 7) (arE 8) f1 3 dp false none (i + 1) (p + 1) := e3
      have hqt : pP T f1 3 dp (i + 1) = some (true, q.2) := by rw [hq, hb]
      have hle := (nO_le f1 3 dp false (i + 1) q.2 (by decide) hqt).1
      rw [if_neg (by decide), if_neg (by decide)] at hle
      have hql := (pP_lt _ _ _ _ _ (by decide) hqt).1
      have hiq := hX2.2.2.1
      refine pc_aload_n dX3_loop_34 rfl rfl ?_
      refine pc_getS (c := 3) (v := (nI (p2))) dX3_loop_35 fk_X3_29 (by decide) rfl rfl hX2.2.2.2.1 ?_
      refine pc_istore dX3_loop_38 (Nat.le_of_ble_eq_true rfl) ?_
      refine pc_aload_n dX3_loop_40 rfl rfl ?_
      refine pc_iconst dX3_loop_41 (show Int32.ofInt (5) = (5) by decide) ?_
      refine pc_iconst dX3_loop_42 (show Int32.ofInt (0) = (0) by decide) ?_
      refine pc_call (c := 3) (As := fun al => [.int (5), .int (0)]) dX3_loop_43 cl_X3_44 (by decide) rfl (cp_emit (2 * f + 4) hT hX2 (5) (0) (by omega)) (fun _ _ => trivial) rfl rfl (Nat.le_of_ble_eq_true rfl) ⟨rfl, rfl⟩ (fun res scB arB hn => ?_)
      obtain ⟨rfl, hXB, h7B, h8B⟩ := hn
      refine pc_pop dX3_loop_46 rfl ?_
      refine pc_aload_n dX3_loop_47 rfl rfl ?_
      refine pc_iload_n dX3_loop_48 rfl ?_
      refine pc_iconst dX3_loop_49 (show Int32.ofInt (1) = (1) by decide) ?_
      refine pc_call (c := 3) (As := fun al => [.int (nI dp), .int (zB true)]) dX3_loop_50 cl_X3_76 (by decide) rfl (H.2.2.1 f1 hf dp true q.2 (p2 + 1) w.1 w.2 _ _ hXB (by omega) hd hw) (fun _ _ => trivial) rfl rfl (Nat.le_of_ble_eq_true rfl) ⟨rfl, rfl⟩ (fun res scF arF hn => ?_)
      obtain ⟨rfl, p3, hX3, hok2⟩ := hn
      refine pc_if_ne (tgt := 58) dX3_loop_53 (by decide) (fun c53 => ?_) (fun c53 => ?_)
      ·
        have hb2 : w.1 = true := zB_n0 c53
        obtain ⟨g1, g2, g3⟩ := hok2 hb2
        have g1 : p3 = p2 + 1 + nO T f1 2 dp false q.2 := g1
        have g3 : Cd T (arF 7) (arF 8) f1 2 dp true none q.2 (p2 + 1) := g3
        have hwt : pP T f1 2 dp q.2 = some (true, w.2) := by rw [hw, hb2]
        have hle2 := (nO_le f1 2 dp false q.2 w.2 (by decide) hwt).1
        rw [if_pos rfl, if_neg (by decide)] at hle2
        have hwl := (pP_lt _ _ _ _ _ (by decide) hwt).1
        have hiw := hX3.2.2.1
        refine pc_aload_n dX3_loop_58 rfl rfl ?_
        refine pc_bipush dX3_loop_59 (show (Int8.ofInt (6)).toInt32 = (6) by decide) ?_
        refine pc_iload_n dX3_loop_61 rfl ?_
        refine pc_call (c := 3) (As := fun al => [.int (6), .int (nI p)]) dX3_loop_62 cl_X3_44 (by decide) rfl (cp_emit (2 * f + 4) hT hX3 (6) (nI p) (by omega)) (fun _ _ => trivial) rfl rfl (Nat.le_of_ble_eq_true rfl) ⟨rfl, rfl⟩ (fun res scC arC hn => ?_)
        obtain ⟨rfl, hXC, h7C, h8C⟩ := hn
        refine pc_pop dX3_loop_65 rfl ?_
        refine pc_aload_n dX3_loop_66 rfl rfl ?_
        refine pc_iload dX3_loop_67 rfl ?_
        refine pc_call (c := 3) (As := fun al => [.int (nI (p2))]) dX3_loop_69 cl_X3_79 (by decide) rfl (cp_aim (2 * f + 4) hT hXC (x := p2) (by omega)) (fun _ _ => trivial) rfl rfl (Nat.le_of_ble_eq_true rfl) ⟨rfl, rfl⟩ (fun res scD arD hn => ?_)
        obtain ⟨rfl, hXD, h7D, h8D⟩ := hn
        refine pc_iconst dX3_loop_72 (show Int32.ofInt (1) = (1) by decide) ?_
        rw [if_neg (by rw [hb2]; decide), if_neg (fun z => absurd (hti.symm.trans z.1) (by decide))] at h
        cases h
        refine pc_iret hQ dX3_loop_73 rfl rfl ⟨rfl, p3 + 1, hXD, fun _ => ⟨?_, fun x hx => ?_, ?_⟩⟩
        · rw [nO, if_neg hnv, if_pos hti, pE_of hqt, g1, e1]; omega
        · have a1 := e2 x (by omega)
          have a2 := g2 x (by omega)
          exact ⟨by rw [h7D, h7C, pk_un (by omega), a2.1, h7B, pk_un (by omega), a1.1, h7A, pk_un (by omega)], by rw [h8D, pk_un (by omega), h8C, pk_un (by omega), a2.2, h8B, pk_un (by omega), a1.2, h8A, pk_un (by omega)]⟩
        · have k7 : ∀ x, x < p3 → arD 7 x = arF 7 x := fun x hx => by rw [h7D, h7C, pk_un (by omega)]
          have k8 : ∀ x, x < p3 → x ≠ p2 → arD 8 x = arF 8 x := fun x hx hne => by rw [h8D, pk_un hne, h8C, pk_un (by omega)]
          have m7 : ∀ x, x < p2 → arD 7 x = arE 7 x := fun x hx => by rw [k7 x (by omega), (g2 x (by omega)).1, h7B, pk_un (by omega)]
          have m8 : ∀ x, x < p2 → arD 8 x = arE 8 x := fun x hx => by rw [k8 x (by omega) (by omega), (g2 x (by omega)).2, h8B, pk_un (by omega)]
          rw [Cd, pE_of hqt]
          refine ⟨fun z => absurd z hnv, fun _ => ⟨?_, ?_, ?_, ?_, ?_, ?_, ?_, ?_⟩, fun z => absurd (hti.symm.trans z) (by decide)⟩
          · rw [m7 p (by omega), (e2 p (by omega)).1, h7A, pk_us]
          · rw [m8 p (by omega), (e2 p (by omega)).2, h8A, pk_us]; rw [if_neg (by rw [zB_0.mp c8]; decide)]
          · exact Cd_cong f1 3 dp false none (i + 1) q.2 (p + 1) (by decide) hqt (fun x a b => ⟨m7 x (by simp only [Option.isSome] at b; omega), m8 x (by simp only [Option.isSome] at b; omega)⟩) e3
          · rw [← e1, k7 p2 (by omega), (g2 p2 (by omega)).1, h7B, pk_us]
          · rw [← e1, h8D, pk_us]; congr 1; omega
          · have e9 : p + 2 + nO T f1 3 dp false (i + 1) = p2 + 1 := by omega
            rw [e9]
            exact Cd_cong f1 2 dp true none q.2 w.2 (p2 + 1) (by decide) hwt (fun x a b => ⟨k7 x (by simp only [Option.isSome] at b; omega), k8 x (by simp only [Option.isSome] at b; omega) (by omega)⟩) g3
          · rw [show p + 2 + nO T f1 3 dp false (i + 1) + nO T f1 2 dp false q.2 = p3 from by omega, h7D, h7C, pk_us]
          · rw [show p + 2 + nO T f1 3 dp false (i + 1) + nO T f1 2 dp false q.2 = p3 from by omega, h8D, pk_un (by omega), h8C, pk_us]
      ·
        refine pc_iconst dX3_loop_56 (show Int32.ofInt (0) = (0) by decide) ?_
        have hb2 : w.1 = false := zB_0.mp c53
        rw [if_pos hb2] at h
        cases h
        exact pc_iret hQ dX3_loop_57 rfl rfl ⟨rfl, p3, hX3, fun z => by cases z⟩
    ·
      refine pc_iconst dX3_loop_32 (show Int32.ofInt (0) = (0) by decide) ?_
      have hb : q.1 = false := zB_0.mp c29
      rw [if_pos hb] at h
      cases h
      exact pc_iret hQ dX3_loop_33 rfl rfl ⟨rfl, p2, hX2, fun z => by cases z⟩
  ·
    refine pc_sipush dX3_loop_11 (show (Int16.ofInt (192)).toInt32 = (192) by decide) ?_
    refine pc_goto (tgt := 19) dX3_loop_14 (by decide) ?_
    refine pc_call (c := 3) (As := fun al => [.int (4), .int (192)]) dX3_loop_19 cl_X3_44 (by decide) rfl (cp_emit (2 * f + 4) hT hX (4) (192) (by omega)) (fun _ _ => trivial) rfl rfl (Nat.le_of_ble_eq_true rfl) ⟨rfl, rfl⟩ (fun res scA arA hn => ?_)
    obtain ⟨rfl, hXA, h7A, h8A⟩ := hn
    refine pc_pop dX3_loop_22 rfl ?_
    refine pc_aload_n dX3_loop_23 rfl rfl ?_
    refine pc_iconst dX3_loop_24 (show Int32.ofInt (0) = (0) by decide) ?_
    refine pc_iload_n dX3_loop_25 rfl ?_
    refine pc_call (c := 3) (As := fun al => [.int (nI 0), .int (nI dp)]) dX3_loop_26 cl_X3_67 (by decide) rfl (H.2.2.2 f1 hf 0 (by decide) dp (i + 1) (p + 1) q.1 q.2 _ _ hXA (by omega) hd hq) (fun _ _ => trivial) rfl rfl (Nat.le_of_ble_eq_true rfl) ⟨rfl, rfl⟩ (fun res scE arE hn => ?_)
    obtain ⟨rfl, p2, hX2, hok⟩ := hn
    refine pc_if_ne (tgt := 34) dX3_loop_29 (by decide) (fun c29 => ?_) (fun c29 => ?_)
    ·
      have hb : q.1 = true := zB_n0 c29
      rw [if_neg (by rw [hb]; decide)] at h
      obtain ⟨w, hw, h⟩ : ∃ w : Bool × Nat, pP T f1 2 dp q.2 = some (w.1, w.2) ∧ (if w.1 = false then some (false, w.2) else if T i = nI 257 ∧ T w.2 = nI 258 then pP T f1 2 dp (w.2 + 1) else some (true, w.2)) = some (b, j) := by
        cases hz : pP T f1 2 dp q.2 with
        | none => rw [hz] at h; cases h
        | some w => rw [hz, Option.bind_some] at h; exact ⟨w, rfl, h⟩
      obtain ⟨e1, e2, e3⟩ := hok hb
      have e1 : p2 = p + 1 + nO T f1 3 dp false (i + 1) := e1
      have e3 : Cd T (arE 7) (arE 8) f1 3 dp false none (i + 1) (p + 1) := e3
      have hqt : pP T f1 3 dp (i + 1) = some (true, q.2) := by rw [hq, hb]
      have hle := (nO_le f1 3 dp false (i + 1) q.2 (by decide) hqt).1
      rw [if_neg (by decide), if_neg (by decide)] at hle
      have hql := (pP_lt _ _ _ _ _ (by decide) hqt).1
      have hiq := hX2.2.2.1
      refine pc_aload_n dX3_loop_34 rfl rfl ?_
      refine pc_getS (c := 3) (v := (nI (p2))) dX3_loop_35 fk_X3_29 (by decide) rfl rfl hX2.2.2.2.1 ?_
      refine pc_istore dX3_loop_38 (Nat.le_of_ble_eq_true rfl) ?_
      refine pc_aload_n dX3_loop_40 rfl rfl ?_
      refine pc_iconst dX3_loop_41 (show Int32.ofInt (5) = (5) by decide) ?_
      refine pc_iconst dX3_loop_42 (show Int32.ofInt (0) = (0) by decide) ?_
      refine pc_call (c := 3) (As := fun al => [.int (5), .int (0)]) dX3_loop_43 cl_X3_44 (by decide) rfl (cp_emit (2 * f + 4) hT hX2 (5) (0) (by omega)) (fun _ _ => trivial) rfl rfl (Nat.le_of_ble_eq_true rfl) ⟨rfl, rfl⟩ (fun res scB arB hn => ?_)
      obtain ⟨rfl, hXB, h7B, h8B⟩ := hn
      refine pc_pop dX3_loop_46 rfl ?_
      refine pc_aload_n dX3_loop_47 rfl rfl ?_
      refine pc_iload_n dX3_loop_48 rfl ?_
      refine pc_iconst dX3_loop_49 (show Int32.ofInt (1) = (1) by decide) ?_
      refine pc_call (c := 3) (As := fun al => [.int (nI dp), .int (zB true)]) dX3_loop_50 cl_X3_76 (by decide) rfl (H.2.2.1 f1 hf dp true q.2 (p2 + 1) w.1 w.2 _ _ hXB (by omega) hd hw) (fun _ _ => trivial) rfl rfl (Nat.le_of_ble_eq_true rfl) ⟨rfl, rfl⟩ (fun res scF arF hn => ?_)
      obtain ⟨rfl, p3, hX3, hok2⟩ := hn
      refine pc_if_ne (tgt := 58) dX3_loop_53 (by decide) (fun c53 => ?_) (fun c53 => ?_)
      ·
        have hb2 : w.1 = true := zB_n0 c53
        obtain ⟨g1, g2, g3⟩ := hok2 hb2
        have g1 : p3 = p2 + 1 + nO T f1 2 dp false q.2 := g1
        have g3 : Cd T (arF 7) (arF 8) f1 2 dp true none q.2 (p2 + 1) := g3
        have hwt : pP T f1 2 dp q.2 = some (true, w.2) := by rw [hw, hb2]
        have hle2 := (nO_le f1 2 dp false q.2 w.2 (by decide) hwt).1
        rw [if_pos rfl, if_neg (by decide)] at hle2
        have hwl := (pP_lt _ _ _ _ _ (by decide) hwt).1
        have hiw := hX3.2.2.1
        refine pc_aload_n dX3_loop_58 rfl rfl ?_
        refine pc_bipush dX3_loop_59 (show (Int8.ofInt (6)).toInt32 = (6) by decide) ?_
        refine pc_iload_n dX3_loop_61 rfl ?_
        refine pc_call (c := 3) (As := fun al => [.int (6), .int (nI p)]) dX3_loop_62 cl_X3_44 (by decide) rfl (cp_emit (2 * f + 4) hT hX3 (6) (nI p) (by omega)) (fun _ _ => trivial) rfl rfl (Nat.le_of_ble_eq_true rfl) ⟨rfl, rfl⟩ (fun res scC arC hn => ?_)
        obtain ⟨rfl, hXC, h7C, h8C⟩ := hn
        refine pc_pop dX3_loop_65 rfl ?_
        refine pc_aload_n dX3_loop_66 rfl rfl ?_
        refine pc_iload dX3_loop_67 rfl ?_
        refine pc_call (c := 3) (As := fun al => [.int (nI (p2))]) dX3_loop_69 cl_X3_79 (by decide) rfl (cp_aim (2 * f + 4) hT hXC (x := p2) (by omega)) (fun _ _ => trivial) rfl rfl (Nat.le_of_ble_eq_true rfl) ⟨rfl, rfl⟩ (fun res scD arD hn => ?_)
        obtain ⟨rfl, hXD, h7D, h8D⟩ := hn
        refine pc_iconst dX3_loop_72 (show Int32.ofInt (1) = (1) by decide) ?_
        rw [if_neg (by rw [hb2]; decide), if_neg (fun z => absurd (hti.symm.trans z.1) (by decide))] at h
        cases h
        refine pc_iret hQ dX3_loop_73 rfl rfl ⟨rfl, p3 + 1, hXD, fun _ => ⟨?_, fun x hx => ?_, ?_⟩⟩
        · rw [nO, if_neg hnv, if_pos hti, pE_of hqt, g1, e1]; omega
        · have a1 := e2 x (by omega)
          have a2 := g2 x (by omega)
          exact ⟨by rw [h7D, h7C, pk_un (by omega), a2.1, h7B, pk_un (by omega), a1.1, h7A, pk_un (by omega)], by rw [h8D, pk_un (by omega), h8C, pk_un (by omega), a2.2, h8B, pk_un (by omega), a1.2, h8A, pk_un (by omega)]⟩
        · have k7 : ∀ x, x < p3 → arD 7 x = arF 7 x := fun x hx => by rw [h7D, h7C, pk_un (by omega)]
          have k8 : ∀ x, x < p3 → x ≠ p2 → arD 8 x = arF 8 x := fun x hx hne => by rw [h8D, pk_un hne, h8C, pk_un (by omega)]
          have m7 : ∀ x, x < p2 → arD 7 x = arE 7 x := fun x hx => by rw [k7 x (by omega), (g2 x (by omega)).1, h7B, pk_un (by omega)]
          have m8 : ∀ x, x < p2 → arD 8 x = arE 8 x := fun x hx => by rw [k8 x (by omega) (by omega), (g2 x (by omega)).2, h8B, pk_un (by omega)]
          rw [Cd, pE_of hqt]
          refine ⟨fun z => absurd z hnv, fun _ => ⟨?_, ?_, ?_, ?_, ?_, ?_, ?_, ?_⟩, fun z => absurd (hti.symm.trans z) (by decide)⟩
          · rw [m7 p (by omega), (e2 p (by omega)).1, h7A, pk_us]
          · rw [m8 p (by omega), (e2 p (by omega)).2, h8A, pk_us]; rw [if_pos (zB_n0 c8)]
          · exact Cd_cong f1 3 dp false none (i + 1) q.2 (p + 1) (by decide) hqt (fun x a b => ⟨m7 x (by simp only [Option.isSome] at b; omega), m8 x (by simp only [Option.isSome] at b; omega)⟩) e3
          · rw [← e1, k7 p2 (by omega), (g2 p2 (by omega)).1, h7B, pk_us]
          · rw [← e1, h8D, pk_us]; congr 1; omega
          · have e9 : p + 2 + nO T f1 3 dp false (i + 1) = p2 + 1 := by omega
            rw [e9]
            exact Cd_cong f1 2 dp true none q.2 w.2 (p2 + 1) (by decide) hwt (fun x a b => ⟨k7 x (by simp only [Option.isSome] at b; omega), k8 x (by simp only [Option.isSome] at b; omega) (by omega)⟩) g3
          · rw [show p + 2 + nO T f1 3 dp false (i + 1) + nO T f1 2 dp false q.2 = p3 from by omega, h7D, h7C, pk_us]
          · rw [show p + 2 + nO T f1 3 dp false (i + 1) + nO T f1 2 dp false q.2 = p3 from by omega, h8D, pk_un (by omega), h8C, pk_us]
      ·
        refine pc_iconst dX3_loop_56 (show Int32.ofInt (0) = (0) by decide) ?_
        have hb2 : w.1 = false := zB_0.mp c53
        rw [if_pos hb2] at h
        cases h
        exact pc_iret hQ dX3_loop_57 rfl rfl ⟨rfl, p3, hX3, fun z => by cases z⟩
    ·
      refine pc_iconst dX3_loop_32 (show Int32.ofInt (0) = (0) by decide) ?_
      have hb : q.1 = false := zB_0.mp c29
      rw [if_pos hb] at h
      cases h
      exact pc_iret hQ dX3_loop_33 rfl rfl ⟨rfl, p2, hX2, fun z => by cases z⟩
set_option maxHeartbeats 4000000 in
set_option maxRecDepth 20000 in
theorem xk_choice {T : Nat → Int32} {N : Nat} {sc0 ar0 : Nat → Nat → Int32} {sl : Value} {tf : Nat → Option Nat} {f : Nat} (hT : xT T N ar0) (H : xH T N sc0 ar0 sl tf f (2 * f + 5)) {f1 : Nat} (hf : f1 ≤ f) {dp : Nat} {lp : Bool} {i p : Nat} {b : Bool} {j : Nat} {sc ar : Nat → Nat → Int32} (hX : XT T N sc0 ar0 (i + 1) p sc ar) (hp : p ≤ i) (hd : dp ≤ 10) (hti : T i = nI 257) (h : (pP T f1 3 dp (i + 1)).bind (fun q => if q.1 = false then some (false, q.2) else (pP T f1 2 dp q.2).bind (fun w => if w.1 = false then some (false, w.2) else if T i = nI 257 ∧ T w.2 = nI 258 then pP T f1 2 dp (w.2 + 1) else some (true, w.2))) = some (b, j)) : CP (2 * f + 6) 26 (fun al => [.ref (al 3), .int (nI dp), .int (zB lp)]) noD sc ar sl tf (xQ T N sc0 ar0 (f1 + 1) 1 dp lp i p b j ar) := by
  refine CP.of pm_X3_choice rfl (fun _ => rfl) (fun _ => Nat.le_of_ble_eq_true rfl) ?_
  intro fx al n g0 Q hn36 _ hQ
  show pc fx (px_body pm_X3_choice) (2 * f + 5) Q al n g0 sc ar sl tf 0 [.ref (al 3), .int (nI dp), .int (zB lp), .float 0, .float 0] []
  have hN := hT.1
  have hi := hX.2.2.1
  have hnv : ¬ isVar (T i) = true := by rw [hti]; decide
  obtain ⟨q, hq, h⟩ : ∃ q : Bool × Nat, pP T f1 3 dp (i + 1) = some (q.1, q.2) ∧ (if q.1 = false then some (false, q.2) else (pP T f1 2 dp q.2).bind (fun w => if w.1 = false then some (false, w.2) else if T i = nI 257 ∧ T w.2 = nI 258 then pP T f1 2 dp (w.2 + 1) else some (true, w.2))) = some (b, j) := by
    cases hz : pP T f1 3 dp (i + 1) with
    | none => rw [hz] at h; cases h
    | some q => rw [hz, Option.bind_some] at h; exact ⟨q, rfl, h⟩
  refine pc_aload_n dX3_choice_0 rfl rfl ?_
  refine pc_iconst dX3_choice_1 (show Int32.ofInt (4) = (4) by decide) ?_
  refine pc_bipush dX3_choice_2 (show (Int8.ofInt (32)).toInt32 = (32) by decide) ?_
  refine pc_call (c := 3) (As := fun al => [.int (4), .int (32)]) dX3_choice_4 cl_X3_44 (by decide) rfl (cp_emit (2 * f + 4) hT hX (4) (32) (by omega)) (fun _ _ => trivial) rfl rfl (Nat.le_of_ble_eq_true rfl) ⟨rfl, rfl⟩ (fun res scA arA hn => ?_)
  obtain ⟨rfl, hXA, h7A, h8A⟩ := hn
  refine pc_pop dX3_choice_7 rfl ?_
  refine pc_aload_n dX3_choice_8 rfl rfl ?_
  refine pc_iconst dX3_choice_9 (show Int32.ofInt (0) = (0) by decide) ?_
  refine pc_iload_n dX3_choice_10 rfl ?_
  refine pc_call (c := 3) (As := fun al => [.int (nI 0), .int (nI dp)]) dX3_choice_11 cl_X3_67 (by decide) rfl (H.2.2.2 f1 hf 0 (by decide) dp (i + 1) (p + 1) q.1 q.2 _ _ hXA (by omega) hd hq) (fun _ _ => trivial) rfl rfl (Nat.le_of_ble_eq_true rfl) ⟨rfl, rfl⟩ (fun res scE arE hn => ?_)
  obtain ⟨rfl, p2, hX2, hok⟩ := hn
  refine pc_if_ne (tgt := 19) dX3_choice_14 (by decide) (fun c14 => ?_) (fun c14 => ?_)
  ·
    have hb : q.1 = true := zB_n0 c14
    rw [if_neg (by rw [hb]; decide)] at h
    obtain ⟨w, hw, h⟩ : ∃ w : Bool × Nat, pP T f1 2 dp q.2 = some (w.1, w.2) ∧ (if w.1 = false then some (false, w.2) else if T i = nI 257 ∧ T w.2 = nI 258 then pP T f1 2 dp (w.2 + 1) else some (true, w.2)) = some (b, j) := by
      cases hz : pP T f1 2 dp q.2 with
      | none => rw [hz] at h; cases h
      | some w => rw [hz, Option.bind_some] at h; exact ⟨w, rfl, h⟩
    obtain ⟨e1, e2, e3⟩ := hok hb
    have e1 : p2 = p + 1 + nO T f1 3 dp false (i + 1) := e1
    have e3 : Cd T (arE 7) (arE 8) f1 3 dp false none (i + 1) (p + 1) := e3
    have hqt : pP T f1 3 dp (i + 1) = some (true, q.2) := by rw [hq, hb]
    have hle := (nO_le f1 3 dp false (i + 1) q.2 (by decide) hqt).1
    rw [if_neg (by decide), if_neg (by decide)] at hle
    have hql := (pP_lt _ _ _ _ _ (by decide) hqt).1
    have hiq := hX2.2.2.1
    refine pc_aload_n dX3_choice_19 rfl rfl ?_
    refine pc_getS (c := 3) (v := (nI (p2))) dX3_choice_20 fk_X3_29 (by decide) rfl rfl hX2.2.2.2.1 ?_
    refine pc_istore_n dX3_choice_23 (Nat.le_of_ble_eq_true rfl) ?_
    refine pc_aload_n dX3_choice_24 rfl rfl ?_
    refine pc_iconst dX3_choice_25 (show Int32.ofInt (5) = (5) by decide) ?_
    refine pc_iconst dX3_choice_26 (show Int32.ofInt (0) = (0) by decide) ?_
    refine pc_call (c := 3) (As := fun al => [.int (5), .int (0)]) dX3_choice_27 cl_X3_44 (by decide) rfl (cp_emit (2 * f + 4) hT hX2 (5) (0) (by omega)) (fun _ _ => trivial) rfl rfl (Nat.le_of_ble_eq_true rfl) ⟨rfl, rfl⟩ (fun res scB arB hn => ?_)
    obtain ⟨rfl, hXB, h7B, h8B⟩ := hn
    refine pc_pop dX3_choice_30 rfl ?_
    refine pc_aload_n dX3_choice_31 rfl rfl ?_
    refine pc_iload_n dX3_choice_32 rfl ?_
    refine pc_iload_n dX3_choice_33 rfl ?_
    refine pc_call (c := 3) (As := fun al => [.int (nI dp), .int (zB lp)]) dX3_choice_34 cl_X3_76 (by decide) rfl (H.2.2.1 f1 hf dp lp q.2 (p2 + 1) w.1 w.2 _ _ hXB (by omega) hd hw) (fun _ _ => trivial) rfl rfl (Nat.le_of_ble_eq_true rfl) ⟨rfl, rfl⟩ (fun res scF arF hn => ?_)
    obtain ⟨rfl, p3, hX3, hok2⟩ := hn
    refine pc_if_ne (tgt := 42) dX3_choice_37 (by decide) (fun c37 => ?_) (fun c37 => ?_)
    ·
      have hb2 : w.1 = true := zB_n0 c37
      obtain ⟨g1, g2, g3⟩ := hok2 hb2
      have g1 : p3 = p2 + 1 + nO T f1 2 dp false q.2 := g1
      have g3 : Cd T (arF 7) (arF 8) f1 2 dp lp none q.2 (p2 + 1) := g3
      have hwt : pP T f1 2 dp q.2 = some (true, w.2) := by rw [hw, hb2]
      have hle2 := (nO_le f1 2 dp false q.2 w.2 (by decide) hwt).1
      rw [if_pos rfl, if_neg (by decide)] at hle2
      have hwl := (pP_lt _ _ _ _ _ (by decide) hwt).1
      have hiw := hX3.2.2.1
      rw [if_neg (by rw [hb2]; decide)] at h
      refine pc_aload_n dX3_choice_42 rfl rfl ?_
      refine pc_sipush dX3_choice_43 (show (Int16.ofInt (258)).toInt32 = (258) by decide) ?_
      refine pc_call (c := 3) (As := fun al => [.int (nI 258)]) dX3_choice_46 cl_X3_63 (by decide) rfl (cp_take (2 * f + 4) hT hX3 (c := 258) (by decide) (by decide)) (fun _ _ => trivial) rfl rfl (Nat.le_of_ble_eq_true rfl) ⟨rfl, rfl⟩ (fun res scH arH hn => ?_)
      rcases hn with ⟨ht, rfl, hlt, hX4, h9⟩ | ⟨ht, rfl, h91, h92⟩
      ·
        subst arH
        refine pc_if_ne (tgt := 59) dX3_choice_49 (by decide) (fun _ => ?_) (fun c49 => absurd c49 (by decide))
        rw [if_pos ⟨hti, ht⟩] at h
        refine pc_aload_n dX3_choice_59 rfl rfl ?_
        refine pc_getS (c := 3) (v := nI p3) dX3_choice_60 fk_X3_29 (by decide) rfl rfl hX4.2.2.2.1 ?_
        refine pc_istore dX3_choice_63 (Nat.le_of_ble_eq_true rfl) ?_
        refine pc_aload_n dX3_choice_65 rfl rfl ?_
        refine pc_bipush dX3_choice_66 (show (Int8.ofInt (6)).toInt32 = (6) by decide) ?_
        refine pc_iconst dX3_choice_68 (show Int32.ofInt (0) = (0) by decide) ?_
        refine pc_call (c := 3) (As := fun al => [.int (6), .int (0)]) dX3_choice_69 cl_X3_44 (by decide) rfl (cp_emit (2 * f + 4) hT hX4 (6) (0) (by omega)) (fun _ _ => trivial) rfl rfl (Nat.le_of_ble_eq_true rfl) ⟨rfl, rfl⟩ (fun res scI arI hn => ?_)
        obtain ⟨rfl, hXI, h7I, h8I⟩ := hn
        refine pc_pop dX3_choice_72 rfl ?_
        refine pc_aload_n dX3_choice_73 rfl rfl ?_
        refine pc_iload_n dX3_choice_74 rfl ?_
        refine pc_call (c := 3) (As := fun al => [.int (nI (p2))]) dX3_choice_75 cl_X3_79 (by decide) rfl (cp_aim (2 * f + 4) hT hXI (x := p2) (by omega)) (fun _ _ => trivial) rfl rfl (Nat.le_of_ble_eq_true rfl) ⟨rfl, rfl⟩ (fun res scJ arJ hn => ?_)
        obtain ⟨rfl, hXJ, h7J, h8J⟩ := hn
        refine pc_aload_n dX3_choice_78 rfl rfl ?_
        refine pc_iload_n dX3_choice_79 rfl ?_
        refine pc_iload_n dX3_choice_80 rfl ?_
        refine pc_call (c := 3) (As := fun al => [.int (nI dp), .int (zB lp)]) dX3_choice_81 cl_X3_76 (by decide) rfl (H.2.2.1 f1 hf dp lp (w.2 + 1) (p3 + 1) b j _ _ hXJ (by omega) hd h) (fun _ _ => trivial) rfl rfl (Nat.le_of_ble_eq_true rfl) ⟨rfl, rfl⟩ (fun res scM arM hn => ?_)
        obtain ⟨rfl, p4, hX5, hok3⟩ := hn
        refine pc_if_ne (tgt := 89) dX3_choice_84 (by decide) (fun c84 => ?_) (fun c84 => ?_)
        ·
          have hbt : b = true := zB_n0 c84
          obtain ⟨u1, u2, u3⟩ := hok3 hbt
          have u1 : p4 = p3 + 1 + nO T f1 2 dp false (w.2 + 1) := u1
          have u3 : Cd T (arM 7) (arM 8) f1 2 dp lp none (w.2 + 1) (p3 + 1) := u3
          refine pc_aload_n dX3_choice_89 rfl rfl ?_
          refine pc_iload dX3_choice_90 rfl ?_
          refine pc_call (c := 3) (As := fun al => [.int (nI (p3))]) dX3_choice_92 cl_X3_79 (by decide) rfl (cp_aim (2 * f + 4) hT hX5 (x := p3) (by omega)) (fun _ _ => trivial) rfl rfl (Nat.le_of_ble_eq_true rfl) ⟨rfl, rfl⟩ (fun res scK arK hn => ?_)
          obtain ⟨rfl, hXK, h7K, h8K⟩ := hn
          refine pc_iconst dX3_choice_95 (show Int32.ofInt (1) = (1) by decide) ?_
          refine pc_iret hQ dX3_choice_96 rfl rfl ⟨by rw [hbt]; rfl, p4, hXK, fun _ => ⟨?_, fun x hx => ?_, ?_⟩⟩
          · rw [nO, if_neg hnv, if_neg (fun z => absurd (hti.symm.trans z) (by decide)), pE_of hqt, pE_of hwt, if_pos ht, u1, g1, e1]; omega
          · have a1 := e2 x (by omega)
            have a2 := g2 x (by omega)
            have a3 := u2 x (by omega)
            exact ⟨by rw [h7K, a3.1, h7J, h7I, pk_un (by omega), a2.1, h7B, pk_un (by omega), a1.1, h7A, pk_un (by omega)], by rw [h8K, pk_un (by omega), a3.2, h8J, pk_un (by omega), h8I, pk_un (by omega), a2.2, h8B, pk_un (by omega), a1.2, h8A, pk_un (by omega)]⟩
          · have j7 : ∀ x, x < p3 + 1 → arK 7 x = arI 7 x := fun x hx => by rw [h7K, (u2 x (by omega)).1, h7J]
            have j8 : ∀ x, x < p3 + 1 → x ≠ p3 → x ≠ p2 → arK 8 x = arI 8 x := fun x hx h1 h2 => by rw [h8K, pk_un h1, (u2 x (by omega)).2, h8J, pk_un h2]
            have k7 : ∀ x, x < p3 → arK 7 x = arF 7 x := fun x hx => by rw [j7 x (by omega), h7I, pk_un (by omega)]
            have k8 : ∀ x, x < p3 → x ≠ p2 → arK 8 x = arF 8 x := fun x hx hne => by rw [j8 x (by omega) (by omega) hne, h8I, pk_un (by omega)]
            have m7 : ∀ x, x < p2 → arK 7 x = arE 7 x := fun x hx => by rw [k7 x (by omega), (g2 x (by omega)).1, h7B, pk_un (by omega)]
            have m8 : ∀ x, x < p2 → arK 8 x = arE 8 x := fun x hx => by rw [k8 x (by omega) (by omega), (g2 x (by omega)).2, h8B, pk_un (by omega)]
            rw [Cd, pE_of hqt, pE_of hwt]
            refine ⟨fun z => absurd z hnv, fun z => absurd (hti.symm.trans z) (by decide), fun _ => ⟨?_, ?_, ?_, ?_, ?_, fun _ => ⟨?_, ?_, ?_, ?_⟩, fun z => absurd ht z⟩⟩
            · rw [m7 p (by omega), (e2 p (by omega)).1, h7A, pk_us]
            · rw [m8 p (by omega), (e2 p (by omega)).2, h8A, pk_us]
            · exact Cd_cong f1 3 dp false none (i + 1) q.2 (p + 1) (by decide) hqt (fun x a b => ⟨m7 x (by simp only [Option.isSome] at b; omega), m8 x (by simp only [Option.isSome] at b; omega)⟩) e3
            · rw [← e1, k7 p2 (by omega), (g2 p2 (by omega)).1, h7B, pk_us]
            · have e9 : p + 2 + nO T f1 3 dp false (i + 1) = p2 + 1 := by omega
              rw [e9]
              exact Cd_cong f1 2 dp lp none q.2 w.2 (p2 + 1) (by decide) hwt (fun x a b => ⟨k7 x (by simp only [Option.isSome] at b; omega), k8 x (by simp only [Option.isSome] at b; omega) (by omega)⟩) g3
            · rw [← e1, h8K, pk_un (by omega), (u2 p2 (by omega)).2, h8J, pk_us]; congr 1; omega
            · rw [show p + 2 + nO T f1 3 dp false (i + 1) + nO T f1 2 dp false q.2 = p3 from by omega, j7 p3 (by omega), h7I, pk_us]
            · rw [show p + 2 + nO T f1 3 dp false (i + 1) + nO T f1 2 dp false q.2 = p3 from by omega, h8K, pk_us]; congr 1; omega
            · have e9 : p + 3 + nO T f1 3 dp false (i + 1) + nO T f1 2 dp false q.2 = p3 + 1 := by omega
              rw [e9]
              exact Cd_cong f1 2 dp lp none (w.2 + 1) j (p3 + 1) (by decide) (hbt ▸ h) (fun x a b => ⟨by rw [h7K], by rw [h8K, pk_un (by omega)]⟩) u3
        ·
          refine pc_iconst dX3_choice_87 (show Int32.ofInt (0) = (0) by decide) ?_
          have hbz : b = false := zB_0.mp c84
          exact pc_iret hQ dX3_choice_88 rfl rfl ⟨by rw [hbz]; rfl, p4, hX5, fun z => by rw [hbz] at z; cases z⟩
      ·
        subst scH
        subst arH
        refine pc_if_ne (tgt := 59) dX3_choice_49 (by decide) (fun c49 => absurd c49 (by decide)) (fun _ => ?_)
        refine pc_aload_n dX3_choice_52 rfl rfl ?_
        refine pc_iload_n dX3_choice_53 rfl ?_
        refine pc_call (c := 3) (As := fun al => [.int (nI (p2))]) dX3_choice_54 cl_X3_79 (by decide) rfl (cp_aim (2 * f + 4) hT hX3 (x := p2) (by omega)) (fun _ _ => trivial) rfl rfl (Nat.le_of_ble_eq_true rfl) ⟨rfl, rfl⟩ (fun res scD arD hn => ?_)
        obtain ⟨rfl, hXD, h7D, h8D⟩ := hn
        refine pc_iconst dX3_choice_57 (show Int32.ofInt (1) = (1) by decide) ?_
        rw [if_neg (fun z => ht z.2)] at h
        cases h
        refine pc_iret hQ dX3_choice_58 rfl rfl ⟨rfl, p3, hXD, fun _ => ⟨?_, fun x hx => ?_, ?_⟩⟩
        · rw [nO, if_neg hnv, if_neg (fun z => absurd (hti.symm.trans z) (by decide)), pE_of hqt, pE_of hwt, if_neg ht, g1, e1]; omega
        · have a1 := e2 x (by omega)
          have a2 := g2 x (by omega)
          exact ⟨by rw [h7D, a2.1, h7B, pk_un (by omega), a1.1, h7A, pk_un (by omega)], by rw [h8D, pk_un (by omega), a2.2, h8B, pk_un (by omega), a1.2, h8A, pk_un (by omega)]⟩
        · have k8 : ∀ x, x ≠ p2 → arD 8 x = arF 8 x := fun x hne => by rw [h8D, pk_un hne]
          have m7 : ∀ x, x < p2 → arD 7 x = arE 7 x := fun x hx => by rw [h7D, (g2 x (by omega)).1, h7B, pk_un (by omega)]
          have m8 : ∀ x, x < p2 → arD 8 x = arE 8 x := fun x hx => by rw [k8 x (by omega), (g2 x (by omega)).2, h8B, pk_un (by omega)]
          rw [Cd, pE_of hqt, pE_of hwt]
          refine ⟨fun z => absurd z hnv, fun z => absurd (hti.symm.trans z) (by decide), fun _ => ⟨?_, ?_, ?_, ?_, ?_, fun z => absurd z ht, fun _ => ?_⟩⟩
          · rw [m7 p (by omega), (e2 p (by omega)).1, h7A, pk_us]
          · rw [m8 p (by omega), (e2 p (by omega)).2, h8A, pk_us]
          · exact Cd_cong f1 3 dp false none (i + 1) q.2 (p + 1) (by decide) hqt (fun x a b => ⟨m7 x (by simp only [Option.isSome] at b; omega), m8 x (by simp only [Option.isSome] at b; omega)⟩) e3
          · rw [← e1, h7D, (g2 p2 (by omega)).1, h7B, pk_us]
          · have e9 : p + 2 + nO T f1 3 dp false (i + 1) = p2 + 1 := by omega
            rw [e9]
            exact Cd_cong f1 2 dp lp none q.2 w.2 (p2 + 1) (by decide) hwt (fun x a b => ⟨by rw [h7D], k8 x (by omega)⟩) g3
          · rw [← e1, h8D, pk_us]; congr 1; omega
    ·
      refine pc_iconst dX3_choice_40 (show Int32.ofInt (0) = (0) by decide) ?_
      have hb2 : w.1 = false := zB_0.mp c37
      rw [if_pos hb2] at h
      cases h
      exact pc_iret hQ dX3_choice_41 rfl rfl ⟨rfl, p3, hX3, fun z => by cases z⟩
  ·
    refine pc_iconst dX3_choice_17 (show Int32.ofInt (0) = (0) by decide) ?_
    have hb : q.1 = false := zB_0.mp c14
    rw [if_pos hb] at h
    cases h
    exact pc_iret hQ dX3_choice_18 rfl rfl ⟨rfl, p2, hX2, fun z => by cases z⟩
set_option maxHeartbeats 4000000 in
set_option maxRecDepth 20000 in
theorem xk_doing {T : Nat → Int32} {N : Nat} {sc0 ar0 : Nat → Nat → Int32} {sl : Value} {tf : Nat → Option Nat} {f : Nat} (hT : xT T N ar0) (H : xH T N sc0 ar0 sl tf f (2 * f + 5)) {f1 : Nat} (hf : f1 ≤ f) {dp : Nat} {lp : Bool} {i p : Nat} {b : Bool} {j : Nat} {sc ar : Nat → Nat → Int32} (hX : XT T N sc0 ar0 i p sc ar) (hp : p ≤ i) (hd : dp ≤ 10) (h : pP T (f1 + 1) 1 dp i = some (b, j)) : CP (2 * f + 7) 24 (fun al => [.ref (al 3), .int (nI dp), .int (zB lp)]) noD sc ar sl tf (xQ T N sc0 ar0 (f1 + 1) 1 dp lp i p b j ar) := by
  refine CP.of pm_X3_doing rfl (fun _ => rfl) (fun _ => Nat.le_of_ble_eq_true rfl) ?_
  intro fx al n g0 Q hn36 _ hQ
  show pc fx (px_body pm_X3_doing) (2 * f + 6) Q al n g0 sc ar sl tf 0 [.ref (al 3), .int (nI dp), .int (zB lp), .float 0] []
  have hN := hT.1
  have hi := hX.2.2.1
  rw [pP] at h
  refine pc_aload_n dX3_doing_0 rfl rfl ?_
  refine pc_call (c := 3) (As := fun al => []) dX3_doing_1 cl_X3_40 (by decide) rfl (cp_here (2 * f + 5) hT hX) (fun _ _ => trivial) rfl rfl (Nat.le_of_ble_eq_true rfl) ⟨rfl, rfl⟩ (fun res sc2 ar2 hn => ?_)
  obtain ⟨rfl, h91, h92⟩ := hn
  subst sc2
  subst ar2
  refine pc_callSCN dX3_doing_4 cl_X3_59 (rc_varOf (2 * f + 5) _) rfl rfl (Nat.le_of_ble_eq_true rfl) ⟨rfl, rfl⟩ ?_
  refine pc_istore_n dX3_doing_7 (Nat.le_of_ble_eq_true rfl) ?_
  refine pc_iload_n dX3_doing_8 rfl ?_
  refine pc_iconst dX3_doing_9 (show Int32.ofInt (-1) = (-1) by decide) ?_
  refine pc_icmp_eq (tgt := 63) dX3_doing_10 (by decide) (fun c10 => ?_) (fun c10 => ?_)
  ·
    have hv : ¬ isVar (T i) = true := by rw [varOf_no.mp c10]; decide
    rw [if_neg hv] at h
    refine pc_aload_n dX3_doing_63 rfl rfl ?_
    refine pc_sipush dX3_doing_64 (show (Int16.ofInt (256)).toInt32 = (256) by decide) ?_
    refine pc_call (c := 3) (As := fun al => [.int (nI 256)]) dX3_doing_67 cl_X3_63 (by decide) rfl (cp_take (2 * f + 5) hT hX (c := 256) (by decide) (by decide)) (fun _ _ => trivial) rfl rfl (Nat.le_of_ble_eq_true rfl) ⟨rfl, rfl⟩ (fun res scH arH hn => ?_)
    rcases hn with ⟨ht2, rfl, hlt2, hX1, h9⟩ | ⟨ht2, rfl, h91, h92⟩
    ·
      subst arH
      rw [if_pos (Or.inr ht2)] at h
      refine pc_if_eq (tgt := 80) dX3_doing_70 (by decide) (fun c70 => absurd c70 (by decide)) (fun _ => ?_)
      refine pc_aload_n dX3_doing_73 rfl rfl ?_
      refine pc_iload_n dX3_doing_74 rfl ?_
      refine pc_iload_n dX3_doing_75 rfl ?_
      refine pc_call (c := 3) (As := fun al => [.int (nI dp), .int (zB lp)]) dX3_doing_76 cl_X3_70 (by decide) rfl (xk_loop hT H hf hX1 hp hd ht2 h) (fun _ _ => trivial) rfl rfl (Nat.le_of_ble_eq_true rfl) ⟨rfl, rfl⟩ (fun res sc2 ar2 hn => ?_)
      obtain ⟨rfl, hn⟩ := hn
      exact pc_iret hQ dX3_doing_79 rfl (zB_nar b) ⟨rfl, hn⟩
    ·
      subst scH
      subst arH
      refine pc_if_eq (tgt := 80) dX3_doing_70 (by decide) (fun _ => ?_) (fun c70 => absurd c70 (by decide))
      refine pc_aload_n dX3_doing_80 rfl rfl ?_
      refine pc_sipush dX3_doing_81 (show (Int16.ofInt (257)).toInt32 = (257) by decide) ?_
      refine pc_call (c := 3) (As := fun al => [.int (nI 257)]) dX3_doing_84 cl_X3_63 (by decide) rfl (cp_take (2 * f + 5) hT hX (c := 257) (by decide) (by decide)) (fun _ _ => trivial) rfl rfl (Nat.le_of_ble_eq_true rfl) ⟨rfl, rfl⟩ (fun res scH arH hn => ?_)
      rcases hn with ⟨ht3, rfl, hlt2, hX1, h9⟩ | ⟨ht3, rfl, h91, h92⟩
      ·
        subst arH
        rw [if_pos (Or.inl ht3)] at h
        refine pc_if_eq (tgt := 103) dX3_doing_87 (by decide) (fun c87 => absurd c87 (by decide)) (fun _ => ?_)
        refine pc_aload_n dX3_doing_90 rfl rfl ?_
        refine pc_iload_n dX3_doing_91 rfl ?_
        refine pc_iload_n dX3_doing_92 rfl ?_
        refine pc_call (c := 3) (As := fun al => [.int (nI dp), .int (zB lp)]) dX3_doing_93 cl_X3_73 (by decide) rfl (xk_choice hT H hf hX1 hp hd ht3 h) (fun _ _ => trivial) rfl rfl (Nat.le_of_ble_eq_true rfl) ⟨rfl, rfl⟩ (fun res sc2 ar2 hn => ?_)
        obtain ⟨rfl, hn⟩ := hn
        refine pc_if_eq (tgt := 103) dX3_doing_96 (by decide) (fun c96 => ?_) (fun c96 => ?_)
        ·
          refine pc_iconst dX3_doing_103 (show Int32.ofInt (0) = (0) by decide) ?_
          have hbz : b = false := zB_0.mp c96
          exact pc_iret hQ dX3_doing_104 rfl rfl ⟨by rw [hbz]; rfl, hn⟩
        ·
          refine pc_iconst dX3_doing_99 (show Int32.ofInt (1) = (1) by decide) ?_
          refine pc_goto (tgt := 104) dX3_doing_100 (by decide) ?_
          have hbt : b = true := zB_n0 c96
          exact pc_iret hQ dX3_doing_104 rfl rfl ⟨by rw [hbt]; rfl, hn⟩
      ·
        subst scH
        subst arH
        refine pc_if_eq (tgt := 103) dX3_doing_87 (by decide) (fun _ => ?_) (fun c87 => absurd c87 (by decide))
        refine pc_iconst dX3_doing_103 (show Int32.ofInt (0) = (0) by decide) ?_
        rw [if_neg (fun z => z.elim ht3 ht2)] at h
        cases h
        exact pc_iret hQ dX3_doing_104 rfl rfl ⟨rfl, p, hX, fun z => by cases z⟩
  ·
    have hv : isVar (T i) = true := Bool.of_not_eq_false (fun z => c10 (varOf_no.mpr z))
    rw [if_pos hv] at h
    have hlt := hX.lt hT (isVar_pos hv).1 (isVar_pos hv).2
    refine pc_aload_n dX3_doing_13 rfl rfl ?_
    refine pc_dup dX3_doing_14 rfl ?_
    refine pc_getS (c := 3) (v := (nI (i))) dX3_doing_15 fk_X3_33 (by decide) rfl rfl hX.2.1 ?_
    refine pc_iconst dX3_doing_18 (show Int32.ofInt (1) = (1) by decide) ?_
    refine pc_iadd dX3_doing_19 ?_
    rw [nI_1]
    refine pc_put (c := 3) dX3_doing_20 fk_X3_33 (by decide) rfl rfl ⟨_, _, _, rfl, rfl⟩ rfl rfl ?_
    refine pc_aload_n dX3_doing_23 rfl rfl ?_
    refine pc_iconst dX3_doing_24 (show Int32.ofInt (4) = (4) by decide) ?_
    refine pc_iconst dX3_doing_25 (show Int32.ofInt (1) = (1) by decide) ?_
    refine pc_call (c := 3) (As := fun al => [.int 4, .int 1]) dX3_doing_26 cl_X3_44 (by decide) rfl (cp_emit (2 * f + 5) hT (hX.at (i2 := i + 1) (by omega)) 4 1 (by omega)) (fun _ _ => trivial) rfl rfl (Nat.le_of_ble_eq_true rfl) ⟨rfl, rfl⟩ (fun res scA arA hn => ?_)
    obtain ⟨rfl, hXA, h7A, h8A⟩ := hn
    refine pc_pop dX3_doing_29 rfl ?_
    refine pc_aload_n dX3_doing_30 rfl rfl ?_
    refine pc_bipush dX3_doing_31 (show (Int8.ofInt (61)).toInt32 = (61) by decide) ?_
    refine pc_call (c := 3) (As := fun al => [.int (nI 61)]) dX3_doing_33 cl_X3_63 (by decide) rfl (cp_take (2 * f + 5) hT hXA (c := 61) (by decide) (by decide)) (fun _ _ => trivial) rfl rfl (Nat.le_of_ble_eq_true rfl) ⟨rfl, rfl⟩ (fun res scH arH hn => ?_)
    rcases hn with ⟨ht, rfl, hlt2, hX1, h9⟩ | ⟨ht, rfl, h91, h92⟩
    ·
      subst arH
      rw [if_pos ht] at h
      refine pc_if_eq (tgt := 61) dX3_doing_36 (by decide) (fun c36 => absurd c36 (by decide)) (fun _ => ?_)
      refine pc_aload_n dX3_doing_39 rfl rfl ?_
      refine pc_iconst dX3_doing_40 (show Int32.ofInt (0) = (0) by decide) ?_
      refine pc_iload_n dX3_doing_41 rfl ?_
      refine pc_call (c := 3) (As := fun al => [.int (nI 0), .int (nI dp)]) dX3_doing_42 cl_X3_67 (by decide) rfl (CP.le (d2 := 2 * f + 6) (H.2.2.2 f1 hf 0 (by decide) dp (i + 2) (p + 1) b j _ _ hX1 (by omega) hd h) (by omega)) (fun _ _ => trivial) rfl rfl (Nat.le_of_ble_eq_true rfl) ⟨rfl, rfl⟩ (fun res scE arE hn => ?_)
      obtain ⟨rfl, p2, hX2, hok⟩ := hn
      refine pc_if_eq (tgt := 61) dX3_doing_45 (by decide) (fun c45 => ?_) (fun c45 => ?_)
      ·
        refine pc_iconst dX3_doing_61 (show Int32.ofInt (0) = (0) by decide) ?_
        have hbz : b = false := zB_0.mp c45
        exact pc_iret hQ dX3_doing_62 rfl rfl ⟨by rw [hbz]; rfl, p2, hX2, fun z => by rw [hbz] at z; cases z⟩
      ·
        have hbt : b = true := zB_n0 c45
        obtain ⟨e1, e2, e3⟩ := hok hbt
        have e1 : p2 = p + 1 + nO T f1 3 dp false (i + 2) := e1
        have e3 : Cd T (arE 7) (arE 8) f1 3 dp false none (i + 2) (p + 1) := e3
        have hle := (nO_le f1 3 dp false (i + 2) j (by decide) (hbt ▸ h)).1
        rw [if_neg (by decide), if_neg (by decide)] at hle
        have hij := (pP_lt _ _ _ _ _ (by decide) (hbt ▸ h)).1
        have hi2 := hX2.2.2.1
        refine pc_aload_n dX3_doing_48 rfl rfl ?_
        refine pc_iconst dX3_doing_49 (show Int32.ofInt (3) = (3) by decide) ?_
        refine pc_iload_n dX3_doing_50 rfl ?_
        refine pc_call (c := 3) (As := fun al => [.int 3, .int (varOf (T i))]) dX3_doing_51 cl_X3_44 (by decide) rfl (cp_emit (2 * f + 5) hT hX2 3 (varOf (T i)) (by omega)) (fun _ _ => trivial) rfl rfl (Nat.le_of_ble_eq_true rfl) ⟨rfl, rfl⟩ (fun res scB arB hn => ?_)
        obtain ⟨rfl, hXB, h7B, h8B⟩ := hn
        refine pc_if_eq (tgt := 61) dX3_doing_54 (by decide) (fun c54 => absurd c54 (by decide)) (fun _ => ?_)
        refine pc_iconst dX3_doing_57 (show Int32.ofInt (1) = (1) by decide) ?_
        refine pc_goto (tgt := 62) dX3_doing_58 (by decide) ?_
        refine pc_iret hQ dX3_doing_62 rfl rfl ⟨by rw [hbt]; rfl, p2 + 1, hXB, fun _ => ⟨?_, fun x hx => ?_, ?_⟩⟩
        · rw [nO, if_pos hv, e1]; omega
        · exact ⟨by rw [h7B, pk_un (by omega), (e2 x (by omega)).1, h7A, pk_un (by omega)], by rw [h8B, pk_un (by omega), (e2 x (by omega)).2, h8A, pk_un (by omega)]⟩
        · have m7 : ∀ x, x < p2 → arB 7 x = arE 7 x := fun x hx => by rw [h7B, pk_un (by omega)]
          have m8 : ∀ x, x < p2 → arB 8 x = arE 8 x := fun x hx => by rw [h8B, pk_un (by omega)]
          rw [Cd]
          refine ⟨fun _ => ⟨?_, ?_, ?_, ?_, ?_⟩, fun z => by rw [z] at hv; exact absurd hv (by decide), fun z => by rw [z] at hv; exact absurd hv (by decide)⟩
          · rw [m7 p (by omega), (e2 p (by omega)).1, h7A, pk_us]
          · rw [m8 p (by omega), (e2 p (by omega)).2, h8A, pk_us]
          · exact Cd_cong f1 3 dp false none (i + 2) j (p + 1) (by decide) (hbt ▸ h) (fun x a b => ⟨m7 x (by simp only [Option.isSome] at b; omega), m8 x (by simp only [Option.isSome] at b; omega)⟩) e3
          · rw [← e1, h7B, pk_us]
          · rw [← e1, h8B, pk_us]
    ·
      subst scH
      subst arH
      refine pc_if_eq (tgt := 61) dX3_doing_36 (by decide) (fun _ => ?_) (fun c36 => absurd c36 (by decide))
      refine pc_iconst dX3_doing_61 (show Int32.ofInt (0) = (0) by decide) ?_
      rw [if_neg ht] at h
      cases h
      exact pc_iret hQ dX3_doing_62 rfl rfl ⟨rfl, p + 1, hXA, fun z => by cases z⟩
set_option maxHeartbeats 4000000 in
set_option maxRecDepth 20000 in
theorem xl_block {T : Nat → Int32} {N : Nat} {sc0 ar0 : Nat → Nat → Int32} {sl : Value} {tf : Nat → Option Nat} {f : Nat} (hT : xT T N ar0) (H : xH T N sc0 ar0 sl tf f (2 * f + 5)) : ∀ f1, f1 ≤ f → ∀ (fx : px_F) (al : Nat → Nat) (n : Nat) (g0 : Nat → px_O) (Q : px_Q) (dp : Nat) (lp : Bool) (q p1 c : Nat) (b : Bool) (j : Nat) (sc ar : Nat → Nat → Int32), XT T N sc0 ar0 q p1 sc ar → p1 ≤ q → c < q → dp ≤ 10 → ((T q = nI 59 ∧ pP T f1 0 dp (q + 1) = some (b, j)) ∨ (¬ T q = nI 59 ∧ b = true ∧ j = q)) → (∀ res sc2 ar2 g2, (fun res sc2 ar2 => res = some (.int (zB b)) ∧ ∃ p2, XT T N sc0 ar0 j p2 sc2 ar2 ∧ (b = true → p2 = p1 + (if T q = nI 59 then nO T f1 0 dp false (q + 1) else 0) ∧ (∀ x, x < p1 → ar2 7 x = ar 7 x ∧ ar2 8 x = ar 8 x) ∧ (T q = nI 59 → Cd T (ar2 7) (ar2 8) f1 0 dp lp none (q + 1) p1))) res sc2 ar2 → CR al n g2 sc2 ar2 sl tf → cfr g0 g2 → Q (.inl res) al n g2) → pc fx (px_body pm_X3_block) (2 * f + 6) Q al n g0 sc ar sl tf 10 [.ref (al 3), .int (nI dp), .int (zB lp), .int 1, .int (nI c)] []
  | 0, hf, fx, al, n, g0, Q, dp, lp, q, p1, c, b, j, sc, ar, hX, hp, hc, hd, hr, hQ => by
    have hN := hT.1
    have hi := hX.2.2.1
    obtain ⟨hn, hb, hj⟩ := hr.resolve_left (fun z => by have z := z.2; rw [pP] at z; cases z)
    refine pc_iload dX3_block_10 rfl ?_
    refine pc_bipush dX3_block_12 (show (Int8.ofInt (120)).toInt32 = (120) by decide) ?_
    refine pc_icmp_ge (tgt := 53) dX3_block_14 (by decide) (fun c14 => absurd c14 (Int32.not_le.mpr (nI_lt (show c < 120 by omega) (by decide)))) (fun c14 => ?_)
    refine pc_iload_n dX3_block_17 rfl ?_
    refine pc_if_eq (tgt := 53) dX3_block_18 (by decide) (fun c18 => absurd c18 (by decide)) (fun _ => ?_)
    refine pc_aload_n dX3_block_21 rfl rfl ?_
    refine pc_call (c := 3) (As := fun al => []) dX3_block_22 cl_X3_40 (by decide) rfl (cp_here (2 * f + 5) hT hX) (fun _ _ => trivial) rfl rfl (Nat.le_of_ble_eq_true rfl) ⟨rfl, rfl⟩ (fun res sc2 ar2 hn => ?_)
    obtain ⟨rfl, h91, h92⟩ := hn
    subst sc2
    subst ar2
    refine pc_bipush dX3_block_25 (show (Int8.ofInt (59)).toInt32 = (59) by decide) ?_
    refine pc_icmp_ne (tgt := 53) dX3_block_27 (by decide) (fun c27 => ?_) (fun c27 => absurd c27 hn)
    refine pc_iload_n dX3_block_53 rfl ?_
    exact pc_iret hQ dX3_block_54 rfl rfl ⟨by rw [hb]; rfl, p1, by rw [hj]; exact hX, fun _ => ⟨by rw [if_neg hn, Nat.add_zero], fun x hx => ⟨rfl, rfl⟩, fun z => absurd z hn⟩⟩
  | f1 + 1, hf, fx, al, n, g0, Q, dp, lp, q, p1, c, b, j, sc, ar, hX, hp, hc, hd, hr, hQ => by
    have hN := hT.1
    have hi := hX.2.2.1
    rcases hr with ⟨hs, h⟩ | ⟨hn, hb, hj⟩
    rotate_left
    ·
      refine pc_iload dX3_block_10 rfl ?_
      refine pc_bipush dX3_block_12 (show (Int8.ofInt (120)).toInt32 = (120) by decide) ?_
      refine pc_icmp_ge (tgt := 53) dX3_block_14 (by decide) (fun c14 => absurd c14 (Int32.not_le.mpr (nI_lt (show c < 120 by omega) (by decide)))) (fun c14 => ?_)
      refine pc_iload_n dX3_block_17 rfl ?_
      refine pc_if_eq (tgt := 53) dX3_block_18 (by decide) (fun c18 => absurd c18 (by decide)) (fun _ => ?_)
      refine pc_aload_n dX3_block_21 rfl rfl ?_
      refine pc_call (c := 3) (As := fun al => []) dX3_block_22 cl_X3_40 (by decide) rfl (cp_here (2 * f + 5) hT hX) (fun _ _ => trivial) rfl rfl (Nat.le_of_ble_eq_true rfl) ⟨rfl, rfl⟩ (fun res sc2 ar2 hn => ?_)
      obtain ⟨rfl, h91, h92⟩ := hn
      subst sc2
      subst ar2
      refine pc_bipush dX3_block_25 (show (Int8.ofInt (59)).toInt32 = (59) by decide) ?_
      refine pc_icmp_ne (tgt := 53) dX3_block_27 (by decide) (fun c27 => ?_) (fun c27 => absurd c27 hn)
      refine pc_iload_n dX3_block_53 rfl ?_
      exact pc_iret hQ dX3_block_54 rfl rfl ⟨by rw [hb]; rfl, p1, by rw [hj]; exact hX, fun _ => ⟨by rw [if_neg hn, Nat.add_zero], fun x hx => ⟨rfl, rfl⟩, fun z => absurd z hn⟩⟩
    have hlt := hX.lt hT (lit_pos hs (by decide) (by decide)).1 (lit_pos hs (by decide) (by decide)).2
    rw [pP] at h
    obtain ⟨y, hy, h⟩ : ∃ y : Bool × Nat, pP T f1 1 dp (q + 1) = some (y.1, y.2) ∧ (if y.1 = false then some (false, y.2) else if T y.2 = nI 59 then pP T f1 0 dp (y.2 + 1) else some (true, y.2)) = some (b, j) := by
      cases hz : pP T f1 1 dp (q + 1) with
      | none => rw [hz] at h; cases h
      | some y => rw [hz, Option.bind_some] at h; exact ⟨y, rfl, h⟩
    refine pc_iload dX3_block_10 rfl ?_
    refine pc_bipush dX3_block_12 (show (Int8.ofInt (120)).toInt32 = (120) by decide) ?_
    refine pc_icmp_ge (tgt := 53) dX3_block_14 (by decide) (fun c14 => absurd c14 (Int32.not_le.mpr (nI_lt (show c < 120 by omega) (by decide)))) (fun c14 => ?_)
    refine pc_iload_n dX3_block_17 rfl ?_
    refine pc_if_eq (tgt := 53) dX3_block_18 (by decide) (fun c18 => absurd c18 (by decide)) (fun _ => ?_)
    refine pc_aload_n dX3_block_21 rfl rfl ?_
    refine pc_call (c := 3) (As := fun al => []) dX3_block_22 cl_X3_40 (by decide) rfl (cp_here (2 * f + 5) hT hX) (fun _ _ => trivial) rfl rfl (Nat.le_of_ble_eq_true rfl) ⟨rfl, rfl⟩ (fun res sc2 ar2 hn => ?_)
    obtain ⟨rfl, h91, h92⟩ := hn
    subst sc2
    subst ar2
    refine pc_bipush dX3_block_25 (show (Int8.ofInt (59)).toInt32 = (59) by decide) ?_
    refine pc_icmp_ne (tgt := 53) dX3_block_27 (by decide) (fun c27 => absurd c27 (fun z => z hs)) (fun c27 => ?_)
    refine pc_aload_n dX3_block_30 rfl rfl ?_
    refine pc_dup dX3_block_31 rfl ?_
    refine pc_getS (c := 3) (v := (nI (q))) dX3_block_32 fk_X3_33 (by decide) rfl rfl hX.2.1 ?_
    refine pc_iconst dX3_block_35 (show Int32.ofInt (1) = (1) by decide) ?_
    refine pc_iadd dX3_block_36 ?_
    rw [nI_1]
    refine pc_put (c := 3) dX3_block_37 fk_X3_33 (by decide) rfl rfl ⟨_, _, _, rfl, rfl⟩ rfl rfl ?_
    refine pc_aload_n dX3_block_40 rfl rfl ?_
    refine pc_iload_n dX3_block_41 rfl ?_
    refine pc_iload_n dX3_block_42 rfl ?_
    refine pc_call (c := 3) (As := fun al => [.int (nI dp), .int (zB lp)]) dX3_block_43 cl_X3_56 (by decide) rfl (CP.le (d2 := 2 * f + 6) (H.2.1 f1 (by omega) dp lp (q + 1) p1 y.1 y.2 _ _ (hX.at (i2 := q + 1) (by omega)) (by omega) hd hy) (by omega)) (fun _ _ => trivial) rfl rfl (Nat.le_of_ble_eq_true rfl) ⟨rfl, rfl⟩ (fun res scE arE hn => ?_)
    obtain ⟨rfl, p2, hX2, hok⟩ := hn
    refine pc_istore_n dX3_block_46 (Nat.le_of_ble_eq_true rfl) ?_
    refine pc_iinc dX3_block_47 rfl (show Int32.ofInt (1) = (1) by decide) ?_
    refine pc_goto (tgt := 10) dX3_block_50 (by decide) ?_
    rw [nI_1]
    cases hb : y.1
    · rw [hb] at h hok
      rw [if_pos rfl] at h
      cases h
      refine (?_ : pc fx (px_body pm_X3_block) (2 * f + 6) Q al n g0 _ _ sl tf 10 [.ref (al 3), .int (nI dp), .int (zB lp), .int 0, .int (nI (c + 1))] [])
      refine pc_iload dX3_block_10 rfl ?_
      refine pc_bipush dX3_block_12 (show (Int8.ofInt (120)).toInt32 = (120) by decide) ?_
      refine pc_icmp_ge (tgt := 53) dX3_block_14 (by decide) (fun c14 => absurd c14 (Int32.not_le.mpr (nI_lt (show c + 1 < 120 by omega) (by decide)))) (fun c14 => ?_)
      refine pc_iload_n dX3_block_17 rfl ?_
      refine pc_if_eq (tgt := 53) dX3_block_18 (by decide) (fun _ => ?_) (fun c18 => absurd c18 (by decide))
      refine pc_iload_n dX3_block_53 rfl ?_
      exact pc_iret hQ dX3_block_54 rfl rfl ⟨rfl, p2, hX2, fun z => by cases z⟩
    · rw [hb, if_neg (by decide)] at h
      obtain ⟨e1, e2, e3⟩ := hok hb
      have hyt : pP T f1 1 dp (q + 1) = some (true, y.2) := by rw [hy, hb]
      have hle := (nO_le f1 1 dp false (q + 1) y.2 (by decide) hyt).1
      rw [if_neg (by decide), if_neg (by decide)] at hle
      have hyl := (pP_lt _ _ _ _ _ (by decide) hyt).1
      refine xl_block hT H f1 (by omega) fx al n g0 Q dp lp y.2 p2 (c + 1) b j _ _ hX2 (by omega) (by omega) hd ?_ ?_
      · by_cases c9 : T y.2 = nI 59
        · rw [if_pos c9] at h; exact Or.inl ⟨c9, h⟩
        · rw [if_neg c9] at h; cases h; exact Or.inr ⟨c9, rfl, rfl⟩
      · intro res sc3 ar3 g3 hn3 hR3 hF3
        obtain ⟨z1, p3, z2, z3⟩ := hn3
        refine hQ res sc3 ar3 g3 ⟨z1, p3, z2, fun hbt => ?_⟩ hR3 hF3
        obtain ⟨w1, w2, w3⟩ := z3 hbt
        refine ⟨?_, fun x hx => ?_, fun _ => ?_⟩
        · rw [w1, if_pos hs, nO, pE_of hyt, e1]; omega
        · exact ⟨(w2 x (by omega)).1.trans (e2 x hx).1, (w2 x (by omega)).2.trans (e2 x hx).2⟩
        · rw [Cd, pE_of hyt]
          refine ⟨Cd_cong f1 1 dp lp none (q + 1) y.2 p1 (by decide) hyt (fun x a b => w2 x (by simp only [Option.isSome] at b; omega)) e3, fun c9 => ?_⟩
          rw [← e1]
          exact w3 c9
set_option maxHeartbeats 4000000 in
set_option maxRecDepth 20000 in
theorem xk_block {T : Nat → Int32} {N : Nat} {sc0 ar0 : Nat → Nat → Int32} {sl : Value} {tf : Nat → Option Nat} {f : Nat} (hT : xT T N ar0) (H : xH T N sc0 ar0 sl tf f (2 * f + 5)) {f1 : Nat} (hf : f1 ≤ f) {dp : Nat} {lp : Bool} {i p : Nat} {b : Bool} {j : Nat} {sc ar : Nat → Nat → Int32} (hX : XT T N sc0 ar0 i p sc ar) (hp : p ≤ i) (hd : dp ≤ 10) (h : pP T (f1 + 1) 0 dp i = some (b, j)) : CP (2 * f + 7) 23 (fun al => [.ref (al 3), .int (nI dp), .int (zB lp)]) noD sc ar sl tf (xQ T N sc0 ar0 (f1 + 1) 0 dp lp i p b j ar) := by
  refine CP.of pm_X3_block rfl (fun _ => rfl) (fun _ => Nat.le_of_ble_eq_true rfl) ?_
  intro fx al n g0 Q hn36 _ hQ
  show pc fx (px_body pm_X3_block) (2 * f + 6) Q al n g0 sc ar sl tf 0 [.ref (al 3), .int (nI dp), .int (zB lp), .float 0, .float 0] []
  have hN := hT.1
  have hi := hX.2.2.1
  rw [pP] at h
  obtain ⟨y, hy, h⟩ : ∃ y : Bool × Nat, pP T f1 1 dp i = some (y.1, y.2) ∧ (if y.1 = false then some (false, y.2) else if T y.2 = nI 59 then pP T f1 0 dp (y.2 + 1) else some (true, y.2)) = some (b, j) := by
    cases hz : pP T f1 1 dp i with
    | none => rw [hz] at h; cases h
    | some y => rw [hz, Option.bind_some] at h; exact ⟨y, rfl, h⟩
  refine pc_aload_n dX3_block_0 rfl rfl ?_
  refine pc_iload_n dX3_block_1 rfl ?_
  refine pc_iload_n dX3_block_2 rfl ?_
  refine pc_call (c := 3) (As := fun al => [.int (nI dp), .int (zB lp)]) dX3_block_3 cl_X3_56 (by decide) rfl (CP.le (d2 := 2 * f + 6) (H.2.1 f1 hf dp lp i p y.1 y.2 _ _ hX hp hd hy) (by omega)) (fun _ _ => trivial) rfl rfl (Nat.le_of_ble_eq_true rfl) ⟨rfl, rfl⟩ (fun res scE arE hn => ?_)
  obtain ⟨rfl, p2, hX2, hok⟩ := hn
  refine pc_istore_n dX3_block_6 (Nat.le_of_ble_eq_true rfl) ?_
  refine pc_iconst dX3_block_7 (show Int32.ofInt (0) = (0) by decide) ?_
  refine pc_istore dX3_block_8 (Nat.le_of_ble_eq_true rfl) ?_
  cases hb : y.1
  · rw [hb] at h hok
    rw [if_pos rfl] at h
    cases h
    refine (?_ : pc fx (px_body pm_X3_block) (2 * f + 6) Q al n g0 _ _ sl tf 10 [.ref (al 3), .int (nI dp), .int (zB lp), .int 0, .int 0] [])
    refine pc_iload dX3_block_10 rfl ?_
    refine pc_bipush dX3_block_12 (show (Int8.ofInt (120)).toInt32 = (120) by decide) ?_
    refine pc_icmp_ge (tgt := 53) dX3_block_14 (by decide) (fun c14 => absurd c14 (by decide)) (fun c14 => ?_)
    refine pc_iload_n dX3_block_17 rfl ?_
    refine pc_if_eq (tgt := 53) dX3_block_18 (by decide) (fun _ => ?_) (fun c18 => absurd c18 (by decide))
    refine pc_iload_n dX3_block_53 rfl ?_
    exact pc_iret hQ dX3_block_54 rfl rfl ⟨rfl, p2, hX2, fun z => by cases z⟩
  · rw [hb, if_neg (by decide)] at h
    obtain ⟨e1, e2, e3⟩ := hok hb
    have hyt : pP T f1 1 dp i = some (true, y.2) := by rw [hy, hb]
    have hle := (nO_le f1 1 dp false i y.2 (by decide) hyt).1
    rw [if_neg (by decide), if_neg (by decide)] at hle
    have hyl := (pP_lt _ _ _ _ _ (by decide) hyt).1
    refine xl_block hT H f1 hf fx al n g0 Q dp lp y.2 p2 0 b j _ _ hX2 (by omega) (by omega) hd ?_ ?_
    · by_cases c9 : T y.2 = nI 59
      · rw [if_pos c9] at h; exact Or.inl ⟨c9, h⟩
      · rw [if_neg c9] at h; cases h; exact Or.inr ⟨c9, rfl, rfl⟩
    · intro res sc3 ar3 g3 hn3 hR3 hF3
      obtain ⟨z1, p3, z2, z3⟩ := hn3
      refine hQ res sc3 ar3 g3 ⟨z1, p3, z2, fun hbt => ?_⟩ hR3 hF3
      obtain ⟨w1, w2, w3⟩ := z3 hbt
      refine ⟨?_, fun x hx => ?_, ?_⟩
      · rw [w1, nO, pE_of hyt, e1]; omega
      · exact ⟨(w2 x (by omega)).1.trans (e2 x hx).1, (w2 x (by omega)).2.trans (e2 x hx).2⟩
      · rw [Cd, pE_of hyt]
        refine ⟨Cd_cong f1 1 dp lp none i y.2 p (by decide) hyt (fun x a b => w2 x (by simp only [Option.isSome] at b; omega)) e3, fun c9 => ?_⟩
        rw [← e1]
        exact w3 c9
theorem xH_all {T : Nat → Int32} {N : Nat} {sc0 ar0 : Nat → Nat → Int32} {sl : Value} {tf : Nat → Option Nat} (hT : xT T N ar0) : ∀ f, xH T N sc0 ar0 sl tf f (2 * f + 5)
  | 0 => by
    refine ⟨fun f0 h0 dp lp i p b j sc ar hX hp hd h => ?_, fun f0 h0 dp lp i p b j sc ar hX hp hd h => ?_, fun f0 h0 dp lp i p b j sc ar hX hp hd h => ?_, fun f0 h0 lv hl dp i p b j sc ar hX hp hd h => ?_⟩ <;> (obtain rfl : f0 = 0 := Nat.le_zero.mp h0) <;> rw [pP] at h <;> cases h
  | f + 1 => by
    have H := xH_all (sc0 := sc0) (sl := sl) (tf := tf) hT f
    refine ⟨fun f0 h0 dp lp i p b j sc ar hX hp hd h => ?_, fun f0 h0 dp lp i p b j sc ar hX hp hd h => ?_, fun f0 h0 dp lp i p b j sc ar hX hp hd h => ?_, fun f0 h0 lv hl dp i p b j sc ar hX hp hd h => ?_⟩
    · cases f0 with
      | zero => rw [pP] at h; cases h
      | succ f1 => exact xk_block hT H (by omega) hX hp hd h
    · cases f0 with
      | zero => rw [pP] at h; cases h
      | succ f1 => exact xk_doing hT H (by omega) hX hp hd h
    · cases f0 with
      | zero => rw [pP] at h; cases h
      | succ f1 => exact (xk_braced hT H (by omega) hX hp hd h).le (by omega)
    · cases f0 with
      | zero => rw [pP] at h; cases h
      | succ f1 =>
        match lv, hl, h with
        | 0, _, h => exact xk_expr0 hT H (by omega) hX hp hd h
        | 1, _, h => exact xk_expr1 hT H (by omega) hX hp hd h
        | 2, _, h => exact xk_expr2 hT H (by omega) hX hp hd h
        | 3, _, h => exact xk_expr3 hT H (by omega) hX hp hd h
