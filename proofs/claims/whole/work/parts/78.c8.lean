/-- a program of the class's in the heap: its object, its tokens, operations and operands -/
def PG (al : Nat → Nat) (n : Nat) (g : Nat → px_O) (P m L : Nat) (S O A : Nat → Int32) (bd : Bool) : Prop := 36 ≤ P ∧ P + 4 ≤ n ∧ (∃ f, g P = .inr (5, f) ∧ f 0 = .ref (al (P + 1)) ∧ f 1 = .ref (al (P + 2)) ∧ f 2 = .ref (al (P + 3)) ∧ f 3 = .int (zB bd)) ∧ g (P + 1) = .inl (0, m, .inl S) ∧ g (P + 2) = .inl (0, L, .inl O) ∧ g (P + 3) = .inl (0, L, .inl A)
theorem PG.fr {al : Nat → Nat} {n : Nat} {g g2 : Nat → px_O} {P m L : Nat} {S O A : Nat → Int32} {bd : Bool} (h : PG al n g P m L S O A bd) (hF : cfr g g2) : PG al n g2 P m L S O A bd := by
  obtain ⟨h1, h2, ⟨f, h3⟩, h4, h5, h6⟩ := h
  exact ⟨h1, h2, ⟨f, (hF P h1).trans h3.1, h3.2⟩, (hF _ (by omega)).trans h4, (hF _ (by omega)).trans h5, (hF _ (by omega)).trans h6⟩
def JL (fx : px_F) (dd : Nat) (Q : px_Q) (al : Nat → Nat) (n : Nat) (g0 : Nat → px_O) (sl : Value) (tf : Nat → Option Nat) (P : Nat) (a b : Int32) (v : Int32) (c : Nat) (sc ar : Nat → Nat → Int32) : Prop := pc fx (px_body pm_X2_execute) dd Q al n g0 sc ar sl tf 53 [.ref (al 9), .ref (al P), .int a, .int b, .int v, .int (nI c)] []
set_option maxHeartbeats 4000000 in
set_option maxRecDepth 20000 in
theorem ex_step {fx : px_F} {dd : Nat} {Q : px_Q} {al : Nat → Nat} {n : Nat} {g0 : Nat → px_O} {sl : Value} {tf : Nat → Option Nat} {P m L : Nat} {S O A : Nat → Int32} {bd : Bool} {a b : Int32} (hP : PG al n g0 P m L S O A bd) (hL : L ≤ 121) {sc ar : Nat → Nat → Int32} {pl c : Nat} (hg : sc 9 6 = 1) (hpl : pl < L) (hc : c < 1000000) {post : Int32 → (Nat → Nat → Int32) → (Nat → Nat → Int32) → Prop} (hC : CP dd 11 (fun al => [.ref (al 9), .int (O pl), .int (A pl), .int (nI (pl + 1))]) noD sc ar sl tf (fun res sc2 ar2 => ∃ v, res = some (.int v) ∧ post v sc2 ar2)) (kk : ∀ v sc2 ar2, post v sc2 ar2 → JL fx dd Q al n g0 sl tf P a b v (c + 1) sc2 ar2) : JL fx dd Q al n g0 sl tf P a b (nI pl) c sc ar := by
  show pc fx (px_body pm_X2_execute) dd Q al n g0 sc ar sl tf 53 [.ref (al 9), .ref (al P), .int a, .int b, .int (nI pl), .int (nI c)] []
  obtain ⟨p1, p2, ⟨f, q1, q2, q3, q4, q5⟩, q6, q7, q8⟩ := hP
  refine pc_iload dX2_execute_53 rfl ?_
  refine pc_ldc (d := 1000000) dX2_execute_55 (px_big_of (List.mem_append_right _ (List.mem_of_getElem? (i := 622) (by decide +kernel))) rfl) ?_
  refine pc_icmp_ge (tgt := 112) dX2_execute_57 (by decide) (fun c57 => absurd c57 (Int32.not_le.mpr (nI_lt (show c < 1000000 from hc) (by decide)))) (fun c57 => ?_)
  refine pc_aload_n dX2_execute_60 rfl rfl ?_
  refine pc_getS (c := 9) (v := 1) dX2_execute_61 fk_X2_37 (by decide) rfl rfl hg ?_
  refine pc_if_eq (tgt := 112) dX2_execute_64 (by decide) (fun c64 => absurd c64 (by decide)) (fun c64 => ?_)
  refine pc_iload dX2_execute_67 rfl ?_
  refine pc_if_lt (tgt := 112) dX2_execute_69 (by decide) (fun c69 => absurd c69 (nI_pos (by omega))) (fun c69 => ?_)
  refine pc_iload dX2_execute_72 rfl ?_
  refine pc_aload_n dX2_execute_74 rfl rfl ?_
  refine pc_dgetN dX2_execute_75 fk_X2_42 p1 (by omega) q1 q3 ?_
  refine pc_dalen dX2_execute_78 (by omega) (by omega) (by decide) q7 ?_
  refine pc_icmp_ge (tgt := 112) dX2_execute_79 (by decide) (fun c79 => absurd c79 (Int32.not_le.mpr (nI_lt hpl (by omega)))) (fun c79 => ?_)
  refine pc_aload_n dX2_execute_82 rfl rfl ?_
  refine pc_aload_n dX2_execute_83 rfl rfl ?_
  refine pc_dgetN dX2_execute_84 fk_X2_42 p1 (by omega) q1 q3 ?_
  refine pc_iload dX2_execute_87 rfl ?_
  refine pc_dald (j := pl) dX2_execute_89 (by omega) (by omega) q7 rfl hpl (by omega) rfl ?_
  refine pc_aload_n dX2_execute_90 rfl rfl ?_
  refine pc_dgetN dX2_execute_91 fk_X2_47 p1 (by omega) q1 q4 ?_
  refine pc_iload dX2_execute_94 rfl ?_
  refine pc_dald (j := pl) dX2_execute_96 (by omega) (by omega) q8 rfl hpl (by omega) rfl ?_
  refine pc_iload dX2_execute_97 rfl ?_
  refine pc_iconst dX2_execute_99 (show Int32.ofInt (1) = (1) by decide) ?_
  refine pc_iadd dX2_execute_100 ?_
  rw [nI_1]
  refine pc_call (c := 9) (As := fun al => [.int (O pl), .int (A pl), .int (nI (pl + 1))]) dX2_execute_101 cl_X2_50 (by decide) rfl hC (fun _ _ => trivial) rfl rfl (Nat.le_of_ble_eq_true rfl) ⟨rfl, rfl⟩ (fun res sc2 ar2 hn => ?_)
  obtain ⟨v, rfl, hp⟩ := hn
  refine pc_istore dX2_execute_104 (Nat.le_of_ble_eq_true rfl) ?_
  refine pc_iinc dX2_execute_106 rfl (show Int32.ofInt (1) = (1) by decide) ?_
  refine pc_goto (tgt := 53) dX2_execute_109 (by decide) ?_
  rw [nI_1]
  exact kk v _ _ hp
set_option maxHeartbeats 4000000 in
set_option maxRecDepth 20000 in
theorem ex_exit {fx : px_F} {dd : Nat} {Q : px_Q} {al : Nat → Nat} {n : Nat} {g0 : Nat → px_O} {sl : Value} {tf : Nat → Option Nat} {P : Nat} {a b : Int32} {sc ar : Nat → Nat → Int32} {v : Int32} {c : Nat} {post : Option Value → (Nat → Nat → Int32) → (Nat → Nat → Int32) → Prop} (hQ : ∀ res sc2 ar2 g2, post res sc2 ar2 → CR al n g2 sc2 ar2 sl tf → cfr g0 g2 → Q (.inl res) al n g2) (hg : sc 9 6 = 0) (hp : post none sc ar) : JL fx dd Q al n g0 sl tf P a b v c sc ar := by
  show pc fx (px_body pm_X2_execute) dd Q al n g0 sc ar sl tf 53 [.ref (al 9), .ref (al P), .int a, .int b, .int v, .int (nI c)] []
  refine pc_iload dX2_execute_53 rfl ?_
  refine pc_ldc (d := 1000000) dX2_execute_55 (px_big_of (List.mem_append_right _ (List.mem_of_getElem? (i := 622) (by decide +kernel))) rfl) ?_
  refine pc_icmp_ge (tgt := 112) dX2_execute_57 (by decide) (fun c57 => ?_) (fun c57 => ?_)
  ·
    have c579 := Int32.not_lt.mpr c57
    exact pc_vret hQ dX2_execute_112 rfl hp
  ·
    have c579 := Int32.not_le.mp c57
    refine pc_aload_n dX2_execute_60 rfl rfl ?_
    refine pc_getS (c := 9) (v := 0) dX2_execute_61 fk_X2_37 (by decide) rfl rfl hg ?_
    refine pc_if_eq (tgt := 112) dX2_execute_64 (by decide) (fun c64 => ?_) (fun c64 => absurd rfl c64)
    exact pc_vret hQ dX2_execute_112 rfl hp
theorem tmC_some (sg v w s : Int32) : tmC (some (sg, v)) w s = if sg = nI 42 then (some (v * w), s ||| 4) else if w = 0 then (none, s ||| 8) else (some (if sg = nI 47 then v / w else v - v / w * w), s ||| 8) := rfl
section SIM
variable {fx : px_F} {d : Nat} {Q : px_Q} {al : Nat → Nat} {n : Nat} {g0 : Nat → px_O} {sl : Value} {tf : Nat → Option Nat} {P m L : Nat} {S O A : Nat → Int32} {bd : Bool} {a b : Int32} {sc0 ar0 : Nat → Nat → Int32}
/-- one operation: the machine goes on with the state of the contract -/
theorem sm_one (hP : PG al n g0 P m L S O A bd) (hL : L ≤ 121) {sc ar : Nat → Nat → Int32} {V : Nat → Int32} {h : Nat} {St : Nat → Int32} {t : Nat} {s : Int32} (hM : MT sc0 ar0 V h St t s sc ar) {pl c : Nat} (hpl : pl < L) (hc : c < 1000000) {op od : Int32} (hO : O pl = op) (hA : A pl = od) {v : Int32} {V2 : Nat → Int32} {h2 : Nat} {St2 : Nat → Int32} {t2 : Nat} {s2 : Int32} (hC : CP (d + 5) 11 (fun al => [.ref (al 9), .int op, .int od, .int (nI (pl + 1))]) noD sc ar sl tf (fun res sc2 ar2 => res = some (.int v) ∧ MT sc0 ar0 V2 h2 St2 t2 s2 sc2 ar2)) (kk : ∀ sc2 ar2, MT sc0 ar0 V2 h2 St2 t2 s2 sc2 ar2 → JL fx (d + 5) Q al n g0 sl tf P a b v (c + 1) sc2 ar2) : JL fx (d + 5) Q al n g0 sl tf P a b (nI pl) c sc ar := by
  subst hO; subst hA
  refine ex_step hP hL (post := fun x sc2 ar2 => x = v ∧ MT sc0 ar0 V2 h2 St2 t2 s2 sc2 ar2) hM.2.2.2.2.2.2.2.2.1 hpl hc (hC.mono (fun r x y z => ⟨v, z.1, rfl, z.2⟩)) (fun x sc2 ar2 z => ?_)
  obtain ⟨rfl, z⟩ := z
  exact kk sc2 ar2 z
theorem sm_end (hP : PG al n g0 P m L S O A bd) (hL : L ≤ 121) {sc ar : Nat → Nat → Int32} {V : Nat → Int32} {h : Nat} {St : Nat → Int32} {t : Nat} {s : Int32} (hM : MT sc0 ar0 V h St t s sc ar) {pl c : Nat} (hpl : pl < L) (hc : c < 1000000) {op od : Int32} (hO : O pl = op) (hA : A pl = od) {V2 : Nat → Int32} {o t2 : Nat} {s2 : Int32} (hC : CP (d + 5) 11 (fun al => [.ref (al 9), .int op, .int od, .int (nI (pl + 1))]) noD sc ar sl tf (fun res sc2 ar2 => (∃ v, res = some (.int v)) ∧ MO sc0 ar0 V2 o t2 s2 sc2 ar2)) (kk : ∀ v sc2 ar2, MO sc0 ar0 V2 o t2 s2 sc2 ar2 → JL fx (d + 5) Q al n g0 sl tf P a b v (c + 1) sc2 ar2) : JL fx (d + 5) Q al n g0 sl tf P a b (nI pl) c sc ar := by
  subst hO; subst hA
  refine ex_step hP hL (post := fun x sc2 ar2 => MO sc0 ar0 V2 o t2 s2 sc2 ar2) hM.2.2.2.2.2.2.2.2.1 hpl hc (hC.mono (fun r x y z => by obtain ⟨⟨v, rfl⟩, z⟩ := z; exact ⟨v, rfl, z⟩)) (fun x sc2 ar2 z => kk x sc2 ar2 z)
/-- an expression's operations leave its value on the stack -/
theorem sm_expr (hP : PG al n g0 P m L S O A bd) (hL : L ≤ 121) {T : Nat → Int32} : ∀ (f kd dp : Nat) (acc : Option (Int32 × Int32)) (i j p h0 : Nat) (V St : Nat → Int32) (s : Int32) (t c : Nat) (sc ar : Nat → Nat → Int32), 3 ≤ kd → kd < 7 → (∀ sg v, acc = some (sg, v) → (kd = 4 ∧ (sg = nI 43 ∨ sg = nI 45)) ∨ (kd = 5 ∧ (sg = nI 42 ∨ sg = nI 47 ∨ sg = nI 37))) → pP T f kd dp i = some (true, j) → Cd T O A f kd dp false (acc.map Prod.fst) i p → p + nO T f kd dp acc.isSome i ≤ L → h0 + (if acc.isSome = true then 1 else 0) + (j - i) ≤ 120 → MT sc0 ar0 V (h0 + (if acc.isSome = true then 1 else 0)) St t s sc ar → (∀ sg v, acc = some (sg, v) → St h0 = v) → c + nO T f kd dp acc.isSome i < 1000000 →
    (∀ v, (eX T V f kd dp acc i s).1 = some v → ∀ c2 St2 sc2 ar2, c2 ≤ c + nO T f kd dp acc.isSome i → MT sc0 ar0 V (h0 + 1) St2 t (eX T V f kd dp acc i s).2 sc2 ar2 → St2 h0 = v → (∀ y, y < h0 → St2 y = St y) → JL fx (d + 5) Q al n g0 sl tf P a b (nI (p + nO T f kd dp acc.isSome i)) c2 sc2 ar2) →
    ((eX T V f kd dp acc i s).1 = none → ∀ c2 v sc2 ar2, c2 ≤ c + nO T f kd dp acc.isSome i → MO sc0 ar0 V 1 t (eX T V f kd dp acc i s).2 sc2 ar2 → JL fx (d + 5) Q al n g0 sl tf P a b v c2 sc2 ar2) →
    JL fx (d + 5) Q al n g0 sl tf P a b (nI p) c sc ar
  | 0, _, _, _, _, _, _, _, _, _, _, _, _, _, _, _, _, _, h, _, _, _, _, _, _, _, _ => by rw [pP] at h; cases h
  | f + 1, kd, dp, acc, i, j, p, h0, V, St, s, t, c, sc, ar, hk3, hk7, hac, h, hC, hpL, hh, hM, hSt, hc, hk, hz => by
    have IH := sm_expr hP hL (T := T) f
    match kd, hk3, hk7, hac, h, hC, hpL, hc, hk, hz with
    | 0, hk3, _, _, _, _, _, _, _, _ => omega
    | 1, hk3, _, _, _, _, _, _, _, _ => omega
    | 2, hk3, _, _, _, _, _, _, _, _ => omega
    | 3, _, _, hac, h, hC, hpL, hc, hk, hz =>
      have hacn : acc = none := by
        cases acc with
        | none => rfl
        | some x => rcases hac x.1 x.2 rfl with ⟨z, _⟩ | ⟨z, _⟩ <;> cases z
      subst hacn
      simp only [Option.isSome_none, Bool.false_eq_true, if_false, Nat.add_zero] at *
      obtain ⟨q, h1, h2⟩ := pP_t3 h
      have l1 := (pP_lt _ _ _ _ _ (by decide) h1).1
      rw [nO, pE_of h1] at hpL hc hk hz
      rw [eX, pE_of h1] at hk hz
      rw [Cd, pE_of h1] at hC
      have hqj : q ≤ j := by
        rcases h2 with ⟨_, h2⟩ | ⟨_, rfl⟩
        · have := (pP_lt _ _ _ _ _ (by decide) h2).1; omega
        · exact Nat.le_refl _
      refine IH 4 dp none i q p h0 V St s t c sc ar (by decide) (by decide) (fun _ _ z => by cases z) h1 hC.1 (by simp only [Option.isSome_none]; omega) (by simp only [Option.isSome_none, Bool.false_eq_true, if_false]; omega) hM (fun _ _ z => by cases z) (by simp only [Option.isSome_none]; omega) ?_ ?_
      · intro v hv c2 St2 sc2 ar2 hc2 hM2 hS2 hy2
        simp only [Option.isSome_none] at hc2
        rw [bX_s hv] at hk hz
        rcases h2 with ⟨c9, h2⟩ | ⟨c9, rfl⟩
        · simp only [if_pos c9] at hpL hc hk hz
          obtain ⟨d1, d2, d3⟩ := hC.2 c9
          have l2 := (pP_lt _ _ _ _ _ (by decide) h2).1
          refine IH 4 dp none (q + 1) j (p + nO T f 4 dp false i) (h0 + 1) V St2 _ t c2 sc2 ar2 (by decide) (by decide) (fun _ _ z => by cases z) h2 d1 (by simp only [Option.isSome_none]; omega) (by simp only [Option.isSome_none, Bool.false_eq_true, if_false]; omega) hM2 (fun _ _ z => by cases z) (by simp only [Option.isSome_none]; omega) ?_ ?_
          · intro w hw c3 St3 sc3 ar3 hc3 hM3 hS3 hy3
            simp only [Option.isSome_none] at hc3
            rw [bX_s hw] at hk hz
            refine sm_one hP hL hM3 (by simp only [Option.isSome_none]; omega) (by omega) d2 d3 (cp_tLt d _ 16 hM3) (fun sc4 ar4 hM4 => ?_)
            have e9 : p + (nO T f 4 dp false i + (nO T f 4 dp false (q + 1) + 1)) = p + nO T f 4 dp false i + nO T f 4 dp (none : Option (Int32 × Int32)).isSome (q + 1) + 1 := by simp only [Option.isSome_none]; omega
            rw [e9] at hk
            exact hk _ rfl (c3 + 1) _ sc4 ar4 (by omega) hM4 (by rw [pk_us, hS3, hy3 h0 (by omega), hS2]) (fun y hy => by rw [pk_un (by omega), hy3 y (by omega), hy2 y hy])
          · intro hw c3 v3 sc3 ar3 hc3 hM3
            simp only [Option.isSome_none] at hc3
            rw [bX_n hw] at hk hz
            exact hz rfl c3 v3 sc3 ar3 (by omega) hM3
        · simp only [if_neg c9] at hpL hc hk hz
          have := hk v rfl c2 St2 sc2 ar2 (by omega) hM2 hS2 hy2
          simp only [Option.isSome_none, Nat.add_zero] at this ⊢
          exact this
      · intro hv c2 v2 sc2 ar2 hc2 hM2
        simp only [Option.isSome_none] at hc2
        rw [bX_n hv] at hk hz
        exact hz rfl c2 v2 sc2 ar2 (by omega) hM2
    | 4, _, _, hac, h, hC, hpL, hc, hk, hz =>
      obtain ⟨q, h1, h2⟩ := pP_t4 h
      have l1 := (pP_lt _ _ _ _ _ (by decide) h1).1
      have hqj : q ≤ j := by
        rcases h2 with ⟨_, h2⟩ | ⟨_, rfl⟩
        · have := (pP_lt _ _ _ _ _ (by decide) h2).1; omega
        · exact Nat.le_refl _
      rw [nO, pE_of h1] at hpL hc hk hz
      rw [eX, pE_of h1] at hk hz
      rw [Cd, pE_of h1] at hC
      refine IH 5 dp none i q p (h0 + (if acc.isSome = true then 1 else 0)) V St s t c sc ar (by decide) (by decide) (fun _ _ z => by cases z) h1 hC.1 (by simp only [Option.isSome_none]; omega) (by simp only [Option.isSome_none, Bool.false_eq_true, if_false]; omega) hM (fun _ _ z => by cases z) (by simp only [Option.isSome_none]; omega) ?_ ?_
      · intro w hw c2 St2 sc2 ar2 hc2 hM2 hS2 hy2
        simp only [Option.isSome_none] at hc2 ⊢
        rw [bX_s hw] at hk hz
        cases acc with
        | none =>
          simp only [Option.isSome_none, Bool.false_eq_true, if_false, Nat.add_zero] at *
          rw [show smC none w (eX T V f 5 dp none i s).2 = (w, (eX T V f 5 dp none i s).2) from rfl] at hk hz
          rcases h2 with ⟨c9, h2⟩ | ⟨c9, rfl⟩
          · simp only [if_pos c9] at hpL hc hk hz
            have l2 := (pP_lt _ _ _ _ _ (by decide) h2).1
            have d4 := hC.2.2 c9
            simp only [Option.map_none, Option.isSome_none, Bool.false_eq_true, if_false, Nat.add_zero] at d4
            refine IH 4 dp (some (T q, w)) (q + 1) j (p + nO T f 5 dp false i) h0 V St2 _ t c2 sc2 ar2 (by decide) (by decide) (fun sg v z => by cases z; exact Or.inl ⟨rfl, c9⟩) h2 d4 (by simp only [Option.isSome_some]; omega) (by simp only [Option.isSome_some, if_true]; omega) hM2 (fun sg v z => by cases z; exact hS2) (by simp only [Option.isSome_some]; omega) ?_ ?_
            · intro v hv c5 St5 sc5 ar5 hc5 hM5 hS5 hy5
              simp only [Option.isSome_some] at hc5
              have r9 := hk v hv c5 St5 sc5 ar5 (by omega) hM5 hS5 (fun y hy => (hy5 y hy).trans (hy2 y hy))
              simp only [Option.isSome_some]
              rw [show p + nO T f 5 dp false i + nO T f 4 dp true (q + 1) = p + (nO T f 5 dp false i + nO T f 4 dp true (q + 1)) from by omega]
              exact r9
            · intro hv c5 v5 sc5 ar5 hc5 hM5
              simp only [Option.isSome_some] at hc5
              exact hz hv c5 v5 sc5 ar5 (by omega) hM5
          · simp only [if_neg c9] at hpL hc hk hz
            exact hk w rfl c2 _ sc2 ar2 (by omega) hM2 hS2 (fun y hy => hy2 y hy)
        | some sv =>
          obtain ⟨sg, v⟩ := sv
          simp only [Option.isSome_some, if_true] at *
          have hop := hC.2.1 sg rfl
          have hSv : St2 h0 = v := (hy2 h0 (by omega)).trans (hSt sg v rfl)
          have hsg := hac sg v rfl
          have hsg : sg = nI 43 ∨ sg = nI 45 := hsg.elim (fun z => z.2) (fun z => absurd z.1 (by decide))
          rcases hsg with rfl | rfl
          · rw [show smC (some (nI 43, v)) w (eX T V f 5 dp none i s).2 = (v + w, (eX T V f 5 dp none i s).2 ||| 2) from by unfold smC; simp only [if_true]] at hk hz
            refine sm_one hP hL hM2 (by omega) (by omega) hop.1 (hop.2.trans (show sklOf (nI 43) = 2 by decide)) (cp_tAdd d _ 2 hM2) (fun sc4 ar4 hM4 => ?_)
            have hS4 : upd St2 h0 (St2 h0 + St2 (h0 + 1)) h0 = v + w := by rw [pk_us, hSv, hS2]
            rcases h2 with ⟨c9, h2⟩ | ⟨c9, rfl⟩
            · simp only [if_pos c9] at hpL hc hk hz
              have l2 := (pP_lt _ _ _ _ _ (by decide) h2).1
              have d4 := hC.2.2 c9
              simp only [Option.map_some, Option.isSome_some, if_true] at d4
              refine IH 4 dp (some (T q, (v + w))) (q + 1) j (p + nO T f 5 dp false i + 1) h0 V _ _ t (c2 + 1) sc4 ar4 (by decide) (by decide) (fun sg v z => by cases z; exact Or.inl ⟨rfl, c9⟩) h2 d4 (by simp only [Option.isSome_some]; omega) (by simp only [Option.isSome_some, if_true]; omega) hM4 (fun sg v z => by cases z; exact hS4) (by simp only [Option.isSome_some]; omega) ?_ ?_
              · intro v hv c5 St5 sc5 ar5 hc5 hM5 hS5 hy5
                simp only [Option.isSome_some] at hc5
                have r9 := hk v hv c5 St5 sc5 ar5 (by omega) hM5 hS5 (fun y hy => (hy5 y hy).trans ((pk_un (show y ≠ h0 by omega)).trans (hy2 y (by omega))))
                simp only [Option.isSome_some]
                rw [show p + nO T f 5 dp false i + 1 + nO T f 4 dp true (q + 1) = p + (nO T f 5 dp false i + 1 + nO T f 4 dp true (q + 1)) from by omega]
                exact r9
              · intro hv c5 v5 sc5 ar5 hc5 hM5
                simp only [Option.isSome_some] at hc5
                exact hz hv c5 v5 sc5 ar5 (by omega) hM5
            · simp only [if_neg c9] at hpL hc hk hz
              exact hk (v + w) rfl (c2 + 1) _ sc4 ar4 (by omega) hM4 hS4 (fun y hy => (pk_un (show y ≠ h0 by omega)).trans (hy2 y (by omega)))
          · rw [show smC (some (nI 45, v)) w (eX T V f 5 dp none i s).2 = (v - w, (eX T V f 5 dp none i s).2 ||| 2) from by unfold smC; simp only [if_neg (show ¬ nI 45 = nI 43 by decide)]] at hk hz
            refine sm_one hP hL hM2 (by omega) (by omega) hop.1 (hop.2.trans (show sklOf (nI 45) = 2 by decide)) (cp_tSub d _ 2 hM2) (fun sc4 ar4 hM4 => ?_)
            have hS4 : upd St2 h0 (St2 h0 - St2 (h0 + 1)) h0 = v - w := by rw [pk_us, hSv, hS2]
            rcases h2 with ⟨c9, h2⟩ | ⟨c9, rfl⟩
            · simp only [if_pos c9] at hpL hc hk hz
              have l2 := (pP_lt _ _ _ _ _ (by decide) h2).1
              have d4 := hC.2.2 c9
              simp only [Option.map_some, Option.isSome_some, if_true] at d4
              refine IH 4 dp (some (T q, (v - w))) (q + 1) j (p + nO T f 5 dp false i + 1) h0 V _ _ t (c2 + 1) sc4 ar4 (by decide) (by decide) (fun sg v z => by cases z; exact Or.inl ⟨rfl, c9⟩) h2 d4 (by simp only [Option.isSome_some]; omega) (by simp only [Option.isSome_some, if_true]; omega) hM4 (fun sg v z => by cases z; exact hS4) (by simp only [Option.isSome_some]; omega) ?_ ?_
              · intro v hv c5 St5 sc5 ar5 hc5 hM5 hS5 hy5
                simp only [Option.isSome_some] at hc5
                have r9 := hk v hv c5 St5 sc5 ar5 (by omega) hM5 hS5 (fun y hy => (hy5 y hy).trans ((pk_un (show y ≠ h0 by omega)).trans (hy2 y (by omega))))
                simp only [Option.isSome_some]
                rw [show p + nO T f 5 dp false i + 1 + nO T f 4 dp true (q + 1) = p + (nO T f 5 dp false i + 1 + nO T f 4 dp true (q + 1)) from by omega]
                exact r9
              · intro hv c5 v5 sc5 ar5 hc5 hM5
                simp only [Option.isSome_some] at hc5
                exact hz hv c5 v5 sc5 ar5 (by omega) hM5
            · simp only [if_neg c9] at hpL hc hk hz
              exact hk (v - w) rfl (c2 + 1) _ sc4 ar4 (by omega) hM4 hS4 (fun y hy => (pk_un (show y ≠ h0 by omega)).trans (hy2 y (by omega)))
      · intro hv c2 v2 sc2 ar2 hc2 hM2
        simp only [Option.isSome_none] at hc2
        rw [bX_n hv] at hk hz
        exact hz rfl c2 v2 sc2 ar2 (by omega) hM2
    | 5, _, _, hac, h, hC, hpL, hc, hk, hz =>
      obtain ⟨q, h1, h2⟩ := pP_t5 h
      have l1 := (pP_lt _ _ _ _ _ (by decide) h1).1
      have hqj : q ≤ j := by
        rcases h2 with ⟨_, h2⟩ | ⟨_, rfl⟩
        · have := (pP_lt _ _ _ _ _ (by decide) h2).1; omega
        · exact Nat.le_refl _
      rw [nO, pE_of h1] at hpL hc hk hz
      rw [eX, pE_of h1] at hk hz
      rw [Cd, pE_of h1] at hC
      refine IH 6 dp none i q p (h0 + (if acc.isSome = true then 1 else 0)) V St s t c sc ar (by decide) (by decide) (fun _ _ z => by cases z) h1 hC.1 (by simp only [Option.isSome_none]; omega) (by simp only [Option.isSome_none, Bool.false_eq_true, if_false]; omega) hM (fun _ _ z => by cases z) (by simp only [Option.isSome_none]; omega) ?_ ?_
      · intro w hw c2 St2 sc2 ar2 hc2 hM2 hS2 hy2
        simp only [Option.isSome_none] at hc2 ⊢
        rw [bX_s hw] at hk hz
        cases acc with
        | none =>
          simp only [Option.isSome_none, Bool.false_eq_true, if_false, Nat.add_zero] at *
          rw [show tmC none w (eX T V f 6 dp none i s).2 = (some w, (eX T V f 6 dp none i s).2) from rfl, bX_s rfl] at hk hz
          rcases h2 with ⟨c9, h2⟩ | ⟨c9, rfl⟩
          · simp only [if_pos c9] at hpL hc hk hz
            have l2 := (pP_lt _ _ _ _ _ (by decide) h2).1
            have d4 := hC.2.2 c9
            simp only [Option.map_none, Option.isSome_none, Bool.false_eq_true, if_false, Nat.add_zero] at d4
            refine IH 5 dp (some (T q, w)) (q + 1) j (p + nO T f 6 dp false i) h0 V St2 _ t c2 sc2 ar2 (by decide) (by decide) (fun sg v z => by cases z; exact Or.inr ⟨rfl, c9⟩) h2 d4 (by simp only [Option.isSome_some]; omega) (by simp only [Option.isSome_some, if_true]; omega) hM2 (fun sg v z => by cases z; exact hS2) (by simp only [Option.isSome_some]; omega) ?_ ?_
            · intro v hv c5 St5 sc5 ar5 hc5 hM5 hS5 hy5
              simp only [Option.isSome_some] at hc5
              have r9 := hk v hv c5 St5 sc5 ar5 (by omega) hM5 hS5 (fun y hy => (hy5 y hy).trans (hy2 y hy))
              simp only [Option.isSome_some]
              rw [show p + nO T f 6 dp false i + nO T f 5 dp true (q + 1) = p + (nO T f 6 dp false i + nO T f 5 dp true (q + 1)) from by omega]
              exact r9
            · intro hv c5 v5 sc5 ar5 hc5 hM5
              simp only [Option.isSome_some] at hc5
              exact hz hv c5 v5 sc5 ar5 (by omega) hM5
          · simp only [if_neg c9] at hpL hc hk hz
            exact hk w rfl c2 _ sc2 ar2 (by omega) hM2 hS2 (fun y hy => hy2 y hy)
        | some sv =>
          obtain ⟨sg, v⟩ := sv
          simp only [Option.isSome_some, if_true] at *
          have hop := hC.2.1 sg rfl
          have hSv : St2 h0 = v := (hy2 h0 (by omega)).trans (hSt sg v rfl)
          have hsg := hac sg v rfl
          have hsg : sg = nI 42 ∨ sg = nI 47 ∨ sg = nI 37 := hsg.elim (fun z => absurd z.1 (by decide)) (fun z => z.2)
          rcases hsg with rfl | rfl | rfl
          · rw [tmC_some, if_pos rfl, bX_s rfl] at hk hz
            refine sm_one hP hL hM2 (by omega) (by omega) hop.1 (hop.2.trans (show sklOf (nI 42) = 4 by decide)) (cp_tMul d _ 4 hM2) (fun sc4 ar4 hM4 => ?_)
            have hS4 : upd St2 h0 (St2 h0 * St2 (h0 + 1)) h0 = v * w := by rw [pk_us, hSv, hS2]
            rcases h2 with ⟨c9, h2⟩ | ⟨c9, rfl⟩
            · simp only [if_pos c9] at hpL hc hk hz
              have l2 := (pP_lt _ _ _ _ _ (by decide) h2).1
              have d4 := hC.2.2 c9
              simp only [Option.map_some, Option.isSome_some, if_true] at d4
              refine IH 5 dp (some (T q, (v * w))) (q + 1) j (p + nO T f 6 dp false i + 1) h0 V _ _ t (c2 + 1) sc4 ar4 (by decide) (by decide) (fun sg v z => by cases z; exact Or.inr ⟨rfl, c9⟩) h2 d4 (by simp only [Option.isSome_some]; omega) (by simp only [Option.isSome_some, if_true]; omega) hM4 (fun sg v z => by cases z; exact hS4) (by simp only [Option.isSome_some]; omega) ?_ ?_
              · intro v hv c5 St5 sc5 ar5 hc5 hM5 hS5 hy5
                simp only [Option.isSome_some] at hc5
                have r9 := hk v hv c5 St5 sc5 ar5 (by omega) hM5 hS5 (fun y hy => (hy5 y hy).trans ((pk_un (show y ≠ h0 by omega)).trans (hy2 y (by omega))))
                simp only [Option.isSome_some]
                rw [show p + nO T f 6 dp false i + 1 + nO T f 5 dp true (q + 1) = p + (nO T f 6 dp false i + 1 + nO T f 5 dp true (q + 1)) from by omega]
                exact r9
              · intro hv c5 v5 sc5 ar5 hc5 hM5
                simp only [Option.isSome_some] at hc5
                exact hz hv c5 v5 sc5 ar5 (by omega) hM5
            · simp only [if_neg c9] at hpL hc hk hz
              exact hk (v * w) rfl (c2 + 1) _ sc4 ar4 (by omega) hM4 hS4 (fun y hy => (pk_un (show y ≠ h0 by omega)).trans (hy2 y (by omega)))
          · by_cases hw0 : w = 0
            · rw [tmC_some, if_neg (show ¬ nI 47 = nI 42 by decide), if_pos hw0, bX_n rfl] at hk hz
              exact sm_end hP hL hM2 (by omega) (by omega) hop.1 (hop.2.trans (show sklOf (nI 47) = 8 by decide)) (cp_tDiv0 d _ 8 hM2 (hS2.trans hw0)) (fun v4 sc4 ar4 hM4 => hz rfl (c2 + 1) v4 sc4 ar4 (by omega) hM4)
            · rw [tmC_some, if_neg (show ¬ nI 47 = nI 42 by decide), if_neg hw0, if_pos rfl, bX_s rfl] at hk hz
              refine sm_one hP hL hM2 (by omega) (by omega) hop.1 (hop.2.trans (show sklOf (nI 47) = 8 by decide)) (cp_tDiv d _ 8 hM2 (fun z => hw0 (hS2.symm.trans z))) (fun sc4 ar4 hM4 => ?_)
              have hS4 : upd St2 h0 (St2 h0 / St2 (h0 + 1)) h0 = v / w := by rw [pk_us, hSv, hS2]
              rcases h2 with ⟨c9, h2⟩ | ⟨c9, rfl⟩
              · simp only [if_pos c9] at hpL hc hk hz
                have l2 := (pP_lt _ _ _ _ _ (by decide) h2).1
                have d4 := hC.2.2 c9
                simp only [Option.map_some, Option.isSome_some, if_true] at d4
                refine IH 5 dp (some (T q, (v / w))) (q + 1) j (p + nO T f 6 dp false i + 1) h0 V _ _ t (c2 + 1) sc4 ar4 (by decide) (by decide) (fun sg v z => by cases z; exact Or.inr ⟨rfl, c9⟩) h2 d4 (by simp only [Option.isSome_some]; omega) (by simp only [Option.isSome_some, if_true]; omega) hM4 (fun sg v z => by cases z; exact hS4) (by simp only [Option.isSome_some]; omega) ?_ ?_
                · intro v hv c5 St5 sc5 ar5 hc5 hM5 hS5 hy5
                  simp only [Option.isSome_some] at hc5
                  have r9 := hk v hv c5 St5 sc5 ar5 (by omega) hM5 hS5 (fun y hy => (hy5 y hy).trans ((pk_un (show y ≠ h0 by omega)).trans (hy2 y (by omega))))
                  simp only [Option.isSome_some]
                  rw [show p + nO T f 6 dp false i + 1 + nO T f 5 dp true (q + 1) = p + (nO T f 6 dp false i + 1 + nO T f 5 dp true (q + 1)) from by omega]
                  exact r9
                · intro hv c5 v5 sc5 ar5 hc5 hM5
                  simp only [Option.isSome_some] at hc5
                  exact hz hv c5 v5 sc5 ar5 (by omega) hM5
              · simp only [if_neg c9] at hpL hc hk hz
                exact hk (v / w) rfl (c2 + 1) _ sc4 ar4 (by omega) hM4 hS4 (fun y hy => (pk_un (show y ≠ h0 by omega)).trans (hy2 y (by omega)))
          · by_cases hw0 : w = 0
            · rw [tmC_some, if_neg (show ¬ nI 37 = nI 42 by decide), if_pos hw0, bX_n rfl] at hk hz
              exact sm_end hP hL hM2 (by omega) (by omega) hop.1 (hop.2.trans (show sklOf (nI 37) = 8 by decide)) (cp_tRem0 d _ 8 hM2 (hS2.trans hw0)) (fun v4 sc4 ar4 hM4 => hz rfl (c2 + 1) v4 sc4 ar4 (by omega) hM4)
            · rw [tmC_some, if_neg (show ¬ nI 37 = nI 42 by decide), if_neg hw0, if_neg (show ¬ nI 37 = nI 47 by decide), bX_s rfl] at hk hz
              refine sm_one hP hL hM2 (by omega) (by omega) hop.1 (hop.2.trans (show sklOf (nI 37) = 8 by decide)) (cp_tRem d _ 8 hM2 (fun z => hw0 (hS2.symm.trans z))) (fun sc4 ar4 hM4 => ?_)
              have hS4 : upd St2 h0 (St2 h0 - St2 h0 / St2 (h0 + 1) * St2 (h0 + 1)) h0 = v - v / w * w := by rw [pk_us, hSv, hS2]
              rcases h2 with ⟨c9, h2⟩ | ⟨c9, rfl⟩
              · simp only [if_pos c9] at hpL hc hk hz
                have l2 := (pP_lt _ _ _ _ _ (by decide) h2).1
                have d4 := hC.2.2 c9
                simp only [Option.map_some, Option.isSome_some, if_true] at d4
                refine IH 5 dp (some (T q, (v - v / w * w))) (q + 1) j (p + nO T f 6 dp false i + 1) h0 V _ _ t (c2 + 1) sc4 ar4 (by decide) (by decide) (fun sg v z => by cases z; exact Or.inr ⟨rfl, c9⟩) h2 d4 (by simp only [Option.isSome_some]; omega) (by simp only [Option.isSome_some, if_true]; omega) hM4 (fun sg v z => by cases z; exact hS4) (by simp only [Option.isSome_some]; omega) ?_ ?_
                · intro v hv c5 St5 sc5 ar5 hc5 hM5 hS5 hy5
                  simp only [Option.isSome_some] at hc5
                  have r9 := hk v hv c5 St5 sc5 ar5 (by omega) hM5 hS5 (fun y hy => (hy5 y hy).trans ((pk_un (show y ≠ h0 by omega)).trans (hy2 y (by omega))))
                  simp only [Option.isSome_some]
                  rw [show p + nO T f 6 dp false i + 1 + nO T f 5 dp true (q + 1) = p + (nO T f 6 dp false i + 1 + nO T f 5 dp true (q + 1)) from by omega]
                  exact r9
                · intro hv c5 v5 sc5 ar5 hc5 hM5
                  simp only [Option.isSome_some] at hc5
                  exact hz hv c5 v5 sc5 ar5 (by omega) hM5
              · simp only [if_neg c9] at hpL hc hk hz
                exact hk (v - v / w * w) rfl (c2 + 1) _ sc4 ar4 (by omega) hM4 hS4 (fun y hy => (pk_un (show y ≠ h0 by omega)).trans (hy2 y (by omega)))
      · intro hv c2 v2 sc2 ar2 hc2 hM2
        simp only [Option.isSome_none] at hc2
        rw [bX_n hv] at hk hz
        exact hz rfl c2 v2 sc2 ar2 (by omega) hM2
    | 6, _, _, hac, h, hC, hpL, hc, hk, hz =>
      have hacn : acc = none := by
        cases acc with
        | none => rfl
        | some x => rcases hac x.1 x.2 rfl with ⟨z, _⟩ | ⟨z, _⟩ <;> cases z
      subst hacn
      simp only [Option.isSome_none, Bool.false_eq_true, if_false, Nat.add_zero] at *
      rw [nO_6] at hpL hc hk hz
      rw [eX_6] at hk hz
      rw [Cd_6] at hC
      rcases pP_t6 h with ⟨c0, rfl⟩ | ⟨c0, c1, hd, q, h1, h2, rfl⟩
      · rw [if_pos c0] at hpL hc hk hz
        by_cases cb : 1000 ≤ T i
        · rw [if_pos cb] at hk hz
          obtain ⟨d1, d2⟩ := hC.1 cb
          refine sm_one hP hL hM (by omega) (by omega) d1 d2 (cp_tPush d _ (T i - 1000) hM (by omega)) (fun sc4 ar4 hM4 => ?_)
          exact hk _ rfl (c + 1) _ sc4 ar4 (by omega) hM4 pk_us (fun y hy => pk_un (by omega))
        · have cv := c0.resolve_right cb
          rw [if_neg cb, if_neg (fun z => by rw [z] at cv; exact absurd cv (by decide))] at hk hz
          obtain ⟨d1, d2⟩ := hC.2.1 cb cv
          refine sm_one hP hL hM (by omega) (by omega) d1 d2 (cp_tLoad d _ cv hM (by omega)) (fun sc4 ar4 hM4 => ?_)
          exact hk _ rfl (c + 1) _ sc4 ar4 (by omega) hM4 pk_us (fun y hy => pk_un (by omega))
      · rw [if_neg c0] at hpL hc hk hz
        rw [if_neg (fun z => c0 (Or.inr z)), if_pos c1] at hk hz
        have l1 := (pP_lt _ _ _ _ _ (by decide) h1).1
        exact IH 3 (dp + 1) none (i + 1) q p h0 V St s t c sc ar (by decide) (by decide) (fun _ _ z => by cases z) h1 (hC.2.2 c0) (by simp only [Option.isSome_none]; omega) (by simp only [Option.isSome_none, Bool.false_eq_true, if_false]; omega) hM (fun _ _ z => by cases z) (by simp only [Option.isSome_none]; omega) hk hz
end SIM
