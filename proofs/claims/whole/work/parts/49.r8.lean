/-! CUTTING THE TEXT INTO TOKENS: bytes B, e of them -/
def sb (b : Nat) : Int32 := (nI b).toInt8.toInt32
theorem sb_toInt : ∀ b, b < 256 → (sb b).toInt = if b < 128 then (b : Int) else (b : Int) - 256 := by decide +kernel
theorem sb_lo : ∀ b, b < 128 → sb b = nI b := by decide +kernel
def inR (lo hi b : Nat) : Bool := decide (lo ≤ b) && decide (b ≤ hi)
theorem sb_in {lo hi b : Nat} (h0 : 0 < lo) (h1 : hi < 128) (hb : b < 256) : (¬ sb b < nI lo ∧ ¬ nI hi < sb b) ↔ (lo ≤ b ∧ b ≤ hi) ∨ hi < lo ∧ (¬ sb b < nI lo ∧ ¬ nI hi < sb b) := by
  have e := sb_toInt b hb
  by_cases hl : hi < lo
  · constructor
    · intro z; exact Or.inr ⟨hl, z⟩
    · rintro (z | z)
      · omega
      · exact z.2
  · rw [Int32.lt_iff_toInt_lt, Int32.lt_iff_toInt_lt, nI_toInt (n := lo) (by omega), nI_toInt (n := hi) (by omega), e]
    constructor
    · intro z
      refine Or.inl ?_
      split at z <;> omega
    · rintro (z | z)
      · split <;> omega
      · omega
/-- the first place from p on, of m, whose byte isn't of the kind c -/
def spn (c : Nat → Bool) (B : Nat → Nat) : Nat → Nat → Nat
  | 0, p => p
  | m + 1, p => if c (B p) then spn c B m (p + 1) else p
theorem spn_ge (c : Nat → Bool) (B : Nat → Nat) : ∀ m p, p ≤ spn c B m p ∧ spn c B m p ≤ p + m
  | 0, p => ⟨Nat.le_refl _, Nat.le_refl _⟩
  | m + 1, p => by
    rw [spn]
    split
    · have := spn_ge c B m (p + 1)
      omega
    · omega
def isBl (b : Nat) : Bool := inR 32 32 b
def isL (b : Nat) : Bool := inR 97 122 b
def isD (b : Nat) : Bool := inR 48 57 b
def isSg (b : Nat) : Bool := decide (b = 61) || decide (b = 123) || decide (b = 125) || decide (b = 59) || decide (b = 40) || decide (b = 41) || decide (b = 60) || decide (b = 43) || decide (b = 45) || decide (b = 42) || decide (b = 47) || decide (b = 37)
def isSgI (b : Int32) : Bool := decide (b = 61) || decide (b = 123) || decide (b = 125) || decide (b = 59) || decide (b = 40) || decide (b = 41) || decide (b = 60) || decide (b = 43) || decide (b = 45) || decide (b = 42) || decide (b = 47) || decide (b = 37)
theorem isSg_sb : ∀ b, b < 256 → isSgI (sb b) = isSg b := by decide +kernel
theorem isSg_lo : ∀ b, b < 256 → isSg b = true → b < 128 := by decide +kernel
def wE (B : Nat → Nat) (b i : Nat) : Nat → Bool
  | 0 => true
  | k + 1 => wE B b i k && decide (nI (B (b + k)) = sTx i k)
def wIs (B : Nat → Nat) (b a i : Nat) : Bool := decide (a - b = px_len.getD i 0) && wE B b i (px_len.getD i 0)
def num (B : Nat → Nat) (b : Nat) : Nat → Nat
  | 0 => 0
  | k + 1 => 10 * num B b k + (B (b + k) - 48)
/-- the token that begins at b: 0 the end, -2 none -/
def lexT (B : Nat → Nat) (e b : Nat) : Int32 :=
  if b = e then 0
  else if isL (B b) = true then (if spn isL B (e - b) b = b + 1 then (if isVar (nI (B b)) = true then nI (B b) else -2) else if wIs B b (spn isL B (e - b) b) 1 = true then 256 else if wIs B b (spn isL B (e - b) b) 2 = true then 257 else if wIs B b (spn isL B (e - b) b) 3 = true then 258 else -2)
  else if isD (B b) = true then (if b + 6 < spn isD B (e - b) b then -2 else nI (1000 + num B b (spn isD B (e - b) b - b)))
  else if isSg (B b) = true then nI (B b) else -2
/-- where it ends -/
def lexA (B : Nat → Nat) (e b : Nat) : Nat :=
  if b = e then b else if isL (B b) = true then spn isL B (e - b) b else if isD (B b) = true then spn isD B (e - b) b else b + 1
/-- the reference's own numbers of tokens -/
def rT (t : Int32) : Int32 := if t = 0 then -2 else if t = -2 then -3 else t
/-- what the reference's tape is -/
def rB (sc : Nat → Int32) (ar : Nat → Nat → Int32) (B : Nat → Nat) (e : Nat) : Prop := sc 4 = nI e ∧ e ≤ 400 ∧ ∀ j, j < e → ar 0 j = sb (B j) ∧ B j < 256
set_option maxHeartbeats 4000000 in
set_option maxRecDepth 20000 in
theorem rc_isSign (d : Nat) (c : Int32) : SC (d + 1) 98 [.int c] (some (.int (zB (isSgI c)))) := by
  refine SC.of pm_X10_isSign rfl rfl (Nat.le_of_ble_eq_true rfl) ?_
  intro fx al n g Q hQ
  show pg px_tb fx (px_body pm_X10_isSign) (pm px_tb fx (d)) Q al n g 0 [.int c] [] 0 0
  refine pg_iload_n dX10_isSign_0 rfl ?_
  refine pg_bipush dX10_isSign_1 (show (Int8.ofInt (61)).toInt32 = (61) by decide) ?_
  refine pg_icmp_eq (tgt := 72) dX10_isSign_3 (by decide) (fun c3 => ?_) (fun c3 => ?_)
  ·
    refine pg_iconst dX10_isSign_72 (show Int32.ofInt (1) = (1) by decide) ?_
    refine pg_goto (tgt := 77) dX10_isSign_73 (by decide) ?_
    exact sg_iret hQ dX10_isSign_77 rfl rfl (by simp [zB, isSgI, c3])
  ·
    refine pg_iload_n dX10_isSign_6 rfl ?_
    refine pg_bipush dX10_isSign_7 (show (Int8.ofInt (123)).toInt32 = (123) by decide) ?_
    refine pg_icmp_eq (tgt := 72) dX10_isSign_9 (by decide) (fun c9 => ?_) (fun c9 => ?_)
    ·
      refine pg_iconst dX10_isSign_72 (show Int32.ofInt (1) = (1) by decide) ?_
      refine pg_goto (tgt := 77) dX10_isSign_73 (by decide) ?_
      exact sg_iret hQ dX10_isSign_77 rfl rfl (by simp [zB, isSgI, c3, c9])
    ·
      refine pg_iload_n dX10_isSign_12 rfl ?_
      refine pg_bipush dX10_isSign_13 (show (Int8.ofInt (125)).toInt32 = (125) by decide) ?_
      refine pg_icmp_eq (tgt := 72) dX10_isSign_15 (by decide) (fun c15 => ?_) (fun c15 => ?_)
      ·
        refine pg_iconst dX10_isSign_72 (show Int32.ofInt (1) = (1) by decide) ?_
        refine pg_goto (tgt := 77) dX10_isSign_73 (by decide) ?_
        exact sg_iret hQ dX10_isSign_77 rfl rfl (by simp [zB, isSgI, c3, c9, c15])
      ·
        refine pg_iload_n dX10_isSign_18 rfl ?_
        refine pg_bipush dX10_isSign_19 (show (Int8.ofInt (59)).toInt32 = (59) by decide) ?_
        refine pg_icmp_eq (tgt := 72) dX10_isSign_21 (by decide) (fun c21 => ?_) (fun c21 => ?_)
        ·
          refine pg_iconst dX10_isSign_72 (show Int32.ofInt (1) = (1) by decide) ?_
          refine pg_goto (tgt := 77) dX10_isSign_73 (by decide) ?_
          exact sg_iret hQ dX10_isSign_77 rfl rfl (by simp [zB, isSgI, c3, c9, c15, c21])
        ·
          refine pg_iload_n dX10_isSign_24 rfl ?_
          refine pg_bipush dX10_isSign_25 (show (Int8.ofInt (40)).toInt32 = (40) by decide) ?_
          refine pg_icmp_eq (tgt := 72) dX10_isSign_27 (by decide) (fun c27 => ?_) (fun c27 => ?_)
          ·
            refine pg_iconst dX10_isSign_72 (show Int32.ofInt (1) = (1) by decide) ?_
            refine pg_goto (tgt := 77) dX10_isSign_73 (by decide) ?_
            exact sg_iret hQ dX10_isSign_77 rfl rfl (by simp [zB, isSgI, c3, c9, c15, c21, c27])
          ·
            refine pg_iload_n dX10_isSign_30 rfl ?_
            refine pg_bipush dX10_isSign_31 (show (Int8.ofInt (41)).toInt32 = (41) by decide) ?_
            refine pg_icmp_eq (tgt := 72) dX10_isSign_33 (by decide) (fun c33 => ?_) (fun c33 => ?_)
            ·
              refine pg_iconst dX10_isSign_72 (show Int32.ofInt (1) = (1) by decide) ?_
              refine pg_goto (tgt := 77) dX10_isSign_73 (by decide) ?_
              exact sg_iret hQ dX10_isSign_77 rfl rfl (by simp [zB, isSgI, c3, c9, c15, c21, c27, c33])
            ·
              refine pg_iload_n dX10_isSign_36 rfl ?_
              refine pg_bipush dX10_isSign_37 (show (Int8.ofInt (60)).toInt32 = (60) by decide) ?_
              refine pg_icmp_eq (tgt := 72) dX10_isSign_39 (by decide) (fun c39 => ?_) (fun c39 => ?_)
              ·
                refine pg_iconst dX10_isSign_72 (show Int32.ofInt (1) = (1) by decide) ?_
                refine pg_goto (tgt := 77) dX10_isSign_73 (by decide) ?_
                exact sg_iret hQ dX10_isSign_77 rfl rfl (by simp [zB, isSgI, c3, c9, c15, c21, c27, c33, c39])
              ·
                refine pg_iload_n dX10_isSign_42 rfl ?_
                refine pg_bipush dX10_isSign_43 (show (Int8.ofInt (43)).toInt32 = (43) by decide) ?_
                refine pg_icmp_eq (tgt := 72) dX10_isSign_45 (by decide) (fun c45 => ?_) (fun c45 => ?_)
                ·
                  refine pg_iconst dX10_isSign_72 (show Int32.ofInt (1) = (1) by decide) ?_
                  refine pg_goto (tgt := 77) dX10_isSign_73 (by decide) ?_
                  exact sg_iret hQ dX10_isSign_77 rfl rfl (by simp [zB, isSgI, c3, c9, c15, c21, c27, c33, c39, c45])
                ·
                  refine pg_iload_n dX10_isSign_48 rfl ?_
                  refine pg_bipush dX10_isSign_49 (show (Int8.ofInt (45)).toInt32 = (45) by decide) ?_
                  refine pg_icmp_eq (tgt := 72) dX10_isSign_51 (by decide) (fun c51 => ?_) (fun c51 => ?_)
                  ·
                    refine pg_iconst dX10_isSign_72 (show Int32.ofInt (1) = (1) by decide) ?_
                    refine pg_goto (tgt := 77) dX10_isSign_73 (by decide) ?_
                    exact sg_iret hQ dX10_isSign_77 rfl rfl (by simp [zB, isSgI, c3, c9, c15, c21, c27, c33, c39, c45, c51])
                  ·
                    refine pg_iload_n dX10_isSign_54 rfl ?_
                    refine pg_bipush dX10_isSign_55 (show (Int8.ofInt (42)).toInt32 = (42) by decide) ?_
                    refine pg_icmp_eq (tgt := 72) dX10_isSign_57 (by decide) (fun c57 => ?_) (fun c57 => ?_)
                    ·
                      refine pg_iconst dX10_isSign_72 (show Int32.ofInt (1) = (1) by decide) ?_
                      refine pg_goto (tgt := 77) dX10_isSign_73 (by decide) ?_
                      exact sg_iret hQ dX10_isSign_77 rfl rfl (by simp [zB, isSgI, c3, c9, c15, c21, c27, c33, c39, c45, c51, c57])
                    ·
                      refine pg_iload_n dX10_isSign_60 rfl ?_
                      refine pg_bipush dX10_isSign_61 (show (Int8.ofInt (47)).toInt32 = (47) by decide) ?_
                      refine pg_icmp_eq (tgt := 72) dX10_isSign_63 (by decide) (fun c63 => ?_) (fun c63 => ?_)
                      ·
                        refine pg_iconst dX10_isSign_72 (show Int32.ofInt (1) = (1) by decide) ?_
                        refine pg_goto (tgt := 77) dX10_isSign_73 (by decide) ?_
                        exact sg_iret hQ dX10_isSign_77 rfl rfl (by simp [zB, isSgI, c3, c9, c15, c21, c27, c33, c39, c45, c51, c57, c63])
                      ·
                        refine pg_iload_n dX10_isSign_66 rfl ?_
                        refine pg_bipush dX10_isSign_67 (show (Int8.ofInt (37)).toInt32 = (37) by decide) ?_
                        refine pg_icmp_ne (tgt := 76) dX10_isSign_69 (by decide) (fun c69 => ?_) (fun c69 => ?_)
                        ·
                          refine pg_iconst dX10_isSign_76 (show Int32.ofInt (0) = (0) by decide) ?_
                          exact sg_iret hQ dX10_isSign_77 rfl rfl (by simp [zB, isSgI, c3, c9, c15, c21, c27, c33, c39, c45, c51, c57, c63, c69])
                        ·
                          refine pg_iconst dX10_isSign_72 (show Int32.ofInt (1) = (1) by decide) ?_
                          refine pg_goto (tgt := 77) dX10_isSign_73 (by decide) ?_
                          exact sg_iret hQ dX10_isSign_77 rfl rfl (by simp [zB, isSgI, c3, c9, c15, c21, c27, c33, c39, c45, c51, c57, c63, c69])
set_option maxHeartbeats 4000000 in
set_option maxRecDepth 20000 in
theorem rc_isAt (d : Nat) (sc : Nat → Int32) (ar : Nat → Nat → Int32) {B : Nat → Nat} {e p lo hi : Nat} (hB : rB sc ar B e) (h0 : 0 < lo) (hlh : lo ≤ hi) (h1 : hi < 128) (hp : p < 2 ^ 30) : RC (d + 1) 95 [.int (nI p), .int (nI lo), .int (nI hi)] sc ar (some (.int (zB (decide (p < e) && inR lo hi (B p))))) (sc) (ar) := by
  refine RC.of pm_X10_isAt rfl rfl (Nat.le_of_ble_eq_true rfl) ?_
  intro fx al n g0 r Q hQ
  show pr fx (px_body pm_X10_isAt) (d) Q al n g0 r sc ar 0 [.ref (al r), .int (nI p), .int (nI lo), .int (nI hi)] []
  have hlt : nI e ≤ nI p → ¬ p < e := fun z w => nI_ge w (by have := hB.2.1; omega) z
  refine pr_iload_n dX10_isAt_0 rfl ?_
  refine pr_aload_n dX10_isAt_1 rfl rfl ?_
  refine pr_getS (v := nI e) dX10_isAt_2 fk_X10_85 rfl hB.1 ?_
  refine pr_icmp_ge (tgt := 32) dX10_isAt_5 (by decide) (fun c5 => ?_) (fun c5 => ?_)
  ·
    have c59 := Int32.not_lt.mpr c5
    refine pr_iconst dX10_isAt_32 (show Int32.ofInt (0) = (0) by decide) ?_
    exact pr_iret hQ dX10_isAt_33 rfl rfl (by rw [zB_f (by simp [hlt c5])]) rfl rfl
  ·
    have c59 := Int32.not_le.mp c5
    refine pr_aload_n dX10_isAt_8 rfl rfl ?_
    refine pr_getA dX10_isAt_9 fk_X10_9 rfl ?_
    refine pr_iload_n dX10_isAt_12 rfl ?_
    have hpe : p < e := Nat.lt_of_not_le (fun z => c5 (nI_le z (by omega)))
    have hbp := hB.2.2 p hpe
    have hin := sb_in h0 h1 hbp.2
    refine pr_bald (v := sb (B p)) (j := p) dX10_isAt_13 (by decide) rfl rfl (by have z := hB.2.1; show p < 400; omega) hbp.1 ?_
    refine pr_iload_n dX10_isAt_14 rfl ?_
    refine pr_icmp_lt (tgt := 32) dX10_isAt_15 (by decide) (fun c15 => ?_) (fun c15 => ?_)
    ·
      have c159 := Int32.not_le.mpr c15
      refine pr_iconst dX10_isAt_32 (show Int32.ofInt (0) = (0) by decide) ?_
      exact pr_iret hQ dX10_isAt_33 rfl rfl (by rw [zB_f (by have : ¬ (lo ≤ B p ∧ B p ≤ hi) := fun z => (hin.mpr (Or.inl z)).1 c15; simp [inR]; omega)]) rfl rfl
    ·
      have c159 := Int32.not_lt.mp c15
      refine pr_aload_n dX10_isAt_18 rfl rfl ?_
      refine pr_getA dX10_isAt_19 fk_X10_9 rfl ?_
      refine pr_iload_n dX10_isAt_22 rfl ?_
      refine pr_bald (v := sb (B p)) (j := p) dX10_isAt_23 (by decide) rfl rfl (by have z := hB.2.1; show p < 400; omega) hbp.1 ?_
      refine pr_iload_n dX10_isAt_24 rfl ?_
      refine pr_icmp_gt (tgt := 32) dX10_isAt_25 (by decide) (fun c25 => ?_) (fun c25 => ?_)
      ·
        have c259 := Int32.not_le.mpr c25
        refine pr_iconst dX10_isAt_32 (show Int32.ofInt (0) = (0) by decide) ?_
        exact pr_iret hQ dX10_isAt_33 rfl rfl (by rw [zB_f (by have : ¬ (lo ≤ B p ∧ B p ≤ hi) := fun z => (hin.mpr (Or.inl z)).2 c25; simp [inR]; omega)]) rfl rfl
      ·
        have c259 := Int32.not_lt.mp c25
        refine pr_iconst dX10_isAt_28 (show Int32.ofInt (1) = (1) by decide) ?_
        refine pr_goto (tgt := 33) dX10_isAt_29 (by decide) ?_
        exact pr_iret hQ dX10_isAt_33 rfl rfl (by rw [zB_t (by have := (hin.mp ⟨c15, c25⟩).resolve_right (fun z => absurd z.1 (by omega)); simp [inR, hpe, this])]) rfl rfl
