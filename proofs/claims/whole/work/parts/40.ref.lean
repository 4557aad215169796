/-! THE REFERENCE: one object (cell r), its scalars 'sc' by field, its rows 'ar' by number (cells r+1 ..) -/
def rf_a (k : Nat) : Option Nat := match k with
  | 1 => some 0
  | 8 => some 1
  | 9 => some 2
  | 13 => some 3
  | 14 => some 4
  | 15 => some 5
  | 18 => some 6
  | 19 => some 7
  | 20 => some 8
  | 26 => some 9
  | 27 => some 10
  | 28 => some 11
  | 29 => some 12
  | 33 => some 13
  | 34 => some 14
  | 35 => some 15
  | 36 => some 16
  | 37 => some 17
  | 38 => some 18
  | 39 => some 19
  | 40 => some 20
  | _ => none
def rf_len (a : Nat) : Nat := match a with
  | 0 => 400
  | 1 => 5
  | 2 => 120
  | 3 => 120
  | 4 => 120
  | 5 => 120
  | 6 => 120
  | 7 => 121
  | 8 => 128
  | 9 => 10
  | 10 => 10
  | 11 => 10
  | 12 => 180
  | 13 => 10
  | 14 => 100
  | 15 => 12000
  | 16 => 80
  | 17 => 9600
  | 18 => 64
  | 19 => 256
  | 20 => 14641
  | _ => 0
def rf_tag (a : Nat) : Nat := match a with
  | 0 => 1
  | 5 => 2
  | 7 => 2
  | _ => 0
def rf_F (al : Nat → Nat) (r : Nat) (sc : Nat → Int32) : Nat → Value := fun k => match rf_a k with
  | some a => .ref (al (r + 1 + a))
  | none => .int (sc k)
def RR (al : Nat → Nat) (n : Nat) (g : Nat → px_O) (r : Nat) (sc : Nat → Int32) (ar : Nat → Nat → Int32) : Prop := r + 22 ≤ n ∧ g r = .inr (10, rf_F al r sc) ∧ ∀ a, a < 21 → g (r + 1 + a) = .inl (rf_tag a, rf_len a, .inl (ar a))
def rf_fr (r : Nat) (g g2 : Nat → px_O) : Prop := ∀ k, k < r ∨ r + 22 ≤ k → g2 k = g k
theorem rf_fr.rf {r : Nat} {g : Nat → px_O} : rf_fr r g g := fun _ _ => rfl
theorem rf_fr.tr {r : Nat} {g g2 g3 : Nat → px_O} (h : rf_fr r g g2) (h2 : rf_fr r g2 g3) : rf_fr r g g3 := fun k hk => (h2 k hk).trans (h k hk)
theorem rf_F_get {al : Nat → Nat} {r : Nat} {sc : Nat → Int32} {k : Nat} (h : rf_a k = none) : rf_F al r sc k = .int (sc k) := by unfold rf_F; rw [h]
theorem rf_F_arr {al : Nat → Nat} {r : Nat} {sc : Nat → Int32} {k a : Nat} (h : rf_a k = some a) : rf_F al r sc k = .ref (al (r + 1 + a)) := by unfold rf_F; rw [h]
theorem rf_F_put {al : Nat → Nat} {r : Nat} {sc : Nat → Int32} {k : Nat} {v : Int32} (h : rf_a k = none) : va_up (rf_F al r sc) k (.int v) = rf_F al r (upd sc k v) := by
  funext j
  by_cases e : j = k
  · subst e
    rw [va_up_self, rf_F_get h, pk_us]
  · rw [va_up_ne _ _ e]
    unfold rf_F
    cases rf_a j with
    | none => rw [pk_un e]
    | some a => rfl
theorem RR.put {al : Nat → Nat} {n : Nat} {g : Nat → px_O} {r : Nat} {sc : Nat → Int32} {ar : Nat → Nat → Int32} {k : Nat} {v : Int32} (h : RR al n g r sc ar) (hk : rf_a k = none) : RR al n (va_up g r (.inr (10, va_up (rf_F al r sc) k (.int v)))) r (upd sc k v) ar := by
  refine ⟨h.1, by rw [va_up_self, rf_F_put hk], fun a ha => ?_⟩
  rw [va_up_ne _ _ (by omega)]
  exact h.2.2 a ha
theorem RR.ast {al : Nat → Nat} {n : Nat} {g : Nat → px_O} {r : Nat} {sc : Nat → Int32} {ar : Nat → Nat → Int32} {a : Nat} {f : Nat → Int32} (h : RR al n g r sc ar) (ha : a < 21) : RR al n (va_up g (r + 1 + a) (.inl (rf_tag a, rf_len a, .inl f))) r sc (va_up ar a f) := by
  refine ⟨h.1, by rw [va_up_ne _ _ (by omega)]; exact h.2.1, fun b hb => ?_⟩
  by_cases e : b = a
  · subst e
    rw [va_up_self, va_up_self]
  · rw [va_up_ne _ _ (by omega), va_up_ne _ _ e]
    exact h.2.2 b hb
theorem rf_fr.put {r : Nat} {g0 g : Nat → px_O} {o : px_O} {k : Nat} (h : rf_fr r g0 g) (hk : r ≤ k ∧ k < r + 22) : rf_fr r g0 (va_up g k o) := fun j hj => by rw [va_up_ne _ _ (by omega)]; exact h j hj
/-- the run of a body of the reference's, from here -/
def pr (fx : px_F) (bd : px_B) (d : Nat) (Q : px_Q) (al : Nat → Nat) (n : Nat) (g0 : Nat → px_O) (r : Nat) (sc : Nat → Int32) (ar : Nat → Nat → Int32) (pc : Nat) (ls st : List Value) : Prop :=
  ∀ g, RR al n g r sc ar → rf_fr r g0 g → pg px_tb fx bd (pm px_tb fx d) Q al n g pc ls st 0 0
/-- what a method of the reference does: its arguments, the state, its answer, the state behind it -/
def RC (d k : Nat) (as : List Value) (sc : Nat → Int32) (ar : Nat → Nat → Int32) (res : Option Value) (sc2 : Nat → Int32) (ar2 : Nat → Nat → Int32) : Prop :=
  ∀ (fx : px_F) (al : Nat → Nat) (n : Nat) (g : Nat → px_O) (r : Nat) (Q : px_Q), RR al n g r sc ar → (∀ g2, RR al n g2 r sc2 ar2 → rf_fr r g g2 → Q (.inl res) al n g2) → pm px_tb fx d k (.ref (al r) :: as) al n g Q
/-- the same, by a promise on answer and state -/
def RP (d k : Nat) (as : List Value) (sc : Nat → Int32) (ar : Nat → Nat → Int32) (post : Option Value → (Nat → Int32) → (Nat → Nat → Int32) → Prop) : Prop :=
  ∀ (fx : px_F) (al : Nat → Nat) (n : Nat) (g : Nat → px_O) (r : Nat) (Q : px_Q), RR al n g r sc ar → (∀ res sc2 ar2 g2, post res sc2 ar2 → RR al n g2 r sc2 ar2 → rf_fr r g g2 → Q (.inl res) al n g2) → pm px_tb fx d k (.ref (al r) :: as) al n g Q
theorem RP.of {d k : Nat} {as : List Value} {sc : Nat → Int32} {ar : Nat → Nat → Int32} {post : Option Value → (Nat → Int32) → (Nat → Nat → Int32) → Prop} (m : px_M) (hm : px_tb k = some m) (hi : as.all px_isI = true) (hl : as.length + 1 ≤ m.2.2.1)
    (h : ∀ fx al n g0 r Q, (∀ res sc2 ar2 g2, post res sc2 ar2 → RR al n g2 r sc2 ar2 → rf_fr r g0 g2 → Q (.inl res) al n g2) → pr fx (px_body m) d Q al n g0 r sc ar 0 (px_in (.ref (al r) :: as) m.2.2.1) []) : RP (d + 1) k as sc ar post :=
  fun fx al n g r Q hR hQ => ⟨m, hm, by rw [List.all_cons, hi]; rfl, hl, h fx al n g r Q hQ g hR rf_fr.rf⟩
theorem RC.toP {d k : Nat} {as : List Value} {sc : Nat → Int32} {ar : Nat → Nat → Int32} {res : Option Value} {sc2 : Nat → Int32} {ar2 : Nat → Nat → Int32} (h : RC d k as sc ar res sc2 ar2) : RP d k as sc ar (fun r s a => r = res ∧ s = sc2 ∧ a = ar2) :=
  fun fx al n g r Q hR hQ => h fx al n g r Q hR (fun g2 hR2 hF2 => hQ res sc2 ar2 g2 ⟨rfl, rfl, rfl⟩ hR2 hF2)
theorem RP.mono {d k : Nat} {as : List Value} {sc : Nat → Int32} {ar : Nat → Nat → Int32} {post post' : Option Value → (Nat → Int32) → (Nat → Nat → Int32) → Prop} (h : RP d k as sc ar post) (hp : ∀ r s a, post r s a → post' r s a) : RP d k as sc ar post' :=
  fun fx al n g r Q hR hQ => h fx al n g r Q hR (fun res sc2 ar2 g2 z => hQ res sc2 ar2 g2 (hp _ _ _ z))
theorem RP.toC {d k : Nat} {as : List Value} {sc : Nat → Int32} {ar : Nat → Nat → Int32} {res : Option Value} {sc2 : Nat → Int32} {ar2 : Nat → Nat → Int32} (h : RP d k as sc ar (fun r s a => r = res ∧ s = sc2 ∧ a = ar2)) : RC d k as sc ar res sc2 ar2 :=
  fun fx al n g r Q hR hQ => h fx al n g r Q hR (fun r9 s9 a9 g2 z hR2 hF2 => by obtain ⟨rfl, rfl, rfl⟩ := z; exact hQ g2 hR2 hF2)
/-- what a static method does that looks at nothing -/
def SC (d k : Nat) (as : List Value) (res : Option Value) : Prop := ∀ (fx : px_F) (al : Nat → Nat) (n : Nat) (g : Nat → px_O) (Q : px_Q), Q (.inl res) al n g → pm px_tb fx d k as al n g Q
theorem RC.of {d k : Nat} {as : List Value} {sc : Nat → Int32} {ar : Nat → Nat → Int32} {res : Option Value} {sc2 : Nat → Int32} {ar2 : Nat → Nat → Int32} (m : px_M) (hm : px_tb k = some m) (hi : as.all px_isI = true) (hl : as.length + 1 ≤ m.2.2.1)
    (h : ∀ fx al n g0 r Q, (∀ g2, RR al n g2 r sc2 ar2 → rf_fr r g0 g2 → Q (.inl res) al n g2) → pr fx (px_body m) d Q al n g0 r sc ar 0 (px_in (.ref (al r) :: as) m.2.2.1) []) : RC (d + 1) k as sc ar res sc2 ar2 :=
  fun fx al n g r Q hR hQ => ⟨m, hm, by rw [List.all_cons, hi]; rfl, hl, h fx al n g r Q hQ g hR rf_fr.rf⟩
theorem SC.of {d k : Nat} {as : List Value} {res : Option Value} (m : px_M) (hm : px_tb k = some m) (hi : as.all px_isI = true) (hl : as.length ≤ m.2.2.1)
    (h : ∀ fx al n g Q, Q (.inl res) al n g → pg px_tb fx (px_body m) (pm px_tb fx d) Q al n g 0 (px_in as m.2.2.1) [] 0 0) : SC (d + 1) k as res :=
  fun fx al n g Q hQ => ⟨m, hm, hi, hl, h fx al n g Q hQ⟩
theorem rf_len_lt (a : Nat) : rf_len a < 2 ^ 31 := by
  unfold rf_len
  split <;> decide
section PRR
variable {fx : px_F} {bd : px_B} {dd : Nat} {Q : px_Q} {al : Nat → Nat} {n : Nat} {g0 : Nat → px_O} {r : Nat} {sc : Nat → Int32} {ar : Nat → Nat → Int32} {pc : Nat} {ls st : List Value}
theorem pr_iload_n {k : Fin 4} {x : Int32} (h0 : decode bd.2.1 pc = .ok (.iload_n k, 1)) (h1 : ls[(k : Nat)]? = some (.int x)) (h2 : pr fx bd dd Q al n g0 r sc ar (pc + 1) (ls) (.int x :: st)) : pr fx bd dd Q al n g0 r sc ar (pc) (ls) (st) := fun g hR hF => pg_iload_n h0 h1 (h2 g hR hF)
theorem pr_iload {i : Nat} {x : Int32} (h0 : decode bd.2.1 pc = .ok (.iload i, 2)) (h1 : ls[i]? = some (.int x)) (h2 : pr fx bd dd Q al n g0 r sc ar (pc + 2) (ls) (.int x :: st)) : pr fx bd dd Q al n g0 r sc ar (pc) (ls) (st) := fun g hR hF => pg_iload h0 h1 (h2 g hR hF)
theorem pr_aload_n {k : Fin 4} {v : Value} (h0 : decode bd.2.1 pc = .ok (.aload_n k, 1)) (h1 : ls[(k : Nat)]? = some v) (h2 : px_isR v = true) (h3 : pr fx bd dd Q al n g0 r sc ar (pc + 1) (ls) (v :: st)) : pr fx bd dd Q al n g0 r sc ar (pc) (ls) (st) := fun g hR hF => pg_aload_n h0 h1 h2 (h3 g hR hF)
theorem pr_aload {i : Nat} {v : Value} (h0 : decode bd.2.1 pc = .ok (.aload i, 2)) (h1 : ls[i]? = some v) (h2 : px_isR v = true) (h3 : pr fx bd dd Q al n g0 r sc ar (pc + 2) (ls) (v :: st)) : pr fx bd dd Q al n g0 r sc ar (pc) (ls) (st) := fun g hR hF => pg_aload h0 h1 h2 (h3 g hR hF)
theorem pr_istore_n {k : Fin 4} {x : Int32} (h0 : decode bd.2.1 pc = .ok (.istore_n k, 1)) (h1 : (k : Nat) < ls.length) (h2 : pr fx bd dd Q al n g0 r sc ar (pc + 1) (ls.set (k : Nat) (.int x)) (st)) : pr fx bd dd Q al n g0 r sc ar (pc) (ls) (.int x :: st) := fun g hR hF => pg_istore_n h0 h1 (h2 g hR hF)
theorem pr_istore {i : Nat} {x : Int32} (h0 : decode bd.2.1 pc = .ok (.istore i, 2)) (h1 : i < ls.length) (h2 : pr fx bd dd Q al n g0 r sc ar (pc + 2) (ls.set i (.int x)) (st)) : pr fx bd dd Q al n g0 r sc ar (pc) (ls) (.int x :: st) := fun g hR hF => pg_istore h0 h1 (h2 g hR hF)
theorem pr_astore_n {k : Fin 4} {v : Value} (h0 : decode bd.2.1 pc = .ok (.astore_n k, 1)) (h1 : (k : Nat) < ls.length) (h2 : px_isR v = true) (h3 : pr fx bd dd Q al n g0 r sc ar (pc + 1) (ls.set (k : Nat) v) (st)) : pr fx bd dd Q al n g0 r sc ar (pc) (ls) (v :: st) := fun g hR hF => pg_astore_n h0 h1 h2 (h3 g hR hF)
theorem pr_astore {i : Nat} {v : Value} (h0 : decode bd.2.1 pc = .ok (.astore i, 2)) (h1 : i < ls.length) (h2 : px_isR v = true) (h3 : pr fx bd dd Q al n g0 r sc ar (pc + 2) (ls.set i v) (st)) : pr fx bd dd Q al n g0 r sc ar (pc) (ls) (v :: st) := fun g hR hF => pg_astore h0 h1 h2 (h3 g hR hF)
theorem pr_iinc {i : Nat} {c : Int} {d x : Int32} (h0 : decode bd.2.1 pc = .ok (.iinc i c, 3)) (h1 : ls[i]? = some (.int x)) (h2 : Int32.ofInt c = d) (h3 : pr fx bd dd Q al n g0 r sc ar (pc + 3) (ls.set i (.int (x + d))) (st)) : pr fx bd dd Q al n g0 r sc ar (pc) (ls) (st) := fun g hR hF => pg_iinc h0 h1 h2 (h3 g hR hF)
theorem pr_iconst {c : Int} {d : Int32} (h0 : decode bd.2.1 pc = .ok (.iconst c, 1)) (h1 : Int32.ofInt c = d) (h2 : pr fx bd dd Q al n g0 r sc ar (pc + 1) (ls) (.int d :: st)) : pr fx bd dd Q al n g0 r sc ar (pc) (ls) (st) := fun g hR hF => pg_iconst h0 h1 (h2 g hR hF)
theorem pr_bipush {c : Int} {d : Int32} (h0 : decode bd.2.1 pc = .ok (.bipush c, 2)) (h1 : (Int8.ofInt c).toInt32 = d) (h2 : pr fx bd dd Q al n g0 r sc ar (pc + 2) (ls) (.int d :: st)) : pr fx bd dd Q al n g0 r sc ar (pc) (ls) (st) := fun g hR hF => pg_bipush h0 h1 (h2 g hR hF)
theorem pr_sipush {c : Int} {d : Int32} (h0 : decode bd.2.1 pc = .ok (.sipush c, 3)) (h1 : (Int16.ofInt c).toInt32 = d) (h2 : pr fx bd dd Q al n g0 r sc ar (pc + 3) (ls) (.int d :: st)) : pr fx bd dd Q al n g0 r sc ar (pc) (ls) (st) := fun g hR hF => pg_sipush h0 h1 (h2 g hR hF)
theorem pr_ldc {idx : Nat} {d : Int32} (h0 : decode bd.2.1 pc = .ok (.ldc idx, 2)) (h1 : Cond.constant bd.1 idx d ∈ px_big) (h2 : pr fx bd dd Q al n g0 r sc ar (pc + 2) (ls) (.int d :: st)) : pr fx bd dd Q al n g0 r sc ar (pc) (ls) (st) := fun g hR hF => pg_ldc h0 h1 (h2 g hR hF)
theorem pr_lconst {k : Fin 2} {d : Int64} (h0 : decode bd.2.1 pc = .ok (.lconst k, 1)) (h1 : Int64.ofNat (k : Nat) = d) (h2 : pr fx bd dd Q al n g0 r sc ar (pc + 1) (ls) (.long d :: st)) : pr fx bd dd Q al n g0 r sc ar (pc) (ls) (st) := fun g hR hF => pg_lconst h0 h1 (h2 g hR hF)
theorem pr_null  (h0 : decode bd.2.1 pc = .ok (.aconst_null, 1)) (h1 : pr fx bd dd Q al n g0 r sc ar (pc + 1) (ls) (.null :: st)) : pr fx bd dd Q al n g0 r sc ar (pc) (ls) (st) := fun g hR hF => pg_null h0 (h1 g hR hF)
theorem pr_iadd {x y : Int32} (h0 : decode bd.2.1 pc = .ok (.iadd, 1)) (h1 : pr fx bd dd Q al n g0 r sc ar (pc + 1) (ls) (.int (x + y) :: st)) : pr fx bd dd Q al n g0 r sc ar (pc) (ls) (.int y :: .int x :: st) := fun g hR hF => pg_iadd h0 (h1 g hR hF)
theorem pr_isub {x y : Int32} (h0 : decode bd.2.1 pc = .ok (.isub, 1)) (h1 : pr fx bd dd Q al n g0 r sc ar (pc + 1) (ls) (.int (x - y) :: st)) : pr fx bd dd Q al n g0 r sc ar (pc) (ls) (.int y :: .int x :: st) := fun g hR hF => pg_isub h0 (h1 g hR hF)
theorem pr_imul {x y : Int32} (h0 : decode bd.2.1 pc = .ok (.imul, 1)) (h1 : pr fx bd dd Q al n g0 r sc ar (pc + 1) (ls) (.int (x * y) :: st)) : pr fx bd dd Q al n g0 r sc ar (pc) (ls) (.int y :: .int x :: st) := fun g hR hF => pg_imul h0 (h1 g hR hF)
theorem pr_iand {x y : Int32} (h0 : decode bd.2.1 pc = .ok (.iand, 1)) (h1 : pr fx bd dd Q al n g0 r sc ar (pc + 1) (ls) (.int (x &&& y) :: st)) : pr fx bd dd Q al n g0 r sc ar (pc) (ls) (.int y :: .int x :: st) := fun g hR hF => pg_iand h0 (h1 g hR hF)
theorem pr_ior {x y : Int32} (h0 : decode bd.2.1 pc = .ok (.ior, 1)) (h1 : pr fx bd dd Q al n g0 r sc ar (pc + 1) (ls) (.int (x ||| y) :: st)) : pr fx bd dd Q al n g0 r sc ar (pc) (ls) (.int y :: .int x :: st) := fun g hR hF => pg_ior h0 (h1 g hR hF)
theorem pr_ixor {x y : Int32} (h0 : decode bd.2.1 pc = .ok (.ixor, 1)) (h1 : pr fx bd dd Q al n g0 r sc ar (pc + 1) (ls) (.int (x ^^^ y) :: st)) : pr fx bd dd Q al n g0 r sc ar (pc) (ls) (.int y :: .int x :: st) := fun g hR hF => pg_ixor h0 (h1 g hR hF)
theorem pr_ishl {x y : Int32} (h0 : decode bd.2.1 pc = .ok (.ishl, 1)) (h1 : pr fx bd dd Q al n g0 r sc ar (pc + 1) (ls) (.int (x <<< (y &&& 31)) :: st)) : pr fx bd dd Q al n g0 r sc ar (pc) (ls) (.int y :: .int x :: st) := fun g hR hF => pg_ishl h0 (h1 g hR hF)
theorem pr_ishr {x y : Int32} (h0 : decode bd.2.1 pc = .ok (.ishr, 1)) (h1 : pr fx bd dd Q al n g0 r sc ar (pc + 1) (ls) (.int (x >>> (y &&& 31)) :: st)) : pr fx bd dd Q al n g0 r sc ar (pc) (ls) (.int y :: .int x :: st) := fun g hR hF => pg_ishr h0 (h1 g hR hF)
theorem pr_idiv {x y : Int32} (h0 : decode bd.2.1 pc = .ok (.idiv, 1)) (h1 : ¬ y = 0) (h2 : pr fx bd dd Q al n g0 r sc ar (pc + 1) (ls) (.int (x / y) :: st)) : pr fx bd dd Q al n g0 r sc ar (pc) (ls) (.int y :: .int x :: st) := fun g hR hF => pg_idiv h0 h1 (h2 g hR hF)
theorem pr_irem {x y : Int32} (h0 : decode bd.2.1 pc = .ok (.irem, 1)) (h1 : ¬ y = 0) (h2 : pr fx bd dd Q al n g0 r sc ar (pc + 1) (ls) (.int (x - x / y * y) :: st)) : pr fx bd dd Q al n g0 r sc ar (pc) (ls) (.int y :: .int x :: st) := fun g hR hF => pg_irem h0 h1 (h2 g hR hF)
theorem pr_i2l {x : Int32} (h0 : decode bd.2.1 pc = .ok (.i2l, 1)) (h1 : pr fx bd dd Q al n g0 r sc ar (pc + 1) (ls) (.long x.toInt64 :: st)) : pr fx bd dd Q al n g0 r sc ar (pc) (ls) (.int x :: st) := fun g hR hF => pg_i2l h0 (h1 g hR hF)
theorem pr_i2c {x : Int32} (h0 : decode bd.2.1 pc = .ok (.i2c, 1)) (h1 : pr fx bd dd Q al n g0 r sc ar (pc + 1) (ls) (.int (x.toUInt32 % 65536).toInt32 :: st)) : pr fx bd dd Q al n g0 r sc ar (pc) (ls) (.int x :: st) := fun g hR hF => pg_i2c h0 (h1 g hR hF)
theorem pr_i2b {x : Int32} (h0 : decode bd.2.1 pc = .ok (.i2b, 1)) (h1 : pr fx bd dd Q al n g0 r sc ar (pc + 1) (ls) (.int x.toInt8.toInt32 :: st)) : pr fx bd dd Q al n g0 r sc ar (pc) (ls) (.int x :: st) := fun g hR hF => pg_i2b h0 (h1 g hR hF)
theorem pr_lcmp {x y : Int64} (h0 : decode bd.2.1 pc = .ok (.lcmp, 1)) (h1 : pr fx bd dd Q al n g0 r sc ar (pc + 1) (ls) (.int (lg_cmp x y) :: st)) : pr fx bd dd Q al n g0 r sc ar (pc) (ls) (.long y :: .long x :: st) := fun g hR hF => pg_lcmp h0 (h1 g hR hF)
theorem pr_dup {v : Value} (h0 : decode bd.2.1 pc = .ok (.dup, 1)) (h1 : v.category = 1) (h2 : pr fx bd dd Q al n g0 r sc ar (pc + 1) (ls) (v :: v :: st)) : pr fx bd dd Q al n g0 r sc ar (pc) (ls) (v :: st) := fun g hR hF => pg_dup h0 h1 (h2 g hR hF)
theorem pr_pop {v : Value} (h0 : decode bd.2.1 pc = .ok (.pop, 1)) (h1 : v.category = 1) (h2 : pr fx bd dd Q al n g0 r sc ar (pc + 1) (ls) (st)) : pr fx bd dd Q al n g0 r sc ar (pc) (ls) (v :: st) := fun g hR hF => pg_pop h0 h1 (h2 g hR hF)
theorem pr_dup2 {v w : Value} (h0 : decode bd.2.1 pc = .ok (.dup2, 1)) (h1 : v.category = 1) (h2 : w.category = 1) (h3 : pr fx bd dd Q al n g0 r sc ar (pc + 1) (ls) (v :: w :: v :: w :: st)) : pr fx bd dd Q al n g0 r sc ar (pc) (ls) (v :: w :: st) := fun g hR hF => pg_dup2 h0 h1 h2 (h3 g hR hF)
theorem pr_if_eq {x : Int32} {off : Int} {tgt : Nat} (h0 : decode bd.2.1 pc = .ok (.ifCond .eq off, 3)) (h1 : (pc : Int) + off = (tgt : Int)) (h2 : (x = 0 → pr fx bd dd Q al n g0 r sc ar (tgt) (ls) (st))) (h3 : (¬ x = 0 → pr fx bd dd Q al n g0 r sc ar (pc + 3) (ls) (st))) : pr fx bd dd Q al n g0 r sc ar (pc) (ls) (.int x :: st) := fun g hR hF => pg_if_eq h0 h1 (fun z => h2 z g hR hF) (fun z => h3 z g hR hF)
theorem pr_if_ne {x : Int32} {off : Int} {tgt : Nat} (h0 : decode bd.2.1 pc = .ok (.ifCond .ne off, 3)) (h1 : (pc : Int) + off = (tgt : Int)) (h2 : (¬ x = 0 → pr fx bd dd Q al n g0 r sc ar (tgt) (ls) (st))) (h3 : (x = 0 → pr fx bd dd Q al n g0 r sc ar (pc + 3) (ls) (st))) : pr fx bd dd Q al n g0 r sc ar (pc) (ls) (.int x :: st) := fun g hR hF => pg_if_ne h0 h1 (fun z => h2 z g hR hF) (fun z => h3 z g hR hF)
theorem pr_if_lt {x : Int32} {off : Int} {tgt : Nat} (h0 : decode bd.2.1 pc = .ok (.ifCond .lt off, 3)) (h1 : (pc : Int) + off = (tgt : Int)) (h2 : (x < 0 → pr fx bd dd Q al n g0 r sc ar (tgt) (ls) (st))) (h3 : (¬ x < 0 → pr fx bd dd Q al n g0 r sc ar (pc + 3) (ls) (st))) : pr fx bd dd Q al n g0 r sc ar (pc) (ls) (.int x :: st) := fun g hR hF => pg_if_lt h0 h1 (fun z => h2 z g hR hF) (fun z => h3 z g hR hF)
theorem pr_if_ge {x : Int32} {off : Int} {tgt : Nat} (h0 : decode bd.2.1 pc = .ok (.ifCond .ge off, 3)) (h1 : (pc : Int) + off = (tgt : Int)) (h2 : (0 ≤ x → pr fx bd dd Q al n g0 r sc ar (tgt) (ls) (st))) (h3 : (¬ 0 ≤ x → pr fx bd dd Q al n g0 r sc ar (pc + 3) (ls) (st))) : pr fx bd dd Q al n g0 r sc ar (pc) (ls) (.int x :: st) := fun g hR hF => pg_if_ge h0 h1 (fun z => h2 z g hR hF) (fun z => h3 z g hR hF)
theorem pr_if_gt {x : Int32} {off : Int} {tgt : Nat} (h0 : decode bd.2.1 pc = .ok (.ifCond .gt off, 3)) (h1 : (pc : Int) + off = (tgt : Int)) (h2 : (0 < x → pr fx bd dd Q al n g0 r sc ar (tgt) (ls) (st))) (h3 : (¬ 0 < x → pr fx bd dd Q al n g0 r sc ar (pc + 3) (ls) (st))) : pr fx bd dd Q al n g0 r sc ar (pc) (ls) (.int x :: st) := fun g hR hF => pg_if_gt h0 h1 (fun z => h2 z g hR hF) (fun z => h3 z g hR hF)
theorem pr_if_le {x : Int32} {off : Int} {tgt : Nat} (h0 : decode bd.2.1 pc = .ok (.ifCond .le off, 3)) (h1 : (pc : Int) + off = (tgt : Int)) (h2 : (x ≤ 0 → pr fx bd dd Q al n g0 r sc ar (tgt) (ls) (st))) (h3 : (¬ x ≤ 0 → pr fx bd dd Q al n g0 r sc ar (pc + 3) (ls) (st))) : pr fx bd dd Q al n g0 r sc ar (pc) (ls) (.int x :: st) := fun g hR hF => pg_if_le h0 h1 (fun z => h2 z g hR hF) (fun z => h3 z g hR hF)
theorem pr_icmp_eq {x y : Int32} {off : Int} {tgt : Nat} (h0 : decode bd.2.1 pc = .ok (.if_icmp .eq off, 3)) (h1 : (pc : Int) + off = (tgt : Int)) (h2 : (x = y → pr fx bd dd Q al n g0 r sc ar (tgt) (ls) (st))) (h3 : (¬ x = y → pr fx bd dd Q al n g0 r sc ar (pc + 3) (ls) (st))) : pr fx bd dd Q al n g0 r sc ar (pc) (ls) (.int y :: .int x :: st) := fun g hR hF => pg_icmp_eq h0 h1 (fun z => h2 z g hR hF) (fun z => h3 z g hR hF)
theorem pr_icmp_ne {x y : Int32} {off : Int} {tgt : Nat} (h0 : decode bd.2.1 pc = .ok (.if_icmp .ne off, 3)) (h1 : (pc : Int) + off = (tgt : Int)) (h2 : (¬ x = y → pr fx bd dd Q al n g0 r sc ar (tgt) (ls) (st))) (h3 : (x = y → pr fx bd dd Q al n g0 r sc ar (pc + 3) (ls) (st))) : pr fx bd dd Q al n g0 r sc ar (pc) (ls) (.int y :: .int x :: st) := fun g hR hF => pg_icmp_ne h0 h1 (fun z => h2 z g hR hF) (fun z => h3 z g hR hF)
theorem pr_icmp_lt {x y : Int32} {off : Int} {tgt : Nat} (h0 : decode bd.2.1 pc = .ok (.if_icmp .lt off, 3)) (h1 : (pc : Int) + off = (tgt : Int)) (h2 : (x < y → pr fx bd dd Q al n g0 r sc ar (tgt) (ls) (st))) (h3 : (¬ x < y → pr fx bd dd Q al n g0 r sc ar (pc + 3) (ls) (st))) : pr fx bd dd Q al n g0 r sc ar (pc) (ls) (.int y :: .int x :: st) := fun g hR hF => pg_icmp_lt h0 h1 (fun z => h2 z g hR hF) (fun z => h3 z g hR hF)
theorem pr_icmp_ge {x y : Int32} {off : Int} {tgt : Nat} (h0 : decode bd.2.1 pc = .ok (.if_icmp .ge off, 3)) (h1 : (pc : Int) + off = (tgt : Int)) (h2 : (y ≤ x → pr fx bd dd Q al n g0 r sc ar (tgt) (ls) (st))) (h3 : (¬ y ≤ x → pr fx bd dd Q al n g0 r sc ar (pc + 3) (ls) (st))) : pr fx bd dd Q al n g0 r sc ar (pc) (ls) (.int y :: .int x :: st) := fun g hR hF => pg_icmp_ge h0 h1 (fun z => h2 z g hR hF) (fun z => h3 z g hR hF)
theorem pr_icmp_gt {x y : Int32} {off : Int} {tgt : Nat} (h0 : decode bd.2.1 pc = .ok (.if_icmp .gt off, 3)) (h1 : (pc : Int) + off = (tgt : Int)) (h2 : (y < x → pr fx bd dd Q al n g0 r sc ar (tgt) (ls) (st))) (h3 : (¬ y < x → pr fx bd dd Q al n g0 r sc ar (pc + 3) (ls) (st))) : pr fx bd dd Q al n g0 r sc ar (pc) (ls) (.int y :: .int x :: st) := fun g hR hF => pg_icmp_gt h0 h1 (fun z => h2 z g hR hF) (fun z => h3 z g hR hF)
theorem pr_icmp_le {x y : Int32} {off : Int} {tgt : Nat} (h0 : decode bd.2.1 pc = .ok (.if_icmp .le off, 3)) (h1 : (pc : Int) + off = (tgt : Int)) (h2 : (x ≤ y → pr fx bd dd Q al n g0 r sc ar (tgt) (ls) (st))) (h3 : (¬ x ≤ y → pr fx bd dd Q al n g0 r sc ar (pc + 3) (ls) (st))) : pr fx bd dd Q al n g0 r sc ar (pc) (ls) (.int y :: .int x :: st) := fun g hR hF => pg_icmp_le h0 h1 (fun z => h2 z g hR hF) (fun z => h3 z g hR hF)
theorem pr_goto {off : Int} {tgt : Nat} (h0 : decode bd.2.1 pc = .ok (.goto off, 3)) (h1 : (pc : Int) + off = (tgt : Int)) (h2 : pr fx bd dd Q al n g0 r sc ar (tgt) (ls) (st)) : pr fx bd dd Q al n g0 r sc ar (pc) (ls) (st) := fun g hR hF => pg_goto h0 h1 (h2 g hR hF)
theorem pr_tableOut {dflt lo hi : Int} {offs : Array Int} {len : Nat} {x : Int32} {tgt : Nat} (h0 : decode bd.2.1 pc = .ok (.tableswitch dflt lo hi offs, len)) (h1 : x.toInt < lo ∨ hi < x.toInt) (h2 : (pc : Int) + dflt = (tgt : Int)) (h3 : pr fx bd dd Q al n g0 r sc ar (tgt) (ls) (st)) : pr fx bd dd Q al n g0 r sc ar (pc) (ls) (.int x :: st) := fun g hR hF => pg_tableOut h0 h1 h2 (h3 g hR hF)
theorem pr_tableIn {dflt lo hi : Int} {offs : Array Int} {len : Nat} {x : Int32} {off : Int} {tgt : Nat} (h0 : decode bd.2.1 pc = .ok (.tableswitch dflt lo hi offs, len)) (h1 : ¬ x.toInt < lo) (h2 : ¬ hi < x.toInt) (h3 : offs[(x.toInt - lo).toNat]? = some off) (h4 : (pc : Int) + off = (tgt : Int)) (h5 : pr fx bd dd Q al n g0 r sc ar (tgt) (ls) (st)) : pr fx bd dd Q al n g0 r sc ar (pc) (ls) (.int x :: st) := fun g hR hF => pg_tableIn h0 h1 h2 h3 h4 (h5 g hR hF)
theorem pr_lookup {dflt : Int} {ps : Array (Int × Int)} {len : Nat} {x : Int32} {off : Int} {tgt : Nat} (h0 : decode bd.2.1 pc = .ok (.lookupswitch dflt ps, len)) (h1 : (ps.toList.zip (ps.toList.drop 1)).all (fun (a, next) => a.1 < next.1) = true) (h2 : Op.lookupswitch.offset ps.toList dflt x.toInt = off) (h3 : (pc : Int) + off = (tgt : Int)) (h4 : pr fx bd dd Q al n g0 r sc ar (tgt) (ls) (st)) : pr fx bd dd Q al n g0 r sc ar (pc) (ls) (.int x :: st) := fun g hR hF => pg_lookup h0 h1 h2 h3 (h4 g hR hF)
theorem pr_ldcS {idx i : Nat} (h0 : decode bd.2.1 pc = .ok (.ldc idx, 2)) (h1 : px_lds bd.1 idx i) (h2 : pr fx bd dd Q al n g0 r sc ar (pc + 2) (ls) (.ref (fx.1 i) :: st)) : pr fx bd dd Q al n g0 r sc ar (pc) (ls) (st) := fun g hR hF => pg_ldcS h0 h1 (h2 g hR hF)
theorem pr_getS {idx k : Nat} {v : Int32} (h0 : decode bd.2.1 pc = .ok (.getfield idx, 3)) (h1 : px_fld bd.1 idx 10 k) (h2 : rf_a k = none) (hv : sc k = v) (kk : pr fx bd dd Q al n g0 r sc ar (pc + 3) ls (.int v :: st)) : pr fx bd dd Q al n g0 r sc ar pc ls (.ref (al r) :: st) := fun g hR hF => pg_get h0 h1 (by have := hR.1; omega) hR.2.1 ((rf_F_get h2).trans (congrArg Value.int hv)) (kk g hR hF)
theorem pr_getA {idx k a : Nat} (h0 : decode bd.2.1 pc = .ok (.getfield idx, 3)) (h1 : px_fld bd.1 idx 10 k) (h2 : rf_a k = some a) (kk : pr fx bd dd Q al n g0 r sc ar (pc + 3) ls (.ref (al (r + 1 + a)) :: st)) : pr fx bd dd Q al n g0 r sc ar pc ls (.ref (al r) :: st) := fun g hR hF => pg_get h0 h1 (by have := hR.1; omega) hR.2.1 (rf_F_arr h2) (kk g hR hF)
theorem pr_put {idx k : Nat} {v : Int32} (h0 : decode bd.2.1 pc = .ok (.putfield idx, 3)) (h1 : px_fld bd.1 idx 10 k) (h2 : rf_a k = none) (h3 : px_fin 10 k false) (h4 : narrow (px_ty 10 k) (.int v) = .int v) (h5 : fits (px_ty 10 k) (.int v) = true) (kk : pr fx bd dd Q al n g0 r (upd sc k v) ar (pc + 3) ls st) : pr fx bd dd Q al n g0 r sc ar pc ls (.int v :: .ref (al r) :: st) := fun g hR hF => pg_put h0 h1 h3 (by have := hR.1; omega) hR.2.1 h4 h5 (kk _ (hR.put h2) (hF.put (by omega)))
theorem pr_iald {a j : Nat} {i v : Int32} (h0 : decode bd.2.1 pc = .ok (.iaload, 1)) (ha : a < 21) (ht : rf_tag a = 0) (hi : i = nI j) (hj : j < rf_len a) (hv : ar a j = v) (kk : pr fx bd dd Q al n g0 r sc ar (pc + 1) ls (.int v :: st)) : pr fx bd dd Q al n g0 r sc ar pc ls (.int i :: .ref (al (r + 1 + a)) :: st) := fun g hR hF => by
  have hl := rf_len_lt a
  subst hi
  subst hv
  have k9 := kk g hR hF
  refine pg_iald h0 (by have := hR.1; omega) (by rw [hR.2.2 a ha, ht]) (vp_in_nI hj hl) ?_
  rw [nI_clamp (by omega)]
  exact k9
theorem pr_bald {a j : Nat} {i v : Int32} (h0 : decode bd.2.1 pc = .ok (.baload, 1)) (ha : a < 21) (ht : rf_tag a = 1) (hi : i = nI j) (hj : j < rf_len a) (hv : ar a j = v) (kk : pr fx bd dd Q al n g0 r sc ar (pc + 1) ls (.int v :: st)) : pr fx bd dd Q al n g0 r sc ar pc ls (.int i :: .ref (al (r + 1 + a)) :: st) := fun g hR hF => by
  have hl := rf_len_lt a
  subst hi
  subst hv
  have k9 := kk g hR hF
  refine pg_bald h0 (by have := hR.1; omega) (by rw [hR.2.2 a ha, ht]) (vp_in_nI hj hl) ?_
  rw [nI_clamp (by omega)]
  exact k9
theorem pr_zald {a j : Nat} {i v : Int32} (h0 : decode bd.2.1 pc = .ok (.baload, 1)) (ha : a < 21) (ht : rf_tag a = 2) (hi : i = nI j) (hj : j < rf_len a) (hv : ar a j = v) (kk : pr fx bd dd Q al n g0 r sc ar (pc + 1) ls (.int v :: st)) : pr fx bd dd Q al n g0 r sc ar pc ls (.int i :: .ref (al (r + 1 + a)) :: st) := fun g hR hF => by
  have hl := rf_len_lt a
  subst hi
  subst hv
  have k9 := kk g hR hF
  refine pg_zald h0 (by have := hR.1; omega) (by rw [hR.2.2 a ha, ht]) (vp_in_nI hj hl) ?_
  rw [nI_clamp (by omega)]
  exact k9
theorem pr_iast {a j : Nat} {i x : Int32} (h0 : decode bd.2.1 pc = .ok (.iastore, 1)) (ha : a < 21) (ht : rf_tag a = 0) (hi : i = nI j) (hj : j < rf_len a) (kk : pr fx bd dd Q al n g0 r sc (va_up ar a (upd (ar a) j (x))) (pc + 1) ls st) : pr fx bd dd Q al n g0 r sc ar pc ls (.int x :: .int i :: .ref (al (r + 1 + a)) :: st) := fun g hR hF => by
  have hl := rf_len_lt a
  subst hi
  refine pg_iast h0 (by have := hR.1; omega) (by rw [hR.2.2 a ha, ht]) (vp_in_nI hj hl) ?_
  rw [nI_clamp (by omega)]
  have k9 := kk _ (hR.ast (f := upd (ar a) j (x)) ha) (hF.put (by omega))
  rw [ht] at k9
  exact k9
theorem pr_bast {a j : Nat} {i x : Int32} (h0 : decode bd.2.1 pc = .ok (.bastore, 1)) (ha : a < 21) (ht : rf_tag a = 1) (hi : i = nI j) (hj : j < rf_len a) (kk : pr fx bd dd Q al n g0 r sc (va_up ar a (upd (ar a) j (vp_nar .byte x))) (pc + 1) ls st) : pr fx bd dd Q al n g0 r sc ar pc ls (.int x :: .int i :: .ref (al (r + 1 + a)) :: st) := fun g hR hF => by
  have hl := rf_len_lt a
  subst hi
  refine pg_bast h0 (by have := hR.1; omega) (by rw [hR.2.2 a ha, ht]) (vp_in_nI hj hl) ?_
  rw [nI_clamp (by omega)]
  have k9 := kk _ (hR.ast (f := upd (ar a) j (vp_nar .byte x)) ha) (hF.put (by omega))
  rw [ht] at k9
  exact k9
theorem pr_zast {a j : Nat} {i x : Int32} (h0 : decode bd.2.1 pc = .ok (.bastore, 1)) (ha : a < 21) (ht : rf_tag a = 2) (hi : i = nI j) (hj : j < rf_len a) (kk : pr fx bd dd Q al n g0 r sc (va_up ar a (upd (ar a) j (vp_nar .boolean x))) (pc + 1) ls st) : pr fx bd dd Q al n g0 r sc ar pc ls (.int x :: .int i :: .ref (al (r + 1 + a)) :: st) := fun g hR hF => by
  have hl := rf_len_lt a
  subst hi
  refine pg_zast h0 (by have := hR.1; omega) (by rw [hR.2.2 a ha, ht]) (vp_in_nI hj hl) ?_
  rw [nI_clamp (by omega)]
  have k9 := kk _ (hR.ast (f := upd (ar a) j (vp_nar .boolean x)) ha) (hF.put (by omega))
  rw [ht] at k9
  exact k9
theorem pr_call {idx k : Nat} {As st0 : List Value} {res : Option Value} {sc2 : Nat → Int32} {ar2 : Nat → Nat → Int32} (h0 : decode bd.2.1 pc = .ok (.invokevirtual idx, 3)) {na : Nat} (h1 : px_cV px_tb bd.1 idx k 10 na) (hC : RC dd k As sc ar res sc2 ar2) (hn : As.length = na) (h4 : st0 = As.reverse ++ .ref (al r) :: st) (h5 : (st.map fun v => v.category).sum ≤ 8) (hz : px_mc px_tb k = 0 ∧ px_ms px_tb k = 0)
    (kk : pr fx bd dd Q al n g0 r sc2 ar2 (pc + 3) ls (res.toList ++ st)) : pr fx bd dd Q al n g0 r sc ar pc ls st0 := fun g hR hF => by
  refine pg_callV (pm_mono px_tb fx dd) (idx := idx) (k := k) (As := As) h0 (hn ▸ h1) (by have := hR.1; omega) hR.2.1 h4 h5 (by rw [hz.1]; exact Nat.zero_le _) (by rw [hz.2]; exact Nat.zero_le _) ?_
  rw [hz.1, hz.2]
  exact hC fx al n g r _ hR (fun g2 hR2 hF2 => kk g2 hR2 (hF.tr hF2))
theorem pr_callSC {idx k : Nat} {As st0 : List Value} {res : Option Value} (h0 : decode bd.2.1 pc = .ok (.invokestatic idx, 3)) {na : Nat} (h1 : px_cS px_tb bd.1 idx k na) (hC : SC dd k As res) (hn : As.length = na) (h4 : st0 = As.reverse ++ st) (h5 : (st.map fun v => v.category).sum ≤ 8) (hz : px_mc px_tb k = 0 ∧ px_ms px_tb k = 0)
    (kk : pr fx bd dd Q al n g0 r sc ar (pc + 3) ls (res.toList ++ st)) : pr fx bd dd Q al n g0 r sc ar pc ls st0 := fun g hR hF => by
  refine pg_callS (pm_mono px_tb fx dd) (idx := idx) (k := k) (As := As) h0 (hn ▸ h1) h4 h5 (by rw [hz.1]; exact Nat.zero_le _) (by rw [hz.2]; exact Nat.zero_le _) ?_
  rw [hz.1, hz.2]
  exact hC fx al n g _ (kk g hR hF)
theorem pr_iret {x : Int32} {ty : FieldType} {res : Option Value} {sc2 : Nat → Int32} {ar2 : Nat → Nat → Int32} (hQ : ∀ g2, RR al n g2 r sc2 ar2 → rf_fr r g0 g2 → Q (.inl res) al n g2) (h0 : decode bd.2.1 pc = .ok (.ireturn, 1)) (h1 : bd.2.2.1 = some ty) (h2 : narrow ty (.int x) = .int x) (e1 : some (.int x) = res) (e2 : sc = sc2) (e3 : ar = ar2) : pr fx bd dd Q al n g0 r sc ar pc ls [.int x] := fun g hR hF => by
  subst e1; subst e2; subst e3
  exact pg_iret h0 h1 h2 (Nat.zero_le _) (Nat.zero_le _) (hQ g hR hF)
theorem pr_vret {res : Option Value} {sc2 : Nat → Int32} {ar2 : Nat → Nat → Int32} (hQ : ∀ g2, RR al n g2 r sc2 ar2 → rf_fr r g0 g2 → Q (.inl res) al n g2) (h0 : decode bd.2.1 pc = .ok (.return_, 1)) (h1 : bd.2.2.1 = none) (e1 : none = res) (e2 : sc = sc2) (e3 : ar = ar2) : pr fx bd dd Q al n g0 r sc ar pc ls [] := fun g hR hF => by
  subst e1; subst e2; subst e3
  exact pg_vret h0 h1 (Nat.zero_le _) (Nat.zero_le _) (hQ g hR hF)
theorem pr_callP {idx k : Nat} {As st0 : List Value} {post : Option Value → (Nat → Int32) → (Nat → Nat → Int32) → Prop} (h0 : decode bd.2.1 pc = .ok (.invokevirtual idx, 3)) {na : Nat} (h1 : px_cV px_tb bd.1 idx k 10 na) (hC : RP dd k As sc ar post) (hn : As.length = na) (h4 : st0 = As.reverse ++ .ref (al r) :: st) (h5 : (st.map fun v => v.category).sum ≤ 8) (hz : px_mc px_tb k = 0 ∧ px_ms px_tb k = 0)
    (kk : ∀ res sc2 ar2, post res sc2 ar2 → pr fx bd dd Q al n g0 r sc2 ar2 (pc + 3) ls (res.toList ++ st)) : pr fx bd dd Q al n g0 r sc ar pc ls st0 := fun g hR hF => by
  refine pg_callV (pm_mono px_tb fx dd) (idx := idx) (k := k) (As := As) h0 (hn ▸ h1) (by have := hR.1; omega) hR.2.1 h4 h5 (by rw [hz.1]; exact Nat.zero_le _) (by rw [hz.2]; exact Nat.zero_le _) ?_
  rw [hz.1, hz.2]
  exact hC fx al n g r _ hR (fun res sc2 ar2 g2 hp hR2 hF2 => kk res sc2 ar2 hp g2 hR2 (hF.tr hF2))
theorem pr_iretP {x : Int32} {ty : FieldType} {post : Option Value → (Nat → Int32) → (Nat → Nat → Int32) → Prop} (hQ : ∀ res sc2 ar2 g2, post res sc2 ar2 → RR al n g2 r sc2 ar2 → rf_fr r g0 g2 → Q (.inl res) al n g2) (h0 : decode bd.2.1 pc = .ok (.ireturn, 1)) (h1 : bd.2.2.1 = some ty) (h2 : narrow ty (.int x) = .int x) (hp : post (some (.int x)) sc ar) : pr fx bd dd Q al n g0 r sc ar pc ls [.int x] := fun g hR hF =>
  pg_iret h0 h1 h2 (Nat.zero_le _) (Nat.zero_le _) (hQ _ _ _ g hp hR hF)
theorem pr_vretP {post : Option Value → (Nat → Int32) → (Nat → Nat → Int32) → Prop} (hQ : ∀ res sc2 ar2 g2, post res sc2 ar2 → RR al n g2 r sc2 ar2 → rf_fr r g0 g2 → Q (.inl res) al n g2) (h0 : decode bd.2.1 pc = .ok (.return_, 1)) (h1 : bd.2.2.1 = none) (hp : post none sc ar) : pr fx bd dd Q al n g0 r sc ar pc ls [] := fun g hR hF =>
  pg_vret h0 h1 (Nat.zero_le _) (Nat.zero_le _) (hQ _ _ _ g hp hR hF)
end PRR
