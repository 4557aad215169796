/-! THE CLASS: its fixed cells 0 .. 35: scalars 'sc' by cell and field, rows 'ar' by cell, the slate 'sl', the row of tasks 'tf' -/
def cCls (c : Nat) : Option Nat := match c with
  | 0 => some 9
  | 1 => some 7
  | 3 => some 3
  | 4 => some 6
  | 9 => some 2
  | 12 => some 0
  | 16 => some 4
  | 20 => some 1
  | 22 => some 1
  | 24 => some 1
  | 26 => some 1
  | 28 => some 1
  | 30 => some 1
  | 32 => some 1
  | 34 => some 1
  | _ => none
def cAr (c : Nat) : Option Nat := match c with
  | 2 => some 400
  | 5 => some 121
  | 6 => some 121
  | 7 => some 121
  | 8 => some 121
  | 10 => some 5
  | 11 => some 120
  | 14 => some 121
  | 15 => some 121
  | 17 => some 256
  | 21 => some 8
  | 23 => some 8
  | 25 => some 8
  | 27 => some 8
  | 29 => some 8
  | 31 => some 8
  | 33 => some 8
  | 35 => some 8
  | _ => none
/-- what stands in a field: 0 a scalar, 1 null, 2 the slate, d + 3 the cell d -/
def cKd (c k : Nat) : Nat := match c, k with
  | 0, 0 => 4
  | 0, 1 => 6
  | 0, 2 => 12
  | 0, 3 => 15
  | 0, 4 => 19
  | 0, 5 => 21
  | 0, 6 => 22
  | 1, 0 => 5
  | 3, 0 => 7
  | 3, 1 => 10
  | 3, 2 => 11
  | 4, 0 => 8
  | 4, 1 => 9
  | 9, 0 => 13
  | 9, 1 => 14
  | 12, 0 => 16
  | 16, 0 => 20
  | 20, 0 => 24
  | 22, 0 => 26
  | 24, 0 => 28
  | 26, 0 => 30
  | 28, 0 => 32
  | 30, 0 => 34
  | 32, 0 => 36
  | 34, 0 => 38
  | 0, 7 => 2
  | 16, _ => 1
  | 20, _ => 1
  | 22, _ => 1
  | 24, _ => 1
  | 26, _ => 1
  | 28, _ => 1
  | 30, _ => 1
  | 32, _ => 1
  | 34, _ => 1
  | _, _ => 0
def cF (al : Nat → Nat) (s : Nat → Int32) (sl : Value) (c : Nat) : Nat → Value := fun k => match cKd c k with
  | 0 => .int (s k)
  | 1 => .null
  | 2 => sl
  | d + 3 => .ref (al d)
def cObj (al : Nat → Nat) (s : Nat → Int32) (a : Nat → Int32) (sl : Value) (tf : Nat → Option Nat) (c : Nat) : px_O := match cCls c with
  | some ci => .inr (ci, cF al s sl c)
  | none => match cAr c with
    | some L => .inl (0, L, .inl a)
    | none => if c = 13 then .inl (7, 2, .inr (.inr (.inr (.inr (fun i => if i < 2 then some (al (14 + i)) else none))))) else if c = 18 then .inl (6, 10, .inr (.inr (.inr (.inr tf)))) else .inl (4, 8, .inr (.inr (.inr (.inr (fun i => if i < 8 then some (al (20 + 2 * i)) else none)))))
def CR (al : Nat → Nat) (n : Nat) (g : Nat → px_O) (sc ar : Nat → Nat → Int32) (sl : Value) (tf : Nat → Option Nat) : Prop := 36 ≤ n ∧ ∀ c, c < 36 → g c = cObj al (sc c) (ar c) sl tf c
def cfr (g0 g : Nat → px_O) : Prop := ∀ k, 36 ≤ k → g k = g0 k
theorem cfr.rf {g : Nat → px_O} : cfr g g := fun _ _ => rfl
theorem cfr.tr {g g2 g3 : Nat → px_O} (h : cfr g g2) (h2 : cfr g2 g3) : cfr g g3 := fun k hk => (h2 k hk).trans (h k hk)
theorem cfr.put {g0 g : Nat → px_O} {c : Nat} {o : px_O} (h : cfr g0 g) (hc : c < 36) : cfr g0 (va_up g c o) := fun k hk => by rw [va_up_ne _ _ (by omega)]; exact h k hk
def up2 (sc : Nat → Nat → Int32) (c k : Nat) (v : Int32) : Nat → Nat → Int32 := va_up sc c (upd (sc c) k v)
theorem cObj_o {al : Nat → Nat} {s a : Nat → Int32} {sl : Value} {tf : Nat → Option Nat} {c ci : Nat} (h : cCls c = some ci) : cObj al s a sl tf c = .inr (ci, cF al s sl c) := by unfold cObj; rw [h]
theorem cObj_a {al : Nat → Nat} {s a : Nat → Int32} {sl : Value} {tf : Nat → Option Nat} {c L : Nat} (h : cCls c = none) (h2 : cAr c = some L) : cObj al s a sl tf c = .inl (0, L, .inl a) := by unfold cObj; rw [h]; simp only [h2]
theorem cF_s {al : Nat → Nat} {s : Nat → Int32} {sl : Value} {c k : Nat} (h : cKd c k = 0) : cF al s sl c k = .int (s k) := by unfold cF; rw [h]
theorem cF_l {al : Nat → Nat} {s : Nat → Int32} {sl : Value} {c k : Nat} (h : cKd c k = 2) : cF al s sl c k = sl := by unfold cF; rw [h]
theorem cF_r {al : Nat → Nat} {s : Nat → Int32} {sl : Value} {c k d : Nat} (h : cKd c k = d + 3) : cF al s sl c k = .ref (al d) := by unfold cF; rw [h]
theorem cF_put {al : Nat → Nat} {s : Nat → Int32} {sl : Value} {c k : Nat} {v : Int32} (h : cKd c k = 0) : va_up (cF al s sl c) k (.int v) = cF al (upd s k v) sl c := by
  funext j
  by_cases e : j = k
  · subst e
    rw [va_up_self, cF_s h, pk_us]
  · rw [va_up_ne _ _ e]
    unfold cF
    split <;> first | rfl | rw [pk_un e]
theorem cF_put2 {al : Nat → Nat} {s : Nat → Int32} {sl sl2 : Value} {c k : Nat} (hc : c = 0) (hk : k = 7) : va_up (cF al s sl c) k sl2 = cF al s sl2 c := by
  subst hc; subst hk
  funext j
  by_cases e : j = 7
  · subst e
    rw [va_up_self, cF_l rfl]
  · rw [va_up_ne _ _ e]
    unfold cF
    have : ¬ cKd 0 j = 2 := fun z => by
      unfold cKd at z
      split at z <;> first | omega | contradiction
    split <;> first | rfl | contradiction
theorem CR.put {al : Nat → Nat} {n : Nat} {g : Nat → px_O} {sc ar : Nat → Nat → Int32} {sl : Value} {tf : Nat → Option Nat} {c k ci : Nat} {v : Int32} (h : CR al n g sc ar sl tf) (hc : c < 36) (h1 : cCls c = some ci) (h2 : cKd c k = 0) : CR al n (va_up g c (.inr (ci, va_up (cF al (sc c) sl c) k (.int v)))) (up2 sc c k v) ar sl tf := by
  refine ⟨h.1, fun d hd => ?_⟩
  by_cases e : d = c
  · subst e
    rw [va_up_self, cObj_o h1, up2, va_up_self, cF_put h2]
  · rw [va_up_ne _ _ e, up2, va_up_ne _ _ e]
    exact h.2 d hd
theorem CR.ast {al : Nat → Nat} {n : Nat} {g : Nat → px_O} {sc ar : Nat → Nat → Int32} {sl : Value} {tf : Nat → Option Nat} {c L : Nat} {f : Nat → Int32} (h : CR al n g sc ar sl tf) (hc : c < 36) (h1 : cCls c = none) (h2 : cAr c = some L) : CR al n (va_up g c (.inl (0, L, .inl f))) sc (va_up ar c f) sl tf := by
  refine ⟨h.1, fun d hd => ?_⟩
  by_cases e : d = c
  · subst e
    rw [va_up_self, cObj_a h1 h2, va_up_self]
  · rw [va_up_ne _ _ e, va_up_ne _ _ e]
    exact h.2 d hd
theorem CR.al {al al2 : Nat → Nat} {n n2 : Nat} {g g2 : Nat → px_O} {sc ar : Nat → Nat → Int32} {sl : Value} {tf : Nat → Option Nat} (h : CR al n g sc ar sl tf) (ha : ∀ k, k < 36 → al2 k = al k) (hg : ∀ k, k < 36 → g2 k = g k) (hn : 36 ≤ n2) : CR al2 n2 g2 sc ar sl tf := by
  refine ⟨hn, fun c hc => ?_⟩
  rw [hg c hc, h.2 c hc]
  unfold cObj
  have hF : cF al (sc c) sl c = cF al2 (sc c) sl c := by
    funext k
    unfold cF
    have hd : cKd c k < 39 := by
      unfold cKd
      split <;> omega
    generalize hx : cKd c k = x at hd
    match x, hd with
    | 0, _ => rfl
    | 1, _ => rfl
    | 2, _ => rfl
    | d + 3, hd =>
      show Value.ref (al d) = .ref (al2 d)
      rw [ha d (by omega)]
  rw [hF]
  have e1 : (fun i => if i < 2 then some (al (14 + i)) else none) = (fun i => if i < 2 then some (al2 (14 + i)) else none) := by
    funext i
    by_cases e : i < 2
    · rw [if_pos e, if_pos e, ha _ (by omega)]
    · rw [if_neg e, if_neg e]
  have e2 : (fun i => if i < 8 then some (al (20 + 2 * i)) else none) = (fun i => if i < 8 then some (al2 (20 + 2 * i)) else none) := by
    funext i
    by_cases e : i < 8
    · rw [if_pos e, if_pos e, ha _ (by omega)]
    · rw [if_neg e, if_neg e]
  rw [e1, e2]
/-- the run of a body of the class's, from here -/
def pc (fx : px_F) (bd : px_B) (d : Nat) (Q : px_Q) (al : Nat → Nat) (n : Nat) (g0 : Nat → px_O) (sc ar : Nat → Nat → Int32) (sl : Value) (tf : Nat → Option Nat) (p : Nat) (ls st : List Value) : Prop :=
  ∀ g, CR al n g sc ar sl tf → cfr g0 g → pg px_tb fx bd (pm px_tb fx d) Q al n g p ls st 0 0
/-- what a method of the class's does, by a promise on answer and state; what lies behind cell 35 stays -/
def CP (d k : Nat) (as : (Nat → Nat) → List Value) (D : (Nat → Nat) → Nat → (Nat → px_O) → Prop) (sc ar : Nat → Nat → Int32) (sl : Value) (tf : Nat → Option Nat) (post : Option Value → (Nat → Nat → Int32) → (Nat → Nat → Int32) → Prop) : Prop :=
  ∀ (fx : px_F) (al : Nat → Nat) (n : Nat) (g : Nat → px_O) (Q : px_Q), CR al n g sc ar sl tf → D al n g → (∀ res sc2 ar2 g2, post res sc2 ar2 → CR al n g2 sc2 ar2 sl tf → cfr g g2 → Q (.inl res) al n g2) → pm px_tb fx d k (as al) al n g Q
def noD : (Nat → Nat) → Nat → (Nat → px_O) → Prop := fun _ _ _ => True
theorem CP.of {d k : Nat} {as : (Nat → Nat) → List Value} {D : (Nat → Nat) → Nat → (Nat → px_O) → Prop} {sc ar : Nat → Nat → Int32} {sl : Value} {tf : Nat → Option Nat} {post : Option Value → (Nat → Nat → Int32) → (Nat → Nat → Int32) → Prop} (m : px_M) (hm : px_tb k = some m) (hi : ∀ al, (as al).all px_isI = true) (hl : ∀ al, (as al).length ≤ m.2.2.1)
    (h : ∀ fx al n g0 Q, 36 ≤ n → D al n g0 → (∀ res sc2 ar2 g2, post res sc2 ar2 → CR al n g2 sc2 ar2 sl tf → cfr g0 g2 → Q (.inl res) al n g2) → pc fx (px_body m) d Q al n g0 sc ar sl tf 0 (px_in (as al) m.2.2.1) []) : CP (d + 1) k as D sc ar sl tf post :=
  fun fx al n g Q hR hD hQ => ⟨m, hm, hi al, hl al, h fx al n g Q hR.1 hD hQ g hR cfr.rf⟩
theorem CP.mono {d k : Nat} {as : (Nat → Nat) → List Value} {D : (Nat → Nat) → Nat → (Nat → px_O) → Prop} {sc ar : Nat → Nat → Int32} {sl : Value} {tf : Nat → Option Nat} {post post' : Option Value → (Nat → Nat → Int32) → (Nat → Nat → Int32) → Prop} (h : CP d k as D sc ar sl tf post) (hp : ∀ r s a, post r s a → post' r s a) : CP d k as D sc ar sl tf post' :=
  fun fx al n g Q hR hD hQ => h fx al n g Q hR hD (fun res sc2 ar2 g2 z => hQ res sc2 ar2 g2 (hp _ _ _ z))
theorem CP.le {d d2 k : Nat} {as : (Nat → Nat) → List Value} {D : (Nat → Nat) → Nat → (Nat → px_O) → Prop} {sc ar : Nat → Nat → Int32} {sl : Value} {tf : Nat → Option Nat} {post : Option Value → (Nat → Nat → Int32) → (Nat → Nat → Int32) → Prop} (h : CP d k as D sc ar sl tf post) (hd : d ≤ d2) : CP d2 k as D sc ar sl tf post := fun fx al n g Q hR hD hQ => by
  have := pm_le (h fx al n g Q hR hD hQ) (d2 - d)
  rwa [Nat.add_sub_cancel' hd] at this
section PCR
variable {fx : px_F} {bd : px_B} {dd : Nat} {Q : px_Q} {al : Nat → Nat} {n : Nat} {g0 : Nat → px_O} {sc ar : Nat → Nat → Int32} {sl : Value} {tf : Nat → Option Nat} {p : Nat} {ls st : List Value}
theorem pc_iload_n {k : Fin 4} {x : Int32} (h0 : decode bd.2.1 p = .ok (.iload_n k, 1)) (h1 : ls[(k : Nat)]? = some (.int x)) (h2 : pc fx bd dd Q al n g0 sc ar sl tf (p + 1) (ls) (.int x :: st)) : pc fx bd dd Q al n g0 sc ar sl tf (p) (ls) (st) := fun g hR hF => pg_iload_n h0 h1 (h2 g hR hF)
theorem pc_iload {i : Nat} {x : Int32} (h0 : decode bd.2.1 p = .ok (.iload i, 2)) (h1 : ls[i]? = some (.int x)) (h2 : pc fx bd dd Q al n g0 sc ar sl tf (p + 2) (ls) (.int x :: st)) : pc fx bd dd Q al n g0 sc ar sl tf (p) (ls) (st) := fun g hR hF => pg_iload h0 h1 (h2 g hR hF)
theorem pc_aload_n {k : Fin 4} {v : Value} (h0 : decode bd.2.1 p = .ok (.aload_n k, 1)) (h1 : ls[(k : Nat)]? = some v) (h2 : px_isR v = true) (h3 : pc fx bd dd Q al n g0 sc ar sl tf (p + 1) (ls) (v :: st)) : pc fx bd dd Q al n g0 sc ar sl tf (p) (ls) (st) := fun g hR hF => pg_aload_n h0 h1 h2 (h3 g hR hF)
theorem pc_aload {i : Nat} {v : Value} (h0 : decode bd.2.1 p = .ok (.aload i, 2)) (h1 : ls[i]? = some v) (h2 : px_isR v = true) (h3 : pc fx bd dd Q al n g0 sc ar sl tf (p + 2) (ls) (v :: st)) : pc fx bd dd Q al n g0 sc ar sl tf (p) (ls) (st) := fun g hR hF => pg_aload h0 h1 h2 (h3 g hR hF)
theorem pc_istore_n {k : Fin 4} {x : Int32} (h0 : decode bd.2.1 p = .ok (.istore_n k, 1)) (h1 : (k : Nat) < ls.length) (h2 : pc fx bd dd Q al n g0 sc ar sl tf (p + 1) (ls.set (k : Nat) (.int x)) (st)) : pc fx bd dd Q al n g0 sc ar sl tf (p) (ls) (.int x :: st) := fun g hR hF => pg_istore_n h0 h1 (h2 g hR hF)
theorem pc_istore {i : Nat} {x : Int32} (h0 : decode bd.2.1 p = .ok (.istore i, 2)) (h1 : i < ls.length) (h2 : pc fx bd dd Q al n g0 sc ar sl tf (p + 2) (ls.set i (.int x)) (st)) : pc fx bd dd Q al n g0 sc ar sl tf (p) (ls) (.int x :: st) := fun g hR hF => pg_istore h0 h1 (h2 g hR hF)
theorem pc_astore_n {k : Fin 4} {v : Value} (h0 : decode bd.2.1 p = .ok (.astore_n k, 1)) (h1 : (k : Nat) < ls.length) (h2 : px_isR v = true) (h3 : pc fx bd dd Q al n g0 sc ar sl tf (p + 1) (ls.set (k : Nat) v) (st)) : pc fx bd dd Q al n g0 sc ar sl tf (p) (ls) (v :: st) := fun g hR hF => pg_astore_n h0 h1 h2 (h3 g hR hF)
theorem pc_astore {i : Nat} {v : Value} (h0 : decode bd.2.1 p = .ok (.astore i, 2)) (h1 : i < ls.length) (h2 : px_isR v = true) (h3 : pc fx bd dd Q al n g0 sc ar sl tf (p + 2) (ls.set i v) (st)) : pc fx bd dd Q al n g0 sc ar sl tf (p) (ls) (v :: st) := fun g hR hF => pg_astore h0 h1 h2 (h3 g hR hF)
theorem pc_iinc {i : Nat} {c : Int} {d x : Int32} (h0 : decode bd.2.1 p = .ok (.iinc i c, 3)) (h1 : ls[i]? = some (.int x)) (h2 : Int32.ofInt c = d) (h3 : pc fx bd dd Q al n g0 sc ar sl tf (p + 3) (ls.set i (.int (x + d))) (st)) : pc fx bd dd Q al n g0 sc ar sl tf (p) (ls) (st) := fun g hR hF => pg_iinc h0 h1 h2 (h3 g hR hF)
theorem pc_iconst {c : Int} {d : Int32} (h0 : decode bd.2.1 p = .ok (.iconst c, 1)) (h1 : Int32.ofInt c = d) (h2 : pc fx bd dd Q al n g0 sc ar sl tf (p + 1) (ls) (.int d :: st)) : pc fx bd dd Q al n g0 sc ar sl tf (p) (ls) (st) := fun g hR hF => pg_iconst h0 h1 (h2 g hR hF)
theorem pc_bipush {c : Int} {d : Int32} (h0 : decode bd.2.1 p = .ok (.bipush c, 2)) (h1 : (Int8.ofInt c).toInt32 = d) (h2 : pc fx bd dd Q al n g0 sc ar sl tf (p + 2) (ls) (.int d :: st)) : pc fx bd dd Q al n g0 sc ar sl tf (p) (ls) (st) := fun g hR hF => pg_bipush h0 h1 (h2 g hR hF)
theorem pc_sipush {c : Int} {d : Int32} (h0 : decode bd.2.1 p = .ok (.sipush c, 3)) (h1 : (Int16.ofInt c).toInt32 = d) (h2 : pc fx bd dd Q al n g0 sc ar sl tf (p + 3) (ls) (.int d :: st)) : pc fx bd dd Q al n g0 sc ar sl tf (p) (ls) (st) := fun g hR hF => pg_sipush h0 h1 (h2 g hR hF)
theorem pc_ldc {idx : Nat} {d : Int32} (h0 : decode bd.2.1 p = .ok (.ldc idx, 2)) (h1 : Cond.constant bd.1 idx d ∈ px_big) (h2 : pc fx bd dd Q al n g0 sc ar sl tf (p + 2) (ls) (.int d :: st)) : pc fx bd dd Q al n g0 sc ar sl tf (p) (ls) (st) := fun g hR hF => pg_ldc h0 h1 (h2 g hR hF)
theorem pc_lconst {k : Fin 2} {d : Int64} (h0 : decode bd.2.1 p = .ok (.lconst k, 1)) (h1 : Int64.ofNat (k : Nat) = d) (h2 : pc fx bd dd Q al n g0 sc ar sl tf (p + 1) (ls) (.long d :: st)) : pc fx bd dd Q al n g0 sc ar sl tf (p) (ls) (st) := fun g hR hF => pg_lconst h0 h1 (h2 g hR hF)
theorem pc_null  (h0 : decode bd.2.1 p = .ok (.aconst_null, 1)) (h1 : pc fx bd dd Q al n g0 sc ar sl tf (p + 1) (ls) (.null :: st)) : pc fx bd dd Q al n g0 sc ar sl tf (p) (ls) (st) := fun g hR hF => pg_null h0 (h1 g hR hF)
theorem pc_iadd {x y : Int32} (h0 : decode bd.2.1 p = .ok (.iadd, 1)) (h1 : pc fx bd dd Q al n g0 sc ar sl tf (p + 1) (ls) (.int (x + y) :: st)) : pc fx bd dd Q al n g0 sc ar sl tf (p) (ls) (.int y :: .int x :: st) := fun g hR hF => pg_iadd h0 (h1 g hR hF)
theorem pc_isub {x y : Int32} (h0 : decode bd.2.1 p = .ok (.isub, 1)) (h1 : pc fx bd dd Q al n g0 sc ar sl tf (p + 1) (ls) (.int (x - y) :: st)) : pc fx bd dd Q al n g0 sc ar sl tf (p) (ls) (.int y :: .int x :: st) := fun g hR hF => pg_isub h0 (h1 g hR hF)
theorem pc_imul {x y : Int32} (h0 : decode bd.2.1 p = .ok (.imul, 1)) (h1 : pc fx bd dd Q al n g0 sc ar sl tf (p + 1) (ls) (.int (x * y) :: st)) : pc fx bd dd Q al n g0 sc ar sl tf (p) (ls) (.int y :: .int x :: st) := fun g hR hF => pg_imul h0 (h1 g hR hF)
theorem pc_iand {x y : Int32} (h0 : decode bd.2.1 p = .ok (.iand, 1)) (h1 : pc fx bd dd Q al n g0 sc ar sl tf (p + 1) (ls) (.int (x &&& y) :: st)) : pc fx bd dd Q al n g0 sc ar sl tf (p) (ls) (.int y :: .int x :: st) := fun g hR hF => pg_iand h0 (h1 g hR hF)
theorem pc_ior {x y : Int32} (h0 : decode bd.2.1 p = .ok (.ior, 1)) (h1 : pc fx bd dd Q al n g0 sc ar sl tf (p + 1) (ls) (.int (x ||| y) :: st)) : pc fx bd dd Q al n g0 sc ar sl tf (p) (ls) (.int y :: .int x :: st) := fun g hR hF => pg_ior h0 (h1 g hR hF)
theorem pc_ixor {x y : Int32} (h0 : decode bd.2.1 p = .ok (.ixor, 1)) (h1 : pc fx bd dd Q al n g0 sc ar sl tf (p + 1) (ls) (.int (x ^^^ y) :: st)) : pc fx bd dd Q al n g0 sc ar sl tf (p) (ls) (.int y :: .int x :: st) := fun g hR hF => pg_ixor h0 (h1 g hR hF)
theorem pc_ishl {x y : Int32} (h0 : decode bd.2.1 p = .ok (.ishl, 1)) (h1 : pc fx bd dd Q al n g0 sc ar sl tf (p + 1) (ls) (.int (x <<< (y &&& 31)) :: st)) : pc fx bd dd Q al n g0 sc ar sl tf (p) (ls) (.int y :: .int x :: st) := fun g hR hF => pg_ishl h0 (h1 g hR hF)
theorem pc_ishr {x y : Int32} (h0 : decode bd.2.1 p = .ok (.ishr, 1)) (h1 : pc fx bd dd Q al n g0 sc ar sl tf (p + 1) (ls) (.int (x >>> (y &&& 31)) :: st)) : pc fx bd dd Q al n g0 sc ar sl tf (p) (ls) (.int y :: .int x :: st) := fun g hR hF => pg_ishr h0 (h1 g hR hF)
theorem pc_idiv {x y : Int32} (h0 : decode bd.2.1 p = .ok (.idiv, 1)) (h1 : ¬ y = 0) (h2 : pc fx bd dd Q al n g0 sc ar sl tf (p + 1) (ls) (.int (x / y) :: st)) : pc fx bd dd Q al n g0 sc ar sl tf (p) (ls) (.int y :: .int x :: st) := fun g hR hF => pg_idiv h0 h1 (h2 g hR hF)
theorem pc_irem {x y : Int32} (h0 : decode bd.2.1 p = .ok (.irem, 1)) (h1 : ¬ y = 0) (h2 : pc fx bd dd Q al n g0 sc ar sl tf (p + 1) (ls) (.int (x - x / y * y) :: st)) : pc fx bd dd Q al n g0 sc ar sl tf (p) (ls) (.int y :: .int x :: st) := fun g hR hF => pg_irem h0 h1 (h2 g hR hF)
theorem pc_i2l {x : Int32} (h0 : decode bd.2.1 p = .ok (.i2l, 1)) (h1 : pc fx bd dd Q al n g0 sc ar sl tf (p + 1) (ls) (.long x.toInt64 :: st)) : pc fx bd dd Q al n g0 sc ar sl tf (p) (ls) (.int x :: st) := fun g hR hF => pg_i2l h0 (h1 g hR hF)
theorem pc_i2c {x : Int32} (h0 : decode bd.2.1 p = .ok (.i2c, 1)) (h1 : pc fx bd dd Q al n g0 sc ar sl tf (p + 1) (ls) (.int (x.toUInt32 % 65536).toInt32 :: st)) : pc fx bd dd Q al n g0 sc ar sl tf (p) (ls) (.int x :: st) := fun g hR hF => pg_i2c h0 (h1 g hR hF)
theorem pc_i2b {x : Int32} (h0 : decode bd.2.1 p = .ok (.i2b, 1)) (h1 : pc fx bd dd Q al n g0 sc ar sl tf (p + 1) (ls) (.int x.toInt8.toInt32 :: st)) : pc fx bd dd Q al n g0 sc ar sl tf (p) (ls) (.int x :: st) := fun g hR hF => pg_i2b h0 (h1 g hR hF)
theorem pc_lcmp {x y : Int64} (h0 : decode bd.2.1 p = .ok (.lcmp, 1)) (h1 : pc fx bd dd Q al n g0 sc ar sl tf (p + 1) (ls) (.int (lg_cmp x y) :: st)) : pc fx bd dd Q al n g0 sc ar sl tf (p) (ls) (.long y :: .long x :: st) := fun g hR hF => pg_lcmp h0 (h1 g hR hF)
theorem pc_dup {v : Value} (h0 : decode bd.2.1 p = .ok (.dup, 1)) (h1 : v.category = 1) (h2 : pc fx bd dd Q al n g0 sc ar sl tf (p + 1) (ls) (v :: v :: st)) : pc fx bd dd Q al n g0 sc ar sl tf (p) (ls) (v :: st) := fun g hR hF => pg_dup h0 h1 (h2 g hR hF)
theorem pc_pop {v : Value} (h0 : decode bd.2.1 p = .ok (.pop, 1)) (h1 : v.category = 1) (h2 : pc fx bd dd Q al n g0 sc ar sl tf (p + 1) (ls) (st)) : pc fx bd dd Q al n g0 sc ar sl tf (p) (ls) (v :: st) := fun g hR hF => pg_pop h0 h1 (h2 g hR hF)
theorem pc_dup2 {v w : Value} (h0 : decode bd.2.1 p = .ok (.dup2, 1)) (h1 : v.category = 1) (h2 : w.category = 1) (h3 : pc fx bd dd Q al n g0 sc ar sl tf (p + 1) (ls) (v :: w :: v :: w :: st)) : pc fx bd dd Q al n g0 sc ar sl tf (p) (ls) (v :: w :: st) := fun g hR hF => pg_dup2 h0 h1 h2 (h3 g hR hF)
theorem pc_if_eq {x : Int32} {off : Int} {tgt : Nat} (h0 : decode bd.2.1 p = .ok (.ifCond .eq off, 3)) (h1 : (p : Int) + off = (tgt : Int)) (h2 : (x = 0 → pc fx bd dd Q al n g0 sc ar sl tf (tgt) (ls) (st))) (h3 : (¬ x = 0 → pc fx bd dd Q al n g0 sc ar sl tf (p + 3) (ls) (st))) : pc fx bd dd Q al n g0 sc ar sl tf (p) (ls) (.int x :: st) := fun g hR hF => pg_if_eq h0 h1 (fun z => h2 z g hR hF) (fun z => h3 z g hR hF)
theorem pc_if_ne {x : Int32} {off : Int} {tgt : Nat} (h0 : decode bd.2.1 p = .ok (.ifCond .ne off, 3)) (h1 : (p : Int) + off = (tgt : Int)) (h2 : (¬ x = 0 → pc fx bd dd Q al n g0 sc ar sl tf (tgt) (ls) (st))) (h3 : (x = 0 → pc fx bd dd Q al n g0 sc ar sl tf (p + 3) (ls) (st))) : pc fx bd dd Q al n g0 sc ar sl tf (p) (ls) (.int x :: st) := fun g hR hF => pg_if_ne h0 h1 (fun z => h2 z g hR hF) (fun z => h3 z g hR hF)
theorem pc_if_lt {x : Int32} {off : Int} {tgt : Nat} (h0 : decode bd.2.1 p = .ok (.ifCond .lt off, 3)) (h1 : (p : Int) + off = (tgt : Int)) (h2 : (x < 0 → pc fx bd dd Q al n g0 sc ar sl tf (tgt) (ls) (st))) (h3 : (¬ x < 0 → pc fx bd dd Q al n g0 sc ar sl tf (p + 3) (ls) (st))) : pc fx bd dd Q al n g0 sc ar sl tf (p) (ls) (.int x :: st) := fun g hR hF => pg_if_lt h0 h1 (fun z => h2 z g hR hF) (fun z => h3 z g hR hF)
theorem pc_if_ge {x : Int32} {off : Int} {tgt : Nat} (h0 : decode bd.2.1 p = .ok (.ifCond .ge off, 3)) (h1 : (p : Int) + off = (tgt : Int)) (h2 : (0 ≤ x → pc fx bd dd Q al n g0 sc ar sl tf (tgt) (ls) (st))) (h3 : (¬ 0 ≤ x → pc fx bd dd Q al n g0 sc ar sl tf (p + 3) (ls) (st))) : pc fx bd dd Q al n g0 sc ar sl tf (p) (ls) (.int x :: st) := fun g hR hF => pg_if_ge h0 h1 (fun z => h2 z g hR hF) (fun z => h3 z g hR hF)
theorem pc_if_gt {x : Int32} {off : Int} {tgt : Nat} (h0 : decode bd.2.1 p = .ok (.ifCond .gt off, 3)) (h1 : (p : Int) + off = (tgt : Int)) (h2 : (0 < x → pc fx bd dd Q al n g0 sc ar sl tf (tgt) (ls) (st))) (h3 : (¬ 0 < x → pc fx bd dd Q al n g0 sc ar sl tf (p + 3) (ls) (st))) : pc fx bd dd Q al n g0 sc ar sl tf (p) (ls) (.int x :: st) := fun g hR hF => pg_if_gt h0 h1 (fun z => h2 z g hR hF) (fun z => h3 z g hR hF)
theorem pc_if_le {x : Int32} {off : Int} {tgt : Nat} (h0 : decode bd.2.1 p = .ok (.ifCond .le off, 3)) (h1 : (p : Int) + off = (tgt : Int)) (h2 : (x ≤ 0 → pc fx bd dd Q al n g0 sc ar sl tf (tgt) (ls) (st))) (h3 : (¬ x ≤ 0 → pc fx bd dd Q al n g0 sc ar sl tf (p + 3) (ls) (st))) : pc fx bd dd Q al n g0 sc ar sl tf (p) (ls) (.int x :: st) := fun g hR hF => pg_if_le h0 h1 (fun z => h2 z g hR hF) (fun z => h3 z g hR hF)
theorem pc_icmp_eq {x y : Int32} {off : Int} {tgt : Nat} (h0 : decode bd.2.1 p = .ok (.if_icmp .eq off, 3)) (h1 : (p : Int) + off = (tgt : Int)) (h2 : (x = y → pc fx bd dd Q al n g0 sc ar sl tf (tgt) (ls) (st))) (h3 : (¬ x = y → pc fx bd dd Q al n g0 sc ar sl tf (p + 3) (ls) (st))) : pc fx bd dd Q al n g0 sc ar sl tf (p) (ls) (.int y :: .int x :: st) := fun g hR hF => pg_icmp_eq h0 h1 (fun z => h2 z g hR hF) (fun z => h3 z g hR hF)
theorem pc_icmp_ne {x y : Int32} {off : Int} {tgt : Nat} (h0 : decode bd.2.1 p = .ok (.if_icmp .ne off, 3)) (h1 : (p : Int) + off = (tgt : Int)) (h2 : (¬ x = y → pc fx bd dd Q al n g0 sc ar sl tf (tgt) (ls) (st))) (h3 : (x = y → pc fx bd dd Q al n g0 sc ar sl tf (p + 3) (ls) (st))) : pc fx bd dd Q al n g0 sc ar sl tf (p) (ls) (.int y :: .int x :: st) := fun g hR hF => pg_icmp_ne h0 h1 (fun z => h2 z g hR hF) (fun z => h3 z g hR hF)
theorem pc_icmp_lt {x y : Int32} {off : Int} {tgt : Nat} (h0 : decode bd.2.1 p = .ok (.if_icmp .lt off, 3)) (h1 : (p : Int) + off = (tgt : Int)) (h2 : (x < y → pc fx bd dd Q al n g0 sc ar sl tf (tgt) (ls) (st))) (h3 : (¬ x < y → pc fx bd dd Q al n g0 sc ar sl tf (p + 3) (ls) (st))) : pc fx bd dd Q al n g0 sc ar sl tf (p) (ls) (.int y :: .int x :: st) := fun g hR hF => pg_icmp_lt h0 h1 (fun z => h2 z g hR hF) (fun z => h3 z g hR hF)
theorem pc_icmp_ge {x y : Int32} {off : Int} {tgt : Nat} (h0 : decode bd.2.1 p = .ok (.if_icmp .ge off, 3)) (h1 : (p : Int) + off = (tgt : Int)) (h2 : (y ≤ x → pc fx bd dd Q al n g0 sc ar sl tf (tgt) (ls) (st))) (h3 : (¬ y ≤ x → pc fx bd dd Q al n g0 sc ar sl tf (p + 3) (ls) (st))) : pc fx bd dd Q al n g0 sc ar sl tf (p) (ls) (.int y :: .int x :: st) := fun g hR hF => pg_icmp_ge h0 h1 (fun z => h2 z g hR hF) (fun z => h3 z g hR hF)
theorem pc_icmp_gt {x y : Int32} {off : Int} {tgt : Nat} (h0 : decode bd.2.1 p = .ok (.if_icmp .gt off, 3)) (h1 : (p : Int) + off = (tgt : Int)) (h2 : (y < x → pc fx bd dd Q al n g0 sc ar sl tf (tgt) (ls) (st))) (h3 : (¬ y < x → pc fx bd dd Q al n g0 sc ar sl tf (p + 3) (ls) (st))) : pc fx bd dd Q al n g0 sc ar sl tf (p) (ls) (.int y :: .int x :: st) := fun g hR hF => pg_icmp_gt h0 h1 (fun z => h2 z g hR hF) (fun z => h3 z g hR hF)
theorem pc_icmp_le {x y : Int32} {off : Int} {tgt : Nat} (h0 : decode bd.2.1 p = .ok (.if_icmp .le off, 3)) (h1 : (p : Int) + off = (tgt : Int)) (h2 : (x ≤ y → pc fx bd dd Q al n g0 sc ar sl tf (tgt) (ls) (st))) (h3 : (¬ x ≤ y → pc fx bd dd Q al n g0 sc ar sl tf (p + 3) (ls) (st))) : pc fx bd dd Q al n g0 sc ar sl tf (p) (ls) (.int y :: .int x :: st) := fun g hR hF => pg_icmp_le h0 h1 (fun z => h2 z g hR hF) (fun z => h3 z g hR hF)
theorem pc_goto {off : Int} {tgt : Nat} (h0 : decode bd.2.1 p = .ok (.goto off, 3)) (h1 : (p : Int) + off = (tgt : Int)) (h2 : pc fx bd dd Q al n g0 sc ar sl tf (tgt) (ls) (st)) : pc fx bd dd Q al n g0 sc ar sl tf (p) (ls) (st) := fun g hR hF => pg_goto h0 h1 (h2 g hR hF)
theorem pc_ifnull {v : Value} {off : Int} {tgt : Nat} (h0 : decode bd.2.1 p = .ok (.ifnull off, 3)) (h1 : (p : Int) + off = (tgt : Int)) (h2 : px_isR v = true) (h3 : (v = .null → pc fx bd dd Q al n g0 sc ar sl tf (tgt) (ls) (st))) (h4 : (∀ a, v = .ref a → pc fx bd dd Q al n g0 sc ar sl tf (p + 3) (ls) (st))) : pc fx bd dd Q al n g0 sc ar sl tf (p) (ls) (v :: st) := fun g hR hF => pg_ifnull h0 h1 h2 (fun z => h3 z g hR hF) (fun a z => h4 a z g hR hF)
theorem pc_ifnonnull {v : Value} {off : Int} {tgt : Nat} (h0 : decode bd.2.1 p = .ok (.ifnonnull off, 3)) (h1 : (p : Int) + off = (tgt : Int)) (h2 : px_isR v = true) (h3 : (∀ a, v = .ref a → pc fx bd dd Q al n g0 sc ar sl tf (tgt) (ls) (st))) (h4 : (v = .null → pc fx bd dd Q al n g0 sc ar sl tf (p + 3) (ls) (st))) : pc fx bd dd Q al n g0 sc ar sl tf (p) (ls) (v :: st) := fun g hR hF => pg_ifnonnull h0 h1 h2 (fun a z => h3 a z g hR hF) (fun z => h4 z g hR hF)
theorem pc_tableOut {dflt lo hi : Int} {offs : Array Int} {len : Nat} {x : Int32} {tgt : Nat} (h0 : decode bd.2.1 p = .ok (.tableswitch dflt lo hi offs, len)) (h1 : x.toInt < lo ∨ hi < x.toInt) (h2 : (p : Int) + dflt = (tgt : Int)) (h3 : pc fx bd dd Q al n g0 sc ar sl tf (tgt) (ls) (st)) : pc fx bd dd Q al n g0 sc ar sl tf (p) (ls) (.int x :: st) := fun g hR hF => pg_tableOut h0 h1 h2 (h3 g hR hF)
theorem pc_tableIn {dflt lo hi : Int} {offs : Array Int} {len : Nat} {x : Int32} {off : Int} {tgt : Nat} (h0 : decode bd.2.1 p = .ok (.tableswitch dflt lo hi offs, len)) (h1 : ¬ x.toInt < lo) (h2 : ¬ hi < x.toInt) (h3 : offs[(x.toInt - lo).toNat]? = some off) (h4 : (p : Int) + off = (tgt : Int)) (h5 : pc fx bd dd Q al n g0 sc ar sl tf (tgt) (ls) (st)) : pc fx bd dd Q al n g0 sc ar sl tf (p) (ls) (.int x :: st) := fun g hR hF => pg_tableIn h0 h1 h2 h3 h4 (h5 g hR hF)
theorem pc_lookup {dflt : Int} {ps : Array (Int × Int)} {len : Nat} {x : Int32} {off : Int} {tgt : Nat} (h0 : decode bd.2.1 p = .ok (.lookupswitch dflt ps, len)) (h1 : (ps.toList.zip (ps.toList.drop 1)).all (fun (a, next) => a.1 < next.1) = true) (h2 : Op.lookupswitch.offset ps.toList dflt x.toInt = off) (h3 : (p : Int) + off = (tgt : Int)) (h4 : pc fx bd dd Q al n g0 sc ar sl tf (tgt) (ls) (st)) : pc fx bd dd Q al n g0 sc ar sl tf (p) (ls) (.int x :: st) := fun g hR hF => pg_lookup h0 h1 h2 h3 (h4 g hR hF)
theorem pc_ldcS {idx i : Nat} (h0 : decode bd.2.1 p = .ok (.ldc idx, 2)) (h1 : px_lds bd.1 idx i) (h2 : pc fx bd dd Q al n g0 sc ar sl tf (p + 2) (ls) (.ref (fx.1 i) :: st)) : pc fx bd dd Q al n g0 sc ar sl tf (p) (ls) (st) := fun g hR hF => pg_ldcS h0 h1 (h2 g hR hF)
theorem pc_getS {idx ci k c : Nat} {v : Int32} (h0 : decode bd.2.1 p = .ok (.getfield idx, 3)) (h1 : px_fld bd.1 idx ci k) (hc : c < 36) (h2 : cCls c = some ci) (h3 : cKd c k = 0) (hv : sc c k = v) (kk : pc fx bd dd Q al n g0 sc ar sl tf (p + 3) ls (.int v :: st)) : pc fx bd dd Q al n g0 sc ar sl tf p ls (.ref (al c) :: st) := fun g hR hF => pg_get h0 h1 (by have := hR.1; omega) ((hR.2 c hc).trans (cObj_o h2)) ((cF_s h3).trans (congrArg Value.int hv)) (kk g hR hF)
theorem pc_getSN {idx ci k c : Nat} {v : Int32} (h0 : decode bd.2.1 p = .ok (.getfield idx, 3)) (h1 : px_fldN bd.1 idx ci k) (hc : c < 36) (h2 : cCls c = some ci) (h3 : cKd c k = 0) (hv : sc c k = v) (kk : pc fx bd dd Q al n g0 sc ar sl tf (p + 3) ls (.int v :: st)) : pc fx bd dd Q al n g0 sc ar sl tf p ls (.ref (al c) :: st) := fun g hR hF => pg_getN h0 h1 (by have := hR.1; omega) ((hR.2 c hc).trans (cObj_o h2)) ((cF_s h3).trans (congrArg Value.int hv)) (kk g hR hF)
theorem pc_getR {idx ci k c d : Nat} (h0 : decode bd.2.1 p = .ok (.getfield idx, 3)) (h1 : px_fld bd.1 idx ci k) (hc : c < 36) (h2 : cCls c = some ci) (h3 : cKd c k = d + 3) (kk : pc fx bd dd Q al n g0 sc ar sl tf (p + 3) ls (.ref (al d) :: st)) : pc fx bd dd Q al n g0 sc ar sl tf p ls (.ref (al c) :: st) := fun g hR hF => pg_get h0 h1 (by have := hR.1; omega) ((hR.2 c hc).trans (cObj_o h2)) (cF_r h3) (kk g hR hF)
theorem pc_getRN {idx ci k c d : Nat} (h0 : decode bd.2.1 p = .ok (.getfield idx, 3)) (h1 : px_fldN bd.1 idx ci k) (hc : c < 36) (h2 : cCls c = some ci) (h3 : cKd c k = d + 3) (kk : pc fx bd dd Q al n g0 sc ar sl tf (p + 3) ls (.ref (al d) :: st)) : pc fx bd dd Q al n g0 sc ar sl tf p ls (.ref (al c) :: st) := fun g hR hF => pg_getN h0 h1 (by have := hR.1; omega) ((hR.2 c hc).trans (cObj_o h2)) (cF_r h3) (kk g hR hF)
theorem pc_getL {idx : Nat} (h0 : decode bd.2.1 p = .ok (.getfield idx, 3)) (h1 : px_fld bd.1 idx 9 7) (kk : pc fx bd dd Q al n g0 sc ar sl tf (p + 3) ls (sl :: st)) : pc fx bd dd Q al n g0 sc ar sl tf p ls (.ref (al 0) :: st) := fun g hR hF => pg_get h0 h1 (by have := hR.1; omega) ((hR.2 0 (by decide)).trans (cObj_o rfl)) (cF_l rfl) (kk g hR hF)
theorem pc_put {idx ci k c : Nat} {v : Int32} (h0 : decode bd.2.1 p = .ok (.putfield idx, 3)) (h1 : px_fld bd.1 idx ci k) (hc : c < 36) (h2 : cCls c = some ci) (h3 : cKd c k = 0) (h4 : px_fin ci k false) (h5 : narrow (px_ty ci k) (.int v) = .int v) (h6 : fits (px_ty ci k) (.int v) = true) (kk : pc fx bd dd Q al n g0 (up2 sc c k v) ar sl tf (p + 3) ls st) : pc fx bd dd Q al n g0 sc ar sl tf p ls (.int v :: .ref (al c) :: st) := fun g hR hF => pg_put h0 h1 h4 (by have := hR.1; omega) ((hR.2 c hc).trans (cObj_o h2)) h5 h6 (kk _ (hR.put hc h2 h3) (hF.put hc))
theorem pc_putN {idx ci k c : Nat} {v : Int32} (h0 : decode bd.2.1 p = .ok (.putfield idx, 3)) (h1 : px_fldN bd.1 idx ci k) (hc : c < 36) (h2 : cCls c = some ci) (h3 : cKd c k = 0) (h4 : px_fin ci k false) (h5 : narrow (px_ty ci k) (.int v) = .int v) (h6 : fits (px_ty ci k) (.int v) = true) (kk : pc fx bd dd Q al n g0 (up2 sc c k v) ar sl tf (p + 3) ls st) : pc fx bd dd Q al n g0 sc ar sl tf p ls (.int v :: .ref (al c) :: st) := fun g hR hF => pg_putN h0 h1 h4 (by have := hR.1; omega) ((hR.2 c hc).trans (cObj_o h2)) h5 h6 (kk _ (hR.put hc h2 h3) (hF.put hc))
theorem pc_iald {c L j : Nat} {i v : Int32} (h0 : decode bd.2.1 p = .ok (.iaload, 1)) (hc : c < 36) (h1 : cCls c = none) (h2 : cAr c = some L) (hi : i = nI j) (hj : j < L) (hL : L < 2 ^ 31) (hv : ar c j = v) (kk : pc fx bd dd Q al n g0 sc ar sl tf (p + 1) ls (.int v :: st)) : pc fx bd dd Q al n g0 sc ar sl tf p ls (.int i :: .ref (al c) :: st) := fun g hR hF => by
  subst hi
  subst hv
  have k9 := kk g hR hF
  refine pg_iald h0 (by have := hR.1; omega) ((hR.2 c hc).trans (cObj_a h1 h2)) (vp_in_nI hj hL) ?_
  rw [nI_clamp (by omega)]
  exact k9
theorem pc_iast {c L j : Nat} {i x : Int32} (h0 : decode bd.2.1 p = .ok (.iastore, 1)) (hc : c < 36) (h1 : cCls c = none) (h2 : cAr c = some L) (hi : i = nI j) (hj : j < L) (hL : L < 2 ^ 31) (kk : pc fx bd dd Q al n g0 sc (va_up ar c (upd (ar c) j x)) sl tf (p + 1) ls st) : pc fx bd dd Q al n g0 sc ar sl tf p ls (.int x :: .int i :: .ref (al c) :: st) := fun g hR hF => by
  subst hi
  refine pg_iast h0 (by have := hR.1; omega) ((hR.2 c hc).trans (cObj_a h1 h2)) (vp_in_nI hj hL) ?_
  rw [nI_clamp (by omega)]
  exact kk _ (hR.ast hc h1 h2) (hF.put hc)
theorem pc_alen {c L : Nat} (h0 : decode bd.2.1 p = .ok (.arraylength, 1)) (hc : c < 36) (h1 : cCls c = none) (h2 : cAr c = some L) (kk : pc fx bd dd Q al n g0 sc ar sl tf (p + 1) ls (.int (nI L) :: st)) : pc fx bd dd Q al n g0 sc ar sl tf p ls (.ref (al c) :: st) := fun g hR hF => pg_alen h0 (by have := hR.1; omega) (by decide) ((hR.2 c hc).trans (cObj_a h1 h2)) (kk g hR hF)
theorem pc_dget {idx ci k j : Nat} {f : Nat → Value} {v : Value} (h0 : decode bd.2.1 p = .ok (.getfield idx, 3)) (h1 : px_fld bd.1 idx ci k) (hj : 36 ≤ j) (hn : j < n) (h2 : g0 j = .inr (ci, f)) (hv : f k = v) (kk : pc fx bd dd Q al n g0 sc ar sl tf (p + 3) ls (v :: st)) : pc fx bd dd Q al n g0 sc ar sl tf p ls (.ref (al j) :: st) := fun g hR hF => pg_get h0 h1 hn ((hF j hj).trans h2) hv (kk g hR hF)
theorem pc_dgetN {idx ci k j : Nat} {f : Nat → Value} {v : Value} (h0 : decode bd.2.1 p = .ok (.getfield idx, 3)) (h1 : px_fldN bd.1 idx ci k) (hj : 36 ≤ j) (hn : j < n) (h2 : g0 j = .inr (ci, f)) (hv : f k = v) (kk : pc fx bd dd Q al n g0 sc ar sl tf (p + 3) ls (v :: st)) : pc fx bd dd Q al n g0 sc ar sl tf p ls (.ref (al j) :: st) := fun g hR hF => pg_getN h0 h1 hn ((hF j hj).trans h2) hv (kk g hR hF)
theorem pc_dald {a L j : Nat} {f : Nat → Int32} {i v : Int32} (h0 : decode bd.2.1 p = .ok (.iaload, 1)) (ha : 36 ≤ a) (hn : a < n) (h2 : g0 a = .inl (0, L, .inl f)) (hi : i = nI j) (hj : j < L) (hL : L < 2 ^ 31) (hv : f j = v) (kk : pc fx bd dd Q al n g0 sc ar sl tf (p + 1) ls (.int v :: st)) : pc fx bd dd Q al n g0 sc ar sl tf p ls (.int i :: .ref (al a) :: st) := fun g hR hF => by
  subst hi
  subst hv
  have k9 := kk g hR hF
  refine pg_iald h0 hn ((hF a ha).trans h2) (vp_in_nI hj hL) ?_
  rw [nI_clamp (by omega)]
  exact k9
theorem pc_dalen {a t : Nat} {A : vp_A} (h0 : decode bd.2.1 p = .ok (.arraylength, 1)) (ha : 36 ≤ a) (hn : a < n) (ht : t < 8) (h2 : g0 a = .inl (t, A)) (kk : pc fx bd dd Q al n g0 sc ar sl tf (p + 1) ls (.int (nI A.1) :: st)) : pc fx bd dd Q al n g0 sc ar sl tf p ls (.ref (al a) :: st) := fun g hR hF => pg_alen h0 hn ht ((hF a ha).trans h2) (kk g hR hF)
theorem pc_call {idx k c ci : Nat} {As : (Nat → Nat) → List Value} {st0 : List Value} {D : (Nat → Nat) → Nat → (Nat → px_O) → Prop} {post : Option Value → (Nat → Nat → Int32) → (Nat → Nat → Int32) → Prop} (h0 : decode bd.2.1 p = .ok (.invokevirtual idx, 3)) {na : Nat} (h1 : px_cV px_tb bd.1 idx k ci na) (hc : c < 36) (h2 : cCls c = some ci) (hC : CP dd k (fun al => .ref (al c) :: As al) D sc ar sl tf post) (hD : ∀ g, cfr g0 g → D al n g) (hn : (As al).length = na) (h4 : st0 = (As al).reverse ++ .ref (al c) :: st) (h5 : (st.map fun v => v.category).sum ≤ 8) (hz : px_mc px_tb k = 0 ∧ px_ms px_tb k = 0)
    (kk : ∀ res sc2 ar2, post res sc2 ar2 → pc fx bd dd Q al n g0 sc2 ar2 sl tf (p + 3) ls (res.toList ++ st)) : pc fx bd dd Q al n g0 sc ar sl tf p ls st0 := fun g hR hF => by
  refine pg_callV (pm_mono px_tb fx dd) (idx := idx) (k := k) (As := As al) h0 (hn ▸ h1) (by have := hR.1; omega) ((hR.2 c hc).trans (cObj_o h2)) h4 h5 (by rw [hz.1]; exact Nat.zero_le _) (by rw [hz.2]; exact Nat.zero_le _) ?_
  rw [hz.1, hz.2]
  exact hC fx al n g _ hR (hD g hF) (fun res sc2 ar2 g2 hp hR2 hF2 => kk res sc2 ar2 hp g2 hR2 (hF.tr hF2))
theorem pc_callN {idx k c ci : Nat} {As : (Nat → Nat) → List Value} {st0 : List Value} {D : (Nat → Nat) → Nat → (Nat → px_O) → Prop} {post : Option Value → (Nat → Nat → Int32) → (Nat → Nat → Int32) → Prop} (h0 : decode bd.2.1 p = .ok (.invokevirtual idx, 3)) {na : Nat} (h1 : px_cVN px_tb bd.1 idx k ci na) (hc : c < 36) (h2 : cCls c = some ci) (hC : CP dd k (fun al => .ref (al c) :: As al) D sc ar sl tf post) (hD : ∀ g, cfr g0 g → D al n g) (hn : (As al).length = na) (h4 : st0 = (As al).reverse ++ .ref (al c) :: st) (h5 : (st.map fun v => v.category).sum ≤ 8) (hz : px_mc px_tb k = 0 ∧ px_ms px_tb k = 0)
    (kk : ∀ res sc2 ar2, post res sc2 ar2 → pc fx bd dd Q al n g0 sc2 ar2 sl tf (p + 3) ls (res.toList ++ st)) : pc fx bd dd Q al n g0 sc ar sl tf p ls st0 := fun g hR hF => by
  refine pg_callVN (pm_mono px_tb fx dd) (idx := idx) (k := k) (As := As al) h0 (hn ▸ h1) (by have := hR.1; omega) ((hR.2 c hc).trans (cObj_o h2)) h4 h5 (by rw [hz.1]; exact Nat.zero_le _) (by rw [hz.2]; exact Nat.zero_le _) ?_
  rw [hz.1, hz.2]
  exact hC fx al n g _ hR (hD g hF) (fun res sc2 ar2 g2 hp hR2 hF2 => kk res sc2 ar2 hp g2 hR2 (hF.tr hF2))
theorem pc_callSC {idx k : Nat} {As st0 : List Value} {res : Option Value} (h0 : decode bd.2.1 p = .ok (.invokestatic idx, 3)) {na : Nat} (h1 : px_cS px_tb bd.1 idx k na) (hC : SC dd k As res) (hn : As.length = na) (h4 : st0 = As.reverse ++ st) (h5 : (st.map fun v => v.category).sum ≤ 8) (hz : px_mc px_tb k = 0 ∧ px_ms px_tb k = 0)
    (kk : pc fx bd dd Q al n g0 sc ar sl tf (p + 3) ls (res.toList ++ st)) : pc fx bd dd Q al n g0 sc ar sl tf p ls st0 := fun g hR hF => by
  refine pg_callS (pm_mono px_tb fx dd) (idx := idx) (k := k) (As := As) h0 (hn ▸ h1) h4 h5 (by rw [hz.1]; exact Nat.zero_le _) (by rw [hz.2]; exact Nat.zero_le _) ?_
  rw [hz.1, hz.2]
  exact hC fx al n g _ (kk g hR hF)
theorem pc_callSCN {idx k : Nat} {As st0 : List Value} {res : Option Value} (h0 : decode bd.2.1 p = .ok (.invokestatic idx, 3)) {na : Nat} (h1 : px_cSN px_tb bd.1 idx k na) (hC : SC dd k As res) (hn : As.length = na) (h4 : st0 = As.reverse ++ st) (h5 : (st.map fun v => v.category).sum ≤ 8) (hz : px_mc px_tb k = 0 ∧ px_ms px_tb k = 0)
    (kk : pc fx bd dd Q al n g0 sc ar sl tf (p + 3) ls (res.toList ++ st)) : pc fx bd dd Q al n g0 sc ar sl tf p ls st0 := fun g hR hF => by
  refine pg_callSN (pm_mono px_tb fx dd) (idx := idx) (k := k) (As := As) h0 (hn ▸ h1) h4 h5 (by rw [hz.1]; exact Nat.zero_le _) (by rw [hz.2]; exact Nat.zero_le _) ?_
  rw [hz.1, hz.2]
  exact hC fx al n g _ (kk g hR hF)
theorem pc_callT {idx k i : Nat} {As st0 : List Value} {res : Option Value} (h0 : decode bd.2.1 p = .ok (.invokevirtual idx, 3)) {na : Nat} (h1 : px_cT px_tb bd.1 idx k na) (hi : i < 4) (hC : FC dd k (fun fx => .ref (fx.1 i) :: As) res) (hn : As.length = na) (h4 : st0 = As.reverse ++ .ref (fx.1 i) :: st) (h5 : (st.map fun v => v.category).sum ≤ 8) (hz : px_mc px_tb k = 0 ∧ px_ms px_tb k = 0)
    (kk : pc fx bd dd Q al n g0 sc ar sl tf (p + 3) ls (res.toList ++ st)) : pc fx bd dd Q al n g0 sc ar sl tf p ls st0 := fun g hR hF => fg_callT h0 h1 hi hC hn h4 h5 hz (kk g hR hF)
theorem pc_iret {x : Int32} {ty : FieldType} {post : Option Value → (Nat → Nat → Int32) → (Nat → Nat → Int32) → Prop} (hQ : ∀ res sc2 ar2 g2, post res sc2 ar2 → CR al n g2 sc2 ar2 sl tf → cfr g0 g2 → Q (.inl res) al n g2) (h0 : decode bd.2.1 p = .ok (.ireturn, 1)) (h1 : bd.2.2.1 = some ty) (h2 : narrow ty (.int x) = .int x) (hp : post (some (.int x)) sc ar) : pc fx bd dd Q al n g0 sc ar sl tf p ls [.int x] := fun g hR hF =>
  pg_iret h0 h1 h2 (Nat.zero_le _) (Nat.zero_le _) (hQ _ _ _ g hp hR hF)
theorem pc_vret {post : Option Value → (Nat → Nat → Int32) → (Nat → Nat → Int32) → Prop} (hQ : ∀ res sc2 ar2 g2, post res sc2 ar2 → CR al n g2 sc2 ar2 sl tf → cfr g0 g2 → Q (.inl res) al n g2) (h0 : decode bd.2.1 p = .ok (.return_, 1)) (h1 : bd.2.2.1 = none) (hp : post none sc ar) : pc fx bd dd Q al n g0 sc ar sl tf p ls [] := fun g hR hF =>
  pg_vret h0 h1 (Nat.zero_le _) (Nat.zero_le _) (hQ _ _ _ g hp hR hF)
end PCR
