/-! WHAT STANDS FAST OF A STATE, AND THE WALK'S JUDGEMENT OVER THE PURE MACHINE -/
theorem px_nest_warm {w : Cond} {s U : State} (hn : px_nest w = true) (hW : s.WarmedH U.vm) (h : va_Nw w s) : va_Nw w U := by
  cases w <;> first | exact va_Nw.warmF hW h | exact va_Nw.warmM hW h | exact va_Nw.warmC hW h | exact va_Nw.warmD hW h | (exact absurd hn (by decide)) | (simp [px_nest] at hn)
/-- the tables' words, the constants, the script -/
def px_Gl (fx : px_F) (cy : Nat → ClassId) (D : va_G) (A : Nat → Prop) (U : State) : Prop :=
  va_K D vwCl (px_tys cy) U ∧ (∀ w ∈ lw_tbl, px_nest w = true → va_Nw w U) ∧
  (∀ (own : String) (idx : Nat) (tx : String), Cond.stringRef own idx tx ∈ lw_tbl → ∃ a, vk_R own idx tx a U ∧ ∀ i, px_lds own idx i → a = fx.1 i) ∧
  vk_S 4 px_len px_byt fx.1 fx.2.1 A U U.heap ∧ va_Z "java/lang/String" "COMPACT_STRINGS" "Z" (.int 1) A U U.heap ∧ va_Zq "jdk/internal/util/Preconditions" "SIOOBE_FORMATTER" "Ljava/util/function/BiFunction;" A U U.heap ∧
  vx_Zq Bundle.tN "UNASSIGNED_STACK" Bundle.steD A U U.heap ∧ vx_Zq Bundle.tN "SUPPRESSED_SENTINEL" Bundle.listD A U U.heap ∧
  va_X fx.2.2.1 fx.2.2.2.1 fx.2.2.2.2 U U.heap ∧ fx.2.2.1 < U.heap.size ∧ ¬ A fx.2.2.1 ∧
  va_AO RX1 U ∧ va_AO RX5 U ∧ va_AO RX8 U ∧ va_AOA .int U ∧
  (∀ E ∈ px_exs, ∀ E' ∈ px_exs, E ≠ E' → va_Nc E E' U) ∧ ∀ q, U.heap.size ≤ q → A q
theorem va_AOA.moved {ty : FieldType} {s U : State} (hvm : s.vm.Alike U.vm) (h : va_AOA ty s) : va_AOA ty U := by
  have h1 : (Cond.arrayOver (.array ty)).before #[] (s.setVm U.vm) = true := by rw [Cond.arrayOver_setVmC hvm]; exact h
  exact h1
theorem px_Gl.moved {fx : px_F} {cy : Nat → ClassId} {D : va_G} {A : Nat → Prop} {s U : State} {H : Heap} {locs : List Loc} (h : px_Gl fx cy D A s) (hW : s.WarmedH U.vm) (hU : U.heap = H) (hS : va_S A s.heap H locs) : px_Gl fx cy D A U := by
  obtain ⟨h1, h2, h3, h4, h5, h6, h7, h8, h9, h10, h11, h12, h13, h14, h15, h16, h17⟩ := h
  have hq : ∀ a : Nat, a < s.heap.size → ¬ A a → U.heap[a]? = s.heap[a]? := fun a z1 z2 => by rw [hU]; exact hS.2.1 a z1 z2
  have hv := hW.alike
  have hz : s.heap.size ≤ U.heap.size := by rw [hU]; exact hS.1
  refine ⟨va_K.moved hv h1, fun w z1 z2 => px_nest_warm z2 hW (h2 w z1 z2), fun own idx tx z => ?_, (vk_S.moved hv h4).kept hq, (va_Z.moved hv h5).kept hq, (va_Zq.moved hv h6).kept hq, (vx_Zq.moved hv h7).kept hq, (vx_Zq.moved hv h8).kept hq, (va_X.moved hv h9).kept (hq _ h10 h11), Nat.lt_of_lt_of_le h10 hz, h11, va_AO.moved hv h12, va_AO.moved hv h13, va_AO.moved hv h14, va_AOA.moved hv h15, fun E z1 E' z2 z3 => va_Nc.moved hv (h16 E z1 E' z2 z3), fun q z => h17 q (Nat.le_trans hz z)⟩
  obtain ⟨a, k1, k2⟩ := h3 own idx tx z
  exact ⟨a, vk_R.warm hW k1, k2⟩
def px_isI (v : Value) : Bool := match v with
  | .int _ => true
  | .ref _ => true
  | .null => true
  | _ => false
theorem px_isI_cat {v : Value} (h : px_isI v = true) : v.category = 1 := by cases v <;> first | rfl | (exact Bool.noConfusion h)
theorem px_isR_I {v : Value} (h : px_isR v = true) : px_isI v = true := by cases v <;> first | rfl | (exact Bool.noConfusion h)
theorem px_isR_or {v : Value} (h : px_isR v = true) : v = .null ∨ ∃ a, v = .ref a := by
  cases v with
  | ref a => exact Or.inr ⟨a, rfl⟩
  | null => exact Or.inl rfl
  | _ => exact Bool.noConfusion h
/-- the frame's locals, by a list -/
def px_L (rl : Array Slot) (ls : List Value) : Prop := rl.size = ls.length ∧ lv_wf rl ∧ ∀ (i : Nat) (v : Value), ls[i]? = some v → px_isI v = true → rl[i]? = some (.val v)
def px_lv (ls : List Value) : List (Nat × Value) := ((List.range ls.length).map (fun i => (i, ls.getD i .null))).filter (fun q => px_isI q.2)
theorem px_lv_mem {ls : List Value} {i : Nat} {v : Value} (h : ls[i]? = some v) (hv : px_isI v = true) : (i, v) ∈ px_lv ls := by
  have hl := (List.getElem?_eq_some_iff.mp h).1
  refine List.mem_filter.mpr ⟨List.mem_map.mpr ⟨i, List.mem_range.mpr hl, ?_⟩, hv⟩
  rw [List.getD_eq_getElem?_getD, h]
  rfl
theorem px_lv_of {ls : List Value} {q : Nat × Value} (h : q ∈ px_lv ls) : ls[q.1]? = some q.2 ∧ px_isI q.2 = true := by
  obtain ⟨h1, h2⟩ := List.mem_filter.mp h
  obtain ⟨i, hi, rfl⟩ := List.mem_map.mp h1
  have hl := List.mem_range.mp hi
  refine ⟨?_, h2⟩
  show ls[i]? = some (ls.getD i .null)
  rw [List.getD_eq_getElem?_getD, List.getElem?_eq_getElem hl]
  rfl
theorem px_L.has {rl : Array Slot} {ls : List Value} (h : px_L rl ls) : lv_has rl ls.length (px_lv ls) := ⟨h.1, h.2.1, fun q hq => h.2.2 q.1 q.2 (px_lv_of hq).1 (px_lv_of hq).2⟩
theorem px_L.set {rl : Array Slot} {ls : List Value} {i : Nat} {v : Value} (hi : i < ls.length) (h : lv_has rl ls.length ((i, v) :: (px_lv ls).filter (fun q => !(q.1 == i) && !(q.1 + 1 == i && q.2.category == 2)))) : px_L rl (ls.set i v) := by
  refine ⟨by rw [List.length_set]; exact h.1, h.2.1, fun j w hj hw => ?_⟩
  by_cases e : j = i
  · subst e
    rw [List.getElem?_set_self hi] at hj
    cases hj
    exact h.2.2 _ List.mem_cons_self
  · rw [List.getElem?_set_ne (Ne.symm e)] at hj
    refine h.2.2 (j, w) (List.mem_cons_of_mem _ (List.mem_filter.mpr ⟨px_lv_mem hj hw, ?_⟩))
    have hc := px_isI_cat hw
    simp [e, hc]
/-- the walk's judgement, over the pure machine's state -/
def px_J (p : Program) (l : Launch) (e : Env) (R : Room) (s : State) (m : MethodId) (args : Array Value) (below : List Frame) (meth : Method) (c : Code) (D : va_G) (cy : Nat → ClassId) (A : Nat → Prop) (Qf : State → Prop) : px_P := fun al n g pc ls st uc us =>
  ∀ (H : Heap) (locs : List Loc) (rl : Array Slot), va_P D vwCl (px_w cy al n g) H → va_D A (px_w cy al n g) → va_S A s.heap H locs → px_L rl ls → rl.size = c.maxLocals → W p l e R s m args below meth c H locs uc us Qf (F0 m pc rl st)
def px_Wd (cy : Nat → ClassId) (D : va_G) (A : Nat → Prop) (al : Nat → Nat) (n : Nat) (g : Nat → px_O) (U : State) : Prop := va_P D vwCl (px_w cy al n g) U.heap ∧ va_D A (px_w cy al n g)
def px_Qc (cy : Nat → ClassId) (D : va_G) (A : Nat → Prop) (Q : px_Q) : Array Value → State → Outcome → State → Prop := fun _ st o t => ∃ (v : Option Value) (al : Nat → Nat) (n : Nat) (g : Nat → px_O), o = .returned v ∧ Q (.inl v) al n g ∧ px_Wd cy D A al n g t ∧ va_F A st t
def px_XC (cy : Nat → ClassId) (D : va_G) (A : Nat → Prop) (Q : px_Q) : String → State → State → Prop := fun E st t => ∃ (al : Nat → Nat) (n : Nat) (g : Nat → px_O), E ∈ px_exs ∧ Q (.inr E) al n g ∧ px_Wd cy D A al n g t ∧ va_F A st t
def px_Pc (fx : px_F) (cy : Nat → ClassId) (D : va_G) (A : Nat → Prop) (as : List Value) (al : Nat → Nat) (n : Nat) (g : Nat → px_O) : Array Value → State → Prop := va_Pc as (fun U => px_Wd cy D A al n g U ∧ px_Gl fx cy D A U)
theorem px_Pc.blind {fx : px_F} {cy : Nat → ClassId} {D : va_G} {A : Nat → Prop} {as : List Value} {al : Nat → Nat} {n : Nat} {g : Nat → px_O} : FrameBlind (px_Pc fx cy D A as al n g) := fun a U g9 mk h => ⟨h.1, h.2.1, h.2.2.moved (U := U.calling g9 mk a) (State.WarmedH.refl U) rfl (locs := []) va_S.rf⟩
def px_rm (d mc ms : Nat) : Room := { frames := d + 10, cells := mc, slots := ms, locals := 40 * d + 300 }
/-- what method k's contract is -/
def px_Met (l : Launch) (fx : px_F) (cy : Nat → ClassId) (D : va_G) (A : Nat → Prop) (d : Nat) (m : px_M) (as : List Value) (al : Nat → Nat) (n : Nat) (g : Nat → px_O) (Q : px_Q) : Prop :=
  vx_Met l m.1 (px_cw m :: px_big) (px_rm d m.2.2.2.2.1.1 m.2.2.2.2.1.2) (px_Pc fx cy D A as al n g) (px_Qc cy D A Q) (px_XC cy D A Q) m.2.2.2.2.1.1 m.2.2.2.2.1.2 A
/-- what a body stands on -/
def px_Cx (tb : Nat → Option px_M) (fx : px_F) (bd : px_B) (K : px_K) (p : Program) (l : Launch) (d : Nat) (R : Room) (s : State) (m : MethodId) (args : Array Value) (meth : Method) (c : Code) (D : va_G) (cy : Nat → ClassId) (A : Nat → Prop) : Prop :=
  p.tables.exec = Jvm.exec ∧ c.code = bd.2.1 ∧ meth.sig.returnType = bd.2.2.1 ∧ s.vm.findClass bd.1 = some m.cls ∧ meth.locks = false ∧ (∀ w ∈ px_big, w.before args s = true) ∧ px_Gl fx cy D A s ∧
  d + 11 ≤ R.frames ∧ 40 * (d + 1) + 300 ≤ R.locals ∧ R.cells = bd.2.2.2.1.1 ∧ R.slots = bd.2.2.2.1.2 ∧ (bd.2.2.2.2.1 = true → meth.name = "<init>") ∧ c.exceptionTable.toList = tableOf (bd.2.2.2.2.2.map (fun h => h.1)) ∧
  (∀ h ∈ bd.2.2.2.2.2, h.1.2.2.2 ≠ 0 ∧ Cond.classLink bd.1 h.1.2.2.2 h.2 ∈ px_big ∧ h.2 ∈ px_exs ∧ Cond.castable h.2 h.2 ∈ lw_tbl) ∧ l.stackTraces = false ∧
  ∀ k as al n g Q', K k as al n g Q' → ∃ mk : px_M, tb k = some mk ∧ px_Met l fx cy D A d mk as al n g Q'
