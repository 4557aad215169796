def cSp (needs shows : Nat → Int32) (k : Nat) : Nat → Nat → (Nat → Int32) → Nat → Int32
  | 0, _, f => f
  | m + 1, t, f => cSp needs shows k m (t + 1) (if (needs t &&& (nI k ^^^ -1)) = 0 ∧ f ((nI k ||| shows t).toNatClampNeg) = -1 then upd f ((nI k ||| shows t).toNatClampNeg) (f k + 1) else f)
def cK (needs shows : Nat → Int32) (T s : Nat) (v : Int32) : Nat → Nat → (Nat → Int32) → Option (Nat → Int32)
  | 0, _, f => some f
  | m + 1, k, f => if f k = v then (if nI k &&& (1 <<< (nI s &&& 31)) = 0 then cK needs shows T s v m (k + 1) (cSp needs shows k T 0 f) else none) else cK needs shows T s v m (k + 1) f
def cN (needs shows : Nat → Int32) (T s : Nat) : Nat → Nat → (Nat → Int32) → Int32
  | 0, _, _ => -1
  | m + 1, v, f => match cK needs shows T s (nI v) 256 0 f with
    | none => nI v
    | some f2 => cN needs shows T s m (v + 1) f2
/-- how many of the first tasks show nothing beyond x -/
def cnt (shows : Nat → Int32) (x : Int32) : Nat → Nat
  | 0 => 0
  | t + 1 => cnt shows x t + (if x ||| shows t = x then 1 else 0)
theorem cnt_le (shows : Nat → Int32) (x : Int32) : ∀ t, cnt shows x t ≤ t
  | 0 => Nat.le_refl _
  | t + 1 => by
    rw [cnt]
    have := cnt_le shows x t
    split <;> omega
theorem or_abs {x z s : Int32} (h : x ||| s = x) : (x ||| z) ||| s = x ||| z := by
  rw [Int32.or_assoc, Int32.or_comm z s, ← Int32.or_assoc, h]
theorem cnt_mono (shows : Nat → Int32) (x z : Int32) : ∀ t, cnt shows x t ≤ cnt shows (x ||| z) t
  | 0 => Nat.le_refl _
  | t + 1 => by
    rw [cnt, cnt]
    have := cnt_mono shows x z t
    by_cases c : x ||| shows t = x
    · rw [if_pos c, if_pos (or_abs c)]; omega
    · rw [if_neg c]; split <;> omega
theorem cnt_lt (shows : Nat → Int32) (x : Int32) {t0 : Nat} (h : ¬ x ||| shows t0 = x) : ∀ t, t0 < t → cnt shows x t + 1 ≤ cnt shows (x ||| shows t0) t
  | 0, h0 => by omega
  | t + 1, h0 => by
    rw [cnt, cnt]
    by_cases e : t0 = t
    · subst e
      rw [if_neg h, if_pos (by rw [Int32.or_assoc, Int32.or_self])]
      have := cnt_mono shows x (shows t0) t0
      omega
    · have := cnt_lt shows x h t (by omega)
      by_cases c : x ||| shows t = x
      · rw [if_pos c, if_pos (or_abs c)]; omega
      · rw [if_neg c]; split <;> omega
/-- what stands at the sets: none, or a round that is no later than V nor than the tasks within the set -/
def wI (shows : Nat → Int32) (T V : Nat) (f : Nat → Int32) : Prop := ∀ j, j < 256 → f j = -1 ∨ ∃ u, u ≤ V ∧ u ≤ cnt shows (nI j) T ∧ f j = nI u
theorem wI.up {shows : Nat → Int32} {T V V2 : Nat} {f : Nat → Int32} (h : wI shows T V f) (hV : V ≤ V2) : wI shows T V2 f := fun j hj => (h j hj).imp id (fun ⟨u, h1, h2, h3⟩ => ⟨u, by omega, h2, h3⟩)
theorem nI_nm1 {u : Nat} (h : u < 2 ^ 31) : ¬ nI u = -1 := fun z => by
  have : ¬ nI u < 0 := nI_pos h
  rw [z] at this
  exact this (by decide)
theorem sp_eq {needs shows : Nat → Int32} {T V k v : Nat} (hT : T ≤ 10) (hk : k < 256) (hv : v < V) (hV : V ≤ 300) (hs : ∀ t, t < T → ∃ b, b < 256 ∧ shows t = nI b) : ∀ (m t : Nat) (f h : Nat → Int32), t + m = T → wI shows T V f → (∀ j, j < 256 → f j = h j) → f k = nI v → (∀ j, j < 256 → cSp needs shows k m t f j = wSp needs shows k (nI v) m t h j) ∧ wI shows T V (cSp needs shows k m t f)
  | 0, t, f, h, _, hI, hf, _ => ⟨hf, hI⟩
  | m + 1, t, f, h, ht, hI, hf, hfk => by
    rw [cSp, wSp]
    obtain ⟨b, hb, eb⟩ := hs t (by omega)
    have er : (nI k ||| shows t).toNatClampNeg = k ||| b := by
      rw [eb, nI_or, nI_clamp]
      have := Nat.or_lt_two_pow (n := 8) (show k < 2 ^ 8 by omega) (show b < 2 ^ 8 by omega)
      omega
    have hr : k ||| b < 256 := Nat.or_lt_two_pow (n := 8) (by omega) (by omega)
    rw [er]
    have hneg : f (k ||| b) = -1 ↔ h (k ||| b) < 0 := by
      rw [← hf _ hr]
      rcases hI _ hr with e | ⟨u, _, hu, e⟩
      · rw [e]; decide
      · have := cnt_le shows (nI (k ||| b)) T
        rw [e]
        exact ⟨fun z => absurd z (nI_nm1 (by omega)), fun z => absurd z (nI_pos (by omega))⟩
    by_cases c : needs t &&& (nI k ^^^ -1) = 0 ∧ f (k ||| b) = -1
    · rw [if_pos c, if_pos ⟨c.1, hneg.mp c.2⟩, hfk]
      have hne : ¬ k = k ||| b := fun z => by
        have c2 := c.2
        rw [← z, hfk] at c2
        exact nI_nm1 (by omega) c2
      refine sp_eq hT hk hv hV hs m (t + 1) _ _ (by omega) (fun j hj => ?_) (fun j hj => ?_) (by rw [pk_un hne]; exact hfk)
      · by_cases ej : j = k ||| b
        · subst ej
          rw [pk_us]
          refine Or.inr ⟨v + 1, by omega, ?_, by rw [← nI_1]⟩
          have hx : ¬ nI k ||| shows t = nI k := fun z => by
            rw [eb, nI_or] at z
            exact hne ((nI_eq (by omega) (by omega)).mp z).symm
          have h1 := cnt_lt shows (nI k) hx T (by omega)
          rw [eb, nI_or] at h1
          rcases hI k hk with e | ⟨u, _, hu, e⟩
          · rw [hfk] at e; exact absurd e (nI_nm1 (by omega))
          · rw [hfk] at e
            have := cnt_le shows (nI k) T
            have := (nI_eq (by omega) (by omega)).mp e
            omega
        · rw [pk_un ej]; exact hI j hj
      · by_cases ej : j = k ||| b
        · subst ej; rw [pk_us, pk_us]
        · rw [pk_un ej, pk_un ej]; exact hf j hj
    · rw [if_neg c, if_neg (fun z => c ⟨z.1, hneg.mpr z.2⟩)]
      exact sp_eq hT hk hv hV hs m (t + 1) f h (by omega) hI hf hfk
theorem wish_bit : ∀ s, s < 8 → ∀ k, k < 256 → ((nI k >>> (nI s &&& 31)) &&& 1 = 1 ↔ ¬ nI k &&& (1 <<< (nI s &&& 31)) = 0) := by decide +kernel
theorem cK_wK {needs shows : Nat → Int32} {T s v : Nat} (hT : T ≤ 10) (hs8 : s < 8) (hv : v ≤ 200) (hs : ∀ t, t < T → ∃ b, b < 256 ∧ shows t = nI b) : ∀ (m k : Nat) (f h : Nat → Int32) (sm : Int32), k + m = 256 → wI shows T (v + 1) f → (∀ j, j < 256 → f j = h j) → (cK needs shows T s (nI v) m k f = none ∧ wK needs shows T s (nI v) m k h sm = none) ∨ ∃ f2 h2 sm2, cK needs shows T s (nI v) m k f = some f2 ∧ wK needs shows T s (nI v) m k h sm = some (sm2, h2) ∧ wI shows T (v + 1) f2 ∧ ∀ j, j < 256 → f2 j = h2 j
  | 0, k, f, h, sm, _, hI, hf => Or.inr ⟨f, h, sm, rfl, rfl, hI, hf⟩
  | m + 1, k, f, h, sm, hk, hI, hf => by
    rw [cK, wK, ← hf k (by omega)]
    by_cases c : f k = nI v
    · rw [if_pos c, if_pos c]
      by_cases c2 : nI k &&& (1 <<< (nI s &&& 31)) = 0
      · rw [if_pos c2, if_neg (fun z => (wish_bit s hs8 k (by omega)).mp z c2)]
        have h9 := sp_eq (needs := needs) hT (show k < 256 by omega) (show v < v + 1 by omega) (by omega) hs T 0 f h (by omega) hI hf c
        exact cK_wK hT hs8 hv hs m (k + 1) _ _ 1 (by omega) h9.2 h9.1
      · rw [if_neg c2, if_pos ((wish_bit s hs8 k (by omega)).mpr c2)]
        exact Or.inl ⟨rfl, rfl⟩
    · rw [if_neg c, if_neg c]
      exact cK_wK hT hs8 hv hs m (k + 1) f h sm (by omega) hI hf
theorem wK_0 {needs shows : Nat → Int32} {T s : Nat} {v : Int32} : ∀ (m k : Nat) (h : Nat → Int32) (sm sm2 : Int32) (h2 : Nat → Int32), wK needs shows T s v m k h sm = some (sm2, h2) → sm2 = 0 → sm = 0 ∧ h2 = h ∧ ∀ j, k ≤ j → j < k + m → ¬ h j = v
  | 0, k, h, sm, sm2, h2, e, z => by
    rw [wK] at e
    cases e
    exact ⟨z, rfl, fun j _ _ => by omega⟩
  | m + 1, k, h, sm, sm2, h2, e, z => by
    rw [wK] at e
    by_cases c : h k = v
    · rw [if_pos c] at e
      split at e
      · cases e
      · exact absurd (wK_0 m (k + 1) _ 1 sm2 h2 e z).1 (by decide)
    · rw [if_neg c] at e
      obtain ⟨e1, e2, e3⟩ := wK_0 m (k + 1) h sm sm2 h2 e z
      refine ⟨e1, e2, fun j h1 h3 => ?_⟩
      by_cases ej : j = k
      · subst ej; exact c
      · exact e3 j (by omega) (by omega)
theorem wK_q {needs shows : Nat → Int32} {T s : Nat} {v : Int32} : ∀ (m k : Nat) (h : Nat → Int32) (sm : Int32), (∀ j, k ≤ j → j < k + m → ¬ h j = v) → wK needs shows T s v m k h sm = some (sm, h)
  | 0, k, h, sm, _ => rfl
  | m + 1, k, h, sm, e => by rw [wK, if_neg (e k (by omega) (by omega))]; exact wK_q m (k + 1) h sm (fun j h1 h2 => e j (by omega) (by omega))
theorem cK_q {needs shows : Nat → Int32} {T s : Nat} {v : Int32} : ∀ (m k : Nat) (f : Nat → Int32), (∀ j, k ≤ j → j < k + m → ¬ f j = v) → cK needs shows T s v m k f = some f
  | 0, k, f, _ => rfl
  | m + 1, k, f, e => by rw [cK, if_neg (e k (by omega) (by omega))]; exact cK_q m (k + 1) f (fun j h1 h2 => e j (by omega) (by omega))
theorem cN_q {needs shows : Nat → Int32} {T s : Nat} : ∀ (m v : Nat) (f : Nat → Int32), v + m ≤ 1000 → (∀ j, j < 256 → f j = -1 ∨ ∃ u, u < v ∧ f j = nI u) → cN needs shows T s m v f = -1
  | 0, v, f, _, _ => rfl
  | m + 1, v, f, hv, e => by
    rw [cN, cK_q 256 0 f (fun j _ h2 z => ?_)]
    · exact cN_q m (v + 1) f (by omega) (fun j hj => (e j hj).imp id (fun ⟨u, h1, h2⟩ => ⟨u, by omega, h2⟩))
    · rcases e j (by omega) with q | ⟨u, hu, q⟩
      · rw [z] at q; exact nI_nm1 (by omega) q
      · rw [z] at q
        have := (nI_eq (by omega) (by omega)).mp q
        omega
/-- both answer a wish alike -/
theorem cN_wN {needs shows : Nat → Int32} {T s : Nat} (hT : T ≤ 10) (hs8 : s < 8) (hs : ∀ t, t < T → ∃ b, b < 256 ∧ shows t = nI b) : ∀ (m v : Nat) (f h : Nat → Int32), v + m = T + 1 → wI shows T v f → (∀ j, j < 256 → f j = h j) → cN needs shows T s m v f = wN needs shows T s (256 - v) v h
  | 0, v, f, h, hm, hI, hf => by
    obtain ⟨x, hx⟩ : ∃ x, 256 - v = x + 1 := ⟨255 - v, by omega⟩
    rw [hx, cN, wN, wK_q 256 0 h 0 (fun j _ h2 z => ?_)]
    · rfl
    · rw [← hf j (by omega)] at z
      rcases hI j (by omega) with q | ⟨u, _, hu, q⟩
      · rw [z] at q; exact nI_nm1 (by omega) q
      · rw [z] at q
        have := cnt_le shows (nI j) T
        have := (nI_eq (by omega) (by omega)).mp q
        omega
  | m + 1, v, f, h, hm, hI, hf => by
    obtain ⟨x, hx⟩ : ∃ x, 256 - v = x + 1 := ⟨255 - v, by omega⟩
    rw [hx, cN, wN]
    rcases cK_wK (needs := needs) hT hs8 (show v ≤ 200 by omega) hs 256 0 f h 0 (by omega) (hI.up (by omega)) hf with ⟨e1, e2⟩ | ⟨f2, h2, sm2, e1, e2, hI2, hf2⟩
    · rw [e1, e2]
    · rw [e1, e2]
      show cN needs shows T s m (v + 1) f2 = if sm2 = 0 then -1 else wN needs shows T s x (v + 1) h2
      by_cases z : sm2 = 0
      · rw [if_pos z]
        obtain ⟨_, e3, e4⟩ := wK_0 256 0 h 0 sm2 h2 e2 z
        refine cN_q m (v + 1) f2 (by omega) (fun j hj => ?_)
        rcases hI2 j hj with q | ⟨u, hu, _, q⟩
        · exact Or.inl q
        · exact Or.inr ⟨u, by
            have : ¬ u = v + 1 := fun w => by
              subst w
              have e5 := hf2 j hj
              rw [e3, ← hf j hj, q] at e5
              rcases hI j hj with q2 | ⟨u2, hu2, _, q2⟩
              · rw [q2] at e5; exact nI_nm1 (by omega) e5
              · rw [q2] at e5
                have := (nI_eq (by omega) (by omega)).mp e5
                omega
            omega, q⟩
      · rw [if_neg z]
        have : x = 256 - (v + 1) := by omega
        rw [this]
        exact cN_wN hT hs8 hs m (v + 1) f2 h2 (by omega) hI2 hf2
/-- the tasks in the heap -/
def TQ (al : Nat → Nat) (n : Nat) (g : Nat → px_O) (tf : Nat → Option Nat) (TT : Nat) (Tc : Nat → Nat) (needs shows : Nat → Int32) : Prop := ∀ t, t < TT → tf t = some (al (Tc t)) ∧ ∃ w y WA WB WR Y F, TK al n g (Tc t) (needs t) (shows t) w y WA WB WR Y F
theorem TQ.fr {al : Nat → Nat} {n : Nat} {g g2 : Nat → px_O} {tf : Nat → Option Nat} {TT : Nat} {Tc : Nat → Nat} {needs shows : Nat → Int32} (h : TQ al n g tf TT Tc needs shows) (hF : cfr g g2) : TQ al n g2 tf TT Tc needs shows := fun t ht => by
  obtain ⟨e, w, y, WA, WB, WR, Y, F, hK⟩ := h t ht
  exact ⟨e, w, y, WA, WB, WR, Y, F, hK.fr (Nat.le_refl _) (fun _ _ => rfl) (fun k h1 _ => hF k (by have := hK.1; omega))⟩
theorem pk_iast {fx : px_F} {bd : px_B} {dd : Nat} {Q : px_Q} {al : Nat → Nat} {n : Nat} {g0 : Nat → px_O} {sc ar : Nat → Nat → Int32} {sl : Value} {tf : Nat → Option Nat} {p : Nat} {ls st : List Value} {uc us : Nat} {c L j : Nat} {i x : Int32} (h0 : decode bd.2.1 p = .ok (.iastore, 1)) (hc : c < 36) (h1 : cCls c = none) (h2 : cAr c = some L) (hi : i = nI j) (hj : j < L) (hL : L < 2 ^ 31) (kk : pk fx bd dd Q al n g0 sc (va_up ar c (upd (ar c) j x)) sl tf (p + 1) ls st uc us) : pk fx bd dd Q al n g0 sc ar sl tf p ls (.int x :: .int i :: .ref (al c) :: st) uc us := fun g hR hF => by
  subst hi
  refine pg_iast h0 (by have := hR.1; omega) ((hR.2 c hc).trans (cObj_a h1 h2)) (vp_in_nI hj hL) ?_
  rw [nI_clamp (by omega)]
  exact kk _ (hR.ast hc h1 h2) (hF.put hc)
set_option maxHeartbeats 4000000 in
set_option maxRecDepth 20000 in
theorem kl_spread {fx : px_F} {d : Nat} {Q : px_Q} {al : Nat → Nat} {n : Nat} {g0 : Nat → px_O} {sc ar : Nat → Nat → Int32} {sl : Value} {tf : Nat → Option Nat} {TT : Nat} {Tc : Nat → Nat} {needs shows : Nat → Int32} (hTT : TT ≤ 10) (hD : TQ al n g0 tf TT Tc needs shows) (hs : ∀ t, t < TT → ∃ b, b < 256 ∧ shows t = nI b) {x : Nat} (hx : x < 256) : ∀ (m i : Nat) (f : Nat → Int32) (y5 : Value), i + m = TT → (kq Q (.inl none) al (n) (g0) (sc) (va_up ar 17 (cSp needs shows x m i f)) (sl) (tf)) → pk fx (px_body pm_X4_spread) (d + 1) Q al (n) (g0) (sc) (va_up ar 17 f) (sl) (tf) 3 [.ref (al 16), .ref (al 18), .int (nI TT), .int (nI x), .int (nI i), y5] [] 0 0
  | 0, i, f, y5, hm, hQ => by
    obtain rfl : i = TT := by omega
    refine pk_iload dX4_spread_3 rfl ?_
    refine pk_iload_n dX4_spread_5 rfl ?_
    refine pk_icmp_ge (tgt := 63) dX4_spread_6 (by decide) (fun c6 => ?_) (fun c6 => absurd (Int32.le_refl _) c6)
    exact pk_vret dX4_spread_63 rfl (Nat.le_of_ble_eq_true rfl) (Nat.le_of_ble_eq_true rfl) hQ
  | m + 1, i, f, y5, hm, hQ => by
    rw [cSp] at hQ
    obtain ⟨e1, w9, y9, WA, WB, WR, Y, F, hK⟩ := hD i (by omega)
    obtain ⟨b, hb, eb⟩ := hs i (by omega)
    have hr : x ||| b < 256 := Nat.or_lt_two_pow (n := 8) (by omega) (by omega)
    have er : (nI x ||| shows i).toNatClampNeg = x ||| b := by
      rw [eb, nI_or, nI_clamp (by omega)]
    rw [er] at hQ
    obtain ⟨p1, p2, ⟨ff, q0, q1, q2, q3, q4, q5, q6, q7, q8, q9⟩, r1, r2, r3, r4, r5⟩ := id hK
    refine pk_iload dX4_spread_3 rfl ?_
    refine pk_iload_n dX4_spread_5 rfl ?_
    refine pk_icmp_ge (tgt := 63) dX4_spread_6 (by decide) (fun c6 => absurd c6 (nI_ge (by omega) (by omega))) (fun c6 => ?_)
    refine pk_iload_n dX4_spread_9 rfl ?_
    refine pk_aload_n dX4_spread_10 rfl rfl ?_
    refine pk_iload dX4_spread_11 rfl ?_
    refine pk_tfald (j := i) dX4_spread_13 rfl (by omega) (v := .ref (al (Tc i))) (by rw [e1]; rfl) ?_
    refine pk_dgetN (j := Tc i) dX4_spread_14 fk_X4_25 p1 (by omega) q0 q2 ?_
    refine pk_ior dX4_spread_17 ?_
    rw [eb, nI_or]
    refine pk_istore dX4_spread_18 (Nat.le_of_ble_eq_true rfl) ?_
    refine pk_aload_n dX4_spread_20 rfl rfl ?_
    refine pk_iload dX4_spread_21 rfl ?_
    refine pk_tfald (j := i) dX4_spread_23 rfl (by omega) (v := .ref (al (Tc i))) (by rw [e1]; rfl) ?_
    refine pk_iload_n dX4_spread_24 rfl ?_
    refine pk_callDN (j := Tc i) (As := fun al => [.int (nI x)]) dX4_spread_25 cl_X4_31 p1 (by omega) q0 (dp_isOpenTo d (T := Tc i)) (fun g hF => hK.fr (Nat.le_refl _) (fun _ _ => rfl) (fun k h1 _ => hF k (by omega))) rfl rfl (Nat.le_of_ble_eq_true rfl) ⟨rfl, rfl⟩ (Nat.le_of_ble_eq_true rfl) (Nat.le_of_ble_eq_true rfl) ?_
    refine pk_if_eq (tgt := 57) dX4_spread_28 (by decide) (fun c28 => ?_) (fun c28 => ?_)
    ·
      refine pk_iinc dX4_spread_57 rfl (show Int32.ofInt (1) = (1) by decide) ?_
      refine pk_goto (tgt := 3) dX4_spread_60 (by decide) ?_
      rw [nI_1]
      rw [if_neg (fun z => by rw [decide_eq_true z.1] at c28; exact absurd c28 (by decide))] at hQ
      exact kl_spread hTT hD hs hx m (i + 1) f _ (by omega) hQ
    ·
      refine pk_aload_n dX4_spread_31 rfl rfl ?_
      refine pk_getR (c := 16) (d := 17) dX4_spread_32 fk_X4_9 (by decide) rfl rfl ?_
      refine pk_iload dX4_spread_35 rfl ?_
      refine pk_iald (c := 17) (v := (f (x ||| b))) (j := (x ||| b)) dX4_spread_37 (by decide) rfl rfl rfl hr (by decide) (by rw [va_up_self]) ?_
      refine pk_iconst dX4_spread_38 (show Int32.ofInt (-1) = (-1) by decide) ?_
      refine pk_icmp_ne (tgt := 57) dX4_spread_39 (by decide) (fun c39 => ?_) (fun c39 => ?_)
      ·
        refine pk_iinc dX4_spread_57 rfl (show Int32.ofInt (1) = (1) by decide) ?_
        refine pk_goto (tgt := 3) dX4_spread_60 (by decide) ?_
        rw [nI_1]
        rw [if_neg (fun z => c39 z.2)] at hQ
        exact kl_spread hTT hD hs hx m (i + 1) f _ (by omega) hQ
      ·
        refine pk_aload_n dX4_spread_42 rfl rfl ?_
        refine pk_getR (c := 16) (d := 17) dX4_spread_43 fk_X4_9 (by decide) rfl rfl ?_
        refine pk_iload dX4_spread_46 rfl ?_
        refine pk_aload_n dX4_spread_48 rfl rfl ?_
        refine pk_getR (c := 16) (d := 17) dX4_spread_49 fk_X4_9 (by decide) rfl rfl ?_
        refine pk_iload_n dX4_spread_52 rfl ?_
        refine pk_iald (c := 17) (v := (f x)) (j := x) dX4_spread_53 (by decide) rfl rfl rfl (by omega) (by decide) (by rw [va_up_self]) ?_
        refine pk_iconst dX4_spread_54 (show Int32.ofInt (1) = (1) by decide) ?_
        refine pk_iadd dX4_spread_55 ?_
        refine pk_iast (c := 17) (j := x ||| b) dX4_spread_56 (by decide) rfl rfl rfl hr (by decide) ?_
        refine pk_iinc dX4_spread_57 rfl (show Int32.ofInt (1) = (1) by decide) ?_
        refine pk_goto (tgt := 3) dX4_spread_60 (by decide) ?_
        rw [nI_1]
        rw [if_pos ⟨by
          by_cases z : needs i &&& (nI x ^^^ -1) = 0
          · exact z
          · rw [decide_eq_false z] at c28; exact absurd rfl c28, c39⟩] at hQ
        rw [va_up_self, va_3]
        exact kl_spread hTT hD hs hx m (i + 1) _ _ (by omega) hQ
set_option maxHeartbeats 4000000 in
set_option maxRecDepth 20000 in
theorem kp_spread {fx : px_F} {d : Nat} {Q : px_Q} {al : Nat → Nat} {n : Nat} {g0 : Nat → px_O} {sc ar : Nat → Nat → Int32} {sl : Value} {tf : Nat → Option Nat} {TT : Nat} {Tc : Nat → Nat} {needs shows : Nat → Int32} (hTT : TT ≤ 10) (hD : TQ al n g0 tf TT Tc needs shows) (hs : ∀ t, t < TT → ∃ b, b < 256 ∧ shows t = nI b) {x : Nat} (hx : x < 256) (f : Nat → Int32) (hQ : kq Q (.inl none) al (n) (g0) (sc) (va_up ar 17 (cSp needs shows x TT 0 f)) (sl) (tf)) : kp fx (d + 2) 36 [.ref (al 16), .ref (al 18), .int (nI TT), .int (nI x)] Q al n (g0) (sc) (va_up ar 17 f) (sl) (tf) := by
  refine kp.of pm_X4_spread rfl rfl (Nat.le_of_ble_eq_true rfl) ?_
  show pk fx (px_body pm_X4_spread) (d + 1) Q al (n) (g0) (sc) (va_up ar 17 f) (sl) (tf) 0 [.ref (al 16), .ref (al 18), .int (nI TT), .int (nI x), .float 0, .float 0] [] 0 0
  refine pk_iconst dX4_spread_0 (show Int32.ofInt (0) = (0) by decide) ?_
  refine pk_istore dX4_spread_1 (Nat.le_of_ble_eq_true rfl) ?_
  exact kl_spread hTT hD hs hx TT 0 f _ (by omega) hQ
set_option maxHeartbeats 4000000 in
set_option maxRecDepth 20000 in
theorem kl_few2 {fx : px_F} {d : Nat} {Q : px_Q} {al : Nat → Nat} {n : Nat} {g0 : Nat → px_O} {sc ar : Nat → Nat → Int32} {sl : Value} {tf : Nat → Option Nat} {TT : Nat} {Tc : Nat → Nat} {needs shows : Nat → Int32} (hTT : TT ≤ 10) (hD : TQ al n g0 tf TT Tc needs shows) (hs : ∀ t, t < TT → ∃ b, b < 256 ∧ shows t = nI b) {f0 : Nat → Int32} {s v : Nat} {z3 : Value} (kk : ∀ f2, cK needs shows TT s (nI v) 256 0 f0 = some f2 → pk fx (px_body pm_X4_fewest) (d + 2) Q al (n) (g0) (sc) (va_up ar 17 f2) (sl) (tf) 72 [.ref (al 16), .ref (al 18), .int (nI TT), z3, .int (1 <<< (nI s &&& 31)), .int (nI v), .int (nI 256)] [] 0 0) (kn : cK needs shows TT s (nI v) 256 0 f0 = none → ∀ f2, kq Q (.inl (some (.int (nI v)))) al (n) (g0) (sc) (va_up ar 17 f2) (sl) (tf)) : ∀ (m i : Nat) (f : Nat → Int32), i + m = 256 → cK needs shows TT s (nI v) m i f = cK needs shows TT s (nI v) 256 0 f0 → pk fx (px_body pm_X4_fewest) (d + 2) Q al (n) (g0) (sc) (va_up ar 17 f) (sl) (tf) 27 [.ref (al 16), .ref (al 18), .int (nI TT), z3, .int (1 <<< (nI s &&& 31)), .int (nI v), .int (nI i)] [] 0 0
  | 0, i, f, hm, he => by
    obtain rfl : i = 256 := by omega
    rw [cK] at he
    refine pk_iload dX4_fewest_27 rfl ?_
    refine pk_sipush dX4_fewest_29 (show (Int16.ofInt (256)).toInt32 = (256) by decide) ?_
    refine pk_icmp_ge (tgt := 72) dX4_fewest_32 (by decide) (fun c32 => ?_) (fun c32 => absurd (by decide) c32)
    exact kk f he.symm
  | m + 1, i, f, hm, he => by
    rw [cK] at he
    refine pk_iload dX4_fewest_27 rfl ?_
    refine pk_sipush dX4_fewest_29 (show (Int16.ofInt (256)).toInt32 = (256) by decide) ?_
    refine pk_icmp_ge (tgt := 72) dX4_fewest_32 (by decide) (fun c32 => absurd c32 (nI_ge (b := 256) (by omega) (by decide))) (fun c32 => ?_)
    refine pk_aload_n dX4_fewest_35 rfl rfl ?_
    refine pk_getR (c := 16) (d := 17) dX4_fewest_36 fk_X4_9 (by decide) rfl rfl ?_
    refine pk_iload dX4_fewest_39 rfl ?_
    refine pk_iald (c := 17) (v := (f i)) (j := i) dX4_fewest_41 (by decide) rfl rfl rfl (by omega) (by decide) (by rw [va_up_self]) ?_
    refine pk_iload dX4_fewest_42 rfl ?_
    refine pk_icmp_ne (tgt := 66) dX4_fewest_44 (by decide) (fun c44 => ?_) (fun c44 => ?_)
    ·
      refine pk_iinc dX4_fewest_66 rfl (show Int32.ofInt (1) = (1) by decide) ?_
      refine pk_goto (tgt := 27) dX4_fewest_69 (by decide) ?_
      rw [if_neg c44] at he
      rw [nI_1]
      exact kl_few2 hTT hD hs kk kn m (i + 1) f (by omega) he
    ·
      refine pk_iload dX4_fewest_47 rfl ?_
      refine pk_iload dX4_fewest_49 rfl ?_
      refine pk_iand dX4_fewest_51 ?_
      refine pk_if_eq (tgt := 58) dX4_fewest_52 (by decide) (fun c52 => ?_) (fun c52 => ?_)
      ·
        refine pk_aload_n dX4_fewest_58 rfl rfl ?_
        refine pk_aload_n dX4_fewest_59 rfl rfl ?_
        refine pk_iload_n dX4_fewest_60 rfl ?_
        refine pk_iload dX4_fewest_61 rfl ?_
        rw [if_pos c44, if_pos c52] at he
        refine pk_kV (c := 16) (As := [.ref (al 18), .int (nI TT), .int (nI i)]) dX4_fewest_63 cl_X4_21 (by decide) rfl rfl rfl (Nat.le_of_ble_eq_true rfl) (Nat.le_of_ble_eq_true rfl) (Nat.le_of_ble_eq_true rfl) ?_
        refine kp_spread (d := d) hTT hD hs (show i < 256 by omega) f (kq_aft ?_)
        refine pk_iinc dX4_fewest_66 rfl (show Int32.ofInt (1) = (1) by decide) ?_
        refine pk_goto (tgt := 27) dX4_fewest_69 (by decide) ?_
        rw [nI_1]
        exact kl_few2 hTT hD hs kk kn m (i + 1) _ (by omega) he
      ·
        refine pk_iload dX4_fewest_55 rfl ?_
        rw [if_pos c44, if_neg c52] at he
        exact pk_iret dX4_fewest_57 rfl rfl (Nat.le_of_ble_eq_true rfl) (Nat.le_of_ble_eq_true rfl) (kn he.symm f)
set_option maxHeartbeats 4000000 in
set_option maxRecDepth 20000 in
theorem kl_few1 {fx : px_F} {d : Nat} {Q : px_Q} {al : Nat → Nat} {n : Nat} {g0 : Nat → px_O} {sc ar : Nat → Nat → Int32} {sl : Value} {tf : Nat → Option Nat} {TT : Nat} {Tc : Nat → Nat} {needs shows : Nat → Int32} (hTT : TT ≤ 10) (hD : TQ al n g0 tf TT Tc needs shows) (hs : ∀ t, t < TT → ∃ b, b < 256 ∧ shows t = nI b) {s : Nat} {z3 : Value} : ∀ (m v : Nat) (f : Nat → Int32) (z6 : Value), v + m = TT + 1 → (∀ f2, kq Q (.inl (some (.int (cN needs shows TT s m v f)))) al (n) (g0) (sc) (va_up ar 17 f2) (sl) (tf)) → pk fx (px_body pm_X4_fewest) (d + 2) Q al (n) (g0) (sc) (va_up ar 17 f) (sl) (tf) 18 [.ref (al 16), .ref (al 18), .int (nI TT), z3, .int (1 <<< (nI s &&& 31)), .int (nI v), z6] [] 0 0
  | 0, v, f, z6, hm, hQ => by
    refine pk_iload dX4_fewest_18 rfl ?_
    refine pk_iload_n dX4_fewest_20 rfl ?_
    refine pk_icmp_gt (tgt := 78) dX4_fewest_21 (by decide) (fun c21 => ?_) (fun c21 => absurd (nI_lt (by omega) (by omega)) c21)
    refine pk_iconst dX4_fewest_78 (show Int32.ofInt (-1) = (-1) by decide) ?_
    exact pk_iret dX4_fewest_79 rfl rfl (Nat.le_of_ble_eq_true rfl) (Nat.le_of_ble_eq_true rfl) (hQ f)
  | m + 1, v, f, z6, hm, hQ => by
    rw [cN] at hQ
    refine pk_iload dX4_fewest_18 rfl ?_
    refine pk_iload_n dX4_fewest_20 rfl ?_
    refine pk_icmp_gt (tgt := 78) dX4_fewest_21 (by decide) (fun c21 => absurd c21 (nI_nlt (by omega) (by omega))) (fun c21 => ?_)
    refine pk_iconst dX4_fewest_24 (show Int32.ofInt (0) = (0) by decide) ?_
    refine pk_istore dX4_fewest_25 (Nat.le_of_ble_eq_true rfl) ?_
    refine kl_few2 (f0 := f) hTT hD hs (fun f2 e => ?_) (fun e f2 => ?_) 256 0 f (by omega) rfl
    · rw [e] at hQ
      refine pk_iinc dX4_fewest_72 rfl (show Int32.ofInt (1) = (1) by decide) ?_
      refine pk_goto (tgt := 18) dX4_fewest_75 (by decide) ?_
      rw [nI_1]
      exact kl_few1 hTT hD hs m (v + 1) f2 _ (by omega) hQ
    · rw [e] at hQ
      exact hQ f2
set_option maxHeartbeats 4000000 in
set_option maxRecDepth 20000 in
theorem kp_fewest {fx : px_F} {d : Nat} {Q : px_Q} {al : Nat → Nat} {n : Nat} {g0 : Nat → px_O} {sc ar : Nat → Nat → Int32} {sl : Value} {tf : Nat → Option Nat} {TT : Nat} {Tc : Nat → Nat} {needs shows : Nat → Int32} (hTT : TT ≤ 10) (hD : TQ al n g0 tf TT Tc needs shows) (hs : ∀ t, t < TT → ∃ b, b < 256 ∧ shows t = nI b) {s b : Nat} (hb : b < 256) (hQ : ∀ f2, kq Q (.inl (some (.int (cN needs shows TT s (TT + 1) 0 (upd (flT 256 (-1) (ar 17)) b 0))))) al (n) (g0) (sc) (va_up ar 17 f2) (sl) (tf)) : kp fx (d + 3) 35 [.ref (al 16), .ref (al 18), .int (nI TT), .int (nI b), .int (1 <<< (nI s &&& 31))] Q al n (g0) (sc) (ar) (sl) (tf) := by
  refine kp.of pm_X4_fewest rfl rfl (Nat.le_of_ble_eq_true rfl) ?_
  show pk fx (px_body pm_X4_fewest) (d + 2) Q al (n) (g0) (sc) (ar) (sl) (tf) 0 [.ref (al 16), .ref (al 18), .int (nI TT), .int (nI b), .int (1 <<< (nI s &&& 31)), .float 0, .float 0] [] 0 0
  refine pk_aload_n dX4_fewest_0 rfl rfl ?_
  refine pk_getR (c := 16) (d := 17) dX4_fewest_1 fk_X4_9 (by decide) rfl rfl ?_
  refine pk_iconst dX4_fewest_4 (show Int32.ofInt (-1) = (-1) by decide) ?_
  refine pk_kS (As := [.ref (al 17), .int (-1)]) dX4_fewest_5 cl_X4_15 rfl rfl (Nat.le_of_ble_eq_true rfl) (Nat.le_of_ble_eq_true rfl) (Nat.le_of_ble_eq_true rfl) ?_
  refine (cp_fill (d + 1) sc ar sl tf (-1) (c := 17) (L := 256) (by decide) rfl rfl (by decide)).kp (fun _ _ => trivial) (fun res sc2 ar2 hn => kq_aft ?_)
  obtain ⟨rfl, rfl, rfl⟩ := hn
  refine pk_aload_n dX4_fewest_8 rfl rfl ?_
  refine pk_getR (c := 16) (d := 17) dX4_fewest_9 fk_X4_9 (by decide) rfl rfl ?_
  refine pk_iload_n dX4_fewest_12 rfl ?_
  refine pk_iconst dX4_fewest_13 (show Int32.ofInt (0) = (0) by decide) ?_
  refine pk_iast (c := 17) (j := b) dX4_fewest_14 (by decide) rfl rfl rfl hb (by decide) ?_
  rw [va_up_self, va_3]
  refine pk_iconst dX4_fewest_15 (show Int32.ofInt (0) = (0) by decide) ?_
  refine pk_istore dX4_fewest_16 (Nat.le_of_ble_eq_true rfl) ?_
  exact kl_few1 hTT hD hs (TT + 1) 0 _ _ (by omega) hQ
