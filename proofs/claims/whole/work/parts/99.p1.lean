theorem lg_self (x : Int64) : lg_cmp x x = 0 := by
  unfold lg_cmp
  rw [if_neg (fun z => Int64.lt_irrefl z), if_pos rfl]
/-- the law's body at a place, with its locals -/
def LWP (fx : px_F) (Q : px_Q) (al : Nat → Nat) (n : Nat) (g : Nat → px_O) (p i : Nat) (x5 x6 : Value) (uc us : Nat) : Prop := pg px_tb fx (px_body pm_L_law) (pm px_tb fx 1735) Q al n g p [.ref fx.2.2.1, .ref (al 0), .ref (al 36), .ref (al 58), .int (nI i), x5, x6] [] uc us
set_option maxHeartbeats 4000000 in
set_option maxRecDepth 20000 in
theorem sg_feed {fx : px_F} {Q : px_Q} {al : Nat → Nat} {n : Nat} {g : Nat → px_O} {c0 : Int32} {i uc us : Nat} {x5 x6 : Value} (h : REL al n g c0) (hN : fx.2.2.2.1 ≤ 3072) (hi : i + 6 ≤ fx.2.2.2.1) (hu : uc + 8 ≤ 601024) (hw : us + 373 ≤ 7293034) (kk : ∀ (al2 : Nat → Nat) (n2 : Nat) (g2 : Nat → px_O) (c2 : Int32) (y5 y6 : Value), REL al2 n2 g2 c2 → LWP fx Q al2 n2 g2 1167 i y5 y6 (uc + px_mc px_tb 62 + px_mc px_tb 93) (us + px_ms px_tb 62 + px_ms px_tb 93)) : LWP fx Q al n g 124 i x5 x6 uc us := by
  have hn := h.n
  obtain ⟨⟨fo, ho⟩, ⟨f0, hx⟩, ⟨f36, hm36⟩⟩ := h.o
  show pg px_tb fx (px_body pm_L_law) (pm px_tb fx 1735) Q al n g 124 [.ref fx.2.2.1, .ref (al 0), .ref (al 36), .ref (al 58), .int (nI i), x5, x6] [] uc us
  refine pg_aload_n dL_law_124 rfl rfl ?_
  refine pg_aload_n dL_law_125 rfl rfl ?_
  refine pg_iload dL_law_126 rfl ?_
  refine pg_iconst dL_law_128 (show Int32.ofInt (1) = (1) by decide) ?_
  refine pg_iadd dL_law_129 ?_
  rw [show nI i + 1 = nI (i + 1) from nI_add i 1]
  refine pg_sld dL_law_130 (vp_in_nI (n := i + 1) (by omega) (by omega)) ?_
  rw [nI_clamp (show i + 1 < 2 ^ 31 by omega)]
  refine pg_aload_n dL_law_131 rfl rfl ?_
  refine pg_iload dL_law_132 rfl ?_
  refine pg_iconst dL_law_134 (show Int32.ofInt (2) = (2) by decide) ?_
  refine pg_iadd dL_law_135 ?_
  rw [show nI i + 2 = nI (i + 2) from nI_add i 2]
  refine pg_sld dL_law_136 (vp_in_nI (n := i + 2) (by omega) (by omega)) ?_
  rw [nI_clamp (show i + 2 < 2 ^ 31 by omega)]
  refine pg_aload_n dL_law_137 rfl rfl ?_
  refine pg_iload dL_law_138 rfl ?_
  refine pg_iconst dL_law_140 (show Int32.ofInt (3) = (3) by decide) ?_
  refine pg_iadd dL_law_141 ?_
  rw [show nI i + 3 = nI (i + 3) from nI_add i 3]
  refine pg_sld dL_law_142 (vp_in_nI (n := i + 3) (by omega) (by omega)) ?_
  rw [nI_clamp (show i + 3 < 2 ^ 31 by omega)]
  refine pg_aload_n dL_law_143 rfl rfl ?_
  refine pg_iload dL_law_144 rfl ?_
  refine pg_iconst dL_law_146 (show Int32.ofInt (4) = (4) by decide) ?_
  refine pg_iadd dL_law_147 ?_
  rw [show nI i + 4 = nI (i + 4) from nI_add i 4]
  refine pg_sld dL_law_148 (vp_in_nI (n := i + 4) (by omega) (by omega)) ?_
  rw [nI_clamp (show i + 4 < 2 ^ 31 by omega)]
  refine pg_aload_n dL_law_149 rfl rfl ?_
  refine pg_iload dL_law_150 rfl ?_
  refine pg_iconst dL_law_152 (show Int32.ofInt (5) = (5) by decide) ?_
  refine pg_iadd dL_law_153 ?_
  rw [show nI i + 5 = nI (i + 5) from nI_add i 5]
  refine pg_sld dL_law_154 (vp_in_nI (n := i + 5) (by omega) (by omega)) ?_
  rw [nI_clamp (show i + 5 < 2 ^ 31 by omega)]
  refine pg_callV (pm_mono px_tb fx 1735) (j := 0) (As := [.int (fx.2.2.2.2 (i + 1)), .int (fx.2.2.2.2 (i + 2)), .int (fx.2.2.2.2 (i + 3)), .int (fx.2.2.2.2 (i + 4)), .int (fx.2.2.2.2 (i + 5))]) dL_law_155 cl_L_67 (by omega) hx rfl (Nat.le_of_ble_eq_true rfl) (show uc + 0 ≤ 601024 by omega) (show us + 0 ≤ 7293034 by omega) ?_
  refine pm_mono px_tb fx 1735 _ _ _ _ _ _ _ (fun o al1 n1 g1 hq => ?_) (pm_le' (op_feed h (fx.2.2.2.2 (i + 1)) (fx.2.2.2.2 (i + 2)) (fx.2.2.2.2 (i + 3)) (fx.2.2.2.2 (i + 4)) (fx.2.2.2.2 (i + 5))) (by decide))
  obtain ⟨hn1, ha1, h58, h36, w, c, ho1, hr⟩ := hq
  rcases ho1 with ⟨rfl, rfl⟩ | ⟨E, rfl, hc, hc0⟩
  rotate_left
  · exact absurd (show c = 0 from hc) hc0
  show pg px_tb fx (px_body pm_L_law) (pm px_tb fx 1735) Q al1 n1 g1 158 _ _ _ _
  rw [← ha1 0 (by omega), ← ha1 36 (by omega), ← ha1 58 (by omega)]
  refine pg_aload_n dL_law_158 rfl rfl ?_
  refine pg_aload_n dL_law_159 rfl rfl ?_
  refine pg_iload dL_law_160 rfl ?_
  refine pg_iconst dL_law_162 (show Int32.ofInt (1) = (1) by decide) ?_
  refine pg_iadd dL_law_163 ?_
  rw [show nI i + 1 = nI (i + 1) from nI_add i 1]
  refine pg_sld dL_law_164 (vp_in_nI (n := i + 1) (by omega) (by omega)) ?_
  rw [nI_clamp (show i + 1 < 2 ^ 31 by omega)]
  refine pg_aload_n dL_law_165 rfl rfl ?_
  refine pg_iload dL_law_166 rfl ?_
  refine pg_iconst dL_law_168 (show Int32.ofInt (2) = (2) by decide) ?_
  refine pg_iadd dL_law_169 ?_
  rw [show nI i + 2 = nI (i + 2) from nI_add i 2]
  refine pg_sld dL_law_170 (vp_in_nI (n := i + 2) (by omega) (by omega)) ?_
  rw [nI_clamp (show i + 2 < 2 ^ 31 by omega)]
  refine pg_aload_n dL_law_171 rfl rfl ?_
  refine pg_iload dL_law_172 rfl ?_
  refine pg_iconst dL_law_174 (show Int32.ofInt (3) = (3) by decide) ?_
  refine pg_iadd dL_law_175 ?_
  rw [show nI i + 3 = nI (i + 3) from nI_add i 3]
  refine pg_sld dL_law_176 (vp_in_nI (n := i + 3) (by omega) (by omega)) ?_
  rw [nI_clamp (show i + 3 < 2 ^ 31 by omega)]
  refine pg_aload_n dL_law_177 rfl rfl ?_
  refine pg_iload dL_law_178 rfl ?_
  refine pg_iconst dL_law_180 (show Int32.ofInt (4) = (4) by decide) ?_
  refine pg_iadd dL_law_181 ?_
  rw [show nI i + 4 = nI (i + 4) from nI_add i 4]
  refine pg_sld dL_law_182 (vp_in_nI (n := i + 4) (by omega) (by omega)) ?_
  rw [nI_clamp (show i + 4 < 2 ^ 31 by omega)]
  refine pg_aload_n dL_law_183 rfl rfl ?_
  refine pg_iload dL_law_184 rfl ?_
  refine pg_iconst dL_law_186 (show Int32.ofInt (5) = (5) by decide) ?_
  refine pg_iadd dL_law_187 ?_
  rw [show nI i + 5 = nI (i + 5) from nI_add i 5]
  refine pg_sld dL_law_188 (vp_in_nI (n := i + 5) (by omega) (by omega)) ?_
  rw [nI_clamp (show i + 5 < 2 ^ 31 by omega)]
  refine pg_callV (pm_mono px_tb fx 1735) (j := 36) (As := [.int (fx.2.2.2.2 (i + 1)), .int (fx.2.2.2.2 (i + 2)), .int (fx.2.2.2.2 (i + 3)), .int (fx.2.2.2.2 (i + 4)), .int (fx.2.2.2.2 (i + 5))]) dL_law_189 cl_L_71 (by omega) (h36.trans hm36) rfl (Nat.le_of_ble_eq_true rfl) (show uc + 0 + 0 ≤ 601024 by omega) (show us + 0 + 0 ≤ 7293034 by omega) ?_
  refine pm_mono px_tb fx 1735 _ _ _ _ _ _ _ (fun o3 al3 n3 g3 hq3 => ?_) (pm_le' (hr g1 (fun _ _ => rfl) ⟨fo, h58.trans ho⟩) (by decide))
  obtain ⟨rfl, rfl, e58, b, rfl, hb, hR3⟩ := hq3
  obtain rfl := hb rfl
  show pg px_tb fx (px_body pm_L_law) (pm px_tb fx 1735) Q al3 n3 g3 192 _ _ _ _
  refine pg_icmp_eq (tgt := 1167) dL_law_192 (by decide) (fun c192 => ?_) (fun c192 => absurd rfl c192)
  exact kk _ _ _ _ _ _ hR3
set_option maxHeartbeats 4000000 in
set_option maxRecDepth 20000 in
theorem sg_end {fx : px_F} {Q : px_Q} {al : Nat → Nat} {n : Nat} {g : Nat → px_O} {c0 : Int32} {i uc us : Nat} {x5 x6 : Value} (h : REL al n g c0) (hN : fx.2.2.2.1 ≤ 3072) (hi : i + 6 ≤ fx.2.2.2.1) (hu : uc + 8 ≤ 601024) (hw : us + 373 ≤ 7293034) (kk : ∀ (al2 : Nat → Nat) (n2 : Nat) (g2 : Nat → px_O) (c2 : Int32) (y5 y6 : Value), REL al2 n2 g2 c2 → LWP fx Q al2 n2 g2 1167 i y5 y6 (uc + px_mc px_tb 63 + px_mc px_tb 94) (us + px_ms px_tb 63 + px_ms px_tb 94)) : LWP fx Q al n g 197 i x5 x6 uc us := by
  have hn := h.n
  obtain ⟨⟨fo, ho⟩, ⟨f0, hx⟩, ⟨f36, hm36⟩⟩ := h.o
  show pg px_tb fx (px_body pm_L_law) (pm px_tb fx 1735) Q al n g 197 [.ref fx.2.2.1, .ref (al 0), .ref (al 36), .ref (al 58), .int (nI i), x5, x6] [] uc us
  refine pg_aload_n dL_law_197 rfl rfl ?_
  refine pg_aload_n dL_law_198 rfl rfl ?_
  refine pg_iload dL_law_199 rfl ?_
  refine pg_iconst dL_law_201 (show Int32.ofInt (1) = (1) by decide) ?_
  refine pg_iadd dL_law_202 ?_
  rw [show nI i + 1 = nI (i + 1) from nI_add i 1]
  refine pg_sld dL_law_203 (vp_in_nI (n := i + 1) (by omega) (by omega)) ?_
  rw [nI_clamp (show i + 1 < 2 ^ 31 by omega)]
  refine pg_callV (pm_mono px_tb fx 1735) (j := 0) (As := [.int (fx.2.2.2.2 (i + 1))]) dL_law_204 cl_L_72 (by omega) hx rfl (Nat.le_of_ble_eq_true rfl) (show uc + 0 ≤ 601024 by omega) (show us + 0 ≤ 7293034 by omega) ?_
  refine pm_mono px_tb fx 1735 _ _ _ _ _ _ _ (fun o al1 n1 g1 hq => ?_) (pm_le' (op_end h (fx.2.2.2.2 (i + 1))) (by decide))
  obtain ⟨hn1, ha1, h58, h36, w, c, ho1, hr⟩ := hq
  rcases ho1 with ⟨rfl, rfl⟩ | ⟨E, rfl, hc, hc0⟩
  rotate_left
  · exact absurd (show c = 0 from hc) hc0
  show pg px_tb fx (px_body pm_L_law) (pm px_tb fx 1735) Q al1 n1 g1 207 _ _ _ _
  rw [← ha1 0 (by omega), ← ha1 36 (by omega), ← ha1 58 (by omega)]
  refine pg_aload_n dL_law_207 rfl rfl ?_
  refine pg_aload_n dL_law_208 rfl rfl ?_
  refine pg_iload dL_law_209 rfl ?_
  refine pg_iconst dL_law_211 (show Int32.ofInt (1) = (1) by decide) ?_
  refine pg_iadd dL_law_212 ?_
  rw [show nI i + 1 = nI (i + 1) from nI_add i 1]
  refine pg_sld dL_law_213 (vp_in_nI (n := i + 1) (by omega) (by omega)) ?_
  rw [nI_clamp (show i + 1 < 2 ^ 31 by omega)]
  refine pg_callV (pm_mono px_tb fx 1735) (j := 36) (As := [.int (fx.2.2.2.2 (i + 1))]) dL_law_214 cl_L_76 (by omega) (h36.trans hm36) rfl (Nat.le_of_ble_eq_true rfl) (show uc + 0 + 0 ≤ 601024 by omega) (show us + 0 + 0 ≤ 7293034 by omega) ?_
  refine pm_mono px_tb fx 1735 _ _ _ _ _ _ _ (fun o3 al3 n3 g3 hq3 => ?_) (pm_le' (hr g1 (fun _ _ => rfl) ⟨fo, h58.trans ho⟩) (by decide))
  obtain ⟨rfl, rfl, e58, b, rfl, hb, hR3⟩ := hq3
  obtain rfl := hb rfl
  show pg px_tb fx (px_body pm_L_law) (pm px_tb fx 1735) Q al3 n3 g3 217 _ _ _ _
  refine pg_icmp_eq (tgt := 1167) dL_law_217 (by decide) (fun c217 => ?_) (fun c217 => absurd rfl c217)
  exact kk _ _ _ _ _ _ hR3
set_option maxHeartbeats 4000000 in
set_option maxRecDepth 20000 in
theorem sg_read {fx : px_F} {Q : px_Q} {al : Nat → Nat} {n : Nat} {g : Nat → px_O} {c0 : Int32} {i uc us : Nat} {x5 x6 : Value} (h : REL al n g c0) (hN : fx.2.2.2.1 ≤ 3072) (hi : i + 6 ≤ fx.2.2.2.1) (hu : uc + 8 ≤ 601024) (hw : us + 373 ≤ 7293034) (kk : ∀ (al2 : Nat → Nat) (n2 : Nat) (g2 : Nat → px_O) (c2 : Int32) (y5 y6 : Value), REL al2 n2 g2 c2 → LWP fx Q al2 n2 g2 1167 i y5 y6 (uc + px_mc px_tb 148 + px_mc px_tb 112 + px_mc px_tb 90) (us + px_ms px_tb 148 + px_ms px_tb 112 + px_ms px_tb 90)) : LWP fx Q al n g 222 i x5 x6 uc us := by
  have hn := h.n
  obtain ⟨⟨fo, ho⟩, ⟨f0, hx⟩, ⟨f36, hm36⟩⟩ := h.o
  show pg px_tb fx (px_body pm_L_law) (pm px_tb fx 1735) Q al n g 222 [.ref fx.2.2.1, .ref (al 0), .ref (al 36), .ref (al 58), .int (nI i), x5, x6] [] uc us
  refine pg_aload_n dL_law_222 rfl rfl ?_
  refine pg_aload_n dL_law_223 rfl rfl ?_
  refine pg_callS (pm_mono px_tb fx 1735) (As := [.ref (al 0), .ref (al 58)]) dL_law_224 cl_L_77 rfl (Nat.le_of_ble_eq_true rfl) (show uc + 5 ≤ 601024 by omega) (show us + 373 ≤ 7293034 by omega) ?_
  refine pm_mono px_tb fx 1735 _ _ _ _ _ _ _ (fun o al1 n1 g1 hq => ?_) (pm_le' (wr_read h ) (by decide))
  obtain ⟨hn1, ha1, c, w, rfl, ⟨fo1, hfo1, hfw⟩, ⟨f361, hm361⟩, hr⟩ := hq
  show pg px_tb fx (px_body pm_L_law) (pm px_tb fx 1735) Q al1 n1 g1 227 _ _ _ _
  rw [← ha1 0 (by omega), ← ha1 36 (by omega), ← ha1 58 (by omega)]
  refine pg_istore dL_law_227 (Nat.le_of_ble_eq_true rfl) ?_
  refine pg_aload_n dL_law_229 rfl rfl ?_
  refine pg_callV (pm_mono px_tb fx 1735) (j := 36) (As := []) dL_law_230 cl_L_82 (by omega) hm361 rfl (Nat.le_of_ble_eq_true rfl) (show uc + 5 + 0 ≤ 601024 by omega) (show us + 373 + 0 ≤ 7293034 by omega) ?_
  refine pm_mono px_tb fx 1735 _ _ _ _ _ _ _ (fun o3 al3 n3 g3 hq3 => ?_) (pm_le' hr (by decide))
  obtain ⟨rfl, rfl, e58, b, rfl, hb, hR3⟩ := hq3
  obtain ⟨_, _, ⟨f363, hm363⟩⟩ := hR3.o
  show pg px_tb fx (px_body pm_L_law) (pm px_tb fx 1735) Q al3 n3 g3 233 _ _ _ _
  refine pg_istore dL_law_233 (Nat.le_of_ble_eq_true rfl) ?_
  refine pg_aload_n dL_law_235 rfl rfl ?_
  refine pg_callV (pm_mono px_tb fx 1735) (j := 36) (As := []) dL_law_236 cl_L_83 (by omega) hm363 rfl (Nat.le_of_ble_eq_true rfl) (show uc + 5 + 0 + 0 ≤ 601024 by omega) (show us + 373 + 0 + 0 ≤ 7293034 by omega) ?_
  refine pm_mono px_tb fx 1735 _ _ _ _ _ _ _ (fun o4 al4 n4 g4 hq4 => ?_) (pm_le' (op_thrown hR3) (by decide))
  obtain ⟨rfl, rfl, rfl, e584, hR4⟩ := hq4
  show pg px_tb fx (px_body pm_L_law) (pm px_tb fx 1735) Q al4 n4 g4 239 _ _ _ _
  refine pg_iload dL_law_239 rfl ?_
  refine pg_icmp_eq (tgt := 246) dL_law_241 (by decide) (fun c241 => ?_) (fun c241 => absurd rfl c241)
  refine pg_iload dL_law_246 rfl ?_
  refine pg_if_ne (tgt := 263) dL_law_248 (by decide) (fun c248 => ?_) (fun c248 => ?_)
  ·
    refine pg_goto (tgt := 1167) dL_law_263 (by decide) ?_
    exact kk _ _ _ _ _ _ hR4
  ·
    refine pg_aload_n dL_law_251 rfl rfl ?_
    refine pg_iconst dL_law_252 (show Int32.ofInt (0) = (0) by decide) ?_
    refine pg_lald (j := 58) dL_law_253 (by omega) ((e584.trans e58).trans hfo1) (vp_in_nI (n := 0) (by decide) (by decide)) ?_
    rw [show fo1 (Int32.toNatClampNeg 0) = cvI b from (hfw c248).trans (by rw [hb c248])]
    refine pg_iload dL_law_254 rfl ?_
    refine pg_i2l dL_law_256 ?_
    refine pg_lcmp dL_law_257 ?_
    refine pg_if_eq (tgt := 263) dL_law_258 (by decide) (fun c258 => ?_) (fun c258 => absurd (lg_self _) c258)
    refine pg_goto (tgt := 1167) dL_law_263 (by decide) ?_
    exact kk _ _ _ _ _ _ hR4
set_option maxHeartbeats 4000000 in
set_option maxRecDepth 20000 in
theorem sg_fault {fx : px_F} {Q : px_Q} {al : Nat → Nat} {n : Nat} {g : Nat → px_O} {c0 : Int32} {i uc us : Nat} {x5 x6 : Value} (h : REL al n g c0) (hN : fx.2.2.2.1 ≤ 3072) (hi : i + 6 ≤ fx.2.2.2.1) (hu : uc + 8 ≤ 601024) (hw : us + 373 ≤ 7293034) (kk : ∀ (al2 : Nat → Nat) (n2 : Nat) (g2 : Nat → px_O) (c2 : Int32) (y5 y6 : Value), REL al2 n2 g2 c2 → LWP fx Q al2 n2 g2 1167 i y5 y6 (uc + px_mc px_tb 65 + px_mc px_tb 114) (us + px_ms px_tb 65 + px_ms px_tb 114)) : LWP fx Q al n g 266 i x5 x6 uc us := by
  have hn := h.n
  obtain ⟨⟨fo, ho⟩, ⟨f0, hx⟩, ⟨f36, hm36⟩⟩ := h.o
  show pg px_tb fx (px_body pm_L_law) (pm px_tb fx 1735) Q al n g 266 [.ref fx.2.2.1, .ref (al 0), .ref (al 36), .ref (al 58), .int (nI i), x5, x6] [] uc us
  refine pg_aload_n dL_law_266 rfl rfl ?_
  refine pg_callV (pm_mono px_tb fx 1735) (j := 0) (As := []) dL_law_267 cl_L_86 (by omega) hx rfl (Nat.le_of_ble_eq_true rfl) (show uc + 0 ≤ 601024 by omega) (show us + 0 ≤ 7293034 by omega) ?_
  refine pm_mono px_tb fx 1735 _ _ _ _ _ _ _ (fun o al1 n1 g1 hq => ?_) (pm_le' (op_fault h ) (by decide))
  obtain ⟨hn1, ha1, h58, h36, w, c, ho1, hr⟩ := hq
  rcases ho1 with ⟨rfl, rfl⟩ | ⟨E, rfl, hc, hc0⟩
  rotate_left
  · exact absurd (show c = 0 from hc) hc0
  show pg px_tb fx (px_body pm_L_law) (pm px_tb fx 1735) Q al1 n1 g1 270 _ _ _ _
  rw [← ha1 0 (by omega), ← ha1 36 (by omega), ← ha1 58 (by omega)]
  refine pg_aload_n dL_law_270 rfl rfl ?_
  refine pg_callV (pm_mono px_tb fx 1735) (j := 36) (As := []) dL_law_271 cl_L_89 (by omega) (h36.trans hm36) rfl (Nat.le_of_ble_eq_true rfl) (show uc + 0 + 0 ≤ 601024 by omega) (show us + 0 + 0 ≤ 7293034 by omega) ?_
  refine pm_mono px_tb fx 1735 _ _ _ _ _ _ _ (fun o3 al3 n3 g3 hq3 => ?_) (pm_le' (hr g1 (fun _ _ => rfl) ⟨fo, h58.trans ho⟩) (by decide))
  obtain ⟨rfl, rfl, e58, b, rfl, hb, hR3⟩ := hq3
  obtain rfl := hb rfl
  show pg px_tb fx (px_body pm_L_law) (pm px_tb fx 1735) Q al3 n3 g3 274 _ _ _ _
  refine pg_icmp_eq (tgt := 1167) dL_law_274 (by decide) (fun c274 => ?_) (fun c274 => absurd rfl c274)
  exact kk _ _ _ _ _ _ hR3
set_option maxHeartbeats 4000000 in
set_option maxRecDepth 20000 in
theorem sg_run {fx : px_F} {Q : px_Q} {al : Nat → Nat} {n : Nat} {g : Nat → px_O} {c0 : Int32} {i uc us : Nat} {x5 x6 : Value} (h : REL al n g c0) (hN : fx.2.2.2.1 ≤ 3072) (hi : i + 6 ≤ fx.2.2.2.1) (hu : uc + 8 ≤ 601024) (hw : us + 373 ≤ 7293034) (kk : ∀ (al2 : Nat → Nat) (n2 : Nat) (g2 : Nat → px_O) (c2 : Int32) (y5 y6 : Value), REL al2 n2 g2 c2 → LWP fx Q al2 n2 g2 1167 i y5 y6 (uc + px_mc px_tb 149 + px_mc px_tb 127 + px_mc px_tb 90) (us + px_ms px_tb 149 + px_ms px_tb 127 + px_ms px_tb 90)) : LWP fx Q al n g 279 i x5 x6 uc us := by
  have hn := h.n
  obtain ⟨⟨fo, ho⟩, ⟨f0, hx⟩, ⟨f36, hm36⟩⟩ := h.o
  show pg px_tb fx (px_body pm_L_law) (pm px_tb fx 1735) Q al n g 279 [.ref fx.2.2.1, .ref (al 0), .ref (al 36), .ref (al 58), .int (nI i), x5, x6] [] uc us
  refine pg_aload_n dL_law_279 rfl rfl ?_
  refine pg_aload_n dL_law_280 rfl rfl ?_
  refine pg_iload dL_law_281 rfl ?_
  refine pg_iconst dL_law_283 (show Int32.ofInt (1) = (1) by decide) ?_
  refine pg_iadd dL_law_284 ?_
  rw [show nI i + 1 = nI (i + 1) from nI_add i 1]
  refine pg_sld dL_law_285 (vp_in_nI (n := i + 1) (by omega) (by omega)) ?_
  rw [nI_clamp (show i + 1 < 2 ^ 31 by omega)]
  refine pg_aload_n dL_law_286 rfl rfl ?_
  refine pg_iload dL_law_287 rfl ?_
  refine pg_iconst dL_law_289 (show Int32.ofInt (2) = (2) by decide) ?_
  refine pg_iadd dL_law_290 ?_
  rw [show nI i + 2 = nI (i + 2) from nI_add i 2]
  refine pg_sld dL_law_291 (vp_in_nI (n := i + 2) (by omega) (by omega)) ?_
  rw [nI_clamp (show i + 2 < 2 ^ 31 by omega)]
  refine pg_aload_n dL_law_292 rfl rfl ?_
  refine pg_iload dL_law_293 rfl ?_
  refine pg_iconst dL_law_295 (show Int32.ofInt (3) = (3) by decide) ?_
  refine pg_iadd dL_law_296 ?_
  rw [show nI i + 3 = nI (i + 3) from nI_add i 3]
  refine pg_sld dL_law_297 (vp_in_nI (n := i + 3) (by omega) (by omega)) ?_
  rw [nI_clamp (show i + 3 < 2 ^ 31 by omega)]
  refine pg_aload_n dL_law_298 rfl rfl ?_
  refine pg_callS (pm_mono px_tb fx 1735) (As := [.ref (al 0), .int (fx.2.2.2.2 (i + 1)), .int (fx.2.2.2.2 (i + 2)), .int (fx.2.2.2.2 (i + 3)), .ref (al 58)]) dL_law_299 cl_L_90 rfl (Nat.le_of_ble_eq_true rfl) (show uc + 2 ≤ 601024 by omega) (show us + 12 ≤ 7293034 by omega) ?_
  refine pm_mono px_tb fx 1735 _ _ _ _ _ _ _ (fun o al1 n1 g1 hq => ?_) (pm_le' (wr_run h (fx.2.2.2.2 (i + 1)) (fx.2.2.2.2 (i + 2)) (fx.2.2.2.2 (i + 3))) (by decide))
  obtain ⟨hn1, ha1, c, w, rfl, ⟨fo1, hfo1, hfw⟩, ⟨f361, hm361⟩, hr⟩ := hq
  show pg px_tb fx (px_body pm_L_law) (pm px_tb fx 1735) Q al1 n1 g1 302 _ _ _ _
  rw [← ha1 0 (by omega), ← ha1 36 (by omega), ← ha1 58 (by omega)]
  refine pg_istore dL_law_302 (Nat.le_of_ble_eq_true rfl) ?_
  refine pg_aload_n dL_law_304 rfl rfl ?_
  refine pg_aload_n dL_law_305 rfl rfl ?_
  refine pg_iload dL_law_306 rfl ?_
  refine pg_iconst dL_law_308 (show Int32.ofInt (1) = (1) by decide) ?_
  refine pg_iadd dL_law_309 ?_
  rw [show nI i + 1 = nI (i + 1) from nI_add i 1]
  refine pg_sld dL_law_310 (vp_in_nI (n := i + 1) (by omega) (by omega)) ?_
  rw [nI_clamp (show i + 1 < 2 ^ 31 by omega)]
  refine pg_aload_n dL_law_311 rfl rfl ?_
  refine pg_iload dL_law_312 rfl ?_
  refine pg_iconst dL_law_314 (show Int32.ofInt (2) = (2) by decide) ?_
  refine pg_iadd dL_law_315 ?_
  rw [show nI i + 2 = nI (i + 2) from nI_add i 2]
  refine pg_sld dL_law_316 (vp_in_nI (n := i + 2) (by omega) (by omega)) ?_
  rw [nI_clamp (show i + 2 < 2 ^ 31 by omega)]
  refine pg_aload_n dL_law_317 rfl rfl ?_
  refine pg_iload dL_law_318 rfl ?_
  refine pg_iconst dL_law_320 (show Int32.ofInt (3) = (3) by decide) ?_
  refine pg_iadd dL_law_321 ?_
  rw [show nI i + 3 = nI (i + 3) from nI_add i 3]
  refine pg_sld dL_law_322 (vp_in_nI (n := i + 3) (by omega) (by omega)) ?_
  rw [nI_clamp (show i + 3 < 2 ^ 31 by omega)]
  refine pg_callV (pm_mono px_tb fx 1735) (j := 36) (As := [.int (fx.2.2.2.2 (i + 1)), .int (fx.2.2.2.2 (i + 2)), .int (fx.2.2.2.2 (i + 3))]) dL_law_323 cl_L_93 (by omega) hm361 rfl (Nat.le_of_ble_eq_true rfl) (show uc + 2 + 0 ≤ 601024 by omega) (show us + 12 + 0 ≤ 7293034 by omega) ?_
  refine pm_mono px_tb fx 1735 _ _ _ _ _ _ _ (fun o3 al3 n3 g3 hq3 => ?_) (pm_le' hr (by decide))
  obtain ⟨rfl, rfl, e58, b, rfl, hb, hR3⟩ := hq3
  obtain ⟨_, _, ⟨f363, hm363⟩⟩ := hR3.o
  show pg px_tb fx (px_body pm_L_law) (pm px_tb fx 1735) Q al3 n3 g3 326 _ _ _ _
  refine pg_istore dL_law_326 (Nat.le_of_ble_eq_true rfl) ?_
  refine pg_aload_n dL_law_328 rfl rfl ?_
  refine pg_callV (pm_mono px_tb fx 1735) (j := 36) (As := []) dL_law_329 cl_L_83 (by omega) hm363 rfl (Nat.le_of_ble_eq_true rfl) (show uc + 2 + 0 + 0 ≤ 601024 by omega) (show us + 12 + 0 + 0 ≤ 7293034 by omega) ?_
  refine pm_mono px_tb fx 1735 _ _ _ _ _ _ _ (fun o4 al4 n4 g4 hq4 => ?_) (pm_le' (op_thrown hR3) (by decide))
  obtain ⟨rfl, rfl, rfl, e584, hR4⟩ := hq4
  show pg px_tb fx (px_body pm_L_law) (pm px_tb fx 1735) Q al4 n4 g4 332 _ _ _ _
  refine pg_iload dL_law_332 rfl ?_
  refine pg_icmp_eq (tgt := 339) dL_law_334 (by decide) (fun c334 => ?_) (fun c334 => absurd rfl c334)
  refine pg_iload dL_law_339 rfl ?_
  refine pg_if_ne (tgt := 356) dL_law_341 (by decide) (fun c341 => ?_) (fun c341 => ?_)
  ·
    refine pg_goto (tgt := 1167) dL_law_356 (by decide) ?_
    exact kk _ _ _ _ _ _ hR4
  ·
    refine pg_aload_n dL_law_344 rfl rfl ?_
    refine pg_iconst dL_law_345 (show Int32.ofInt (0) = (0) by decide) ?_
    refine pg_lald (j := 58) dL_law_346 (by omega) ((e584.trans e58).trans hfo1) (vp_in_nI (n := 0) (by decide) (by decide)) ?_
    rw [show fo1 (Int32.toNatClampNeg 0) = cvI b from (hfw c341).trans (by rw [hb c341])]
    refine pg_iload dL_law_347 rfl ?_
    refine pg_i2l dL_law_349 ?_
    refine pg_lcmp dL_law_350 ?_
    refine pg_if_eq (tgt := 356) dL_law_351 (by decide) (fun c351 => ?_) (fun c351 => absurd (lg_self _) c351)
    refine pg_goto (tgt := 1167) dL_law_356 (by decide) ?_
    exact kk _ _ _ _ _ _ hR4
set_option maxHeartbeats 4000000 in
set_option maxRecDepth 20000 in
theorem sg_task {fx : px_F} {Q : px_Q} {al : Nat → Nat} {n : Nat} {g : Nat → px_O} {c0 : Int32} {i uc us : Nat} {x5 x6 : Value} (h : REL al n g c0) (hN : fx.2.2.2.1 ≤ 3072) (hi : i + 6 ≤ fx.2.2.2.1) (hu : uc + 8 ≤ 601024) (hw : us + 373 ≤ 7293034) (kk : ∀ (al2 : Nat → Nat) (n2 : Nat) (g2 : Nat → px_O) (c2 : Int32) (y5 y6 : Value), REL al2 n2 g2 c2 → LWP fx Q al2 n2 g2 1167 i y5 y6 (uc + px_mc px_tb 150 + px_mc px_tb 130 + px_mc px_tb 90) (us + px_ms px_tb 150 + px_ms px_tb 130 + px_ms px_tb 90)) : LWP fx Q al n g 359 i x5 x6 uc us := by
  have hn := h.n
  obtain ⟨⟨fo, ho⟩, ⟨f0, hx⟩, ⟨f36, hm36⟩⟩ := h.o
  show pg px_tb fx (px_body pm_L_law) (pm px_tb fx 1735) Q al n g 359 [.ref fx.2.2.1, .ref (al 0), .ref (al 36), .ref (al 58), .int (nI i), x5, x6] [] uc us
  refine pg_aload_n dL_law_359 rfl rfl ?_
  refine pg_aload_n dL_law_360 rfl rfl ?_
  refine pg_iload dL_law_361 rfl ?_
  refine pg_iconst dL_law_363 (show Int32.ofInt (1) = (1) by decide) ?_
  refine pg_iadd dL_law_364 ?_
  rw [show nI i + 1 = nI (i + 1) from nI_add i 1]
  refine pg_sld dL_law_365 (vp_in_nI (n := i + 1) (by omega) (by omega)) ?_
  rw [nI_clamp (show i + 1 < 2 ^ 31 by omega)]
  refine pg_aload_n dL_law_366 rfl rfl ?_
  refine pg_iload dL_law_367 rfl ?_
  refine pg_iconst dL_law_369 (show Int32.ofInt (2) = (2) by decide) ?_
  refine pg_iadd dL_law_370 ?_
  rw [show nI i + 2 = nI (i + 2) from nI_add i 2]
  refine pg_sld dL_law_371 (vp_in_nI (n := i + 2) (by omega) (by omega)) ?_
  rw [nI_clamp (show i + 2 < 2 ^ 31 by omega)]
  refine pg_aload_n dL_law_372 rfl rfl ?_
  refine pg_callS (pm_mono px_tb fx 1735) (As := [.ref (al 0), .int (fx.2.2.2.2 (i + 1)), .int (fx.2.2.2.2 (i + 2)), .ref (al 58)]) dL_law_373 cl_L_94 rfl (Nat.le_of_ble_eq_true rfl) (show uc + 8 ≤ 601024 by omega) (show us + 57 ≤ 7293034 by omega) ?_
  refine pm_mono px_tb fx 1735 _ _ _ _ _ _ _ (fun o al1 n1 g1 hq => ?_) (pm_le' (wr_task h (fx.2.2.2.2 (i + 1)) (fx.2.2.2.2 (i + 2))) (by decide))
  obtain ⟨hn1, ha1, c, w, rfl, ⟨fo1, hfo1, hfw⟩, ⟨f361, hm361⟩, hr⟩ := hq
  show pg px_tb fx (px_body pm_L_law) (pm px_tb fx 1735) Q al1 n1 g1 376 _ _ _ _
  rw [← ha1 0 (by omega), ← ha1 36 (by omega), ← ha1 58 (by omega)]
  refine pg_istore dL_law_376 (Nat.le_of_ble_eq_true rfl) ?_
  refine pg_aload_n dL_law_378 rfl rfl ?_
  refine pg_aload_n dL_law_379 rfl rfl ?_
  refine pg_iload dL_law_380 rfl ?_
  refine pg_iconst dL_law_382 (show Int32.ofInt (1) = (1) by decide) ?_
  refine pg_iadd dL_law_383 ?_
  rw [show nI i + 1 = nI (i + 1) from nI_add i 1]
  refine pg_sld dL_law_384 (vp_in_nI (n := i + 1) (by omega) (by omega)) ?_
  rw [nI_clamp (show i + 1 < 2 ^ 31 by omega)]
  refine pg_aload_n dL_law_385 rfl rfl ?_
  refine pg_iload dL_law_386 rfl ?_
  refine pg_iconst dL_law_388 (show Int32.ofInt (2) = (2) by decide) ?_
  refine pg_iadd dL_law_389 ?_
  rw [show nI i + 2 = nI (i + 2) from nI_add i 2]
  refine pg_sld dL_law_390 (vp_in_nI (n := i + 2) (by omega) (by omega)) ?_
  rw [nI_clamp (show i + 2 < 2 ^ 31 by omega)]
  refine pg_callV (pm_mono px_tb fx 1735) (j := 36) (As := [.int (fx.2.2.2.2 (i + 1)), .int (fx.2.2.2.2 (i + 2))]) dL_law_391 cl_L_97 (by omega) hm361 rfl (Nat.le_of_ble_eq_true rfl) (show uc + 8 + 0 ≤ 601024 by omega) (show us + 57 + 0 ≤ 7293034 by omega) ?_
  refine pm_mono px_tb fx 1735 _ _ _ _ _ _ _ (fun o3 al3 n3 g3 hq3 => ?_) (pm_le' hr (by decide))
  obtain ⟨rfl, rfl, e58, b, rfl, hb, hR3⟩ := hq3
  obtain ⟨_, _, ⟨f363, hm363⟩⟩ := hR3.o
  show pg px_tb fx (px_body pm_L_law) (pm px_tb fx 1735) Q al3 n3 g3 394 _ _ _ _
  refine pg_istore dL_law_394 (Nat.le_of_ble_eq_true rfl) ?_
  refine pg_aload_n dL_law_396 rfl rfl ?_
  refine pg_callV (pm_mono px_tb fx 1735) (j := 36) (As := []) dL_law_397 cl_L_83 (by omega) hm363 rfl (Nat.le_of_ble_eq_true rfl) (show uc + 8 + 0 + 0 ≤ 601024 by omega) (show us + 57 + 0 + 0 ≤ 7293034 by omega) ?_
  refine pm_mono px_tb fx 1735 _ _ _ _ _ _ _ (fun o4 al4 n4 g4 hq4 => ?_) (pm_le' (op_thrown hR3) (by decide))
  obtain ⟨rfl, rfl, rfl, e584, hR4⟩ := hq4
  show pg px_tb fx (px_body pm_L_law) (pm px_tb fx 1735) Q al4 n4 g4 400 _ _ _ _
  refine pg_iload dL_law_400 rfl ?_
  refine pg_icmp_eq (tgt := 407) dL_law_402 (by decide) (fun c402 => ?_) (fun c402 => absurd rfl c402)
  refine pg_iload dL_law_407 rfl ?_
  refine pg_if_ne (tgt := 424) dL_law_409 (by decide) (fun c409 => ?_) (fun c409 => ?_)
  ·
    refine pg_goto (tgt := 1167) dL_law_424 (by decide) ?_
    exact kk _ _ _ _ _ _ hR4
  ·
    refine pg_aload_n dL_law_412 rfl rfl ?_
    refine pg_iconst dL_law_413 (show Int32.ofInt (0) = (0) by decide) ?_
    refine pg_lald (j := 58) dL_law_414 (by omega) ((e584.trans e58).trans hfo1) (vp_in_nI (n := 0) (by decide) (by decide)) ?_
    rw [show fo1 (Int32.toNatClampNeg 0) = cvI b from (hfw c409).trans (by rw [hb c409])]
    refine pg_iload dL_law_415 rfl ?_
    refine pg_i2l dL_law_417 ?_
    refine pg_lcmp dL_law_418 ?_
    refine pg_if_eq (tgt := 424) dL_law_419 (by decide) (fun c419 => ?_) (fun c419 => absurd (lg_self _) c419)
    refine pg_goto (tgt := 1167) dL_law_424 (by decide) ?_
    exact kk _ _ _ _ _ _ hR4
set_option maxHeartbeats 4000000 in
set_option maxRecDepth 20000 in
theorem sg_world {fx : px_F} {Q : px_Q} {al : Nat → Nat} {n : Nat} {g : Nat → px_O} {c0 : Int32} {i uc us : Nat} {x5 x6 : Value} (h : REL al n g c0) (hN : fx.2.2.2.1 ≤ 3072) (hi : i + 6 ≤ fx.2.2.2.1) (hu : uc + 8 ≤ 601024) (hw : us + 373 ≤ 7293034) (kk : ∀ (al2 : Nat → Nat) (n2 : Nat) (g2 : Nat → px_O) (c2 : Int32) (y5 y6 : Value), REL al2 n2 g2 c2 → LWP fx Q al2 n2 g2 1167 i y5 y6 (uc + px_mc px_tb 151 + px_mc px_tb 131 + px_mc px_tb 90) (us + px_ms px_tb 151 + px_ms px_tb 131 + px_ms px_tb 90)) : LWP fx Q al n g 427 i x5 x6 uc us := by
  have hn := h.n
  obtain ⟨⟨fo, ho⟩, ⟨f0, hx⟩, ⟨f36, hm36⟩⟩ := h.o
  show pg px_tb fx (px_body pm_L_law) (pm px_tb fx 1735) Q al n g 427 [.ref fx.2.2.1, .ref (al 0), .ref (al 36), .ref (al 58), .int (nI i), x5, x6] [] uc us
  refine pg_aload_n dL_law_427 rfl rfl ?_
  refine pg_aload_n dL_law_428 rfl rfl ?_
  refine pg_iload dL_law_429 rfl ?_
  refine pg_iconst dL_law_431 (show Int32.ofInt (1) = (1) by decide) ?_
  refine pg_iadd dL_law_432 ?_
  rw [show nI i + 1 = nI (i + 1) from nI_add i 1]
  refine pg_sld dL_law_433 (vp_in_nI (n := i + 1) (by omega) (by omega)) ?_
  rw [nI_clamp (show i + 1 < 2 ^ 31 by omega)]
  refine pg_aload_n dL_law_434 rfl rfl ?_
  refine pg_iload dL_law_435 rfl ?_
  refine pg_iconst dL_law_437 (show Int32.ofInt (2) = (2) by decide) ?_
  refine pg_iadd dL_law_438 ?_
  rw [show nI i + 2 = nI (i + 2) from nI_add i 2]
  refine pg_sld dL_law_439 (vp_in_nI (n := i + 2) (by omega) (by omega)) ?_
  rw [nI_clamp (show i + 2 < 2 ^ 31 by omega)]
  refine pg_aload_n dL_law_440 rfl rfl ?_
  refine pg_iload dL_law_441 rfl ?_
  refine pg_iconst dL_law_443 (show Int32.ofInt (3) = (3) by decide) ?_
  refine pg_iadd dL_law_444 ?_
  rw [show nI i + 3 = nI (i + 3) from nI_add i 3]
  refine pg_sld dL_law_445 (vp_in_nI (n := i + 3) (by omega) (by omega)) ?_
  rw [nI_clamp (show i + 3 < 2 ^ 31 by omega)]
  refine pg_aload_n dL_law_446 rfl rfl ?_
  refine pg_iload dL_law_447 rfl ?_
  refine pg_iconst dL_law_449 (show Int32.ofInt (4) = (4) by decide) ?_
  refine pg_iadd dL_law_450 ?_
  rw [show nI i + 4 = nI (i + 4) from nI_add i 4]
  refine pg_sld dL_law_451 (vp_in_nI (n := i + 4) (by omega) (by omega)) ?_
  rw [nI_clamp (show i + 4 < 2 ^ 31 by omega)]
  refine pg_aload_n dL_law_452 rfl rfl ?_
  refine pg_callS (pm_mono px_tb fx 1735) (As := [.ref (al 0), .int (fx.2.2.2.2 (i + 1)), .int (fx.2.2.2.2 (i + 2)), .int (fx.2.2.2.2 (i + 3)), .int (fx.2.2.2.2 (i + 4)), .ref (al 58)]) dL_law_453 cl_L_98 rfl (Nat.le_of_ble_eq_true rfl) (show uc + 1 ≤ 601024 by omega) (show us + 6 ≤ 7293034 by omega) ?_
  refine pm_mono px_tb fx 1735 _ _ _ _ _ _ _ (fun o al1 n1 g1 hq => ?_) (pm_le' (wr_world h (fx.2.2.2.2 (i + 1)) (fx.2.2.2.2 (i + 2)) (fx.2.2.2.2 (i + 3)) (fx.2.2.2.2 (i + 4))) (by decide))
  obtain ⟨hn1, ha1, c, w, rfl, ⟨fo1, hfo1, hfw⟩, ⟨f361, hm361⟩, hr⟩ := hq
  show pg px_tb fx (px_body pm_L_law) (pm px_tb fx 1735) Q al1 n1 g1 456 _ _ _ _
  rw [← ha1 0 (by omega), ← ha1 36 (by omega), ← ha1 58 (by omega)]
  refine pg_istore dL_law_456 (Nat.le_of_ble_eq_true rfl) ?_
  refine pg_aload_n dL_law_458 rfl rfl ?_
  refine pg_aload_n dL_law_459 rfl rfl ?_
  refine pg_iload dL_law_460 rfl ?_
  refine pg_iconst dL_law_462 (show Int32.ofInt (1) = (1) by decide) ?_
  refine pg_iadd dL_law_463 ?_
  rw [show nI i + 1 = nI (i + 1) from nI_add i 1]
  refine pg_sld dL_law_464 (vp_in_nI (n := i + 1) (by omega) (by omega)) ?_
  rw [nI_clamp (show i + 1 < 2 ^ 31 by omega)]
  refine pg_aload_n dL_law_465 rfl rfl ?_
  refine pg_iload dL_law_466 rfl ?_
  refine pg_iconst dL_law_468 (show Int32.ofInt (2) = (2) by decide) ?_
  refine pg_iadd dL_law_469 ?_
  rw [show nI i + 2 = nI (i + 2) from nI_add i 2]
  refine pg_sld dL_law_470 (vp_in_nI (n := i + 2) (by omega) (by omega)) ?_
  rw [nI_clamp (show i + 2 < 2 ^ 31 by omega)]
  refine pg_aload_n dL_law_471 rfl rfl ?_
  refine pg_iload dL_law_472 rfl ?_
  refine pg_iconst dL_law_474 (show Int32.ofInt (3) = (3) by decide) ?_
  refine pg_iadd dL_law_475 ?_
  rw [show nI i + 3 = nI (i + 3) from nI_add i 3]
  refine pg_sld dL_law_476 (vp_in_nI (n := i + 3) (by omega) (by omega)) ?_
  rw [nI_clamp (show i + 3 < 2 ^ 31 by omega)]
  refine pg_aload_n dL_law_477 rfl rfl ?_
  refine pg_iload dL_law_478 rfl ?_
  refine pg_iconst dL_law_480 (show Int32.ofInt (4) = (4) by decide) ?_
  refine pg_iadd dL_law_481 ?_
  rw [show nI i + 4 = nI (i + 4) from nI_add i 4]
  refine pg_sld dL_law_482 (vp_in_nI (n := i + 4) (by omega) (by omega)) ?_
  rw [nI_clamp (show i + 4 < 2 ^ 31 by omega)]
  refine pg_callV (pm_mono px_tb fx 1735) (j := 36) (As := [.int (fx.2.2.2.2 (i + 1)), .int (fx.2.2.2.2 (i + 2)), .int (fx.2.2.2.2 (i + 3)), .int (fx.2.2.2.2 (i + 4))]) dL_law_483 cl_L_101 (by omega) hm361 rfl (Nat.le_of_ble_eq_true rfl) (show uc + 1 + 0 ≤ 601024 by omega) (show us + 6 + 0 ≤ 7293034 by omega) ?_
  refine pm_mono px_tb fx 1735 _ _ _ _ _ _ _ (fun o3 al3 n3 g3 hq3 => ?_) (pm_le' hr (by decide))
  obtain ⟨rfl, rfl, e58, b, rfl, hb, hR3⟩ := hq3
  obtain ⟨_, _, ⟨f363, hm363⟩⟩ := hR3.o
  show pg px_tb fx (px_body pm_L_law) (pm px_tb fx 1735) Q al3 n3 g3 486 _ _ _ _
  refine pg_istore dL_law_486 (Nat.le_of_ble_eq_true rfl) ?_
  refine pg_aload_n dL_law_488 rfl rfl ?_
  refine pg_callV (pm_mono px_tb fx 1735) (j := 36) (As := []) dL_law_489 cl_L_83 (by omega) hm363 rfl (Nat.le_of_ble_eq_true rfl) (show uc + 1 + 0 + 0 ≤ 601024 by omega) (show us + 6 + 0 + 0 ≤ 7293034 by omega) ?_
  refine pm_mono px_tb fx 1735 _ _ _ _ _ _ _ (fun o4 al4 n4 g4 hq4 => ?_) (pm_le' (op_thrown hR3) (by decide))
  obtain ⟨rfl, rfl, rfl, e584, hR4⟩ := hq4
  show pg px_tb fx (px_body pm_L_law) (pm px_tb fx 1735) Q al4 n4 g4 492 _ _ _ _
  refine pg_iload dL_law_492 rfl ?_
  refine pg_icmp_eq (tgt := 499) dL_law_494 (by decide) (fun c494 => ?_) (fun c494 => absurd rfl c494)
  refine pg_iload dL_law_499 rfl ?_
  refine pg_if_ne (tgt := 516) dL_law_501 (by decide) (fun c501 => ?_) (fun c501 => ?_)
  ·
    refine pg_goto (tgt := 1167) dL_law_516 (by decide) ?_
    exact kk _ _ _ _ _ _ hR4
  ·
    refine pg_aload_n dL_law_504 rfl rfl ?_
    refine pg_iconst dL_law_505 (show Int32.ofInt (0) = (0) by decide) ?_
    refine pg_lald (j := 58) dL_law_506 (by omega) ((e584.trans e58).trans hfo1) (vp_in_nI (n := 0) (by decide) (by decide)) ?_
    rw [show fo1 (Int32.toNatClampNeg 0) = cvI b from (hfw c501).trans (by rw [hb c501])]
    refine pg_iload dL_law_507 rfl ?_
    refine pg_i2l dL_law_509 ?_
    refine pg_lcmp dL_law_510 ?_
    refine pg_if_eq (tgt := 516) dL_law_511 (by decide) (fun c511 => ?_) (fun c511 => absurd (lg_self _) c511)
    refine pg_goto (tgt := 1167) dL_law_516 (by decide) ?_
    exact kk _ _ _ _ _ _ hR4
set_option maxHeartbeats 4000000 in
set_option maxRecDepth 20000 in
theorem sg_attempt {fx : px_F} {Q : px_Q} {al : Nat → Nat} {n : Nat} {g : Nat → px_O} {c0 : Int32} {i uc us : Nat} {x5 x6 : Value} (h : REL al n g c0) (hN : fx.2.2.2.1 ≤ 3072) (hi : i + 6 ≤ fx.2.2.2.1) (hu : uc + 8 ≤ 601024) (hw : us + 373 ≤ 7293034) (kk : ∀ (al2 : Nat → Nat) (n2 : Nat) (g2 : Nat → px_O) (c2 : Int32) (y5 y6 : Value), REL al2 n2 g2 c2 → LWP fx Q al2 n2 g2 1167 i y5 y6 (uc + px_mc px_tb 152 + px_mc px_tb 135 + px_mc px_tb 90) (us + px_ms px_tb 152 + px_ms px_tb 135 + px_ms px_tb 90)) : LWP fx Q al n g 519 i x5 x6 uc us := by
  have hn := h.n
  obtain ⟨⟨fo, ho⟩, ⟨f0, hx⟩, ⟨f36, hm36⟩⟩ := h.o
  show pg px_tb fx (px_body pm_L_law) (pm px_tb fx 1735) Q al n g 519 [.ref fx.2.2.1, .ref (al 0), .ref (al 36), .ref (al 58), .int (nI i), x5, x6] [] uc us
  refine pg_aload_n dL_law_519 rfl rfl ?_
  refine pg_aload_n dL_law_520 rfl rfl ?_
  refine pg_iload dL_law_521 rfl ?_
  refine pg_iconst dL_law_523 (show Int32.ofInt (1) = (1) by decide) ?_
  refine pg_iadd dL_law_524 ?_
  rw [show nI i + 1 = nI (i + 1) from nI_add i 1]
  refine pg_sld dL_law_525 (vp_in_nI (n := i + 1) (by omega) (by omega)) ?_
  rw [nI_clamp (show i + 1 < 2 ^ 31 by omega)]
  refine pg_aload_n dL_law_526 rfl rfl ?_
  refine pg_iload dL_law_527 rfl ?_
  refine pg_iconst dL_law_529 (show Int32.ofInt (2) = (2) by decide) ?_
  refine pg_iadd dL_law_530 ?_
  rw [show nI i + 2 = nI (i + 2) from nI_add i 2]
  refine pg_sld dL_law_531 (vp_in_nI (n := i + 2) (by omega) (by omega)) ?_
  rw [nI_clamp (show i + 2 < 2 ^ 31 by omega)]
  refine pg_aload_n dL_law_532 rfl rfl ?_
  refine pg_iload dL_law_533 rfl ?_
  refine pg_iconst dL_law_535 (show Int32.ofInt (3) = (3) by decide) ?_
  refine pg_iadd dL_law_536 ?_
  rw [show nI i + 3 = nI (i + 3) from nI_add i 3]
  refine pg_sld dL_law_537 (vp_in_nI (n := i + 3) (by omega) (by omega)) ?_
  rw [nI_clamp (show i + 3 < 2 ^ 31 by omega)]
  refine pg_if_eq (tgt := 545) dL_law_538 (by decide) (fun c538 => ?_) (fun c538 => ?_)
  ·
    refine pg_iconst dL_law_545 (show Int32.ofInt (0) = (0) by decide) ?_
    refine pg_aload_n dL_law_546 rfl rfl ?_
    refine pg_callS (pm_mono px_tb fx 1735) (As := [.ref (al 0), .int (fx.2.2.2.2 (i + 1)), .int (fx.2.2.2.2 (i + 2)), .int 0, .ref (al 58)]) dL_law_547 cl_L_102 rfl (Nat.le_of_ble_eq_true rfl) (show uc + 3 ≤ 601024 by omega) (show us + 18 ≤ 7293034 by omega) ?_
    refine pm_mono px_tb fx 1735 _ _ _ _ _ _ _ (fun o al1 n1 g1 hq => ?_) (pm_le' (wr_attempt h (fx.2.2.2.2 (i + 1)) (fx.2.2.2.2 (i + 2)) 0) (by decide))
    obtain ⟨hn1, ha1, c, w, rfl, ⟨fo1, hfo1, hfw⟩, ⟨f361, hm361⟩, hr⟩ := hq
    show pg px_tb fx (px_body pm_L_law) (pm px_tb fx 1735) Q al1 n1 g1 550 _ _ _ _
    rw [← ha1 0 (by omega), ← ha1 36 (by omega), ← ha1 58 (by omega)]
    refine pg_istore dL_law_550 (Nat.le_of_ble_eq_true rfl) ?_
    refine pg_aload_n dL_law_552 rfl rfl ?_
    refine pg_aload_n dL_law_553 rfl rfl ?_
    refine pg_iload dL_law_554 rfl ?_
    refine pg_iconst dL_law_556 (show Int32.ofInt (1) = (1) by decide) ?_
    refine pg_iadd dL_law_557 ?_
    rw [show nI i + 1 = nI (i + 1) from nI_add i 1]
    refine pg_sld dL_law_558 (vp_in_nI (n := i + 1) (by omega) (by omega)) ?_
    rw [nI_clamp (show i + 1 < 2 ^ 31 by omega)]
    refine pg_aload_n dL_law_559 rfl rfl ?_
    refine pg_iload dL_law_560 rfl ?_
    refine pg_iconst dL_law_562 (show Int32.ofInt (2) = (2) by decide) ?_
    refine pg_iadd dL_law_563 ?_
    rw [show nI i + 2 = nI (i + 2) from nI_add i 2]
    refine pg_sld dL_law_564 (vp_in_nI (n := i + 2) (by omega) (by omega)) ?_
    rw [nI_clamp (show i + 2 < 2 ^ 31 by omega)]
    refine pg_aload_n dL_law_565 rfl rfl ?_
    refine pg_iload dL_law_566 rfl ?_
    refine pg_iconst dL_law_568 (show Int32.ofInt (3) = (3) by decide) ?_
    refine pg_iadd dL_law_569 ?_
    rw [show nI i + 3 = nI (i + 3) from nI_add i 3]
    refine pg_sld dL_law_570 (vp_in_nI (n := i + 3) (by omega) (by omega)) ?_
    rw [nI_clamp (show i + 3 < 2 ^ 31 by omega)]
    refine pg_if_eq (tgt := 578) dL_law_571 (by decide) (fun c571 => ?_) (fun c571 => absurd c538 c571)
    refine pg_iconst dL_law_578 (show Int32.ofInt (0) = (0) by decide) ?_
    refine pg_callV (pm_mono px_tb fx 1735) (j := 36) (As := [.int (fx.2.2.2.2 (i + 1)), .int (fx.2.2.2.2 (i + 2)), .int 0]) dL_law_579 cl_L_105 (by omega) hm361 rfl (Nat.le_of_ble_eq_true rfl) (show uc + 3 + 0 ≤ 601024 by omega) (show us + 18 + 0 ≤ 7293034 by omega) ?_
    refine pm_mono px_tb fx 1735 _ _ _ _ _ _ _ (fun o3 al3 n3 g3 hq3 => ?_) (pm_le' hr (by decide))
    obtain ⟨rfl, rfl, e58, b, rfl, hb, hR3⟩ := hq3
    obtain ⟨_, _, ⟨f363, hm363⟩⟩ := hR3.o
    show pg px_tb fx (px_body pm_L_law) (pm px_tb fx 1735) Q al3 n3 g3 582 _ _ _ _
    refine pg_istore dL_law_582 (Nat.le_of_ble_eq_true rfl) ?_
    refine pg_aload_n dL_law_584 rfl rfl ?_
    refine pg_callV (pm_mono px_tb fx 1735) (j := 36) (As := []) dL_law_585 cl_L_83 (by omega) hm363 rfl (Nat.le_of_ble_eq_true rfl) (show uc + 3 + 0 + 0 ≤ 601024 by omega) (show us + 18 + 0 + 0 ≤ 7293034 by omega) ?_
    refine pm_mono px_tb fx 1735 _ _ _ _ _ _ _ (fun o4 al4 n4 g4 hq4 => ?_) (pm_le' (op_thrown hR3) (by decide))
    obtain ⟨rfl, rfl, rfl, e584, hR4⟩ := hq4
    show pg px_tb fx (px_body pm_L_law) (pm px_tb fx 1735) Q al4 n4 g4 588 _ _ _ _
    refine pg_iload dL_law_588 rfl ?_
    refine pg_icmp_eq (tgt := 595) dL_law_590 (by decide) (fun c590 => ?_) (fun c590 => absurd rfl c590)
    refine pg_iload dL_law_595 rfl ?_
    refine pg_if_ne (tgt := 612) dL_law_597 (by decide) (fun c597 => ?_) (fun c597 => ?_)
    ·
      refine pg_goto (tgt := 1167) dL_law_612 (by decide) ?_
      exact kk _ _ _ _ _ _ hR4
    ·
      refine pg_aload_n dL_law_600 rfl rfl ?_
      refine pg_iconst dL_law_601 (show Int32.ofInt (0) = (0) by decide) ?_
      refine pg_lald (j := 58) dL_law_602 (by omega) ((e584.trans e58).trans hfo1) (vp_in_nI (n := 0) (by decide) (by decide)) ?_
      rw [show fo1 (Int32.toNatClampNeg 0) = cvI b from (hfw c597).trans (by rw [hb c597])]
      refine pg_iload dL_law_603 rfl ?_
      refine pg_i2l dL_law_605 ?_
      refine pg_lcmp dL_law_606 ?_
      refine pg_if_eq (tgt := 612) dL_law_607 (by decide) (fun c607 => ?_) (fun c607 => absurd (lg_self _) c607)
      refine pg_goto (tgt := 1167) dL_law_612 (by decide) ?_
      exact kk _ _ _ _ _ _ hR4
  ·
    refine pg_iconst dL_law_541 (show Int32.ofInt (1) = (1) by decide) ?_
    refine pg_goto (tgt := 546) dL_law_542 (by decide) ?_
    refine pg_aload_n dL_law_546 rfl rfl ?_
    refine pg_callS (pm_mono px_tb fx 1735) (As := [.ref (al 0), .int (fx.2.2.2.2 (i + 1)), .int (fx.2.2.2.2 (i + 2)), .int 1, .ref (al 58)]) dL_law_547 cl_L_102 rfl (Nat.le_of_ble_eq_true rfl) (show uc + 3 ≤ 601024 by omega) (show us + 18 ≤ 7293034 by omega) ?_
    refine pm_mono px_tb fx 1735 _ _ _ _ _ _ _ (fun o al1 n1 g1 hq => ?_) (pm_le' (wr_attempt h (fx.2.2.2.2 (i + 1)) (fx.2.2.2.2 (i + 2)) 1) (by decide))
    obtain ⟨hn1, ha1, c, w, rfl, ⟨fo1, hfo1, hfw⟩, ⟨f361, hm361⟩, hr⟩ := hq
    show pg px_tb fx (px_body pm_L_law) (pm px_tb fx 1735) Q al1 n1 g1 550 _ _ _ _
    rw [← ha1 0 (by omega), ← ha1 36 (by omega), ← ha1 58 (by omega)]
    refine pg_istore dL_law_550 (Nat.le_of_ble_eq_true rfl) ?_
    refine pg_aload_n dL_law_552 rfl rfl ?_
    refine pg_aload_n dL_law_553 rfl rfl ?_
    refine pg_iload dL_law_554 rfl ?_
    refine pg_iconst dL_law_556 (show Int32.ofInt (1) = (1) by decide) ?_
    refine pg_iadd dL_law_557 ?_
    rw [show nI i + 1 = nI (i + 1) from nI_add i 1]
    refine pg_sld dL_law_558 (vp_in_nI (n := i + 1) (by omega) (by omega)) ?_
    rw [nI_clamp (show i + 1 < 2 ^ 31 by omega)]
    refine pg_aload_n dL_law_559 rfl rfl ?_
    refine pg_iload dL_law_560 rfl ?_
    refine pg_iconst dL_law_562 (show Int32.ofInt (2) = (2) by decide) ?_
    refine pg_iadd dL_law_563 ?_
    rw [show nI i + 2 = nI (i + 2) from nI_add i 2]
    refine pg_sld dL_law_564 (vp_in_nI (n := i + 2) (by omega) (by omega)) ?_
    rw [nI_clamp (show i + 2 < 2 ^ 31 by omega)]
    refine pg_aload_n dL_law_565 rfl rfl ?_
    refine pg_iload dL_law_566 rfl ?_
    refine pg_iconst dL_law_568 (show Int32.ofInt (3) = (3) by decide) ?_
    refine pg_iadd dL_law_569 ?_
    rw [show nI i + 3 = nI (i + 3) from nI_add i 3]
    refine pg_sld dL_law_570 (vp_in_nI (n := i + 3) (by omega) (by omega)) ?_
    rw [nI_clamp (show i + 3 < 2 ^ 31 by omega)]
    refine pg_if_eq (tgt := 578) dL_law_571 (by decide) (fun c571 => absurd c571 c538) (fun c571 => ?_)
    refine pg_iconst dL_law_574 (show Int32.ofInt (1) = (1) by decide) ?_
    refine pg_goto (tgt := 579) dL_law_575 (by decide) ?_
    refine pg_callV (pm_mono px_tb fx 1735) (j := 36) (As := [.int (fx.2.2.2.2 (i + 1)), .int (fx.2.2.2.2 (i + 2)), .int 1]) dL_law_579 cl_L_105 (by omega) hm361 rfl (Nat.le_of_ble_eq_true rfl) (show uc + 3 + 0 ≤ 601024 by omega) (show us + 18 + 0 ≤ 7293034 by omega) ?_
    refine pm_mono px_tb fx 1735 _ _ _ _ _ _ _ (fun o3 al3 n3 g3 hq3 => ?_) (pm_le' hr (by decide))
    obtain ⟨rfl, rfl, e58, b, rfl, hb, hR3⟩ := hq3
    obtain ⟨_, _, ⟨f363, hm363⟩⟩ := hR3.o
    show pg px_tb fx (px_body pm_L_law) (pm px_tb fx 1735) Q al3 n3 g3 582 _ _ _ _
    refine pg_istore dL_law_582 (Nat.le_of_ble_eq_true rfl) ?_
    refine pg_aload_n dL_law_584 rfl rfl ?_
    refine pg_callV (pm_mono px_tb fx 1735) (j := 36) (As := []) dL_law_585 cl_L_83 (by omega) hm363 rfl (Nat.le_of_ble_eq_true rfl) (show uc + 3 + 0 + 0 ≤ 601024 by omega) (show us + 18 + 0 + 0 ≤ 7293034 by omega) ?_
    refine pm_mono px_tb fx 1735 _ _ _ _ _ _ _ (fun o4 al4 n4 g4 hq4 => ?_) (pm_le' (op_thrown hR3) (by decide))
    obtain ⟨rfl, rfl, rfl, e584, hR4⟩ := hq4
    show pg px_tb fx (px_body pm_L_law) (pm px_tb fx 1735) Q al4 n4 g4 588 _ _ _ _
    refine pg_iload dL_law_588 rfl ?_
    refine pg_icmp_eq (tgt := 595) dL_law_590 (by decide) (fun c590 => ?_) (fun c590 => absurd rfl c590)
    refine pg_iload dL_law_595 rfl ?_
    refine pg_if_ne (tgt := 612) dL_law_597 (by decide) (fun c597 => ?_) (fun c597 => ?_)
    ·
      refine pg_goto (tgt := 1167) dL_law_612 (by decide) ?_
      exact kk _ _ _ _ _ _ hR4
    ·
      refine pg_aload_n dL_law_600 rfl rfl ?_
      refine pg_iconst dL_law_601 (show Int32.ofInt (0) = (0) by decide) ?_
      refine pg_lald (j := 58) dL_law_602 (by omega) ((e584.trans e58).trans hfo1) (vp_in_nI (n := 0) (by decide) (by decide)) ?_
      rw [show fo1 (Int32.toNatClampNeg 0) = cvI b from (hfw c597).trans (by rw [hb c597])]
      refine pg_iload dL_law_603 rfl ?_
      refine pg_i2l dL_law_605 ?_
      refine pg_lcmp dL_law_606 ?_
      refine pg_if_eq (tgt := 612) dL_law_607 (by decide) (fun c607 => ?_) (fun c607 => absurd (lg_self _) c607)
      refine pg_goto (tgt := 1167) dL_law_612 (by decide) ?_
      exact kk _ _ _ _ _ _ hR4
set_option maxHeartbeats 4000000 in
set_option maxRecDepth 20000 in
theorem sg_can {fx : px_F} {Q : px_Q} {al : Nat → Nat} {n : Nat} {g : Nat → px_O} {c0 : Int32} {i uc us : Nat} {x5 x6 : Value} (h : REL al n g c0) (hN : fx.2.2.2.1 ≤ 3072) (hi : i + 6 ≤ fx.2.2.2.1) (hu : uc + 8 ≤ 601024) (hw : us + 373 ≤ 7293034) (kk : ∀ (al2 : Nat → Nat) (n2 : Nat) (g2 : Nat → px_O) (c2 : Int32) (y5 y6 : Value), REL al2 n2 g2 c2 → LWP fx Q al2 n2 g2 1167 i y5 y6 (uc + px_mc px_tb 153 + px_mc px_tb 136 + px_mc px_tb 90) (us + px_ms px_tb 153 + px_ms px_tb 136 + px_ms px_tb 90)) : LWP fx Q al n g 615 i x5 x6 uc us := by
  have hn := h.n
  obtain ⟨⟨fo, ho⟩, ⟨f0, hx⟩, ⟨f36, hm36⟩⟩ := h.o
  show pg px_tb fx (px_body pm_L_law) (pm px_tb fx 1735) Q al n g 615 [.ref fx.2.2.1, .ref (al 0), .ref (al 36), .ref (al 58), .int (nI i), x5, x6] [] uc us
  refine pg_aload_n dL_law_615 rfl rfl ?_
  refine pg_aload_n dL_law_616 rfl rfl ?_
  refine pg_iload dL_law_617 rfl ?_
  refine pg_iconst dL_law_619 (show Int32.ofInt (1) = (1) by decide) ?_
  refine pg_iadd dL_law_620 ?_
  rw [show nI i + 1 = nI (i + 1) from nI_add i 1]
  refine pg_sld dL_law_621 (vp_in_nI (n := i + 1) (by omega) (by omega)) ?_
  rw [nI_clamp (show i + 1 < 2 ^ 31 by omega)]
  refine pg_aload_n dL_law_622 rfl rfl ?_
  refine pg_iload dL_law_623 rfl ?_
  refine pg_iconst dL_law_625 (show Int32.ofInt (2) = (2) by decide) ?_
  refine pg_iadd dL_law_626 ?_
  rw [show nI i + 2 = nI (i + 2) from nI_add i 2]
  refine pg_sld dL_law_627 (vp_in_nI (n := i + 2) (by omega) (by omega)) ?_
  rw [nI_clamp (show i + 2 < 2 ^ 31 by omega)]
  refine pg_aload_n dL_law_628 rfl rfl ?_
  refine pg_callS (pm_mono px_tb fx 1735) (As := [.ref (al 0), .int (fx.2.2.2.2 (i + 1)), .int (fx.2.2.2.2 (i + 2)), .ref (al 58)]) dL_law_629 cl_L_106 rfl (Nat.le_of_ble_eq_true rfl) (show uc + 2 ≤ 601024 by omega) (show us + 12 ≤ 7293034 by omega) ?_
  refine pm_mono px_tb fx 1735 _ _ _ _ _ _ _ (fun o al1 n1 g1 hq => ?_) (pm_le' (wr_can h (fx.2.2.2.2 (i + 1)) (fx.2.2.2.2 (i + 2))) (by decide))
  obtain ⟨hn1, ha1, c, w, rfl, ⟨fo1, hfo1, hfw⟩, ⟨f361, hm361⟩, hr⟩ := hq
  show pg px_tb fx (px_body pm_L_law) (pm px_tb fx 1735) Q al1 n1 g1 632 _ _ _ _
  rw [← ha1 0 (by omega), ← ha1 36 (by omega), ← ha1 58 (by omega)]
  refine pg_istore dL_law_632 (Nat.le_of_ble_eq_true rfl) ?_
  refine pg_aload_n dL_law_634 rfl rfl ?_
  refine pg_aload_n dL_law_635 rfl rfl ?_
  refine pg_iload dL_law_636 rfl ?_
  refine pg_iconst dL_law_638 (show Int32.ofInt (1) = (1) by decide) ?_
  refine pg_iadd dL_law_639 ?_
  rw [show nI i + 1 = nI (i + 1) from nI_add i 1]
  refine pg_sld dL_law_640 (vp_in_nI (n := i + 1) (by omega) (by omega)) ?_
  rw [nI_clamp (show i + 1 < 2 ^ 31 by omega)]
  refine pg_aload_n dL_law_641 rfl rfl ?_
  refine pg_iload dL_law_642 rfl ?_
  refine pg_iconst dL_law_644 (show Int32.ofInt (2) = (2) by decide) ?_
  refine pg_iadd dL_law_645 ?_
  rw [show nI i + 2 = nI (i + 2) from nI_add i 2]
  refine pg_sld dL_law_646 (vp_in_nI (n := i + 2) (by omega) (by omega)) ?_
  rw [nI_clamp (show i + 2 < 2 ^ 31 by omega)]
  refine pg_callV (pm_mono px_tb fx 1735) (j := 36) (As := [.int (fx.2.2.2.2 (i + 1)), .int (fx.2.2.2.2 (i + 2))]) dL_law_647 cl_L_108 (by omega) hm361 rfl (Nat.le_of_ble_eq_true rfl) (show uc + 2 + 0 ≤ 601024 by omega) (show us + 12 + 0 ≤ 7293034 by omega) ?_
  refine pm_mono px_tb fx 1735 _ _ _ _ _ _ _ (fun o3 al3 n3 g3 hq3 => ?_) (pm_le' hr (by decide))
  obtain ⟨rfl, rfl, e58, b, rfl, hb, hR3⟩ := hq3
  obtain ⟨_, _, ⟨f363, hm363⟩⟩ := hR3.o
  show pg px_tb fx (px_body pm_L_law) (pm px_tb fx 1735) Q al3 n3 g3 650 _ _ _ _
  refine pg_istore dL_law_650 (Nat.le_of_ble_eq_true rfl) ?_
  refine pg_aload_n dL_law_652 rfl rfl ?_
  refine pg_callV (pm_mono px_tb fx 1735) (j := 36) (As := []) dL_law_653 cl_L_83 (by omega) hm363 rfl (Nat.le_of_ble_eq_true rfl) (show uc + 2 + 0 + 0 ≤ 601024 by omega) (show us + 12 + 0 + 0 ≤ 7293034 by omega) ?_
  refine pm_mono px_tb fx 1735 _ _ _ _ _ _ _ (fun o4 al4 n4 g4 hq4 => ?_) (pm_le' (op_thrown hR3) (by decide))
  obtain ⟨rfl, rfl, rfl, e584, hR4⟩ := hq4
  show pg px_tb fx (px_body pm_L_law) (pm px_tb fx 1735) Q al4 n4 g4 656 _ _ _ _
  refine pg_iload dL_law_656 rfl ?_
  refine pg_icmp_eq (tgt := 663) dL_law_658 (by decide) (fun c658 => ?_) (fun c658 => absurd rfl c658)
  refine pg_iload dL_law_663 rfl ?_
  refine pg_if_ne (tgt := 680) dL_law_665 (by decide) (fun c665 => ?_) (fun c665 => ?_)
  ·
    refine pg_goto (tgt := 1167) dL_law_680 (by decide) ?_
    exact kk _ _ _ _ _ _ hR4
  ·
    refine pg_aload_n dL_law_668 rfl rfl ?_
    refine pg_iconst dL_law_669 (show Int32.ofInt (0) = (0) by decide) ?_
    refine pg_lald (j := 58) dL_law_670 (by omega) ((e584.trans e58).trans hfo1) (vp_in_nI (n := 0) (by decide) (by decide)) ?_
    rw [show fo1 (Int32.toNatClampNeg 0) = cvI b from (hfw c665).trans (by rw [hb c665])]
    refine pg_iload dL_law_671 rfl ?_
    refine pg_i2l dL_law_673 ?_
    refine pg_lcmp dL_law_674 ?_
    refine pg_if_eq (tgt := 680) dL_law_675 (by decide) (fun c675 => ?_) (fun c675 => absurd (lg_self _) c675)
    refine pg_goto (tgt := 1167) dL_law_680 (by decide) ?_
    exact kk _ _ _ _ _ _ hR4
set_option maxHeartbeats 4000000 in
set_option maxRecDepth 20000 in
theorem sg_passed {fx : px_F} {Q : px_Q} {al : Nat → Nat} {n : Nat} {g : Nat → px_O} {c0 : Int32} {i uc us : Nat} {x5 x6 : Value} (h : REL al n g c0) (hN : fx.2.2.2.1 ≤ 3072) (hi : i + 6 ≤ fx.2.2.2.1) (hu : uc + 8 ≤ 601024) (hw : us + 373 ≤ 7293034) (kk : ∀ (al2 : Nat → Nat) (n2 : Nat) (g2 : Nat → px_O) (c2 : Int32) (y5 y6 : Value), REL al2 n2 g2 c2 → LWP fx Q al2 n2 g2 1167 i y5 y6 (uc + px_mc px_tb 154 + px_mc px_tb 137 + px_mc px_tb 90) (us + px_ms px_tb 154 + px_ms px_tb 137 + px_ms px_tb 90)) : LWP fx Q al n g 683 i x5 x6 uc us := by
  have hn := h.n
  obtain ⟨⟨fo, ho⟩, ⟨f0, hx⟩, ⟨f36, hm36⟩⟩ := h.o
  show pg px_tb fx (px_body pm_L_law) (pm px_tb fx 1735) Q al n g 683 [.ref fx.2.2.1, .ref (al 0), .ref (al 36), .ref (al 58), .int (nI i), x5, x6] [] uc us
  refine pg_aload_n dL_law_683 rfl rfl ?_
  refine pg_aload_n dL_law_684 rfl rfl ?_
  refine pg_iload dL_law_685 rfl ?_
  refine pg_iconst dL_law_687 (show Int32.ofInt (1) = (1) by decide) ?_
  refine pg_iadd dL_law_688 ?_
  rw [show nI i + 1 = nI (i + 1) from nI_add i 1]
  refine pg_sld dL_law_689 (vp_in_nI (n := i + 1) (by omega) (by omega)) ?_
  rw [nI_clamp (show i + 1 < 2 ^ 31 by omega)]
  refine pg_aload_n dL_law_690 rfl rfl ?_
  refine pg_iload dL_law_691 rfl ?_
  refine pg_iconst dL_law_693 (show Int32.ofInt (2) = (2) by decide) ?_
  refine pg_iadd dL_law_694 ?_
  rw [show nI i + 2 = nI (i + 2) from nI_add i 2]
  refine pg_sld dL_law_695 (vp_in_nI (n := i + 2) (by omega) (by omega)) ?_
  rw [nI_clamp (show i + 2 < 2 ^ 31 by omega)]
  refine pg_aload_n dL_law_696 rfl rfl ?_
  refine pg_callS (pm_mono px_tb fx 1735) (As := [.ref (al 0), .int (fx.2.2.2.2 (i + 1)), .int (fx.2.2.2.2 (i + 2)), .ref (al 58)]) dL_law_697 cl_L_109 rfl (Nat.le_of_ble_eq_true rfl) (show uc + 2 ≤ 601024 by omega) (show us + 12 ≤ 7293034 by omega) ?_
  refine pm_mono px_tb fx 1735 _ _ _ _ _ _ _ (fun o al1 n1 g1 hq => ?_) (pm_le' (wr_passed h (fx.2.2.2.2 (i + 1)) (fx.2.2.2.2 (i + 2))) (by decide))
  obtain ⟨hn1, ha1, c, w, rfl, ⟨fo1, hfo1, hfw⟩, ⟨f361, hm361⟩, hr⟩ := hq
  show pg px_tb fx (px_body pm_L_law) (pm px_tb fx 1735) Q al1 n1 g1 700 _ _ _ _
  rw [← ha1 0 (by omega), ← ha1 36 (by omega), ← ha1 58 (by omega)]
  refine pg_istore dL_law_700 (Nat.le_of_ble_eq_true rfl) ?_
  refine pg_aload_n dL_law_702 rfl rfl ?_
  refine pg_aload_n dL_law_703 rfl rfl ?_
  refine pg_iload dL_law_704 rfl ?_
  refine pg_iconst dL_law_706 (show Int32.ofInt (1) = (1) by decide) ?_
  refine pg_iadd dL_law_707 ?_
  rw [show nI i + 1 = nI (i + 1) from nI_add i 1]
  refine pg_sld dL_law_708 (vp_in_nI (n := i + 1) (by omega) (by omega)) ?_
  rw [nI_clamp (show i + 1 < 2 ^ 31 by omega)]
  refine pg_aload_n dL_law_709 rfl rfl ?_
  refine pg_iload dL_law_710 rfl ?_
  refine pg_iconst dL_law_712 (show Int32.ofInt (2) = (2) by decide) ?_
  refine pg_iadd dL_law_713 ?_
  rw [show nI i + 2 = nI (i + 2) from nI_add i 2]
  refine pg_sld dL_law_714 (vp_in_nI (n := i + 2) (by omega) (by omega)) ?_
  rw [nI_clamp (show i + 2 < 2 ^ 31 by omega)]
  refine pg_callV (pm_mono px_tb fx 1735) (j := 36) (As := [.int (fx.2.2.2.2 (i + 1)), .int (fx.2.2.2.2 (i + 2))]) dL_law_715 cl_L_111 (by omega) hm361 rfl (Nat.le_of_ble_eq_true rfl) (show uc + 2 + 0 ≤ 601024 by omega) (show us + 12 + 0 ≤ 7293034 by omega) ?_
  refine pm_mono px_tb fx 1735 _ _ _ _ _ _ _ (fun o3 al3 n3 g3 hq3 => ?_) (pm_le' hr (by decide))
  obtain ⟨rfl, rfl, e58, b, rfl, hb, hR3⟩ := hq3
  obtain ⟨_, _, ⟨f363, hm363⟩⟩ := hR3.o
  show pg px_tb fx (px_body pm_L_law) (pm px_tb fx 1735) Q al3 n3 g3 718 _ _ _ _
  refine pg_istore dL_law_718 (Nat.le_of_ble_eq_true rfl) ?_
  refine pg_aload_n dL_law_720 rfl rfl ?_
  refine pg_callV (pm_mono px_tb fx 1735) (j := 36) (As := []) dL_law_721 cl_L_83 (by omega) hm363 rfl (Nat.le_of_ble_eq_true rfl) (show uc + 2 + 0 + 0 ≤ 601024 by omega) (show us + 12 + 0 + 0 ≤ 7293034 by omega) ?_
  refine pm_mono px_tb fx 1735 _ _ _ _ _ _ _ (fun o4 al4 n4 g4 hq4 => ?_) (pm_le' (op_thrown hR3) (by decide))
  obtain ⟨rfl, rfl, rfl, e584, hR4⟩ := hq4
  show pg px_tb fx (px_body pm_L_law) (pm px_tb fx 1735) Q al4 n4 g4 724 _ _ _ _
  refine pg_iload dL_law_724 rfl ?_
  refine pg_icmp_eq (tgt := 731) dL_law_726 (by decide) (fun c726 => ?_) (fun c726 => absurd rfl c726)
  refine pg_iload dL_law_731 rfl ?_
  refine pg_if_ne (tgt := 755) dL_law_733 (by decide) (fun c733 => ?_) (fun c733 => ?_)
  ·
    refine pg_goto (tgt := 1167) dL_law_755 (by decide) ?_
    exact kk _ _ _ _ _ _ hR4
  ·
    refine pg_aload_n dL_law_736 rfl rfl ?_
    refine pg_iconst dL_law_737 (show Int32.ofInt (0) = (0) by decide) ?_
    refine pg_lald (j := 58) dL_law_738 (by omega) ((e584.trans e58).trans hfo1) (vp_in_nI (n := 0) (by decide) (by decide)) ?_
    rw [show fo1 (Int32.toNatClampNeg 0) = cvB b from (hfw c733).trans (by rw [hb c733])]
    refine pg_iload dL_law_739 rfl ?_
    refine pg_if_eq (tgt := 748) dL_law_741 (by decide) (fun c741 => ?_) (fun c741 => ?_)
    ·
      refine pg_lconst dL_law_748 rfl ?_
      refine pg_lcmp dL_law_749 ?_
      refine pg_if_eq (tgt := 755) dL_law_750 (by decide) (fun c750 => ?_) (fun c750 => absurd (by unfold cvB; rw [if_pos c741]; exact lg_self _) c750)
      refine pg_goto (tgt := 1167) dL_law_755 (by decide) ?_
      exact kk _ _ _ _ _ _ hR4
    ·
      refine pg_lconst dL_law_744 rfl ?_
      refine pg_goto (tgt := 749) dL_law_745 (by decide) ?_
      refine pg_lcmp dL_law_749 ?_
      refine pg_if_eq (tgt := 755) dL_law_750 (by decide) (fun c750 => ?_) (fun c750 => absurd (by unfold cvB; rw [if_neg c741]; exact lg_self _) c750)
      refine pg_goto (tgt := 1167) dL_law_755 (by decide) ?_
      exact kk _ _ _ _ _ _ hR4
set_option maxHeartbeats 4000000 in
set_option maxRecDepth 20000 in
theorem sg_next {fx : px_F} {Q : px_Q} {al : Nat → Nat} {n : Nat} {g : Nat → px_O} {c0 : Int32} {i uc us : Nat} {x5 x6 : Value} (h : REL al n g c0) (hN : fx.2.2.2.1 ≤ 3072) (hi : i + 6 ≤ fx.2.2.2.1) (hu : uc + 8 ≤ 601024) (hw : us + 373 ≤ 7293034) (kk : ∀ (al2 : Nat → Nat) (n2 : Nat) (g2 : Nat → px_O) (c2 : Int32) (y5 y6 : Value), REL al2 n2 g2 c2 → LWP fx Q al2 n2 g2 1167 i y5 y6 (uc + px_mc px_tb 155 + px_mc px_tb 139 + px_mc px_tb 90) (us + px_ms px_tb 155 + px_ms px_tb 139 + px_ms px_tb 90)) : LWP fx Q al n g 758 i x5 x6 uc us := by
  have hn := h.n
  obtain ⟨⟨fo, ho⟩, ⟨f0, hx⟩, ⟨f36, hm36⟩⟩ := h.o
  show pg px_tb fx (px_body pm_L_law) (pm px_tb fx 1735) Q al n g 758 [.ref fx.2.2.1, .ref (al 0), .ref (al 36), .ref (al 58), .int (nI i), x5, x6] [] uc us
  refine pg_aload_n dL_law_758 rfl rfl ?_
  refine pg_aload_n dL_law_759 rfl rfl ?_
  refine pg_iload dL_law_760 rfl ?_
  refine pg_iconst dL_law_762 (show Int32.ofInt (1) = (1) by decide) ?_
  refine pg_iadd dL_law_763 ?_
  rw [show nI i + 1 = nI (i + 1) from nI_add i 1]
  refine pg_sld dL_law_764 (vp_in_nI (n := i + 1) (by omega) (by omega)) ?_
  rw [nI_clamp (show i + 1 < 2 ^ 31 by omega)]
  refine pg_aload_n dL_law_765 rfl rfl ?_
  refine pg_callS (pm_mono px_tb fx 1735) (As := [.ref (al 0), .int (fx.2.2.2.2 (i + 1)), .ref (al 58)]) dL_law_766 cl_L_112 rfl (Nat.le_of_ble_eq_true rfl) (show uc + 1 ≤ 601024 by omega) (show us + 6 ≤ 7293034 by omega) ?_
  refine pm_mono px_tb fx 1735 _ _ _ _ _ _ _ (fun o al1 n1 g1 hq => ?_) (pm_le' (wr_next h (fx.2.2.2.2 (i + 1))) (by decide))
  obtain ⟨hn1, ha1, c, w, rfl, ⟨fo1, hfo1, hfw⟩, ⟨f361, hm361⟩, hr⟩ := hq
  show pg px_tb fx (px_body pm_L_law) (pm px_tb fx 1735) Q al1 n1 g1 769 _ _ _ _
  rw [← ha1 0 (by omega), ← ha1 36 (by omega), ← ha1 58 (by omega)]
  refine pg_istore dL_law_769 (Nat.le_of_ble_eq_true rfl) ?_
  refine pg_aload_n dL_law_771 rfl rfl ?_
  refine pg_aload_n dL_law_772 rfl rfl ?_
  refine pg_iload dL_law_773 rfl ?_
  refine pg_iconst dL_law_775 (show Int32.ofInt (1) = (1) by decide) ?_
  refine pg_iadd dL_law_776 ?_
  rw [show nI i + 1 = nI (i + 1) from nI_add i 1]
  refine pg_sld dL_law_777 (vp_in_nI (n := i + 1) (by omega) (by omega)) ?_
  rw [nI_clamp (show i + 1 < 2 ^ 31 by omega)]
  refine pg_callV (pm_mono px_tb fx 1735) (j := 36) (As := [.int (fx.2.2.2.2 (i + 1))]) dL_law_778 cl_L_115 (by omega) hm361 rfl (Nat.le_of_ble_eq_true rfl) (show uc + 1 + 0 ≤ 601024 by omega) (show us + 6 + 0 ≤ 7293034 by omega) ?_
  refine pm_mono px_tb fx 1735 _ _ _ _ _ _ _ (fun o3 al3 n3 g3 hq3 => ?_) (pm_le' hr (by decide))
  obtain ⟨rfl, rfl, e58, b, rfl, hb, hR3⟩ := hq3
  obtain ⟨_, _, ⟨f363, hm363⟩⟩ := hR3.o
  show pg px_tb fx (px_body pm_L_law) (pm px_tb fx 1735) Q al3 n3 g3 781 _ _ _ _
  refine pg_istore dL_law_781 (Nat.le_of_ble_eq_true rfl) ?_
  refine pg_aload_n dL_law_783 rfl rfl ?_
  refine pg_callV (pm_mono px_tb fx 1735) (j := 36) (As := []) dL_law_784 cl_L_83 (by omega) hm363 rfl (Nat.le_of_ble_eq_true rfl) (show uc + 1 + 0 + 0 ≤ 601024 by omega) (show us + 6 + 0 + 0 ≤ 7293034 by omega) ?_
  refine pm_mono px_tb fx 1735 _ _ _ _ _ _ _ (fun o4 al4 n4 g4 hq4 => ?_) (pm_le' (op_thrown hR3) (by decide))
  obtain ⟨rfl, rfl, rfl, e584, hR4⟩ := hq4
  show pg px_tb fx (px_body pm_L_law) (pm px_tb fx 1735) Q al4 n4 g4 787 _ _ _ _
  refine pg_iload dL_law_787 rfl ?_
  refine pg_icmp_eq (tgt := 794) dL_law_789 (by decide) (fun c789 => ?_) (fun c789 => absurd rfl c789)
  refine pg_iload dL_law_794 rfl ?_
  refine pg_if_ne (tgt := 811) dL_law_796 (by decide) (fun c796 => ?_) (fun c796 => ?_)
  ·
    refine pg_goto (tgt := 1167) dL_law_811 (by decide) ?_
    exact kk _ _ _ _ _ _ hR4
  ·
    refine pg_aload_n dL_law_799 rfl rfl ?_
    refine pg_iconst dL_law_800 (show Int32.ofInt (0) = (0) by decide) ?_
    refine pg_lald (j := 58) dL_law_801 (by omega) ((e584.trans e58).trans hfo1) (vp_in_nI (n := 0) (by decide) (by decide)) ?_
    rw [show fo1 (Int32.toNatClampNeg 0) = cvI b from (hfw c796).trans (by rw [hb c796])]
    refine pg_iload dL_law_802 rfl ?_
    refine pg_i2l dL_law_804 ?_
    refine pg_lcmp dL_law_805 ?_
    refine pg_if_eq (tgt := 811) dL_law_806 (by decide) (fun c806 => ?_) (fun c806 => absurd (lg_self _) c806)
    refine pg_goto (tgt := 1167) dL_law_811 (by decide) ?_
    exact kk _ _ _ _ _ _ hR4
set_option maxHeartbeats 4000000 in
set_option maxRecDepth 20000 in
theorem sg_wish {fx : px_F} {Q : px_Q} {al : Nat → Nat} {n : Nat} {g : Nat → px_O} {c0 : Int32} {i uc us : Nat} {x5 x6 : Value} (h : REL al n g c0) (hN : fx.2.2.2.1 ≤ 3072) (hi : i + 6 ≤ fx.2.2.2.1) (hu : uc + 8 ≤ 601024) (hw : us + 373 ≤ 7293034) (kk : ∀ (al2 : Nat → Nat) (n2 : Nat) (g2 : Nat → px_O) (c2 : Int32) (y5 y6 : Value), REL al2 n2 g2 c2 → LWP fx Q al2 n2 g2 1167 i y5 y6 (uc + px_mc px_tb 156 + px_mc px_tb 140 + px_mc px_tb 90) (us + px_ms px_tb 156 + px_ms px_tb 140 + px_ms px_tb 90)) : LWP fx Q al n g 814 i x5 x6 uc us := by
  have hn := h.n
  obtain ⟨⟨fo, ho⟩, ⟨f0, hx⟩, ⟨f36, hm36⟩⟩ := h.o
  show pg px_tb fx (px_body pm_L_law) (pm px_tb fx 1735) Q al n g 814 [.ref fx.2.2.1, .ref (al 0), .ref (al 36), .ref (al 58), .int (nI i), x5, x6] [] uc us
  refine pg_aload_n dL_law_814 rfl rfl ?_
  refine pg_aload_n dL_law_815 rfl rfl ?_
  refine pg_iload dL_law_816 rfl ?_
  refine pg_iconst dL_law_818 (show Int32.ofInt (1) = (1) by decide) ?_
  refine pg_iadd dL_law_819 ?_
  rw [show nI i + 1 = nI (i + 1) from nI_add i 1]
  refine pg_sld dL_law_820 (vp_in_nI (n := i + 1) (by omega) (by omega)) ?_
  rw [nI_clamp (show i + 1 < 2 ^ 31 by omega)]
  refine pg_aload_n dL_law_821 rfl rfl ?_
  refine pg_iload dL_law_822 rfl ?_
  refine pg_iconst dL_law_824 (show Int32.ofInt (2) = (2) by decide) ?_
  refine pg_iadd dL_law_825 ?_
  rw [show nI i + 2 = nI (i + 2) from nI_add i 2]
  refine pg_sld dL_law_826 (vp_in_nI (n := i + 2) (by omega) (by omega)) ?_
  rw [nI_clamp (show i + 2 < 2 ^ 31 by omega)]
  refine pg_aload_n dL_law_827 rfl rfl ?_
  refine pg_callS (pm_mono px_tb fx 1735) (As := [.ref (al 0), .int (fx.2.2.2.2 (i + 1)), .int (fx.2.2.2.2 (i + 2)), .ref (al 58)]) dL_law_828 cl_L_116 rfl (Nat.le_of_ble_eq_true rfl) (show uc + 2 ≤ 601024 by omega) (show us + 12 ≤ 7293034 by omega) ?_
  refine pm_mono px_tb fx 1735 _ _ _ _ _ _ _ (fun o al1 n1 g1 hq => ?_) (pm_le' (wr_wish h (fx.2.2.2.2 (i + 1)) (fx.2.2.2.2 (i + 2))) (by decide))
  obtain ⟨hn1, ha1, c, w, rfl, ⟨fo1, hfo1, hfw⟩, ⟨f361, hm361⟩, hr⟩ := hq
  show pg px_tb fx (px_body pm_L_law) (pm px_tb fx 1735) Q al1 n1 g1 831 _ _ _ _
  rw [← ha1 0 (by omega), ← ha1 36 (by omega), ← ha1 58 (by omega)]
  refine pg_istore dL_law_831 (Nat.le_of_ble_eq_true rfl) ?_
  refine pg_aload_n dL_law_833 rfl rfl ?_
  refine pg_aload_n dL_law_834 rfl rfl ?_
  refine pg_iload dL_law_835 rfl ?_
  refine pg_iconst dL_law_837 (show Int32.ofInt (1) = (1) by decide) ?_
  refine pg_iadd dL_law_838 ?_
  rw [show nI i + 1 = nI (i + 1) from nI_add i 1]
  refine pg_sld dL_law_839 (vp_in_nI (n := i + 1) (by omega) (by omega)) ?_
  rw [nI_clamp (show i + 1 < 2 ^ 31 by omega)]
  refine pg_aload_n dL_law_840 rfl rfl ?_
  refine pg_iload dL_law_841 rfl ?_
  refine pg_iconst dL_law_843 (show Int32.ofInt (2) = (2) by decide) ?_
  refine pg_iadd dL_law_844 ?_
  rw [show nI i + 2 = nI (i + 2) from nI_add i 2]
  refine pg_sld dL_law_845 (vp_in_nI (n := i + 2) (by omega) (by omega)) ?_
  rw [nI_clamp (show i + 2 < 2 ^ 31 by omega)]
  refine pg_callV (pm_mono px_tb fx 1735) (j := 36) (As := [.int (fx.2.2.2.2 (i + 1)), .int (fx.2.2.2.2 (i + 2))]) dL_law_846 cl_L_118 (by omega) hm361 rfl (Nat.le_of_ble_eq_true rfl) (show uc + 2 + 0 ≤ 601024 by omega) (show us + 12 + 0 ≤ 7293034 by omega) ?_
  refine pm_mono px_tb fx 1735 _ _ _ _ _ _ _ (fun o3 al3 n3 g3 hq3 => ?_) (pm_le' hr (by decide))
  obtain ⟨rfl, rfl, e58, b, rfl, hb, hR3⟩ := hq3
  obtain ⟨_, _, ⟨f363, hm363⟩⟩ := hR3.o
  show pg px_tb fx (px_body pm_L_law) (pm px_tb fx 1735) Q al3 n3 g3 849 _ _ _ _
  refine pg_istore dL_law_849 (Nat.le_of_ble_eq_true rfl) ?_
  refine pg_aload_n dL_law_851 rfl rfl ?_
  refine pg_callV (pm_mono px_tb fx 1735) (j := 36) (As := []) dL_law_852 cl_L_83 (by omega) hm363 rfl (Nat.le_of_ble_eq_true rfl) (show uc + 2 + 0 + 0 ≤ 601024 by omega) (show us + 12 + 0 + 0 ≤ 7293034 by omega) ?_
  refine pm_mono px_tb fx 1735 _ _ _ _ _ _ _ (fun o4 al4 n4 g4 hq4 => ?_) (pm_le' (op_thrown hR3) (by decide))
  obtain ⟨rfl, rfl, rfl, e584, hR4⟩ := hq4
  show pg px_tb fx (px_body pm_L_law) (pm px_tb fx 1735) Q al4 n4 g4 855 _ _ _ _
  refine pg_iload dL_law_855 rfl ?_
  refine pg_icmp_eq (tgt := 862) dL_law_857 (by decide) (fun c857 => ?_) (fun c857 => absurd rfl c857)
  refine pg_iload dL_law_862 rfl ?_
  refine pg_if_ne (tgt := 879) dL_law_864 (by decide) (fun c864 => ?_) (fun c864 => ?_)
  ·
    refine pg_goto (tgt := 1167) dL_law_879 (by decide) ?_
    exact kk _ _ _ _ _ _ hR4
  ·
    refine pg_aload_n dL_law_867 rfl rfl ?_
    refine pg_iconst dL_law_868 (show Int32.ofInt (0) = (0) by decide) ?_
    refine pg_lald (j := 58) dL_law_869 (by omega) ((e584.trans e58).trans hfo1) (vp_in_nI (n := 0) (by decide) (by decide)) ?_
    rw [show fo1 (Int32.toNatClampNeg 0) = cvI b from (hfw c864).trans (by rw [hb c864])]
    refine pg_iload dL_law_870 rfl ?_
    refine pg_i2l dL_law_872 ?_
    refine pg_lcmp dL_law_873 ?_
    refine pg_if_eq (tgt := 879) dL_law_874 (by decide) (fun c874 => ?_) (fun c874 => absurd (lg_self _) c874)
    refine pg_goto (tgt := 1167) dL_law_879 (by decide) ?_
    exact kk _ _ _ _ _ _ hR4
set_option maxHeartbeats 4000000 in
set_option maxRecDepth 20000 in
theorem sg_look {fx : px_F} {Q : px_Q} {al : Nat → Nat} {n : Nat} {g : Nat → px_O} {c0 : Int32} {i uc us : Nat} {x5 x6 : Value} (h : REL al n g c0) (hN : fx.2.2.2.1 ≤ 3072) (hi : i + 6 ≤ fx.2.2.2.1) (hu : uc + 8 ≤ 601024) (hw : us + 373 ≤ 7293034) (kk : ∀ (al2 : Nat → Nat) (n2 : Nat) (g2 : Nat → px_O) (c2 : Int32) (y5 y6 : Value), REL al2 n2 g2 c2 → LWP fx Q al2 n2 g2 1167 i y5 y6 (uc + px_mc px_tb 157 + px_mc px_tb 141 + px_mc px_tb 90) (us + px_ms px_tb 157 + px_ms px_tb 141 + px_ms px_tb 90)) : LWP fx Q al n g 882 i x5 x6 uc us := by
  have hn := h.n
  obtain ⟨⟨fo, ho⟩, ⟨f0, hx⟩, ⟨f36, hm36⟩⟩ := h.o
  show pg px_tb fx (px_body pm_L_law) (pm px_tb fx 1735) Q al n g 882 [.ref fx.2.2.1, .ref (al 0), .ref (al 36), .ref (al 58), .int (nI i), x5, x6] [] uc us
  refine pg_aload_n dL_law_882 rfl rfl ?_
  refine pg_aload_n dL_law_883 rfl rfl ?_
  refine pg_iload dL_law_884 rfl ?_
  refine pg_iconst dL_law_886 (show Int32.ofInt (1) = (1) by decide) ?_
  refine pg_iadd dL_law_887 ?_
  rw [show nI i + 1 = nI (i + 1) from nI_add i 1]
  refine pg_sld dL_law_888 (vp_in_nI (n := i + 1) (by omega) (by omega)) ?_
  rw [nI_clamp (show i + 1 < 2 ^ 31 by omega)]
  refine pg_aload_n dL_law_889 rfl rfl ?_
  refine pg_iload dL_law_890 rfl ?_
  refine pg_iconst dL_law_892 (show Int32.ofInt (2) = (2) by decide) ?_
  refine pg_iadd dL_law_893 ?_
  rw [show nI i + 2 = nI (i + 2) from nI_add i 2]
  refine pg_sld dL_law_894 (vp_in_nI (n := i + 2) (by omega) (by omega)) ?_
  rw [nI_clamp (show i + 2 < 2 ^ 31 by omega)]
  refine pg_aload_n dL_law_895 rfl rfl ?_
  refine pg_callS (pm_mono px_tb fx 1735) (As := [.ref (al 0), .int (fx.2.2.2.2 (i + 1)), .int (fx.2.2.2.2 (i + 2)), .ref (al 58)]) dL_law_896 cl_L_119 rfl (Nat.le_of_ble_eq_true rfl) (show uc + 2 ≤ 601024 by omega) (show us + 12 ≤ 7293034 by omega) ?_
  refine pm_mono px_tb fx 1735 _ _ _ _ _ _ _ (fun o al1 n1 g1 hq => ?_) (pm_le' (wr_look h (fx.2.2.2.2 (i + 1)) (fx.2.2.2.2 (i + 2))) (by decide))
  obtain ⟨hn1, ha1, c, w, rfl, ⟨fo1, hfo1, hfw⟩, ⟨f361, hm361⟩, hr⟩ := hq
  show pg px_tb fx (px_body pm_L_law) (pm px_tb fx 1735) Q al1 n1 g1 899 _ _ _ _
  rw [← ha1 0 (by omega), ← ha1 36 (by omega), ← ha1 58 (by omega)]
  refine pg_istore dL_law_899 (Nat.le_of_ble_eq_true rfl) ?_
  refine pg_aload_n dL_law_901 rfl rfl ?_
  refine pg_aload_n dL_law_902 rfl rfl ?_
  refine pg_iload dL_law_903 rfl ?_
  refine pg_iconst dL_law_905 (show Int32.ofInt (1) = (1) by decide) ?_
  refine pg_iadd dL_law_906 ?_
  rw [show nI i + 1 = nI (i + 1) from nI_add i 1]
  refine pg_sld dL_law_907 (vp_in_nI (n := i + 1) (by omega) (by omega)) ?_
  rw [nI_clamp (show i + 1 < 2 ^ 31 by omega)]
  refine pg_aload_n dL_law_908 rfl rfl ?_
  refine pg_iload dL_law_909 rfl ?_
  refine pg_iconst dL_law_911 (show Int32.ofInt (2) = (2) by decide) ?_
  refine pg_iadd dL_law_912 ?_
  rw [show nI i + 2 = nI (i + 2) from nI_add i 2]
  refine pg_sld dL_law_913 (vp_in_nI (n := i + 2) (by omega) (by omega)) ?_
  rw [nI_clamp (show i + 2 < 2 ^ 31 by omega)]
  refine pg_callV (pm_mono px_tb fx 1735) (j := 36) (As := [.int (fx.2.2.2.2 (i + 1)), .int (fx.2.2.2.2 (i + 2))]) dL_law_914 cl_L_121 (by omega) hm361 rfl (Nat.le_of_ble_eq_true rfl) (show uc + 2 + 0 ≤ 601024 by omega) (show us + 12 + 0 ≤ 7293034 by omega) ?_
  refine pm_mono px_tb fx 1735 _ _ _ _ _ _ _ (fun o3 al3 n3 g3 hq3 => ?_) (pm_le' hr (by decide))
  obtain ⟨rfl, rfl, e58, b, rfl, hb, hR3⟩ := hq3
  obtain ⟨_, _, ⟨f363, hm363⟩⟩ := hR3.o
  show pg px_tb fx (px_body pm_L_law) (pm px_tb fx 1735) Q al3 n3 g3 917 _ _ _ _
  refine pg_istore dL_law_917 (Nat.le_of_ble_eq_true rfl) ?_
  refine pg_aload_n dL_law_919 rfl rfl ?_
  refine pg_callV (pm_mono px_tb fx 1735) (j := 36) (As := []) dL_law_920 cl_L_83 (by omega) hm363 rfl (Nat.le_of_ble_eq_true rfl) (show uc + 2 + 0 + 0 ≤ 601024 by omega) (show us + 12 + 0 + 0 ≤ 7293034 by omega) ?_
  refine pm_mono px_tb fx 1735 _ _ _ _ _ _ _ (fun o4 al4 n4 g4 hq4 => ?_) (pm_le' (op_thrown hR3) (by decide))
  obtain ⟨rfl, rfl, rfl, e584, hR4⟩ := hq4
  show pg px_tb fx (px_body pm_L_law) (pm px_tb fx 1735) Q al4 n4 g4 923 _ _ _ _
  refine pg_iload dL_law_923 rfl ?_
  refine pg_icmp_eq (tgt := 930) dL_law_925 (by decide) (fun c925 => ?_) (fun c925 => absurd rfl c925)
  refine pg_iload dL_law_930 rfl ?_
  refine pg_if_ne (tgt := 947) dL_law_932 (by decide) (fun c932 => ?_) (fun c932 => ?_)
  ·
    refine pg_goto (tgt := 1167) dL_law_947 (by decide) ?_
    exact kk _ _ _ _ _ _ hR4
  ·
    refine pg_aload_n dL_law_935 rfl rfl ?_
    refine pg_iconst dL_law_936 (show Int32.ofInt (0) = (0) by decide) ?_
    refine pg_lald (j := 58) dL_law_937 (by omega) ((e584.trans e58).trans hfo1) (vp_in_nI (n := 0) (by decide) (by decide)) ?_
    rw [show fo1 (Int32.toNatClampNeg 0) = cvI b from (hfw c932).trans (by rw [hb c932])]
    refine pg_iload dL_law_938 rfl ?_
    refine pg_i2l dL_law_940 ?_
    refine pg_lcmp dL_law_941 ?_
    refine pg_if_eq (tgt := 947) dL_law_942 (by decide) (fun c942 => ?_) (fun c942 => absurd (lg_self _) c942)
    refine pg_goto (tgt := 1167) dL_law_947 (by decide) ?_
    exact kk _ _ _ _ _ _ hR4
set_option maxHeartbeats 4000000 in
set_option maxRecDepth 20000 in
theorem sg_hint {fx : px_F} {Q : px_Q} {al : Nat → Nat} {n : Nat} {g : Nat → px_O} {c0 : Int32} {i uc us : Nat} {x5 x6 : Value} (h : REL al n g c0) (hN : fx.2.2.2.1 ≤ 3072) (hi : i + 6 ≤ fx.2.2.2.1) (hu : uc + 8 ≤ 601024) (hw : us + 373 ≤ 7293034) (kk : ∀ (al2 : Nat → Nat) (n2 : Nat) (g2 : Nat → px_O) (c2 : Int32) (y5 y6 : Value), REL al2 n2 g2 c2 → LWP fx Q al2 n2 g2 1167 i y5 y6 (uc + px_mc px_tb 158 + px_mc px_tb 145 + px_mc px_tb 90) (us + px_ms px_tb 158 + px_ms px_tb 145 + px_ms px_tb 90)) : LWP fx Q al n g 950 i x5 x6 uc us := by
  have hn := h.n
  obtain ⟨⟨fo, ho⟩, ⟨f0, hx⟩, ⟨f36, hm36⟩⟩ := h.o
  show pg px_tb fx (px_body pm_L_law) (pm px_tb fx 1735) Q al n g 950 [.ref fx.2.2.1, .ref (al 0), .ref (al 36), .ref (al 58), .int (nI i), x5, x6] [] uc us
  refine pg_aload_n dL_law_950 rfl rfl ?_
  refine pg_aload_n dL_law_951 rfl rfl ?_
  refine pg_iload dL_law_952 rfl ?_
  refine pg_iconst dL_law_954 (show Int32.ofInt (1) = (1) by decide) ?_
  refine pg_iadd dL_law_955 ?_
  rw [show nI i + 1 = nI (i + 1) from nI_add i 1]
  refine pg_sld dL_law_956 (vp_in_nI (n := i + 1) (by omega) (by omega)) ?_
  rw [nI_clamp (show i + 1 < 2 ^ 31 by omega)]
  refine pg_aload_n dL_law_957 rfl rfl ?_
  refine pg_iload dL_law_958 rfl ?_
  refine pg_iconst dL_law_960 (show Int32.ofInt (2) = (2) by decide) ?_
  refine pg_iadd dL_law_961 ?_
  rw [show nI i + 2 = nI (i + 2) from nI_add i 2]
  refine pg_sld dL_law_962 (vp_in_nI (n := i + 2) (by omega) (by omega)) ?_
  rw [nI_clamp (show i + 2 < 2 ^ 31 by omega)]
  refine pg_aload_n dL_law_963 rfl rfl ?_
  refine pg_callS (pm_mono px_tb fx 1735) (As := [.ref (al 0), .int (fx.2.2.2.2 (i + 1)), .int (fx.2.2.2.2 (i + 2)), .ref (al 58)]) dL_law_964 cl_L_122 rfl (Nat.le_of_ble_eq_true rfl) (show uc + 3 ≤ 601024 by omega) (show us + 18 ≤ 7293034 by omega) ?_
  refine pm_mono px_tb fx 1735 _ _ _ _ _ _ _ (fun o al1 n1 g1 hq => ?_) (pm_le' (wr_hint h (fx.2.2.2.2 (i + 1)) (fx.2.2.2.2 (i + 2))) (by decide))
  obtain ⟨hn1, ha1, c, w, rfl, ⟨fo1, hfo1, hfw⟩, ⟨f361, hm361⟩, hr⟩ := hq
  show pg px_tb fx (px_body pm_L_law) (pm px_tb fx 1735) Q al1 n1 g1 967 _ _ _ _
  rw [← ha1 0 (by omega), ← ha1 36 (by omega), ← ha1 58 (by omega)]
  refine pg_istore dL_law_967 (Nat.le_of_ble_eq_true rfl) ?_
  refine pg_aload_n dL_law_969 rfl rfl ?_
  refine pg_aload_n dL_law_970 rfl rfl ?_
  refine pg_iload dL_law_971 rfl ?_
  refine pg_iconst dL_law_973 (show Int32.ofInt (1) = (1) by decide) ?_
  refine pg_iadd dL_law_974 ?_
  rw [show nI i + 1 = nI (i + 1) from nI_add i 1]
  refine pg_sld dL_law_975 (vp_in_nI (n := i + 1) (by omega) (by omega)) ?_
  rw [nI_clamp (show i + 1 < 2 ^ 31 by omega)]
  refine pg_aload_n dL_law_976 rfl rfl ?_
  refine pg_iload dL_law_977 rfl ?_
  refine pg_iconst dL_law_979 (show Int32.ofInt (2) = (2) by decide) ?_
  refine pg_iadd dL_law_980 ?_
  rw [show nI i + 2 = nI (i + 2) from nI_add i 2]
  refine pg_sld dL_law_981 (vp_in_nI (n := i + 2) (by omega) (by omega)) ?_
  rw [nI_clamp (show i + 2 < 2 ^ 31 by omega)]
  refine pg_callV (pm_mono px_tb fx 1735) (j := 36) (As := [.int (fx.2.2.2.2 (i + 1)), .int (fx.2.2.2.2 (i + 2))]) dL_law_982 cl_L_124 (by omega) hm361 rfl (Nat.le_of_ble_eq_true rfl) (show uc + 3 + 0 ≤ 601024 by omega) (show us + 18 + 0 ≤ 7293034 by omega) ?_
  refine pm_mono px_tb fx 1735 _ _ _ _ _ _ _ (fun o3 al3 n3 g3 hq3 => ?_) (pm_le' hr (by decide))
  obtain ⟨rfl, rfl, e58, b, rfl, hb, hR3⟩ := hq3
  obtain ⟨_, _, ⟨f363, hm363⟩⟩ := hR3.o
  show pg px_tb fx (px_body pm_L_law) (pm px_tb fx 1735) Q al3 n3 g3 985 _ _ _ _
  refine pg_istore dL_law_985 (Nat.le_of_ble_eq_true rfl) ?_
  refine pg_aload_n dL_law_987 rfl rfl ?_
  refine pg_callV (pm_mono px_tb fx 1735) (j := 36) (As := []) dL_law_988 cl_L_83 (by omega) hm363 rfl (Nat.le_of_ble_eq_true rfl) (show uc + 3 + 0 + 0 ≤ 601024 by omega) (show us + 18 + 0 + 0 ≤ 7293034 by omega) ?_
  refine pm_mono px_tb fx 1735 _ _ _ _ _ _ _ (fun o4 al4 n4 g4 hq4 => ?_) (pm_le' (op_thrown hR3) (by decide))
  obtain ⟨rfl, rfl, rfl, e584, hR4⟩ := hq4
  show pg px_tb fx (px_body pm_L_law) (pm px_tb fx 1735) Q al4 n4 g4 991 _ _ _ _
  refine pg_iload dL_law_991 rfl ?_
  refine pg_icmp_eq (tgt := 998) dL_law_993 (by decide) (fun c993 => ?_) (fun c993 => absurd rfl c993)
  refine pg_iload dL_law_998 rfl ?_
  refine pg_if_ne (tgt := 1015) dL_law_1000 (by decide) (fun c1000 => ?_) (fun c1000 => ?_)
  ·
    refine pg_goto (tgt := 1167) dL_law_1015 (by decide) ?_
    exact kk _ _ _ _ _ _ hR4
  ·
    refine pg_aload_n dL_law_1003 rfl rfl ?_
    refine pg_iconst dL_law_1004 (show Int32.ofInt (0) = (0) by decide) ?_
    refine pg_lald (j := 58) dL_law_1005 (by omega) ((e584.trans e58).trans hfo1) (vp_in_nI (n := 0) (by decide) (by decide)) ?_
    rw [show fo1 (Int32.toNatClampNeg 0) = cvI b from (hfw c1000).trans (by rw [hb c1000])]
    refine pg_iload dL_law_1006 rfl ?_
    refine pg_i2l dL_law_1008 ?_
    refine pg_lcmp dL_law_1009 ?_
    refine pg_if_eq (tgt := 1015) dL_law_1010 (by decide) (fun c1010 => ?_) (fun c1010 => absurd (lg_self _) c1010)
    refine pg_goto (tgt := 1167) dL_law_1015 (by decide) ?_
    exact kk _ _ _ _ _ _ hR4
set_option maxHeartbeats 4000000 in
set_option maxRecDepth 20000 in
theorem sg_alike {fx : px_F} {Q : px_Q} {al : Nat → Nat} {n : Nat} {g : Nat → px_O} {c0 : Int32} {i uc us : Nat} {x5 x6 : Value} (h : REL al n g c0) (hN : fx.2.2.2.1 ≤ 3072) (hi : i + 6 ≤ fx.2.2.2.1) (hu : uc + 8 ≤ 601024) (hw : us + 373 ≤ 7293034) (kk : ∀ (al2 : Nat → Nat) (n2 : Nat) (g2 : Nat → px_O) (c2 : Int32) (y5 y6 : Value), REL al2 n2 g2 c2 → LWP fx Q al2 n2 g2 1167 i y5 y6 (uc + px_mc px_tb 159 + px_mc px_tb 146 + px_mc px_tb 90) (us + px_ms px_tb 159 + px_ms px_tb 146 + px_ms px_tb 90)) : LWP fx Q al n g 1018 i x5 x6 uc us := by
  have hn := h.n
  obtain ⟨⟨fo, ho⟩, ⟨f0, hx⟩, ⟨f36, hm36⟩⟩ := h.o
  show pg px_tb fx (px_body pm_L_law) (pm px_tb fx 1735) Q al n g 1018 [.ref fx.2.2.1, .ref (al 0), .ref (al 36), .ref (al 58), .int (nI i), x5, x6] [] uc us
  refine pg_aload_n dL_law_1018 rfl rfl ?_
  refine pg_aload_n dL_law_1019 rfl rfl ?_
  refine pg_iload dL_law_1020 rfl ?_
  refine pg_iconst dL_law_1022 (show Int32.ofInt (1) = (1) by decide) ?_
  refine pg_iadd dL_law_1023 ?_
  rw [show nI i + 1 = nI (i + 1) from nI_add i 1]
  refine pg_sld dL_law_1024 (vp_in_nI (n := i + 1) (by omega) (by omega)) ?_
  rw [nI_clamp (show i + 1 < 2 ^ 31 by omega)]
  refine pg_aload_n dL_law_1025 rfl rfl ?_
  refine pg_iload dL_law_1026 rfl ?_
  refine pg_iconst dL_law_1028 (show Int32.ofInt (2) = (2) by decide) ?_
  refine pg_iadd dL_law_1029 ?_
  rw [show nI i + 2 = nI (i + 2) from nI_add i 2]
  refine pg_sld dL_law_1030 (vp_in_nI (n := i + 2) (by omega) (by omega)) ?_
  rw [nI_clamp (show i + 2 < 2 ^ 31 by omega)]
  refine pg_aload_n dL_law_1031 rfl rfl ?_
  refine pg_iload dL_law_1032 rfl ?_
  refine pg_iconst dL_law_1034 (show Int32.ofInt (3) = (3) by decide) ?_
  refine pg_iadd dL_law_1035 ?_
  rw [show nI i + 3 = nI (i + 3) from nI_add i 3]
  refine pg_sld dL_law_1036 (vp_in_nI (n := i + 3) (by omega) (by omega)) ?_
  rw [nI_clamp (show i + 3 < 2 ^ 31 by omega)]
  refine pg_aload_n dL_law_1037 rfl rfl ?_
  refine pg_iload dL_law_1038 rfl ?_
  refine pg_iconst dL_law_1040 (show Int32.ofInt (4) = (4) by decide) ?_
  refine pg_iadd dL_law_1041 ?_
  rw [show nI i + 4 = nI (i + 4) from nI_add i 4]
  refine pg_sld dL_law_1042 (vp_in_nI (n := i + 4) (by omega) (by omega)) ?_
  rw [nI_clamp (show i + 4 < 2 ^ 31 by omega)]
  refine pg_aload_n dL_law_1043 rfl rfl ?_
  refine pg_callS (pm_mono px_tb fx 1735) (As := [.ref (al 0), .int (fx.2.2.2.2 (i + 1)), .int (fx.2.2.2.2 (i + 2)), .int (fx.2.2.2.2 (i + 3)), .int (fx.2.2.2.2 (i + 4)), .ref (al 58)]) dL_law_1044 cl_L_125 rfl (Nat.le_of_ble_eq_true rfl) (show uc + 3 ≤ 601024 by omega) (show us + 18 ≤ 7293034 by omega) ?_
  refine pm_mono px_tb fx 1735 _ _ _ _ _ _ _ (fun o al1 n1 g1 hq => ?_) (pm_le' (wr_alike h (fx.2.2.2.2 (i + 1)) (fx.2.2.2.2 (i + 2)) (fx.2.2.2.2 (i + 3)) (fx.2.2.2.2 (i + 4))) (by decide))
  obtain ⟨hn1, ha1, c, w, rfl, ⟨fo1, hfo1, hfw⟩, ⟨f361, hm361⟩, hr⟩ := hq
  show pg px_tb fx (px_body pm_L_law) (pm px_tb fx 1735) Q al1 n1 g1 1047 _ _ _ _
  rw [← ha1 0 (by omega), ← ha1 36 (by omega), ← ha1 58 (by omega)]
  refine pg_istore dL_law_1047 (Nat.le_of_ble_eq_true rfl) ?_
  refine pg_aload_n dL_law_1049 rfl rfl ?_
  refine pg_aload_n dL_law_1050 rfl rfl ?_
  refine pg_iload dL_law_1051 rfl ?_
  refine pg_iconst dL_law_1053 (show Int32.ofInt (1) = (1) by decide) ?_
  refine pg_iadd dL_law_1054 ?_
  rw [show nI i + 1 = nI (i + 1) from nI_add i 1]
  refine pg_sld dL_law_1055 (vp_in_nI (n := i + 1) (by omega) (by omega)) ?_
  rw [nI_clamp (show i + 1 < 2 ^ 31 by omega)]
  refine pg_aload_n dL_law_1056 rfl rfl ?_
  refine pg_iload dL_law_1057 rfl ?_
  refine pg_iconst dL_law_1059 (show Int32.ofInt (2) = (2) by decide) ?_
  refine pg_iadd dL_law_1060 ?_
  rw [show nI i + 2 = nI (i + 2) from nI_add i 2]
  refine pg_sld dL_law_1061 (vp_in_nI (n := i + 2) (by omega) (by omega)) ?_
  rw [nI_clamp (show i + 2 < 2 ^ 31 by omega)]
  refine pg_aload_n dL_law_1062 rfl rfl ?_
  refine pg_iload dL_law_1063 rfl ?_
  refine pg_iconst dL_law_1065 (show Int32.ofInt (3) = (3) by decide) ?_
  refine pg_iadd dL_law_1066 ?_
  rw [show nI i + 3 = nI (i + 3) from nI_add i 3]
  refine pg_sld dL_law_1067 (vp_in_nI (n := i + 3) (by omega) (by omega)) ?_
  rw [nI_clamp (show i + 3 < 2 ^ 31 by omega)]
  refine pg_aload_n dL_law_1068 rfl rfl ?_
  refine pg_iload dL_law_1069 rfl ?_
  refine pg_iconst dL_law_1071 (show Int32.ofInt (4) = (4) by decide) ?_
  refine pg_iadd dL_law_1072 ?_
  rw [show nI i + 4 = nI (i + 4) from nI_add i 4]
  refine pg_sld dL_law_1073 (vp_in_nI (n := i + 4) (by omega) (by omega)) ?_
  rw [nI_clamp (show i + 4 < 2 ^ 31 by omega)]
  refine pg_callV (pm_mono px_tb fx 1735) (j := 36) (As := [.int (fx.2.2.2.2 (i + 1)), .int (fx.2.2.2.2 (i + 2)), .int (fx.2.2.2.2 (i + 3)), .int (fx.2.2.2.2 (i + 4))]) dL_law_1074 cl_L_127 (by omega) hm361 rfl (Nat.le_of_ble_eq_true rfl) (show uc + 3 + 0 ≤ 601024 by omega) (show us + 18 + 0 ≤ 7293034 by omega) ?_
  refine pm_mono px_tb fx 1735 _ _ _ _ _ _ _ (fun o3 al3 n3 g3 hq3 => ?_) (pm_le' hr (by decide))
  obtain ⟨rfl, rfl, e58, b, rfl, hb, hR3⟩ := hq3
  obtain ⟨_, _, ⟨f363, hm363⟩⟩ := hR3.o
  show pg px_tb fx (px_body pm_L_law) (pm px_tb fx 1735) Q al3 n3 g3 1077 _ _ _ _
  refine pg_istore dL_law_1077 (Nat.le_of_ble_eq_true rfl) ?_
  refine pg_aload_n dL_law_1079 rfl rfl ?_
  refine pg_callV (pm_mono px_tb fx 1735) (j := 36) (As := []) dL_law_1080 cl_L_83 (by omega) hm363 rfl (Nat.le_of_ble_eq_true rfl) (show uc + 3 + 0 + 0 ≤ 601024 by omega) (show us + 18 + 0 + 0 ≤ 7293034 by omega) ?_
  refine pm_mono px_tb fx 1735 _ _ _ _ _ _ _ (fun o4 al4 n4 g4 hq4 => ?_) (pm_le' (op_thrown hR3) (by decide))
  obtain ⟨rfl, rfl, rfl, e584, hR4⟩ := hq4
  show pg px_tb fx (px_body pm_L_law) (pm px_tb fx 1735) Q al4 n4 g4 1083 _ _ _ _
  refine pg_iload dL_law_1083 rfl ?_
  refine pg_icmp_eq (tgt := 1090) dL_law_1085 (by decide) (fun c1085 => ?_) (fun c1085 => absurd rfl c1085)
  refine pg_iload dL_law_1090 rfl ?_
  refine pg_if_ne (tgt := 1114) dL_law_1092 (by decide) (fun c1092 => ?_) (fun c1092 => ?_)
  ·
    refine pg_goto (tgt := 1167) dL_law_1114 (by decide) ?_
    exact kk _ _ _ _ _ _ hR4
  ·
    refine pg_aload_n dL_law_1095 rfl rfl ?_
    refine pg_iconst dL_law_1096 (show Int32.ofInt (0) = (0) by decide) ?_
    refine pg_lald (j := 58) dL_law_1097 (by omega) ((e584.trans e58).trans hfo1) (vp_in_nI (n := 0) (by decide) (by decide)) ?_
    rw [show fo1 (Int32.toNatClampNeg 0) = cvB b from (hfw c1092).trans (by rw [hb c1092])]
    refine pg_iload dL_law_1098 rfl ?_
    refine pg_if_eq (tgt := 1107) dL_law_1100 (by decide) (fun c1100 => ?_) (fun c1100 => ?_)
    ·
      refine pg_lconst dL_law_1107 rfl ?_
      refine pg_lcmp dL_law_1108 ?_
      refine pg_if_eq (tgt := 1114) dL_law_1109 (by decide) (fun c1109 => ?_) (fun c1109 => absurd (by unfold cvB; rw [if_pos c1100]; exact lg_self _) c1109)
      refine pg_goto (tgt := 1167) dL_law_1114 (by decide) ?_
      exact kk _ _ _ _ _ _ hR4
    ·
      refine pg_lconst dL_law_1103 rfl ?_
      refine pg_goto (tgt := 1108) dL_law_1104 (by decide) ?_
      refine pg_lcmp dL_law_1108 ?_
      refine pg_if_eq (tgt := 1114) dL_law_1109 (by decide) (fun c1109 => ?_) (fun c1109 => absurd (by unfold cvB; rw [if_neg c1100]; exact lg_self _) c1109)
      refine pg_goto (tgt := 1167) dL_law_1114 (by decide) ?_
      exact kk _ _ _ _ _ _ hR4
set_option maxHeartbeats 4000000 in
set_option maxRecDepth 20000 in
theorem sg_token {fx : px_F} {Q : px_Q} {al : Nat → Nat} {n : Nat} {g : Nat → px_O} {c0 : Int32} {i uc us : Nat} {x5 x6 : Value} (h : REL al n g c0) (hN : fx.2.2.2.1 ≤ 3072) (hi : i + 6 ≤ fx.2.2.2.1) (hu : uc + 8 ≤ 601024) (hw : us + 373 ≤ 7293034) (kk : ∀ (al2 : Nat → Nat) (n2 : Nat) (g2 : Nat → px_O) (c2 : Int32) (y5 y6 : Value), REL al2 n2 g2 c2 → LWP fx Q al2 n2 g2 1167 i y5 y6 (uc + px_mc px_tb 77 + px_mc px_tb 115) (us + px_ms px_tb 77 + px_ms px_tb 115)) : LWP fx Q al n g 1117 i x5 x6 uc us := by
  have hn := h.n
  obtain ⟨⟨fo, ho⟩, ⟨f0, hx⟩, ⟨f36, hm36⟩⟩ := h.o
  show pg px_tb fx (px_body pm_L_law) (pm px_tb fx 1735) Q al n g 1117 [.ref fx.2.2.1, .ref (al 0), .ref (al 36), .ref (al 58), .int (nI i), x5, x6] [] uc us
  refine pg_aload_n dL_law_1117 rfl rfl ?_
  refine pg_aload_n dL_law_1118 rfl rfl ?_
  refine pg_iload dL_law_1119 rfl ?_
  refine pg_iconst dL_law_1121 (show Int32.ofInt (1) = (1) by decide) ?_
  refine pg_iadd dL_law_1122 ?_
  rw [show nI i + 1 = nI (i + 1) from nI_add i 1]
  refine pg_sld dL_law_1123 (vp_in_nI (n := i + 1) (by omega) (by omega)) ?_
  rw [nI_clamp (show i + 1 < 2 ^ 31 by omega)]
  refine pg_callV (pm_mono px_tb fx 1735) (j := 0) (As := [.int (fx.2.2.2.2 (i + 1))]) dL_law_1124 cl_L_128 (by omega) hx rfl (Nat.le_of_ble_eq_true rfl) (show uc + 0 ≤ 601024 by omega) (show us + 0 ≤ 7293034 by omega) ?_
  refine pm_mono px_tb fx 1735 _ _ _ _ _ _ _ (fun o al1 n1 g1 hq => ?_) (pm_le' (op_token h (fx.2.2.2.2 (i + 1))) (by decide))
  obtain ⟨hn1, ha1, h58, h36, w, c, ho1, hr⟩ := hq
  rcases ho1 with ⟨rfl, rfl⟩ | ⟨E, rfl, hc, hc0⟩
  rotate_left
  · exact absurd (show c = 0 from hc) hc0
  show pg px_tb fx (px_body pm_L_law) (pm px_tb fx 1735) Q al1 n1 g1 1127 _ _ _ _
  rw [← ha1 0 (by omega), ← ha1 36 (by omega), ← ha1 58 (by omega)]
  refine pg_aload_n dL_law_1127 rfl rfl ?_
  refine pg_aload_n dL_law_1128 rfl rfl ?_
  refine pg_iload dL_law_1129 rfl ?_
  refine pg_iconst dL_law_1131 (show Int32.ofInt (1) = (1) by decide) ?_
  refine pg_iadd dL_law_1132 ?_
  rw [show nI i + 1 = nI (i + 1) from nI_add i 1]
  refine pg_sld dL_law_1133 (vp_in_nI (n := i + 1) (by omega) (by omega)) ?_
  rw [nI_clamp (show i + 1 < 2 ^ 31 by omega)]
  refine pg_callV (pm_mono px_tb fx 1735) (j := 36) (As := [.int (fx.2.2.2.2 (i + 1))]) dL_law_1134 cl_L_131 (by omega) (h36.trans hm36) rfl (Nat.le_of_ble_eq_true rfl) (show uc + 0 + 0 ≤ 601024 by omega) (show us + 0 + 0 ≤ 7293034 by omega) ?_
  refine pm_mono px_tb fx 1735 _ _ _ _ _ _ _ (fun o3 al3 n3 g3 hq3 => ?_) (pm_le' (hr g1 (fun _ _ => rfl) ⟨fo, h58.trans ho⟩) (by decide))
  obtain ⟨rfl, rfl, e58, b, rfl, hb, hR3⟩ := hq3
  obtain rfl := hb rfl
  show pg px_tb fx (px_body pm_L_law) (pm px_tb fx 1735) Q al3 n3 g3 1137 _ _ _ _
  refine pg_icmp_eq (tgt := 1167) dL_law_1137 (by decide) (fun c1137 => ?_) (fun c1137 => absurd rfl c1137)
  exact kk _ _ _ _ _ _ hR3
set_option maxHeartbeats 4000000 in
set_option maxRecDepth 20000 in
theorem sg_count {fx : px_F} {Q : px_Q} {al : Nat → Nat} {n : Nat} {g : Nat → px_O} {c0 : Int32} {i uc us : Nat} {x5 x6 : Value} (h : REL al n g c0) (hN : fx.2.2.2.1 ≤ 3072) (hi : i + 6 ≤ fx.2.2.2.1) (hu : uc + 8 ≤ 601024) (hw : us + 373 ≤ 7293034) (kk : ∀ (al2 : Nat → Nat) (n2 : Nat) (g2 : Nat → px_O) (c2 : Int32) (y5 y6 : Value), REL al2 n2 g2 c2 → LWP fx Q al2 n2 g2 1167 i y5 y6 (uc + px_mc px_tb 78 + px_mc px_tb 147) (us + px_ms px_tb 78 + px_ms px_tb 147)) : LWP fx Q al n g 1142 i x5 x6 uc us := by
  have hn := h.n
  obtain ⟨⟨fo, ho⟩, ⟨f0, hx⟩, ⟨f36, hm36⟩⟩ := h.o
  show pg px_tb fx (px_body pm_L_law) (pm px_tb fx 1735) Q al n g 1142 [.ref fx.2.2.1, .ref (al 0), .ref (al 36), .ref (al 58), .int (nI i), x5, x6] [] uc us
  refine pg_aload_n dL_law_1142 rfl rfl ?_
  refine pg_aload_n dL_law_1143 rfl rfl ?_
  refine pg_iload dL_law_1144 rfl ?_
  refine pg_iconst dL_law_1146 (show Int32.ofInt (1) = (1) by decide) ?_
  refine pg_iadd dL_law_1147 ?_
  rw [show nI i + 1 = nI (i + 1) from nI_add i 1]
  refine pg_sld dL_law_1148 (vp_in_nI (n := i + 1) (by omega) (by omega)) ?_
  rw [nI_clamp (show i + 1 < 2 ^ 31 by omega)]
  refine pg_callV (pm_mono px_tb fx 1735) (j := 0) (As := [.int (fx.2.2.2.2 (i + 1))]) dL_law_1149 cl_L_132 (by omega) hx rfl (Nat.le_of_ble_eq_true rfl) (show uc + 0 ≤ 601024 by omega) (show us + 0 ≤ 7293034 by omega) ?_
  refine pm_mono px_tb fx 1735 _ _ _ _ _ _ _ (fun o al1 n1 g1 hq => ?_) (pm_le' (op_count h (fx.2.2.2.2 (i + 1))) (by decide))
  obtain ⟨hn1, ha1, h58, h36, w, c, ho1, hr⟩ := hq
  rcases ho1 with ⟨rfl, rfl⟩ | ⟨E, rfl, hc, hc0⟩
  rotate_left
  · exact absurd (show c = 0 from hc) hc0
  show pg px_tb fx (px_body pm_L_law) (pm px_tb fx 1735) Q al1 n1 g1 1152 _ _ _ _
  rw [← ha1 0 (by omega), ← ha1 36 (by omega), ← ha1 58 (by omega)]
  refine pg_aload_n dL_law_1152 rfl rfl ?_
  refine pg_aload_n dL_law_1153 rfl rfl ?_
  refine pg_iload dL_law_1154 rfl ?_
  refine pg_iconst dL_law_1156 (show Int32.ofInt (1) = (1) by decide) ?_
  refine pg_iadd dL_law_1157 ?_
  rw [show nI i + 1 = nI (i + 1) from nI_add i 1]
  refine pg_sld dL_law_1158 (vp_in_nI (n := i + 1) (by omega) (by omega)) ?_
  rw [nI_clamp (show i + 1 < 2 ^ 31 by omega)]
  refine pg_callV (pm_mono px_tb fx 1735) (j := 36) (As := [.int (fx.2.2.2.2 (i + 1))]) dL_law_1159 cl_L_135 (by omega) (h36.trans hm36) rfl (Nat.le_of_ble_eq_true rfl) (show uc + 0 + 0 ≤ 601024 by omega) (show us + 0 + 0 ≤ 7293034 by omega) ?_
  refine pm_mono px_tb fx 1735 _ _ _ _ _ _ _ (fun o3 al3 n3 g3 hq3 => ?_) (pm_le' (hr g1 (fun _ _ => rfl) ⟨fo, h58.trans ho⟩) (by decide))
  obtain ⟨rfl, rfl, e58, b, rfl, hb, hR3⟩ := hq3
  obtain rfl := hb rfl
  show pg px_tb fx (px_body pm_L_law) (pm px_tb fx 1735) Q al3 n3 g3 1162 _ _ _ _
  refine pg_icmp_eq (tgt := 1167) dL_law_1162 (by decide) (fun c1162 => ?_) (fun c1162 => absurd rfl c1162)
  exact kk _ _ _ _ _ _ hR3
