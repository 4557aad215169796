theorem zB_vnar (b : Bool) : vp_nar .boolean (zB b) = zB b := by cases b <;> decide
theorem nI_m1 {n : Nat} (h : 0 < n) : nI n + -1 = nI (n - 1) := by
  obtain ⟨k, rfl⟩ : ∃ k, n = k + 1 := ⟨n - 1, by omega⟩
  rw [Nat.add_sub_cancel, ← nI_pred k, Int32.sub_eq_add_neg]
/-- the loop of pairs: at token k, n braces open -/
def PW (fx : px_F) (dd : Nat) (Q : px_Q) (al : Nat → Nat) (nn : Nat) (g0 : Nat → px_O) (r : Nat) (sc : Nat → Int32) (k n : Nat) (lo : Bool) (ar : Nat → Nat → Int32) : Prop := pr fx (px_body pm_X10_pairs) dd Q al nn g0 r sc ar 13 [.ref (al r), .int (nI n), .int (zB lo), .int (nI k)] []
set_option maxHeartbeats 4000000 in
set_option maxRecDepth 20000 in
theorem sw_256 {fx : px_F} {dd : Nat} {Q : px_Q} {al : Nat → Nat} {nn : Nat} {g0 : Nat → px_O} {r : Nat} {sc : Nat → Int32} {m : Nat} {S : Nat → Int32} {ar : Nat → Nat → Int32} {k n : Nat} {lo : Bool} (hm : sc 16 = nI m) (hm2 : m ≤ 120) (hS : ar 3 = S) (hk : tz m S k = nI 256) {lp : Bool} (hL : ar 7 n = zB lp) (hn : n ≤ 10) (kk : PW fx dd Q al nn g0 r sc (k + 1) n true (va_up ar 5 (upd (ar 5) k (zB lp)))) : PW fx dd Q al nn g0 r sc k n lo ar := by
  have hkm : k < m := (lit_in hk (by decide) (by decide))
  have hSk : S k = tz m S k := (tz_lt hkm).symm
  show pr fx (px_body pm_X10_pairs) dd Q al nn g0 r sc ar 13 [.ref (al r), .int (nI n), .int (zB lo), .int (nI k)] []
  rw [← hSk] at hk
  refine pr_iload_n dX10_pairs_13 rfl ?_
  refine pr_aload_n dX10_pairs_14 rfl rfl ?_
  refine pr_getS (v := nI m) dX10_pairs_15 fk_X10_184 rfl hm ?_
  refine pr_icmp_ge (tgt := 161) dX10_pairs_18 (by decide) (fun c18 => absurd c18 (Int32.not_le.mpr (nI_lt hkm (by omega)))) (fun c18 => ?_)
  refine pr_aload_n dX10_pairs_21 rfl rfl ?_
  refine pr_getA dX10_pairs_22 fk_X10_24 rfl ?_
  refine pr_iload_n dX10_pairs_25 rfl ?_
  refine pr_iald (v := (S k)) (j := k) dX10_pairs_26 (by decide) rfl rfl (by show k < 120; omega) (congrFun hS k) ?_
  refine pr_sipush dX10_pairs_27 (show (Int16.ofInt (256)).toInt32 = (256) by decide) ?_
  refine pr_icmp_ne (tgt := 50) dX10_pairs_30 (by decide) (fun c30 => absurd c30 (fun z => z hk)) (fun c30 => ?_)
  refine pr_aload_n dX10_pairs_33 rfl rfl ?_
  refine pr_getA dX10_pairs_34 fk_X10_30 rfl ?_
  refine pr_iload_n dX10_pairs_37 rfl ?_
  refine pr_aload_n dX10_pairs_38 rfl rfl ?_
  refine pr_getA dX10_pairs_39 fk_X10_37 rfl ?_
  refine pr_iload_n dX10_pairs_42 rfl ?_
  refine pr_zald (v := (zB lp)) (j := n) dX10_pairs_43 (by decide) rfl rfl (by show n < 121; omega) hL ?_
  refine pr_zast (j := k) dX10_pairs_44 (by decide) rfl rfl (by show k < 120; omega) ?_
  rw [zB_vnar]
  refine pr_iconst dX10_pairs_45 (show Int32.ofInt (1) = (1) by decide) ?_
  refine pr_istore_n dX10_pairs_46 (Nat.le_of_ble_eq_true rfl) ?_
  refine pr_goto (tgt := 155) dX10_pairs_47 (by decide) ?_
  refine pr_iinc dX10_pairs_155 rfl (show Int32.ofInt (1) = (1) by decide) ?_
  refine pr_goto (tgt := 13) dX10_pairs_158 (by decide) ?_
  rw [nI_1]
  exact kk
set_option maxHeartbeats 4000000 in
set_option maxRecDepth 20000 in
theorem sw_257 {fx : px_F} {dd : Nat} {Q : px_Q} {al : Nat → Nat} {nn : Nat} {g0 : Nat → px_O} {r : Nat} {sc : Nat → Int32} {m : Nat} {S : Nat → Int32} {ar : Nat → Nat → Int32} {k n : Nat} {lo : Bool} (hm : sc 16 = nI m) (hm2 : m ≤ 120) (hS : ar 3 = S) (hk : tz m S k = nI 257) (hn : n ≤ 10) (kk : PW fx dd Q al nn g0 r sc (k + 1) n false ar) : PW fx dd Q al nn g0 r sc k n lo ar := by
  have hkm : k < m := (lit_in hk (by decide) (by decide))
  have hSk : S k = tz m S k := (tz_lt hkm).symm
  show pr fx (px_body pm_X10_pairs) dd Q al nn g0 r sc ar 13 [.ref (al r), .int (nI n), .int (zB lo), .int (nI k)] []
  rw [← hSk] at hk
  refine pr_iload_n dX10_pairs_13 rfl ?_
  refine pr_aload_n dX10_pairs_14 rfl rfl ?_
  refine pr_getS (v := nI m) dX10_pairs_15 fk_X10_184 rfl hm ?_
  refine pr_icmp_ge (tgt := 161) dX10_pairs_18 (by decide) (fun c18 => absurd c18 (Int32.not_le.mpr (nI_lt hkm (by omega)))) (fun c18 => ?_)
  refine pr_aload_n dX10_pairs_21 rfl rfl ?_
  refine pr_getA dX10_pairs_22 fk_X10_24 rfl ?_
  refine pr_iload_n dX10_pairs_25 rfl ?_
  refine pr_iald (v := (S k)) (j := k) dX10_pairs_26 (by decide) rfl rfl (by show k < 120; omega) (congrFun hS k) ?_
  refine pr_sipush dX10_pairs_27 (show (Int16.ofInt (256)).toInt32 = (256) by decide) ?_
  refine pr_icmp_ne (tgt := 50) dX10_pairs_30 (by decide) (fun c30 => ?_) (fun c30 => absurd c30 (fun z => absurd ((show S k = nI 256 from z).symm.trans hk) (by decide)))
  refine pr_aload_n dX10_pairs_50 rfl rfl ?_
  refine pr_getA dX10_pairs_51 fk_X10_24 rfl ?_
  refine pr_iload_n dX10_pairs_54 rfl ?_
  refine pr_iald (v := (S k)) (j := k) dX10_pairs_55 (by decide) rfl rfl (by show k < 120; omega) (congrFun hS k) ?_
  refine pr_sipush dX10_pairs_56 (show (Int16.ofInt (257)).toInt32 = (257) by decide) ?_
  refine pr_icmp_eq (tgt := 74) dX10_pairs_59 (by decide) (fun c59 => ?_) (fun c59 => absurd hk c59)
  refine pr_iconst dX10_pairs_74 (show Int32.ofInt (0) = (0) by decide) ?_
  refine pr_istore_n dX10_pairs_75 (Nat.le_of_ble_eq_true rfl) ?_
  refine pr_goto (tgt := 155) dX10_pairs_76 (by decide) ?_
  refine pr_iinc dX10_pairs_155 rfl (show Int32.ofInt (1) = (1) by decide) ?_
  refine pr_goto (tgt := 13) dX10_pairs_158 (by decide) ?_
  rw [nI_1]
  exact kk
set_option maxHeartbeats 4000000 in
set_option maxRecDepth 20000 in
theorem sw_258 {fx : px_F} {dd : Nat} {Q : px_Q} {al : Nat → Nat} {nn : Nat} {g0 : Nat → px_O} {r : Nat} {sc : Nat → Int32} {m : Nat} {S : Nat → Int32} {ar : Nat → Nat → Int32} {k n : Nat} {lo : Bool} (hm : sc 16 = nI m) (hm2 : m ≤ 120) (hS : ar 3 = S) (hk : tz m S k = nI 258) (hn : n ≤ 10) (kk : PW fx dd Q al nn g0 r sc (k + 1) n false ar) : PW fx dd Q al nn g0 r sc k n lo ar := by
  have hkm : k < m := (lit_in hk (by decide) (by decide))
  have hSk : S k = tz m S k := (tz_lt hkm).symm
  show pr fx (px_body pm_X10_pairs) dd Q al nn g0 r sc ar 13 [.ref (al r), .int (nI n), .int (zB lo), .int (nI k)] []
  rw [← hSk] at hk
  refine pr_iload_n dX10_pairs_13 rfl ?_
  refine pr_aload_n dX10_pairs_14 rfl rfl ?_
  refine pr_getS (v := nI m) dX10_pairs_15 fk_X10_184 rfl hm ?_
  refine pr_icmp_ge (tgt := 161) dX10_pairs_18 (by decide) (fun c18 => absurd c18 (Int32.not_le.mpr (nI_lt hkm (by omega)))) (fun c18 => ?_)
  refine pr_aload_n dX10_pairs_21 rfl rfl ?_
  refine pr_getA dX10_pairs_22 fk_X10_24 rfl ?_
  refine pr_iload_n dX10_pairs_25 rfl ?_
  refine pr_iald (v := (S k)) (j := k) dX10_pairs_26 (by decide) rfl rfl (by show k < 120; omega) (congrFun hS k) ?_
  refine pr_sipush dX10_pairs_27 (show (Int16.ofInt (256)).toInt32 = (256) by decide) ?_
  refine pr_icmp_ne (tgt := 50) dX10_pairs_30 (by decide) (fun c30 => ?_) (fun c30 => absurd c30 (fun z => absurd ((show S k = nI 256 from z).symm.trans hk) (by decide)))
  refine pr_aload_n dX10_pairs_50 rfl rfl ?_
  refine pr_getA dX10_pairs_51 fk_X10_24 rfl ?_
  refine pr_iload_n dX10_pairs_54 rfl ?_
  refine pr_iald (v := (S k)) (j := k) dX10_pairs_55 (by decide) rfl rfl (by show k < 120; omega) (congrFun hS k) ?_
  refine pr_sipush dX10_pairs_56 (show (Int16.ofInt (257)).toInt32 = (257) by decide) ?_
  refine pr_icmp_eq (tgt := 74) dX10_pairs_59 (by decide) (fun c59 => absurd c59 (fun z => absurd ((show S k = nI 257 from z).symm.trans hk) (by decide))) (fun c59 => ?_)
  refine pr_aload_n dX10_pairs_62 rfl rfl ?_
  refine pr_getA dX10_pairs_63 fk_X10_24 rfl ?_
  refine pr_iload_n dX10_pairs_66 rfl ?_
  refine pr_iald (v := (S k)) (j := k) dX10_pairs_67 (by decide) rfl rfl (by show k < 120; omega) (congrFun hS k) ?_
  refine pr_sipush dX10_pairs_68 (show (Int16.ofInt (258)).toInt32 = (258) by decide) ?_
  refine pr_icmp_ne (tgt := 79) dX10_pairs_71 (by decide) (fun c71 => absurd c71 (fun z => z hk)) (fun c71 => ?_)
  refine pr_iconst dX10_pairs_74 (show Int32.ofInt (0) = (0) by decide) ?_
  refine pr_istore_n dX10_pairs_75 (Nat.le_of_ble_eq_true rfl) ?_
  refine pr_goto (tgt := 155) dX10_pairs_76 (by decide) ?_
  refine pr_iinc dX10_pairs_155 rfl (show Int32.ofInt (1) = (1) by decide) ?_
  refine pr_goto (tgt := 13) dX10_pairs_158 (by decide) ?_
  rw [nI_1]
  exact kk
set_option maxHeartbeats 4000000 in
set_option maxRecDepth 20000 in
theorem sw_123 {fx : px_F} {dd : Nat} {Q : px_Q} {al : Nat → Nat} {nn : Nat} {g0 : Nat → px_O} {r : Nat} {sc : Nat → Int32} {m : Nat} {S : Nat → Int32} {ar : Nat → Nat → Int32} {k n : Nat} {lo : Bool} (hm : sc 16 = nI m) (hm2 : m ≤ 120) (hS : ar 3 = S) (hk : tz m S k = nI 123) {lp : Bool} (hL : ar 7 n = zB lp) (hn9 : n < 10) (hn : n ≤ 10) (kk : PW fx dd Q al nn g0 r sc (k + 1) (n + 1) lo (va_up (va_up ar 6 (upd (ar 6) n (nI k))) 7 (upd (ar 7) (n + 1) (zB (lp || lo))))) : PW fx dd Q al nn g0 r sc k n lo ar := by
  have hkm : k < m := (lit_in hk (by decide) (by decide))
  have hSk : S k = tz m S k := (tz_lt hkm).symm
  show pr fx (px_body pm_X10_pairs) dd Q al nn g0 r sc ar 13 [.ref (al r), .int (nI n), .int (zB lo), .int (nI k)] []
  rw [← hSk] at hk
  refine pr_iload_n dX10_pairs_13 rfl ?_
  refine pr_aload_n dX10_pairs_14 rfl rfl ?_
  refine pr_getS (v := nI m) dX10_pairs_15 fk_X10_184 rfl hm ?_
  refine pr_icmp_ge (tgt := 161) dX10_pairs_18 (by decide) (fun c18 => absurd c18 (Int32.not_le.mpr (nI_lt hkm (by omega)))) (fun c18 => ?_)
  refine pr_aload_n dX10_pairs_21 rfl rfl ?_
  refine pr_getA dX10_pairs_22 fk_X10_24 rfl ?_
  refine pr_iload_n dX10_pairs_25 rfl ?_
  refine pr_iald (v := (S k)) (j := k) dX10_pairs_26 (by decide) rfl rfl (by show k < 120; omega) (congrFun hS k) ?_
  refine pr_sipush dX10_pairs_27 (show (Int16.ofInt (256)).toInt32 = (256) by decide) ?_
  refine pr_icmp_ne (tgt := 50) dX10_pairs_30 (by decide) (fun c30 => ?_) (fun c30 => absurd c30 (fun z => absurd ((show S k = nI 256 from z).symm.trans hk) (by decide)))
  refine pr_aload_n dX10_pairs_50 rfl rfl ?_
  refine pr_getA dX10_pairs_51 fk_X10_24 rfl ?_
  refine pr_iload_n dX10_pairs_54 rfl ?_
  refine pr_iald (v := (S k)) (j := k) dX10_pairs_55 (by decide) rfl rfl (by show k < 120; omega) (congrFun hS k) ?_
  refine pr_sipush dX10_pairs_56 (show (Int16.ofInt (257)).toInt32 = (257) by decide) ?_
  refine pr_icmp_eq (tgt := 74) dX10_pairs_59 (by decide) (fun c59 => absurd c59 (fun z => absurd ((show S k = nI 257 from z).symm.trans hk) (by decide))) (fun c59 => ?_)
  refine pr_aload_n dX10_pairs_62 rfl rfl ?_
  refine pr_getA dX10_pairs_63 fk_X10_24 rfl ?_
  refine pr_iload_n dX10_pairs_66 rfl ?_
  refine pr_iald (v := (S k)) (j := k) dX10_pairs_67 (by decide) rfl rfl (by show k < 120; omega) (congrFun hS k) ?_
  refine pr_sipush dX10_pairs_68 (show (Int16.ofInt (258)).toInt32 = (258) by decide) ?_
  refine pr_icmp_ne (tgt := 79) dX10_pairs_71 (by decide) (fun c71 => ?_) (fun c71 => absurd c71 (fun z => absurd ((show S k = nI 258 from z).symm.trans hk) (by decide)))
  refine pr_aload_n dX10_pairs_79 rfl rfl ?_
  refine pr_getA dX10_pairs_80 fk_X10_24 rfl ?_
  refine pr_iload_n dX10_pairs_83 rfl ?_
  refine pr_iald (v := (S k)) (j := k) dX10_pairs_84 (by decide) rfl rfl (by show k < 120; omega) (congrFun hS k) ?_
  refine pr_bipush dX10_pairs_85 (show (Int8.ofInt (123)).toInt32 = (123) by decide) ?_
  refine pr_icmp_ne (tgt := 129) dX10_pairs_87 (by decide) (fun c87 => absurd c87 (fun z => z hk)) (fun c87 => ?_)
  refine pr_aload_n dX10_pairs_90 rfl rfl ?_
  refine pr_getA dX10_pairs_91 fk_X10_34 rfl ?_
  refine pr_iload_n dX10_pairs_94 rfl ?_
  refine pr_iload_n dX10_pairs_95 rfl ?_
  refine pr_iast (j := n) dX10_pairs_96 (by decide) rfl rfl (by show n < 120; omega) ?_
  refine pr_iinc dX10_pairs_97 rfl (show Int32.ofInt (1) = (1) by decide) ?_
  rw [nI_1]
  refine pr_aload_n dX10_pairs_100 rfl rfl ?_
  refine pr_getA dX10_pairs_101 fk_X10_37 rfl ?_
  refine pr_iload_n dX10_pairs_104 rfl ?_
  refine pr_aload_n dX10_pairs_105 rfl rfl ?_
  refine pr_getA dX10_pairs_106 fk_X10_37 rfl ?_
  refine pr_iload_n dX10_pairs_109 rfl ?_
  refine pr_iconst dX10_pairs_110 (show Int32.ofInt (1) = (1) by decide) ?_
  refine pr_isub dX10_pairs_111 ?_
  rw [show nI (n + 1) - 1 = nI n from nI_pred n]
  refine pr_zald (v := (zB lp)) (j := n) dX10_pairs_112 (by decide) rfl rfl (by show n < 121; omega) hL ?_
  refine pr_if_ne (tgt := 120) dX10_pairs_113 (by decide) (fun c113 => ?_) (fun c113 => ?_)
  ·
    refine pr_iconst dX10_pairs_120 (show Int32.ofInt (1) = (1) by decide) ?_
    refine pr_goto (tgt := 125) dX10_pairs_121 (by decide) ?_
    have hz : zB (lp || lo) = 1 := by rw [zB_n0 c113]; rfl
    rw [hz] at kk
    refine pr_zast (j := n + 1) dX10_pairs_125 (by decide) rfl rfl (by show n + 1 < 121; omega) ?_
    refine pr_goto (tgt := 155) dX10_pairs_126 (by decide) ?_
    refine pr_iinc dX10_pairs_155 rfl (show Int32.ofInt (1) = (1) by decide) ?_
    refine pr_goto (tgt := 13) dX10_pairs_158 (by decide) ?_
    rw [nI_1]
    exact kk
  ·
    refine pr_iload_n dX10_pairs_116 rfl ?_
    refine pr_if_eq (tgt := 124) dX10_pairs_117 (by decide) (fun c117 => ?_) (fun c117 => ?_)
    ·
      refine pr_iconst dX10_pairs_124 (show Int32.ofInt (0) = (0) by decide) ?_
      have hz : zB (lp || lo) = 0 := by rw [zB_0.mp c113, zB_0.mp c117]; rfl
      rw [hz] at kk
      refine pr_zast (j := n + 1) dX10_pairs_125 (by decide) rfl rfl (by show n + 1 < 121; omega) ?_
      refine pr_goto (tgt := 155) dX10_pairs_126 (by decide) ?_
      refine pr_iinc dX10_pairs_155 rfl (show Int32.ofInt (1) = (1) by decide) ?_
      refine pr_goto (tgt := 13) dX10_pairs_158 (by decide) ?_
      rw [nI_1]
      exact kk
    ·
      refine pr_iconst dX10_pairs_120 (show Int32.ofInt (1) = (1) by decide) ?_
      refine pr_goto (tgt := 125) dX10_pairs_121 (by decide) ?_
      have hz : zB (lp || lo) = 1 := by rw [zB_n0 c117, Bool.or_true]; rfl
      rw [hz] at kk
      refine pr_zast (j := n + 1) dX10_pairs_125 (by decide) rfl rfl (by show n + 1 < 121; omega) ?_
      refine pr_goto (tgt := 155) dX10_pairs_126 (by decide) ?_
      refine pr_iinc dX10_pairs_155 rfl (show Int32.ofInt (1) = (1) by decide) ?_
      refine pr_goto (tgt := 13) dX10_pairs_158 (by decide) ?_
      rw [nI_1]
      exact kk
set_option maxHeartbeats 4000000 in
set_option maxRecDepth 20000 in
theorem sw_125 {fx : px_F} {dd : Nat} {Q : px_Q} {al : Nat → Nat} {nn : Nat} {g0 : Nat → px_O} {r : Nat} {sc : Nat → Int32} {m : Nat} {S : Nat → Int32} {ar : Nat → Nat → Int32} {k n : Nat} {lo : Bool} (hm : sc 16 = nI m) (hm2 : m ≤ 120) (hS : ar 3 = S) (hk : tz m S k = nI 125) {o : Nat} (hO : ar 6 (n - 1) = nI o) (ho : o < 120) (h0 : 0 < n) (hn : n ≤ 10) (kk : PW fx dd Q al nn g0 r sc (k + 1) (n - 1) lo (va_up ar 4 (upd (ar 4) o (nI k)))) : PW fx dd Q al nn g0 r sc k n lo ar := by
  have hkm : k < m := (lit_in hk (by decide) (by decide))
  have hSk : S k = tz m S k := (tz_lt hkm).symm
  show pr fx (px_body pm_X10_pairs) dd Q al nn g0 r sc ar 13 [.ref (al r), .int (nI n), .int (zB lo), .int (nI k)] []
  rw [← hSk] at hk
  refine pr_iload_n dX10_pairs_13 rfl ?_
  refine pr_aload_n dX10_pairs_14 rfl rfl ?_
  refine pr_getS (v := nI m) dX10_pairs_15 fk_X10_184 rfl hm ?_
  refine pr_icmp_ge (tgt := 161) dX10_pairs_18 (by decide) (fun c18 => absurd c18 (Int32.not_le.mpr (nI_lt hkm (by omega)))) (fun c18 => ?_)
  refine pr_aload_n dX10_pairs_21 rfl rfl ?_
  refine pr_getA dX10_pairs_22 fk_X10_24 rfl ?_
  refine pr_iload_n dX10_pairs_25 rfl ?_
  refine pr_iald (v := (S k)) (j := k) dX10_pairs_26 (by decide) rfl rfl (by show k < 120; omega) (congrFun hS k) ?_
  refine pr_sipush dX10_pairs_27 (show (Int16.ofInt (256)).toInt32 = (256) by decide) ?_
  refine pr_icmp_ne (tgt := 50) dX10_pairs_30 (by decide) (fun c30 => ?_) (fun c30 => absurd c30 (fun z => absurd ((show S k = nI 256 from z).symm.trans hk) (by decide)))
  refine pr_aload_n dX10_pairs_50 rfl rfl ?_
  refine pr_getA dX10_pairs_51 fk_X10_24 rfl ?_
  refine pr_iload_n dX10_pairs_54 rfl ?_
  refine pr_iald (v := (S k)) (j := k) dX10_pairs_55 (by decide) rfl rfl (by show k < 120; omega) (congrFun hS k) ?_
  refine pr_sipush dX10_pairs_56 (show (Int16.ofInt (257)).toInt32 = (257) by decide) ?_
  refine pr_icmp_eq (tgt := 74) dX10_pairs_59 (by decide) (fun c59 => absurd c59 (fun z => absurd ((show S k = nI 257 from z).symm.trans hk) (by decide))) (fun c59 => ?_)
  refine pr_aload_n dX10_pairs_62 rfl rfl ?_
  refine pr_getA dX10_pairs_63 fk_X10_24 rfl ?_
  refine pr_iload_n dX10_pairs_66 rfl ?_
  refine pr_iald (v := (S k)) (j := k) dX10_pairs_67 (by decide) rfl rfl (by show k < 120; omega) (congrFun hS k) ?_
  refine pr_sipush dX10_pairs_68 (show (Int16.ofInt (258)).toInt32 = (258) by decide) ?_
  refine pr_icmp_ne (tgt := 79) dX10_pairs_71 (by decide) (fun c71 => ?_) (fun c71 => absurd c71 (fun z => absurd ((show S k = nI 258 from z).symm.trans hk) (by decide)))
  refine pr_aload_n dX10_pairs_79 rfl rfl ?_
  refine pr_getA dX10_pairs_80 fk_X10_24 rfl ?_
  refine pr_iload_n dX10_pairs_83 rfl ?_
  refine pr_iald (v := (S k)) (j := k) dX10_pairs_84 (by decide) rfl rfl (by show k < 120; omega) (congrFun hS k) ?_
  refine pr_bipush dX10_pairs_85 (show (Int8.ofInt (123)).toInt32 = (123) by decide) ?_
  refine pr_icmp_ne (tgt := 129) dX10_pairs_87 (by decide) (fun c87 => ?_) (fun c87 => absurd c87 (fun z => absurd ((show S k = nI 123 from z).symm.trans hk) (by decide)))
  refine pr_aload_n dX10_pairs_129 rfl rfl ?_
  refine pr_getA dX10_pairs_130 fk_X10_24 rfl ?_
  refine pr_iload_n dX10_pairs_133 rfl ?_
  refine pr_iald (v := (S k)) (j := k) dX10_pairs_134 (by decide) rfl rfl (by show k < 120; omega) (congrFun hS k) ?_
  refine pr_bipush dX10_pairs_135 (show (Int8.ofInt (125)).toInt32 = (125) by decide) ?_
  refine pr_icmp_ne (tgt := 155) dX10_pairs_137 (by decide) (fun c137 => absurd c137 (fun z => z hk)) (fun c137 => ?_)
  refine pr_iinc dX10_pairs_140 rfl (show Int32.ofInt (-1) = (-1) by decide) ?_
  rw [show nI n + -1 = nI (n - 1) from nI_m1 h0]
  refine pr_aload_n dX10_pairs_143 rfl rfl ?_
  refine pr_getA dX10_pairs_144 fk_X10_27 rfl ?_
  refine pr_aload_n dX10_pairs_147 rfl rfl ?_
  refine pr_getA dX10_pairs_148 fk_X10_34 rfl ?_
  refine pr_iload_n dX10_pairs_151 rfl ?_
  refine pr_iald (v := (nI o)) (j := n - 1) dX10_pairs_152 (by decide) rfl rfl (by show n - 1 < 120; omega) hO ?_
  refine pr_iload_n dX10_pairs_153 rfl ?_
  refine pr_iast (j := o) dX10_pairs_154 (by decide) rfl rfl (by show o < 120; omega) ?_
  refine pr_iinc dX10_pairs_155 rfl (show Int32.ofInt (1) = (1) by decide) ?_
  refine pr_goto (tgt := 13) dX10_pairs_158 (by decide) ?_
  rw [nI_1]
  exact kk
set_option maxHeartbeats 4000000 in
set_option maxRecDepth 20000 in
theorem sw_no {fx : px_F} {dd : Nat} {Q : px_Q} {al : Nat → Nat} {nn : Nat} {g0 : Nat → px_O} {r : Nat} {sc : Nat → Int32} {m : Nat} {S : Nat → Int32} {ar : Nat → Nat → Int32} {k n : Nat} {lo : Bool} (hm : sc 16 = nI m) (hm2 : m ≤ 120) (hS : ar 3 = S) (hk9 : ¬ tz m S k = 0) (hk : ¬ tz m S k = nI 256 ∧ ¬ tz m S k = nI 257 ∧ ¬ tz m S k = nI 258 ∧ ¬ tz m S k = nI 123 ∧ ¬ tz m S k = nI 125) (hn : n ≤ 10) (kk : PW fx dd Q al nn g0 r sc (k + 1) n lo ar) : PW fx dd Q al nn g0 r sc k n lo ar := by
  have hkm : k < m := (tz_in hk9)
  have hSk : S k = tz m S k := (tz_lt hkm).symm
  show pr fx (px_body pm_X10_pairs) dd Q al nn g0 r sc ar 13 [.ref (al r), .int (nI n), .int (zB lo), .int (nI k)] []
  rw [← hSk] at hk
  refine pr_iload_n dX10_pairs_13 rfl ?_
  refine pr_aload_n dX10_pairs_14 rfl rfl ?_
  refine pr_getS (v := nI m) dX10_pairs_15 fk_X10_184 rfl hm ?_
  refine pr_icmp_ge (tgt := 161) dX10_pairs_18 (by decide) (fun c18 => absurd c18 (Int32.not_le.mpr (nI_lt hkm (by omega)))) (fun c18 => ?_)
  refine pr_aload_n dX10_pairs_21 rfl rfl ?_
  refine pr_getA dX10_pairs_22 fk_X10_24 rfl ?_
  refine pr_iload_n dX10_pairs_25 rfl ?_
  refine pr_iald (v := (S k)) (j := k) dX10_pairs_26 (by decide) rfl rfl (by show k < 120; omega) (congrFun hS k) ?_
  refine pr_sipush dX10_pairs_27 (show (Int16.ofInt (256)).toInt32 = (256) by decide) ?_
  refine pr_icmp_ne (tgt := 50) dX10_pairs_30 (by decide) (fun c30 => ?_) (fun c30 => absurd c30 hk.1)
  refine pr_aload_n dX10_pairs_50 rfl rfl ?_
  refine pr_getA dX10_pairs_51 fk_X10_24 rfl ?_
  refine pr_iload_n dX10_pairs_54 rfl ?_
  refine pr_iald (v := (S k)) (j := k) dX10_pairs_55 (by decide) rfl rfl (by show k < 120; omega) (congrFun hS k) ?_
  refine pr_sipush dX10_pairs_56 (show (Int16.ofInt (257)).toInt32 = (257) by decide) ?_
  refine pr_icmp_eq (tgt := 74) dX10_pairs_59 (by decide) (fun c59 => absurd c59 hk.2.1) (fun c59 => ?_)
  refine pr_aload_n dX10_pairs_62 rfl rfl ?_
  refine pr_getA dX10_pairs_63 fk_X10_24 rfl ?_
  refine pr_iload_n dX10_pairs_66 rfl ?_
  refine pr_iald (v := (S k)) (j := k) dX10_pairs_67 (by decide) rfl rfl (by show k < 120; omega) (congrFun hS k) ?_
  refine pr_sipush dX10_pairs_68 (show (Int16.ofInt (258)).toInt32 = (258) by decide) ?_
  refine pr_icmp_ne (tgt := 79) dX10_pairs_71 (by decide) (fun c71 => ?_) (fun c71 => absurd c71 hk.2.2.1)
  refine pr_aload_n dX10_pairs_79 rfl rfl ?_
  refine pr_getA dX10_pairs_80 fk_X10_24 rfl ?_
  refine pr_iload_n dX10_pairs_83 rfl ?_
  refine pr_iald (v := (S k)) (j := k) dX10_pairs_84 (by decide) rfl rfl (by show k < 120; omega) (congrFun hS k) ?_
  refine pr_bipush dX10_pairs_85 (show (Int8.ofInt (123)).toInt32 = (123) by decide) ?_
  refine pr_icmp_ne (tgt := 129) dX10_pairs_87 (by decide) (fun c87 => ?_) (fun c87 => absurd c87 hk.2.2.2.1)
  refine pr_aload_n dX10_pairs_129 rfl rfl ?_
  refine pr_getA dX10_pairs_130 fk_X10_24 rfl ?_
  refine pr_iload_n dX10_pairs_133 rfl ?_
  refine pr_iald (v := (S k)) (j := k) dX10_pairs_134 (by decide) rfl rfl (by show k < 120; omega) (congrFun hS k) ?_
  refine pr_bipush dX10_pairs_135 (show (Int8.ofInt (125)).toInt32 = (125) by decide) ?_
  refine pr_icmp_ne (tgt := 155) dX10_pairs_137 (by decide) (fun c137 => ?_) (fun c137 => absurd c137 hk.2.2.2.2)
  refine pr_iinc dX10_pairs_155 rfl (show Int32.ofInt (1) = (1) by decide) ?_
  refine pr_goto (tgt := 13) dX10_pairs_158 (by decide) ?_
  rw [nI_1]
  exact kk
theorem notkw {T : Nat → Int32} {k c : Nat} (h : T k = nI c) (h1 : c < 2 ^ 31) (hc : c ≠ 256 ∧ c ≠ 257 ∧ c ≠ 258 ∧ c ≠ 123 ∧ c ≠ 125) : ¬ T k = nI 256 ∧ ¬ T k = nI 257 ∧ ¬ T k = nI 258 ∧ ¬ T k = nI 123 ∧ ¬ T k = nI 125 := by
  rw [h]
  exact ⟨fun z => hc.1 ((nI_eq h1 (by decide)).mp z), fun z => hc.2.1 ((nI_eq h1 (by decide)).mp z), fun z => hc.2.2.1 ((nI_eq h1 (by decide)).mp z), fun z => hc.2.2.2.1 ((nI_eq h1 (by decide)).mp z), fun z => hc.2.2.2.2 ((nI_eq h1 (by decide)).mp z)⟩
theorem notkwv {t : Int32} (h : isVar t = true ∨ 1000 ≤ t) : ¬ t = nI 256 ∧ ¬ t = nI 257 ∧ ¬ t = nI 258 ∧ ¬ t = nI 123 ∧ ¬ t = nI 125 := by
  refine ⟨?_, ?_, ?_, ?_, ?_⟩ <;> (intro z; subst z; revert h; decide)
section PWS
variable {fx : px_F} {dd : Nat} {Q : px_Q} {al : Nat → Nat} {nn : Nat} {g0 : Nat → px_O} {r : Nat} {sc : Nat → Int32} {m : Nat} {S : Nat → Int32}
/-- the tokens of an expression change nothing -/
theorem pw_expr (hm : sc 16 = nI m) (hm2 : m ≤ 120) : ∀ (f kd dp i j : Nat) (ar : Nat → Nat → Int32) (n : Nat) (lo : Bool), 3 ≤ kd → kd < 7 → pP (tz m S) f kd dp i = some (true, j) → ar 3 = S → n ≤ 10 → PW fx dd Q al nn g0 r sc j n lo ar → PW fx dd Q al nn g0 r sc i n lo ar
  | 0, _, _, _, _, _, _, _, _, _, h, _, _, _ => by rw [pP] at h; cases h
  | f + 1, kd, dp, i, j, ar, n, lo, hk3, hk, h, hS, hn, kk => by
    have IH := pw_expr hm hm2 f
    have one : ∀ {k c : Nat}, tz m S k = nI c → 0 < c → c < 2 ^ 31 → (c ≠ 256 ∧ c ≠ 257 ∧ c ≠ 258 ∧ c ≠ 123 ∧ c ≠ 125) → PW fx dd Q al nn g0 r sc (k + 1) n lo ar → PW fx dd Q al nn g0 r sc k n lo ar := fun {k c} e h0 h1 hc kk => sw_no hm hm2 hS (lit_pos e h0 h1).1 (notkw e h1 hc) hn kk
    match kd, hk3, hk, h with
    | 0, hk3, _, _ => omega
    | 1, hk3, _, _ => omega
    | 2, hk3, _, _ => omega
    | 3, _, _, h =>
      obtain ⟨q, h1, h2⟩ := pP_t3 h
      refine IH 4 dp i q ar n lo (by decide) (by decide) h1 hS hn ?_
      rcases h2 with ⟨c, h2⟩ | ⟨_, rfl⟩
      · exact one c (by decide) (by decide) (by decide) (IH 4 dp _ j ar n lo (by decide) (by decide) h2 hS hn kk)
      · exact kk
    | 4, _, _, h =>
      obtain ⟨q, h1, h2⟩ := pP_t4 h
      refine IH 5 dp i q ar n lo (by decide) (by decide) h1 hS hn ?_
      rcases h2 with ⟨c | c, h2⟩ | ⟨_, rfl⟩
      · exact one c (by decide) (by decide) (by decide) (IH 4 dp _ j ar n lo (by decide) (by decide) h2 hS hn kk)
      · exact one c (by decide) (by decide) (by decide) (IH 4 dp _ j ar n lo (by decide) (by decide) h2 hS hn kk)
      · exact kk
    | 5, _, _, h =>
      obtain ⟨q, h1, h2⟩ := pP_t5 h
      refine IH 6 dp i q ar n lo (by decide) (by decide) h1 hS hn ?_
      rcases h2 with ⟨c | c | c, h2⟩ | ⟨_, rfl⟩
      · exact one c (by decide) (by decide) (by decide) (IH 5 dp _ j ar n lo (by decide) (by decide) h2 hS hn kk)
      · exact one c (by decide) (by decide) (by decide) (IH 5 dp _ j ar n lo (by decide) (by decide) h2 hS hn kk)
      · exact one c (by decide) (by decide) (by decide) (IH 5 dp _ j ar n lo (by decide) (by decide) h2 hS hn kk)
      · exact kk
    | 6, _, _, h =>
      rcases pP_t6 h with ⟨c, rfl⟩ | ⟨_, c, _, q, h1, h2, rfl⟩
      · exact sw_no hm hm2 hS (c.elim isVar_pos big_pos).1 (notkwv c) hn kk
      · exact one c (by decide) (by decide) (by decide) (IH 3 (dp + 1) _ q ar n lo (by decide) (by decide) h1 hS hn (one h2 (by decide) (by decide) (by decide) kk))
theorem pK_cong {T C W C' W' : Nat → Int32} : ∀ (f kd dp : Nat) (lp : Bool) (i j : Nat), kd < 3 → pP T f kd dp i = some (true, j) → (∀ x, i ≤ x → x < j → C' x = C x ∧ W' x = W x) → pK T C W f kd dp lp i → pK T C' W' f kd dp lp i
  | 0, _, _, _, _, _, _, h, _, _ => by rw [pP] at h; cases h
  | f + 1, kd, dp, lp, i, j, hk, h, hc, hK => by
    have IH := pK_cong (T := T) (C := C) (W := W) (C' := C') (W' := W') f
    match kd, hk, h, hK with
    | 0, _, h, hK =>
      obtain ⟨q, h1, h2⟩ := pP_t0 h
      have l1 := pP_lt _ _ _ _ _ (by decide) h1
      rw [pK, pE_of h1] at hK ⊢
      refine ⟨IH 1 dp lp i q (by decide) h1 (fun x a b => hc x a (by rcases h2 with ⟨_, h2⟩ | ⟨_, rfl⟩; have := pP_lt _ _ _ _ _ (by decide) h2; omega; omega)) hK.1, fun c => ?_⟩
      obtain ⟨_, h2⟩ := h2.resolve_right (fun z => z.1 c)
      exact IH 0 dp lp (q + 1) j (by decide) h2 (fun x a b => hc x (by omega) b) (hK.2 c)
    | 1, _, h, hK =>
      rw [pK] at hK ⊢
      rcases pP_t1 h with ⟨hv, _, _⟩ | ⟨hv, c, q, w, h1, h2, h3⟩
      · exact ⟨fun z => by rw [z] at hv; exact absurd hv (by decide), fun z => by rw [z] at hv; exact absurd hv (by decide)⟩
      · have l1 := pP_lt _ _ _ _ _ (by decide) h1
        have l2 := pP_lt _ _ _ _ _ (by decide) h2
        have hwj : w ≤ j := by
          rcases h3 with ⟨_, _, h3⟩ | ⟨_, rfl⟩
          · have := pP_lt _ _ _ _ _ (by decide) h3; omega
          · exact Nat.le_refl _
        rw [pE_of h1, pE_of h2] at hK ⊢
        refine ⟨fun z => ⟨IH 2 dp lp q w (by decide) h2 (fun x a b => hc x (by omega) (by omega)) (hK.1 z).1, fun z2 => ?_⟩, fun z => ⟨(hc i (by omega) (by omega)).2.trans (hK.2 z).1, IH 2 dp true q w (by decide) h2 (fun x a b => hc x (by omega) (by omega)) (hK.2 z).2⟩⟩
        obtain ⟨_, _, h3⟩ := h3.resolve_right (fun y => y.1 ⟨z, z2⟩)
        exact IH 2 dp lp (w + 1) j (by decide) h3 (fun x a b => hc x (by omega) b) ((hK.1 z).2 z2)
    | 2, _, h, hK =>
      obtain ⟨_, _, q, h1, h2, rfl⟩ := pP_t2 h
      have l1 := pP_lt _ _ _ _ _ (by decide) h1
      rw [pK_2] at hK ⊢
      exact ⟨by rw [(hc i (by omega) (by omega)).1]; exact hK.1, IH 0 (dp + 1) lp (i + 1) q (by decide) h1 (fun x a b => hc x (by omega) (by omega)) hK.2⟩
/-- what the loop over a kind's tokens leaves: from ar to ar2 -/
def pwR (i j n : Nat) (ar ar2 : Nat → Nat → Int32) : Prop := (∀ a, a ≠ 4 → a ≠ 5 → a ≠ 6 → a ≠ 7 → ar2 a = ar a) ∧ (∀ x, x < n → ar2 6 x = ar 6 x) ∧ (∀ x, x ≤ n → ar2 7 x = ar 7 x) ∧ ∀ x, x < i ∨ j ≤ x → ar2 4 x = ar 4 x ∧ ar2 5 x = ar 5 x
theorem pwR.rf {i j n : Nat} {ar : Nat → Nat → Int32} : pwR i j n ar ar := ⟨fun _ _ _ _ _ => rfl, fun _ _ => rfl, fun _ _ => rfl, fun _ _ => ⟨rfl, rfl⟩⟩
theorem pwR.tr {i j k l p q n : Nat} {ar ar2 ar3 : Nat → Nat → Int32} (h : pwR i j n ar ar2) (h2 : pwR k l n ar2 ar3) (a1 : p ≤ i) (a2 : j ≤ q) (a3 : p ≤ k) (a4 : l ≤ q) : pwR p q n ar ar3 := ⟨fun a b c d e => (h2.1 a b c d e).trans (h.1 a b c d e), fun x hx => (h2.2.1 x hx).trans (h.2.1 x hx), fun x hx => (h2.2.2.1 x hx).trans (h.2.2.1 x hx), fun x hx => ⟨(h2.2.2.2 x (by omega)).1.trans (h.2.2.2 x (by omega)).1, (h2.2.2.2 x (by omega)).2.trans (h.2.2.2 x (by omega)).2⟩⟩
theorem pwR.s3 {i j n : Nat} {ar ar2 : Nat → Nat → Int32} (h : pwR i j n ar ar2) : ar2 3 = ar 3 := h.1 3 (by decide) (by decide) (by decide) (by decide)
theorem pw_all (hm : sc 16 = nI m) (hm2 : m ≤ 120) : ∀ (f kd dp i j : Nat) (lp lo : Bool) (ar : Nat → Nat → Int32), kd < 3 → dp ≤ 10 → pP (tz m S) f kd dp i = some (true, j) → ar 3 = S → (if kd = 2 then (∃ l0, ar 7 dp = zB l0 ∧ lp = (l0 || lo)) else ar 7 dp = zB lp) → (∀ lo2 ar2, pwR i j dp ar ar2 → pK (tz m S) (ar2 4) (ar2 5) f kd dp lp i → PW fx dd Q al nn g0 r sc j dp lo2 ar2) → PW fx dd Q al nn g0 r sc i dp lo ar
  | 0, _, _, _, _, _, _, _, _, _, h, _, _, _ => by rw [pP] at h; cases h
  | f + 1, kd, dp, i, j, lp, lo, ar, hk, hd, h, hS, hL, kk => by
    have IH := pw_all hm hm2 f
    match kd, hk, h, hL, kk with
    | 0, _, h, hL, kk =>
      obtain ⟨q, h1, h2⟩ := pP_t0 h
      have l1 := pP_lt _ _ _ _ _ (by decide) h1
      refine IH 1 dp i q lp lo ar (by decide) hd h1 hS hL (fun lo2 ar2 hR hK => ?_)
      rcases h2 with ⟨c, h2⟩ | ⟨c, rfl⟩
      · have l2 := pP_lt _ _ _ _ _ (by decide) h2
        refine sw_no hm hm2 (hR.s3.trans hS) (lit_pos c (by decide) (by decide)).1 (notkw c (by decide) (by decide)) hd ?_
        refine IH 0 dp (q + 1) j lp lo2 ar2 (by decide) hd h2 (hR.s3.trans hS) ((hR.2.2.1 dp (Nat.le_refl _)).trans hL) (fun lo3 ar3 hR3 hK3 => kk lo3 ar3 (hR.tr hR3 (by omega) (by omega) (by omega) (by omega)) ?_)
        rw [pK, pE_of h1]
        exact ⟨pK_cong f 1 dp lp i q (by decide) h1 (fun x a b => hR3.2.2.2 x (by omega)) hK, fun _ => hK3⟩
      · refine kk lo2 ar2 hR ?_
        rw [pK, pE_of h1]
        exact ⟨hK, fun z => absurd z c⟩
    | 1, _, h, hL, kk =>
      rcases pP_t1 h with ⟨hv, h1, h2⟩ | ⟨hv, c, q, w, h1, h2, h3⟩
      · refine sw_no hm hm2 hS (isVar_pos hv).1 (notkwv (Or.inl hv)) hd ?_
        refine sw_no hm hm2 hS (lit_pos h1 (by decide) (by decide)).1 (notkw h1 (by decide) (by decide)) hd ?_
        refine pw_expr hm hm2 f 3 dp (i + 2) j ar dp lo (by decide) (by decide) h2 hS hd ?_
        refine kk lo ar pwR.rf ?_
        rw [pK]
        exact ⟨fun z => by rw [z] at hv; exact absurd hv (by decide), fun z => by rw [z] at hv; exact absurd hv (by decide)⟩
      · have l1 := pP_lt _ _ _ _ _ (by decide) h1
        have l2 := pP_lt _ _ _ _ _ (by decide) h2
        rcases c with c | c
        · refine sw_257 hm hm2 hS c hd ?_
          refine pw_expr hm hm2 f 3 dp (i + 1) q ar dp false (by decide) (by decide) h1 hS hd ?_
          refine IH 2 dp q w lp false ar (by decide) hd h2 hS ⟨lp, hL, by rw [Bool.or_false]⟩ (fun lo2 ar2 hR hK => ?_)
          rcases h3 with ⟨_, c3, h3⟩ | ⟨c3, rfl⟩
          · have l3 := pP_lt _ _ _ _ _ (by decide) h3
            refine sw_258 hm hm2 (hR.s3.trans hS) c3 hd ?_
            refine IH 2 dp (w + 1) j lp false ar2 (by decide) hd h3 (hR.s3.trans hS) ⟨lp, (hR.2.2.1 dp (Nat.le_refl _)).trans hL, by rw [Bool.or_false]⟩ (fun lo3 ar3 hR3 hK3 => kk lo3 ar3 (hR.tr hR3 (by omega) (by omega) (by omega) (by omega)) ?_)
            rw [pK, pE_of h1, pE_of h2]
            exact ⟨fun _ => ⟨pK_cong f 2 dp lp q w (by decide) h2 (fun x a b => hR3.2.2.2 x (by omega)) hK, fun _ => hK3⟩, fun z => absurd (c.symm.trans z) (by decide)⟩
          · refine kk lo2 ar2 (hR.tr pwR.rf (i := q) (j := j) (k := q) (l := j) (by omega) (by omega) (by omega) (by omega)) ?_
            rw [pK, pE_of h1, pE_of h2]
            exact ⟨fun _ => ⟨hK, fun z => absurd ⟨c, z⟩ c3⟩, fun z => absurd (c.symm.trans z) (by decide)⟩
        · obtain ⟨_, rfl⟩ := h3.resolve_left (fun z => absurd (c.symm.trans z.1) (by decide))
          refine sw_256 hm hm2 hS c hL hd ?_
          refine pw_expr hm hm2 f 3 dp (i + 1) q _ dp true (by decide) (by decide) h1 hS hd ?_
          refine IH 2 dp q j true true _ (by decide) hd h2 hS ⟨lp, hL, by rw [Bool.or_true]⟩ (fun lo2 ar2 hR hK => ?_)
          refine kk lo2 ar2 ⟨fun a a4 a5 a6 a7 => (hR.1 a a4 a5 a6 a7).trans (va_up_ne _ _ a5), fun x hx => hR.2.1 x hx, fun x hx => hR.2.2.1 x hx, fun x hx => ⟨(hR.2.2.2 x (by omega)).1, (hR.2.2.2 x (by omega)).2.trans (pk_un (by omega))⟩⟩ ?_
          rw [pK, pE_of h1, pE_of h2]
          exact ⟨fun z => absurd (c.symm.trans z) (by decide), fun _ => ⟨(hR.2.2.2 i (by omega)).2.trans pk_us, hK⟩⟩
    | 2, _, h, hL, kk =>
      obtain ⟨c, hd9, q, h1, h2, rfl⟩ := pP_t2 h
      obtain ⟨l0, hL, hlp⟩ := hL
      have l1 := pP_lt _ _ _ _ _ (by decide) h1
      have hi := lit_in c (by decide) (by decide)
      have hq := lit_in h2 (by decide) (by decide)
      refine sw_123 hm hm2 hS c hL hd9 hd ?_
      refine IH 0 (dp + 1) (i + 1) q lp lo _ (by decide) hd9 h1 hS (by rw [hlp]; exact pk_us) (fun lo2 ar2 hR hK => ?_)
      refine sw_125 hm hm2 (hR.s3.trans hS) h2 (o := i) ((hR.2.1 dp (by omega)).trans pk_us) (by omega) (Nat.succ_pos _) hd9 ?_
      refine kk lo2 _ ⟨fun a a4 a5 a6 a7 => (va_up_ne _ _ a4).trans ((hR.1 a a4 a5 a6 a7).trans ((va_up_ne _ _ a7).trans (va_up_ne _ _ a6))), fun x hx => (hR.2.1 x (by omega)).trans (pk_un (by omega)), fun x hx => (hR.2.2.1 x (by omega)).trans (pk_un (by omega)), fun x hx => ⟨(pk_un (by omega)).trans (hR.2.2.2 x (by omega)).1, (hR.2.2.2 x (by omega)).2⟩⟩ ?_
      rw [pK_2, pE_of h1]
      refine ⟨?_, pK_cong f 0 (dp + 1) lp (i + 1) q (by decide) h1 (fun x a b => ⟨pk_un (by omega), rfl⟩) hK⟩
      show upd (ar2 4) i (nI q) i + 1 = nI (q + 1)
      rw [pk_us, nI_1]
end PWS
