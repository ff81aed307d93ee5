theorem zNw_of {w : Cond} (hw : zIsN w = true) {a : Array Value} {U : State} (h : w.before a U = true) : va_Nw w U := by
  cases w <;> first | exact va_Nw.of rfl h | (simp [zIsN] at hw)
theorem zT_of {w : Cond} (hw : zIsT w = true) {a : Array Value} {U : State} (h : w.before a U = true) : va_Nw w U := by
  cases w <;> first | exact va_Nw.of rfl h | (simp [zIsT] at hw)
set_option maxRecDepth 20000 in
theorem zTB_in : ∀ w ∈ zTB, w ∈ lw_tbl := by decide +kernel
set_option maxRecDepth 20000 in
theorem z_els0 : ∀ j, j < 137 → (flatC (Jvm.Cond.and given_1 narrow_1))[27 + j]? = some (Cond.eq (.elem (.field (.string "StatementRules2$Tokens" 19) "java/lang/String" "value" "[B") (.int (Int32.ofNat j))) (.int (zBY.getD j 0))) := by decide +kernel
theorem z_els (j : Nat) (hj : j < 137) : Cond.eq (.elem (.field (.string "StatementRules2$Tokens" 19) "java/lang/String" "value" "[B") (.int (Int32.ofNat j))) (.int (zBY.getD j 0)) ∈ flatC (Jvm.Cond.and given_1 narrow_1) := List.mem_of_getElem? (z_els0 j hj)
set_option maxRecDepth 20000 in
theorem k_L_law_arrayOver_object_SR_Open : Cond.arrayOver (.object "StatementRules2$Open") ∈ lw_tbl := List.mem_of_getElem? (i := 407) (by decide +kernel)
set_option maxRecDepth 20000 in
theorem k_L_law_arrayOver_object_SR_Frame : Cond.arrayOver (.object "StatementRules2$Frame") ∈ lw_tbl := List.mem_of_getElem? (i := 486) (by decide +kernel)
set_option maxRecDepth 20000 in
theorem k_L_law_arrayOver_object_SR_Thrown : Cond.arrayOver (.object "StatementRules2$Thrown") ∈ lw_tbl := List.mem_of_getElem? (i := 488) (by decide +kernel)
set_option maxRecDepth 20000 in
theorem k_L_law_laysStatic_Bundle_tN_UNASSIGNED_STACK_Bundle_steD : Cond.laysStatic Bundle.tN "UNASSIGNED_STACK" Bundle.steD ∈ lw_tbl := List.mem_of_getElem? (i := 1470) (by decide +kernel)
set_option maxRecDepth 20000 in
theorem k_L_law_initialized_Bundle_tN : Cond.initialized Bundle.tN ∈ lw_tbl := List.mem_of_getElem? (i := 179) (by decide +kernel)
set_option maxRecDepth 20000 in
theorem z_fl1 : Cond.isRef (.static Bundle.tN "UNASSIGNED_STACK" Bundle.steD) ∈ flatC (Jvm.Cond.and given_1 narrow_1) := List.mem_of_getElem? (i := 9) (by decide +kernel)
set_option maxRecDepth 20000 in
theorem k_L_law_laysStatic_Bundle_tN_SUPPRESSED_SENTINEL_Bundle_listD : Cond.laysStatic Bundle.tN "SUPPRESSED_SENTINEL" Bundle.listD ∈ lw_tbl := List.mem_of_getElem? (i := 1472) (by decide +kernel)
set_option maxRecDepth 20000 in
theorem z_fl2 : Cond.isRef (.static Bundle.tN "SUPPRESSED_SENTINEL" Bundle.listD) ∈ flatC (Jvm.Cond.and given_1 narrow_1) := List.mem_of_getElem? (i := 10) (by decide +kernel)
set_option maxRecDepth 20000 in
theorem z_fl3 : Cond.exactly (.string "StatementRules2$Tokens" 19) "java/lang/String" ∈ flatC (Jvm.Cond.and given_1 narrow_1) := List.mem_of_getElem? (i := 23) (by decide +kernel)
set_option maxRecDepth 20000 in
theorem z_fl4 : Cond.eq (.field (.string "StatementRules2$Tokens" 19) "java/lang/String" "coder" "B") (.int 0) ∈ flatC (Jvm.Cond.and given_1 narrow_1) := List.mem_of_getElem? (i := 24) (by decide +kernel)
set_option maxRecDepth 20000 in
theorem z_fl5 : Cond.arrayOf (.field (.string "StatementRules2$Tokens" 19) "java/lang/String" "value" "[B") .byte ∈ flatC (Jvm.Cond.and given_1 narrow_1) := List.mem_of_getElem? (i := 25) (by decide +kernel)
set_option maxRecDepth 20000 in
theorem z_fl6 : Cond.eq (.length (.field (.string "StatementRules2$Tokens" 19) "java/lang/String" "value" "[B")) (.int 137) ∈ flatC (Jvm.Cond.and given_1 narrow_1) := List.mem_of_getElem? (i := 26) (by decide +kernel)
set_option maxRecDepth 20000 in
theorem k_L_law_stringRef_RX9_19_zTX : Cond.stringRef RX9 19 zTX ∈ lw_tbl := List.mem_of_getElem? (i := 289) (by decide +kernel)
set_option maxRecDepth 20000 in
theorem k_L_law_laysStatic_java_lang_String_COMPACT_STRINGS_Z : Cond.laysStatic "java/lang/String" "COMPACT_STRINGS" "Z" ∈ lw_tbl := List.mem_of_getElem? (i := 299) (by decide +kernel)
set_option maxRecDepth 20000 in
theorem k_L_law_initialized_java_lang_String : Cond.initialized "java/lang/String" ∈ lw_tbl := List.mem_of_getElem? (i := 167) (by decide +kernel)
set_option maxRecDepth 20000 in
theorem z_fl7 : Cond.eq (.static "java/lang/String" "COMPACT_STRINGS" "Z") (.int 1) ∈ flatC (Jvm.Cond.and given_1 narrow_1) := List.mem_of_getElem? (i := 4) (by decide +kernel)
set_option maxRecDepth 20000 in
theorem k_L_law_laysStatic_jdk_internal_util_Preconditions_SIOOBE_FORMATTER_Ljava_util_function_BiFunction : Cond.laysStatic "jdk/internal/util/Preconditions" "SIOOBE_FORMATTER" "Ljava/util/function/BiFunction;" ∈ lw_tbl := List.mem_of_getElem? (i := 315) (by decide +kernel)
set_option maxRecDepth 20000 in
theorem k_L_law_initialized_jdk_internal_util_Preconditions : Cond.initialized "jdk/internal/util/Preconditions" ∈ lw_tbl := List.mem_of_getElem? (i := 169) (by decide +kernel)
set_option maxRecDepth 20000 in
theorem z_fl8 : Cond.isRef (.static "jdk/internal/util/Preconditions" "SIOOBE_FORMATTER" "Ljava/util/function/BiFunction;") ∈ flatC (Jvm.Cond.and given_1 narrow_1) := List.mem_of_getElem? (i := 5) (by decide +kernel)
set_option maxRecDepth 20000 in
theorem i_L_law_X0 : ∀ w ∈ wsX00, w ∈ lw_tbl := z_at [254, 256, 258, 260, 262, 264, 266, 268, 270, 272, 274, 276, 278] (by decide +kernel)
set_option maxRecDepth 20000 in
theorem k_L_law_instantiable_RX0_13 : Cond.instantiable RX0 13 ∈ lw_tbl := List.mem_of_getElem? (i := 222) (by decide +kernel)
set_option maxRecDepth 20000 in
theorem i_L_law_X2 : ∀ w ∈ wsX20, w ∈ lw_tbl := z_at [1337, 1339, 1341, 1343, 1345, 1347, 1349, 1351] (by decide +kernel)
set_option maxRecDepth 20000 in
theorem k_L_law_instantiable_RX2_8 : Cond.instantiable RX2 8 ∈ lw_tbl := List.mem_of_getElem? (i := 1324) (by decide +kernel)
set_option maxRecDepth 20000 in
theorem i_L_law_X3 : ∀ w ∈ wsX30, w ∈ lw_tbl := z_at [511, 513, 515, 517, 519, 521, 523, 525, 527, 529, 531, 533, 535, 537, 539, 541, 543, 545, 547, 549] (by decide +kernel)
set_option maxRecDepth 20000 in
theorem k_L_law_instantiable_RX3_20 : Cond.instantiable RX3 20 ∈ lw_tbl := List.mem_of_getElem? (i := 480) (by decide +kernel)
set_option maxRecDepth 20000 in
theorem i_L_law_X4 : ∀ w ∈ wsX40, w ∈ lw_tbl := z_at [391, 393, 395, 397] (by decide +kernel)
set_option maxRecDepth 20000 in
theorem k_L_law_instantiable_RX4_4 : Cond.instantiable RX4 4 ∈ lw_tbl := List.mem_of_getElem? (i := 381) (by decide +kernel)
set_option maxRecDepth 20000 in
theorem i_L_law_X5 : ∀ w ∈ wsX50, w ∈ lw_tbl := z_at [744, 746, 748, 750, 752, 754, 756, 758, 760, 762, 764, 766, 768, 770, 772, 774, 776] (by decide +kernel)
set_option maxRecDepth 20000 in
theorem k_L_law_instantiable_RX5_17 : Cond.instantiable RX5 17 ∈ lw_tbl := List.mem_of_getElem? (i := 708) (by decide +kernel)
set_option maxRecDepth 20000 in
theorem i_L_law_X6 : ∀ w ∈ wsX60, w ∈ lw_tbl := z_at [417, 419, 421, 423, 425, 427] (by decide +kernel)
set_option maxRecDepth 20000 in
theorem k_L_law_instantiable_RX6_6 : Cond.instantiable RX6 6 ∈ lw_tbl := List.mem_of_getElem? (i := 401) (by decide +kernel)
set_option maxRecDepth 20000 in
theorem i_L_law_X7 : ∀ w ∈ wsX70, w ∈ lw_tbl := z_at [464, 466, 468, 470, 472, 474, 476, 456, 458, 460, 462] (by decide +kernel)
set_option maxRecDepth 20000 in
theorem k_L_law_instantiable_RX7_11 : Cond.instantiable RX7 11 ∈ lw_tbl := List.mem_of_getElem? (i := 282) (by decide +kernel)
set_option maxRecDepth 20000 in
theorem i_L_law_X8 : ∀ w ∈ wsX80, w ∈ lw_tbl := z_at [1268, 1270, 1272, 1274, 1276] (by decide +kernel)
set_option maxRecDepth 20000 in
theorem k_L_law_instantiable_RX8_5 : Cond.instantiable RX8 5 ∈ lw_tbl := List.mem_of_getElem? (i := 1254) (by decide +kernel)
set_option maxRecDepth 20000 in
theorem i_L_law_X9 : ∀ w ∈ wsX90, w ∈ lw_tbl := z_at [354, 356, 358, 360, 362, 364, 366, 368] (by decide +kernel)
set_option maxRecDepth 20000 in
theorem k_L_law_instantiable_RX9_8 : Cond.instantiable RX9 8 ∈ lw_tbl := List.mem_of_getElem? (i := 284) (by decide +kernel)
set_option maxRecDepth 20000 in
theorem i_L_law_X10 : ∀ w ∈ wsX100, w ∈ lw_tbl := z_at [207, 209, 211, 213, 215, 217] (by decide +kernel)
set_option maxRecDepth 20000 in
theorem k_L_law_instantiable_RX10_6 : Cond.instantiable RX10 6 ∈ lw_tbl := List.mem_of_getElem? (i := 192) (by decide +kernel)
set_option maxRecDepth 20000 in
theorem i_L_law_X11 : ∀ w ∈ wsX110, w ∈ lw_tbl := z_at [561, 563, 565, 567, 569, 571, 573, 575, 577] (by decide +kernel)
set_option maxRecDepth 20000 in
theorem k_L_law_instantiable_RX11_9 : Cond.instantiable RX11 9 ∈ lw_tbl := List.mem_of_getElem? (i := 184) (by decide +kernel)
set_option maxRecDepth 20000 in
theorem i_L_law_X12 : ∀ w ∈ wsX120, w ∈ lw_tbl := z_at [1651, 1653, 1655, 1657, 1659, 1661, 1663, 1665, 1667, 1669, 1671, 1673, 1675, 1677, 1679, 1681, 1683, 1685, 1687, 1689, 1691, 1693, 1695, 1697, 1699, 1701, 1703, 1705, 1707, 1709, 1711, 1713, 1715, 1717, 1719, 1721, 1723, 1725, 1727, 1729, 1731, 1733, 1735, 1737, 1739, 1741, 1743, 1745, 1747, 1749, 1751, 1753, 1755, 1757, 1759, 1761, 1763, 1765, 1767, 1769, 1771, 1773, 1775, 1777, 1779, 1781, 1783, 1785, 1787, 1789, 1791, 1793, 1795, 1797, 1799, 1801, 1803, 1805, 1807, 1809, 1811, 1813, 1815, 1817, 1819, 1821, 1823, 1825, 1827, 1829, 1831, 1833, 1835, 1837, 1839, 1841, 1843, 1845, 1847, 1849, 1851, 1853, 1855, 1857, 1859, 1861, 1863, 1865, 1867, 1869, 1871, 1873, 1875, 1877, 1879, 1881] (by decide +kernel)
set_option maxRecDepth 20000 in
theorem k_L_law_instantiable_RX12_116 : Cond.instantiable RX12 116 ∈ lw_tbl := List.mem_of_getElem? (i := 1505) (by decide +kernel)
theorem z_amb {s : State} {b : Nat} (hts : ∀ w ∈ lw_tbl, w.before #[Value.ref b] s = true) : zAMB s :=
  ⟨fun w hw => zNw_of (List.all_eq_true.mp zNW_is w hw) (hts w (zNW_in w hw)), va_AO.of (hts (.arrayOver (.object "StatementRules2$Open")) k_L_law_arrayOver_object_SR_Open), va_AO.of (hts (.arrayOver (.object "StatementRules2$Frame")) k_L_law_arrayOver_object_SR_Frame), va_AO.of (hts (.arrayOver (.object "StatementRules2$Thrown")) k_L_law_arrayOver_object_SR_Thrown)⟩
theorem z_thr {s : State} {b : Nat} {A : Nat → Prop} (hts : ∀ w ∈ lw_tbl, w.before #[Value.ref b] s = true) (hgv : (Jvm.Cond.and given_1 narrow_1).before #[Value.ref b] s = true) (hAo : ∀ a : Nat, a < s.heap.size → ¬ A a) : zTHR A s s.heap :=
  ⟨fun w hw => zT_of (List.all_eq_true.mp zTB_is w hw) (hts w (zTB_in w hw)), vx_Zqof (hts (.laysStatic Bundle.tN "UNASSIGNED_STACK" Bundle.steD) k_L_law_laysStatic_Bundle_tN_UNASSIGNED_STACK_Bundle_steD) (hts (.initialized Bundle.tN) k_L_law_initialized_Bundle_tN) (flat_of_before _ hgv _ z_fl1) hAo, vx_Zqof (hts (.laysStatic Bundle.tN "SUPPRESSED_SENTINEL" Bundle.listD) k_L_law_laysStatic_Bundle_tN_SUPPRESSED_SENTINEL_Bundle_listD) (hts (.initialized Bundle.tN) k_L_law_initialized_Bundle_tN) (flat_of_before _ hgv _ z_fl2) hAo⟩
theorem z_str {s : State} {b : Nat} {A : Nat → Prop} (hts : ∀ w ∈ lw_tbl, w.before #[Value.ref b] s = true) (hgv : (Jvm.Cond.and given_1 narrow_1).before #[Value.ref b] s = true) (hAo : ∀ a : Nat, a < s.heap.size → ¬ A a) : ∃ aS aV : Nat, zSTR aS aV A s s.heap := by
  obtain ⟨adK, adV, hSt, hTm⟩ := vk_Sof (args := #[Value.ref b]) (s := s) (N := 1) (tm := fun _ => (.string "StatementRules2$Tokens" 19)) (len := [137]) (byt := [zBY]) (A := A) (fun i hi => by obtain rfl : i = 0 := (by omega); decide)
    (fun i _ => (flat_of_before _ hgv _ z_fl3))
    (fun i _ => (flat_of_before _ hgv _ z_fl4))
    (fun i _ => (flat_of_before _ hgv _ z_fl5))
    (fun i hi => by obtain rfl : i = 0 := (by omega); exact (flat_of_before _ hgv _ z_fl6))
    (fun i hi j hj => by obtain rfl : i = 0 := (by omega); exact flat_of_before _ hgv _ (z_els j hj))
    (fun i j hi hj hij => absurd (show i = j by omega) hij) hAo
  have h0 := hSt.1 0 (by decide)
  exact ⟨adK 0, adV 0, vk_R.of (hts (.stringRef RX9 19 zTX) k_L_law_stringRef_RX9_19_zTX) (hTm 0 (by decide)), h0.1, h0.2.1, h0.2.2.1, h0.2.2.2, va_Zof (hts (.laysStatic "java/lang/String" "COMPACT_STRINGS" "Z") k_L_law_laysStatic_java_lang_String_COMPACT_STRINGS_Z) (hts (.initialized "java/lang/String") k_L_law_initialized_java_lang_String) (va_eqt (flat_of_before _ hgv _ z_fl7)) hAo, va_Zqof (hts (.laysStatic "jdk/internal/util/Preconditions" "SIOOBE_FORMATTER" "Ljava/util/function/BiFunction;") k_L_law_laysStatic_jdk_internal_util_Preconditions_SIOOBE_FORMATTER_Ljava_util_function_BiFunction) (hts (.initialized "jdk/internal/util/Preconditions") k_L_law_initialized_jdk_internal_util_Preconditions) (flat_of_before _ hgv _ z_fl8) hAo⟩
theorem z_cls {s : State} {b : Nat} (hts : ∀ w ∈ lw_tbl, w.before #[Value.ref b] s = true) : ∃ (dC : Nat → ClassId) (dI : Nat → Nat → Nat), va_K (dC, dI) vwCl [] s := by
  obtain ⟨c0, i0, hk0⟩ := u_known (C := RX0) (T := TX0) (N := 13) (n := 13) hts i_L_law_X0 (hts (.instantiable RX0 13) k_L_law_instantiable_RX0_13)
  obtain ⟨c1, i1, hk1⟩ := u_known (C := RX2) (T := TX2) (N := 8) (n := 8) hts i_L_law_X2 (hts (.instantiable RX2 8) k_L_law_instantiable_RX2_8)
  obtain ⟨c2, i2, hk2⟩ := u_known (C := RX3) (T := TX3) (N := 20) (n := 20) hts i_L_law_X3 (hts (.instantiable RX3 20) k_L_law_instantiable_RX3_20)
  obtain ⟨c3, i3, hk3⟩ := u_known (C := RX4) (T := TX4) (N := 4) (n := 4) hts i_L_law_X4 (hts (.instantiable RX4 4) k_L_law_instantiable_RX4_4)
  obtain ⟨c4, i4, hk4⟩ := u_known (C := RX5) (T := TX5) (N := 17) (n := 17) hts i_L_law_X5 (hts (.instantiable RX5 17) k_L_law_instantiable_RX5_17)
  obtain ⟨c5, i5, hk5⟩ := u_known (C := RX6) (T := TX6) (N := 6) (n := 6) hts i_L_law_X6 (hts (.instantiable RX6 6) k_L_law_instantiable_RX6_6)
  obtain ⟨c6, i6, hk6⟩ := u_known (C := RX7) (T := TX7) (N := 11) (n := 11) hts i_L_law_X7 (hts (.instantiable RX7 11) k_L_law_instantiable_RX7_11)
  obtain ⟨c7, i7, hk7⟩ := u_known (C := RX8) (T := TX8) (N := 5) (n := 5) hts i_L_law_X8 (hts (.instantiable RX8 5) k_L_law_instantiable_RX8_5)
  obtain ⟨c8, i8, hk8⟩ := u_known (C := RX9) (T := TX9) (N := 8) (n := 8) hts i_L_law_X9 (hts (.instantiable RX9 8) k_L_law_instantiable_RX9_8)
  obtain ⟨c9, i9, hk9⟩ := u_known (C := RX10) (T := TX10) (N := 6) (n := 6) hts i_L_law_X10 (hts (.instantiable RX10 6) k_L_law_instantiable_RX10_6)
  obtain ⟨c10, i10, hk10⟩ := u_known (C := RX11) (T := TX11) (N := 9) (n := 9) hts i_L_law_X11 (hts (.instantiable RX11 9) k_L_law_instantiable_RX11_9)
  obtain ⟨c11, i11, hk11⟩ := u_known (C := RX12) (T := TX12) (N := 116) (n := 116) hts i_L_law_X12 (hts (.instantiable RX12 116) k_L_law_instantiable_RX12_116)
  refine ⟨fun k => [c0, c1, c2, c3, c4, c5, c6, c7, c8, c9, c10, c11].getD k c0, fun k => [i0, i1, i2, i3, i4, i5, i6, i7, i8, i9, i10, i11].getD k i0, ?_, fun k q h => by simp at h⟩
  intro k q hq
  match k, hq with
  | 0, hq => cases hq; exact hk0
  | 1, hq => cases hq; exact hk1
  | 2, hq => cases hq; exact hk2
  | 3, hq => cases hq; exact hk3
  | 4, hq => cases hq; exact hk4
  | 5, hq => cases hq; exact hk5
  | 6, hq => cases hq; exact hk6
  | 7, hq => cases hq; exact hk7
  | 8, hq => cases hq; exact hk8
  | 9, hq => cases hq; exact hk9
  | 10, hq => cases hq; exact hk10
  | 11, hq => cases hq; exact hk11
  | k + 12, hq => simp [vwCl] at hq
