theorem zNw_of {w : Cond} (hw : zIsN w = true) {a : Array Value} {U : State} (h : w.before a U = true) : va_Nw w U := by
  cases w <;> first | exact va_Nw.of rfl h | (simp [zIsN] at hw)
theorem zT_of {w : Cond} (hw : zIsT w = true) {a : Array Value} {U : State} (h : w.before a U = true) : va_Nw w U := by
  cases w <;> first | exact va_Nw.of rfl h | (simp [zIsT] at hw)
set_option maxRecDepth 20000 in
theorem zTB_in : ∀ w ∈ zTB, w ∈ lw_tbl := by decide +kernel
set_option maxRecDepth 20000 in
theorem z_els : ∀ j, j < 137 → Cond.eq (.elem (.field (.string "StatementRules2$Tokens" 19) "java/lang/String" "value" "[B") (.int (Int32.ofNat j))) (.int (zBY.getD j 0)) ∈ flatC (Jvm.Cond.and given_1 narrow_1) := by decide +kernel
set_option maxRecDepth 20000 in
theorem k_L_law_arrayOver_object_SR_Open : Cond.arrayOver (.object "StatementRules2$Open") ∈ lw_tbl := by decide +kernel
set_option maxRecDepth 20000 in
theorem k_L_law_arrayOver_object_SR_Frame : Cond.arrayOver (.object "StatementRules2$Frame") ∈ lw_tbl := by decide +kernel
set_option maxRecDepth 20000 in
theorem k_L_law_arrayOver_object_SR_Thrown : Cond.arrayOver (.object "StatementRules2$Thrown") ∈ lw_tbl := by decide +kernel
set_option maxRecDepth 20000 in
theorem k_L_law_laysStatic_Bundle_tN_UNASSIGNED_STACK_Bundle_steD : Cond.laysStatic Bundle.tN "UNASSIGNED_STACK" Bundle.steD ∈ lw_tbl := by decide +kernel
set_option maxRecDepth 20000 in
theorem k_L_law_initialized_Bundle_tN : Cond.initialized Bundle.tN ∈ lw_tbl := by decide +kernel
set_option maxRecDepth 20000 in
theorem z_fl1 : Cond.isRef (.static Bundle.tN "UNASSIGNED_STACK" Bundle.steD) ∈ flatC (Jvm.Cond.and given_1 narrow_1) := by decide +kernel
set_option maxRecDepth 20000 in
theorem k_L_law_laysStatic_Bundle_tN_SUPPRESSED_SENTINEL_Bundle_listD : Cond.laysStatic Bundle.tN "SUPPRESSED_SENTINEL" Bundle.listD ∈ lw_tbl := by decide +kernel
set_option maxRecDepth 20000 in
theorem z_fl2 : Cond.isRef (.static Bundle.tN "SUPPRESSED_SENTINEL" Bundle.listD) ∈ flatC (Jvm.Cond.and given_1 narrow_1) := by decide +kernel
set_option maxRecDepth 20000 in
theorem z_fl3 : Cond.exactly (.string "StatementRules2$Tokens" 19) "java/lang/String" ∈ flatC (Jvm.Cond.and given_1 narrow_1) := by decide +kernel
set_option maxRecDepth 20000 in
theorem z_fl4 : Cond.eq (.field (.string "StatementRules2$Tokens" 19) "java/lang/String" "coder" "B") (.int 0) ∈ flatC (Jvm.Cond.and given_1 narrow_1) := by decide +kernel
set_option maxRecDepth 20000 in
theorem z_fl5 : Cond.arrayOf (.field (.string "StatementRules2$Tokens" 19) "java/lang/String" "value" "[B") .byte ∈ flatC (Jvm.Cond.and given_1 narrow_1) := by decide +kernel
set_option maxRecDepth 20000 in
theorem z_fl6 : Cond.eq (.length (.field (.string "StatementRules2$Tokens" 19) "java/lang/String" "value" "[B")) (.int 137) ∈ flatC (Jvm.Cond.and given_1 narrow_1) := by decide +kernel
set_option maxRecDepth 20000 in
theorem k_L_law_stringRef_RX9_19_zTX : Cond.stringRef RX9 19 zTX ∈ lw_tbl := by decide +kernel
set_option maxRecDepth 20000 in
theorem k_L_law_laysStatic_java_lang_String_COMPACT_STRINGS_Z : Cond.laysStatic "java/lang/String" "COMPACT_STRINGS" "Z" ∈ lw_tbl := by decide +kernel
set_option maxRecDepth 20000 in
theorem k_L_law_initialized_java_lang_String : Cond.initialized "java/lang/String" ∈ lw_tbl := by decide +kernel
set_option maxRecDepth 20000 in
theorem z_fl7 : Cond.eq (.static "java/lang/String" "COMPACT_STRINGS" "Z") (.int 1) ∈ flatC (Jvm.Cond.and given_1 narrow_1) := by decide +kernel
set_option maxRecDepth 20000 in
theorem k_L_law_laysStatic_jdk_internal_util_Preconditions_SIOOBE_FORMATTER_Ljava_util_function_BiFunction : Cond.laysStatic "jdk/internal/util/Preconditions" "SIOOBE_FORMATTER" "Ljava/util/function/BiFunction;" ∈ lw_tbl := by decide +kernel
set_option maxRecDepth 20000 in
theorem k_L_law_initialized_jdk_internal_util_Preconditions : Cond.initialized "jdk/internal/util/Preconditions" ∈ lw_tbl := by decide +kernel
set_option maxRecDepth 20000 in
theorem z_fl8 : Cond.isRef (.static "jdk/internal/util/Preconditions" "SIOOBE_FORMATTER" "Ljava/util/function/BiFunction;") ∈ flatC (Jvm.Cond.and given_1 narrow_1) := by decide +kernel
set_option maxRecDepth 20000 in
theorem i_L_law_X0 : ∀ w ∈ wsX00, w ∈ lw_tbl := by decide +kernel
set_option maxRecDepth 20000 in
theorem k_L_law_instantiable_RX0_13 : Cond.instantiable RX0 13 ∈ lw_tbl := by decide +kernel
set_option maxRecDepth 20000 in
theorem i_L_law_X2 : ∀ w ∈ wsX20, w ∈ lw_tbl := by decide +kernel
set_option maxRecDepth 20000 in
theorem k_L_law_instantiable_RX2_8 : Cond.instantiable RX2 8 ∈ lw_tbl := by decide +kernel
set_option maxRecDepth 20000 in
theorem i_L_law_X3 : ∀ w ∈ wsX30, w ∈ lw_tbl := by decide +kernel
set_option maxRecDepth 20000 in
theorem k_L_law_instantiable_RX3_20 : Cond.instantiable RX3 20 ∈ lw_tbl := by decide +kernel
set_option maxRecDepth 20000 in
theorem i_L_law_X4 : ∀ w ∈ wsX40, w ∈ lw_tbl := by decide +kernel
set_option maxRecDepth 20000 in
theorem k_L_law_instantiable_RX4_4 : Cond.instantiable RX4 4 ∈ lw_tbl := by decide +kernel
set_option maxRecDepth 20000 in
theorem i_L_law_X5 : ∀ w ∈ wsX50, w ∈ lw_tbl := by decide +kernel
set_option maxRecDepth 20000 in
theorem k_L_law_instantiable_RX5_17 : Cond.instantiable RX5 17 ∈ lw_tbl := by decide +kernel
set_option maxRecDepth 20000 in
theorem i_L_law_X6 : ∀ w ∈ wsX60, w ∈ lw_tbl := by decide +kernel
set_option maxRecDepth 20000 in
theorem k_L_law_instantiable_RX6_6 : Cond.instantiable RX6 6 ∈ lw_tbl := by decide +kernel
set_option maxRecDepth 20000 in
theorem i_L_law_X7 : ∀ w ∈ wsX70, w ∈ lw_tbl := by decide +kernel
set_option maxRecDepth 20000 in
theorem k_L_law_instantiable_RX7_11 : Cond.instantiable RX7 11 ∈ lw_tbl := by decide +kernel
set_option maxRecDepth 20000 in
theorem i_L_law_X8 : ∀ w ∈ wsX80, w ∈ lw_tbl := by decide +kernel
set_option maxRecDepth 20000 in
theorem k_L_law_instantiable_RX8_5 : Cond.instantiable RX8 5 ∈ lw_tbl := by decide +kernel
set_option maxRecDepth 20000 in
theorem i_L_law_X9 : ∀ w ∈ wsX90, w ∈ lw_tbl := by decide +kernel
set_option maxRecDepth 20000 in
theorem k_L_law_instantiable_RX9_8 : Cond.instantiable RX9 8 ∈ lw_tbl := by decide +kernel
set_option maxRecDepth 20000 in
theorem i_L_law_X10 : ∀ w ∈ wsX100, w ∈ lw_tbl := by decide +kernel
set_option maxRecDepth 20000 in
theorem k_L_law_instantiable_RX10_6 : Cond.instantiable RX10 6 ∈ lw_tbl := by decide +kernel
set_option maxRecDepth 20000 in
theorem i_L_law_X11 : ∀ w ∈ wsX110, w ∈ lw_tbl := by decide +kernel
set_option maxRecDepth 20000 in
theorem k_L_law_instantiable_RX11_9 : Cond.instantiable RX11 9 ∈ lw_tbl := by decide +kernel
set_option maxRecDepth 20000 in
theorem i_L_law_X12 : ∀ w ∈ wsX120, w ∈ lw_tbl := by decide +kernel
set_option maxRecDepth 20000 in
theorem k_L_law_instantiable_RX12_116 : Cond.instantiable RX12 116 ∈ lw_tbl := by decide +kernel
theorem z_amb {s : State} {b : Nat} (hts : ∀ w ∈ lw_tbl, w.before #[Value.ref b] s = true) : zAMB s :=
  ⟨fun w hw => zNw_of (List.all_eq_true.mp zNW_is w hw) (hts w (zNW_in w hw)), va_AO.of (hts (.arrayOver (.object "StatementRules2$Open")) k_L_law_arrayOver_object_SR_Open), va_AO.of (hts (.arrayOver (.object "StatementRules2$Frame")) k_L_law_arrayOver_object_SR_Frame), va_AO.of (hts (.arrayOver (.object "StatementRules2$Thrown")) k_L_law_arrayOver_object_SR_Thrown)⟩
theorem z_thr {s : State} {b : Nat} {A : Nat → Prop} (hts : ∀ w ∈ lw_tbl, w.before #[Value.ref b] s = true) (hgv : (Jvm.Cond.and given_1 narrow_1).before #[Value.ref b] s = true) (hAo : ∀ a : Nat, a < s.heap.size → ¬ A a) : zTHR A s s.heap :=
  ⟨fun w hw => zT_of (List.all_eq_true.mp zTB_is w hw) (hts w (zTB_in w hw)), vx_Zqof (hts (.laysStatic Bundle.tN "UNASSIGNED_STACK" Bundle.steD) k_L_law_laysStatic_Bundle_tN_UNASSIGNED_STACK_Bundle_steD) (hts (.initialized Bundle.tN) k_L_law_initialized_Bundle_tN) (flat_of_before _ hgv _ z_fl1) hAo, vx_Zqof (hts (.laysStatic Bundle.tN "SUPPRESSED_SENTINEL" Bundle.listD) k_L_law_laysStatic_Bundle_tN_SUPPRESSED_SENTINEL_Bundle_listD) (hts (.initialized Bundle.tN) k_L_law_initialized_Bundle_tN) (flat_of_before _ hgv _ z_fl2) hAo⟩
theorem z_str {s : State} {b : Nat} {A : Nat → Prop} (hts : ∀ w ∈ lw_tbl, w.before #[Value.ref b] s = true) (hgv : (Jvm.Cond.and given_1 narrow_1).before #[Value.ref b] s = true) (hAo : ∀ a : Nat, a < s.heap.size → ¬ A a) : ∃ aS aV : Nat, zSTR aS aV A s s.heap := by
  obtain ⟨adK, adV, hSt, hTm⟩ := vk_Sof (args := #[Value.ref b]) (s := s) (N := 1) (tm := fun _ => (.string "StatementRules2$Tokens" 19)) (len := [137]) (byt := [zBY]) (A := A) (fun i hi => by obtain rfl : i = 0 := (by omega); decide)
    (fun i _ => (flat_of_before _ hgv _ z_fl3))
    (fun i _ => (flat_of_before _ hgv _ z_fl4))
    (fun i _ => (flat_of_before _ hgv _ z_fl5))
    (fun i hi => by obtain rfl : i = 0 := (by omega); exact (flat_of_before _ hgv _ z_fl6))
    (fun i hi j hj => by obtain rfl : i = 0 := (by omega); exact flat_of_before _ hgv _ (z_els j hj))
    (fun i j hi hj hij => absurd (show i = j by omega) hij) hAo
  have h0 := hSt.1 0 (by decide)
  exact ⟨adK 0, adV 0, vk_R.of (hts (.stringRef RX9 19 zTX) k_L_law_stringRef_RX9_19_zTX) (hTm 0 (by decide)), h0.1, h0.2.1, h0.2.2.1, h0.2.2.2, va_Zof (hts (.laysStatic "java/lang/String" "COMPACT_STRINGS" "Z") k_L_law_laysStatic_java_lang_String_COMPACT_STRINGS_Z) (hts (.initialized "java/lang/String") k_L_law_initialized_java_lang_String) (va_eqt (flat_of_before _ hgv _ z_fl7)) hAo, va_Zqof (hts (.laysStatic "jdk/internal/util/Preconditions" "SIOOBE_FORMATTER" "Ljava/util/function/BiFunction;") k_L_law_laysStatic_jdk_internal_util_Preconditions_SIOOBE_FORMATTER_Ljava_util_function_BiFunction) (hts (.initialized "jdk/internal/util/Preconditions") k_L_law_initialized_jdk_internal_util_Preconditions) (flat_of_before _ hgv _ z_fl8) hAo⟩
theorem z_cls {s : State} {b : Nat} (hts : ∀ w ∈ lw_tbl, w.before #[Value.ref b] s = true) : ∃ (dC : Nat → ClassId) (dI : Nat → Nat → Nat), va_K (dC, dI) vwCl [] s := by
  obtain ⟨c0, i0, hk0⟩ := u_known (C := RX0) (T := TX0) (N := 13) (n := 13) hts i_L_law_X0 (hts (.instantiable RX0 13) k_L_law_instantiable_RX0_13)
  obtain ⟨c1, i1, hk1⟩ := u_known (C := RX2) (T := TX2) (N := 8) (n := 8) hts i_L_law_X2 (hts (.instantiable RX2 8) k_L_law_instantiable_RX2_8)
  obtain ⟨c2, i2, hk2⟩ := u_known (C := RX3) (T := TX3) (N := 20) (n := 20) hts i_L_law_X3 (hts (.instantiable RX3 20) k_L_law_instantiable_RX3_20)
  obtain ⟨c3, i3, hk3⟩ := u_known (C := RX4) (T := TX4) (N := 4) (n := 4) hts i_L_law_X4 (hts (.instantiable RX4 4) k_L_law_instantiable_RX4_4)
  obtain ⟨c4, i4, hk4⟩ := u_known (C := RX5) (T := TX5) (N := 17) (n := 17) hts i_L_law_X5 (hts (.instantiable RX5 17) k_L_law_instantiable_RX5_17)
  obtain ⟨c5, i5, hk5⟩ := u_known (C := RX6) (T := TX6) (N := 6) (n := 6) hts i_L_law_X6 (hts (.instantiable RX6 6) k_L_law_instantiable_RX6_6)
  obtain ⟨c6, i6, hk6⟩ := u_known (C := RX7) (T := TX7) (N := 11) (n := 11) hts i_L_law_X7 (hts (.instantiable RX7 11) k_L_law_instantiable_RX7_11)
  obtain ⟨c7, i7, hk7⟩ := u_known (C := RX8) (T := TX8) (N := 5) (n := 5) hts i_L_law_X8 (hts (.instantiable RX8 5) k_L_law_instantiable_RX8_5)
  obtain ⟨c8, i8, hk8⟩ := u_known (C := RX9) (T := TX9) (N := 8) (n := 8) hts i_L_law_X9 (hts (.instantiable RX9 8) k_L_law_instantiable_RX9_8)
  obtain ⟨c9, i9, hk9⟩ := u_known (C := RX10) (T := TX10) (N := 6) (n := 6) hts i_L_law_X10 (hts (.instantiable RX10 6) k_L_law_instantiable_RX10_6)
  obtain ⟨c10, i10, hk10⟩ := u_known (C := RX11) (T := TX11) (N := 9) (n := 9) hts i_L_law_X11 (hts (.instantiable RX11 9) k_L_law_instantiable_RX11_9)
  obtain ⟨c11, i11, hk11⟩ := u_known (C := RX12) (T := TX12) (N := 116) (n := 116) hts i_L_law_X12 (hts (.instantiable RX12 116) k_L_law_instantiable_RX12_116)
  refine ⟨fun k => [c0, c1, c2, c3, c4, c5, c6, c7, c8, c9, c10, c11].getD k c0, fun k => [i0, i1, i2, i3, i4, i5, i6, i7, i8, i9, i10, i11].getD k i0, ?_, fun k q h => by simp at h⟩
  intro k q hq
  match k, hq with
  | 0, hq => cases hq; exact hk0
  | 1, hq => cases hq; exact hk1
  | 2, hq => cases hq; exact hk2
  | 3, hq => cases hq; exact hk3
  | 4, hq => cases hq; exact hk4
  | 5, hq => cases hq; exact hk5
  | 6, hq => cases hq; exact hk6
  | 7, hq => cases hq; exact hk7
  | 8, hq => cases hq; exact hk8
  | 9, hq => cases hq; exact hk9
  | 10, hq => cases hq; exact hk10
  | 11, hq => cases hq; exact hk11
  | k + 12, hq => simp [vwCl] at hq
