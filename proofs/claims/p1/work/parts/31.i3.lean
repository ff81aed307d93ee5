theorem k_X0_init_methodLink_RX0_3_objectInit : Cond.methodLink RX0 3 objectInit ∈ wzX0_init := List.mem_cons_of_mem _ (List.mem_append_left _ (List.mem_of_getElem? (i := 0) rfl))
theorem k_X0_init_instanceMethod_objectInit : Cond.instanceMethod objectInit ∈ wzX0_init := List.mem_cons_of_mem _ (List.mem_append_left _ (List.mem_of_getElem? (i := 1) rfl))
theorem k_X0_init_code_objectInit_0xb1_1_none : Cond.code objectInit ⟨#[0xb1]⟩ 1 none ∈ wzX0_init := List.mem_cons_of_mem _ (List.mem_append_left _ (List.mem_of_getElem? (i := 2) rfl))
theorem k_X0_init_arrayClass_int : Cond.arrayClass .int ∈ wzX0_init := List.mem_cons_of_mem _ (List.mem_append_left _ (List.mem_of_getElem? (i := 3) rfl))
theorem k_X0_init_fieldLink_RX0_9_SR_Code_ops_I : Cond.fieldLink RX0 9 "StatementRules2$Code" "ops" "[I" ∈ wzX0_init := List.mem_cons_of_mem _ (List.mem_append_left _ (List.mem_of_getElem? (i := 4) rfl))
theorem i_X0_init_X0 : ∀ w ∈ wsX00, w ∈ wzX0_init := fun _ h => List.mem_cons_of_mem _ (List.mem_append_right _ (List.mem_append_left _ (h)))
theorem k_X0_init_fieldLink_RX0_15_SR_Code_arguments_I : Cond.fieldLink RX0 15 "StatementRules2$Code" "arguments" "[I" ∈ wzX0_init := List.mem_cons_of_mem _ (List.mem_append_left _ (List.mem_of_getElem? (i := 5) rfl))
theorem k_X0_init_fieldLink_RX0_18_SR_Code_targets_I : Cond.fieldLink RX0 18 "StatementRules2$Code" "targets" "[I" ∈ wzX0_init := List.mem_cons_of_mem _ (List.mem_append_left _ (List.mem_of_getElem? (i := 6) rfl))
theorem k_X0_init_fieldLink_RX0_21_SR_Code_caseValues_I : Cond.fieldLink RX0 21 "StatementRules2$Code" "caseValues" "[I" ∈ wzX0_init := List.mem_cons_of_mem _ (List.mem_append_left _ (List.mem_of_getElem? (i := 7) rfl))
theorem k_X0_init_fieldLink_RX0_24_SR_Code_caseTargets_I : Cond.fieldLink RX0 24 "StatementRules2$Code" "caseTargets" "[I" ∈ wzX0_init := List.mem_cons_of_mem _ (List.mem_append_left _ (List.mem_of_getElem? (i := 8) rfl))
set_option maxHeartbeats 4000000 in
set_option maxRecDepth 100000 in
theorem c_X0_init (l : Launch) (dC : Nat → ClassId) (dI : Nat → Nat → Nat) (sz : Nat) (h0 : Nat) : Met l yX0_init wzX0_init ({ frames := 1, cells := 5, slots := 4064, locals := 60 }) (va_Pc [.ref h0] (zPre dC dI sz [(h0, .inr (0, [.null, .null, .null, .null, .null, .int 0, .int 0, .int 0, .int 0, .int 0, .int 0, .int 0, .int 0]))] [])) (va_Qv (fun (_ : Unit) => True) (fun (_ : Unit) (t : State) => ∃ (qo : Nat), ∃ (qa : Nat), ∃ (qt : Nat), ∃ (qv : Nat), ∃ (qw : Nat), ∃ (ko : ClassId), ∃ (ka : ClassId), zPost dC dI (va_A [(h0, .inr (0, [.null, .null, .null, .null, .null, .int 0, .int 0, .int 0, .int 0, .int 0, .int 0, .int 0, .int 0]))] sz) [(h0, .inr (0, [.ref qo, .ref qa, .ref qt, .ref qv, .ref qw, .int 0, .int 0, .int 0, .int 0, .int 0, .int 0, .int 0, .int 0])), (qo, .inl (ko, 1200, .inl (fun _ => 0))), (qa, .inl (ka, 1200, .inl (fun _ => 0)))] [(ko, .int), (ka, .int)] t) (va_A [(h0, .inr (0, [.null, .null, .null, .null, .null, .int 0, .int 0, .int 0, .int 0, .int 0, .int 0, .int 0, .int 0]))] sz)) 5 4064 (va_A [(h0, .inr (0, [.null, .null, .null, .null, .null, .int 0, .int 0, .int 0, .int 0, .int 0, .int 0, .int 0, .int 0]))] sz) := by
  refine Met.ofW (cc := cX0_init) (maxL := 1) (ret := none) (by decide) rfl ?_
  intro p e s m args below meth c s₁ B hml hv
  obtain ⟨rfl, hsz, hZ, hP, hK, hD0⟩ := hv
  have hx := B.exec
  have hb := B.bytes
  have hr := B.returns
  have hts := atoms_spec (ws := wzX0_init) B.pre
  have hown : s.vm.findClass RX0 = some m.cls := findClass_of_methodNamed B.named
  have hlocks := B.notSynchronized
  have hin : meth.name = "<init>" := (name_of_methodNamed B.named B.method).1
  subst hsz
  have hD := hD0.self (sz := s.heap.size)
  generalize hAe : va_A [(h0, .inr (0, [.null, .null, .null, .null, .null, .int 0, .int 0, .int 0, .int 0, .int 0, .int 0, .int 0, .int 0]))] s.heap.size = A at hD ⊢
  have hA : ∀ q : Nat, s.heap.size ≤ q → A q := fun q h => by rw [← hAe]; exact Or.inr h
  have hS : va_S A s.heap s.heap [] := va_S.rf
  have hP : va_P (dC, dI) vwCl [(h0, .inr (0, [.null, .null, .null, .null, .null, .int 0, .int 0, .int 0, .int 0, .int 0, .int 0, .int 0, .int 0]))] s.heap := hP
  have hl := lv_entry ([.ref h0]) (n := 1) (Nat.le_of_ble_eq_true rfl)
  rw [lg_entry_eq]
  generalize (lg_sl ([.ref h0]) ++ List.replicate (1 - (lg_sl ([.ref h0])).length) Slot.unset).toArray = ls at hl ⊢
  have hl : lv_has ls 1 [(0, .ref h0)] := hl
  refine lv_aload_n hx hb dX0_init_0 rfl (lv_at hl 0 rfl) ?_
  refine W.objInit hx hb hown (hts (.methodLink RX0 3 objectInit) k_X0_init_methodLink_RX0_3_objectInit) (hts (.instanceMethod objectInit) k_X0_init_instanceMethod_objectInit) (hts (.code objectInit ⟨#[0xb1]⟩ 1 none) k_X0_init_code_objectInit_0xb1_1_none) rfl (by rw [hml]; exact hl.1) rfl dX0_init_1 (Nat.le_of_ble_eq_true rfl) (Nat.le_of_ble_eq_true rfl) ?_
  refine W.eq (g2 := F0 m 4 ls []) rfl ?_
  refine lv_aload_n hx hb dX0_init_4 rfl (lv_at hl 0 rfl) ?_
  refine lv_sipush (v := 1200) hx hb dX0_init_5 (by decide) ?_
  refine va_newa (atype := .int) (ty := .int) (N' := 1200) (a0 := (1200, .inl (fun _ => 0))) hx hb (hts (.arrayClass .int) k_X0_init_arrayClass_int) rfl hK hP hD hS hA (z_newi 1200) (by decide) (by decide) (by decide) (Nat.le_of_ble_eq_true rfl) (Nat.le_of_ble_eq_true rfl) dX0_init_8 (fun q1 kq1 H hK hP hD hS => ?_)
  refine W.widen (k := 1) (n := 1200) (by omega) (by omega) ?_
  have hP : va_P (dC, dI) vwCl [(h0, .inr (0, [.null, .null, .null, .null, .null, .int 0, .int 0, .int 0, .int 0, .int 0, .int 0, .int 0, .int 0])), (q1, .inl (kq1, 1200, .inl (fun _ => 0)))] H := hP
  have hD : va_D A [(h0, .inr (0, [.null, .null, .null, .null, .null, .int 0, .int 0, .int 0, .int 0, .int 0, .int 0, .int 0, .int 0])), (q1, .inl (kq1, 1200, .inl (fun _ => 0)))] := hD
  have hK : va_K (dC, dI) vwCl [(kq1, .int)] s := hK
  refine va_putF (D := (dC, dI)) (ci := 0) (v := .ref q1) (ty := (.array .int)) (C := RX0) (T := TX0) (N := 13) hx hb hts i_X0_init_X0 tyX0 tyX0_ok nmX0 hown hK hP hD hS 0 rfl rfl 0 (by decide) (hts (.fieldLink RX0 9 "StatementRules2$Code" "ops" "[I") k_X0_init_fieldLink_RX0_9_SR_Code_ops_I) (fun _ h9 => h9) rfl hin rfl (by decide +kernel) rfl rfl (Nat.le_of_ble_eq_true rfl) dX0_init_10 (fun H locs hP hD hS => ?_)
  have hP : va_P (dC, dI) vwCl [(h0, .inr (0, [.ref q1, .null, .null, .null, .null, .int 0, .int 0, .int 0, .int 0, .int 0, .int 0, .int 0, .int 0])), (q1, .inl (kq1, 1200, .inl (fun _ => 0)))] H := hP
  have hD : va_D A [(h0, .inr (0, [.ref q1, .null, .null, .null, .null, .int 0, .int 0, .int 0, .int 0, .int 0, .int 0, .int 0, .int 0])), (q1, .inl (kq1, 1200, .inl (fun _ => 0)))] := hD
  refine lv_aload_n hx hb dX0_init_13 rfl (lv_at hl 0 rfl) ?_
  refine lv_sipush (v := 1200) hx hb dX0_init_14 (by decide) ?_
  refine va_newa (atype := .int) (ty := .int) (N' := 1200) (a0 := (1200, .inl (fun _ => 0))) hx hb (hts (.arrayClass .int) k_X0_init_arrayClass_int) rfl hK hP hD hS hA (z_newi 1200) (by decide) (by decide) (by decide) (Nat.le_of_ble_eq_true rfl) (Nat.le_of_ble_eq_true rfl) dX0_init_17 (fun q2 kq2 H hK hP hD hS => ?_)
  refine W.widen (k := 2) (n := 2400) (by omega) (by omega) ?_
  have hP : va_P (dC, dI) vwCl [(h0, .inr (0, [.ref q1, .null, .null, .null, .null, .int 0, .int 0, .int 0, .int 0, .int 0, .int 0, .int 0, .int 0])), (q1, .inl (kq1, 1200, .inl (fun _ => 0))), (q2, .inl (kq2, 1200, .inl (fun _ => 0)))] H := hP
  have hD : va_D A [(h0, .inr (0, [.ref q1, .null, .null, .null, .null, .int 0, .int 0, .int 0, .int 0, .int 0, .int 0, .int 0, .int 0])), (q1, .inl (kq1, 1200, .inl (fun _ => 0))), (q2, .inl (kq2, 1200, .inl (fun _ => 0)))] := hD
  have hK : va_K (dC, dI) vwCl [(kq1, .int), (kq2, .int)] s := hK
  refine va_putF (D := (dC, dI)) (ci := 0) (v := .ref q2) (ty := (.array .int)) (C := RX0) (T := TX0) (N := 13) hx hb hts i_X0_init_X0 tyX0 tyX0_ok nmX0 hown hK hP hD hS 0 rfl rfl 1 (by decide) (hts (.fieldLink RX0 15 "StatementRules2$Code" "arguments" "[I") k_X0_init_fieldLink_RX0_15_SR_Code_arguments_I) (fun _ h9 => h9) rfl hin rfl (by decide +kernel) rfl rfl (Nat.le_of_ble_eq_true rfl) dX0_init_19 (fun H locs hP hD hS => ?_)
  have hP : va_P (dC, dI) vwCl [(h0, .inr (0, [.ref q1, .ref q2, .null, .null, .null, .int 0, .int 0, .int 0, .int 0, .int 0, .int 0, .int 0, .int 0])), (q1, .inl (kq1, 1200, .inl (fun _ => 0))), (q2, .inl (kq2, 1200, .inl (fun _ => 0)))] H := hP
  have hD : va_D A [(h0, .inr (0, [.ref q1, .ref q2, .null, .null, .null, .int 0, .int 0, .int 0, .int 0, .int 0, .int 0, .int 0, .int 0])), (q1, .inl (kq1, 1200, .inl (fun _ => 0))), (q2, .inl (kq2, 1200, .inl (fun _ => 0)))] := hD
  refine lv_aload_n hx hb dX0_init_22 rfl (lv_at hl 0 rfl) ?_
  refine lv_sipush (v := 1024) hx hb dX0_init_23 (by decide) ?_
  refine va_newa (atype := .int) (ty := .int) (N' := 1024) (a0 := (1024, .inl (fun _ => 0))) hx hb (hts (.arrayClass .int) k_X0_init_arrayClass_int) rfl hK hP hD hS hA (z_newi 1024) (by decide) (by decide) (by decide) (Nat.le_of_ble_eq_true rfl) (Nat.le_of_ble_eq_true rfl) dX0_init_26 (fun q3 kq3 H hK hP hD hS => ?_)
  refine W.widen (k := 3) (n := 3424) (by omega) (by omega) ?_
  have hP : va_P (dC, dI) vwCl [(h0, .inr (0, [.ref q1, .ref q2, .null, .null, .null, .int 0, .int 0, .int 0, .int 0, .int 0, .int 0, .int 0, .int 0])), (q1, .inl (kq1, 1200, .inl (fun _ => 0))), (q2, .inl (kq2, 1200, .inl (fun _ => 0))), (q3, .inl (kq3, 1024, .inl (fun _ => 0)))] H := hP
  have hD : va_D A [(h0, .inr (0, [.ref q1, .ref q2, .null, .null, .null, .int 0, .int 0, .int 0, .int 0, .int 0, .int 0, .int 0, .int 0])), (q1, .inl (kq1, 1200, .inl (fun _ => 0))), (q2, .inl (kq2, 1200, .inl (fun _ => 0))), (q3, .inl (kq3, 1024, .inl (fun _ => 0)))] := hD
  have hK : va_K (dC, dI) vwCl [(kq1, .int), (kq2, .int), (kq3, .int)] s := hK
  refine va_putF (D := (dC, dI)) (ci := 0) (v := .ref q3) (ty := (.array .int)) (C := RX0) (T := TX0) (N := 13) hx hb hts i_X0_init_X0 tyX0 tyX0_ok nmX0 hown hK hP hD hS 0 rfl rfl 2 (by decide) (hts (.fieldLink RX0 18 "StatementRules2$Code" "targets" "[I") k_X0_init_fieldLink_RX0_18_SR_Code_targets_I) (fun _ h9 => h9) rfl hin rfl (by decide +kernel) rfl rfl (Nat.le_of_ble_eq_true rfl) dX0_init_28 (fun H locs hP hD hS => ?_)
  have hP : va_P (dC, dI) vwCl [(h0, .inr (0, [.ref q1, .ref q2, .ref q3, .null, .null, .int 0, .int 0, .int 0, .int 0, .int 0, .int 0, .int 0, .int 0])), (q1, .inl (kq1, 1200, .inl (fun _ => 0))), (q2, .inl (kq2, 1200, .inl (fun _ => 0))), (q3, .inl (kq3, 1024, .inl (fun _ => 0)))] H := hP
  have hD : va_D A [(h0, .inr (0, [.ref q1, .ref q2, .ref q3, .null, .null, .int 0, .int 0, .int 0, .int 0, .int 0, .int 0, .int 0, .int 0])), (q1, .inl (kq1, 1200, .inl (fun _ => 0))), (q2, .inl (kq2, 1200, .inl (fun _ => 0))), (q3, .inl (kq3, 1024, .inl (fun _ => 0)))] := hD
  refine lv_aload_n hx hb dX0_init_31 rfl (lv_at hl 0 rfl) ?_
  refine lv_sipush (v := 320) hx hb dX0_init_32 (by decide) ?_
  refine va_newa (atype := .int) (ty := .int) (N' := 320) (a0 := (320, .inl (fun _ => 0))) hx hb (hts (.arrayClass .int) k_X0_init_arrayClass_int) rfl hK hP hD hS hA (z_newi 320) (by decide) (by decide) (by decide) (Nat.le_of_ble_eq_true rfl) (Nat.le_of_ble_eq_true rfl) dX0_init_35 (fun q4 kq4 H hK hP hD hS => ?_)
  refine W.widen (k := 4) (n := 3744) (by omega) (by omega) ?_
  have hP : va_P (dC, dI) vwCl [(h0, .inr (0, [.ref q1, .ref q2, .ref q3, .null, .null, .int 0, .int 0, .int 0, .int 0, .int 0, .int 0, .int 0, .int 0])), (q1, .inl (kq1, 1200, .inl (fun _ => 0))), (q2, .inl (kq2, 1200, .inl (fun _ => 0))), (q3, .inl (kq3, 1024, .inl (fun _ => 0))), (q4, .inl (kq4, 320, .inl (fun _ => 0)))] H := hP
  have hD : va_D A [(h0, .inr (0, [.ref q1, .ref q2, .ref q3, .null, .null, .int 0, .int 0, .int 0, .int 0, .int 0, .int 0, .int 0, .int 0])), (q1, .inl (kq1, 1200, .inl (fun _ => 0))), (q2, .inl (kq2, 1200, .inl (fun _ => 0))), (q3, .inl (kq3, 1024, .inl (fun _ => 0))), (q4, .inl (kq4, 320, .inl (fun _ => 0)))] := hD
  have hK : va_K (dC, dI) vwCl [(kq1, .int), (kq2, .int), (kq3, .int), (kq4, .int)] s := hK
  refine va_putF (D := (dC, dI)) (ci := 0) (v := .ref q4) (ty := (.array .int)) (C := RX0) (T := TX0) (N := 13) hx hb hts i_X0_init_X0 tyX0 tyX0_ok nmX0 hown hK hP hD hS 0 rfl rfl 3 (by decide) (hts (.fieldLink RX0 21 "StatementRules2$Code" "caseValues" "[I") k_X0_init_fieldLink_RX0_21_SR_Code_caseValues_I) (fun _ h9 => h9) rfl hin rfl (by decide +kernel) rfl rfl (Nat.le_of_ble_eq_true rfl) dX0_init_37 (fun H locs hP hD hS => ?_)
  have hP : va_P (dC, dI) vwCl [(h0, .inr (0, [.ref q1, .ref q2, .ref q3, .ref q4, .null, .int 0, .int 0, .int 0, .int 0, .int 0, .int 0, .int 0, .int 0])), (q1, .inl (kq1, 1200, .inl (fun _ => 0))), (q2, .inl (kq2, 1200, .inl (fun _ => 0))), (q3, .inl (kq3, 1024, .inl (fun _ => 0))), (q4, .inl (kq4, 320, .inl (fun _ => 0)))] H := hP
  have hD : va_D A [(h0, .inr (0, [.ref q1, .ref q2, .ref q3, .ref q4, .null, .int 0, .int 0, .int 0, .int 0, .int 0, .int 0, .int 0, .int 0])), (q1, .inl (kq1, 1200, .inl (fun _ => 0))), (q2, .inl (kq2, 1200, .inl (fun _ => 0))), (q3, .inl (kq3, 1024, .inl (fun _ => 0))), (q4, .inl (kq4, 320, .inl (fun _ => 0)))] := hD
  refine lv_aload_n hx hb dX0_init_40 rfl (lv_at hl 0 rfl) ?_
  refine lv_sipush (v := 320) hx hb dX0_init_41 (by decide) ?_
  refine va_newa (atype := .int) (ty := .int) (N' := 320) (a0 := (320, .inl (fun _ => 0))) hx hb (hts (.arrayClass .int) k_X0_init_arrayClass_int) rfl hK hP hD hS hA (z_newi 320) (by decide) (by decide) (by decide) (Nat.le_of_ble_eq_true rfl) (Nat.le_of_ble_eq_true rfl) dX0_init_44 (fun q5 kq5 H hK hP hD hS => ?_)
  refine W.widen (k := 5) (n := 4064) (by omega) (by omega) ?_
  have hP : va_P (dC, dI) vwCl [(h0, .inr (0, [.ref q1, .ref q2, .ref q3, .ref q4, .null, .int 0, .int 0, .int 0, .int 0, .int 0, .int 0, .int 0, .int 0])), (q1, .inl (kq1, 1200, .inl (fun _ => 0))), (q2, .inl (kq2, 1200, .inl (fun _ => 0))), (q3, .inl (kq3, 1024, .inl (fun _ => 0))), (q4, .inl (kq4, 320, .inl (fun _ => 0))), (q5, .inl (kq5, 320, .inl (fun _ => 0)))] H := hP
  have hD : va_D A [(h0, .inr (0, [.ref q1, .ref q2, .ref q3, .ref q4, .null, .int 0, .int 0, .int 0, .int 0, .int 0, .int 0, .int 0, .int 0])), (q1, .inl (kq1, 1200, .inl (fun _ => 0))), (q2, .inl (kq2, 1200, .inl (fun _ => 0))), (q3, .inl (kq3, 1024, .inl (fun _ => 0))), (q4, .inl (kq4, 320, .inl (fun _ => 0))), (q5, .inl (kq5, 320, .inl (fun _ => 0)))] := hD
  have hK : va_K (dC, dI) vwCl [(kq1, .int), (kq2, .int), (kq3, .int), (kq4, .int), (kq5, .int)] s := hK
  refine va_putF (D := (dC, dI)) (ci := 0) (v := .ref q5) (ty := (.array .int)) (C := RX0) (T := TX0) (N := 13) hx hb hts i_X0_init_X0 tyX0 tyX0_ok nmX0 hown hK hP hD hS 0 rfl rfl 4 (by decide) (hts (.fieldLink RX0 24 "StatementRules2$Code" "caseTargets" "[I") k_X0_init_fieldLink_RX0_24_SR_Code_caseTargets_I) (fun _ h9 => h9) rfl hin rfl (by decide +kernel) rfl rfl (Nat.le_of_ble_eq_true rfl) dX0_init_46 (fun H locs hP hD hS => ?_)
  have hP : va_P (dC, dI) vwCl [(h0, .inr (0, [.ref q1, .ref q2, .ref q3, .ref q4, .ref q5, .int 0, .int 0, .int 0, .int 0, .int 0, .int 0, .int 0, .int 0])), (q1, .inl (kq1, 1200, .inl (fun _ => 0))), (q2, .inl (kq2, 1200, .inl (fun _ => 0))), (q3, .inl (kq3, 1024, .inl (fun _ => 0))), (q4, .inl (kq4, 320, .inl (fun _ => 0))), (q5, .inl (kq5, 320, .inl (fun _ => 0)))] H := hP
  have hD : va_D A [(h0, .inr (0, [.ref q1, .ref q2, .ref q3, .ref q4, .ref q5, .int 0, .int 0, .int 0, .int 0, .int 0, .int 0, .int 0, .int 0])), (q1, .inl (kq1, 1200, .inl (fun _ => 0))), (q2, .inl (kq2, 1200, .inl (fun _ => 0))), (q3, .inl (kq3, 1024, .inl (fun _ => 0))), (q4, .inl (kq4, 320, .inl (fun _ => 0))), (q5, .inl (kq5, 320, .inl (fun _ => 0)))] := hD
  have hP9 := hP.sub (ws' := [(h0, .inr (0, [.ref q1, .ref q2, .ref q3, .ref q4, .ref q5, .int 0, .int 0, .int 0, .int 0, .int 0, .int 0, .int 0, .int 0])), (q1, .inl (kq1, 1200, .inl (fun _ => 0))), (q2, .inl (kq2, 1200, .inl (fun _ => 0)))]) [0, 1, 2] rfl
  have hD9 := hD.sub (ws' := [(h0, .inr (0, [.ref q1, .ref q2, .ref q3, .ref q4, .ref q5, .int 0, .int 0, .int 0, .int 0, .int 0, .int 0, .int 0, .int 0])), (q1, .inl (kq1, 1200, .inl (fun _ => 0))), (q2, .inl (kq2, 1200, .inl (fun _ => 0)))]) [0, 1, 2] (by decide) rfl
  have hK9 := hK.sub (tys' := [(kq1, .int), (kq2, .int)]) [0, 1] rfl
  exact W.vret hx hb hr (fun t ht hW => ⟨⟨(), rfl, trivial, q1, q2, q3, q4, q5, kq1, kq2, by rw [ht]; exact hP9, va_K.moved hW.alike hK9, hD9⟩, hS.F ht⟩) hS.2.2 dX0_init_49
