theorem k_X10_init_methodLink_RX10_3_objectInit : Cond.methodLink RX10 3 objectInit ∈ wzX10_init := List.mem_cons_of_mem _ (List.mem_append_left _ (List.mem_of_getElem? (i := 0) rfl))
theorem k_X10_init_instanceMethod_objectInit : Cond.instanceMethod objectInit ∈ wzX10_init := List.mem_cons_of_mem _ (List.mem_append_left _ (List.mem_of_getElem? (i := 1) rfl))
theorem k_X10_init_code_objectInit_0xb1_1_none : Cond.code objectInit ⟨#[0xb1]⟩ 1 none ∈ wzX10_init := List.mem_cons_of_mem _ (List.mem_append_left _ (List.mem_of_getElem? (i := 2) rfl))
theorem k_X10_init_arrayClass_int : Cond.arrayClass .int ∈ wzX10_init := List.mem_cons_of_mem _ (List.mem_append_left _ (List.mem_of_getElem? (i := 3) rfl))
theorem k_X10_init_fieldLink_RX10_9_SR_Told_above_I : Cond.fieldLink RX10 9 "StatementRules2$Told" "above" "[I" ∈ wzX10_init := List.mem_cons_of_mem _ (List.mem_append_left _ (List.mem_of_getElem? (i := 4) rfl))
theorem i_X10_init_X10 : ∀ w ∈ wsX100, w ∈ wzX10_init := fun _ h => List.mem_cons_of_mem _ (List.mem_append_right _ (List.mem_append_left _ (h)))
theorem k_X10_init_fieldLink_RX10_15_SR_Told_isNull_I : Cond.fieldLink RX10 15 "StatementRules2$Told" "isNull" "[I" ∈ wzX10_init := List.mem_cons_of_mem _ (List.mem_append_left _ (List.mem_of_getElem? (i := 5) rfl))
theorem k_X10_init_fieldLink_RX10_18_SR_Told_opening_I : Cond.fieldLink RX10 18 "StatementRules2$Told" "opening" "[I" ∈ wzX10_init := List.mem_cons_of_mem _ (List.mem_append_left _ (List.mem_of_getElem? (i := 6) rfl))
theorem k_X10_init_fieldLink_RX10_21_SR_Told_closing_I : Cond.fieldLink RX10 21 "StatementRules2$Told" "closing" "[I" ∈ wzX10_init := List.mem_cons_of_mem _ (List.mem_append_left _ (List.mem_of_getElem? (i := 7) rfl))
theorem k_X10_init_fieldLink_RX10_24_SR_Told_kindCount_I : Cond.fieldLink RX10 24 "StatementRules2$Told" "kindCount" "I" ∈ wzX10_init := List.mem_cons_of_mem _ (List.mem_append_left _ (List.mem_of_getElem? (i := 8) rfl))
set_option maxHeartbeats 4000000 in
set_option maxRecDepth 100000 in
theorem c_X10_init (l : Launch) (dC : Nat → ClassId) (dI : Nat → Nat → Nat) (sz : Nat) (h0 : Nat) : Met l yX10_init wzX10_init ({ frames := 1, cells := 4, slots := 36, locals := 60 }) (va_Pc [.ref h0] (zPre dC dI sz [(h0, .inr (9, [.null, .null, .null, .null, .int 0, .int 0]))] [])) (va_Qv (fun (_ : Unit) => True) (fun (_ : Unit) (t : State) => ∃ (qa : Nat), ∃ (kA : ClassId), ∃ (qn : Nat), ∃ (kn : ClassId), ∃ (qo : Nat), ∃ (ko : ClassId), ∃ (qc : Nat), ∃ (kc : ClassId), ∃ (fo : Nat → Int32), ∃ (fc : Nat → Int32), zPost dC dI (va_A [(h0, .inr (9, [.null, .null, .null, .null, .int 0, .int 0]))] sz) [(h0, .inr (9, [.ref qa, .ref qn, .ref qo, .ref qc, .int 4, .int 0])), (qa, .inl (kA, 12, .inl (upd (fun _ => 0) 0 (-1)))), (qn, .inl (kn, 8, .inl (fun _ => 0))), (qo, .inl (ko, 8, .inl fo)), (qc, .inl (kc, 8, .inl fc))] [(kA, .int), (kn, .int), (ko, .int), (kc, .int)] t) (va_A [(h0, .inr (9, [.null, .null, .null, .null, .int 0, .int 0]))] sz)) 4 36 (va_A [(h0, .inr (9, [.null, .null, .null, .null, .int 0, .int 0]))] sz) := by
  refine Met.ofW (cc := cX10_init) (maxL := 2) (ret := none) (by decide) rfl ?_
  intro p e s m args below meth c s₁ B hml hv
  obtain ⟨rfl, hsz, hZ, hP, hK, hD0⟩ := hv
  have hx := B.exec
  have hb := B.bytes
  have hr := B.returns
  have hts := atoms_spec (ws := wzX10_init) B.pre
  have hown : s.vm.findClass RX10 = some m.cls := findClass_of_methodNamed B.named
  have hlocks := B.notSynchronized
  have hin : meth.name = "<init>" := (name_of_methodNamed B.named B.method).1
  subst hsz
  have hD := hD0.self (sz := s.heap.size)
  generalize hAe : va_A [(h0, .inr (9, [.null, .null, .null, .null, .int 0, .int 0]))] s.heap.size = A at hD ⊢
  have hA : ∀ q : Nat, s.heap.size ≤ q → A q := fun q h => by rw [← hAe]; exact Or.inr h
  have hS : va_S A s.heap s.heap [] := va_S.rf
  have hP : va_P (dC, dI) vwCl [(h0, .inr (9, [.null, .null, .null, .null, .int 0, .int 0]))] s.heap := hP
  have hl := lv_entry ([.ref h0]) (n := 2) (Nat.le_of_ble_eq_true rfl)
  rw [lg_entry_eq]
  generalize (lg_sl ([.ref h0]) ++ List.replicate (2 - (lg_sl ([.ref h0])).length) Slot.unset).toArray = ls at hl ⊢
  have hl : lv_has ls 2 [(0, .ref h0)] := hl
  refine lv_aload_n hx hb dX10_init_0 rfl (lv_at hl 0 rfl) ?_
  refine W.objInit hx hb hown (hts (.methodLink RX10 3 objectInit) k_X10_init_methodLink_RX10_3_objectInit) (hts (.instanceMethod objectInit) k_X10_init_instanceMethod_objectInit) (hts (.code objectInit ⟨#[0xb1]⟩ 1 none) k_X10_init_code_objectInit_0xb1_1_none) rfl (by rw [hml]; exact hl.1) rfl dX10_init_1 (Nat.le_of_ble_eq_true rfl) (Nat.le_of_ble_eq_true rfl) ?_
  refine W.eq (g2 := F0 m 4 ls []) rfl ?_
  refine lv_aload_n hx hb dX10_init_4 rfl (lv_at hl 0 rfl) ?_
  refine lv_bipush (v := 12) hx hb dX10_init_5 (by decide) ?_
  refine va_newa (atype := .int) (ty := .int) (N' := 12) (a0 := (12, .inl (fun _ => 0))) hx hb (hts (.arrayClass .int) k_X10_init_arrayClass_int) rfl hK hP hD hS hA (z_newi 12) (by decide) (by decide) (by decide) (Nat.le_of_ble_eq_true rfl) (Nat.le_of_ble_eq_true rfl) dX10_init_7 (fun q1 kq1 H hK hP hD hS => ?_)
  refine W.widen (k := 1) (n := 12) (by omega) (by omega) ?_
  have hP : va_P (dC, dI) vwCl [(h0, .inr (9, [.null, .null, .null, .null, .int 0, .int 0])), (q1, .inl (kq1, 12, .inl (fun _ => 0)))] H := hP
  have hD : va_D A [(h0, .inr (9, [.null, .null, .null, .null, .int 0, .int 0])), (q1, .inl (kq1, 12, .inl (fun _ => 0)))] := hD
  have hK : va_K (dC, dI) vwCl [(kq1, .int)] s := hK
  refine va_putF (D := (dC, dI)) (ci := 9) (v := .ref q1) (ty := (.array .int)) (C := RX10) (T := TX10) (N := 6) hx hb hts i_X10_init_X10 tyX10 tyX10_ok nmX10 hown hK hP hD hS 0 rfl rfl 0 (by decide) (hts (.fieldLink RX10 9 "StatementRules2$Told" "above" "[I") k_X10_init_fieldLink_RX10_9_SR_Told_above_I) (fun _ h9 => h9) rfl hin rfl (by decide +kernel) rfl rfl (Nat.le_of_ble_eq_true rfl) dX10_init_9 (fun H locs hP hD hS => ?_)
  have hP : va_P (dC, dI) vwCl [(h0, .inr (9, [.ref q1, .null, .null, .null, .int 0, .int 0])), (q1, .inl (kq1, 12, .inl (fun _ => 0)))] H := hP
  have hD : va_D A [(h0, .inr (9, [.ref q1, .null, .null, .null, .int 0, .int 0])), (q1, .inl (kq1, 12, .inl (fun _ => 0)))] := hD
  refine lv_aload_n hx hb dX10_init_12 rfl (lv_at hl 0 rfl) ?_
  refine lv_bipush (v := 8) hx hb dX10_init_13 (by decide) ?_
  refine va_newa (atype := .int) (ty := .int) (N' := 8) (a0 := (8, .inl (fun _ => 0))) hx hb (hts (.arrayClass .int) k_X10_init_arrayClass_int) rfl hK hP hD hS hA (z_newi 8) (by decide) (by decide) (by decide) (Nat.le_of_ble_eq_true rfl) (Nat.le_of_ble_eq_true rfl) dX10_init_15 (fun q2 kq2 H hK hP hD hS => ?_)
  refine W.widen (k := 2) (n := 20) (by omega) (by omega) ?_
  have hP : va_P (dC, dI) vwCl [(h0, .inr (9, [.ref q1, .null, .null, .null, .int 0, .int 0])), (q1, .inl (kq1, 12, .inl (fun _ => 0))), (q2, .inl (kq2, 8, .inl (fun _ => 0)))] H := hP
  have hD : va_D A [(h0, .inr (9, [.ref q1, .null, .null, .null, .int 0, .int 0])), (q1, .inl (kq1, 12, .inl (fun _ => 0))), (q2, .inl (kq2, 8, .inl (fun _ => 0)))] := hD
  have hK : va_K (dC, dI) vwCl [(kq1, .int), (kq2, .int)] s := hK
  refine va_putF (D := (dC, dI)) (ci := 9) (v := .ref q2) (ty := (.array .int)) (C := RX10) (T := TX10) (N := 6) hx hb hts i_X10_init_X10 tyX10 tyX10_ok nmX10 hown hK hP hD hS 0 rfl rfl 1 (by decide) (hts (.fieldLink RX10 15 "StatementRules2$Told" "isNull" "[I") k_X10_init_fieldLink_RX10_15_SR_Told_isNull_I) (fun _ h9 => h9) rfl hin rfl (by decide +kernel) rfl rfl (Nat.le_of_ble_eq_true rfl) dX10_init_17 (fun H locs hP hD hS => ?_)
  have hP : va_P (dC, dI) vwCl [(h0, .inr (9, [.ref q1, .ref q2, .null, .null, .int 0, .int 0])), (q1, .inl (kq1, 12, .inl (fun _ => 0))), (q2, .inl (kq2, 8, .inl (fun _ => 0)))] H := hP
  have hD : va_D A [(h0, .inr (9, [.ref q1, .ref q2, .null, .null, .int 0, .int 0])), (q1, .inl (kq1, 12, .inl (fun _ => 0))), (q2, .inl (kq2, 8, .inl (fun _ => 0)))] := hD
  refine lv_aload_n hx hb dX10_init_20 rfl (lv_at hl 0 rfl) ?_
  refine lv_bipush (v := 8) hx hb dX10_init_21 (by decide) ?_
  refine va_newa (atype := .int) (ty := .int) (N' := 8) (a0 := (8, .inl (fun _ => 0))) hx hb (hts (.arrayClass .int) k_X10_init_arrayClass_int) rfl hK hP hD hS hA (z_newi 8) (by decide) (by decide) (by decide) (Nat.le_of_ble_eq_true rfl) (Nat.le_of_ble_eq_true rfl) dX10_init_23 (fun q3 kq3 H hK hP hD hS => ?_)
  refine W.widen (k := 3) (n := 28) (by omega) (by omega) ?_
  have hP : va_P (dC, dI) vwCl [(h0, .inr (9, [.ref q1, .ref q2, .null, .null, .int 0, .int 0])), (q1, .inl (kq1, 12, .inl (fun _ => 0))), (q2, .inl (kq2, 8, .inl (fun _ => 0))), (q3, .inl (kq3, 8, .inl (fun _ => 0)))] H := hP
  have hD : va_D A [(h0, .inr (9, [.ref q1, .ref q2, .null, .null, .int 0, .int 0])), (q1, .inl (kq1, 12, .inl (fun _ => 0))), (q2, .inl (kq2, 8, .inl (fun _ => 0))), (q3, .inl (kq3, 8, .inl (fun _ => 0)))] := hD
  have hK : va_K (dC, dI) vwCl [(kq1, .int), (kq2, .int), (kq3, .int)] s := hK
  refine va_putF (D := (dC, dI)) (ci := 9) (v := .ref q3) (ty := (.array .int)) (C := RX10) (T := TX10) (N := 6) hx hb hts i_X10_init_X10 tyX10 tyX10_ok nmX10 hown hK hP hD hS 0 rfl rfl 2 (by decide) (hts (.fieldLink RX10 18 "StatementRules2$Told" "opening" "[I") k_X10_init_fieldLink_RX10_18_SR_Told_opening_I) (fun _ h9 => h9) rfl hin rfl (by decide +kernel) rfl rfl (Nat.le_of_ble_eq_true rfl) dX10_init_25 (fun H locs hP hD hS => ?_)
  have hP : va_P (dC, dI) vwCl [(h0, .inr (9, [.ref q1, .ref q2, .ref q3, .null, .int 0, .int 0])), (q1, .inl (kq1, 12, .inl (fun _ => 0))), (q2, .inl (kq2, 8, .inl (fun _ => 0))), (q3, .inl (kq3, 8, .inl (fun _ => 0)))] H := hP
  have hD : va_D A [(h0, .inr (9, [.ref q1, .ref q2, .ref q3, .null, .int 0, .int 0])), (q1, .inl (kq1, 12, .inl (fun _ => 0))), (q2, .inl (kq2, 8, .inl (fun _ => 0))), (q3, .inl (kq3, 8, .inl (fun _ => 0)))] := hD
  refine lv_aload_n hx hb dX10_init_28 rfl (lv_at hl 0 rfl) ?_
  refine lv_bipush (v := 8) hx hb dX10_init_29 (by decide) ?_
  refine va_newa (atype := .int) (ty := .int) (N' := 8) (a0 := (8, .inl (fun _ => 0))) hx hb (hts (.arrayClass .int) k_X10_init_arrayClass_int) rfl hK hP hD hS hA (z_newi 8) (by decide) (by decide) (by decide) (Nat.le_of_ble_eq_true rfl) (Nat.le_of_ble_eq_true rfl) dX10_init_31 (fun q4 kq4 H hK hP hD hS => ?_)
  refine W.widen (k := 4) (n := 36) (by omega) (by omega) ?_
  have hP : va_P (dC, dI) vwCl [(h0, .inr (9, [.ref q1, .ref q2, .ref q3, .null, .int 0, .int 0])), (q1, .inl (kq1, 12, .inl (fun _ => 0))), (q2, .inl (kq2, 8, .inl (fun _ => 0))), (q3, .inl (kq3, 8, .inl (fun _ => 0))), (q4, .inl (kq4, 8, .inl (fun _ => 0)))] H := hP
  have hD : va_D A [(h0, .inr (9, [.ref q1, .ref q2, .ref q3, .null, .int 0, .int 0])), (q1, .inl (kq1, 12, .inl (fun _ => 0))), (q2, .inl (kq2, 8, .inl (fun _ => 0))), (q3, .inl (kq3, 8, .inl (fun _ => 0))), (q4, .inl (kq4, 8, .inl (fun _ => 0)))] := hD
  have hK : va_K (dC, dI) vwCl [(kq1, .int), (kq2, .int), (kq3, .int), (kq4, .int)] s := hK
  refine va_putF (D := (dC, dI)) (ci := 9) (v := .ref q4) (ty := (.array .int)) (C := RX10) (T := TX10) (N := 6) hx hb hts i_X10_init_X10 tyX10 tyX10_ok nmX10 hown hK hP hD hS 0 rfl rfl 3 (by decide) (hts (.fieldLink RX10 21 "StatementRules2$Told" "closing" "[I") k_X10_init_fieldLink_RX10_21_SR_Told_closing_I) (fun _ h9 => h9) rfl hin rfl (by decide +kernel) rfl rfl (Nat.le_of_ble_eq_true rfl) dX10_init_33 (fun H locs hP hD hS => ?_)
  have hP : va_P (dC, dI) vwCl [(h0, .inr (9, [.ref q1, .ref q2, .ref q3, .ref q4, .int 0, .int 0])), (q1, .inl (kq1, 12, .inl (fun _ => 0))), (q2, .inl (kq2, 8, .inl (fun _ => 0))), (q3, .inl (kq3, 8, .inl (fun _ => 0))), (q4, .inl (kq4, 8, .inl (fun _ => 0)))] H := hP
  have hD : va_D A [(h0, .inr (9, [.ref q1, .ref q2, .ref q3, .ref q4, .int 0, .int 0])), (q1, .inl (kq1, 12, .inl (fun _ => 0))), (q2, .inl (kq2, 8, .inl (fun _ => 0))), (q3, .inl (kq3, 8, .inl (fun _ => 0))), (q4, .inl (kq4, 8, .inl (fun _ => 0)))] := hD
  refine lv_aload_n hx hb dX10_init_36 rfl (lv_at hl 0 rfl) ?_
  refine lv_iconst (v := 4) hx hb dX10_init_37 (by decide) ?_
  refine va_put (D := (dC, dI)) (ci := 9) (v := .int 4) (ty := .int) (C := RX10) (T := TX10) (N := 6) hx hb hts i_X10_init_X10 tyX10 tyX10_ok nmX10 hown hK hP hD hS 0 rfl rfl 4 (by decide) (hts (.fieldLink RX10 24 "StatementRules2$Told" "kindCount" "I") k_X10_init_fieldLink_RX10_24_SR_Told_kindCount_I) (fun _ h9 => h9) rfl (by decide +kernel) rfl rfl (Nat.le_of_ble_eq_true rfl) dX10_init_38 (fun H locs hP hD hS => ?_)
  have hP : va_P (dC, dI) vwCl [(h0, .inr (9, [.ref q1, .ref q2, .ref q3, .ref q4, .int 4, .int 0])), (q1, .inl (kq1, 12, .inl (fun _ => 0))), (q2, .inl (kq2, 8, .inl (fun _ => 0))), (q3, .inl (kq3, 8, .inl (fun _ => 0))), (q4, .inl (kq4, 8, .inl (fun _ => 0)))] H := hP
  have hD : va_D A [(h0, .inr (9, [.ref q1, .ref q2, .ref q3, .ref q4, .int 4, .int 0])), (q1, .inl (kq1, 12, .inl (fun _ => 0))), (q2, .inl (kq2, 8, .inl (fun _ => 0))), (q3, .inl (kq3, 8, .inl (fun _ => 0))), (q4, .inl (kq4, 8, .inl (fun _ => 0)))] := hD
  refine lv_aload_n hx hb dX10_init_41 rfl (lv_at hl 0 rfl) ?_
  refine va_get (D := (dC, dI)) (ci := 9) (v := .ref q1) (C := RX10) (T := TX10) (N := 6) hx hb hts i_X10_init_X10 hown hK hP 0 rfl rfl 0 (by decide) (hts (.fieldLink RX10 9 "StatementRules2$Told" "above" "[I") k_X10_init_fieldLink_RX10_9_SR_Told_above_I) (fun _ h9 => h9) rfl dX10_init_42 ?_
  refine lv_iconst (v := 0) hx hb dX10_init_45 (by decide) ?_
  refine lv_iconst (v := (-1)) hx hb dX10_init_46 (by decide) ?_
  refine va_iast hx hb hK hP hD hS 1 0 rfl rfl (by unfold vp_in; decide) dX10_init_47 (fun H locs hP hD hS => ?_)
  have hP : va_P (dC, dI) vwCl [(h0, .inr (9, [.ref q1, .ref q2, .ref q3, .ref q4, .int 4, .int 0])), (q1, .inl (kq1, 12, .inl (upd (fun _ => 0) 0 (-1)))), (q2, .inl (kq2, 8, .inl (fun _ => 0))), (q3, .inl (kq3, 8, .inl (fun _ => 0))), (q4, .inl (kq4, 8, .inl (fun _ => 0)))] H := hP
  have hD : va_D A [(h0, .inr (9, [.ref q1, .ref q2, .ref q3, .ref q4, .int 4, .int 0])), (q1, .inl (kq1, 12, .inl (upd (fun _ => 0) 0 (-1)))), (q2, .inl (kq2, 8, .inl (fun _ => 0))), (q3, .inl (kq3, 8, .inl (fun _ => 0))), (q4, .inl (kq4, 8, .inl (fun _ => 0)))] := hD
  refine lv_iconst (v := 0) hx hb dX10_init_48 (by decide) ?_
  refine lv_istore_n (lv' := [(1, .int 0), (0, .ref h0)]) hx hb dX10_init_49 rfl hl (by decide) rfl (fun ls hl => ?_)
  refine lv_iload_n hx hb dX10_init_50 rfl (lv_at hl 0 rfl) ?_
  refine lv_bipush (v := 8) hx hb dX10_init_51 (by decide) ?_
  refine lv_icmp_ge (tgt := 76) hx hb dX10_init_53 (by decide) (fun c9 => absurd c9 (by decide)) (fun _ => ?_)
  refine lv_aload_n hx hb dX10_init_56 rfl (lv_at hl 1 rfl) ?_
  refine va_get (D := (dC, dI)) (ci := 9) (v := .ref q3) (C := RX10) (T := TX10) (N := 6) hx hb hts i_X10_init_X10 hown hK hP 0 rfl rfl 2 (by decide) (hts (.fieldLink RX10 18 "StatementRules2$Told" "opening" "[I") k_X10_init_fieldLink_RX10_18_SR_Told_opening_I) (fun _ h9 => h9) rfl dX10_init_57 ?_
  refine lv_iload_n hx hb dX10_init_60 rfl (lv_at hl 0 rfl) ?_
  refine lv_iconst (v := (-1)) hx hb dX10_init_61 (by decide) ?_
  refine va_iast hx hb hK hP hD hS 3 2 rfl rfl (by unfold vp_in; decide) dX10_init_62 (fun H locs hP hD hS => ?_)
  obtain ⟨f5, hP, hD⟩ : ∃ (f5 : Nat → Int32), va_P (dC, dI) vwCl [(h0, .inr (9, [.ref q1, .ref q2, .ref q3, .ref q4, .int 4, .int 0])), (q1, .inl (kq1, 12, .inl (upd (fun _ => 0) 0 (-1)))), (q2, .inl (kq2, 8, .inl (fun _ => 0))), (q3, .inl (kq3, 8, .inl f5)), (q4, .inl (kq4, 8, .inl (fun _ => 0)))] H ∧ va_D A [(h0, .inr (9, [.ref q1, .ref q2, .ref q3, .ref q4, .int 4, .int 0])), (q1, .inl (kq1, 12, .inl (upd (fun _ => 0) 0 (-1)))), (q2, .inl (kq2, 8, .inl (fun _ => 0))), (q3, .inl (kq3, 8, .inl f5)), (q4, .inl (kq4, 8, .inl (fun _ => 0)))] := ⟨_, hP, hD⟩
  refine lv_aload_n hx hb dX10_init_63 rfl (lv_at hl 1 rfl) ?_
  refine va_get (D := (dC, dI)) (ci := 9) (v := .ref q4) (C := RX10) (T := TX10) (N := 6) hx hb hts i_X10_init_X10 hown hK hP 0 rfl rfl 3 (by decide) (hts (.fieldLink RX10 21 "StatementRules2$Told" "closing" "[I") k_X10_init_fieldLink_RX10_21_SR_Told_closing_I) (fun _ h9 => h9) rfl dX10_init_64 ?_
  refine lv_iload_n hx hb dX10_init_67 rfl (lv_at hl 0 rfl) ?_
  refine lv_iconst (v := (-1)) hx hb dX10_init_68 (by decide) ?_
  refine va_iast hx hb hK hP hD hS 4 3 rfl rfl (by unfold vp_in; decide) dX10_init_69 (fun H locs hP hD hS => ?_)
  obtain ⟨f6, hP, hD⟩ : ∃ (f6 : Nat → Int32), va_P (dC, dI) vwCl [(h0, .inr (9, [.ref q1, .ref q2, .ref q3, .ref q4, .int 4, .int 0])), (q1, .inl (kq1, 12, .inl (upd (fun _ => 0) 0 (-1)))), (q2, .inl (kq2, 8, .inl (fun _ => 0))), (q3, .inl (kq3, 8, .inl f5)), (q4, .inl (kq4, 8, .inl f6))] H ∧ va_D A [(h0, .inr (9, [.ref q1, .ref q2, .ref q3, .ref q4, .int 4, .int 0])), (q1, .inl (kq1, 12, .inl (upd (fun _ => 0) 0 (-1)))), (q2, .inl (kq2, 8, .inl (fun _ => 0))), (q3, .inl (kq3, 8, .inl f5)), (q4, .inl (kq4, 8, .inl f6))] := ⟨_, hP, hD⟩
  refine lv_iinc (v := 1) (lv' := [(1, .int 1), (0, .ref h0)]) hx hb dX10_init_70 hl (k := 0) rfl (by decide) (by decide) rfl (fun ls hl => ?_)
  refine lv_goto (tgt := 50) hx hb dX10_init_73 (by decide) ?_
  refine lv_iload_n hx hb dX10_init_50 rfl (lv_at hl 0 rfl) ?_
  refine lv_bipush (v := 8) hx hb dX10_init_51 (by decide) ?_
  refine lv_icmp_ge (tgt := 76) hx hb dX10_init_53 (by decide) (fun c9 => absurd c9 (by decide)) (fun _ => ?_)
  refine lv_aload_n hx hb dX10_init_56 rfl (lv_at hl 1 rfl) ?_
  refine va_get (D := (dC, dI)) (ci := 9) (v := .ref q3) (C := RX10) (T := TX10) (N := 6) hx hb hts i_X10_init_X10 hown hK hP 0 rfl rfl 2 (by decide) (hts (.fieldLink RX10 18 "StatementRules2$Told" "opening" "[I") k_X10_init_fieldLink_RX10_18_SR_Told_opening_I) (fun _ h9 => h9) rfl dX10_init_57 ?_
  refine lv_iload_n hx hb dX10_init_60 rfl (lv_at hl 0 rfl) ?_
  refine lv_iconst (v := (-1)) hx hb dX10_init_61 (by decide) ?_
  refine va_iast hx hb hK hP hD hS 3 2 rfl rfl (by unfold vp_in; decide) dX10_init_62 (fun H locs hP hD hS => ?_)
  obtain ⟨f7, hP, hD⟩ : ∃ (f7 : Nat → Int32), va_P (dC, dI) vwCl [(h0, .inr (9, [.ref q1, .ref q2, .ref q3, .ref q4, .int 4, .int 0])), (q1, .inl (kq1, 12, .inl (upd (fun _ => 0) 0 (-1)))), (q2, .inl (kq2, 8, .inl (fun _ => 0))), (q3, .inl (kq3, 8, .inl f7)), (q4, .inl (kq4, 8, .inl f6))] H ∧ va_D A [(h0, .inr (9, [.ref q1, .ref q2, .ref q3, .ref q4, .int 4, .int 0])), (q1, .inl (kq1, 12, .inl (upd (fun _ => 0) 0 (-1)))), (q2, .inl (kq2, 8, .inl (fun _ => 0))), (q3, .inl (kq3, 8, .inl f7)), (q4, .inl (kq4, 8, .inl f6))] := ⟨_, hP, hD⟩
  refine lv_aload_n hx hb dX10_init_63 rfl (lv_at hl 1 rfl) ?_
  refine va_get (D := (dC, dI)) (ci := 9) (v := .ref q4) (C := RX10) (T := TX10) (N := 6) hx hb hts i_X10_init_X10 hown hK hP 0 rfl rfl 3 (by decide) (hts (.fieldLink RX10 21 "StatementRules2$Told" "closing" "[I") k_X10_init_fieldLink_RX10_21_SR_Told_closing_I) (fun _ h9 => h9) rfl dX10_init_64 ?_
  refine lv_iload_n hx hb dX10_init_67 rfl (lv_at hl 0 rfl) ?_
  refine lv_iconst (v := (-1)) hx hb dX10_init_68 (by decide) ?_
  refine va_iast hx hb hK hP hD hS 4 3 rfl rfl (by unfold vp_in; decide) dX10_init_69 (fun H locs hP hD hS => ?_)
  obtain ⟨f8, hP, hD⟩ : ∃ (f8 : Nat → Int32), va_P (dC, dI) vwCl [(h0, .inr (9, [.ref q1, .ref q2, .ref q3, .ref q4, .int 4, .int 0])), (q1, .inl (kq1, 12, .inl (upd (fun _ => 0) 0 (-1)))), (q2, .inl (kq2, 8, .inl (fun _ => 0))), (q3, .inl (kq3, 8, .inl f7)), (q4, .inl (kq4, 8, .inl f8))] H ∧ va_D A [(h0, .inr (9, [.ref q1, .ref q2, .ref q3, .ref q4, .int 4, .int 0])), (q1, .inl (kq1, 12, .inl (upd (fun _ => 0) 0 (-1)))), (q2, .inl (kq2, 8, .inl (fun _ => 0))), (q3, .inl (kq3, 8, .inl f7)), (q4, .inl (kq4, 8, .inl f8))] := ⟨_, hP, hD⟩
  refine lv_iinc (v := 2) (lv' := [(1, .int 2), (0, .ref h0)]) hx hb dX10_init_70 hl (k := 0) rfl (by decide) (by decide) rfl (fun ls hl => ?_)
  refine lv_goto (tgt := 50) hx hb dX10_init_73 (by decide) ?_
  refine lv_iload_n hx hb dX10_init_50 rfl (lv_at hl 0 rfl) ?_
  refine lv_bipush (v := 8) hx hb dX10_init_51 (by decide) ?_
  refine lv_icmp_ge (tgt := 76) hx hb dX10_init_53 (by decide) (fun c9 => absurd c9 (by decide)) (fun _ => ?_)
  refine lv_aload_n hx hb dX10_init_56 rfl (lv_at hl 1 rfl) ?_
  refine va_get (D := (dC, dI)) (ci := 9) (v := .ref q3) (C := RX10) (T := TX10) (N := 6) hx hb hts i_X10_init_X10 hown hK hP 0 rfl rfl 2 (by decide) (hts (.fieldLink RX10 18 "StatementRules2$Told" "opening" "[I") k_X10_init_fieldLink_RX10_18_SR_Told_opening_I) (fun _ h9 => h9) rfl dX10_init_57 ?_
  refine lv_iload_n hx hb dX10_init_60 rfl (lv_at hl 0 rfl) ?_
  refine lv_iconst (v := (-1)) hx hb dX10_init_61 (by decide) ?_
  refine va_iast hx hb hK hP hD hS 3 2 rfl rfl (by unfold vp_in; decide) dX10_init_62 (fun H locs hP hD hS => ?_)
  obtain ⟨f9, hP, hD⟩ : ∃ (f9 : Nat → Int32), va_P (dC, dI) vwCl [(h0, .inr (9, [.ref q1, .ref q2, .ref q3, .ref q4, .int 4, .int 0])), (q1, .inl (kq1, 12, .inl (upd (fun _ => 0) 0 (-1)))), (q2, .inl (kq2, 8, .inl (fun _ => 0))), (q3, .inl (kq3, 8, .inl f9)), (q4, .inl (kq4, 8, .inl f8))] H ∧ va_D A [(h0, .inr (9, [.ref q1, .ref q2, .ref q3, .ref q4, .int 4, .int 0])), (q1, .inl (kq1, 12, .inl (upd (fun _ => 0) 0 (-1)))), (q2, .inl (kq2, 8, .inl (fun _ => 0))), (q3, .inl (kq3, 8, .inl f9)), (q4, .inl (kq4, 8, .inl f8))] := ⟨_, hP, hD⟩
  refine lv_aload_n hx hb dX10_init_63 rfl (lv_at hl 1 rfl) ?_
  refine va_get (D := (dC, dI)) (ci := 9) (v := .ref q4) (C := RX10) (T := TX10) (N := 6) hx hb hts i_X10_init_X10 hown hK hP 0 rfl rfl 3 (by decide) (hts (.fieldLink RX10 21 "StatementRules2$Told" "closing" "[I") k_X10_init_fieldLink_RX10_21_SR_Told_closing_I) (fun _ h9 => h9) rfl dX10_init_64 ?_
  refine lv_iload_n hx hb dX10_init_67 rfl (lv_at hl 0 rfl) ?_
  refine lv_iconst (v := (-1)) hx hb dX10_init_68 (by decide) ?_
  refine va_iast hx hb hK hP hD hS 4 3 rfl rfl (by unfold vp_in; decide) dX10_init_69 (fun H locs hP hD hS => ?_)
  obtain ⟨f10, hP, hD⟩ : ∃ (f10 : Nat → Int32), va_P (dC, dI) vwCl [(h0, .inr (9, [.ref q1, .ref q2, .ref q3, .ref q4, .int 4, .int 0])), (q1, .inl (kq1, 12, .inl (upd (fun _ => 0) 0 (-1)))), (q2, .inl (kq2, 8, .inl (fun _ => 0))), (q3, .inl (kq3, 8, .inl f9)), (q4, .inl (kq4, 8, .inl f10))] H ∧ va_D A [(h0, .inr (9, [.ref q1, .ref q2, .ref q3, .ref q4, .int 4, .int 0])), (q1, .inl (kq1, 12, .inl (upd (fun _ => 0) 0 (-1)))), (q2, .inl (kq2, 8, .inl (fun _ => 0))), (q3, .inl (kq3, 8, .inl f9)), (q4, .inl (kq4, 8, .inl f10))] := ⟨_, hP, hD⟩
  refine lv_iinc (v := 3) (lv' := [(1, .int 3), (0, .ref h0)]) hx hb dX10_init_70 hl (k := 0) rfl (by decide) (by decide) rfl (fun ls hl => ?_)
  refine lv_goto (tgt := 50) hx hb dX10_init_73 (by decide) ?_
  refine lv_iload_n hx hb dX10_init_50 rfl (lv_at hl 0 rfl) ?_
  refine lv_bipush (v := 8) hx hb dX10_init_51 (by decide) ?_
  refine lv_icmp_ge (tgt := 76) hx hb dX10_init_53 (by decide) (fun c9 => absurd c9 (by decide)) (fun _ => ?_)
  refine lv_aload_n hx hb dX10_init_56 rfl (lv_at hl 1 rfl) ?_
  refine va_get (D := (dC, dI)) (ci := 9) (v := .ref q3) (C := RX10) (T := TX10) (N := 6) hx hb hts i_X10_init_X10 hown hK hP 0 rfl rfl 2 (by decide) (hts (.fieldLink RX10 18 "StatementRules2$Told" "opening" "[I") k_X10_init_fieldLink_RX10_18_SR_Told_opening_I) (fun _ h9 => h9) rfl dX10_init_57 ?_
  refine lv_iload_n hx hb dX10_init_60 rfl (lv_at hl 0 rfl) ?_
  refine lv_iconst (v := (-1)) hx hb dX10_init_61 (by decide) ?_
  refine va_iast hx hb hK hP hD hS 3 2 rfl rfl (by unfold vp_in; decide) dX10_init_62 (fun H locs hP hD hS => ?_)
  obtain ⟨f11, hP, hD⟩ : ∃ (f11 : Nat → Int32), va_P (dC, dI) vwCl [(h0, .inr (9, [.ref q1, .ref q2, .ref q3, .ref q4, .int 4, .int 0])), (q1, .inl (kq1, 12, .inl (upd (fun _ => 0) 0 (-1)))), (q2, .inl (kq2, 8, .inl (fun _ => 0))), (q3, .inl (kq3, 8, .inl f11)), (q4, .inl (kq4, 8, .inl f10))] H ∧ va_D A [(h0, .inr (9, [.ref q1, .ref q2, .ref q3, .ref q4, .int 4, .int 0])), (q1, .inl (kq1, 12, .inl (upd (fun _ => 0) 0 (-1)))), (q2, .inl (kq2, 8, .inl (fun _ => 0))), (q3, .inl (kq3, 8, .inl f11)), (q4, .inl (kq4, 8, .inl f10))] := ⟨_, hP, hD⟩
  refine lv_aload_n hx hb dX10_init_63 rfl (lv_at hl 1 rfl) ?_
  refine va_get (D := (dC, dI)) (ci := 9) (v := .ref q4) (C := RX10) (T := TX10) (N := 6) hx hb hts i_X10_init_X10 hown hK hP 0 rfl rfl 3 (by decide) (hts (.fieldLink RX10 21 "StatementRules2$Told" "closing" "[I") k_X10_init_fieldLink_RX10_21_SR_Told_closing_I) (fun _ h9 => h9) rfl dX10_init_64 ?_
  refine lv_iload_n hx hb dX10_init_67 rfl (lv_at hl 0 rfl) ?_
  refine lv_iconst (v := (-1)) hx hb dX10_init_68 (by decide) ?_
  refine va_iast hx hb hK hP hD hS 4 3 rfl rfl (by unfold vp_in; decide) dX10_init_69 (fun H locs hP hD hS => ?_)
  obtain ⟨f12, hP, hD⟩ : ∃ (f12 : Nat → Int32), va_P (dC, dI) vwCl [(h0, .inr (9, [.ref q1, .ref q2, .ref q3, .ref q4, .int 4, .int 0])), (q1, .inl (kq1, 12, .inl (upd (fun _ => 0) 0 (-1)))), (q2, .inl (kq2, 8, .inl (fun _ => 0))), (q3, .inl (kq3, 8, .inl f11)), (q4, .inl (kq4, 8, .inl f12))] H ∧ va_D A [(h0, .inr (9, [.ref q1, .ref q2, .ref q3, .ref q4, .int 4, .int 0])), (q1, .inl (kq1, 12, .inl (upd (fun _ => 0) 0 (-1)))), (q2, .inl (kq2, 8, .inl (fun _ => 0))), (q3, .inl (kq3, 8, .inl f11)), (q4, .inl (kq4, 8, .inl f12))] := ⟨_, hP, hD⟩
  refine lv_iinc (v := 4) (lv' := [(1, .int 4), (0, .ref h0)]) hx hb dX10_init_70 hl (k := 0) rfl (by decide) (by decide) rfl (fun ls hl => ?_)
  refine lv_goto (tgt := 50) hx hb dX10_init_73 (by decide) ?_
  refine lv_iload_n hx hb dX10_init_50 rfl (lv_at hl 0 rfl) ?_
  refine lv_bipush (v := 8) hx hb dX10_init_51 (by decide) ?_
  refine lv_icmp_ge (tgt := 76) hx hb dX10_init_53 (by decide) (fun c9 => absurd c9 (by decide)) (fun _ => ?_)
  refine lv_aload_n hx hb dX10_init_56 rfl (lv_at hl 1 rfl) ?_
  refine va_get (D := (dC, dI)) (ci := 9) (v := .ref q3) (C := RX10) (T := TX10) (N := 6) hx hb hts i_X10_init_X10 hown hK hP 0 rfl rfl 2 (by decide) (hts (.fieldLink RX10 18 "StatementRules2$Told" "opening" "[I") k_X10_init_fieldLink_RX10_18_SR_Told_opening_I) (fun _ h9 => h9) rfl dX10_init_57 ?_
  refine lv_iload_n hx hb dX10_init_60 rfl (lv_at hl 0 rfl) ?_
  refine lv_iconst (v := (-1)) hx hb dX10_init_61 (by decide) ?_
  refine va_iast hx hb hK hP hD hS 3 2 rfl rfl (by unfold vp_in; decide) dX10_init_62 (fun H locs hP hD hS => ?_)
  obtain ⟨f13, hP, hD⟩ : ∃ (f13 : Nat → Int32), va_P (dC, dI) vwCl [(h0, .inr (9, [.ref q1, .ref q2, .ref q3, .ref q4, .int 4, .int 0])), (q1, .inl (kq1, 12, .inl (upd (fun _ => 0) 0 (-1)))), (q2, .inl (kq2, 8, .inl (fun _ => 0))), (q3, .inl (kq3, 8, .inl f13)), (q4, .inl (kq4, 8, .inl f12))] H ∧ va_D A [(h0, .inr (9, [.ref q1, .ref q2, .ref q3, .ref q4, .int 4, .int 0])), (q1, .inl (kq1, 12, .inl (upd (fun _ => 0) 0 (-1)))), (q2, .inl (kq2, 8, .inl (fun _ => 0))), (q3, .inl (kq3, 8, .inl f13)), (q4, .inl (kq4, 8, .inl f12))] := ⟨_, hP, hD⟩
  refine lv_aload_n hx hb dX10_init_63 rfl (lv_at hl 1 rfl) ?_
  refine va_get (D := (dC, dI)) (ci := 9) (v := .ref q4) (C := RX10) (T := TX10) (N := 6) hx hb hts i_X10_init_X10 hown hK hP 0 rfl rfl 3 (by decide) (hts (.fieldLink RX10 21 "StatementRules2$Told" "closing" "[I") k_X10_init_fieldLink_RX10_21_SR_Told_closing_I) (fun _ h9 => h9) rfl dX10_init_64 ?_
  refine lv_iload_n hx hb dX10_init_67 rfl (lv_at hl 0 rfl) ?_
  refine lv_iconst (v := (-1)) hx hb dX10_init_68 (by decide) ?_
  refine va_iast hx hb hK hP hD hS 4 3 rfl rfl (by unfold vp_in; decide) dX10_init_69 (fun H locs hP hD hS => ?_)
  obtain ⟨f14, hP, hD⟩ : ∃ (f14 : Nat → Int32), va_P (dC, dI) vwCl [(h0, .inr (9, [.ref q1, .ref q2, .ref q3, .ref q4, .int 4, .int 0])), (q1, .inl (kq1, 12, .inl (upd (fun _ => 0) 0 (-1)))), (q2, .inl (kq2, 8, .inl (fun _ => 0))), (q3, .inl (kq3, 8, .inl f13)), (q4, .inl (kq4, 8, .inl f14))] H ∧ va_D A [(h0, .inr (9, [.ref q1, .ref q2, .ref q3, .ref q4, .int 4, .int 0])), (q1, .inl (kq1, 12, .inl (upd (fun _ => 0) 0 (-1)))), (q2, .inl (kq2, 8, .inl (fun _ => 0))), (q3, .inl (kq3, 8, .inl f13)), (q4, .inl (kq4, 8, .inl f14))] := ⟨_, hP, hD⟩
  refine lv_iinc (v := 5) (lv' := [(1, .int 5), (0, .ref h0)]) hx hb dX10_init_70 hl (k := 0) rfl (by decide) (by decide) rfl (fun ls hl => ?_)
  refine lv_goto (tgt := 50) hx hb dX10_init_73 (by decide) ?_
  refine lv_iload_n hx hb dX10_init_50 rfl (lv_at hl 0 rfl) ?_
  refine lv_bipush (v := 8) hx hb dX10_init_51 (by decide) ?_
  refine lv_icmp_ge (tgt := 76) hx hb dX10_init_53 (by decide) (fun c9 => absurd c9 (by decide)) (fun _ => ?_)
  refine lv_aload_n hx hb dX10_init_56 rfl (lv_at hl 1 rfl) ?_
  refine va_get (D := (dC, dI)) (ci := 9) (v := .ref q3) (C := RX10) (T := TX10) (N := 6) hx hb hts i_X10_init_X10 hown hK hP 0 rfl rfl 2 (by decide) (hts (.fieldLink RX10 18 "StatementRules2$Told" "opening" "[I") k_X10_init_fieldLink_RX10_18_SR_Told_opening_I) (fun _ h9 => h9) rfl dX10_init_57 ?_
  refine lv_iload_n hx hb dX10_init_60 rfl (lv_at hl 0 rfl) ?_
  refine lv_iconst (v := (-1)) hx hb dX10_init_61 (by decide) ?_
  refine va_iast hx hb hK hP hD hS 3 2 rfl rfl (by unfold vp_in; decide) dX10_init_62 (fun H locs hP hD hS => ?_)
  obtain ⟨f15, hP, hD⟩ : ∃ (f15 : Nat → Int32), va_P (dC, dI) vwCl [(h0, .inr (9, [.ref q1, .ref q2, .ref q3, .ref q4, .int 4, .int 0])), (q1, .inl (kq1, 12, .inl (upd (fun _ => 0) 0 (-1)))), (q2, .inl (kq2, 8, .inl (fun _ => 0))), (q3, .inl (kq3, 8, .inl f15)), (q4, .inl (kq4, 8, .inl f14))] H ∧ va_D A [(h0, .inr (9, [.ref q1, .ref q2, .ref q3, .ref q4, .int 4, .int 0])), (q1, .inl (kq1, 12, .inl (upd (fun _ => 0) 0 (-1)))), (q2, .inl (kq2, 8, .inl (fun _ => 0))), (q3, .inl (kq3, 8, .inl f15)), (q4, .inl (kq4, 8, .inl f14))] := ⟨_, hP, hD⟩
  refine lv_aload_n hx hb dX10_init_63 rfl (lv_at hl 1 rfl) ?_
  refine va_get (D := (dC, dI)) (ci := 9) (v := .ref q4) (C := RX10) (T := TX10) (N := 6) hx hb hts i_X10_init_X10 hown hK hP 0 rfl rfl 3 (by decide) (hts (.fieldLink RX10 21 "StatementRules2$Told" "closing" "[I") k_X10_init_fieldLink_RX10_21_SR_Told_closing_I) (fun _ h9 => h9) rfl dX10_init_64 ?_
  refine lv_iload_n hx hb dX10_init_67 rfl (lv_at hl 0 rfl) ?_
  refine lv_iconst (v := (-1)) hx hb dX10_init_68 (by decide) ?_
  refine va_iast hx hb hK hP hD hS 4 3 rfl rfl (by unfold vp_in; decide) dX10_init_69 (fun H locs hP hD hS => ?_)
  obtain ⟨f16, hP, hD⟩ : ∃ (f16 : Nat → Int32), va_P (dC, dI) vwCl [(h0, .inr (9, [.ref q1, .ref q2, .ref q3, .ref q4, .int 4, .int 0])), (q1, .inl (kq1, 12, .inl (upd (fun _ => 0) 0 (-1)))), (q2, .inl (kq2, 8, .inl (fun _ => 0))), (q3, .inl (kq3, 8, .inl f15)), (q4, .inl (kq4, 8, .inl f16))] H ∧ va_D A [(h0, .inr (9, [.ref q1, .ref q2, .ref q3, .ref q4, .int 4, .int 0])), (q1, .inl (kq1, 12, .inl (upd (fun _ => 0) 0 (-1)))), (q2, .inl (kq2, 8, .inl (fun _ => 0))), (q3, .inl (kq3, 8, .inl f15)), (q4, .inl (kq4, 8, .inl f16))] := ⟨_, hP, hD⟩
  refine lv_iinc (v := 6) (lv' := [(1, .int 6), (0, .ref h0)]) hx hb dX10_init_70 hl (k := 0) rfl (by decide) (by decide) rfl (fun ls hl => ?_)
  refine lv_goto (tgt := 50) hx hb dX10_init_73 (by decide) ?_
  refine lv_iload_n hx hb dX10_init_50 rfl (lv_at hl 0 rfl) ?_
  refine lv_bipush (v := 8) hx hb dX10_init_51 (by decide) ?_
  refine lv_icmp_ge (tgt := 76) hx hb dX10_init_53 (by decide) (fun c9 => absurd c9 (by decide)) (fun _ => ?_)
  refine lv_aload_n hx hb dX10_init_56 rfl (lv_at hl 1 rfl) ?_
  refine va_get (D := (dC, dI)) (ci := 9) (v := .ref q3) (C := RX10) (T := TX10) (N := 6) hx hb hts i_X10_init_X10 hown hK hP 0 rfl rfl 2 (by decide) (hts (.fieldLink RX10 18 "StatementRules2$Told" "opening" "[I") k_X10_init_fieldLink_RX10_18_SR_Told_opening_I) (fun _ h9 => h9) rfl dX10_init_57 ?_
  refine lv_iload_n hx hb dX10_init_60 rfl (lv_at hl 0 rfl) ?_
  refine lv_iconst (v := (-1)) hx hb dX10_init_61 (by decide) ?_
  refine va_iast hx hb hK hP hD hS 3 2 rfl rfl (by unfold vp_in; decide) dX10_init_62 (fun H locs hP hD hS => ?_)
  obtain ⟨f17, hP, hD⟩ : ∃ (f17 : Nat → Int32), va_P (dC, dI) vwCl [(h0, .inr (9, [.ref q1, .ref q2, .ref q3, .ref q4, .int 4, .int 0])), (q1, .inl (kq1, 12, .inl (upd (fun _ => 0) 0 (-1)))), (q2, .inl (kq2, 8, .inl (fun _ => 0))), (q3, .inl (kq3, 8, .inl f17)), (q4, .inl (kq4, 8, .inl f16))] H ∧ va_D A [(h0, .inr (9, [.ref q1, .ref q2, .ref q3, .ref q4, .int 4, .int 0])), (q1, .inl (kq1, 12, .inl (upd (fun _ => 0) 0 (-1)))), (q2, .inl (kq2, 8, .inl (fun _ => 0))), (q3, .inl (kq3, 8, .inl f17)), (q4, .inl (kq4, 8, .inl f16))] := ⟨_, hP, hD⟩
  refine lv_aload_n hx hb dX10_init_63 rfl (lv_at hl 1 rfl) ?_
  refine va_get (D := (dC, dI)) (ci := 9) (v := .ref q4) (C := RX10) (T := TX10) (N := 6) hx hb hts i_X10_init_X10 hown hK hP 0 rfl rfl 3 (by decide) (hts (.fieldLink RX10 21 "StatementRules2$Told" "closing" "[I") k_X10_init_fieldLink_RX10_21_SR_Told_closing_I) (fun _ h9 => h9) rfl dX10_init_64 ?_
  refine lv_iload_n hx hb dX10_init_67 rfl (lv_at hl 0 rfl) ?_
  refine lv_iconst (v := (-1)) hx hb dX10_init_68 (by decide) ?_
  refine va_iast hx hb hK hP hD hS 4 3 rfl rfl (by unfold vp_in; decide) dX10_init_69 (fun H locs hP hD hS => ?_)
  obtain ⟨f18, hP, hD⟩ : ∃ (f18 : Nat → Int32), va_P (dC, dI) vwCl [(h0, .inr (9, [.ref q1, .ref q2, .ref q3, .ref q4, .int 4, .int 0])), (q1, .inl (kq1, 12, .inl (upd (fun _ => 0) 0 (-1)))), (q2, .inl (kq2, 8, .inl (fun _ => 0))), (q3, .inl (kq3, 8, .inl f17)), (q4, .inl (kq4, 8, .inl f18))] H ∧ va_D A [(h0, .inr (9, [.ref q1, .ref q2, .ref q3, .ref q4, .int 4, .int 0])), (q1, .inl (kq1, 12, .inl (upd (fun _ => 0) 0 (-1)))), (q2, .inl (kq2, 8, .inl (fun _ => 0))), (q3, .inl (kq3, 8, .inl f17)), (q4, .inl (kq4, 8, .inl f18))] := ⟨_, hP, hD⟩
  refine lv_iinc (v := 7) (lv' := [(1, .int 7), (0, .ref h0)]) hx hb dX10_init_70 hl (k := 0) rfl (by decide) (by decide) rfl (fun ls hl => ?_)
  refine lv_goto (tgt := 50) hx hb dX10_init_73 (by decide) ?_
  refine lv_iload_n hx hb dX10_init_50 rfl (lv_at hl 0 rfl) ?_
  refine lv_bipush (v := 8) hx hb dX10_init_51 (by decide) ?_
  refine lv_icmp_ge (tgt := 76) hx hb dX10_init_53 (by decide) (fun c9 => absurd c9 (by decide)) (fun _ => ?_)
  refine lv_aload_n hx hb dX10_init_56 rfl (lv_at hl 1 rfl) ?_
  refine va_get (D := (dC, dI)) (ci := 9) (v := .ref q3) (C := RX10) (T := TX10) (N := 6) hx hb hts i_X10_init_X10 hown hK hP 0 rfl rfl 2 (by decide) (hts (.fieldLink RX10 18 "StatementRules2$Told" "opening" "[I") k_X10_init_fieldLink_RX10_18_SR_Told_opening_I) (fun _ h9 => h9) rfl dX10_init_57 ?_
  refine lv_iload_n hx hb dX10_init_60 rfl (lv_at hl 0 rfl) ?_
  refine lv_iconst (v := (-1)) hx hb dX10_init_61 (by decide) ?_
  refine va_iast hx hb hK hP hD hS 3 2 rfl rfl (by unfold vp_in; decide) dX10_init_62 (fun H locs hP hD hS => ?_)
  obtain ⟨f19, hP, hD⟩ : ∃ (f19 : Nat → Int32), va_P (dC, dI) vwCl [(h0, .inr (9, [.ref q1, .ref q2, .ref q3, .ref q4, .int 4, .int 0])), (q1, .inl (kq1, 12, .inl (upd (fun _ => 0) 0 (-1)))), (q2, .inl (kq2, 8, .inl (fun _ => 0))), (q3, .inl (kq3, 8, .inl f19)), (q4, .inl (kq4, 8, .inl f18))] H ∧ va_D A [(h0, .inr (9, [.ref q1, .ref q2, .ref q3, .ref q4, .int 4, .int 0])), (q1, .inl (kq1, 12, .inl (upd (fun _ => 0) 0 (-1)))), (q2, .inl (kq2, 8, .inl (fun _ => 0))), (q3, .inl (kq3, 8, .inl f19)), (q4, .inl (kq4, 8, .inl f18))] := ⟨_, hP, hD⟩
  refine lv_aload_n hx hb dX10_init_63 rfl (lv_at hl 1 rfl) ?_
  refine va_get (D := (dC, dI)) (ci := 9) (v := .ref q4) (C := RX10) (T := TX10) (N := 6) hx hb hts i_X10_init_X10 hown hK hP 0 rfl rfl 3 (by decide) (hts (.fieldLink RX10 21 "StatementRules2$Told" "closing" "[I") k_X10_init_fieldLink_RX10_21_SR_Told_closing_I) (fun _ h9 => h9) rfl dX10_init_64 ?_
  refine lv_iload_n hx hb dX10_init_67 rfl (lv_at hl 0 rfl) ?_
  refine lv_iconst (v := (-1)) hx hb dX10_init_68 (by decide) ?_
  refine va_iast hx hb hK hP hD hS 4 3 rfl rfl (by unfold vp_in; decide) dX10_init_69 (fun H locs hP hD hS => ?_)
  obtain ⟨f20, hP, hD⟩ : ∃ (f20 : Nat → Int32), va_P (dC, dI) vwCl [(h0, .inr (9, [.ref q1, .ref q2, .ref q3, .ref q4, .int 4, .int 0])), (q1, .inl (kq1, 12, .inl (upd (fun _ => 0) 0 (-1)))), (q2, .inl (kq2, 8, .inl (fun _ => 0))), (q3, .inl (kq3, 8, .inl f19)), (q4, .inl (kq4, 8, .inl f20))] H ∧ va_D A [(h0, .inr (9, [.ref q1, .ref q2, .ref q3, .ref q4, .int 4, .int 0])), (q1, .inl (kq1, 12, .inl (upd (fun _ => 0) 0 (-1)))), (q2, .inl (kq2, 8, .inl (fun _ => 0))), (q3, .inl (kq3, 8, .inl f19)), (q4, .inl (kq4, 8, .inl f20))] := ⟨_, hP, hD⟩
  refine lv_iinc (v := 8) (lv' := [(1, .int 8), (0, .ref h0)]) hx hb dX10_init_70 hl (k := 0) rfl (by decide) (by decide) rfl (fun ls hl => ?_)
  refine lv_goto (tgt := 50) hx hb dX10_init_73 (by decide) ?_
  refine lv_iload_n hx hb dX10_init_50 rfl (lv_at hl 0 rfl) ?_
  refine lv_bipush (v := 8) hx hb dX10_init_51 (by decide) ?_
  refine lv_icmp_ge (tgt := 76) hx hb dX10_init_53 (by decide) (fun _ => ?_) (fun c9 => absurd (by decide) c9)
  have hP9 := hP.sub (ws' := [(h0, .inr (9, [.ref q1, .ref q2, .ref q3, .ref q4, .int 4, .int 0])), (q1, .inl (kq1, 12, .inl (upd (fun _ => 0) 0 (-1)))), (q2, .inl (kq2, 8, .inl (fun _ => 0))), (q3, .inl (kq3, 8, .inl f19)), (q4, .inl (kq4, 8, .inl f20))]) [0, 1, 2, 3, 4] rfl
  have hD9 := hD.sub (ws' := [(h0, .inr (9, [.ref q1, .ref q2, .ref q3, .ref q4, .int 4, .int 0])), (q1, .inl (kq1, 12, .inl (upd (fun _ => 0) 0 (-1)))), (q2, .inl (kq2, 8, .inl (fun _ => 0))), (q3, .inl (kq3, 8, .inl f19)), (q4, .inl (kq4, 8, .inl f20))]) [0, 1, 2, 3, 4] (by decide) rfl
  have hK9 := hK.sub (tys' := [(kq1, .int), (kq2, .int), (kq3, .int), (kq4, .int)]) [0, 1, 2, 3] rfl
  exact W.vret hx hb hr (fun t ht hW => ⟨⟨(), rfl, trivial, q1, kq1, q2, kq2, q3, kq3, q4, kq4, f19, f20, by rw [ht]; exact hP9, va_K.moved hW.alike hK9, hD9⟩, hS.F ht⟩) hS.2.2 dX10_init_76
