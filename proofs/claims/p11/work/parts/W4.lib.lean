theorem k_X10_init_methodLink_RX10_3_objectInit : Cond.methodLink RX10 3 objectInit ∈ wzX10_init := List.mem_cons_of_mem _ (List.mem_append_left _ (List.mem_of_getElem? (i := 0) rfl))
theorem k_X10_init_instanceMethod_objectInit : Cond.instanceMethod objectInit ∈ wzX10_init := List.mem_cons_of_mem _ (List.mem_append_left _ (List.mem_of_getElem? (i := 1) rfl))
theorem k_X10_init_code_objectInit_0xb1_1_none : Cond.code objectInit ⟨#[0xb1]⟩ 1 none ∈ wzX10_init := List.mem_cons_of_mem _ (List.mem_append_left _ (List.mem_of_getElem? (i := 2) rfl))
theorem k_X10_init_arrayClass_int : Cond.arrayClass .int ∈ wzX10_init := List.mem_cons_of_mem _ (List.mem_append_left _ (List.mem_of_getElem? (i := 3) rfl))
theorem k_X10_init_fieldLink_RX10_9_SR_Told_above_I : Cond.fieldLink RX10 9 "StatementRules2$Told" "above" "[I" ∈ wzX10_init := List.mem_cons_of_mem _ (List.mem_append_left _ (List.mem_of_getElem? (i := 4) rfl))
theorem i_X10_init_X10 : ∀ w ∈ wsX100, w ∈ wzX10_init := fun _ h => List.mem_cons_of_mem _ (List.mem_append_right _ (List.mem_append_left _ (h)))
theorem k_X10_init_fieldLink_RX10_15_SR_Told_isNull_I : Cond.fieldLink RX10 15 "StatementRules2$Told" "isNull" "[I" ∈ wzX10_init := List.mem_cons_of_mem _ (List.mem_append_left _ (List.mem_of_getElem? (i := 5) rfl))
theorem k_X10_init_fieldLink_RX10_18_SR_Told_opening_I : Cond.fieldLink RX10 18 "StatementRules2$Told" "opening" "[I" ∈ wzX10_init := List.mem_cons_of_mem _ (List.mem_append_left _ (List.mem_of_getElem? (i := 6) rfl))
theorem k_X10_init_fieldLink_RX10_21_SR_Told_closing_I : Cond.fieldLink RX10 21 "StatementRules2$Told" "closing" "[I" ∈ wzX10_init := List.mem_cons_of_mem _ (List.mem_append_left _ (List.mem_of_getElem? (i := 7) rfl))
theorem k_X10_init_fieldLink_RX10_24_SR_Told_kindCount_I : Cond.fieldLink RX10 24 "StatementRules2$Told" "kindCount" "I" ∈ wzX10_init := List.mem_cons_of_mem _ (List.mem_append_left _ (List.mem_of_getElem? (i := 8) rfl))
set_option maxHeartbeats 4000000 in
set_option maxRecDepth 100000 in
theorem c_X10_init (l : Launch) (dC : Nat → ClassId) (dI : Nat → Nat → Nat) (sz : Nat) (h0 : Nat) : Met l yX10_init wzX10_init ({ frames := 1, cells := 4, slots := 36, locals := 60 }) (va_Pc [.ref h0] (zPre dC dI sz [(h0, .inr (9, [.null, .null, .null, .null, .int 0, .int 0]))] [])) (va_Qv (fun (_ : Unit) => True) (fun (_ : Unit) (t : State) => ∃ (qa : Nat), ∃ (kA : ClassId), ∃ (qn : Nat), ∃ (kn : ClassId), ∃ (qo : Nat), ∃ (ko : ClassId), ∃ (qc : Nat), ∃ (kc : ClassId), ∃ (fo : Nat → Int32), ∃ (fc : Nat → Int32), zPost dC dI (va_A [(h0, .inr (9, [.null, .null, .null, .null, .int 0, .int 0]))] sz) [(h0, .inr (9, [.ref qa, .ref qn, .ref qo, .ref qc, .int 4, .int 0])), (qa, .inl (kA, 12, .inl (upd (fun _ => 0) 0 (-1)))), (qn, .inl (kn, 8, .inl (fun _ => 0))), (qo, .inl (ko, 8, .inl fo)), (qc, .inl (kc, 8, .inl fc))] [(kA, .int), (kn, .int), (ko, .int), (kc, .int)] t) (va_A [(h0, .inr (9, [.null, .null, .null, .null, .int 0, .int 0]))] sz)) 4 36 (va_A [(h0, .inr (9, [.null, .null, .null, .null, .int 0, .int 0]))] sz) := by
  refine Met.ofW (cc := cX10_init) (maxL := 2) (ret := none) (by decide) rfl ?_
  intro p e s m args below meth c s₁ B hml hv
  obtain ⟨rfl, hsz, hZ, hP, hK, hD0⟩ := hv
  have hx := B.exec
  have hb := B.bytes
  have hr := B.returns
  have hts := atoms_spec (ws := wzX10_init) B.pre
  have hown : s.vm.findClass RX10 = some m.cls := findClass_of_methodNamed B.named
  have hlocks := B.notSynchronized
  have hin : meth.name = "<init>" := (name_of_methodNamed B.named B.method).1
  subst hsz
  have hD := hD0.self (sz := s.heap.size)
  generalize hAe : va_A [(h0, .inr (9, [.null, .null, .null, .null, .int 0, .int 0]))] s.heap.size = A at hD ⊢
  have hA : ∀ q : Nat, s.heap.size ≤ q → A q := fun q h => by rw [← hAe]; exact Or.inr h
  have hS : va_S A s.heap s.heap [] := va_S.rf
  have hP : va_P (dC, dI) vwCl [(h0, .inr (9, [.null, .null, .null, .null, .int 0, .int 0]))] s.heap := hP
  have hl := lv_entry ([.ref h0]) (n := 2) (Nat.le_of_ble_eq_true rfl)
  rw [lg_entry_eq]
  generalize (lg_sl ([.ref h0]) ++ List.replicate (2 - (lg_sl ([.ref h0])).length) Slot.unset).toArray = ls at hl ⊢
  have hl : lv_has ls 2 [(0, .ref h0)] := hl
  refine lv_aload_n hx hb dX10_init_0 rfl (lv_at hl 0 rfl) ?_
  refine W.objInit hx hb hown (hts (.methodLink RX10 3 objectInit) k_X10_init_methodLink_RX10_3_objectInit) (hts (.instanceMethod objectInit) k_X10_init_instanceMethod_objectInit) (hts (.code objectInit ⟨#[0xb1]⟩ 1 none) k_X10_init_code_objectInit_0xb1_1_none) rfl (by rw [hml]; exact hl.1) rfl dX10_init_1 (Nat.le_of_ble_eq_true rfl) (Nat.le_of_ble_eq_true rfl) ?_
  refine W.eq (g2 := F0 m 4 ls []) rfl ?_
  refine lv_aload_n hx hb dX10_init_4 rfl (lv_at hl 0 rfl) ?_
  refine lv_bipush (v := 12) hx hb dX10_init_5 (by decide) ?_
  refine va_newa (atype := .int) (ty := .int) (N' := 12) (a0 := (12, .inl (fun _ => 0))) hx hb (hts (.arrayClass .int) k_X10_init_arrayClass_int) rfl hK hP hD hS hA (z_newi 12) (by decide) (by decide) (by decide) (Nat.le_of_ble_eq_true rfl) (Nat.le_of_ble_eq_true rfl) dX10_init_7 (fun q1 kq1 H hK hP hD hS => ?_)
  refine W.widen (k := 1) (n := 12) (by omega) (by omega) ?_
  have hP : va_P (dC, dI) vwCl [(h0, .inr (9, [.null, .null, .null, .null, .int 0, .int 0])), (q1, .inl (kq1, 12, .inl (fun _ => 0)))] H := hP
  have hD : va_D A [(h0, .inr (9, [.null, .null, .null, .null, .int 0, .int 0])), (q1, .inl (kq1, 12, .inl (fun _ => 0)))] := hD
  have hK : va_K (dC, dI) vwCl [(kq1, .int)] s := hK
  refine va_putF (D := (dC, dI)) (ci := 9) (v := .ref q1) (ty := (.array .int)) (C := RX10) (T := TX10) (N := 6) hx hb hts i_X10_init_X10 tyX10 tyX10_ok nmX10 hown hK hP hD hS 0 rfl rfl 0 (by decide) (hts (.fieldLink RX10 9 "StatementRules2$Told" "above" "[I") k_X10_init_fieldLink_RX10_9_SR_Told_above_I) (fun _ h9 => h9) rfl hin rfl (by decide +kernel) rfl rfl (Nat.le_of_ble_eq_true rfl) dX10_init_9 (fun H locs hP hD hS => ?_)
  have hP : va_P (dC, dI) vwCl [(h0, .inr (9, [.ref q1, .null, .null, .null, .int 0, .int 0])), (q1, .inl (kq1, 12, .inl (fun _ => 0)))] H := hP
  have hD : va_D A [(h0, .inr (9, [.ref q1, .null, .null, .null, .int 0, .int 0])), (q1, .inl (kq1, 12, .inl (fun _ => 0)))] := hD
  refine lv_aload_n hx hb dX10_init_12 rfl (lv_at hl 0 rfl) ?_
  refine lv_bipush (v := 8) hx hb dX10_init_13 (by decide) ?_
  refine va_newa (atype := .int) (ty := .int) (N' := 8) (a0 := (8, .inl (fun _ => 0))) hx hb (hts (.arrayClass .int) k_X10_init_arrayClass_int) rfl hK hP hD hS hA (z_newi 8) (by decide) (by decide) (by decide) (Nat.le_of_ble_eq_true rfl) (Nat.le_of_ble_eq_true rfl) dX10_init_15 (fun q2 kq2 H hK hP hD hS => ?_)
  refine W.widen (k := 2) (n := 20) (by omega) (by omega) ?_
  have hP : va_P (dC, dI) vwCl [(h0, .inr (9, [.ref q1, .null, .null, .null, .int 0, .int 0])), (q1, .inl (kq1, 12, .inl (fun _ => 0))), (q2, .inl (kq2, 8, .inl (fun _ => 0)))] H := hP
  have hD : va_D A [(h0, .inr (9, [.ref q1, .null, .null, .null, .int 0, .int 0])), (q1, .inl (kq1, 12, .inl (fun _ => 0))), (q2, .inl (kq2, 8, .inl (fun _ => 0)))] := hD
  have hK : va_K (dC, dI) vwCl [(kq1, .int), (kq2, .int)] s := hK
  refine va_putF (D := (dC, dI)) (ci := 9) (v := .ref q2) (ty := (.array .int)) (C := RX10) (T := TX10) (N := 6) hx hb hts i_X10_init_X10 tyX10 tyX10_ok nmX10 hown hK hP hD hS 0 rfl rfl 1 (by decide) (hts (.fieldLink RX10 15 "StatementRules2$Told" "isNull" "[I") k_X10_init_fieldLink_RX10_15_SR_Told_isNull_I) (fun _ h9 => h9) rfl hin rfl (by decide +kernel) rfl rfl (Nat.le_of_ble_eq_true rfl) dX10_init_17 (fun H locs hP hD hS => ?_)
  have hP : va_P (dC, dI) vwCl [(h0, .inr (9, [.ref q1, .ref q2, .null, .null, .int 0, .int 0])), (q1, .inl (kq1, 12, .inl (fun _ => 0))), (q2, .inl (kq2, 8, .inl (fun _ => 0)))] H := hP
  have hD : va_D A [(h0, .inr (9, [.ref q1, .ref q2, .null, .null, .int 0, .int 0])), (q1, .inl (kq1, 12, .inl (fun _ => 0))), (q2, .inl (kq2, 8, .inl (fun _ => 0)))] := hD
  refine lv_aload_n hx hb dX10_init_20 rfl (lv_at hl 0 rfl) ?_
  refine lv_bipush (v := 8) hx hb dX10_init_21 (by decide) ?_
  refine va_newa (atype := .int) (ty := .int) (N' := 8) (a0 := (8, .inl (fun _ => 0))) hx hb (hts (.arrayClass .int) k_X10_init_arrayClass_int) rfl hK hP hD hS hA (z_newi 8) (by decide) (by decide) (by decide) (Nat.le_of_ble_eq_true rfl) (Nat.le_of_ble_eq_true rfl) dX10_init_23 (fun q3 kq3 H hK hP hD hS => ?_)
  refine W.widen (k := 3) (n := 28) (by omega) (by omega) ?_
  have hP : va_P (dC, dI) vwCl [(h0, .inr (9, [.ref q1, .ref q2, .null, .null, .int 0, .int 0])), (q1, .inl (kq1, 12, .inl (fun _ => 0))), (q2, .inl (kq2, 8, .inl (fun _ => 0))), (q3, .inl (kq3, 8, .inl (fun _ => 0)))] H := hP
  have hD : va_D A [(h0, .inr (9, [.ref q1, .ref q2, .null, .null, .int 0, .int 0])), (q1, .inl (kq1, 12, .inl (fun _ => 0))), (q2, .inl (kq2, 8, .inl (fun _ => 0))), (q3, .inl (kq3, 8, .inl (fun _ => 0)))] := hD
  have hK : va_K (dC, dI) vwCl [(kq1, .int), (kq2, .int), (kq3, .int)] s := hK
  refine va_putF (D := (dC, dI)) (ci := 9) (v := .ref q3) (ty := (.array .int)) (C := RX10) (T := TX10) (N := 6) hx hb hts i_X10_init_X10 tyX10 tyX10_ok nmX10 hown hK hP hD hS 0 rfl rfl 2 (by decide) (hts (.fieldLink RX10 18 "StatementRules2$Told" "opening" "[I") k_X10_init_fieldLink_RX10_18_SR_Told_opening_I) (fun _ h9 => h9) rfl hin rfl (by decide +kernel) rfl rfl (Nat.le_of_ble_eq_true rfl) dX10_init_25 (fun H locs hP hD hS => ?_)
  have hP : va_P (dC, dI) vwCl [(h0, .inr (9, [.ref q1, .ref q2, .ref q3, .null, .int 0, .int 0])), (q1, .inl (kq1, 12, .inl (fun _ => 0))), (q2, .inl (kq2, 8, .inl (fun _ => 0))), (q3, .inl (kq3, 8, .inl (fun _ => 0)))] H := hP
  have hD : va_D A [(h0, .inr (9, [.ref q1, .ref q2, .ref q3, .null, .int 0, .int 0])), (q1, .inl (kq1, 12, .inl (fun _ => 0))), (q2, .inl (kq2, 8, .inl (fun _ => 0))), (q3, .inl (kq3, 8, .inl (fun _ => 0)))] := hD
  refine lv_aload_n hx hb dX10_init_28 rfl (lv_at hl 0 rfl) ?_
  refine lv_bipush (v := 8) hx hb dX10_init_29 (by decide) ?_
  refine va_newa (atype := .int) (ty := .int) (N' := 8) (a0 := (8, .inl (fun _ => 0))) hx hb (hts (.arrayClass .int) k_X10_init_arrayClass_int) rfl hK hP hD hS hA (z_newi 8) (by decide) (by decide) (by decide) (Nat.le_of_ble_eq_true rfl) (Nat.le_of_ble_eq_true rfl) dX10_init_31 (fun q4 kq4 H hK hP hD hS => ?_)
  refine W.widen (k := 4) (n := 36) (by omega) (by omega) ?_
  have hP : va_P (dC, dI) vwCl [(h0, .inr (9, [.ref q1, .ref q2, .ref q3, .null, .int 0, .int 0])), (q1, .inl (kq1, 12, .inl (fun _ => 0))), (q2, .inl (kq2, 8, .inl (fun _ => 0))), (q3, .inl (kq3, 8, .inl (fun _ => 0))), (q4, .inl (kq4, 8, .inl (fun _ => 0)))] H := hP
  have hD : va_D A [(h0, .inr (9, [.ref q1, .ref q2, .ref q3, .null, .int 0, .int 0])), (q1, .inl (kq1, 12, .inl (fun _ => 0))), (q2, .inl (kq2, 8, .inl (fun _ => 0))), (q3, .inl (kq3, 8, .inl (fun _ => 0))), (q4, .inl (kq4, 8, .inl (fun _ => 0)))] := hD
  have hK : va_K (dC, dI) vwCl [(kq1, .int), (kq2, .int), (kq3, .int), (kq4, .int)] s := hK
  refine va_putF (D := (dC, dI)) (ci := 9) (v := .ref q4) (ty := (.array .int)) (C := RX10) (T := TX10) (N := 6) hx hb hts i_X10_init_X10 tyX10 tyX10_ok nmX10 hown hK hP hD hS 0 rfl rfl 3 (by decide) (hts (.fieldLink RX10 21 "StatementRules2$Told" "closing" "[I") k_X10_init_fieldLink_RX10_21_SR_Told_closing_I) (fun _ h9 => h9) rfl hin rfl (by decide +kernel) rfl rfl (Nat.le_of_ble_eq_true rfl) dX10_init_33 (fun H locs hP hD hS => ?_)
  have hP : va_P (dC, dI) vwCl [(h0, .inr (9, [.ref q1, .ref q2, .ref q3, .ref q4, .int 0, .int 0])), (q1, .inl (kq1, 12, .inl (fun _ => 0))), (q2, .inl (kq2, 8, .inl (fun _ => 0))), (q3, .inl (kq3, 8, .inl (fun _ => 0))), (q4, .inl (kq4, 8, .inl (fun _ => 0)))] H := hP
  have hD : va_D A [(h0, .inr (9, [.ref q1, .ref q2, .ref q3, .ref q4, .int 0, .int 0])), (q1, .inl (kq1, 12, .inl (fun _ => 0))), (q2, .inl (kq2, 8, .inl (fun _ => 0))), (q3, .inl (kq3, 8, .inl (fun _ => 0))), (q4, .inl (kq4, 8, .inl (fun _ => 0)))] := hD
  refine lv_aload_n hx hb dX10_init_36 rfl (lv_at hl 0 rfl) ?_
  refine lv_iconst (v := 4) hx hb dX10_init_37 (by decide) ?_
  refine va_put (D := (dC, dI)) (ci := 9) (v := .int 4) (ty := .int) (C := RX10) (T := TX10) (N := 6) hx hb hts i_X10_init_X10 tyX10 tyX10_ok nmX10 hown hK hP hD hS 0 rfl rfl 4 (by decide) (hts (.fieldLink RX10 24 "StatementRules2$Told" "kindCount" "I") k_X10_init_fieldLink_RX10_24_SR_Told_kindCount_I) (fun _ h9 => h9) rfl (by decide +kernel) rfl rfl (Nat.le_of_ble_eq_true rfl) dX10_init_38 (fun H locs hP hD hS => ?_)
  have hP : va_P (dC, dI) vwCl [(h0, .inr (9, [.ref q1, .ref q2, .ref q3, .ref q4, .int 4, .int 0])), (q1, .inl (kq1, 12, .inl (fun _ => 0))), (q2, .inl (kq2, 8, .inl (fun _ => 0))), (q3, .inl (kq3, 8, .inl (fun _ => 0))), (q4, .inl (kq4, 8, .inl (fun _ => 0)))] H := hP
  have hD : va_D A [(h0, .inr (9, [.ref q1, .ref q2, .ref q3, .ref q4, .int 4, .int 0])), (q1, .inl (kq1, 12, .inl (fun _ => 0))), (q2, .inl (kq2, 8, .inl (fun _ => 0))), (q3, .inl (kq3, 8, .inl (fun _ => 0))), (q4, .inl (kq4, 8, .inl (fun _ => 0)))] := hD
  refine lv_aload_n hx hb dX10_init_41 rfl (lv_at hl 0 rfl) ?_
  refine va_get (D := (dC, dI)) (ci := 9) (v := .ref q1) (C := RX10) (T := TX10) (N := 6) hx hb hts i_X10_init_X10 hown hK hP 0 rfl rfl 0 (by decide) (hts (.fieldLink RX10 9 "StatementRules2$Told" "above" "[I") k_X10_init_fieldLink_RX10_9_SR_Told_above_I) (fun _ h9 => h9) rfl dX10_init_42 ?_
  refine lv_iconst (v := 0) hx hb dX10_init_45 (by decide) ?_
  refine lv_iconst (v := (-1)) hx hb dX10_init_46 (by decide) ?_
  refine va_iast hx hb hK hP hD hS 1 0 rfl rfl (by unfold vp_in; decide) dX10_init_47 (fun H locs hP hD hS => ?_)
  have hP : va_P (dC, dI) vwCl [(h0, .inr (9, [.ref q1, .ref q2, .ref q3, .ref q4, .int 4, .int 0])), (q1, .inl (kq1, 12, .inl (upd (fun _ => 0) 0 (-1)))), (q2, .inl (kq2, 8, .inl (fun _ => 0))), (q3, .inl (kq3, 8, .inl (fun _ => 0))), (q4, .inl (kq4, 8, .inl (fun _ => 0)))] H := hP
  have hD : va_D A [(h0, .inr (9, [.ref q1, .ref q2, .ref q3, .ref q4, .int 4, .int 0])), (q1, .inl (kq1, 12, .inl (upd (fun _ => 0) 0 (-1)))), (q2, .inl (kq2, 8, .inl (fun _ => 0))), (q3, .inl (kq3, 8, .inl (fun _ => 0))), (q4, .inl (kq4, 8, .inl (fun _ => 0)))] := hD
  refine lv_iconst (v := 0) hx hb dX10_init_48 (by decide) ?_
  refine lv_istore_n (lv' := [(1, .int 0), (0, .ref h0)]) hx hb dX10_init_49 rfl hl (by decide) rfl (fun ls hl => ?_)
  refine lv_iload_n hx hb dX10_init_50 rfl (lv_at hl 0 rfl) ?_
  refine lv_bipush (v := 8) hx hb dX10_init_51 (by decide) ?_
  refine lv_icmp_ge (tgt := 76) hx hb dX10_init_53 (by decide) (fun c9 => absurd c9 (by decide)) (fun _ => ?_)
  refine lv_aload_n hx hb dX10_init_56 rfl (lv_at hl 1 rfl) ?_
  refine va_get (D := (dC, dI)) (ci := 9) (v := .ref q3) (C := RX10) (T := TX10) (N := 6) hx hb hts i_X10_init_X10 hown hK hP 0 rfl rfl 2 (by decide) (hts (.fieldLink RX10 18 "StatementRules2$Told" "opening" "[I") k_X10_init_fieldLink_RX10_18_SR_Told_opening_I) (fun _ h9 => h9) rfl dX10_init_57 ?_
  refine lv_iload_n hx hb dX10_init_60 rfl (lv_at hl 0 rfl) ?_
  refine lv_iconst (v := (-1)) hx hb dX10_init_61 (by decide) ?_
  refine va_iast hx hb hK hP hD hS 3 2 rfl rfl (by unfold vp_in; decide) dX10_init_62 (fun H locs hP hD hS => ?_)
  obtain ⟨f5, hP, hD⟩ : ∃ (f5 : Nat → Int32), va_P (dC, dI) vwCl [(h0, .inr (9, [.ref q1, .ref q2, .ref q3, .ref q4, .int 4, .int 0])), (q1, .inl (kq1, 12, .inl (upd (fun _ => 0) 0 (-1)))), (q2, .inl (kq2, 8, .inl (fun _ => 0))), (q3, .inl (kq3, 8, .inl f5)), (q4, .inl (kq4, 8, .inl (fun _ => 0)))] H ∧ va_D A [(h0, .inr (9, [.ref q1, .ref q2, .ref q3, .ref q4, .int 4, .int 0])), (q1, .inl (kq1, 12, .inl (upd (fun _ => 0) 0 (-1)))), (q2, .inl (kq2, 8, .inl (fun _ => 0))), (q3, .inl (kq3, 8, .inl f5)), (q4, .inl (kq4, 8, .inl (fun _ => 0)))] := ⟨_, hP, hD⟩
  refine lv_aload_n hx hb dX10_init_63 rfl (lv_at hl 1 rfl) ?_
  refine va_get (D := (dC, dI)) (ci := 9) (v := .ref q4) (C := RX10) (T := TX10) (N := 6) hx hb hts i_X10_init_X10 hown hK hP 0 rfl rfl 3 (by decide) (hts (.fieldLink RX10 21 "StatementRules2$Told" "closing" "[I") k_X10_init_fieldLink_RX10_21_SR_Told_closing_I) (fun _ h9 => h9) rfl dX10_init_64 ?_
  refine lv_iload_n hx hb dX10_init_67 rfl (lv_at hl 0 rfl) ?_
  refine lv_iconst (v := (-1)) hx hb dX10_init_68 (by decide) ?_
  refine va_iast hx hb hK hP hD hS 4 3 rfl rfl (by unfold vp_in; decide) dX10_init_69 (fun H locs hP hD hS => ?_)
  obtain ⟨f6, hP, hD⟩ : ∃ (f6 : Nat → Int32), va_P (dC, dI) vwCl [(h0, .inr (9, [.ref q1, .ref q2, .ref q3, .ref q4, .int 4, .int 0])), (q1, .inl (kq1, 12, .inl (upd (fun _ => 0) 0 (-1)))), (q2, .inl (kq2, 8, .inl (fun _ => 0))), (q3, .inl (kq3, 8, .inl f5)), (q4, .inl (kq4, 8, .inl f6))] H ∧ va_D A [(h0, .inr (9, [.ref q1, .ref q2, .ref q3, .ref q4, .int 4, .int 0])), (q1, .inl (kq1, 12, .inl (upd (fun _ => 0) 0 (-1)))), (q2, .inl (kq2, 8, .inl (fun _ => 0))), (q3, .inl (kq3, 8, .inl f5)), (q4, .inl (kq4, 8, .inl f6))] := ⟨_, hP, hD⟩
  refine lv_iinc (v := 1) (lv' := [(1, .int 1), (0, .ref h0)]) hx hb dX10_init_70 hl (k := 0) rfl (by decide) (by decide) rfl (fun ls hl => ?_)
  refine lv_goto (tgt := 50) hx hb dX10_init_73 (by decide) ?_
  refine lv_iload_n hx hb dX10_init_50 rfl (lv_at hl 0 rfl) ?_
  refine lv_bipush (v := 8) hx hb dX10_init_51 (by decide) ?_
  refine lv_icmp_ge (tgt := 76) hx hb dX10_init_53 (by decide) (fun c9 => absurd c9 (by decide)) (fun _ => ?_)
  refine lv_aload_n hx hb dX10_init_56 rfl (lv_at hl 1 rfl) ?_
  refine va_get (D := (dC, dI)) (ci := 9) (v := .ref q3) (C := RX10) (T := TX10) (N := 6) hx hb hts i_X10_init_X10 hown hK hP 0 rfl rfl 2 (by decide) (hts (.fieldLink RX10 18 "StatementRules2$Told" "opening" "[I") k_X10_init_fieldLink_RX10_18_SR_Told_opening_I) (fun _ h9 => h9) rfl dX10_init_57 ?_
  refine lv_iload_n hx hb dX10_init_60 rfl (lv_at hl 0 rfl) ?_
  refine lv_iconst (v := (-1)) hx hb dX10_init_61 (by decide) ?_
  refine va_iast hx hb hK hP hD hS 3 2 rfl rfl (by unfold vp_in; decide) dX10_init_62 (fun H locs hP hD hS => ?_)
  obtain ⟨f7, hP, hD⟩ : ∃ (f7 : Nat → Int32), va_P (dC, dI) vwCl [(h0, .inr (9, [.ref q1, .ref q2, .ref q3, .ref q4, .int 4, .int 0])), (q1, .inl (kq1, 12, .inl (upd (fun _ => 0) 0 (-1)))), (q2, .inl (kq2, 8, .inl (fun _ => 0))), (q3, .inl (kq3, 8, .inl f7)), (q4, .inl (kq4, 8, .inl f6))] H ∧ va_D A [(h0, .inr (9, [.ref q1, .ref q2, .ref q3, .ref q4, .int 4, .int 0])), (q1, .inl (kq1, 12, .inl (upd (fun _ => 0) 0 (-1)))), (q2, .inl (kq2, 8, .inl (fun _ => 0))), (q3, .inl (kq3, 8, .inl f7)), (q4, .inl (kq4, 8, .inl f6))] := ⟨_, hP, hD⟩
  refine lv_aload_n hx hb dX10_init_63 rfl (lv_at hl 1 rfl) ?_
  refine va_get (D := (dC, dI)) (ci := 9) (v := .ref q4) (C := RX10) (T := TX10) (N := 6) hx hb hts i_X10_init_X10 hown hK hP 0 rfl rfl 3 (by decide) (hts (.fieldLink RX10 21 "StatementRules2$Told" "closing" "[I") k_X10_init_fieldLink_RX10_21_SR_Told_closing_I) (fun _ h9 => h9) rfl dX10_init_64 ?_
  refine lv_iload_n hx hb dX10_init_67 rfl (lv_at hl 0 rfl) ?_
  refine lv_iconst (v := (-1)) hx hb dX10_init_68 (by decide) ?_
  refine va_iast hx hb hK hP hD hS 4 3 rfl rfl (by unfold vp_in; decide) dX10_init_69 (fun H locs hP hD hS => ?_)
  obtain ⟨f8, hP, hD⟩ : ∃ (f8 : Nat → Int32), va_P (dC, dI) vwCl [(h0, .inr (9, [.ref q1, .ref q2, .ref q3, .ref q4, .int 4, .int 0])), (q1, .inl (kq1, 12, .inl (upd (fun _ => 0) 0 (-1)))), (q2, .inl (kq2, 8, .inl (fun _ => 0))), (q3, .inl (kq3, 8, .inl f7)), (q4, .inl (kq4, 8, .inl f8))] H ∧ va_D A [(h0, .inr (9, [.ref q1, .ref q2, .ref q3, .ref q4, .int 4, .int 0])), (q1, .inl (kq1, 12, .inl (upd (fun _ => 0) 0 (-1)))), (q2, .inl (kq2, 8, .inl (fun _ => 0))), (q3, .inl (kq3, 8, .inl f7)), (q4, .inl (kq4, 8, .inl f8))] := ⟨_, hP, hD⟩
  refine lv_iinc (v := 2) (lv' := [(1, .int 2), (0, .ref h0)]) hx hb dX10_init_70 hl (k := 0) rfl (by decide) (by decide) rfl (fun ls hl => ?_)
  refine lv_goto (tgt := 50) hx hb dX10_init_73 (by decide) ?_
  refine lv_iload_n hx hb dX10_init_50 rfl (lv_at hl 0 rfl) ?_
  refine lv_bipush (v := 8) hx hb dX10_init_51 (by decide) ?_
  refine lv_icmp_ge (tgt := 76) hx hb dX10_init_53 (by decide) (fun c9 => absurd c9 (by decide)) (fun _ => ?_)
  refine lv_aload_n hx hb dX10_init_56 rfl (lv_at hl 1 rfl) ?_
  refine va_get (D := (dC, dI)) (ci := 9) (v := .ref q3) (C := RX10) (T := TX10) (N := 6) hx hb hts i_X10_init_X10 hown hK hP 0 rfl rfl 2 (by decide) (hts (.fieldLink RX10 18 "StatementRules2$Told" "opening" "[I") k_X10_init_fieldLink_RX10_18_SR_Told_opening_I) (fun _ h9 => h9) rfl dX10_init_57 ?_
  refine lv_iload_n hx hb dX10_init_60 rfl (lv_at hl 0 rfl) ?_
  refine lv_iconst (v := (-1)) hx hb dX10_init_61 (by decide) ?_
  refine va_iast hx hb hK hP hD hS 3 2 rfl rfl (by unfold vp_in; decide) dX10_init_62 (fun H locs hP hD hS => ?_)
  obtain ⟨f9, hP, hD⟩ : ∃ (f9 : Nat → Int32), va_P (dC, dI) vwCl [(h0, .inr (9, [.ref q1, .ref q2, .ref q3, .ref q4, .int 4, .int 0])), (q1, .inl (kq1, 12, .inl (upd (fun _ => 0) 0 (-1)))), (q2, .inl (kq2, 8, .inl (fun _ => 0))), (q3, .inl (kq3, 8, .inl f9)), (q4, .inl (kq4, 8, .inl f8))] H ∧ va_D A [(h0, .inr (9, [.ref q1, .ref q2, .ref q3, .ref q4, .int 4, .int 0])), (q1, .inl (kq1, 12, .inl (upd (fun _ => 0) 0 (-1)))), (q2, .inl (kq2, 8, .inl (fun _ => 0))), (q3, .inl (kq3, 8, .inl f9)), (q4, .inl (kq4, 8, .inl f8))] := ⟨_, hP, hD⟩
  refine lv_aload_n hx hb dX10_init_63 rfl (lv_at hl 1 rfl) ?_
  refine va_get (D := (dC, dI)) (ci := 9) (v := .ref q4) (C := RX10) (T := TX10) (N := 6) hx hb hts i_X10_init_X10 hown hK hP 0 rfl rfl 3 (by decide) (hts (.fieldLink RX10 21 "StatementRules2$Told" "closing" "[I") k_X10_init_fieldLink_RX10_21_SR_Told_closing_I) (fun _ h9 => h9) rfl dX10_init_64 ?_
  refine lv_iload_n hx hb dX10_init_67 rfl (lv_at hl 0 rfl) ?_
  refine lv_iconst (v := (-1)) hx hb dX10_init_68 (by decide) ?_
  refine va_iast hx hb hK hP hD hS 4 3 rfl rfl (by unfold vp_in; decide) dX10_init_69 (fun H locs hP hD hS => ?_)
  obtain ⟨f10, hP, hD⟩ : ∃ (f10 : Nat → Int32), va_P (dC, dI) vwCl [(h0, .inr (9, [.ref q1, .ref q2, .ref q3, .ref q4, .int 4, .int 0])), (q1, .inl (kq1, 12, .inl (upd (fun _ => 0) 0 (-1)))), (q2, .inl (kq2, 8, .inl (fun _ => 0))), (q3, .inl (kq3, 8, .inl f9)), (q4, .inl (kq4, 8, .inl f10))] H ∧ va_D A [(h0, .inr (9, [.ref q1, .ref q2, .ref q3, .ref q4, .int 4, .int 0])), (q1, .inl (kq1, 12, .inl (upd (fun _ => 0) 0 (-1)))), (q2, .inl (kq2, 8, .inl (fun _ => 0))), (q3, .inl (kq3, 8, .inl f9)), (q4, .inl (kq4, 8, .inl f10))] := ⟨_, hP, hD⟩
  refine lv_iinc (v := 3) (lv' := [(1, .int 3), (0, .ref h0)]) hx hb dX10_init_70 hl (k := 0) rfl (by decide) (by decide) rfl (fun ls hl => ?_)
  refine lv_goto (tgt := 50) hx hb dX10_init_73 (by decide) ?_
  refine lv_iload_n hx hb dX10_init_50 rfl (lv_at hl 0 rfl) ?_
  refine lv_bipush (v := 8) hx hb dX10_init_51 (by decide) ?_
  refine lv_icmp_ge (tgt := 76) hx hb dX10_init_53 (by decide) (fun c9 => absurd c9 (by decide)) (fun _ => ?_)
  refine lv_aload_n hx hb dX10_init_56 rfl (lv_at hl 1 rfl) ?_
  refine va_get (D := (dC, dI)) (ci := 9) (v := .ref q3) (C := RX10) (T := TX10) (N := 6) hx hb hts i_X10_init_X10 hown hK hP 0 rfl rfl 2 (by decide) (hts (.fieldLink RX10 18 "StatementRules2$Told" "opening" "[I") k_X10_init_fieldLink_RX10_18_SR_Told_opening_I) (fun _ h9 => h9) rfl dX10_init_57 ?_
  refine lv_iload_n hx hb dX10_init_60 rfl (lv_at hl 0 rfl) ?_
  refine lv_iconst (v := (-1)) hx hb dX10_init_61 (by decide) ?_
  refine va_iast hx hb hK hP hD hS 3 2 rfl rfl (by unfold vp_in; decide) dX10_init_62 (fun H locs hP hD hS => ?_)
  obtain ⟨f11, hP, hD⟩ : ∃ (f11 : Nat → Int32), va_P (dC, dI) vwCl [(h0, .inr (9, [.ref q1, .ref q2, .ref q3, .ref q4, .int 4, .int 0])), (q1, .inl (kq1, 12, .inl (upd (fun _ => 0) 0 (-1)))), (q2, .inl (kq2, 8, .inl (fun _ => 0))), (q3, .inl (kq3, 8, .inl f11)), (q4, .inl (kq4, 8, .inl f10))] H ∧ va_D A [(h0, .inr (9, [.ref q1, .ref q2, .ref q3, .ref q4, .int 4, .int 0])), (q1, .inl (kq1, 12, .inl (upd (fun _ => 0) 0 (-1)))), (q2, .inl (kq2, 8, .inl (fun _ => 0))), (q3, .inl (kq3, 8, .inl f11)), (q4, .inl (kq4, 8, .inl f10))] := ⟨_, hP, hD⟩
  refine lv_aload_n hx hb dX10_init_63 rfl (lv_at hl 1 rfl) ?_
  refine va_get (D := (dC, dI)) (ci := 9) (v := .ref q4) (C := RX10) (T := TX10) (N := 6) hx hb hts i_X10_init_X10 hown hK hP 0 rfl rfl 3 (by decide) (hts (.fieldLink RX10 21 "StatementRules2$Told" "closing" "[I") k_X10_init_fieldLink_RX10_21_SR_Told_closing_I) (fun _ h9 => h9) rfl dX10_init_64 ?_
  refine lv_iload_n hx hb dX10_init_67 rfl (lv_at hl 0 rfl) ?_
  refine lv_iconst (v := (-1)) hx hb dX10_init_68 (by decide) ?_
  refine va_iast hx hb hK hP hD hS 4 3 rfl rfl (by unfold vp_in; decide) dX10_init_69 (fun H locs hP hD hS => ?_)
  obtain ⟨f12, hP, hD⟩ : ∃ (f12 : Nat → Int32), va_P (dC, dI) vwCl [(h0, .inr (9, [.ref q1, .ref q2, .ref q3, .ref q4, .int 4, .int 0])), (q1, .inl (kq1, 12, .inl (upd (fun _ => 0) 0 (-1)))), (q2, .inl (kq2, 8, .inl (fun _ => 0))), (q3, .inl (kq3, 8, .inl f11)), (q4, .inl (kq4, 8, .inl f12))] H ∧ va_D A [(h0, .inr (9, [.ref q1, .ref q2, .ref q3, .ref q4, .int 4, .int 0])), (q1, .inl (kq1, 12, .inl (upd (fun _ => 0) 0 (-1)))), (q2, .inl (kq2, 8, .inl (fun _ => 0))), (q3, .inl (kq3, 8, .inl f11)), (q4, .inl (kq4, 8, .inl f12))] := ⟨_, hP, hD⟩
  refine lv_iinc (v := 4) (lv' := [(1, .int 4), (0, .ref h0)]) hx hb dX10_init_70 hl (k := 0) rfl (by decide) (by decide) rfl (fun ls hl => ?_)
  refine lv_goto (tgt := 50) hx hb dX10_init_73 (by decide) ?_
  refine lv_iload_n hx hb dX10_init_50 rfl (lv_at hl 0 rfl) ?_
  refine lv_bipush (v := 8) hx hb dX10_init_51 (by decide) ?_
  refine lv_icmp_ge (tgt := 76) hx hb dX10_init_53 (by decide) (fun c9 => absurd c9 (by decide)) (fun _ => ?_)
  refine lv_aload_n hx hb dX10_init_56 rfl (lv_at hl 1 rfl) ?_
  refine va_get (D := (dC, dI)) (ci := 9) (v := .ref q3) (C := RX10) (T := TX10) (N := 6) hx hb hts i_X10_init_X10 hown hK hP 0 rfl rfl 2 (by decide) (hts (.fieldLink RX10 18 "StatementRules2$Told" "opening" "[I") k_X10_init_fieldLink_RX10_18_SR_Told_opening_I) (fun _ h9 => h9) rfl dX10_init_57 ?_
  refine lv_iload_n hx hb dX10_init_60 rfl (lv_at hl 0 rfl) ?_
  refine lv_iconst (v := (-1)) hx hb dX10_init_61 (by decide) ?_
  refine va_iast hx hb hK hP hD hS 3 2 rfl rfl (by unfold vp_in; decide) dX10_init_62 (fun H locs hP hD hS => ?_)
  obtain ⟨f13, hP, hD⟩ : ∃ (f13 : Nat → Int32), va_P (dC, dI) vwCl [(h0, .inr (9, [.ref q1, .ref q2, .ref q3, .ref q4, .int 4, .int 0])), (q1, .inl (kq1, 12, .inl (upd (fun _ => 0) 0 (-1)))), (q2, .inl (kq2, 8, .inl (fun _ => 0))), (q3, .inl (kq3, 8, .inl f13)), (q4, .inl (kq4, 8, .inl f12))] H ∧ va_D A [(h0, .inr (9, [.ref q1, .ref q2, .ref q3, .ref q4, .int 4, .int 0])), (q1, .inl (kq1, 12, .inl (upd (fun _ => 0) 0 (-1)))), (q2, .inl (kq2, 8, .inl (fun _ => 0))), (q3, .inl (kq3, 8, .inl f13)), (q4, .inl (kq4, 8, .inl f12))] := ⟨_, hP, hD⟩
  refine lv_aload_n hx hb dX10_init_63 rfl (lv_at hl 1 rfl) ?_
  refine va_get (D := (dC, dI)) (ci := 9) (v := .ref q4) (C := RX10) (T := TX10) (N := 6) hx hb hts i_X10_init_X10 hown hK hP 0 rfl rfl 3 (by decide) (hts (.fieldLink RX10 21 "StatementRules2$Told" "closing" "[I") k_X10_init_fieldLink_RX10_21_SR_Told_closing_I) (fun _ h9 => h9) rfl dX10_init_64 ?_
  refine lv_iload_n hx hb dX10_init_67 rfl (lv_at hl 0 rfl) ?_
  refine lv_iconst (v := (-1)) hx hb dX10_init_68 (by decide) ?_
  refine va_iast hx hb hK hP hD hS 4 3 rfl rfl (by unfold vp_in; decide) dX10_init_69 (fun H locs hP hD hS => ?_)
  obtain ⟨f14, hP, hD⟩ : ∃ (f14 : Nat → Int32), va_P (dC, dI) vwCl [(h0, .inr (9, [.ref q1, .ref q2, .ref q3, .ref q4, .int 4, .int 0])), (q1, .inl (kq1, 12, .inl (upd (fun _ => 0) 0 (-1)))), (q2, .inl (kq2, 8, .inl (fun _ => 0))), (q3, .inl (kq3, 8, .inl f13)), (q4, .inl (kq4, 8, .inl f14))] H ∧ va_D A [(h0, .inr (9, [.ref q1, .ref q2, .ref q3, .ref q4, .int 4, .int 0])), (q1, .inl (kq1, 12, .inl (upd (fun _ => 0) 0 (-1)))), (q2, .inl (kq2, 8, .inl (fun _ => 0))), (q3, .inl (kq3, 8, .inl f13)), (q4, .inl (kq4, 8, .inl f14))] := ⟨_, hP, hD⟩
  refine lv_iinc (v := 5) (lv' := [(1, .int 5), (0, .ref h0)]) hx hb dX10_init_70 hl (k := 0) rfl (by decide) (by decide) rfl (fun ls hl => ?_)
  refine lv_goto (tgt := 50) hx hb dX10_init_73 (by decide) ?_
  refine lv_iload_n hx hb dX10_init_50 rfl (lv_at hl 0 rfl) ?_
  refine lv_bipush (v := 8) hx hb dX10_init_51 (by decide) ?_
  refine lv_icmp_ge (tgt := 76) hx hb dX10_init_53 (by decide) (fun c9 => absurd c9 (by decide)) (fun _ => ?_)
  refine lv_aload_n hx hb dX10_init_56 rfl (lv_at hl 1 rfl) ?_
  refine va_get (D := (dC, dI)) (ci := 9) (v := .ref q3) (C := RX10) (T := TX10) (N := 6) hx hb hts i_X10_init_X10 hown hK hP 0 rfl rfl 2 (by decide) (hts (.fieldLink RX10 18 "StatementRules2$Told" "opening" "[I") k_X10_init_fieldLink_RX10_18_SR_Told_opening_I) (fun _ h9 => h9) rfl dX10_init_57 ?_
  refine lv_iload_n hx hb dX10_init_60 rfl (lv_at hl 0 rfl) ?_
  refine lv_iconst (v := (-1)) hx hb dX10_init_61 (by decide) ?_
  refine va_iast hx hb hK hP hD hS 3 2 rfl rfl (by unfold vp_in; decide) dX10_init_62 (fun H locs hP hD hS => ?_)
  obtain ⟨f15, hP, hD⟩ : ∃ (f15 : Nat → Int32), va_P (dC, dI) vwCl [(h0, .inr (9, [.ref q1, .ref q2, .ref q3, .ref q4, .int 4, .int 0])), (q1, .inl (kq1, 12, .inl (upd (fun _ => 0) 0 (-1)))), (q2, .inl (kq2, 8, .inl (fun _ => 0))), (q3, .inl (kq3, 8, .inl f15)), (q4, .inl (kq4, 8, .inl f14))] H ∧ va_D A [(h0, .inr (9, [.ref q1, .ref q2, .ref q3, .ref q4, .int 4, .int 0])), (q1, .inl (kq1, 12, .inl (upd (fun _ => 0) 0 (-1)))), (q2, .inl (kq2, 8, .inl (fun _ => 0))), (q3, .inl (kq3, 8, .inl f15)), (q4, .inl (kq4, 8, .inl f14))] := ⟨_, hP, hD⟩
  refine lv_aload_n hx hb dX10_init_63 rfl (lv_at hl 1 rfl) ?_
  refine va_get (D := (dC, dI)) (ci := 9) (v := .ref q4) (C := RX10) (T := TX10) (N := 6) hx hb hts i_X10_init_X10 hown hK hP 0 rfl rfl 3 (by decide) (hts (.fieldLink RX10 21 "StatementRules2$Told" "closing" "[I") k_X10_init_fieldLink_RX10_21_SR_Told_closing_I) (fun _ h9 => h9) rfl dX10_init_64 ?_
  refine lv_iload_n hx hb dX10_init_67 rfl (lv_at hl 0 rfl) ?_
  refine lv_iconst (v := (-1)) hx hb dX10_init_68 (by decide) ?_
  refine va_iast hx hb hK hP hD hS 4 3 rfl rfl (by unfold vp_in; decide) dX10_init_69 (fun H locs hP hD hS => ?_)
  obtain ⟨f16, hP, hD⟩ : ∃ (f16 : Nat → Int32), va_P (dC, dI) vwCl [(h0, .inr (9, [.ref q1, .ref q2, .ref q3, .ref q4, .int 4, .int 0])), (q1, .inl (kq1, 12, .inl (upd (fun _ => 0) 0 (-1)))), (q2, .inl (kq2, 8, .inl (fun _ => 0))), (q3, .inl (kq3, 8, .inl f15)), (q4, .inl (kq4, 8, .inl f16))] H ∧ va_D A [(h0, .inr (9, [.ref q1, .ref q2, .ref q3, .ref q4, .int 4, .int 0])), (q1, .inl (kq1, 12, .inl (upd (fun _ => 0) 0 (-1)))), (q2, .inl (kq2, 8, .inl (fun _ => 0))), (q3, .inl (kq3, 8, .inl f15)), (q4, .inl (kq4, 8, .inl f16))] := ⟨_, hP, hD⟩
  refine lv_iinc (v := 6) (lv' := [(1, .int 6), (0, .ref h0)]) hx hb dX10_init_70 hl (k := 0) rfl (by decide) (by decide) rfl (fun ls hl => ?_)
  refine lv_goto (tgt := 50) hx hb dX10_init_73 (by decide) ?_
  refine lv_iload_n hx hb dX10_init_50 rfl (lv_at hl 0 rfl) ?_
  refine lv_bipush (v := 8) hx hb dX10_init_51 (by decide) ?_
  refine lv_icmp_ge (tgt := 76) hx hb dX10_init_53 (by decide) (fun c9 => absurd c9 (by decide)) (fun _ => ?_)
  refine lv_aload_n hx hb dX10_init_56 rfl (lv_at hl 1 rfl) ?_
  refine va_get (D := (dC, dI)) (ci := 9) (v := .ref q3) (C := RX10) (T := TX10) (N := 6) hx hb hts i_X10_init_X10 hown hK hP 0 rfl rfl 2 (by decide) (hts (.fieldLink RX10 18 "StatementRules2$Told" "opening" "[I") k_X10_init_fieldLink_RX10_18_SR_Told_opening_I) (fun _ h9 => h9) rfl dX10_init_57 ?_
  refine lv_iload_n hx hb dX10_init_60 rfl (lv_at hl 0 rfl) ?_
  refine lv_iconst (v := (-1)) hx hb dX10_init_61 (by decide) ?_
  refine va_iast hx hb hK hP hD hS 3 2 rfl rfl (by unfold vp_in; decide) dX10_init_62 (fun H locs hP hD hS => ?_)
  obtain ⟨f17, hP, hD⟩ : ∃ (f17 : Nat → Int32), va_P (dC, dI) vwCl [(h0, .inr (9, [.ref q1, .ref q2, .ref q3, .ref q4, .int 4, .int 0])), (q1, .inl (kq1, 12, .inl (upd (fun _ => 0) 0 (-1)))), (q2, .inl (kq2, 8, .inl (fun _ => 0))), (q3, .inl (kq3, 8, .inl f17)), (q4, .inl (kq4, 8, .inl f16))] H ∧ va_D A [(h0, .inr (9, [.ref q1, .ref q2, .ref q3, .ref q4, .int 4, .int 0])), (q1, .inl (kq1, 12, .inl (upd (fun _ => 0) 0 (-1)))), (q2, .inl (kq2, 8, .inl (fun _ => 0))), (q3, .inl (kq3, 8, .inl f17)), (q4, .inl (kq4, 8, .inl f16))] := ⟨_, hP, hD⟩
  refine lv_aload_n hx hb dX10_init_63 rfl (lv_at hl 1 rfl) ?_
  refine va_get (D := (dC, dI)) (ci := 9) (v := .ref q4) (C := RX10) (T := TX10) (N := 6) hx hb hts i_X10_init_X10 hown hK hP 0 rfl rfl 3 (by decide) (hts (.fieldLink RX10 21 "StatementRules2$Told" "closing" "[I") k_X10_init_fieldLink_RX10_21_SR_Told_closing_I) (fun _ h9 => h9) rfl dX10_init_64 ?_
  refine lv_iload_n hx hb dX10_init_67 rfl (lv_at hl 0 rfl) ?_
  refine lv_iconst (v := (-1)) hx hb dX10_init_68 (by decide) ?_
  refine va_iast hx hb hK hP hD hS 4 3 rfl rfl (by unfold vp_in; decide) dX10_init_69 (fun H locs hP hD hS => ?_)
  obtain ⟨f18, hP, hD⟩ : ∃ (f18 : Nat → Int32), va_P (dC, dI) vwCl [(h0, .inr (9, [.ref q1, .ref q2, .ref q3, .ref q4, .int 4, .int 0])), (q1, .inl (kq1, 12, .inl (upd (fun _ => 0) 0 (-1)))), (q2, .inl (kq2, 8, .inl (fun _ => 0))), (q3, .inl (kq3, 8, .inl f17)), (q4, .inl (kq4, 8, .inl f18))] H ∧ va_D A [(h0, .inr (9, [.ref q1, .ref q2, .ref q3, .ref q4, .int 4, .int 0])), (q1, .inl (kq1, 12, .inl (upd (fun _ => 0) 0 (-1)))), (q2, .inl (kq2, 8, .inl (fun _ => 0))), (q3, .inl (kq3, 8, .inl f17)), (q4, .inl (kq4, 8, .inl f18))] := ⟨_, hP, hD⟩
  refine lv_iinc (v := 7) (lv' := [(1, .int 7), (0, .ref h0)]) hx hb dX10_init_70 hl (k := 0) rfl (by decide) (by decide) rfl (fun ls hl => ?_)
  refine lv_goto (tgt := 50) hx hb dX10_init_73 (by decide) ?_
  refine lv_iload_n hx hb dX10_init_50 rfl (lv_at hl 0 rfl) ?_
  refine lv_bipush (v := 8) hx hb dX10_init_51 (by decide) ?_
  refine lv_icmp_ge (tgt := 76) hx hb dX10_init_53 (by decide) (fun c9 => absurd c9 (by decide)) (fun _ => ?_)
  refine lv_aload_n hx hb dX10_init_56 rfl (lv_at hl 1 rfl) ?_
  refine va_get (D := (dC, dI)) (ci := 9) (v := .ref q3) (C := RX10) (T := TX10) (N := 6) hx hb hts i_X10_init_X10 hown hK hP 0 rfl rfl 2 (by decide) (hts (.fieldLink RX10 18 "StatementRules2$Told" "opening" "[I") k_X10_init_fieldLink_RX10_18_SR_Told_opening_I) (fun _ h9 => h9) rfl dX10_init_57 ?_
  refine lv_iload_n hx hb dX10_init_60 rfl (lv_at hl 0 rfl) ?_
  refine lv_iconst (v := (-1)) hx hb dX10_init_61 (by decide) ?_
  refine va_iast hx hb hK hP hD hS 3 2 rfl rfl (by unfold vp_in; decide) dX10_init_62 (fun H locs hP hD hS => ?_)
  obtain ⟨f19, hP, hD⟩ : ∃ (f19 : Nat → Int32), va_P (dC, dI) vwCl [(h0, .inr (9, [.ref q1, .ref q2, .ref q3, .ref q4, .int 4, .int 0])), (q1, .inl (kq1, 12, .inl (upd (fun _ => 0) 0 (-1)))), (q2, .inl (kq2, 8, .inl (fun _ => 0))), (q3, .inl (kq3, 8, .inl f19)), (q4, .inl (kq4, 8, .inl f18))] H ∧ va_D A [(h0, .inr (9, [.ref q1, .ref q2, .ref q3, .ref q4, .int 4, .int 0])), (q1, .inl (kq1, 12, .inl (upd (fun _ => 0) 0 (-1)))), (q2, .inl (kq2, 8, .inl (fun _ => 0))), (q3, .inl (kq3, 8, .inl f19)), (q4, .inl (kq4, 8, .inl f18))] := ⟨_, hP, hD⟩
  refine lv_aload_n hx hb dX10_init_63 rfl (lv_at hl 1 rfl) ?_
  refine va_get (D := (dC, dI)) (ci := 9) (v := .ref q4) (C := RX10) (T := TX10) (N := 6) hx hb hts i_X10_init_X10 hown hK hP 0 rfl rfl 3 (by decide) (hts (.fieldLink RX10 21 "StatementRules2$Told" "closing" "[I") k_X10_init_fieldLink_RX10_21_SR_Told_closing_I) (fun _ h9 => h9) rfl dX10_init_64 ?_
  refine lv_iload_n hx hb dX10_init_67 rfl (lv_at hl 0 rfl) ?_
  refine lv_iconst (v := (-1)) hx hb dX10_init_68 (by decide) ?_
  refine va_iast hx hb hK hP hD hS 4 3 rfl rfl (by unfold vp_in; decide) dX10_init_69 (fun H locs hP hD hS => ?_)
  obtain ⟨f20, hP, hD⟩ : ∃ (f20 : Nat → Int32), va_P (dC, dI) vwCl [(h0, .inr (9, [.ref q1, .ref q2, .ref q3, .ref q4, .int 4, .int 0])), (q1, .inl (kq1, 12, .inl (upd (fun _ => 0) 0 (-1)))), (q2, .inl (kq2, 8, .inl (fun _ => 0))), (q3, .inl (kq3, 8, .inl f19)), (q4, .inl (kq4, 8, .inl f20))] H ∧ va_D A [(h0, .inr (9, [.ref q1, .ref q2, .ref q3, .ref q4, .int 4, .int 0])), (q1, .inl (kq1, 12, .inl (upd (fun _ => 0) 0 (-1)))), (q2, .inl (kq2, 8, .inl (fun _ => 0))), (q3, .inl (kq3, 8, .inl f19)), (q4, .inl (kq4, 8, .inl f20))] := ⟨_, hP, hD⟩
  refine lv_iinc (v := 8) (lv' := [(1, .int 8), (0, .ref h0)]) hx hb dX10_init_70 hl (k := 0) rfl (by decide) (by decide) rfl (fun ls hl => ?_)
  refine lv_goto (tgt := 50) hx hb dX10_init_73 (by decide) ?_
  refine lv_iload_n hx hb dX10_init_50 rfl (lv_at hl 0 rfl) ?_
  refine lv_bipush (v := 8) hx hb dX10_init_51 (by decide) ?_
  refine lv_icmp_ge (tgt := 76) hx hb dX10_init_53 (by decide) (fun _ => ?_) (fun c9 => absurd (by decide) c9)
  have hP9 := hP.sub (ws' := [(h0, .inr (9, [.ref q1, .ref q2, .ref q3, .ref q4, .int 4, .int 0])), (q1, .inl (kq1, 12, .inl (upd (fun _ => 0) 0 (-1)))), (q2, .inl (kq2, 8, .inl (fun _ => 0))), (q3, .inl (kq3, 8, .inl f19)), (q4, .inl (kq4, 8, .inl f20))]) [0, 1, 2, 3, 4] rfl
  have hD9 := hD.sub (ws' := [(h0, .inr (9, [.ref q1, .ref q2, .ref q3, .ref q4, .int 4, .int 0])), (q1, .inl (kq1, 12, .inl (upd (fun _ => 0) 0 (-1)))), (q2, .inl (kq2, 8, .inl (fun _ => 0))), (q3, .inl (kq3, 8, .inl f19)), (q4, .inl (kq4, 8, .inl f20))]) [0, 1, 2, 3, 4] (by decide) rfl
  have hK9 := hK.sub (tys' := [(kq1, .int), (kq2, .int), (kq3, .int), (kq4, .int)]) [0, 1, 2, 3] rfl
  exact W.vret hx hb hr (fun t ht hW => ⟨⟨(), rfl, trivial, q1, kq1, q2, kq2, q3, kq3, q4, kq4, f19, f20, by rw [ht]; exact hP9, va_K.moved hW.alike hK9, hD9⟩, hS.F ht⟩) hS.2.2 dX10_init_76
theorem k_X1_init_methodLink_RX1_3_objectInit : Cond.methodLink RX1 3 objectInit ∈ wzX1_init := List.mem_cons_of_mem _ (List.mem_append_left _ (List.mem_of_getElem? (i := 0) rfl))
theorem k_X1_init_instanceMethod_objectInit : Cond.instanceMethod objectInit ∈ wzX1_init := List.mem_cons_of_mem _ (List.mem_append_left _ (List.mem_of_getElem? (i := 1) rfl))
theorem k_X1_init_code_objectInit_0xb1_1_none : Cond.code objectInit ⟨#[0xb1]⟩ 1 none ∈ wzX1_init := List.mem_cons_of_mem _ (List.mem_append_left _ (List.mem_of_getElem? (i := 2) rfl))
theorem df_X4 : ∀ j, j < 4 → defaultValue (tyX4 j) = vp_V [.null, .null, .null, .int 0] j := by decide +kernel
theorem i_X1_init_X4 : ∀ w ∈ wsX40, w ∈ wzX1_init := fun _ h => List.mem_cons_of_mem _ (List.mem_append_right _ (List.mem_append_left _ (h)))
theorem k_X1_init_classLink_RX1_9_RX4 : Cond.classLink RX1 9 RX4 ∈ wzX1_init := List.mem_cons_of_mem _ (List.mem_append_left _ (List.mem_of_getElem? (i := 3) rfl))
theorem k_X1_init_instantiable_RX4_4 : Cond.instantiable RX4 4 ∈ wzX1_init := List.mem_cons_of_mem _ (List.mem_append_left _ (List.mem_of_getElem? (i := 4) rfl))
theorem k_X1_init_initialized_RX4 : Cond.initialized RX4 ∈ wzX1_init := List.mem_cons_of_mem _ (List.mem_append_left _ (List.mem_of_getElem? (i := 5) rfl))
theorem k_X1_init_instanceMethod_yX4_init : Cond.instanceMethod yX4_init ∈ wzX1_init := List.mem_cons_of_mem _ (List.mem_append_left _ (List.mem_of_getElem? (i := 6) rfl))
theorem k_X1_init_fieldLink_RX1_12_SR_Formulas_names_LSR_Names : Cond.fieldLink RX1 12 "StatementRules2$Formulas" "names" "LStatementRules2$Names;" ∈ wzX1_init := List.mem_cons_of_mem _ (List.mem_append_left _ (List.mem_of_getElem? (i := 7) rfl))
theorem i_X1_init_X7 : ∀ w ∈ wsX70, w ∈ wzX1_init := fun _ h => List.mem_cons_of_mem _ (List.mem_append_right _ (List.mem_append_right _ (List.mem_append_left _ (h))))
theorem k_X1_init_fieldLink_RX1_18_SR_Formulas_tokens_LSR_Tokens : Cond.fieldLink RX1 18 "StatementRules2$Formulas" "tokens" "LStatementRules2$Tokens;" ∈ wzX1_init := List.mem_cons_of_mem _ (List.mem_append_left _ (List.mem_of_getElem? (i := 8) rfl))
theorem k_X1_init_fieldLink_RX1_22_SR_Formulas_code_LSR_Code : Cond.fieldLink RX1 22 "StatementRules2$Formulas" "code" "LStatementRules2$Code;" ∈ wzX1_init := List.mem_cons_of_mem _ (List.mem_append_left _ (List.mem_of_getElem? (i := 9) rfl))
theorem k_X1_init_fieldLink_RX1_26_SR_Formulas_told_LSR_Told : Cond.fieldLink RX1 26 "StatementRules2$Formulas" "told" "LStatementRules2$Told;" ∈ wzX1_init := List.mem_cons_of_mem _ (List.mem_append_left _ (List.mem_of_getElem? (i := 10) rfl))
set_option maxHeartbeats 4000000 in
set_option maxRecDepth 100000 in
theorem c_X1_init (l : Launch) (dC : Nat → ClassId) (dI : Nat → Nat → Nat) (sz : Nat) (h0 : Nat) (q9 : Nat) (q0 : Nat) (q10 : Nat) : Met l yX1_init wzX1_init ({ frames := 2, cells := 4, slots := 388, locals := 120 }) (va_Pc [.ref h0, .ref q9, .ref q0, .ref q10] (zPre dC dI sz [(h0, .inr (6, [.null, .null, .null, .null, .int 0, .int 0, .int 0, .null, .int 0, .int 0, .int 0]))] [])) (va_Qv (fun (_ : Unit) => True) (fun (_ : Unit) (t : State) => ∃ (q4 : Nat), ∃ (qn : Nat), ∃ (kn : ClassId), ∃ (qc : Nat), ∃ (kc : ClassId), ∃ (qf : Nat), ∃ (kf : ClassId), zPost dC dI (va_A [(h0, .inr (6, [.null, .null, .null, .null, .int 0, .int 0, .int 0, .null, .int 0, .int 0, .int 0]))] sz) [(h0, .inr (6, [.ref q9, .ref q0, .ref q10, .ref q4, .int 0, .int 0, .int 0, .null, .int 0, .int 0, .int 0])), (q4, .inr (3, [.ref qn, .ref qc, .ref qf, .int 0])), (qn, .inl (kn, 128, .inr (.inl (fun _ => 0)))), (qc, .inl (kc, 128, .inl (fun _ => 0))), (qf, .inl (kf, 128, .inl (fun _ => 0)))] [(kn, .long), (kc, .int), (kf, .int)] t) (va_A [(h0, .inr (6, [.null, .null, .null, .null, .int 0, .int 0, .int 0, .null, .int 0, .int 0, .int 0]))] sz)) 4 388 (va_A [(h0, .inr (6, [.null, .null, .null, .null, .int 0, .int 0, .int 0, .null, .int 0, .int 0, .int 0]))] sz) := by
  refine Met.ofW (cc := cX1_init) (maxL := 4) (ret := none) (by decide) rfl ?_
  intro p e s m args below meth c s₁ B hml hv
  obtain ⟨rfl, hsz, hZ, hP, hK, hD0⟩ := hv
  have hx := B.exec
  have hb := B.bytes
  have hr := B.returns
  have hts := atoms_spec (ws := wzX1_init) B.pre
  have hown : s.vm.findClass RX1 = some m.cls := findClass_of_methodNamed B.named
  have hlocks := B.notSynchronized
  have hin : meth.name = "<init>" := (name_of_methodNamed B.named B.method).1
  subst hsz
  have hD := hD0.self (sz := s.heap.size)
  generalize hAe : va_A [(h0, .inr (6, [.null, .null, .null, .null, .int 0, .int 0, .int 0, .null, .int 0, .int 0, .int 0]))] s.heap.size = A at hD ⊢
  have hA : ∀ q : Nat, s.heap.size ≤ q → A q := fun q h => by rw [← hAe]; exact Or.inr h
  have hS : va_S A s.heap s.heap [] := va_S.rf
  have hP : va_P (dC, dI) vwCl [(h0, .inr (6, [.null, .null, .null, .null, .int 0, .int 0, .int 0, .null, .int 0, .int 0, .int 0]))] s.heap := hP
  have hl := lv_entry ([.ref h0, .ref q9, .ref q0, .ref q10]) (n := 4) (Nat.le_of_ble_eq_true rfl)
  rw [lg_entry_eq]
  generalize (lg_sl ([.ref h0, .ref q9, .ref q0, .ref q10]) ++ List.replicate (4 - (lg_sl ([.ref h0, .ref q9, .ref q0, .ref q10])).length) Slot.unset).toArray = ls at hl ⊢
  have hl : lv_has ls 4 [(0, .ref h0), (1, .ref q9), (2, .ref q0), (3, .ref q10)] := hl
  refine lv_aload_n hx hb dX1_init_0 rfl (lv_at hl 0 rfl) ?_
  refine W.objInit hx hb hown (hts (.methodLink RX1 3 objectInit) k_X1_init_methodLink_RX1_3_objectInit) (hts (.instanceMethod objectInit) k_X1_init_instanceMethod_objectInit) (hts (.code objectInit ⟨#[0xb1]⟩ 1 none) k_X1_init_code_objectInit_0xb1_1_none) rfl (by rw [hml]; exact hl.1) rfl dX1_init_1 (Nat.le_of_ble_eq_true rfl) (Nat.le_of_ble_eq_true rfl) ?_
  refine W.eq (g2 := F0 m 4 ls []) rfl ?_
  refine lv_aload_n hx hb dX1_init_4 rfl (lv_at hl 0 rfl) ?_
  refine va_new (ci := 3) (fs := [.null, .null, .null, .int 0]) (C := RX4) (T := TX4) (N := 4) hx hb hts i_X1_init_X4 tyX4 tyX4_ok hown (hts (.classLink RX1 9 RX4) k_X1_init_classLink_RX1_9_RX4) (hts (.instantiable RX4 4) k_X1_init_instantiable_RX4_4) (hts (.initialized RX4) k_X1_init_initialized_RX4) hK hP hD hS hA rfl df_X4 (Nat.le_of_ble_eq_true rfl) (Nat.le_of_ble_eq_true rfl) dX1_init_5 (fun q1 H hP hD hS => ?_)
  refine W.widen (k := 1) (n := 4) (by omega) (by omega) ?_
  have hP : va_P (dC, dI) vwCl [(h0, .inr (6, [.null, .null, .null, .null, .int 0, .int 0, .int 0, .null, .int 0, .int 0, .int 0])), (q1, .inr (3, [.null, .null, .null, .int 0]))] H := hP
  have hD : va_D A [(h0, .inr (6, [.null, .null, .null, .null, .int 0, .int 0, .int 0, .null, .int 0, .int 0, .int 0])), (q1, .inr (3, [.null, .null, .null, .int 0]))] := hD
  refine lv_dup hx hb dX1_init_8 rfl ?_
  have hPc := hP.sub (ws' := [(q1, .inr (3, [.null, .null, .null, .int 0]))]) [1] rfl
  have hDc := hD.sub (ws' := [(q1, .inr (3, [.null, .null, .null, .int 0]))]) [1] (by decide) rfl
  have hKc := hK.sub (tys' := []) [] rfl
  have hFc := va_free (wc := [(q1, .inr (3, [.null, .null, .null, .int 0]))]) hD hS hA [1] rfl
  refine va_callv (va_runIN (As := []) (rest := [.ref q1, .ref h0]) ⟨hx, hb, hml, hown, hts⟩ (c_X4_init l dC dI _ q1) ⟨va_cnB 0 hts hX1_init_X4_init_n11 rfl rfl rfl (hZ.1 (.methodLinkNest RX1 11 yX4_init "StatementRules2") (by decide +kernel)) (hts (.initialized RX4) k_X1_init_initialized_RX4) (by decide +kernel) ⟨Nat.le_of_ble_eq_true rfl, Nat.le_of_ble_eq_true rfl⟩, rfl, (hts (.instanceMethod yX4_init) k_X1_init_instanceMethod_yX4_init)⟩ ⟨zPre.blind, zPre.go hZ hPc hKc hDc⟩ rfl rfl hl.1 rfl (lv_room (Nat.le_of_ble_eq_true rfl)) dX1_init_9 ⟨Nat.le_of_ble_eq_true rfl, Nat.le_of_ble_eq_true rfl⟩) hS (fun q _ h => hFc q h) hFc (fun u9 t9 H1 locs ht hvm hw hB hz1 hk1 hS => ?_)
  obtain ⟨qn_3, kn_4, qc_5, kc_6, qf_7, kf_8, hP1, hK1, hD1⟩ := hB
  rw [ht] at hP1
  have hK1 := va_K.moved hvm.symm hK1
  obtain ⟨hP, hD⟩ := va_join (wr := [(h0, .inr (6, [.null, .null, .null, .null, .int 0, .int 0, .int 0, .null, .int 0, .int 0, .int 0]))]) (w1 := [(q1, .inr (3, [.ref qn_3, .ref qc_5, .ref qf_7, .int 0])), (qn_3, .inl (kn_4, 128, .inr (.inl (fun _ => 0)))), (qc_5, .inl (kc_6, 128, .inl (fun _ => 0))), (qf_7, .inl (kf_8, 128, .inl (fun _ => 0)))]) hP hD [1] [0] rfl rfl (by decide) (by decide) hk1 hFc hP1 hD1
  have hK := hK.app hK1
  generalize H1 = H at hP hS ⊢
  have hP : va_P (dC, dI) vwCl [(h0, .inr (6, [.null, .null, .null, .null, .int 0, .int 0, .int 0, .null, .int 0, .int 0, .int 0])), (q1, .inr (3, [.ref qn_3, .ref qc_5, .ref qf_7, .int 0])), (qn_3, .inl (kn_4, 128, .inr (.inl (fun _ => 0)))), (qc_5, .inl (kc_6, 128, .inl (fun _ => 0))), (qf_7, .inl (kf_8, 128, .inl (fun _ => 0)))] H := hP
  have hD : va_D A [(h0, .inr (6, [.null, .null, .null, .null, .int 0, .int 0, .int 0, .null, .int 0, .int 0, .int 0])), (q1, .inr (3, [.ref qn_3, .ref qc_5, .ref qf_7, .int 0])), (qn_3, .inl (kn_4, 128, .inr (.inl (fun _ => 0)))), (qc_5, .inl (kc_6, 128, .inl (fun _ => 0))), (qf_7, .inl (kf_8, 128, .inl (fun _ => 0)))] := hD
  have hK : va_K (dC, dI) vwCl [(kn_4, .long), (kc_6, .int), (kf_8, .int)] s := hK
  refine W.widen (k := 4) (n := 388) (by omega) (by omega) ?_
  refine va_putF (D := (dC, dI)) (ci := 6) (v := .ref q1) (ty := (.object "StatementRules2$Names")) (C := RX7) (T := TX7) (N := 11) hx hb hts i_X1_init_X7 tyX7 tyX7_ok nmX7 hown hK hP hD hS 0 rfl rfl 3 (by decide) (hts (.fieldLink RX1 12 "StatementRules2$Formulas" "names" "LStatementRules2$Names;") k_X1_init_fieldLink_RX1_12_SR_Formulas_names_LSR_Names) (fun _ h9 => h9) rfl hin rfl (by decide +kernel) rfl rfl (Nat.le_of_ble_eq_true rfl) dX1_init_12 (fun H locs hP hD hS => ?_)
  have hP : va_P (dC, dI) vwCl [(h0, .inr (6, [.null, .null, .null, .ref q1, .int 0, .int 0, .int 0, .null, .int 0, .int 0, .int 0])), (q1, .inr (3, [.ref qn_3, .ref qc_5, .ref qf_7, .int 0])), (qn_3, .inl (kn_4, 128, .inr (.inl (fun _ => 0)))), (qc_5, .inl (kc_6, 128, .inl (fun _ => 0))), (qf_7, .inl (kf_8, 128, .inl (fun _ => 0)))] H := hP
  have hD : va_D A [(h0, .inr (6, [.null, .null, .null, .ref q1, .int 0, .int 0, .int 0, .null, .int 0, .int 0, .int 0])), (q1, .inr (3, [.ref qn_3, .ref qc_5, .ref qf_7, .int 0])), (qn_3, .inl (kn_4, 128, .inr (.inl (fun _ => 0)))), (qc_5, .inl (kc_6, 128, .inl (fun _ => 0))), (qf_7, .inl (kf_8, 128, .inl (fun _ => 0)))] := hD
  refine lv_aload_n hx hb dX1_init_15 rfl (lv_at hl 0 rfl) ?_
  refine lv_aload_n hx hb dX1_init_16 rfl (lv_at hl 1 rfl) ?_
  refine va_putF (D := (dC, dI)) (ci := 6) (v := .ref q9) (ty := (.object "StatementRules2$Tokens")) (C := RX7) (T := TX7) (N := 11) hx hb hts i_X1_init_X7 tyX7 tyX7_ok nmX7 hown hK hP hD hS 0 rfl rfl 0 (by decide) (hts (.fieldLink RX1 18 "StatementRules2$Formulas" "tokens" "LStatementRules2$Tokens;") k_X1_init_fieldLink_RX1_18_SR_Formulas_tokens_LSR_Tokens) (fun _ h9 => h9) rfl hin rfl (by decide +kernel) rfl rfl (Nat.le_of_ble_eq_true rfl) dX1_init_17 (fun H locs hP hD hS => ?_)
  have hP : va_P (dC, dI) vwCl [(h0, .inr (6, [.ref q9, .null, .null, .ref q1, .int 0, .int 0, .int 0, .null, .int 0, .int 0, .int 0])), (q1, .inr (3, [.ref qn_3, .ref qc_5, .ref qf_7, .int 0])), (qn_3, .inl (kn_4, 128, .inr (.inl (fun _ => 0)))), (qc_5, .inl (kc_6, 128, .inl (fun _ => 0))), (qf_7, .inl (kf_8, 128, .inl (fun _ => 0)))] H := hP
  have hD : va_D A [(h0, .inr (6, [.ref q9, .null, .null, .ref q1, .int 0, .int 0, .int 0, .null, .int 0, .int 0, .int 0])), (q1, .inr (3, [.ref qn_3, .ref qc_5, .ref qf_7, .int 0])), (qn_3, .inl (kn_4, 128, .inr (.inl (fun _ => 0)))), (qc_5, .inl (kc_6, 128, .inl (fun _ => 0))), (qf_7, .inl (kf_8, 128, .inl (fun _ => 0)))] := hD
  refine lv_aload_n hx hb dX1_init_20 rfl (lv_at hl 0 rfl) ?_
  refine lv_aload_n hx hb dX1_init_21 rfl (lv_at hl 2 rfl) ?_
  refine va_putF (D := (dC, dI)) (ci := 6) (v := .ref q0) (ty := (.object "StatementRules2$Code")) (C := RX7) (T := TX7) (N := 11) hx hb hts i_X1_init_X7 tyX7 tyX7_ok nmX7 hown hK hP hD hS 0 rfl rfl 1 (by decide) (hts (.fieldLink RX1 22 "StatementRules2$Formulas" "code" "LStatementRules2$Code;") k_X1_init_fieldLink_RX1_22_SR_Formulas_code_LSR_Code) (fun _ h9 => h9) rfl hin rfl (by decide +kernel) rfl rfl (Nat.le_of_ble_eq_true rfl) dX1_init_22 (fun H locs hP hD hS => ?_)
  have hP : va_P (dC, dI) vwCl [(h0, .inr (6, [.ref q9, .ref q0, .null, .ref q1, .int 0, .int 0, .int 0, .null, .int 0, .int 0, .int 0])), (q1, .inr (3, [.ref qn_3, .ref qc_5, .ref qf_7, .int 0])), (qn_3, .inl (kn_4, 128, .inr (.inl (fun _ => 0)))), (qc_5, .inl (kc_6, 128, .inl (fun _ => 0))), (qf_7, .inl (kf_8, 128, .inl (fun _ => 0)))] H := hP
  have hD : va_D A [(h0, .inr (6, [.ref q9, .ref q0, .null, .ref q1, .int 0, .int 0, .int 0, .null, .int 0, .int 0, .int 0])), (q1, .inr (3, [.ref qn_3, .ref qc_5, .ref qf_7, .int 0])), (qn_3, .inl (kn_4, 128, .inr (.inl (fun _ => 0)))), (qc_5, .inl (kc_6, 128, .inl (fun _ => 0))), (qf_7, .inl (kf_8, 128, .inl (fun _ => 0)))] := hD
  refine lv_aload_n hx hb dX1_init_25 rfl (lv_at hl 0 rfl) ?_
  refine lv_aload_n hx hb dX1_init_26 rfl (lv_at hl 3 rfl) ?_
  refine va_putF (D := (dC, dI)) (ci := 6) (v := .ref q10) (ty := (.object "StatementRules2$Told")) (C := RX7) (T := TX7) (N := 11) hx hb hts i_X1_init_X7 tyX7 tyX7_ok nmX7 hown hK hP hD hS 0 rfl rfl 2 (by decide) (hts (.fieldLink RX1 26 "StatementRules2$Formulas" "told" "LStatementRules2$Told;") k_X1_init_fieldLink_RX1_26_SR_Formulas_told_LSR_Told) (fun _ h9 => h9) rfl hin rfl (by decide +kernel) rfl rfl (Nat.le_of_ble_eq_true rfl) dX1_init_27 (fun H locs hP hD hS => ?_)
  have hP : va_P (dC, dI) vwCl [(h0, .inr (6, [.ref q9, .ref q0, .ref q10, .ref q1, .int 0, .int 0, .int 0, .null, .int 0, .int 0, .int 0])), (q1, .inr (3, [.ref qn_3, .ref qc_5, .ref qf_7, .int 0])), (qn_3, .inl (kn_4, 128, .inr (.inl (fun _ => 0)))), (qc_5, .inl (kc_6, 128, .inl (fun _ => 0))), (qf_7, .inl (kf_8, 128, .inl (fun _ => 0)))] H := hP
  have hD : va_D A [(h0, .inr (6, [.ref q9, .ref q0, .ref q10, .ref q1, .int 0, .int 0, .int 0, .null, .int 0, .int 0, .int 0])), (q1, .inr (3, [.ref qn_3, .ref qc_5, .ref qf_7, .int 0])), (qn_3, .inl (kn_4, 128, .inr (.inl (fun _ => 0)))), (qc_5, .inl (kc_6, 128, .inl (fun _ => 0))), (qf_7, .inl (kf_8, 128, .inl (fun _ => 0)))] := hD
  have hP9 := hP.sub (ws' := [(h0, .inr (6, [.ref q9, .ref q0, .ref q10, .ref q1, .int 0, .int 0, .int 0, .null, .int 0, .int 0, .int 0])), (q1, .inr (3, [.ref qn_3, .ref qc_5, .ref qf_7, .int 0])), (qn_3, .inl (kn_4, 128, .inr (.inl (fun _ => 0)))), (qc_5, .inl (kc_6, 128, .inl (fun _ => 0))), (qf_7, .inl (kf_8, 128, .inl (fun _ => 0)))]) [0, 1, 2, 3, 4] rfl
  have hD9 := hD.sub (ws' := [(h0, .inr (6, [.ref q9, .ref q0, .ref q10, .ref q1, .int 0, .int 0, .int 0, .null, .int 0, .int 0, .int 0])), (q1, .inr (3, [.ref qn_3, .ref qc_5, .ref qf_7, .int 0])), (qn_3, .inl (kn_4, 128, .inr (.inl (fun _ => 0)))), (qc_5, .inl (kc_6, 128, .inl (fun _ => 0))), (qf_7, .inl (kf_8, 128, .inl (fun _ => 0)))]) [0, 1, 2, 3, 4] (by decide) rfl
  have hK9 := hK.sub (tys' := [(kn_4, .long), (kc_6, .int), (kf_8, .int)]) [0, 1, 2] rfl
  exact W.vret hx hb hr (fun t ht hW => ⟨⟨(), rfl, trivial, q1, qn_3, kn_4, qc_5, kc_6, qf_7, kf_8, by rw [ht]; exact hP9, va_K.moved hW.alike hK9, hD9⟩, hS.F ht⟩) hS.2.2 dX1_init_30
theorem k_X7_init_initialized_RX1 : Cond.initialized RX1 ∈ wzX7_init := List.mem_cons_of_mem _ (List.mem_append_left _ (List.mem_of_getElem? (i := 0) rfl))
theorem k_X7_init_methodLink_RX7_3_yX1_init : Cond.methodLink RX7 3 yX1_init ∈ wzX7_init := List.mem_cons_of_mem _ (List.mem_append_left _ (List.mem_of_getElem? (i := 1) rfl))
theorem k_X7_init_instanceMethod_yX1_init : Cond.instanceMethod yX1_init ∈ wzX7_init := List.mem_cons_of_mem _ (List.mem_append_left _ (List.mem_of_getElem? (i := 2) rfl))
theorem df_X6 : ∀ j, j < 6 → defaultValue (tyX6 j) = vp_V [.null, .null, .int 0, .int 0, .int 0, .int 0] j := by decide +kernel
theorem i_X7_init_X6 : ∀ w ∈ wsX60, w ∈ wzX7_init := fun _ h => List.mem_cons_of_mem _ (List.mem_append_right _ (List.mem_append_left _ (h)))
theorem k_X7_init_classLink_RX7_9_RX6 : Cond.classLink RX7 9 RX6 ∈ wzX7_init := List.mem_cons_of_mem _ (List.mem_append_left _ (List.mem_of_getElem? (i := 3) rfl))
theorem k_X7_init_instantiable_RX6_6 : Cond.instantiable RX6 6 ∈ wzX7_init := List.mem_cons_of_mem _ (List.mem_append_left _ (List.mem_of_getElem? (i := 4) rfl))
theorem k_X7_init_initialized_RX6 : Cond.initialized RX6 ∈ wzX7_init := List.mem_cons_of_mem _ (List.mem_append_left _ (List.mem_of_getElem? (i := 5) rfl))
theorem k_X7_init_instanceMethod_yX6_init : Cond.instanceMethod yX6_init ∈ wzX7_init := List.mem_cons_of_mem _ (List.mem_append_left _ (List.mem_of_getElem? (i := 6) rfl))
theorem k_X7_init_fieldLink_RX7_14_SR_Statements_opens_LSR_Opens : Cond.fieldLink RX7 14 "StatementRules2$Statements" "opens" "LStatementRules2$Opens;" ∈ wzX7_init := List.mem_cons_of_mem _ (List.mem_append_left _ (List.mem_of_getElem? (i := 7) rfl))
theorem i_X7_init_X7 : ∀ w ∈ wsX70, w ∈ wzX7_init := fun _ h => List.mem_cons_of_mem _ (List.mem_append_right _ (List.mem_append_right _ (List.mem_append_left _ (h))))
set_option maxHeartbeats 4000000 in
set_option maxRecDepth 100000 in
theorem c_X7_init (l : Launch) (dC : Nat → ClassId) (dI : Nat → Nat → Nat) (sz : Nat) (h0 : Nat) (q9 : Nat) (q0 : Nat) (q10 : Nat) : Met l yX7_init wzX7_init ({ frames := 3, cells := 7, slots := 954, locals := 180 }) (va_Pc [.ref h0, .ref q9, .ref q0, .ref q10] (zPre dC dI sz [(h0, .inr (6, [.null, .null, .null, .null, .int 0, .int 0, .int 0, .null, .int 0, .int 0, .int 0]))] [])) (va_Qv (fun (_ : Unit) => True) (fun (_ : Unit) (t : State) => ∃ (q4 : Nat), ∃ (qn : Nat), ∃ (kn : ClassId), ∃ (qc : Nat), ∃ (kc : ClassId), ∃ (qf : Nat), ∃ (kf : ClassId), ∃ (q6 : Nat), ∃ (qr : Nat), ∃ (qj : Nat), ∃ (kr : ClassId), ∃ (kj : ClassId), zPost dC dI (va_A [(h0, .inr (6, [.null, .null, .null, .null, .int 0, .int 0, .int 0, .null, .int 0, .int 0, .int 0]))] sz) [(h0, .inr (6, [.ref q9, .ref q0, .ref q10, .ref q4, .int 0, .int 0, .int 0, .ref q6, .int 0, .int 0, .int 0])), (q4, .inr (3, [.ref qn, .ref qc, .ref qf, .int 0])), (qn, .inl (kn, 128, .inr (.inl (fun _ => 0)))), (qc, .inl (kc, 128, .inl (fun _ => 0))), (qf, .inl (kf, 128, .inl (fun _ => 0))), (q6, .inr (5, [.ref qr, .ref qj, .int 0, .int 0, .int 0, .int 0])), (qr, .inl (kr, 400, .inr (.inr (.inr (.inr (fun _ => none)))))), (qj, .inl (kj, 160, .inl (fun _ => 0)))] [(kn, .long), (kc, .int), (kf, .int), (kr, .object "StatementRules2$Open"), (kj, .int)] t) (va_A [(h0, .inr (6, [.null, .null, .null, .null, .int 0, .int 0, .int 0, .null, .int 0, .int 0, .int 0]))] sz)) 7 954 (va_A [(h0, .inr (6, [.null, .null, .null, .null, .int 0, .int 0, .int 0, .null, .int 0, .int 0, .int 0]))] sz) := by
  refine Met.ofW (cc := cX7_init) (maxL := 4) (ret := none) (by decide) rfl ?_
  intro p e s m args below meth c s₁ B hml hv
  obtain ⟨rfl, hsz, hZ, hP, hK, hD0⟩ := hv
  have hx := B.exec
  have hb := B.bytes
  have hr := B.returns
  have hts := atoms_spec (ws := wzX7_init) B.pre
  have hown : s.vm.findClass RX7 = some m.cls := findClass_of_methodNamed B.named
  have hlocks := B.notSynchronized
  have hin : meth.name = "<init>" := (name_of_methodNamed B.named B.method).1
  subst hsz
  have hD := hD0.self (sz := s.heap.size)
  generalize hAe : va_A [(h0, .inr (6, [.null, .null, .null, .null, .int 0, .int 0, .int 0, .null, .int 0, .int 0, .int 0]))] s.heap.size = A at hD ⊢
  have hA : ∀ q : Nat, s.heap.size ≤ q → A q := fun q h => by rw [← hAe]; exact Or.inr h
  have hS : va_S A s.heap s.heap [] := va_S.rf
  have hP : va_P (dC, dI) vwCl [(h0, .inr (6, [.null, .null, .null, .null, .int 0, .int 0, .int 0, .null, .int 0, .int 0, .int 0]))] s.heap := hP
  have hl := lv_entry ([.ref h0, .ref q9, .ref q0, .ref q10]) (n := 4) (Nat.le_of_ble_eq_true rfl)
  rw [lg_entry_eq]
  generalize (lg_sl ([.ref h0, .ref q9, .ref q0, .ref q10]) ++ List.replicate (4 - (lg_sl ([.ref h0, .ref q9, .ref q0, .ref q10])).length) Slot.unset).toArray = ls at hl ⊢
  have hl : lv_has ls 4 [(0, .ref h0), (1, .ref q9), (2, .ref q0), (3, .ref q10)] := hl
  refine lv_aload_n hx hb dX7_init_0 rfl (lv_at hl 0 rfl) ?_
  refine lv_aload_n hx hb dX7_init_1 rfl (lv_at hl 1 rfl) ?_
  refine lv_aload_n hx hb dX7_init_2 rfl (lv_at hl 2 rfl) ?_
  refine lv_aload_n hx hb dX7_init_3 rfl (lv_at hl 3 rfl) ?_
  have hPc := hP.sub (ws' := [(h0, .inr (6, [.null, .null, .null, .null, .int 0, .int 0, .int 0, .null, .int 0, .int 0, .int 0]))]) [0] rfl
  have hDc := hD.sub (ws' := [(h0, .inr (6, [.null, .null, .null, .null, .int 0, .int 0, .int 0, .null, .int 0, .int 0, .int 0]))]) [0] (by decide) rfl
  have hKc := hK.sub (tys' := []) [] rfl
  have hFc := va_free (wc := [(h0, .inr (6, [.null, .null, .null, .null, .int 0, .int 0, .int 0, .null, .int 0, .int 0, .int 0]))]) hD hS hA [0] rfl
  refine va_callv (va_runI (As := [.ref q9, .ref q0, .ref q10]) (rest := []) ⟨hx, hb, hml, hown, hts⟩ (c_X1_init l dC dI _ h0 q9 q0 q10) (cwI 3 hts hX7_init_X1_init_i3 rfl rfl rfl (hts (.initialized RX1) k_X7_init_initialized_RX1) (hts (.methodLink RX7 3 yX1_init) k_X7_init_methodLink_RX7_3_yX1_init) (hts (.instanceMethod yX1_init) k_X7_init_instanceMethod_yX1_init) rfl (by decide +kernel) ⟨Nat.le_of_ble_eq_true rfl, Nat.le_of_ble_eq_true rfl⟩) ⟨zPre.blind, zPre.go hZ hPc hKc hDc⟩ rfl rfl hl.1 rfl (lv_room (Nat.le_of_ble_eq_true rfl)) dX7_init_4 ⟨Nat.le_of_ble_eq_true rfl, Nat.le_of_ble_eq_true rfl⟩) hS (fun q _ h => hFc q h) hFc (fun u9 t9 H1 locs ht hvm hw hB hz1 hk1 hS => ?_)
  obtain ⟨q4_2, qn_3, kn_4, qc_5, kc_6, qf_7, kf_8, hP1, hK1, hD1⟩ := hB
  rw [ht] at hP1
  have hK1 := va_K.moved hvm.symm hK1
  obtain ⟨hP, hD⟩ := va_join (wr := []) (w1 := [(h0, .inr (6, [.ref q9, .ref q0, .ref q10, .ref q4_2, .int 0, .int 0, .int 0, .null, .int 0, .int 0, .int 0])), (q4_2, .inr (3, [.ref qn_3, .ref qc_5, .ref qf_7, .int 0])), (qn_3, .inl (kn_4, 128, .inr (.inl (fun _ => 0)))), (qc_5, .inl (kc_6, 128, .inl (fun _ => 0))), (qf_7, .inl (kf_8, 128, .inl (fun _ => 0)))]) hP hD [0] [] rfl rfl (by decide) (by decide) hk1 hFc hP1 hD1
  have hK := hK.app hK1
  generalize H1 = H at hP hS ⊢
  have hP : va_P (dC, dI) vwCl [(h0, .inr (6, [.ref q9, .ref q0, .ref q10, .ref q4_2, .int 0, .int 0, .int 0, .null, .int 0, .int 0, .int 0])), (q4_2, .inr (3, [.ref qn_3, .ref qc_5, .ref qf_7, .int 0])), (qn_3, .inl (kn_4, 128, .inr (.inl (fun _ => 0)))), (qc_5, .inl (kc_6, 128, .inl (fun _ => 0))), (qf_7, .inl (kf_8, 128, .inl (fun _ => 0)))] H := hP
  have hD : va_D A [(h0, .inr (6, [.ref q9, .ref q0, .ref q10, .ref q4_2, .int 0, .int 0, .int 0, .null, .int 0, .int 0, .int 0])), (q4_2, .inr (3, [.ref qn_3, .ref qc_5, .ref qf_7, .int 0])), (qn_3, .inl (kn_4, 128, .inr (.inl (fun _ => 0)))), (qc_5, .inl (kc_6, 128, .inl (fun _ => 0))), (qf_7, .inl (kf_8, 128, .inl (fun _ => 0)))] := hD
  have hK : va_K (dC, dI) vwCl [(kn_4, .long), (kc_6, .int), (kf_8, .int)] s := hK
  refine W.widen (k := 4) (n := 388) (by omega) (by omega) ?_
  refine lv_aload_n hx hb dX7_init_7 rfl (lv_at hl 0 rfl) ?_
  refine va_new (ci := 5) (fs := [.null, .null, .int 0, .int 0, .int 0, .int 0]) (C := RX6) (T := TX6) (N := 6) hx hb hts i_X7_init_X6 tyX6 tyX6_ok hown (hts (.classLink RX7 9 RX6) k_X7_init_classLink_RX7_9_RX6) (hts (.instantiable RX6 6) k_X7_init_instantiable_RX6_6) (hts (.initialized RX6) k_X7_init_initialized_RX6) hK hP hD hS hA rfl df_X6 (Nat.le_of_ble_eq_true rfl) (Nat.le_of_ble_eq_true rfl) dX7_init_8 (fun q11 H hP hD hS => ?_)
  refine W.widen (k := 5) (n := 394) (by omega) (by omega) ?_
  have hP : va_P (dC, dI) vwCl [(h0, .inr (6, [.ref q9, .ref q0, .ref q10, .ref q4_2, .int 0, .int 0, .int 0, .null, .int 0, .int 0, .int 0])), (q4_2, .inr (3, [.ref qn_3, .ref qc_5, .ref qf_7, .int 0])), (qn_3, .inl (kn_4, 128, .inr (.inl (fun _ => 0)))), (qc_5, .inl (kc_6, 128, .inl (fun _ => 0))), (qf_7, .inl (kf_8, 128, .inl (fun _ => 0))), (q11, .inr (5, [.null, .null, .int 0, .int 0, .int 0, .int 0]))] H := hP
  have hD : va_D A [(h0, .inr (6, [.ref q9, .ref q0, .ref q10, .ref q4_2, .int 0, .int 0, .int 0, .null, .int 0, .int 0, .int 0])), (q4_2, .inr (3, [.ref qn_3, .ref qc_5, .ref qf_7, .int 0])), (qn_3, .inl (kn_4, 128, .inr (.inl (fun _ => 0)))), (qc_5, .inl (kc_6, 128, .inl (fun _ => 0))), (qf_7, .inl (kf_8, 128, .inl (fun _ => 0))), (q11, .inr (5, [.null, .null, .int 0, .int 0, .int 0, .int 0]))] := hD
  refine lv_dup hx hb dX7_init_11 rfl ?_
  have hPc := hP.sub (ws' := [(q11, .inr (5, [.null, .null, .int 0, .int 0, .int 0, .int 0]))]) [5] rfl
  have hDc := hD.sub (ws' := [(q11, .inr (5, [.null, .null, .int 0, .int 0, .int 0, .int 0]))]) [5] (by decide) rfl
  have hKc := hK.sub (tys' := []) [] rfl
  have hFc := va_free (wc := [(q11, .inr (5, [.null, .null, .int 0, .int 0, .int 0, .int 0]))]) hD hS hA [5] rfl
  refine va_callv (va_runIN (As := []) (rest := [.ref q11, .ref h0]) ⟨hx, hb, hml, hown, hts⟩ (c_X6_init l dC dI _ q11) ⟨va_cnB 0 hts hX7_init_X6_init_n11 rfl rfl rfl (hZ.1 (.methodLinkNest RX7 11 yX6_init "StatementRules2") (by decide +kernel)) (hts (.initialized RX6) k_X7_init_initialized_RX6) (by decide +kernel) ⟨Nat.le_of_ble_eq_true rfl, Nat.le_of_ble_eq_true rfl⟩, rfl, (hts (.instanceMethod yX6_init) k_X7_init_instanceMethod_yX6_init)⟩ ⟨zPre.blind, zPre.go hZ hPc hKc hDc⟩ rfl rfl hl.1 rfl (lv_room (Nat.le_of_ble_eq_true rfl)) dX7_init_12 ⟨Nat.le_of_ble_eq_true rfl, Nat.le_of_ble_eq_true rfl⟩) hS (fun q _ h => hFc q h) hFc (fun u9 t9 H1 locs ht hvm hw hB hz1 hk1 hS => ?_)
  obtain ⟨qr_13, qj_14, kr_15, kj_16, hP1, hK1, hD1⟩ := hB
  rw [ht] at hP1
  have hK1 := va_K.moved hvm.symm hK1
  obtain ⟨hP, hD⟩ := va_join (wr := [(h0, .inr (6, [.ref q9, .ref q0, .ref q10, .ref q4_2, .int 0, .int 0, .int 0, .null, .int 0, .int 0, .int 0])), (q4_2, .inr (3, [.ref qn_3, .ref qc_5, .ref qf_7, .int 0])), (qn_3, .inl (kn_4, 128, .inr (.inl (fun _ => 0)))), (qc_5, .inl (kc_6, 128, .inl (fun _ => 0))), (qf_7, .inl (kf_8, 128, .inl (fun _ => 0)))]) (w1 := [(q11, .inr (5, [.ref qr_13, .ref qj_14, .int 0, .int 0, .int 0, .int 0])), (qr_13, .inl (kr_15, 400, .inr (.inr (.inr (.inr (fun _ => none)))))), (qj_14, .inl (kj_16, 160, .inl (fun _ => 0)))]) hP hD [5] [0, 1, 2, 3, 4] rfl rfl (by decide) (by decide) hk1 hFc hP1 hD1
  have hK := hK.app hK1
  generalize H1 = H at hP hS ⊢
  have hP : va_P (dC, dI) vwCl [(h0, .inr (6, [.ref q9, .ref q0, .ref q10, .ref q4_2, .int 0, .int 0, .int 0, .null, .int 0, .int 0, .int 0])), (q4_2, .inr (3, [.ref qn_3, .ref qc_5, .ref qf_7, .int 0])), (qn_3, .inl (kn_4, 128, .inr (.inl (fun _ => 0)))), (qc_5, .inl (kc_6, 128, .inl (fun _ => 0))), (qf_7, .inl (kf_8, 128, .inl (fun _ => 0))), (q11, .inr (5, [.ref qr_13, .ref qj_14, .int 0, .int 0, .int 0, .int 0])), (qr_13, .inl (kr_15, 400, .inr (.inr (.inr (.inr (fun _ => none)))))), (qj_14, .inl (kj_16, 160, .inl (fun _ => 0)))] H := hP
  have hD : va_D A [(h0, .inr (6, [.ref q9, .ref q0, .ref q10, .ref q4_2, .int 0, .int 0, .int 0, .null, .int 0, .int 0, .int 0])), (q4_2, .inr (3, [.ref qn_3, .ref qc_5, .ref qf_7, .int 0])), (qn_3, .inl (kn_4, 128, .inr (.inl (fun _ => 0)))), (qc_5, .inl (kc_6, 128, .inl (fun _ => 0))), (qf_7, .inl (kf_8, 128, .inl (fun _ => 0))), (q11, .inr (5, [.ref qr_13, .ref qj_14, .int 0, .int 0, .int 0, .int 0])), (qr_13, .inl (kr_15, 400, .inr (.inr (.inr (.inr (fun _ => none)))))), (qj_14, .inl (kj_16, 160, .inl (fun _ => 0)))] := hD
  have hK : va_K (dC, dI) vwCl [(kn_4, .long), (kc_6, .int), (kf_8, .int), (kr_15, .object "StatementRules2$Open"), (kj_16, .int)] s := hK
  refine W.widen (k := 7) (n := 954) (by omega) (by omega) ?_
  refine va_putF (D := (dC, dI)) (ci := 6) (v := .ref q11) (ty := (.object "StatementRules2$Opens")) (C := RX7) (T := TX7) (N := 11) hx hb hts i_X7_init_X7 tyX7 tyX7_ok nmX7 hown hK hP hD hS 0 rfl rfl 7 (by decide) (hts (.fieldLink RX7 14 "StatementRules2$Statements" "opens" "LStatementRules2$Opens;") k_X7_init_fieldLink_RX7_14_SR_Statements_opens_LSR_Opens) (fun _ h9 => h9) rfl hin rfl (by decide +kernel) rfl rfl (Nat.le_of_ble_eq_true rfl) dX7_init_15 (fun H locs hP hD hS => ?_)
  have hP : va_P (dC, dI) vwCl [(h0, .inr (6, [.ref q9, .ref q0, .ref q10, .ref q4_2, .int 0, .int 0, .int 0, .ref q11, .int 0, .int 0, .int 0])), (q4_2, .inr (3, [.ref qn_3, .ref qc_5, .ref qf_7, .int 0])), (qn_3, .inl (kn_4, 128, .inr (.inl (fun _ => 0)))), (qc_5, .inl (kc_6, 128, .inl (fun _ => 0))), (qf_7, .inl (kf_8, 128, .inl (fun _ => 0))), (q11, .inr (5, [.ref qr_13, .ref qj_14, .int 0, .int 0, .int 0, .int 0])), (qr_13, .inl (kr_15, 400, .inr (.inr (.inr (.inr (fun _ => none)))))), (qj_14, .inl (kj_16, 160, .inl (fun _ => 0)))] H := hP
  have hD : va_D A [(h0, .inr (6, [.ref q9, .ref q0, .ref q10, .ref q4_2, .int 0, .int 0, .int 0, .ref q11, .int 0, .int 0, .int 0])), (q4_2, .inr (3, [.ref qn_3, .ref qc_5, .ref qf_7, .int 0])), (qn_3, .inl (kn_4, 128, .inr (.inl (fun _ => 0)))), (qc_5, .inl (kc_6, 128, .inl (fun _ => 0))), (qf_7, .inl (kf_8, 128, .inl (fun _ => 0))), (q11, .inr (5, [.ref qr_13, .ref qj_14, .int 0, .int 0, .int 0, .int 0])), (qr_13, .inl (kr_15, 400, .inr (.inr (.inr (.inr (fun _ => none)))))), (qj_14, .inl (kj_16, 160, .inl (fun _ => 0)))] := hD
  have hP9 := hP.sub (ws' := [(h0, .inr (6, [.ref q9, .ref q0, .ref q10, .ref q4_2, .int 0, .int 0, .int 0, .ref q11, .int 0, .int 0, .int 0])), (q4_2, .inr (3, [.ref qn_3, .ref qc_5, .ref qf_7, .int 0])), (qn_3, .inl (kn_4, 128, .inr (.inl (fun _ => 0)))), (qc_5, .inl (kc_6, 128, .inl (fun _ => 0))), (qf_7, .inl (kf_8, 128, .inl (fun _ => 0))), (q11, .inr (5, [.ref qr_13, .ref qj_14, .int 0, .int 0, .int 0, .int 0])), (qr_13, .inl (kr_15, 400, .inr (.inr (.inr (.inr (fun _ => none)))))), (qj_14, .inl (kj_16, 160, .inl (fun _ => 0)))]) [0, 1, 2, 3, 4, 5, 6, 7] rfl
  have hD9 := hD.sub (ws' := [(h0, .inr (6, [.ref q9, .ref q0, .ref q10, .ref q4_2, .int 0, .int 0, .int 0, .ref q11, .int 0, .int 0, .int 0])), (q4_2, .inr (3, [.ref qn_3, .ref qc_5, .ref qf_7, .int 0])), (qn_3, .inl (kn_4, 128, .inr (.inl (fun _ => 0)))), (qc_5, .inl (kc_6, 128, .inl (fun _ => 0))), (qf_7, .inl (kf_8, 128, .inl (fun _ => 0))), (q11, .inr (5, [.ref qr_13, .ref qj_14, .int 0, .int 0, .int 0, .int 0])), (qr_13, .inl (kr_15, 400, .inr (.inr (.inr (.inr (fun _ => none)))))), (qj_14, .inl (kj_16, 160, .inl (fun _ => 0)))]) [0, 1, 2, 3, 4, 5, 6, 7] (by decide) rfl
  have hK9 := hK.sub (tys' := [(kn_4, .long), (kc_6, .int), (kf_8, .int), (kr_15, .object "StatementRules2$Open"), (kj_16, .int)]) [0, 1, 2, 3, 4] rfl
  exact W.vret hx hb hr (fun t ht hW => ⟨⟨(), rfl, trivial, q4_2, qn_3, kn_4, qc_5, kc_6, qf_7, kf_8, q11, qr_13, qj_14, kr_15, kj_16, by rw [ht]; exact hP9, va_K.moved hW.alike hK9, hD9⟩, hS.F ht⟩) hS.2.2 dX7_init_18
theorem k_X3_init_methodLink_RX3_3_objectInit : Cond.methodLink RX3 3 objectInit ∈ wzX3_init := List.mem_cons_of_mem _ (List.mem_append_left _ (List.mem_of_getElem? (i := 0) rfl))
theorem k_X3_init_instanceMethod_objectInit : Cond.instanceMethod objectInit ∈ wzX3_init := List.mem_cons_of_mem _ (List.mem_append_left _ (List.mem_of_getElem? (i := 1) rfl))
theorem k_X3_init_code_objectInit_0xb1_1_none : Cond.code objectInit ⟨#[0xb1]⟩ 1 none ∈ wzX3_init := List.mem_cons_of_mem _ (List.mem_append_left _ (List.mem_of_getElem? (i := 2) rfl))
theorem k_X3_init_arrayClass_int : Cond.arrayClass .int ∈ wzX3_init := List.mem_cons_of_mem _ (List.mem_append_left _ (List.mem_of_getElem? (i := 3) rfl))
theorem k_X3_init_fieldLink_RX3_9_SR_Machine_cells_I : Cond.fieldLink RX3 9 "StatementRules2$Machine" "cells" "[I" ∈ wzX3_init := List.mem_cons_of_mem _ (List.mem_append_left _ (List.mem_of_getElem? (i := 4) rfl))
theorem i_X3_init_X3 : ∀ w ∈ wsX30, w ∈ wzX3_init := fun _ h => List.mem_cons_of_mem _ (List.mem_append_right _ (List.mem_append_left _ (h)))
theorem k_X3_init_fieldLink_RX3_15_SR_Machine_values_I : Cond.fieldLink RX3 15 "StatementRules2$Machine" "values" "[I" ∈ wzX3_init := List.mem_cons_of_mem _ (List.mem_append_left _ (List.mem_of_getElem? (i := 5) rfl))
theorem k_X3_init_classLink_RX3_18_RX2 : Cond.classLink RX3 18 RX2 ∈ wzX3_init := List.mem_cons_of_mem _ (List.mem_append_left _ (List.mem_of_getElem? (i := 6) rfl))
theorem k_X3_init_fieldLink_RX3_20_SR_Machine_frames_LSR_Frame : Cond.fieldLink RX3 20 "StatementRules2$Machine" "frames" "[LStatementRules2$Frame;" ∈ wzX3_init := List.mem_cons_of_mem _ (List.mem_append_left _ (List.mem_of_getElem? (i := 7) rfl))
theorem k_X3_init_classLink_RX3_24_RX8 : Cond.classLink RX3 24 RX8 ∈ wzX3_init := List.mem_cons_of_mem _ (List.mem_append_left _ (List.mem_of_getElem? (i := 8) rfl))
theorem k_X3_init_fieldLink_RX3_26_SR_Machine_pool_LSR_Thrown : Cond.fieldLink RX3 26 "StatementRules2$Machine" "pool" "[LStatementRules2$Thrown;" ∈ wzX3_init := List.mem_cons_of_mem _ (List.mem_append_left _ (List.mem_of_getElem? (i := 9) rfl))
theorem k_X3_init_fieldLink_RX3_30_SR_Machine_opened_I : Cond.fieldLink RX3 30 "StatementRules2$Machine" "opened" "[I" ∈ wzX3_init := List.mem_cons_of_mem _ (List.mem_append_left _ (List.mem_of_getElem? (i := 10) rfl))
theorem k_X3_init_fieldLink_RX3_33_SR_Machine_rows_I : Cond.fieldLink RX3 33 "StatementRules2$Machine" "rows" "[I" ∈ wzX3_init := List.mem_cons_of_mem _ (List.mem_append_left _ (List.mem_of_getElem? (i := 11) rfl))
theorem k_X3_init_fieldLink_RX3_36_SR_Machine_told_LSR_Told : Cond.fieldLink RX3 36 "StatementRules2$Machine" "told" "LStatementRules2$Told;" ∈ wzX3_init := List.mem_cons_of_mem _ (List.mem_append_left _ (List.mem_of_getElem? (i := 12) rfl))
theorem k_X3_init_fieldLink_RX3_40_SR_Machine_code_LSR_Code : Cond.fieldLink RX3 40 "StatementRules2$Machine" "code" "LStatementRules2$Code;" ∈ wzX3_init := List.mem_cons_of_mem _ (List.mem_append_left _ (List.mem_of_getElem? (i := 13) rfl))
set_option maxHeartbeats 4000000 in
set_option maxRecDepth 100000 in
theorem c_X3_init (l : Launch) (dC : Nat → ClassId) (dI : Nat → Nat → Nat) (sz : Nat) (h0 : Nat) (q10 : Nat) (q0 : Nat) : Met l yX3_init wzX3_init ({ frames := 1, cells := 6, slots := 2088, locals := 60 }) (va_Pc [.ref h0, .ref q10, .ref q0] (zPre dC dI sz [(h0, .inr (2, [.null, .null, .null, .null, .null, .null, .null, .null, .int 0, .int 0, .int 0, .int 0, .int 0, .int 0, .int 0, .int 0, .int 0, .int 0, .int 0, .null]))] [])) (va_Qv (fun (_ : Unit) => True) (fun (_ : Unit) (t : State) => ∃ (qM0 : Nat), ∃ (kM0 : ClassId), ∃ (qM1 : Nat), ∃ (kM1 : ClassId), ∃ (qM2 : Nat), ∃ (kM2 : ClassId), ∃ (qM3 : Nat), ∃ (kM3 : ClassId), ∃ (qM4 : Nat), ∃ (kM4 : ClassId), ∃ (qM5 : Nat), ∃ (kM5 : ClassId), zPost dC dI (va_A [(h0, .inr (2, [.null, .null, .null, .null, .null, .null, .null, .null, .int 0, .int 0, .int 0, .int 0, .int 0, .int 0, .int 0, .int 0, .int 0, .int 0, .int 0, .null]))] sz) [(h0, .inr (2, [.ref q10, .ref q0, .ref qM0, .ref qM1, .ref qM2, .ref qM3, .ref qM4, .ref qM5, .int 0, .int 0, .int 0, .int 0, .int 0, .int 0, .int 0, .int 0, .int 0, .int 0, .int 0, .null])), (qM0, .inl (kM0, 720, .inl (fun _ => 0))), (qM1, .inl (kM1, 600, .inl (fun _ => 0))), (qM2, .inl (kM2, 24, .inr (.inr (.inr (.inr (fun _ => none)))))), (qM3, .inl (kM3, 24, .inr (.inr (.inr (.inr (fun _ => none)))))), (qM4, .inl (kM4, 320, .inl (fun _ => 0))), (qM5, .inl (kM5, 400, .inl (fun _ => 0)))] [(kM0, .int), (kM1, .int), (kM2, .object "StatementRules2$Frame"), (kM3, .object "StatementRules2$Thrown"), (kM4, .int), (kM5, .int)] t) (va_A [(h0, .inr (2, [.null, .null, .null, .null, .null, .null, .null, .null, .int 0, .int 0, .int 0, .int 0, .int 0, .int 0, .int 0, .int 0, .int 0, .int 0, .int 0, .null]))] sz)) 6 2088 (va_A [(h0, .inr (2, [.null, .null, .null, .null, .null, .null, .null, .null, .int 0, .int 0, .int 0, .int 0, .int 0, .int 0, .int 0, .int 0, .int 0, .int 0, .int 0, .null]))] sz) := by
  refine Met.ofW (cc := cX3_init) (maxL := 3) (ret := none) (by decide) rfl ?_
  intro p e s m args below meth c s₁ B hml hv
  obtain ⟨rfl, hsz, hZ, hP, hK, hD0⟩ := hv
  have hx := B.exec
  have hb := B.bytes
  have hr := B.returns
  have hts := atoms_spec (ws := wzX3_init) B.pre
  have hown : s.vm.findClass RX3 = some m.cls := findClass_of_methodNamed B.named
  have hlocks := B.notSynchronized
  have hin : meth.name = "<init>" := (name_of_methodNamed B.named B.method).1
  subst hsz
  have hD := hD0.self (sz := s.heap.size)
  generalize hAe : va_A [(h0, .inr (2, [.null, .null, .null, .null, .null, .null, .null, .null, .int 0, .int 0, .int 0, .int 0, .int 0, .int 0, .int 0, .int 0, .int 0, .int 0, .int 0, .null]))] s.heap.size = A at hD ⊢
  have hA : ∀ q : Nat, s.heap.size ≤ q → A q := fun q h => by rw [← hAe]; exact Or.inr h
  have hS : va_S A s.heap s.heap [] := va_S.rf
  have hP : va_P (dC, dI) vwCl [(h0, .inr (2, [.null, .null, .null, .null, .null, .null, .null, .null, .int 0, .int 0, .int 0, .int 0, .int 0, .int 0, .int 0, .int 0, .int 0, .int 0, .int 0, .null]))] s.heap := hP
  have hl := lv_entry ([.ref h0, .ref q10, .ref q0]) (n := 3) (Nat.le_of_ble_eq_true rfl)
  rw [lg_entry_eq]
  generalize (lg_sl ([.ref h0, .ref q10, .ref q0]) ++ List.replicate (3 - (lg_sl ([.ref h0, .ref q10, .ref q0])).length) Slot.unset).toArray = ls at hl ⊢
  have hl : lv_has ls 3 [(0, .ref h0), (1, .ref q10), (2, .ref q0)] := hl
  refine lv_aload_n hx hb dX3_init_0 rfl (lv_at hl 0 rfl) ?_
  refine W.objInit hx hb hown (hts (.methodLink RX3 3 objectInit) k_X3_init_methodLink_RX3_3_objectInit) (hts (.instanceMethod objectInit) k_X3_init_instanceMethod_objectInit) (hts (.code objectInit ⟨#[0xb1]⟩ 1 none) k_X3_init_code_objectInit_0xb1_1_none) rfl (by rw [hml]; exact hl.1) rfl dX3_init_1 (Nat.le_of_ble_eq_true rfl) (Nat.le_of_ble_eq_true rfl) ?_
  refine W.eq (g2 := F0 m 4 ls []) rfl ?_
  refine lv_aload_n hx hb dX3_init_4 rfl (lv_at hl 0 rfl) ?_
  refine lv_sipush (v := 720) hx hb dX3_init_5 (by decide) ?_
  refine va_newa (atype := .int) (ty := .int) (N' := 720) (a0 := (720, .inl (fun _ => 0))) hx hb (hts (.arrayClass .int) k_X3_init_arrayClass_int) rfl hK hP hD hS hA (z_newi 720) (by decide) (by decide) (by decide) (Nat.le_of_ble_eq_true rfl) (Nat.le_of_ble_eq_true rfl) dX3_init_8 (fun q1 kq1 H hK hP hD hS => ?_)
  refine W.widen (k := 1) (n := 720) (by omega) (by omega) ?_
  have hP : va_P (dC, dI) vwCl [(h0, .inr (2, [.null, .null, .null, .null, .null, .null, .null, .null, .int 0, .int 0, .int 0, .int 0, .int 0, .int 0, .int 0, .int 0, .int 0, .int 0, .int 0, .null])), (q1, .inl (kq1, 720, .inl (fun _ => 0)))] H := hP
  have hD : va_D A [(h0, .inr (2, [.null, .null, .null, .null, .null, .null, .null, .null, .int 0, .int 0, .int 0, .int 0, .int 0, .int 0, .int 0, .int 0, .int 0, .int 0, .int 0, .null])), (q1, .inl (kq1, 720, .inl (fun _ => 0)))] := hD
  have hK : va_K (dC, dI) vwCl [(kq1, .int)] s := hK
  refine va_putF (D := (dC, dI)) (ci := 2) (v := .ref q1) (ty := (.array .int)) (C := RX3) (T := TX3) (N := 20) hx hb hts i_X3_init_X3 tyX3 tyX3_ok nmX3 hown hK hP hD hS 0 rfl rfl 2 (by decide) (hts (.fieldLink RX3 9 "StatementRules2$Machine" "cells" "[I") k_X3_init_fieldLink_RX3_9_SR_Machine_cells_I) (fun _ h9 => h9) rfl hin rfl (by decide +kernel) rfl rfl (Nat.le_of_ble_eq_true rfl) dX3_init_10 (fun H locs hP hD hS => ?_)
  have hP : va_P (dC, dI) vwCl [(h0, .inr (2, [.null, .null, .ref q1, .null, .null, .null, .null, .null, .int 0, .int 0, .int 0, .int 0, .int 0, .int 0, .int 0, .int 0, .int 0, .int 0, .int 0, .null])), (q1, .inl (kq1, 720, .inl (fun _ => 0)))] H := hP
  have hD : va_D A [(h0, .inr (2, [.null, .null, .ref q1, .null, .null, .null, .null, .null, .int 0, .int 0, .int 0, .int 0, .int 0, .int 0, .int 0, .int 0, .int 0, .int 0, .int 0, .null])), (q1, .inl (kq1, 720, .inl (fun _ => 0)))] := hD
  refine lv_aload_n hx hb dX3_init_13 rfl (lv_at hl 0 rfl) ?_
  refine lv_sipush (v := 600) hx hb dX3_init_14 (by decide) ?_
  refine va_newa (atype := .int) (ty := .int) (N' := 600) (a0 := (600, .inl (fun _ => 0))) hx hb (hts (.arrayClass .int) k_X3_init_arrayClass_int) rfl hK hP hD hS hA (z_newi 600) (by decide) (by decide) (by decide) (Nat.le_of_ble_eq_true rfl) (Nat.le_of_ble_eq_true rfl) dX3_init_17 (fun q2 kq2 H hK hP hD hS => ?_)
  refine W.widen (k := 2) (n := 1320) (by omega) (by omega) ?_
  have hP : va_P (dC, dI) vwCl [(h0, .inr (2, [.null, .null, .ref q1, .null, .null, .null, .null, .null, .int 0, .int 0, .int 0, .int 0, .int 0, .int 0, .int 0, .int 0, .int 0, .int 0, .int 0, .null])), (q1, .inl (kq1, 720, .inl (fun _ => 0))), (q2, .inl (kq2, 600, .inl (fun _ => 0)))] H := hP
  have hD : va_D A [(h0, .inr (2, [.null, .null, .ref q1, .null, .null, .null, .null, .null, .int 0, .int 0, .int 0, .int 0, .int 0, .int 0, .int 0, .int 0, .int 0, .int 0, .int 0, .null])), (q1, .inl (kq1, 720, .inl (fun _ => 0))), (q2, .inl (kq2, 600, .inl (fun _ => 0)))] := hD
  have hK : va_K (dC, dI) vwCl [(kq1, .int), (kq2, .int)] s := hK
  refine va_putF (D := (dC, dI)) (ci := 2) (v := .ref q2) (ty := (.array .int)) (C := RX3) (T := TX3) (N := 20) hx hb hts i_X3_init_X3 tyX3 tyX3_ok nmX3 hown hK hP hD hS 0 rfl rfl 3 (by decide) (hts (.fieldLink RX3 15 "StatementRules2$Machine" "values" "[I") k_X3_init_fieldLink_RX3_15_SR_Machine_values_I) (fun _ h9 => h9) rfl hin rfl (by decide +kernel) rfl rfl (Nat.le_of_ble_eq_true rfl) dX3_init_19 (fun H locs hP hD hS => ?_)
  have hP : va_P (dC, dI) vwCl [(h0, .inr (2, [.null, .null, .ref q1, .ref q2, .null, .null, .null, .null, .int 0, .int 0, .int 0, .int 0, .int 0, .int 0, .int 0, .int 0, .int 0, .int 0, .int 0, .null])), (q1, .inl (kq1, 720, .inl (fun _ => 0))), (q2, .inl (kq2, 600, .inl (fun _ => 0)))] H := hP
  have hD : va_D A [(h0, .inr (2, [.null, .null, .ref q1, .ref q2, .null, .null, .null, .null, .int 0, .int 0, .int 0, .int 0, .int 0, .int 0, .int 0, .int 0, .int 0, .int 0, .int 0, .null])), (q1, .inl (kq1, 720, .inl (fun _ => 0))), (q2, .inl (kq2, 600, .inl (fun _ => 0)))] := hD
  refine lv_aload_n hx hb dX3_init_22 rfl (lv_at hl 0 rfl) ?_
  refine lv_bipush (v := 24) hx hb dX3_init_23 (by decide) ?_
  refine va_newq (C := "StatementRules2$Frame") (N' := 24) hx hb hown (hts (.classLink RX3 18 RX2) k_X3_init_classLink_RX3_18_RX2) hZ.2.2.1 hK hP hD hS hA (by decide) (by decide) (by decide) (Nat.le_of_ble_eq_true rfl) (Nat.le_of_ble_eq_true rfl) dX3_init_25 (fun q3 kq3 H hK hP hD hS => ?_)
  refine W.widen (k := 3) (n := 1344) (by omega) (by omega) ?_
  have hP : va_P (dC, dI) vwCl [(h0, .inr (2, [.null, .null, .ref q1, .ref q2, .null, .null, .null, .null, .int 0, .int 0, .int 0, .int 0, .int 0, .int 0, .int 0, .int 0, .int 0, .int 0, .int 0, .null])), (q1, .inl (kq1, 720, .inl (fun _ => 0))), (q2, .inl (kq2, 600, .inl (fun _ => 0))), (q3, .inl (kq3, 24, .inr (.inr (.inr (.inr (fun _ => none))))))] H := hP
  have hD : va_D A [(h0, .inr (2, [.null, .null, .ref q1, .ref q2, .null, .null, .null, .null, .int 0, .int 0, .int 0, .int 0, .int 0, .int 0, .int 0, .int 0, .int 0, .int 0, .int 0, .null])), (q1, .inl (kq1, 720, .inl (fun _ => 0))), (q2, .inl (kq2, 600, .inl (fun _ => 0))), (q3, .inl (kq3, 24, .inr (.inr (.inr (.inr (fun _ => none))))))] := hD
  have hK : va_K (dC, dI) vwCl [(kq1, .int), (kq2, .int), (kq3, .object "StatementRules2$Frame")] s := hK
  refine va_putF (D := (dC, dI)) (ci := 2) (v := .ref q3) (ty := (.array (.object "StatementRules2$Frame"))) (C := RX3) (T := TX3) (N := 20) hx hb hts i_X3_init_X3 tyX3 tyX3_ok nmX3 hown hK hP hD hS 0 rfl rfl 4 (by decide) (hts (.fieldLink RX3 20 "StatementRules2$Machine" "frames" "[LStatementRules2$Frame;") k_X3_init_fieldLink_RX3_20_SR_Machine_frames_LSR_Frame) (fun _ h9 => h9) rfl hin rfl (by decide +kernel) rfl rfl (Nat.le_of_ble_eq_true rfl) dX3_init_28 (fun H locs hP hD hS => ?_)
  have hP : va_P (dC, dI) vwCl [(h0, .inr (2, [.null, .null, .ref q1, .ref q2, .ref q3, .null, .null, .null, .int 0, .int 0, .int 0, .int 0, .int 0, .int 0, .int 0, .int 0, .int 0, .int 0, .int 0, .null])), (q1, .inl (kq1, 720, .inl (fun _ => 0))), (q2, .inl (kq2, 600, .inl (fun _ => 0))), (q3, .inl (kq3, 24, .inr (.inr (.inr (.inr (fun _ => none))))))] H := hP
  have hD : va_D A [(h0, .inr (2, [.null, .null, .ref q1, .ref q2, .ref q3, .null, .null, .null, .int 0, .int 0, .int 0, .int 0, .int 0, .int 0, .int 0, .int 0, .int 0, .int 0, .int 0, .null])), (q1, .inl (kq1, 720, .inl (fun _ => 0))), (q2, .inl (kq2, 600, .inl (fun _ => 0))), (q3, .inl (kq3, 24, .inr (.inr (.inr (.inr (fun _ => none))))))] := hD
  refine lv_aload_n hx hb dX3_init_31 rfl (lv_at hl 0 rfl) ?_
  refine lv_bipush (v := 24) hx hb dX3_init_32 (by decide) ?_
  refine va_newq (C := "StatementRules2$Thrown") (N' := 24) hx hb hown (hts (.classLink RX3 24 RX8) k_X3_init_classLink_RX3_24_RX8) hZ.2.2.2 hK hP hD hS hA (by decide) (by decide) (by decide) (Nat.le_of_ble_eq_true rfl) (Nat.le_of_ble_eq_true rfl) dX3_init_34 (fun q4 kq4 H hK hP hD hS => ?_)
  refine W.widen (k := 4) (n := 1368) (by omega) (by omega) ?_
  have hP : va_P (dC, dI) vwCl [(h0, .inr (2, [.null, .null, .ref q1, .ref q2, .ref q3, .null, .null, .null, .int 0, .int 0, .int 0, .int 0, .int 0, .int 0, .int 0, .int 0, .int 0, .int 0, .int 0, .null])), (q1, .inl (kq1, 720, .inl (fun _ => 0))), (q2, .inl (kq2, 600, .inl (fun _ => 0))), (q3, .inl (kq3, 24, .inr (.inr (.inr (.inr (fun _ => none)))))), (q4, .inl (kq4, 24, .inr (.inr (.inr (.inr (fun _ => none))))))] H := hP
  have hD : va_D A [(h0, .inr (2, [.null, .null, .ref q1, .ref q2, .ref q3, .null, .null, .null, .int 0, .int 0, .int 0, .int 0, .int 0, .int 0, .int 0, .int 0, .int 0, .int 0, .int 0, .null])), (q1, .inl (kq1, 720, .inl (fun _ => 0))), (q2, .inl (kq2, 600, .inl (fun _ => 0))), (q3, .inl (kq3, 24, .inr (.inr (.inr (.inr (fun _ => none)))))), (q4, .inl (kq4, 24, .inr (.inr (.inr (.inr (fun _ => none))))))] := hD
  have hK : va_K (dC, dI) vwCl [(kq1, .int), (kq2, .int), (kq3, .object "StatementRules2$Frame"), (kq4, .object "StatementRules2$Thrown")] s := hK
  refine va_putF (D := (dC, dI)) (ci := 2) (v := .ref q4) (ty := (.array (.object "StatementRules2$Thrown"))) (C := RX3) (T := TX3) (N := 20) hx hb hts i_X3_init_X3 tyX3 tyX3_ok nmX3 hown hK hP hD hS 0 rfl rfl 5 (by decide) (hts (.fieldLink RX3 26 "StatementRules2$Machine" "pool" "[LStatementRules2$Thrown;") k_X3_init_fieldLink_RX3_26_SR_Machine_pool_LSR_Thrown) (fun _ h9 => h9) rfl hin rfl (by decide +kernel) rfl rfl (Nat.le_of_ble_eq_true rfl) dX3_init_37 (fun H locs hP hD hS => ?_)
  have hP : va_P (dC, dI) vwCl [(h0, .inr (2, [.null, .null, .ref q1, .ref q2, .ref q3, .ref q4, .null, .null, .int 0, .int 0, .int 0, .int 0, .int 0, .int 0, .int 0, .int 0, .int 0, .int 0, .int 0, .null])), (q1, .inl (kq1, 720, .inl (fun _ => 0))), (q2, .inl (kq2, 600, .inl (fun _ => 0))), (q3, .inl (kq3, 24, .inr (.inr (.inr (.inr (fun _ => none)))))), (q4, .inl (kq4, 24, .inr (.inr (.inr (.inr (fun _ => none))))))] H := hP
  have hD : va_D A [(h0, .inr (2, [.null, .null, .ref q1, .ref q2, .ref q3, .ref q4, .null, .null, .int 0, .int 0, .int 0, .int 0, .int 0, .int 0, .int 0, .int 0, .int 0, .int 0, .int 0, .null])), (q1, .inl (kq1, 720, .inl (fun _ => 0))), (q2, .inl (kq2, 600, .inl (fun _ => 0))), (q3, .inl (kq3, 24, .inr (.inr (.inr (.inr (fun _ => none)))))), (q4, .inl (kq4, 24, .inr (.inr (.inr (.inr (fun _ => none))))))] := hD
  refine lv_aload_n hx hb dX3_init_40 rfl (lv_at hl 0 rfl) ?_
  refine lv_sipush (v := 320) hx hb dX3_init_41 (by decide) ?_
  refine va_newa (atype := .int) (ty := .int) (N' := 320) (a0 := (320, .inl (fun _ => 0))) hx hb (hts (.arrayClass .int) k_X3_init_arrayClass_int) rfl hK hP hD hS hA (z_newi 320) (by decide) (by decide) (by decide) (Nat.le_of_ble_eq_true rfl) (Nat.le_of_ble_eq_true rfl) dX3_init_44 (fun q5 kq5 H hK hP hD hS => ?_)
  refine W.widen (k := 5) (n := 1688) (by omega) (by omega) ?_
  have hP : va_P (dC, dI) vwCl [(h0, .inr (2, [.null, .null, .ref q1, .ref q2, .ref q3, .ref q4, .null, .null, .int 0, .int 0, .int 0, .int 0, .int 0, .int 0, .int 0, .int 0, .int 0, .int 0, .int 0, .null])), (q1, .inl (kq1, 720, .inl (fun _ => 0))), (q2, .inl (kq2, 600, .inl (fun _ => 0))), (q3, .inl (kq3, 24, .inr (.inr (.inr (.inr (fun _ => none)))))), (q4, .inl (kq4, 24, .inr (.inr (.inr (.inr (fun _ => none)))))), (q5, .inl (kq5, 320, .inl (fun _ => 0)))] H := hP
  have hD : va_D A [(h0, .inr (2, [.null, .null, .ref q1, .ref q2, .ref q3, .ref q4, .null, .null, .int 0, .int 0, .int 0, .int 0, .int 0, .int 0, .int 0, .int 0, .int 0, .int 0, .int 0, .null])), (q1, .inl (kq1, 720, .inl (fun _ => 0))), (q2, .inl (kq2, 600, .inl (fun _ => 0))), (q3, .inl (kq3, 24, .inr (.inr (.inr (.inr (fun _ => none)))))), (q4, .inl (kq4, 24, .inr (.inr (.inr (.inr (fun _ => none)))))), (q5, .inl (kq5, 320, .inl (fun _ => 0)))] := hD
  have hK : va_K (dC, dI) vwCl [(kq1, .int), (kq2, .int), (kq3, .object "StatementRules2$Frame"), (kq4, .object "StatementRules2$Thrown"), (kq5, .int)] s := hK
  refine va_putF (D := (dC, dI)) (ci := 2) (v := .ref q5) (ty := (.array .int)) (C := RX3) (T := TX3) (N := 20) hx hb hts i_X3_init_X3 tyX3 tyX3_ok nmX3 hown hK hP hD hS 0 rfl rfl 6 (by decide) (hts (.fieldLink RX3 30 "StatementRules2$Machine" "opened" "[I") k_X3_init_fieldLink_RX3_30_SR_Machine_opened_I) (fun _ h9 => h9) rfl hin rfl (by decide +kernel) rfl rfl (Nat.le_of_ble_eq_true rfl) dX3_init_46 (fun H locs hP hD hS => ?_)
  have hP : va_P (dC, dI) vwCl [(h0, .inr (2, [.null, .null, .ref q1, .ref q2, .ref q3, .ref q4, .ref q5, .null, .int 0, .int 0, .int 0, .int 0, .int 0, .int 0, .int 0, .int 0, .int 0, .int 0, .int 0, .null])), (q1, .inl (kq1, 720, .inl (fun _ => 0))), (q2, .inl (kq2, 600, .inl (fun _ => 0))), (q3, .inl (kq3, 24, .inr (.inr (.inr (.inr (fun _ => none)))))), (q4, .inl (kq4, 24, .inr (.inr (.inr (.inr (fun _ => none)))))), (q5, .inl (kq5, 320, .inl (fun _ => 0)))] H := hP
  have hD : va_D A [(h0, .inr (2, [.null, .null, .ref q1, .ref q2, .ref q3, .ref q4, .ref q5, .null, .int 0, .int 0, .int 0, .int 0, .int 0, .int 0, .int 0, .int 0, .int 0, .int 0, .int 0, .null])), (q1, .inl (kq1, 720, .inl (fun _ => 0))), (q2, .inl (kq2, 600, .inl (fun _ => 0))), (q3, .inl (kq3, 24, .inr (.inr (.inr (.inr (fun _ => none)))))), (q4, .inl (kq4, 24, .inr (.inr (.inr (.inr (fun _ => none)))))), (q5, .inl (kq5, 320, .inl (fun _ => 0)))] := hD
  refine lv_aload_n hx hb dX3_init_49 rfl (lv_at hl 0 rfl) ?_
  refine lv_sipush (v := 400) hx hb dX3_init_50 (by decide) ?_
  refine va_newa (atype := .int) (ty := .int) (N' := 400) (a0 := (400, .inl (fun _ => 0))) hx hb (hts (.arrayClass .int) k_X3_init_arrayClass_int) rfl hK hP hD hS hA (z_newi 400) (by decide) (by decide) (by decide) (Nat.le_of_ble_eq_true rfl) (Nat.le_of_ble_eq_true rfl) dX3_init_53 (fun q6 kq6 H hK hP hD hS => ?_)
  refine W.widen (k := 6) (n := 2088) (by omega) (by omega) ?_
  have hP : va_P (dC, dI) vwCl [(h0, .inr (2, [.null, .null, .ref q1, .ref q2, .ref q3, .ref q4, .ref q5, .null, .int 0, .int 0, .int 0, .int 0, .int 0, .int 0, .int 0, .int 0, .int 0, .int 0, .int 0, .null])), (q1, .inl (kq1, 720, .inl (fun _ => 0))), (q2, .inl (kq2, 600, .inl (fun _ => 0))), (q3, .inl (kq3, 24, .inr (.inr (.inr (.inr (fun _ => none)))))), (q4, .inl (kq4, 24, .inr (.inr (.inr (.inr (fun _ => none)))))), (q5, .inl (kq5, 320, .inl (fun _ => 0))), (q6, .inl (kq6, 400, .inl (fun _ => 0)))] H := hP
  have hD : va_D A [(h0, .inr (2, [.null, .null, .ref q1, .ref q2, .ref q3, .ref q4, .ref q5, .null, .int 0, .int 0, .int 0, .int 0, .int 0, .int 0, .int 0, .int 0, .int 0, .int 0, .int 0, .null])), (q1, .inl (kq1, 720, .inl (fun _ => 0))), (q2, .inl (kq2, 600, .inl (fun _ => 0))), (q3, .inl (kq3, 24, .inr (.inr (.inr (.inr (fun _ => none)))))), (q4, .inl (kq4, 24, .inr (.inr (.inr (.inr (fun _ => none)))))), (q5, .inl (kq5, 320, .inl (fun _ => 0))), (q6, .inl (kq6, 400, .inl (fun _ => 0)))] := hD
  have hK : va_K (dC, dI) vwCl [(kq1, .int), (kq2, .int), (kq3, .object "StatementRules2$Frame"), (kq4, .object "StatementRules2$Thrown"), (kq5, .int), (kq6, .int)] s := hK
  refine va_putF (D := (dC, dI)) (ci := 2) (v := .ref q6) (ty := (.array .int)) (C := RX3) (T := TX3) (N := 20) hx hb hts i_X3_init_X3 tyX3 tyX3_ok nmX3 hown hK hP hD hS 0 rfl rfl 7 (by decide) (hts (.fieldLink RX3 33 "StatementRules2$Machine" "rows" "[I") k_X3_init_fieldLink_RX3_33_SR_Machine_rows_I) (fun _ h9 => h9) rfl hin rfl (by decide +kernel) rfl rfl (Nat.le_of_ble_eq_true rfl) dX3_init_55 (fun H locs hP hD hS => ?_)
  have hP : va_P (dC, dI) vwCl [(h0, .inr (2, [.null, .null, .ref q1, .ref q2, .ref q3, .ref q4, .ref q5, .ref q6, .int 0, .int 0, .int 0, .int 0, .int 0, .int 0, .int 0, .int 0, .int 0, .int 0, .int 0, .null])), (q1, .inl (kq1, 720, .inl (fun _ => 0))), (q2, .inl (kq2, 600, .inl (fun _ => 0))), (q3, .inl (kq3, 24, .inr (.inr (.inr (.inr (fun _ => none)))))), (q4, .inl (kq4, 24, .inr (.inr (.inr (.inr (fun _ => none)))))), (q5, .inl (kq5, 320, .inl (fun _ => 0))), (q6, .inl (kq6, 400, .inl (fun _ => 0)))] H := hP
  have hD : va_D A [(h0, .inr (2, [.null, .null, .ref q1, .ref q2, .ref q3, .ref q4, .ref q5, .ref q6, .int 0, .int 0, .int 0, .int 0, .int 0, .int 0, .int 0, .int 0, .int 0, .int 0, .int 0, .null])), (q1, .inl (kq1, 720, .inl (fun _ => 0))), (q2, .inl (kq2, 600, .inl (fun _ => 0))), (q3, .inl (kq3, 24, .inr (.inr (.inr (.inr (fun _ => none)))))), (q4, .inl (kq4, 24, .inr (.inr (.inr (.inr (fun _ => none)))))), (q5, .inl (kq5, 320, .inl (fun _ => 0))), (q6, .inl (kq6, 400, .inl (fun _ => 0)))] := hD
  refine lv_aload_n hx hb dX3_init_58 rfl (lv_at hl 0 rfl) ?_
  refine lv_aload_n hx hb dX3_init_59 rfl (lv_at hl 1 rfl) ?_
  refine va_putF (D := (dC, dI)) (ci := 2) (v := .ref q10) (ty := (.object "StatementRules2$Told")) (C := RX3) (T := TX3) (N := 20) hx hb hts i_X3_init_X3 tyX3 tyX3_ok nmX3 hown hK hP hD hS 0 rfl rfl 0 (by decide) (hts (.fieldLink RX3 36 "StatementRules2$Machine" "told" "LStatementRules2$Told;") k_X3_init_fieldLink_RX3_36_SR_Machine_told_LSR_Told) (fun _ h9 => h9) rfl hin rfl (by decide +kernel) rfl rfl (Nat.le_of_ble_eq_true rfl) dX3_init_60 (fun H locs hP hD hS => ?_)
  have hP : va_P (dC, dI) vwCl [(h0, .inr (2, [.ref q10, .null, .ref q1, .ref q2, .ref q3, .ref q4, .ref q5, .ref q6, .int 0, .int 0, .int 0, .int 0, .int 0, .int 0, .int 0, .int 0, .int 0, .int 0, .int 0, .null])), (q1, .inl (kq1, 720, .inl (fun _ => 0))), (q2, .inl (kq2, 600, .inl (fun _ => 0))), (q3, .inl (kq3, 24, .inr (.inr (.inr (.inr (fun _ => none)))))), (q4, .inl (kq4, 24, .inr (.inr (.inr (.inr (fun _ => none)))))), (q5, .inl (kq5, 320, .inl (fun _ => 0))), (q6, .inl (kq6, 400, .inl (fun _ => 0)))] H := hP
  have hD : va_D A [(h0, .inr (2, [.ref q10, .null, .ref q1, .ref q2, .ref q3, .ref q4, .ref q5, .ref q6, .int 0, .int 0, .int 0, .int 0, .int 0, .int 0, .int 0, .int 0, .int 0, .int 0, .int 0, .null])), (q1, .inl (kq1, 720, .inl (fun _ => 0))), (q2, .inl (kq2, 600, .inl (fun _ => 0))), (q3, .inl (kq3, 24, .inr (.inr (.inr (.inr (fun _ => none)))))), (q4, .inl (kq4, 24, .inr (.inr (.inr (.inr (fun _ => none)))))), (q5, .inl (kq5, 320, .inl (fun _ => 0))), (q6, .inl (kq6, 400, .inl (fun _ => 0)))] := hD
  refine lv_aload_n hx hb dX3_init_63 rfl (lv_at hl 0 rfl) ?_
  refine lv_aload_n hx hb dX3_init_64 rfl (lv_at hl 2 rfl) ?_
  refine va_putF (D := (dC, dI)) (ci := 2) (v := .ref q0) (ty := (.object "StatementRules2$Code")) (C := RX3) (T := TX3) (N := 20) hx hb hts i_X3_init_X3 tyX3 tyX3_ok nmX3 hown hK hP hD hS 0 rfl rfl 1 (by decide) (hts (.fieldLink RX3 40 "StatementRules2$Machine" "code" "LStatementRules2$Code;") k_X3_init_fieldLink_RX3_40_SR_Machine_code_LSR_Code) (fun _ h9 => h9) rfl hin rfl (by decide +kernel) rfl rfl (Nat.le_of_ble_eq_true rfl) dX3_init_65 (fun H locs hP hD hS => ?_)
  have hP : va_P (dC, dI) vwCl [(h0, .inr (2, [.ref q10, .ref q0, .ref q1, .ref q2, .ref q3, .ref q4, .ref q5, .ref q6, .int 0, .int 0, .int 0, .int 0, .int 0, .int 0, .int 0, .int 0, .int 0, .int 0, .int 0, .null])), (q1, .inl (kq1, 720, .inl (fun _ => 0))), (q2, .inl (kq2, 600, .inl (fun _ => 0))), (q3, .inl (kq3, 24, .inr (.inr (.inr (.inr (fun _ => none)))))), (q4, .inl (kq4, 24, .inr (.inr (.inr (.inr (fun _ => none)))))), (q5, .inl (kq5, 320, .inl (fun _ => 0))), (q6, .inl (kq6, 400, .inl (fun _ => 0)))] H := hP
  have hD : va_D A [(h0, .inr (2, [.ref q10, .ref q0, .ref q1, .ref q2, .ref q3, .ref q4, .ref q5, .ref q6, .int 0, .int 0, .int 0, .int 0, .int 0, .int 0, .int 0, .int 0, .int 0, .int 0, .int 0, .null])), (q1, .inl (kq1, 720, .inl (fun _ => 0))), (q2, .inl (kq2, 600, .inl (fun _ => 0))), (q3, .inl (kq3, 24, .inr (.inr (.inr (.inr (fun _ => none)))))), (q4, .inl (kq4, 24, .inr (.inr (.inr (.inr (fun _ => none)))))), (q5, .inl (kq5, 320, .inl (fun _ => 0))), (q6, .inl (kq6, 400, .inl (fun _ => 0)))] := hD
  have hP9 := hP.sub (ws' := [(h0, .inr (2, [.ref q10, .ref q0, .ref q1, .ref q2, .ref q3, .ref q4, .ref q5, .ref q6, .int 0, .int 0, .int 0, .int 0, .int 0, .int 0, .int 0, .int 0, .int 0, .int 0, .int 0, .null])), (q1, .inl (kq1, 720, .inl (fun _ => 0))), (q2, .inl (kq2, 600, .inl (fun _ => 0))), (q3, .inl (kq3, 24, .inr (.inr (.inr (.inr (fun _ => none)))))), (q4, .inl (kq4, 24, .inr (.inr (.inr (.inr (fun _ => none)))))), (q5, .inl (kq5, 320, .inl (fun _ => 0))), (q6, .inl (kq6, 400, .inl (fun _ => 0)))]) [0, 1, 2, 3, 4, 5, 6] rfl
  have hD9 := hD.sub (ws' := [(h0, .inr (2, [.ref q10, .ref q0, .ref q1, .ref q2, .ref q3, .ref q4, .ref q5, .ref q6, .int 0, .int 0, .int 0, .int 0, .int 0, .int 0, .int 0, .int 0, .int 0, .int 0, .int 0, .null])), (q1, .inl (kq1, 720, .inl (fun _ => 0))), (q2, .inl (kq2, 600, .inl (fun _ => 0))), (q3, .inl (kq3, 24, .inr (.inr (.inr (.inr (fun _ => none)))))), (q4, .inl (kq4, 24, .inr (.inr (.inr (.inr (fun _ => none)))))), (q5, .inl (kq5, 320, .inl (fun _ => 0))), (q6, .inl (kq6, 400, .inl (fun _ => 0)))]) [0, 1, 2, 3, 4, 5, 6] (by decide) rfl
  have hK9 := hK.sub (tys' := [(kq1, .int), (kq2, .int), (kq3, .object "StatementRules2$Frame"), (kq4, .object "StatementRules2$Thrown"), (kq5, .int), (kq6, .int)]) [0, 1, 2, 3, 4, 5] rfl
  exact W.vret hx hb hr (fun t ht hW => ⟨⟨(), rfl, trivial, q1, kq1, q2, kq2, q3, kq3, q4, kq4, q5, kq5, q6, kq6, by rw [ht]; exact hP9, va_K.moved hW.alike hK9, hD9⟩, hS.F ht⟩) hS.2.2 dX3_init_68
