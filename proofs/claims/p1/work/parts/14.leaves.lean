theorem k_X0_clear_fieldLink_RX0_27_SR_Code_size_I : Cond.fieldLink RX0 27 "StatementRules2$Code" "size" "I" ∈ wzX0_clear := List.mem_cons_of_mem _ (List.mem_append_left _ (List.mem_of_getElem? (i := 0) rfl))
theorem i_X0_clear_X0 : ∀ w ∈ wsX00, w ∈ wzX0_clear := fun _ h => List.mem_cons_of_mem _ (List.mem_append_right _ (List.mem_append_left _ (h)))
theorem k_X0_clear_fieldLink_RX0_31_SR_Code_targetCount_I : Cond.fieldLink RX0 31 "StatementRules2$Code" "targetCount" "I" ∈ wzX0_clear := List.mem_cons_of_mem _ (List.mem_append_left _ (List.mem_of_getElem? (i := 1) rfl))
theorem k_X0_clear_fieldLink_RX0_34_SR_Code_caseCount_I : Cond.fieldLink RX0 34 "StatementRules2$Code" "caseCount" "I" ∈ wzX0_clear := List.mem_cons_of_mem _ (List.mem_append_left _ (List.mem_of_getElem? (i := 2) rfl))
theorem k_X0_clear_fieldLink_RX0_37_SR_Code_cellCount_I : Cond.fieldLink RX0 37 "StatementRules2$Code" "cellCount" "I" ∈ wzX0_clear := List.mem_cons_of_mem _ (List.mem_append_left _ (List.mem_of_getElem? (i := 3) rfl))
theorem k_X0_clear_fieldLink_RX0_40_SR_Code_statements_I : Cond.fieldLink RX0 40 "StatementRules2$Code" "statements" "I" ∈ wzX0_clear := List.mem_cons_of_mem _ (List.mem_append_left _ (List.mem_of_getElem? (i := 4) rfl))
theorem k_X0_clear_fieldLink_RX0_43_SR_Code_toldNames_I : Cond.fieldLink RX0 43 "StatementRules2$Code" "toldNames" "I" ∈ wzX0_clear := List.mem_cons_of_mem _ (List.mem_append_left _ (List.mem_of_getElem? (i := 5) rfl))
theorem k_X0_clear_fieldLink_RX0_46_SR_Code_jumps_I : Cond.fieldLink RX0 46 "StatementRules2$Code" "jumps" "I" ∈ wzX0_clear := List.mem_cons_of_mem _ (List.mem_append_left _ (List.mem_of_getElem? (i := 6) rfl))
theorem k_X0_clear_fieldLink_RX0_49_SR_Code_endReached_Z : Cond.fieldLink RX0 49 "StatementRules2$Code" "endReached" "Z" ∈ wzX0_clear := List.mem_cons_of_mem _ (List.mem_append_left _ (List.mem_of_getElem? (i := 7) rfl))
set_option maxHeartbeats 4000000 in
set_option maxRecDepth 100000 in
theorem c_X0_clear (l : Launch) (dC : Nat → ClassId) (dI : Nat → Nat → Nat) (sz : Nat) (h0 : Nat) (o_ops : Value) (o_arguments : Value) (o_targets : Value) (o_caseValues : Value) (o_caseTargets : Value) (o_size : Value) (o_targetCount : Value) (o_caseCount : Value) (o_cellCount : Value) (o_statements : Value) (o_toldNames : Value) (o_jumps : Value) (o_endReached : Value) : Met l yX0_clear wzX0_clear ({ frames := 1, cells := 0, slots := 0, locals := 60 }) (va_Pc [.ref h0] (zPre dC dI sz [(h0, .inr (0, [o_ops, o_arguments, o_targets, o_caseValues, o_caseTargets, o_size, o_targetCount, o_caseCount, o_cellCount, o_statements, o_toldNames, o_jumps, o_endReached]))] [])) (va_Qv (fun (_ : Unit) => True) (fun (_ : Unit) (t : State) => zPost dC dI (va_A [(h0, .inr (0, [o_ops, o_arguments, o_targets, o_caseValues, o_caseTargets, o_size, o_targetCount, o_caseCount, o_cellCount, o_statements, o_toldNames, o_jumps, o_endReached]))] sz) [(h0, .inr (0, [o_ops, o_arguments, o_targets, o_caseValues, o_caseTargets, .int 0, .int 0, .int 0, .int 0, .int 0, .int 0, .int 0, .int 0]))] [] t) (va_A [(h0, .inr (0, [o_ops, o_arguments, o_targets, o_caseValues, o_caseTargets, o_size, o_targetCount, o_caseCount, o_cellCount, o_statements, o_toldNames, o_jumps, o_endReached]))] sz)) 0 0 (va_A [(h0, .inr (0, [o_ops, o_arguments, o_targets, o_caseValues, o_caseTargets, o_size, o_targetCount, o_caseCount, o_cellCount, o_statements, o_toldNames, o_jumps, o_endReached]))] sz) := by
  refine Met.ofW (cc := cX0_clear) (maxL := 1) (ret := none) (by decide) rfl ?_
  intro p e s m args below meth c s₁ B hml hv
  obtain ⟨rfl, hsz, hZ, hP, hK, hD0⟩ := hv
  have hx := B.exec
  have hb := B.bytes
  have hr := B.returns
  have hts := atoms_spec (ws := wzX0_clear) B.pre
  have hown : s.vm.findClass RX0 = some m.cls := findClass_of_methodNamed B.named
  have hlocks := B.notSynchronized
  subst hsz
  have hD := hD0.self (sz := s.heap.size)
  generalize hAe : va_A [(h0, .inr (0, [o_ops, o_arguments, o_targets, o_caseValues, o_caseTargets, o_size, o_targetCount, o_caseCount, o_cellCount, o_statements, o_toldNames, o_jumps, o_endReached]))] s.heap.size = A at hD ⊢
  have hA : ∀ q : Nat, s.heap.size ≤ q → A q := fun q h => by rw [← hAe]; exact Or.inr h
  have hS : va_S A s.heap s.heap [] := va_S.rf
  have hP : va_P (dC, dI) vwCl [(h0, .inr (0, [o_ops, o_arguments, o_targets, o_caseValues, o_caseTargets, o_size, o_targetCount, o_caseCount, o_cellCount, o_statements, o_toldNames, o_jumps, o_endReached]))] s.heap := hP
  have hl := lv_entry ([.ref h0]) (n := 1) (Nat.le_of_ble_eq_true rfl)
  rw [lg_entry_eq]
  generalize (lg_sl ([.ref h0]) ++ List.replicate (1 - (lg_sl ([.ref h0])).length) Slot.unset).toArray = ls at hl ⊢
  have hl : lv_has ls 1 [(0, .ref h0)] := hl
  refine lv_aload_n hx hb dX0_clear_0 rfl (lv_at hl 0 rfl) ?_
  refine lv_iconst (v := 0) hx hb dX0_clear_1 (by decide) ?_
  refine va_put (D := (dC, dI)) (ci := 0) (v := .int 0) (ty := .int) (C := RX0) (T := TX0) (N := 13) hx hb hts i_X0_clear_X0 tyX0 tyX0_ok nmX0 hown hK hP hD hS 0 rfl rfl 5 (by decide) (hts (.fieldLink RX0 27 "StatementRules2$Code" "size" "I") k_X0_clear_fieldLink_RX0_27_SR_Code_size_I) (fun _ h9 => h9) rfl (by decide +kernel) rfl rfl (Nat.le_of_ble_eq_true rfl) dX0_clear_2 (fun H locs hP hD hS => ?_)
  have hP : va_P (dC, dI) vwCl [(h0, .inr (0, [o_ops, o_arguments, o_targets, o_caseValues, o_caseTargets, .int 0, o_targetCount, o_caseCount, o_cellCount, o_statements, o_toldNames, o_jumps, o_endReached]))] H := hP
  have hD : va_D A [(h0, .inr (0, [o_ops, o_arguments, o_targets, o_caseValues, o_caseTargets, .int 0, o_targetCount, o_caseCount, o_cellCount, o_statements, o_toldNames, o_jumps, o_endReached]))] := hD
  refine lv_aload_n hx hb dX0_clear_5 rfl (lv_at hl 0 rfl) ?_
  refine lv_iconst (v := 0) hx hb dX0_clear_6 (by decide) ?_
  refine va_put (D := (dC, dI)) (ci := 0) (v := .int 0) (ty := .int) (C := RX0) (T := TX0) (N := 13) hx hb hts i_X0_clear_X0 tyX0 tyX0_ok nmX0 hown hK hP hD hS 0 rfl rfl 6 (by decide) (hts (.fieldLink RX0 31 "StatementRules2$Code" "targetCount" "I") k_X0_clear_fieldLink_RX0_31_SR_Code_targetCount_I) (fun _ h9 => h9) rfl (by decide +kernel) rfl rfl (Nat.le_of_ble_eq_true rfl) dX0_clear_7 (fun H locs hP hD hS => ?_)
  have hP : va_P (dC, dI) vwCl [(h0, .inr (0, [o_ops, o_arguments, o_targets, o_caseValues, o_caseTargets, .int 0, .int 0, o_caseCount, o_cellCount, o_statements, o_toldNames, o_jumps, o_endReached]))] H := hP
  have hD : va_D A [(h0, .inr (0, [o_ops, o_arguments, o_targets, o_caseValues, o_caseTargets, .int 0, .int 0, o_caseCount, o_cellCount, o_statements, o_toldNames, o_jumps, o_endReached]))] := hD
  refine lv_aload_n hx hb dX0_clear_10 rfl (lv_at hl 0 rfl) ?_
  refine lv_iconst (v := 0) hx hb dX0_clear_11 (by decide) ?_
  refine va_put (D := (dC, dI)) (ci := 0) (v := .int 0) (ty := .int) (C := RX0) (T := TX0) (N := 13) hx hb hts i_X0_clear_X0 tyX0 tyX0_ok nmX0 hown hK hP hD hS 0 rfl rfl 7 (by decide) (hts (.fieldLink RX0 34 "StatementRules2$Code" "caseCount" "I") k_X0_clear_fieldLink_RX0_34_SR_Code_caseCount_I) (fun _ h9 => h9) rfl (by decide +kernel) rfl rfl (Nat.le_of_ble_eq_true rfl) dX0_clear_12 (fun H locs hP hD hS => ?_)
  have hP : va_P (dC, dI) vwCl [(h0, .inr (0, [o_ops, o_arguments, o_targets, o_caseValues, o_caseTargets, .int 0, .int 0, .int 0, o_cellCount, o_statements, o_toldNames, o_jumps, o_endReached]))] H := hP
  have hD : va_D A [(h0, .inr (0, [o_ops, o_arguments, o_targets, o_caseValues, o_caseTargets, .int 0, .int 0, .int 0, o_cellCount, o_statements, o_toldNames, o_jumps, o_endReached]))] := hD
  refine lv_aload_n hx hb dX0_clear_15 rfl (lv_at hl 0 rfl) ?_
  refine lv_iconst (v := 0) hx hb dX0_clear_16 (by decide) ?_
  refine va_put (D := (dC, dI)) (ci := 0) (v := .int 0) (ty := .int) (C := RX0) (T := TX0) (N := 13) hx hb hts i_X0_clear_X0 tyX0 tyX0_ok nmX0 hown hK hP hD hS 0 rfl rfl 8 (by decide) (hts (.fieldLink RX0 37 "StatementRules2$Code" "cellCount" "I") k_X0_clear_fieldLink_RX0_37_SR_Code_cellCount_I) (fun _ h9 => h9) rfl (by decide +kernel) rfl rfl (Nat.le_of_ble_eq_true rfl) dX0_clear_17 (fun H locs hP hD hS => ?_)
  have hP : va_P (dC, dI) vwCl [(h0, .inr (0, [o_ops, o_arguments, o_targets, o_caseValues, o_caseTargets, .int 0, .int 0, .int 0, .int 0, o_statements, o_toldNames, o_jumps, o_endReached]))] H := hP
  have hD : va_D A [(h0, .inr (0, [o_ops, o_arguments, o_targets, o_caseValues, o_caseTargets, .int 0, .int 0, .int 0, .int 0, o_statements, o_toldNames, o_jumps, o_endReached]))] := hD
  refine lv_aload_n hx hb dX0_clear_20 rfl (lv_at hl 0 rfl) ?_
  refine lv_iconst (v := 0) hx hb dX0_clear_21 (by decide) ?_
  refine va_put (D := (dC, dI)) (ci := 0) (v := .int 0) (ty := .int) (C := RX0) (T := TX0) (N := 13) hx hb hts i_X0_clear_X0 tyX0 tyX0_ok nmX0 hown hK hP hD hS 0 rfl rfl 9 (by decide) (hts (.fieldLink RX0 40 "StatementRules2$Code" "statements" "I") k_X0_clear_fieldLink_RX0_40_SR_Code_statements_I) (fun _ h9 => h9) rfl (by decide +kernel) rfl rfl (Nat.le_of_ble_eq_true rfl) dX0_clear_22 (fun H locs hP hD hS => ?_)
  have hP : va_P (dC, dI) vwCl [(h0, .inr (0, [o_ops, o_arguments, o_targets, o_caseValues, o_caseTargets, .int 0, .int 0, .int 0, .int 0, .int 0, o_toldNames, o_jumps, o_endReached]))] H := hP
  have hD : va_D A [(h0, .inr (0, [o_ops, o_arguments, o_targets, o_caseValues, o_caseTargets, .int 0, .int 0, .int 0, .int 0, .int 0, o_toldNames, o_jumps, o_endReached]))] := hD
  refine lv_aload_n hx hb dX0_clear_25 rfl (lv_at hl 0 rfl) ?_
  refine lv_iconst (v := 0) hx hb dX0_clear_26 (by decide) ?_
  refine va_put (D := (dC, dI)) (ci := 0) (v := .int 0) (ty := .int) (C := RX0) (T := TX0) (N := 13) hx hb hts i_X0_clear_X0 tyX0 tyX0_ok nmX0 hown hK hP hD hS 0 rfl rfl 10 (by decide) (hts (.fieldLink RX0 43 "StatementRules2$Code" "toldNames" "I") k_X0_clear_fieldLink_RX0_43_SR_Code_toldNames_I) (fun _ h9 => h9) rfl (by decide +kernel) rfl rfl (Nat.le_of_ble_eq_true rfl) dX0_clear_27 (fun H locs hP hD hS => ?_)
  have hP : va_P (dC, dI) vwCl [(h0, .inr (0, [o_ops, o_arguments, o_targets, o_caseValues, o_caseTargets, .int 0, .int 0, .int 0, .int 0, .int 0, .int 0, o_jumps, o_endReached]))] H := hP
  have hD : va_D A [(h0, .inr (0, [o_ops, o_arguments, o_targets, o_caseValues, o_caseTargets, .int 0, .int 0, .int 0, .int 0, .int 0, .int 0, o_jumps, o_endReached]))] := hD
  refine lv_aload_n hx hb dX0_clear_30 rfl (lv_at hl 0 rfl) ?_
  refine lv_iconst (v := 0) hx hb dX0_clear_31 (by decide) ?_
  refine va_put (D := (dC, dI)) (ci := 0) (v := .int 0) (ty := .int) (C := RX0) (T := TX0) (N := 13) hx hb hts i_X0_clear_X0 tyX0 tyX0_ok nmX0 hown hK hP hD hS 0 rfl rfl 11 (by decide) (hts (.fieldLink RX0 46 "StatementRules2$Code" "jumps" "I") k_X0_clear_fieldLink_RX0_46_SR_Code_jumps_I) (fun _ h9 => h9) rfl (by decide +kernel) rfl rfl (Nat.le_of_ble_eq_true rfl) dX0_clear_32 (fun H locs hP hD hS => ?_)
  have hP : va_P (dC, dI) vwCl [(h0, .inr (0, [o_ops, o_arguments, o_targets, o_caseValues, o_caseTargets, .int 0, .int 0, .int 0, .int 0, .int 0, .int 0, .int 0, o_endReached]))] H := hP
  have hD : va_D A [(h0, .inr (0, [o_ops, o_arguments, o_targets, o_caseValues, o_caseTargets, .int 0, .int 0, .int 0, .int 0, .int 0, .int 0, .int 0, o_endReached]))] := hD
  refine lv_aload_n hx hb dX0_clear_35 rfl (lv_at hl 0 rfl) ?_
  refine lv_iconst (v := 0) hx hb dX0_clear_36 (by decide) ?_
  refine va_put (D := (dC, dI)) (ci := 0) (v := .int 0) (ty := .boolean) (C := RX0) (T := TX0) (N := 13) hx hb hts i_X0_clear_X0 tyX0 tyX0_ok nmX0 hown hK hP hD hS 0 rfl rfl 12 (by decide) (hts (.fieldLink RX0 49 "StatementRules2$Code" "endReached" "Z") k_X0_clear_fieldLink_RX0_49_SR_Code_endReached_Z) (fun _ h9 => h9) rfl (by decide +kernel) rfl rfl (Nat.le_of_ble_eq_true rfl) dX0_clear_37 (fun H locs hP hD hS => ?_)
  have hP : va_P (dC, dI) vwCl [(h0, .inr (0, [o_ops, o_arguments, o_targets, o_caseValues, o_caseTargets, .int 0, .int 0, .int 0, .int 0, .int 0, .int 0, .int 0, .int 0]))] H := hP
  have hD : va_D A [(h0, .inr (0, [o_ops, o_arguments, o_targets, o_caseValues, o_caseTargets, .int 0, .int 0, .int 0, .int 0, .int 0, .int 0, .int 0, .int 0]))] := hD
  have hP9 := hP.sub (ws' := [(h0, .inr (0, [o_ops, o_arguments, o_targets, o_caseValues, o_caseTargets, .int 0, .int 0, .int 0, .int 0, .int 0, .int 0, .int 0, .int 0]))]) [0] rfl
  have hD9 := hD.sub (ws' := [(h0, .inr (0, [o_ops, o_arguments, o_targets, o_caseValues, o_caseTargets, .int 0, .int 0, .int 0, .int 0, .int 0, .int 0, .int 0, .int 0]))]) [0] (by decide) rfl
  have hK9 := hK.sub (tys' := []) [] rfl
  exact W.vret hx hb hr (fun t ht hW => ⟨⟨(), rfl, trivial, by rw [ht]; exact hP9, va_K.moved hW.alike hK9, hD9⟩, hS.F ht⟩) hS.2.2 dX0_clear_40
theorem k_X0_newCells_fieldLink_RX0_37_SR_Code_cellCount_I : Cond.fieldLink RX0 37 "StatementRules2$Code" "cellCount" "I" ∈ wzX0_newCells := List.mem_cons_of_mem _ (List.mem_append_left _ (List.mem_of_getElem? (i := 0) rfl))
theorem i_X0_newCells_X0 : ∀ w ∈ wsX00, w ∈ wzX0_newCells := fun _ h => List.mem_cons_of_mem _ (List.mem_append_right _ (List.mem_append_left _ (h)))
set_option maxHeartbeats 4000000 in
set_option maxRecDepth 100000 in
theorem c_X0_newCells (l : Launch) (dC : Nat → ClassId) (dI : Nat → Nat → Nat) (sz : Nat) (h0 : Nat) (cc : Int32) (o_ops : Value) (o_arguments : Value) (o_targets : Value) (o_caseValues : Value) (o_caseTargets : Value) (o_size : Value) (o_targetCount : Value) (o_caseCount : Value) (o_statements : Value) (o_toldNames : Value) (o_jumps : Value) (o_endReached : Value) : Met l yX0_newCells wzX0_newCells ({ frames := 1, cells := 0, slots := 0, locals := 60 }) (va_Pc [.ref h0, .int 1] (zPre dC dI sz [(h0, .inr (0, [o_ops, o_arguments, o_targets, o_caseValues, o_caseTargets, o_size, o_targetCount, o_caseCount, .int cc, o_statements, o_toldNames, o_jumps, o_endReached]))] [])) (va_Qi (fun (r : Int32) (_ : Unit) => True) (fun (_ : Unit) (t : State) => ∃ (w : Int32), zPost dC dI (va_A [(h0, .inr (0, [o_ops, o_arguments, o_targets, o_caseValues, o_caseTargets, o_size, o_targetCount, o_caseCount, .int cc, o_statements, o_toldNames, o_jumps, o_endReached]))] sz) [(h0, .inr (0, [o_ops, o_arguments, o_targets, o_caseValues, o_caseTargets, o_size, o_targetCount, o_caseCount, .int w, o_statements, o_toldNames, o_jumps, o_endReached]))] [] t) (va_A [(h0, .inr (0, [o_ops, o_arguments, o_targets, o_caseValues, o_caseTargets, o_size, o_targetCount, o_caseCount, .int cc, o_statements, o_toldNames, o_jumps, o_endReached]))] sz)) 0 0 (va_A [(h0, .inr (0, [o_ops, o_arguments, o_targets, o_caseValues, o_caseTargets, o_size, o_targetCount, o_caseCount, .int cc, o_statements, o_toldNames, o_jumps, o_endReached]))] sz) := by
  refine Met.ofW (cc := cX0_newCells) (maxL := 2) (ret := (some .int)) (by decide) rfl ?_
  intro p e s m args below meth c s₁ B hml hv
  obtain ⟨rfl, hsz, hZ, hP, hK, hD0⟩ := hv
  have hx := B.exec
  have hb := B.bytes
  have hr := B.returns
  have hts := atoms_spec (ws := wzX0_newCells) B.pre
  have hown : s.vm.findClass RX0 = some m.cls := findClass_of_methodNamed B.named
  have hlocks := B.notSynchronized
  subst hsz
  have hD := hD0.self (sz := s.heap.size)
  generalize hAe : va_A [(h0, .inr (0, [o_ops, o_arguments, o_targets, o_caseValues, o_caseTargets, o_size, o_targetCount, o_caseCount, .int cc, o_statements, o_toldNames, o_jumps, o_endReached]))] s.heap.size = A at hD ⊢
  have hA : ∀ q : Nat, s.heap.size ≤ q → A q := fun q h => by rw [← hAe]; exact Or.inr h
  have hS : va_S A s.heap s.heap [] := va_S.rf
  have hP : va_P (dC, dI) vwCl [(h0, .inr (0, [o_ops, o_arguments, o_targets, o_caseValues, o_caseTargets, o_size, o_targetCount, o_caseCount, .int cc, o_statements, o_toldNames, o_jumps, o_endReached]))] s.heap := hP
  have hl := lv_entry ([.ref h0, .int 1]) (n := 2) (Nat.le_of_ble_eq_true rfl)
  rw [lg_entry_eq]
  generalize (lg_sl ([.ref h0, .int 1]) ++ List.replicate (2 - (lg_sl ([.ref h0, .int 1])).length) Slot.unset).toArray = ls at hl ⊢
  have hl : lv_has ls 2 [(0, .ref h0), (1, .int 1)] := hl
  refine lv_aload_n hx hb dX0_newCells_0 rfl (lv_at hl 0 rfl) ?_
  refine lv_dup hx hb dX0_newCells_1 rfl ?_
  refine va_get (D := (dC, dI)) (ci := 0) (v := .int cc) (C := RX0) (T := TX0) (N := 13) hx hb hts i_X0_newCells_X0 hown hK hP 0 rfl rfl 8 (by decide) (hts (.fieldLink RX0 37 "StatementRules2$Code" "cellCount" "I") k_X0_newCells_fieldLink_RX0_37_SR_Code_cellCount_I) (fun _ h9 => h9) rfl dX0_newCells_2 ?_
  refine lv_iload_n hx hb dX0_newCells_5 rfl (lv_at hl 1 rfl) ?_
  refine lv_iadd hx hb dX0_newCells_6 ?_
  refine lv_topi (fun z1 ez1 => ?_)
  refine va_put (D := (dC, dI)) (ci := 0) (v := .int z1) (ty := .int) (C := RX0) (T := TX0) (N := 13) hx hb hts i_X0_newCells_X0 tyX0 tyX0_ok nmX0 hown hK hP hD hS 0 rfl rfl 8 (by decide) (hts (.fieldLink RX0 37 "StatementRules2$Code" "cellCount" "I") k_X0_newCells_fieldLink_RX0_37_SR_Code_cellCount_I) (fun _ h9 => h9) rfl (by decide +kernel) rfl rfl (Nat.le_of_ble_eq_true rfl) dX0_newCells_7 (fun H locs hP hD hS => ?_)
  have hP : va_P (dC, dI) vwCl [(h0, .inr (0, [o_ops, o_arguments, o_targets, o_caseValues, o_caseTargets, o_size, o_targetCount, o_caseCount, .int z1, o_statements, o_toldNames, o_jumps, o_endReached]))] H := hP
  have hD : va_D A [(h0, .inr (0, [o_ops, o_arguments, o_targets, o_caseValues, o_caseTargets, o_size, o_targetCount, o_caseCount, .int z1, o_statements, o_toldNames, o_jumps, o_endReached]))] := hD
  refine lv_aload_n hx hb dX0_newCells_10 rfl (lv_at hl 0 rfl) ?_
  refine va_get (D := (dC, dI)) (ci := 0) (v := .int z1) (C := RX0) (T := TX0) (N := 13) hx hb hts i_X0_newCells_X0 hown hK hP 0 rfl rfl 8 (by decide) (hts (.fieldLink RX0 37 "StatementRules2$Code" "cellCount" "I") k_X0_newCells_fieldLink_RX0_37_SR_Code_cellCount_I) (fun _ h9 => h9) rfl dX0_newCells_11 ?_
  refine lv_iload_n hx hb dX0_newCells_14 rfl (lv_at hl 1 rfl) ?_
  refine lv_isub hx hb dX0_newCells_15 ?_
  refine lv_topi (fun z2 ez2 => ?_)
  have hP9 := hP.sub (ws' := [(h0, .inr (0, [o_ops, o_arguments, o_targets, o_caseValues, o_caseTargets, o_size, o_targetCount, o_caseCount, .int z1, o_statements, o_toldNames, o_jumps, o_endReached]))]) [0] rfl
  have hD9 := hD.sub (ws' := [(h0, .inr (0, [o_ops, o_arguments, o_targets, o_caseValues, o_caseTargets, o_size, o_targetCount, o_caseCount, .int z1, o_statements, o_toldNames, o_jumps, o_endReached]))]) [0] (by decide) rfl
  have hK9 := hK.sub (tys' := []) [] rfl
  exact W.iret (v := z2) hx hb hr (fun t ht hW => ⟨⟨z2, (), rfl, trivial, z1, by rw [ht]; exact hP9, va_K.moved hW.alike hK9, hD9⟩, hS.F ht⟩) hS.2.2 dX0_newCells_16
theorem k_X0_add_fieldLink_RX0_9_SR_Code_ops_I : Cond.fieldLink RX0 9 "StatementRules2$Code" "ops" "[I" ∈ wzX0_add := List.mem_cons_of_mem _ (List.mem_append_left _ (List.mem_of_getElem? (i := 0) rfl))
theorem i_X0_add_X0 : ∀ w ∈ wsX00, w ∈ wzX0_add := fun _ h => List.mem_cons_of_mem _ (List.mem_append_right _ (List.mem_append_left _ (h)))
theorem k_X0_add_fieldLink_RX0_27_SR_Code_size_I : Cond.fieldLink RX0 27 "StatementRules2$Code" "size" "I" ∈ wzX0_add := List.mem_cons_of_mem _ (List.mem_append_left _ (List.mem_of_getElem? (i := 1) rfl))
theorem k_X0_add_initialized_RX11 : Cond.initialized RX11 ∈ wzX0_add := List.mem_cons_of_mem _ (List.mem_append_left _ (List.mem_of_getElem? (i := 2) rfl))
theorem k_X0_add_static_yX11_put : Cond.static yX11_put ∈ wzX0_add := List.mem_cons_of_mem _ (List.mem_append_left _ (List.mem_of_getElem? (i := 3) rfl))
theorem k_X0_add_fieldLink_RX0_15_SR_Code_arguments_I : Cond.fieldLink RX0 15 "StatementRules2$Code" "arguments" "[I" ∈ wzX0_add := List.mem_cons_of_mem _ (List.mem_append_left _ (List.mem_of_getElem? (i := 4) rfl))
set_option maxHeartbeats 4000000 in
set_option maxRecDepth 100000 in
theorem c_X0_add (l : Launch) (dC : Nat → ClassId) (dI : Nat → Nat → Nat) (sz : Nat) (h0 : Nat) (a : Int32) (b : Int32) (qo : Nat) (ko : ClassId) (fo : Nat → Int32) (qa : Nat) (ka : ClassId) (fa : Nat → Int32) (o_targets : Value) (o_caseValues : Value) (o_caseTargets : Value) (o_targetCount : Value) (o_caseCount : Value) (o_cellCount : Value) (o_statements : Value) (o_toldNames : Value) (o_jumps : Value) (o_endReached : Value) : Met l yX0_add wzX0_add ({ frames := 2, cells := 0, slots := 0, locals := 120 }) (va_Pc [.ref h0, .int a, .int b] (zPre dC dI sz [(h0, .inr (0, [.ref qo, .ref qa, o_targets, o_caseValues, o_caseTargets, .int 0, o_targetCount, o_caseCount, o_cellCount, o_statements, o_toldNames, o_jumps, o_endReached])), (qo, .inl (ko, 1200, .inl fo)), (qa, .inl (ka, 1200, .inl fa))] [(ko, .int), (ka, .int)])) (va_Qv (fun (_ : Unit) => True) (fun (_ : Unit) (t : State) => zPost dC dI (va_A [(h0, .inr (0, [.ref qo, .ref qa, o_targets, o_caseValues, o_caseTargets, .int 0, o_targetCount, o_caseCount, o_cellCount, o_statements, o_toldNames, o_jumps, o_endReached])), (qo, .inl (ko, 1200, .inl fo)), (qa, .inl (ka, 1200, .inl fa))] sz) [(h0, .inr (0, [.ref qo, .ref qa, o_targets, o_caseValues, o_caseTargets, .int 1, o_targetCount, o_caseCount, o_cellCount, o_statements, o_toldNames, o_jumps, o_endReached]))] [] t) (va_A [(h0, .inr (0, [.ref qo, .ref qa, o_targets, o_caseValues, o_caseTargets, .int 0, o_targetCount, o_caseCount, o_cellCount, o_statements, o_toldNames, o_jumps, o_endReached])), (qo, .inl (ko, 1200, .inl fo)), (qa, .inl (ka, 1200, .inl fa))] sz)) 0 0 (va_A [(h0, .inr (0, [.ref qo, .ref qa, o_targets, o_caseValues, o_caseTargets, .int 0, o_targetCount, o_caseCount, o_cellCount, o_statements, o_toldNames, o_jumps, o_endReached])), (qo, .inl (ko, 1200, .inl fo)), (qa, .inl (ka, 1200, .inl fa))] sz) := by
  refine Met.ofW (cc := cX0_add) (maxL := 3) (ret := none) (by decide) rfl ?_
  intro p e s m args below meth c s₁ B hml hv
  obtain ⟨rfl, hsz, hZ, hP, hK, hD0⟩ := hv
  have hx := B.exec
  have hb := B.bytes
  have hr := B.returns
  have hts := atoms_spec (ws := wzX0_add) B.pre
  have hown : s.vm.findClass RX0 = some m.cls := findClass_of_methodNamed B.named
  have hlocks := B.notSynchronized
  subst hsz
  have hD := hD0.self (sz := s.heap.size)
  generalize hAe : va_A [(h0, .inr (0, [.ref qo, .ref qa, o_targets, o_caseValues, o_caseTargets, .int 0, o_targetCount, o_caseCount, o_cellCount, o_statements, o_toldNames, o_jumps, o_endReached])), (qo, .inl (ko, 1200, .inl fo)), (qa, .inl (ka, 1200, .inl fa))] s.heap.size = A at hD ⊢
  have hA : ∀ q : Nat, s.heap.size ≤ q → A q := fun q h => by rw [← hAe]; exact Or.inr h
  have hS : va_S A s.heap s.heap [] := va_S.rf
  have hP : va_P (dC, dI) vwCl [(h0, .inr (0, [.ref qo, .ref qa, o_targets, o_caseValues, o_caseTargets, .int 0, o_targetCount, o_caseCount, o_cellCount, o_statements, o_toldNames, o_jumps, o_endReached])), (qo, .inl (ko, 1200, .inl fo)), (qa, .inl (ka, 1200, .inl fa))] s.heap := hP
  have hl := lv_entry ([.ref h0, .int a, .int b]) (n := 3) (Nat.le_of_ble_eq_true rfl)
  rw [lg_entry_eq]
  generalize (lg_sl ([.ref h0, .int a, .int b]) ++ List.replicate (3 - (lg_sl ([.ref h0, .int a, .int b])).length) Slot.unset).toArray = ls at hl ⊢
  have hl : lv_has ls 3 [(0, .ref h0), (1, .int a), (2, .int b)] := hl
  refine lv_aload_n hx hb dX0_add_0 rfl (lv_at hl 0 rfl) ?_
  refine va_get (D := (dC, dI)) (ci := 0) (v := .ref qo) (C := RX0) (T := TX0) (N := 13) hx hb hts i_X0_add_X0 hown hK hP 0 rfl rfl 0 (by decide) (hts (.fieldLink RX0 9 "StatementRules2$Code" "ops" "[I") k_X0_add_fieldLink_RX0_9_SR_Code_ops_I) (fun _ h9 => h9) rfl dX0_add_1 ?_
  refine lv_aload_n hx hb dX0_add_4 rfl (lv_at hl 0 rfl) ?_
  refine va_get (D := (dC, dI)) (ci := 0) (v := .int 0) (C := RX0) (T := TX0) (N := 13) hx hb hts i_X0_add_X0 hown hK hP 0 rfl rfl 5 (by decide) (hts (.fieldLink RX0 27 "StatementRules2$Code" "size" "I") k_X0_add_fieldLink_RX0_27_SR_Code_size_I) (fun _ h9 => h9) rfl dX0_add_5 ?_
  refine lv_iload_n hx hb dX0_add_8 rfl (lv_at hl 1 rfl) ?_
  have hPc := hP.sub (ws' := [(qo, .inl (ko, 1200, .inl fo))]) [1] rfl
  have hDc := hD.sub (ws' := [(qo, .inl (ko, 1200, .inl fo))]) [1] (by decide) rfl
  have hKc := hK.sub (tys' := [(ko, .int)]) [0] rfl
  have hFc := va_free (wc := [(qo, .inl (ko, 1200, .inl fo))]) hD hS hA [1] rfl
  refine va_callv (va_runSN (As := [.ref qo, .int 0, .int a]) (rest := []) ⟨hx, hb, hml, hown, hts⟩ (c_X11_put l dC dI _ qo ko 1200 fo 0 a (by first | decide | (unfold vp_in; decide)) (by first | decide | (unfold vp_in; decide)) (by first | decide | (unfold vp_in; decide))) ⟨va_cnB 3 hts hX0_add_X11_put_n53 rfl rfl rfl (hZ.1 (.methodLinkNest RX0 53 yX11_put "StatementRules2") (by decide +kernel)) (hts (.initialized RX11) k_X0_add_initialized_RX11) (by decide +kernel) ⟨Nat.le_of_ble_eq_true rfl, Nat.le_of_ble_eq_true rfl⟩, (hts (.static yX11_put) k_X0_add_static_yX11_put), trivial⟩ ⟨zPre.blind, zPre.go hZ hPc hKc hDc⟩ rfl rfl hl.1 rfl (lv_room (Nat.le_of_ble_eq_true rfl)) dX0_add_9 ⟨Nat.le_of_ble_eq_true rfl, Nat.le_of_ble_eq_true rfl⟩) hS (fun q _ h => hFc q h) hFc (fun u9 t9 H1 locs ht hvm hw hB hz1 hk1 hS => ?_)
  obtain ⟨g_2, hP1, hK1, hD1⟩ := hB
  rw [ht] at hP1
  have hK1 := va_K.moved hvm.symm hK1
  obtain ⟨hP, hD⟩ := va_join (wr := [(h0, .inr (0, [.ref qo, .ref qa, o_targets, o_caseValues, o_caseTargets, .int 0, o_targetCount, o_caseCount, o_cellCount, o_statements, o_toldNames, o_jumps, o_endReached])), (qa, .inl (ka, 1200, .inl fa))]) (w1 := [(qo, .inl (ko, 1200, .inl g_2))]) hP hD [1] [0, 2] rfl rfl (by decide) (by decide) hk1 hFc hP1 hD1
  have hK := hK.app hK1
  generalize H1 = H at hP hS ⊢
  have hP : va_P (dC, dI) vwCl [(h0, .inr (0, [.ref qo, .ref qa, o_targets, o_caseValues, o_caseTargets, .int 0, o_targetCount, o_caseCount, o_cellCount, o_statements, o_toldNames, o_jumps, o_endReached])), (qa, .inl (ka, 1200, .inl fa)), (qo, .inl (ko, 1200, .inl g_2))] H := hP
  have hD : va_D A [(h0, .inr (0, [.ref qo, .ref qa, o_targets, o_caseValues, o_caseTargets, .int 0, o_targetCount, o_caseCount, o_cellCount, o_statements, o_toldNames, o_jumps, o_endReached])), (qa, .inl (ka, 1200, .inl fa)), (qo, .inl (ko, 1200, .inl g_2))] := hD
  have hK : va_K (dC, dI) vwCl [(ko, .int), (ka, .int), (ko, .int)] s := hK
  have hK : va_K (dC, dI) vwCl [(ko, .int), (ka, .int)] s := hK.sub [0, 1] rfl
  refine lv_aload_n hx hb dX0_add_12 rfl (lv_at hl 0 rfl) ?_
  refine va_get (D := (dC, dI)) (ci := 0) (v := .ref qa) (C := RX0) (T := TX0) (N := 13) hx hb hts i_X0_add_X0 hown hK hP 0 rfl rfl 1 (by decide) (hts (.fieldLink RX0 15 "StatementRules2$Code" "arguments" "[I") k_X0_add_fieldLink_RX0_15_SR_Code_arguments_I) (fun _ h9 => h9) rfl dX0_add_13 ?_
  refine lv_aload_n hx hb dX0_add_16 rfl (lv_at hl 0 rfl) ?_
  refine va_get (D := (dC, dI)) (ci := 0) (v := .int 0) (C := RX0) (T := TX0) (N := 13) hx hb hts i_X0_add_X0 hown hK hP 0 rfl rfl 5 (by decide) (hts (.fieldLink RX0 27 "StatementRules2$Code" "size" "I") k_X0_add_fieldLink_RX0_27_SR_Code_size_I) (fun _ h9 => h9) rfl dX0_add_17 ?_
  refine lv_iload_n hx hb dX0_add_20 rfl (lv_at hl 2 rfl) ?_
  have hPc := hP.sub (ws' := [(qa, .inl (ka, 1200, .inl fa))]) [1] rfl
  have hDc := hD.sub (ws' := [(qa, .inl (ka, 1200, .inl fa))]) [1] (by decide) rfl
  have hKc := hK.sub (tys' := [(ka, .int)]) [1] rfl
  have hFc := va_free (wc := [(qa, .inl (ka, 1200, .inl fa))]) hD hS hA [1] rfl
  refine va_callv (va_runSN (As := [.ref qa, .int 0, .int b]) (rest := []) ⟨hx, hb, hml, hown, hts⟩ (c_X11_put l dC dI _ qa ka 1200 fa 0 b (by first | decide | (unfold vp_in; decide)) (by first | decide | (unfold vp_in; decide)) (by first | decide | (unfold vp_in; decide))) ⟨va_cnB 3 hts hX0_add_X11_put_n53 rfl rfl rfl (hZ.1 (.methodLinkNest RX0 53 yX11_put "StatementRules2") (by decide +kernel)) (hts (.initialized RX11) k_X0_add_initialized_RX11) (by decide +kernel) ⟨Nat.le_of_ble_eq_true rfl, Nat.le_of_ble_eq_true rfl⟩, (hts (.static yX11_put) k_X0_add_static_yX11_put), trivial⟩ ⟨zPre.blind, zPre.go hZ hPc hKc hDc⟩ rfl rfl hl.1 rfl (lv_room (Nat.le_of_ble_eq_true rfl)) dX0_add_21 ⟨Nat.le_of_ble_eq_true rfl, Nat.le_of_ble_eq_true rfl⟩) hS (fun q _ h => hFc q h) hFc (fun u9 t9 H1 locs ht hvm hw hB hz1 hk1 hS => ?_)
  obtain ⟨g_4, hP1, hK1, hD1⟩ := hB
  rw [ht] at hP1
  have hK1 := va_K.moved hvm.symm hK1
  obtain ⟨hP, hD⟩ := va_join (wr := [(h0, .inr (0, [.ref qo, .ref qa, o_targets, o_caseValues, o_caseTargets, .int 0, o_targetCount, o_caseCount, o_cellCount, o_statements, o_toldNames, o_jumps, o_endReached])), (qo, .inl (ko, 1200, .inl g_2))]) (w1 := [(qa, .inl (ka, 1200, .inl g_4))]) hP hD [1] [0, 2] rfl rfl (by decide) (by decide) hk1 hFc hP1 hD1
  have hK := hK.app hK1
  generalize H1 = H at hP hS ⊢
  have hP : va_P (dC, dI) vwCl [(h0, .inr (0, [.ref qo, .ref qa, o_targets, o_caseValues, o_caseTargets, .int 0, o_targetCount, o_caseCount, o_cellCount, o_statements, o_toldNames, o_jumps, o_endReached])), (qo, .inl (ko, 1200, .inl g_2)), (qa, .inl (ka, 1200, .inl g_4))] H := hP
  have hD : va_D A [(h0, .inr (0, [.ref qo, .ref qa, o_targets, o_caseValues, o_caseTargets, .int 0, o_targetCount, o_caseCount, o_cellCount, o_statements, o_toldNames, o_jumps, o_endReached])), (qo, .inl (ko, 1200, .inl g_2)), (qa, .inl (ka, 1200, .inl g_4))] := hD
  have hK : va_K (dC, dI) vwCl [(ko, .int), (ka, .int), (ka, .int)] s := hK
  have hK : va_K (dC, dI) vwCl [(ko, .int), (ka, .int)] s := hK.sub [0, 1] rfl
  refine lv_aload_n hx hb dX0_add_24 rfl (lv_at hl 0 rfl) ?_
  refine lv_dup hx hb dX0_add_25 rfl ?_
  refine va_get (D := (dC, dI)) (ci := 0) (v := .int 0) (C := RX0) (T := TX0) (N := 13) hx hb hts i_X0_add_X0 hown hK hP 0 rfl rfl 5 (by decide) (hts (.fieldLink RX0 27 "StatementRules2$Code" "size" "I") k_X0_add_fieldLink_RX0_27_SR_Code_size_I) (fun _ h9 => h9) rfl dX0_add_26 ?_
  refine lv_iconst (v := 1) hx hb dX0_add_29 (by decide) ?_
  refine lv_iadd hx hb dX0_add_30 ?_
  refine lv_topi (fun z5 ez5 => ?_)
  obtain rfl : z5 = 1 := ez5.trans (by decide)
  refine va_put (D := (dC, dI)) (ci := 0) (v := .int 1) (ty := .int) (C := RX0) (T := TX0) (N := 13) hx hb hts i_X0_add_X0 tyX0 tyX0_ok nmX0 hown hK hP hD hS 0 rfl rfl 5 (by decide) (hts (.fieldLink RX0 27 "StatementRules2$Code" "size" "I") k_X0_add_fieldLink_RX0_27_SR_Code_size_I) (fun _ h9 => h9) rfl (by decide +kernel) rfl rfl (Nat.le_of_ble_eq_true rfl) dX0_add_31 (fun H locs hP hD hS => ?_)
  have hP : va_P (dC, dI) vwCl [(h0, .inr (0, [.ref qo, .ref qa, o_targets, o_caseValues, o_caseTargets, .int 1, o_targetCount, o_caseCount, o_cellCount, o_statements, o_toldNames, o_jumps, o_endReached])), (qo, .inl (ko, 1200, .inl g_2)), (qa, .inl (ka, 1200, .inl g_4))] H := hP
  have hD : va_D A [(h0, .inr (0, [.ref qo, .ref qa, o_targets, o_caseValues, o_caseTargets, .int 1, o_targetCount, o_caseCount, o_cellCount, o_statements, o_toldNames, o_jumps, o_endReached])), (qo, .inl (ko, 1200, .inl g_2)), (qa, .inl (ka, 1200, .inl g_4))] := hD
  have hP9 := hP.sub (ws' := [(h0, .inr (0, [.ref qo, .ref qa, o_targets, o_caseValues, o_caseTargets, .int 1, o_targetCount, o_caseCount, o_cellCount, o_statements, o_toldNames, o_jumps, o_endReached]))]) [0] rfl
  have hD9 := hD.sub (ws' := [(h0, .inr (0, [.ref qo, .ref qa, o_targets, o_caseValues, o_caseTargets, .int 1, o_targetCount, o_caseCount, o_cellCount, o_statements, o_toldNames, o_jumps, o_endReached]))]) [0] (by decide) rfl
  have hK9 := hK.sub (tys' := []) [] rfl
  exact W.vret hx hb hr (fun t ht hW => ⟨⟨(), rfl, trivial, by rw [ht]; exact hP9, va_K.moved hW.alike hK9, hD9⟩, hS.F ht⟩) hS.2.2 dX0_add_34
theorem k_X4_add_fieldLink_RX4_20_SR_Names_count_I : Cond.fieldLink RX4 20 "StatementRules2$Names" "count" "I" ∈ wzX4_add := List.mem_cons_of_mem _ (List.mem_append_left _ (List.mem_of_getElem? (i := 0) rfl))
theorem i_X4_add_X4 : ∀ w ∈ wsX40, w ∈ wzX4_add := fun _ h => List.mem_cons_of_mem _ (List.mem_append_right _ (List.mem_append_left _ (h)))
theorem k_X4_add_fieldLink_RX4_7_SR_Names_names_J : Cond.fieldLink RX4 7 "StatementRules2$Names" "names" "[J" ∈ wzX4_add := List.mem_cons_of_mem _ (List.mem_append_left _ (List.mem_of_getElem? (i := 1) rfl))
theorem k_X4_add_fieldLink_RX4_13_SR_Names_cells_I : Cond.fieldLink RX4 13 "StatementRules2$Names" "cells" "[I" ∈ wzX4_add := List.mem_cons_of_mem _ (List.mem_append_left _ (List.mem_of_getElem? (i := 2) rfl))
theorem k_X4_add_fieldLink_RX4_17_SR_Names_frames_I : Cond.fieldLink RX4 17 "StatementRules2$Names" "frames" "[I" ∈ wzX4_add := List.mem_cons_of_mem _ (List.mem_append_left _ (List.mem_of_getElem? (i := 3) rfl))
set_option maxHeartbeats 4000000 in
set_option maxRecDepth 100000 in
theorem c_X4_add_0 (l : Launch) (dC : Nat → ClassId) (dI : Nat → Nat → Nat) (sz : Nat) (h0 : Nat) (nm : Int64) (cl : Int32) (qn : Nat) (kn : ClassId) (fn : Nat → Int64) (qc : Nat) (kc : ClassId) (fc : Nat → Int32) (qf : Nat) (kf : ClassId) (ff : Nat → Int32) : Met l yX4_add wzX4_add ({ frames := 1, cells := 0, slots := 0, locals := 60 }) (va_Pc [.ref h0, .long nm, .int cl, .int (-1)] (zPre dC dI sz [(h0, .inr (3, [.ref qn, .ref qc, .ref qf, .int 0])), (qn, .inl (kn, 128, .inr (.inl fn))), (qc, .inl (kc, 128, .inl fc)), (qf, .inl (kf, 128, .inl ff))] [(kn, .long), (kc, .int), (kf, .int)])) (va_Qv (fun (_ : Unit) => True) (fun (_ : Unit) (t : State) => ∃ (gn : Nat → Int64), ∃ (gc : Nat → Int32), ∃ (gf : Nat → Int32), zPost dC dI (va_A [(h0, .inr (3, [.ref qn, .ref qc, .ref qf, .int 0])), (qn, .inl (kn, 128, .inr (.inl fn))), (qc, .inl (kc, 128, .inl fc)), (qf, .inl (kf, 128, .inl ff))] sz) [(h0, .inr (3, [.ref qn, .ref qc, .ref qf, .int 1])), (qn, .inl (kn, 128, .inr (.inl gn))), (qc, .inl (kc, 128, .inl gc)), (qf, .inl (kf, 128, .inl gf))] [(kn, .long), (kc, .int), (kf, .int)] t) (va_A [(h0, .inr (3, [.ref qn, .ref qc, .ref qf, .int 0])), (qn, .inl (kn, 128, .inr (.inl fn))), (qc, .inl (kc, 128, .inl fc)), (qf, .inl (kf, 128, .inl ff))] sz)) 0 0 (va_A [(h0, .inr (3, [.ref qn, .ref qc, .ref qf, .int 0])), (qn, .inl (kn, 128, .inr (.inl fn))), (qc, .inl (kc, 128, .inl fc)), (qf, .inl (kf, 128, .inl ff))] sz) := by
  refine Met.ofW (cc := cX4_add) (maxL := 5) (ret := none) (by decide) rfl ?_
  intro p e s m args below meth c s₁ B hml hv
  obtain ⟨rfl, hsz, hZ, hP, hK, hD0⟩ := hv
  have hx := B.exec
  have hb := B.bytes
  have hr := B.returns
  have hts := atoms_spec (ws := wzX4_add) B.pre
  have hown : s.vm.findClass RX4 = some m.cls := findClass_of_methodNamed B.named
  have hlocks := B.notSynchronized
  subst hsz
  have hD := hD0.self (sz := s.heap.size)
  generalize hAe : va_A [(h0, .inr (3, [.ref qn, .ref qc, .ref qf, .int 0])), (qn, .inl (kn, 128, .inr (.inl fn))), (qc, .inl (kc, 128, .inl fc)), (qf, .inl (kf, 128, .inl ff))] s.heap.size = A at hD ⊢
  have hA : ∀ q : Nat, s.heap.size ≤ q → A q := fun q h => by rw [← hAe]; exact Or.inr h
  have hS : va_S A s.heap s.heap [] := va_S.rf
  have hP : va_P (dC, dI) vwCl [(h0, .inr (3, [.ref qn, .ref qc, .ref qf, .int 0])), (qn, .inl (kn, 128, .inr (.inl fn))), (qc, .inl (kc, 128, .inl fc)), (qf, .inl (kf, 128, .inl ff))] s.heap := hP
  have hl := lv_entry ([.ref h0, .long nm, .int cl, .int (-1)]) (n := 5) (Nat.le_of_ble_eq_true rfl)
  rw [lg_entry_eq]
  generalize (lg_sl ([.ref h0, .long nm, .int cl, .int (-1)]) ++ List.replicate (5 - (lg_sl ([.ref h0, .long nm, .int cl, .int (-1)])).length) Slot.unset).toArray = ls at hl ⊢
  have hl : lv_has ls 5 [(0, .ref h0), (1, .long nm), (3, .int cl), (4, .int (-1))] := hl
  refine lv_aload_n hx hb dX4_add_0 rfl (lv_at hl 0 rfl) ?_
  refine va_get (D := (dC, dI)) (ci := 3) (v := .int 0) (C := RX4) (T := TX4) (N := 4) hx hb hts i_X4_add_X4 hown hK hP 0 rfl rfl 3 (by decide) (hts (.fieldLink RX4 20 "StatementRules2$Names" "count" "I") k_X4_add_fieldLink_RX4_20_SR_Names_count_I) (fun _ h9 => h9) rfl dX4_add_1 ?_
  refine lv_aload_n hx hb dX4_add_4 rfl (lv_at hl 0 rfl) ?_
  refine va_get (D := (dC, dI)) (ci := 3) (v := .ref qn) (C := RX4) (T := TX4) (N := 4) hx hb hts i_X4_add_X4 hown hK hP 0 rfl rfl 0 (by decide) (hts (.fieldLink RX4 7 "StatementRules2$Names" "names" "[J") k_X4_add_fieldLink_RX4_7_SR_Names_names_J) (fun _ h9 => h9) rfl dX4_add_5 ?_
  refine va_alen (v := 128) hx hb hK hP 1 0 rfl rfl rfl dX4_add_8 ?_
  refine lv_icmp_ge (tgt := 53) hx hb dX4_add_9 (by decide) (fun c9 => absurd c9 (by decide)) (fun _ => ?_)
  refine lv_aload_n hx hb dX4_add_12 rfl (lv_at hl 0 rfl) ?_
  refine va_get (D := (dC, dI)) (ci := 3) (v := .ref qn) (C := RX4) (T := TX4) (N := 4) hx hb hts i_X4_add_X4 hown hK hP 0 rfl rfl 0 (by decide) (hts (.fieldLink RX4 7 "StatementRules2$Names" "names" "[J") k_X4_add_fieldLink_RX4_7_SR_Names_names_J) (fun _ h9 => h9) rfl dX4_add_13 ?_
  refine lv_aload_n hx hb dX4_add_16 rfl (lv_at hl 0 rfl) ?_
  refine va_get (D := (dC, dI)) (ci := 3) (v := .int 0) (C := RX4) (T := TX4) (N := 4) hx hb hts i_X4_add_X4 hown hK hP 0 rfl rfl 3 (by decide) (hts (.fieldLink RX4 20 "StatementRules2$Names" "count" "I") k_X4_add_fieldLink_RX4_20_SR_Names_count_I) (fun _ h9 => h9) rfl dX4_add_17 ?_
  refine lv_lload_n hx hb dX4_add_20 rfl (lv_at hl 1 rfl) ?_
  refine va_last hx hb hK hP hD hS 1 0 rfl rfl (by unfold vp_in; decide) dX4_add_21 (fun H locs hP hD hS => ?_)
  obtain ⟨f1, hP, hD⟩ : ∃ (f1 : Nat → Int64), va_P (dC, dI) vwCl [(h0, .inr (3, [.ref qn, .ref qc, .ref qf, .int 0])), (qn, .inl (kn, 128, .inr (.inl f1))), (qc, .inl (kc, 128, .inl fc)), (qf, .inl (kf, 128, .inl ff))] H ∧ va_D A [(h0, .inr (3, [.ref qn, .ref qc, .ref qf, .int 0])), (qn, .inl (kn, 128, .inr (.inl f1))), (qc, .inl (kc, 128, .inl fc)), (qf, .inl (kf, 128, .inl ff))] := ⟨_, hP, hD⟩
  refine lv_aload_n hx hb dX4_add_22 rfl (lv_at hl 0 rfl) ?_
  refine va_get (D := (dC, dI)) (ci := 3) (v := .ref qc) (C := RX4) (T := TX4) (N := 4) hx hb hts i_X4_add_X4 hown hK hP 0 rfl rfl 1 (by decide) (hts (.fieldLink RX4 13 "StatementRules2$Names" "cells" "[I") k_X4_add_fieldLink_RX4_13_SR_Names_cells_I) (fun _ h9 => h9) rfl dX4_add_23 ?_
  refine lv_aload_n hx hb dX4_add_26 rfl (lv_at hl 0 rfl) ?_
  refine va_get (D := (dC, dI)) (ci := 3) (v := .int 0) (C := RX4) (T := TX4) (N := 4) hx hb hts i_X4_add_X4 hown hK hP 0 rfl rfl 3 (by decide) (hts (.fieldLink RX4 20 "StatementRules2$Names" "count" "I") k_X4_add_fieldLink_RX4_20_SR_Names_count_I) (fun _ h9 => h9) rfl dX4_add_27 ?_
  refine lv_iload_n hx hb dX4_add_30 rfl (lv_at hl 2 rfl) ?_
  refine va_iast hx hb hK hP hD hS 2 1 rfl rfl (by unfold vp_in; decide) dX4_add_31 (fun H locs hP hD hS => ?_)
  obtain ⟨f2, hP, hD⟩ : ∃ (f2 : Nat → Int32), va_P (dC, dI) vwCl [(h0, .inr (3, [.ref qn, .ref qc, .ref qf, .int 0])), (qn, .inl (kn, 128, .inr (.inl f1))), (qc, .inl (kc, 128, .inl f2)), (qf, .inl (kf, 128, .inl ff))] H ∧ va_D A [(h0, .inr (3, [.ref qn, .ref qc, .ref qf, .int 0])), (qn, .inl (kn, 128, .inr (.inl f1))), (qc, .inl (kc, 128, .inl f2)), (qf, .inl (kf, 128, .inl ff))] := ⟨_, hP, hD⟩
  refine lv_aload_n hx hb dX4_add_32 rfl (lv_at hl 0 rfl) ?_
  refine va_get (D := (dC, dI)) (ci := 3) (v := .ref qf) (C := RX4) (T := TX4) (N := 4) hx hb hts i_X4_add_X4 hown hK hP 0 rfl rfl 2 (by decide) (hts (.fieldLink RX4 17 "StatementRules2$Names" "frames" "[I") k_X4_add_fieldLink_RX4_17_SR_Names_frames_I) (fun _ h9 => h9) rfl dX4_add_33 ?_
  refine lv_aload_n hx hb dX4_add_36 rfl (lv_at hl 0 rfl) ?_
  refine va_get (D := (dC, dI)) (ci := 3) (v := .int 0) (C := RX4) (T := TX4) (N := 4) hx hb hts i_X4_add_X4 hown hK hP 0 rfl rfl 3 (by decide) (hts (.fieldLink RX4 20 "StatementRules2$Names" "count" "I") k_X4_add_fieldLink_RX4_20_SR_Names_count_I) (fun _ h9 => h9) rfl dX4_add_37 ?_
  refine lv_iload hx hb dX4_add_40 (lv_at hl 3 rfl) ?_
  refine va_iast hx hb hK hP hD hS 3 2 rfl rfl (by unfold vp_in; decide) dX4_add_42 (fun H locs hP hD hS => ?_)
  obtain ⟨f3, hP, hD⟩ : ∃ (f3 : Nat → Int32), va_P (dC, dI) vwCl [(h0, .inr (3, [.ref qn, .ref qc, .ref qf, .int 0])), (qn, .inl (kn, 128, .inr (.inl f1))), (qc, .inl (kc, 128, .inl f2)), (qf, .inl (kf, 128, .inl f3))] H ∧ va_D A [(h0, .inr (3, [.ref qn, .ref qc, .ref qf, .int 0])), (qn, .inl (kn, 128, .inr (.inl f1))), (qc, .inl (kc, 128, .inl f2)), (qf, .inl (kf, 128, .inl f3))] := ⟨_, hP, hD⟩
  refine lv_aload_n hx hb dX4_add_43 rfl (lv_at hl 0 rfl) ?_
  refine lv_dup hx hb dX4_add_44 rfl ?_
  refine va_get (D := (dC, dI)) (ci := 3) (v := .int 0) (C := RX4) (T := TX4) (N := 4) hx hb hts i_X4_add_X4 hown hK hP 0 rfl rfl 3 (by decide) (hts (.fieldLink RX4 20 "StatementRules2$Names" "count" "I") k_X4_add_fieldLink_RX4_20_SR_Names_count_I) (fun _ h9 => h9) rfl dX4_add_45 ?_
  refine lv_iconst (v := 1) hx hb dX4_add_48 (by decide) ?_
  refine lv_iadd hx hb dX4_add_49 ?_
  refine lv_topi (fun z4 ez4 => ?_)
  obtain rfl : z4 = 1 := ez4.trans (by decide)
  refine va_put (D := (dC, dI)) (ci := 3) (v := .int 1) (ty := .int) (C := RX4) (T := TX4) (N := 4) hx hb hts i_X4_add_X4 tyX4 tyX4_ok nmX4 hown hK hP hD hS 0 rfl rfl 3 (by decide) (hts (.fieldLink RX4 20 "StatementRules2$Names" "count" "I") k_X4_add_fieldLink_RX4_20_SR_Names_count_I) (fun _ h9 => h9) rfl (by decide +kernel) rfl rfl (Nat.le_of_ble_eq_true rfl) dX4_add_50 (fun H locs hP hD hS => ?_)
  have hP : va_P (dC, dI) vwCl [(h0, .inr (3, [.ref qn, .ref qc, .ref qf, .int 1])), (qn, .inl (kn, 128, .inr (.inl f1))), (qc, .inl (kc, 128, .inl f2)), (qf, .inl (kf, 128, .inl f3))] H := hP
  have hD : va_D A [(h0, .inr (3, [.ref qn, .ref qc, .ref qf, .int 1])), (qn, .inl (kn, 128, .inr (.inl f1))), (qc, .inl (kc, 128, .inl f2)), (qf, .inl (kf, 128, .inl f3))] := hD
  have hP9 := hP.sub (ws' := [(h0, .inr (3, [.ref qn, .ref qc, .ref qf, .int 1])), (qn, .inl (kn, 128, .inr (.inl f1))), (qc, .inl (kc, 128, .inl f2)), (qf, .inl (kf, 128, .inl f3))]) [0, 1, 2, 3] rfl
  have hD9 := hD.sub (ws' := [(h0, .inr (3, [.ref qn, .ref qc, .ref qf, .int 1])), (qn, .inl (kn, 128, .inr (.inl f1))), (qc, .inl (kc, 128, .inl f2)), (qf, .inl (kf, 128, .inl f3))]) [0, 1, 2, 3] (by decide) rfl
  have hK9 := hK.sub (tys' := [(kn, .long), (kc, .int), (kf, .int)]) [0, 1, 2] rfl
  exact W.vret hx hb hr (fun t ht hW => ⟨⟨(), rfl, trivial, f1, f2, f3, by rw [ht]; exact hP9, va_K.moved hW.alike hK9, hD9⟩, hS.F ht⟩) hS.2.2 dX4_add_53
set_option maxHeartbeats 4000000 in
set_option maxRecDepth 100000 in
theorem c_X4_add_1 (l : Launch) (dC : Nat → ClassId) (dI : Nat → Nat → Nat) (sz : Nat) (h0 : Nat) (nm : Int64) (cl : Int32) (qn : Nat) (kn : ClassId) (fn : Nat → Int64) (qc : Nat) (kc : ClassId) (fc : Nat → Int32) (qf : Nat) (kf : ClassId) (ff : Nat → Int32) : Met l yX4_add wzX4_add ({ frames := 1, cells := 0, slots := 0, locals := 60 }) (va_Pc [.ref h0, .long nm, .int cl, .int (-1)] (zPre dC dI sz [(h0, .inr (3, [.ref qn, .ref qc, .ref qf, .int 1])), (qn, .inl (kn, 128, .inr (.inl fn))), (qc, .inl (kc, 128, .inl fc)), (qf, .inl (kf, 128, .inl ff))] [(kn, .long), (kc, .int), (kf, .int)])) (va_Qv (fun (_ : Unit) => True) (fun (_ : Unit) (t : State) => ∃ (gn : Nat → Int64), ∃ (gc : Nat → Int32), ∃ (gf : Nat → Int32), zPost dC dI (va_A [(h0, .inr (3, [.ref qn, .ref qc, .ref qf, .int 1])), (qn, .inl (kn, 128, .inr (.inl fn))), (qc, .inl (kc, 128, .inl fc)), (qf, .inl (kf, 128, .inl ff))] sz) [(h0, .inr (3, [.ref qn, .ref qc, .ref qf, .int 2])), (qn, .inl (kn, 128, .inr (.inl gn))), (qc, .inl (kc, 128, .inl gc)), (qf, .inl (kf, 128, .inl gf))] [(kn, .long), (kc, .int), (kf, .int)] t) (va_A [(h0, .inr (3, [.ref qn, .ref qc, .ref qf, .int 1])), (qn, .inl (kn, 128, .inr (.inl fn))), (qc, .inl (kc, 128, .inl fc)), (qf, .inl (kf, 128, .inl ff))] sz)) 0 0 (va_A [(h0, .inr (3, [.ref qn, .ref qc, .ref qf, .int 1])), (qn, .inl (kn, 128, .inr (.inl fn))), (qc, .inl (kc, 128, .inl fc)), (qf, .inl (kf, 128, .inl ff))] sz) := by
  refine Met.ofW (cc := cX4_add) (maxL := 5) (ret := none) (by decide) rfl ?_
  intro p e s m args below meth c s₁ B hml hv
  obtain ⟨rfl, hsz, hZ, hP, hK, hD0⟩ := hv
  have hx := B.exec
  have hb := B.bytes
  have hr := B.returns
  have hts := atoms_spec (ws := wzX4_add) B.pre
  have hown : s.vm.findClass RX4 = some m.cls := findClass_of_methodNamed B.named
  have hlocks := B.notSynchronized
  subst hsz
  have hD := hD0.self (sz := s.heap.size)
  generalize hAe : va_A [(h0, .inr (3, [.ref qn, .ref qc, .ref qf, .int 1])), (qn, .inl (kn, 128, .inr (.inl fn))), (qc, .inl (kc, 128, .inl fc)), (qf, .inl (kf, 128, .inl ff))] s.heap.size = A at hD ⊢
  have hA : ∀ q : Nat, s.heap.size ≤ q → A q := fun q h => by rw [← hAe]; exact Or.inr h
  have hS : va_S A s.heap s.heap [] := va_S.rf
  have hP : va_P (dC, dI) vwCl [(h0, .inr (3, [.ref qn, .ref qc, .ref qf, .int 1])), (qn, .inl (kn, 128, .inr (.inl fn))), (qc, .inl (kc, 128, .inl fc)), (qf, .inl (kf, 128, .inl ff))] s.heap := hP
  have hl := lv_entry ([.ref h0, .long nm, .int cl, .int (-1)]) (n := 5) (Nat.le_of_ble_eq_true rfl)
  rw [lg_entry_eq]
  generalize (lg_sl ([.ref h0, .long nm, .int cl, .int (-1)]) ++ List.replicate (5 - (lg_sl ([.ref h0, .long nm, .int cl, .int (-1)])).length) Slot.unset).toArray = ls at hl ⊢
  have hl : lv_has ls 5 [(0, .ref h0), (1, .long nm), (3, .int cl), (4, .int (-1))] := hl
  refine lv_aload_n hx hb dX4_add_0 rfl (lv_at hl 0 rfl) ?_
  refine va_get (D := (dC, dI)) (ci := 3) (v := .int 1) (C := RX4) (T := TX4) (N := 4) hx hb hts i_X4_add_X4 hown hK hP 0 rfl rfl 3 (by decide) (hts (.fieldLink RX4 20 "StatementRules2$Names" "count" "I") k_X4_add_fieldLink_RX4_20_SR_Names_count_I) (fun _ h9 => h9) rfl dX4_add_1 ?_
  refine lv_aload_n hx hb dX4_add_4 rfl (lv_at hl 0 rfl) ?_
  refine va_get (D := (dC, dI)) (ci := 3) (v := .ref qn) (C := RX4) (T := TX4) (N := 4) hx hb hts i_X4_add_X4 hown hK hP 0 rfl rfl 0 (by decide) (hts (.fieldLink RX4 7 "StatementRules2$Names" "names" "[J") k_X4_add_fieldLink_RX4_7_SR_Names_names_J) (fun _ h9 => h9) rfl dX4_add_5 ?_
  refine va_alen (v := 128) hx hb hK hP 1 0 rfl rfl rfl dX4_add_8 ?_
  refine lv_icmp_ge (tgt := 53) hx hb dX4_add_9 (by decide) (fun c9 => absurd c9 (by decide)) (fun _ => ?_)
  refine lv_aload_n hx hb dX4_add_12 rfl (lv_at hl 0 rfl) ?_
  refine va_get (D := (dC, dI)) (ci := 3) (v := .ref qn) (C := RX4) (T := TX4) (N := 4) hx hb hts i_X4_add_X4 hown hK hP 0 rfl rfl 0 (by decide) (hts (.fieldLink RX4 7 "StatementRules2$Names" "names" "[J") k_X4_add_fieldLink_RX4_7_SR_Names_names_J) (fun _ h9 => h9) rfl dX4_add_13 ?_
  refine lv_aload_n hx hb dX4_add_16 rfl (lv_at hl 0 rfl) ?_
  refine va_get (D := (dC, dI)) (ci := 3) (v := .int 1) (C := RX4) (T := TX4) (N := 4) hx hb hts i_X4_add_X4 hown hK hP 0 rfl rfl 3 (by decide) (hts (.fieldLink RX4 20 "StatementRules2$Names" "count" "I") k_X4_add_fieldLink_RX4_20_SR_Names_count_I) (fun _ h9 => h9) rfl dX4_add_17 ?_
  refine lv_lload_n hx hb dX4_add_20 rfl (lv_at hl 1 rfl) ?_
  refine va_last hx hb hK hP hD hS 1 0 rfl rfl (by unfold vp_in; decide) dX4_add_21 (fun H locs hP hD hS => ?_)
  obtain ⟨f1, hP, hD⟩ : ∃ (f1 : Nat → Int64), va_P (dC, dI) vwCl [(h0, .inr (3, [.ref qn, .ref qc, .ref qf, .int 1])), (qn, .inl (kn, 128, .inr (.inl f1))), (qc, .inl (kc, 128, .inl fc)), (qf, .inl (kf, 128, .inl ff))] H ∧ va_D A [(h0, .inr (3, [.ref qn, .ref qc, .ref qf, .int 1])), (qn, .inl (kn, 128, .inr (.inl f1))), (qc, .inl (kc, 128, .inl fc)), (qf, .inl (kf, 128, .inl ff))] := ⟨_, hP, hD⟩
  refine lv_aload_n hx hb dX4_add_22 rfl (lv_at hl 0 rfl) ?_
  refine va_get (D := (dC, dI)) (ci := 3) (v := .ref qc) (C := RX4) (T := TX4) (N := 4) hx hb hts i_X4_add_X4 hown hK hP 0 rfl rfl 1 (by decide) (hts (.fieldLink RX4 13 "StatementRules2$Names" "cells" "[I") k_X4_add_fieldLink_RX4_13_SR_Names_cells_I) (fun _ h9 => h9) rfl dX4_add_23 ?_
  refine lv_aload_n hx hb dX4_add_26 rfl (lv_at hl 0 rfl) ?_
  refine va_get (D := (dC, dI)) (ci := 3) (v := .int 1) (C := RX4) (T := TX4) (N := 4) hx hb hts i_X4_add_X4 hown hK hP 0 rfl rfl 3 (by decide) (hts (.fieldLink RX4 20 "StatementRules2$Names" "count" "I") k_X4_add_fieldLink_RX4_20_SR_Names_count_I) (fun _ h9 => h9) rfl dX4_add_27 ?_
  refine lv_iload_n hx hb dX4_add_30 rfl (lv_at hl 2 rfl) ?_
  refine va_iast hx hb hK hP hD hS 2 1 rfl rfl (by unfold vp_in; decide) dX4_add_31 (fun H locs hP hD hS => ?_)
  obtain ⟨f2, hP, hD⟩ : ∃ (f2 : Nat → Int32), va_P (dC, dI) vwCl [(h0, .inr (3, [.ref qn, .ref qc, .ref qf, .int 1])), (qn, .inl (kn, 128, .inr (.inl f1))), (qc, .inl (kc, 128, .inl f2)), (qf, .inl (kf, 128, .inl ff))] H ∧ va_D A [(h0, .inr (3, [.ref qn, .ref qc, .ref qf, .int 1])), (qn, .inl (kn, 128, .inr (.inl f1))), (qc, .inl (kc, 128, .inl f2)), (qf, .inl (kf, 128, .inl ff))] := ⟨_, hP, hD⟩
  refine lv_aload_n hx hb dX4_add_32 rfl (lv_at hl 0 rfl) ?_
  refine va_get (D := (dC, dI)) (ci := 3) (v := .ref qf) (C := RX4) (T := TX4) (N := 4) hx hb hts i_X4_add_X4 hown hK hP 0 rfl rfl 2 (by decide) (hts (.fieldLink RX4 17 "StatementRules2$Names" "frames" "[I") k_X4_add_fieldLink_RX4_17_SR_Names_frames_I) (fun _ h9 => h9) rfl dX4_add_33 ?_
  refine lv_aload_n hx hb dX4_add_36 rfl (lv_at hl 0 rfl) ?_
  refine va_get (D := (dC, dI)) (ci := 3) (v := .int 1) (C := RX4) (T := TX4) (N := 4) hx hb hts i_X4_add_X4 hown hK hP 0 rfl rfl 3 (by decide) (hts (.fieldLink RX4 20 "StatementRules2$Names" "count" "I") k_X4_add_fieldLink_RX4_20_SR_Names_count_I) (fun _ h9 => h9) rfl dX4_add_37 ?_
  refine lv_iload hx hb dX4_add_40 (lv_at hl 3 rfl) ?_
  refine va_iast hx hb hK hP hD hS 3 2 rfl rfl (by unfold vp_in; decide) dX4_add_42 (fun H locs hP hD hS => ?_)
  obtain ⟨f3, hP, hD⟩ : ∃ (f3 : Nat → Int32), va_P (dC, dI) vwCl [(h0, .inr (3, [.ref qn, .ref qc, .ref qf, .int 1])), (qn, .inl (kn, 128, .inr (.inl f1))), (qc, .inl (kc, 128, .inl f2)), (qf, .inl (kf, 128, .inl f3))] H ∧ va_D A [(h0, .inr (3, [.ref qn, .ref qc, .ref qf, .int 1])), (qn, .inl (kn, 128, .inr (.inl f1))), (qc, .inl (kc, 128, .inl f2)), (qf, .inl (kf, 128, .inl f3))] := ⟨_, hP, hD⟩
  refine lv_aload_n hx hb dX4_add_43 rfl (lv_at hl 0 rfl) ?_
  refine lv_dup hx hb dX4_add_44 rfl ?_
  refine va_get (D := (dC, dI)) (ci := 3) (v := .int 1) (C := RX4) (T := TX4) (N := 4) hx hb hts i_X4_add_X4 hown hK hP 0 rfl rfl 3 (by decide) (hts (.fieldLink RX4 20 "StatementRules2$Names" "count" "I") k_X4_add_fieldLink_RX4_20_SR_Names_count_I) (fun _ h9 => h9) rfl dX4_add_45 ?_
  refine lv_iconst (v := 1) hx hb dX4_add_48 (by decide) ?_
  refine lv_iadd hx hb dX4_add_49 ?_
  refine lv_topi (fun z4 ez4 => ?_)
  obtain rfl : z4 = 2 := ez4.trans (by decide)
  refine va_put (D := (dC, dI)) (ci := 3) (v := .int 2) (ty := .int) (C := RX4) (T := TX4) (N := 4) hx hb hts i_X4_add_X4 tyX4 tyX4_ok nmX4 hown hK hP hD hS 0 rfl rfl 3 (by decide) (hts (.fieldLink RX4 20 "StatementRules2$Names" "count" "I") k_X4_add_fieldLink_RX4_20_SR_Names_count_I) (fun _ h9 => h9) rfl (by decide +kernel) rfl rfl (Nat.le_of_ble_eq_true rfl) dX4_add_50 (fun H locs hP hD hS => ?_)
  have hP : va_P (dC, dI) vwCl [(h0, .inr (3, [.ref qn, .ref qc, .ref qf, .int 2])), (qn, .inl (kn, 128, .inr (.inl f1))), (qc, .inl (kc, 128, .inl f2)), (qf, .inl (kf, 128, .inl f3))] H := hP
  have hD : va_D A [(h0, .inr (3, [.ref qn, .ref qc, .ref qf, .int 2])), (qn, .inl (kn, 128, .inr (.inl f1))), (qc, .inl (kc, 128, .inl f2)), (qf, .inl (kf, 128, .inl f3))] := hD
  have hP9 := hP.sub (ws' := [(h0, .inr (3, [.ref qn, .ref qc, .ref qf, .int 2])), (qn, .inl (kn, 128, .inr (.inl f1))), (qc, .inl (kc, 128, .inl f2)), (qf, .inl (kf, 128, .inl f3))]) [0, 1, 2, 3] rfl
  have hD9 := hD.sub (ws' := [(h0, .inr (3, [.ref qn, .ref qc, .ref qf, .int 2])), (qn, .inl (kn, 128, .inr (.inl f1))), (qc, .inl (kc, 128, .inl f2)), (qf, .inl (kf, 128, .inl f3))]) [0, 1, 2, 3] (by decide) rfl
  have hK9 := hK.sub (tys' := [(kn, .long), (kc, .int), (kf, .int)]) [0, 1, 2] rfl
  exact W.vret hx hb hr (fun t ht hW => ⟨⟨(), rfl, trivial, f1, f2, f3, by rw [ht]; exact hP9, va_K.moved hW.alike hK9, hD9⟩, hS.F ht⟩) hS.2.2 dX4_add_53
theorem k_X6_clear_fieldLink_RX6_21_SR_Opens_count_I : Cond.fieldLink RX6 21 "StatementRules2$Opens" "count" "I" ∈ wzX6_clear := List.mem_cons_of_mem _ (List.mem_append_left _ (List.mem_of_getElem? (i := 0) rfl))
theorem i_X6_clear_X6 : ∀ w ∈ wsX60, w ∈ wzX6_clear := fun _ h => List.mem_cons_of_mem _ (List.mem_append_right _ (List.mem_append_left _ (h)))
theorem k_X6_clear_fieldLink_RX6_25_SR_Opens_serials_I : Cond.fieldLink RX6 25 "StatementRules2$Opens" "serials" "I" ∈ wzX6_clear := List.mem_cons_of_mem _ (List.mem_append_left _ (List.mem_of_getElem? (i := 1) rfl))
theorem k_X6_clear_fieldLink_RX6_28_SR_Opens_jumpCount_I : Cond.fieldLink RX6 28 "StatementRules2$Opens" "jumpCount" "I" ∈ wzX6_clear := List.mem_cons_of_mem _ (List.mem_append_left _ (List.mem_of_getElem? (i := 2) rfl))
theorem k_X6_clear_fieldLink_RX6_31_SR_Opens_arm_I : Cond.fieldLink RX6 31 "StatementRules2$Opens" "arm" "I" ∈ wzX6_clear := List.mem_cons_of_mem _ (List.mem_append_left _ (List.mem_of_getElem? (i := 3) rfl))
set_option maxHeartbeats 4000000 in
set_option maxRecDepth 100000 in
theorem c_X6_clear (l : Launch) (dC : Nat → ClassId) (dI : Nat → Nat → Nat) (sz : Nat) (h0 : Nat) (p_rows : Value) (p_jumps : Value) (p_count : Value) (p_serials : Value) (p_jumpCount : Value) (p_arm : Value) : Met l yX6_clear wzX6_clear ({ frames := 1, cells := 0, slots := 0, locals := 60 }) (va_Pc [.ref h0] (zPre dC dI sz [(h0, .inr (5, [p_rows, p_jumps, p_count, p_serials, p_jumpCount, p_arm]))] [])) (va_Qv (fun (_ : Unit) => True) (fun (_ : Unit) (t : State) => zPost dC dI (va_A [(h0, .inr (5, [p_rows, p_jumps, p_count, p_serials, p_jumpCount, p_arm]))] sz) [(h0, .inr (5, [p_rows, p_jumps, .int 0, .int 0, .int 0, .int (-1)]))] [] t) (va_A [(h0, .inr (5, [p_rows, p_jumps, p_count, p_serials, p_jumpCount, p_arm]))] sz)) 0 0 (va_A [(h0, .inr (5, [p_rows, p_jumps, p_count, p_serials, p_jumpCount, p_arm]))] sz) := by
  refine Met.ofW (cc := cX6_clear) (maxL := 1) (ret := none) (by decide) rfl ?_
  intro p e s m args below meth c s₁ B hml hv
  obtain ⟨rfl, hsz, hZ, hP, hK, hD0⟩ := hv
  have hx := B.exec
  have hb := B.bytes
  have hr := B.returns
  have hts := atoms_spec (ws := wzX6_clear) B.pre
  have hown : s.vm.findClass RX6 = some m.cls := findClass_of_methodNamed B.named
  have hlocks := B.notSynchronized
  subst hsz
  have hD := hD0.self (sz := s.heap.size)
  generalize hAe : va_A [(h0, .inr (5, [p_rows, p_jumps, p_count, p_serials, p_jumpCount, p_arm]))] s.heap.size = A at hD ⊢
  have hA : ∀ q : Nat, s.heap.size ≤ q → A q := fun q h => by rw [← hAe]; exact Or.inr h
  have hS : va_S A s.heap s.heap [] := va_S.rf
  have hP : va_P (dC, dI) vwCl [(h0, .inr (5, [p_rows, p_jumps, p_count, p_serials, p_jumpCount, p_arm]))] s.heap := hP
  have hl := lv_entry ([.ref h0]) (n := 1) (Nat.le_of_ble_eq_true rfl)
  rw [lg_entry_eq]
  generalize (lg_sl ([.ref h0]) ++ List.replicate (1 - (lg_sl ([.ref h0])).length) Slot.unset).toArray = ls at hl ⊢
  have hl : lv_has ls 1 [(0, .ref h0)] := hl
  refine lv_aload_n hx hb dX6_clear_0 rfl (lv_at hl 0 rfl) ?_
  refine lv_iconst (v := 0) hx hb dX6_clear_1 (by decide) ?_
  refine va_put (D := (dC, dI)) (ci := 5) (v := .int 0) (ty := .int) (C := RX6) (T := TX6) (N := 6) hx hb hts i_X6_clear_X6 tyX6 tyX6_ok nmX6 hown hK hP hD hS 0 rfl rfl 2 (by decide) (hts (.fieldLink RX6 21 "StatementRules2$Opens" "count" "I") k_X6_clear_fieldLink_RX6_21_SR_Opens_count_I) (fun _ h9 => h9) rfl (by decide +kernel) rfl rfl (Nat.le_of_ble_eq_true rfl) dX6_clear_2 (fun H locs hP hD hS => ?_)
  have hP : va_P (dC, dI) vwCl [(h0, .inr (5, [p_rows, p_jumps, .int 0, p_serials, p_jumpCount, p_arm]))] H := hP
  have hD : va_D A [(h0, .inr (5, [p_rows, p_jumps, .int 0, p_serials, p_jumpCount, p_arm]))] := hD
  refine lv_aload_n hx hb dX6_clear_5 rfl (lv_at hl 0 rfl) ?_
  refine lv_iconst (v := 0) hx hb dX6_clear_6 (by decide) ?_
  refine va_put (D := (dC, dI)) (ci := 5) (v := .int 0) (ty := .int) (C := RX6) (T := TX6) (N := 6) hx hb hts i_X6_clear_X6 tyX6 tyX6_ok nmX6 hown hK hP hD hS 0 rfl rfl 3 (by decide) (hts (.fieldLink RX6 25 "StatementRules2$Opens" "serials" "I") k_X6_clear_fieldLink_RX6_25_SR_Opens_serials_I) (fun _ h9 => h9) rfl (by decide +kernel) rfl rfl (Nat.le_of_ble_eq_true rfl) dX6_clear_7 (fun H locs hP hD hS => ?_)
  have hP : va_P (dC, dI) vwCl [(h0, .inr (5, [p_rows, p_jumps, .int 0, .int 0, p_jumpCount, p_arm]))] H := hP
  have hD : va_D A [(h0, .inr (5, [p_rows, p_jumps, .int 0, .int 0, p_jumpCount, p_arm]))] := hD
  refine lv_aload_n hx hb dX6_clear_10 rfl (lv_at hl 0 rfl) ?_
  refine lv_iconst (v := 0) hx hb dX6_clear_11 (by decide) ?_
  refine va_put (D := (dC, dI)) (ci := 5) (v := .int 0) (ty := .int) (C := RX6) (T := TX6) (N := 6) hx hb hts i_X6_clear_X6 tyX6 tyX6_ok nmX6 hown hK hP hD hS 0 rfl rfl 4 (by decide) (hts (.fieldLink RX6 28 "StatementRules2$Opens" "jumpCount" "I") k_X6_clear_fieldLink_RX6_28_SR_Opens_jumpCount_I) (fun _ h9 => h9) rfl (by decide +kernel) rfl rfl (Nat.le_of_ble_eq_true rfl) dX6_clear_12 (fun H locs hP hD hS => ?_)
  have hP : va_P (dC, dI) vwCl [(h0, .inr (5, [p_rows, p_jumps, .int 0, .int 0, .int 0, p_arm]))] H := hP
  have hD : va_D A [(h0, .inr (5, [p_rows, p_jumps, .int 0, .int 0, .int 0, p_arm]))] := hD
  refine lv_aload_n hx hb dX6_clear_15 rfl (lv_at hl 0 rfl) ?_
  refine lv_iconst (v := (-1)) hx hb dX6_clear_16 (by decide) ?_
  refine va_put (D := (dC, dI)) (ci := 5) (v := .int (-1)) (ty := .int) (C := RX6) (T := TX6) (N := 6) hx hb hts i_X6_clear_X6 tyX6 tyX6_ok nmX6 hown hK hP hD hS 0 rfl rfl 5 (by decide) (hts (.fieldLink RX6 31 "StatementRules2$Opens" "arm" "I") k_X6_clear_fieldLink_RX6_31_SR_Opens_arm_I) (fun _ h9 => h9) rfl (by decide +kernel) rfl rfl (Nat.le_of_ble_eq_true rfl) dX6_clear_17 (fun H locs hP hD hS => ?_)
  have hP : va_P (dC, dI) vwCl [(h0, .inr (5, [p_rows, p_jumps, .int 0, .int 0, .int 0, .int (-1)]))] H := hP
  have hD : va_D A [(h0, .inr (5, [p_rows, p_jumps, .int 0, .int 0, .int 0, .int (-1)]))] := hD
  have hP9 := hP.sub (ws' := [(h0, .inr (5, [p_rows, p_jumps, .int 0, .int 0, .int 0, .int (-1)]))]) [0] rfl
  have hD9 := hD.sub (ws' := [(h0, .inr (5, [p_rows, p_jumps, .int 0, .int 0, .int 0, .int (-1)]))]) [0] (by decide) rfl
  have hK9 := hK.sub (tys' := []) [] rfl
  exact W.vret hx hb hr (fun t ht hW => ⟨⟨(), rfl, trivial, by rw [ht]; exact hP9, va_K.moved hW.alike hK9, hD9⟩, hS.F ht⟩) hS.2.2 dX6_clear_20
theorem k_X9_byteAt_fieldLink_RX9_31_SR_Tokens_length_I : Cond.fieldLink RX9 31 "StatementRules2$Tokens" "length" "I" ∈ wzX9_byteAt := List.mem_cons_of_mem _ (List.mem_append_left _ (List.mem_of_getElem? (i := 0) rfl))
theorem i_X9_byteAt_X9 : ∀ w ∈ wsX90, w ∈ wzX9_byteAt := fun _ h => List.mem_cons_of_mem _ (List.mem_append_right _ (List.mem_append_left _ (h)))
set_option maxHeartbeats 4000000 in
set_option maxRecDepth 100000 in
theorem c_X9_byteAt (l : Launch) (dC : Nat → ClassId) (dI : Nat → Nat → Nat) (sz : Nat) (h0 : Nat) (k_tape : Value) (k_words : Value) (k_next : Value) (k_type : Value) (k_place : Value) (k_value : Value) (k_name : Value) : Met l yX9_byteAt wzX9_byteAt ({ frames := 1, cells := 0, slots := 0, locals := 60 }) (va_Pc [.ref h0, .int 0] (zPre dC dI sz [(h0, .inr (8, [k_tape, k_words, .int 0, k_next, k_type, k_place, k_value, k_name]))] [])) (va_Qi (fun (r : Int32) (_ : Unit) => r = -1) (fun (_ : Unit) (t : State) => zPost dC dI (va_A [(h0, .inr (8, [k_tape, k_words, .int 0, k_next, k_type, k_place, k_value, k_name]))] sz) [(h0, .inr (8, [k_tape, k_words, .int 0, k_next, k_type, k_place, k_value, k_name]))] [] t) (va_A [(h0, .inr (8, [k_tape, k_words, .int 0, k_next, k_type, k_place, k_value, k_name]))] sz)) 0 0 (va_A [(h0, .inr (8, [k_tape, k_words, .int 0, k_next, k_type, k_place, k_value, k_name]))] sz) := by
  refine Met.ofW (cc := cX9_byteAt) (maxL := 2) (ret := (some .int)) (by decide) rfl ?_
  intro p e s m args below meth c s₁ B hml hv
  obtain ⟨rfl, hsz, hZ, hP, hK, hD0⟩ := hv
  have hx := B.exec
  have hb := B.bytes
  have hr := B.returns
  have hts := atoms_spec (ws := wzX9_byteAt) B.pre
  have hown : s.vm.findClass RX9 = some m.cls := findClass_of_methodNamed B.named
  have hlocks := B.notSynchronized
  subst hsz
  have hD := hD0.self (sz := s.heap.size)
  generalize hAe : va_A [(h0, .inr (8, [k_tape, k_words, .int 0, k_next, k_type, k_place, k_value, k_name]))] s.heap.size = A at hD ⊢
  have hA : ∀ q : Nat, s.heap.size ≤ q → A q := fun q h => by rw [← hAe]; exact Or.inr h
  have hS : va_S A s.heap s.heap [] := va_S.rf
  have hP : va_P (dC, dI) vwCl [(h0, .inr (8, [k_tape, k_words, .int 0, k_next, k_type, k_place, k_value, k_name]))] s.heap := hP
  have hl := lv_entry ([.ref h0, .int 0]) (n := 2) (Nat.le_of_ble_eq_true rfl)
  rw [lg_entry_eq]
  generalize (lg_sl ([.ref h0, .int 0]) ++ List.replicate (2 - (lg_sl ([.ref h0, .int 0])).length) Slot.unset).toArray = ls at hl ⊢
  have hl : lv_has ls 2 [(0, .ref h0), (1, .int 0)] := hl
  refine lv_iload_n hx hb dX9_byteAt_0 rfl (lv_at hl 1 rfl) ?_
  refine lv_if_lt (tgt := 30) hx hb dX9_byteAt_1 (by decide) (fun c9 => absurd c9 (by decide)) (fun _ => ?_)
  refine lv_iload_n hx hb dX9_byteAt_4 rfl (lv_at hl 1 rfl) ?_
  refine lv_aload_n hx hb dX9_byteAt_5 rfl (lv_at hl 0 rfl) ?_
  refine va_get (D := (dC, dI)) (ci := 8) (v := .int 0) (C := RX9) (T := TX9) (N := 8) hx hb hts i_X9_byteAt_X9 hown hK hP 0 rfl rfl 2 (by decide) (hts (.fieldLink RX9 31 "StatementRules2$Tokens" "length" "I") k_X9_byteAt_fieldLink_RX9_31_SR_Tokens_length_I) (fun _ h9 => h9) rfl dX9_byteAt_6 ?_
  refine lv_icmp_ge (tgt := 30) hx hb dX9_byteAt_9 (by decide) (fun _ => ?_) (fun c9 => absurd (by decide) c9)
  refine lv_iconst (v := (-1)) hx hb dX9_byteAt_30 (by decide) ?_
  have hP9 := hP.sub (ws' := [(h0, .inr (8, [k_tape, k_words, .int 0, k_next, k_type, k_place, k_value, k_name]))]) [0] rfl
  have hD9 := hD.sub (ws' := [(h0, .inr (8, [k_tape, k_words, .int 0, k_next, k_type, k_place, k_value, k_name]))]) [0] (by decide) rfl
  have hK9 := hK.sub (tys' := []) [] rfl
  exact W.iret (v := (-1)) hx hb hr (fun t ht hW => ⟨⟨(-1), (), rfl, rfl, by rw [ht]; exact hP9, va_K.moved hW.alike hK9, hD9⟩, hS.F ht⟩) hS.2.2 dX9_byteAt_31
theorem k_X9_advance_fieldLink_RX9_34_SR_Tokens_next_I : Cond.fieldLink RX9 34 "StatementRules2$Tokens" "next" "I" ∈ wzX9_advance := List.mem_cons_of_mem _ (List.mem_append_left _ (List.mem_of_getElem? (i := 0) rfl))
theorem i_X9_advance_X9 : ∀ w ∈ wsX90, w ∈ wzX9_advance := fun _ h => List.mem_cons_of_mem _ (List.mem_append_right _ (List.mem_append_left _ (h)))
theorem k_X9_advance_fieldLink_RX9_47_SR_Tokens_place_I : Cond.fieldLink RX9 47 "StatementRules2$Tokens" "place" "I" ∈ wzX9_advance := List.mem_cons_of_mem _ (List.mem_append_left _ (List.mem_of_getElem? (i := 1) rfl))
theorem k_X9_advance_fieldLink_RX9_31_SR_Tokens_length_I : Cond.fieldLink RX9 31 "StatementRules2$Tokens" "length" "I" ∈ wzX9_advance := List.mem_cons_of_mem _ (List.mem_append_left _ (List.mem_of_getElem? (i := 2) rfl))
theorem k_X9_advance_fieldLink_RX9_40_SR_Tokens_type_I : Cond.fieldLink RX9 40 "StatementRules2$Tokens" "type" "I" ∈ wzX9_advance := List.mem_cons_of_mem _ (List.mem_append_left _ (List.mem_of_getElem? (i := 3) rfl))
set_option maxHeartbeats 4000000 in
set_option maxRecDepth 100000 in
theorem c_X9_advance (l : Launch) (dC : Nat → ClassId) (dI : Nat → Nat → Nat) (sz : Nat) (h0 : Nat) (k_tape : Value) (k_words : Value) (k_type : Value) (k_place : Value) (k_value : Value) (k_name : Value) : Met l yX9_advance wzX9_advance ({ frames := 2, cells := 0, slots := 0, locals := 120 }) (va_Pc [.ref h0] (zPre dC dI sz [(h0, .inr (8, [k_tape, k_words, .int 0, .int 0, k_type, k_place, k_value, k_name]))] [])) (va_Qv (fun (_ : Unit) => True) (fun (_ : Unit) (t : State) => zPost dC dI (va_A [(h0, .inr (8, [k_tape, k_words, .int 0, .int 0, k_type, k_place, k_value, k_name]))] sz) [(h0, .inr (8, [k_tape, k_words, .int 0, .int 0, .int 0, .int 0, k_value, k_name]))] [] t) (va_A [(h0, .inr (8, [k_tape, k_words, .int 0, .int 0, k_type, k_place, k_value, k_name]))] sz)) 0 0 (va_A [(h0, .inr (8, [k_tape, k_words, .int 0, .int 0, k_type, k_place, k_value, k_name]))] sz) := by
  refine Met.ofW (cc := cX9_advance) (maxL := 2) (ret := none) (by decide) rfl ?_
  intro p e s m args below meth c s₁ B hml hv
  obtain ⟨rfl, hsz, hZ, hP, hK, hD0⟩ := hv
  have hx := B.exec
  have hb := B.bytes
  have hr := B.returns
  have hts := atoms_spec (ws := wzX9_advance) B.pre
  have hown : s.vm.findClass RX9 = some m.cls := findClass_of_methodNamed B.named
  have hlocks := B.notSynchronized
  subst hsz
  have hD := hD0.self (sz := s.heap.size)
  generalize hAe : va_A [(h0, .inr (8, [k_tape, k_words, .int 0, .int 0, k_type, k_place, k_value, k_name]))] s.heap.size = A at hD ⊢
  have hA : ∀ q : Nat, s.heap.size ≤ q → A q := fun q h => by rw [← hAe]; exact Or.inr h
  have hS : va_S A s.heap s.heap [] := va_S.rf
  have hP : va_P (dC, dI) vwCl [(h0, .inr (8, [k_tape, k_words, .int 0, .int 0, k_type, k_place, k_value, k_name]))] s.heap := hP
  have hl := lv_entry ([.ref h0]) (n := 2) (Nat.le_of_ble_eq_true rfl)
  rw [lg_entry_eq]
  generalize (lg_sl ([.ref h0]) ++ List.replicate (2 - (lg_sl ([.ref h0])).length) Slot.unset).toArray = ls at hl ⊢
  have hl : lv_has ls 2 [(0, .ref h0)] := hl
  refine lv_iconst (v := 0) hx hb dX9_advance_0 (by decide) ?_
  refine lv_istore_n (lv' := [(1, .int 0), (0, .ref h0)]) hx hb dX9_advance_1 rfl hl (by decide) rfl (fun ls hl => ?_)
  refine lv_iload_n hx hb dX9_advance_2 rfl (lv_at hl 0 rfl) ?_
  refine lv_sipush (v := 900) hx hb dX9_advance_3 (by decide) ?_
  refine lv_icmp_ge (tgt := 51) hx hb dX9_advance_6 (by decide) (fun c9 => absurd c9 (by decide)) (fun _ => ?_)
  refine lv_aload_n hx hb dX9_advance_9 rfl (lv_at hl 1 rfl) ?_
  refine lv_aload_n hx hb dX9_advance_10 rfl (lv_at hl 1 rfl) ?_
  refine va_get (D := (dC, dI)) (ci := 8) (v := .int 0) (C := RX9) (T := TX9) (N := 8) hx hb hts i_X9_advance_X9 hown hK hP 0 rfl rfl 3 (by decide) (hts (.fieldLink RX9 34 "StatementRules2$Tokens" "next" "I") k_X9_advance_fieldLink_RX9_34_SR_Tokens_next_I) (fun _ h9 => h9) rfl dX9_advance_11 ?_
  have hPc := hP.sub (ws' := [(h0, .inr (8, [k_tape, k_words, .int 0, .int 0, k_type, k_place, k_value, k_name]))]) [0] rfl
  have hDc := hD.sub (ws' := [(h0, .inr (8, [k_tape, k_words, .int 0, .int 0, k_type, k_place, k_value, k_name]))]) [0] (by decide) rfl
  have hKc := hK.sub (tys' := []) [] rfl
  have hFc := va_free (wc := [(h0, .inr (8, [k_tape, k_words, .int 0, .int 0, k_type, k_place, k_value, k_name]))]) hD hS hA [0] rfl
  refine va_calli (va_runV (As := [.int 0]) (rest := []) ⟨hx, hb, hml, hown, hts⟩ (c_X9_byteAt l dC dI _ h0 k_tape k_words (.int 0) k_type k_place k_value k_name) (cwV 1 hts hX9_advance_X9_byteAt_v43 rfl rfl rfl (by decide +kernel) ⟨Nat.le_of_ble_eq_true rfl, Nat.le_of_ble_eq_true rfl⟩) ⟨zPre.blind, va_recv hKc hPc (ci := 8) (q0 := 0) rfl rfl, zPre.go hZ hPc hKc hDc⟩ rfl rfl hl.1 rfl (lv_room (Nat.le_of_ble_eq_true rfl)) dX9_advance_14 ⟨Nat.le_of_ble_eq_true rfl, Nat.le_of_ble_eq_true rfl⟩) hS (fun q _ h => hFc q h) hFc (fun r1 u9 t9 H1 locs ht hvm hw hB hz1 hk1 hS => ?_)
  obtain ⟨hP1, hK1, hD1⟩ := hB
  rw [ht] at hP1
  have hK1 := va_K.moved hvm.symm hK1
  obtain ⟨hP, hD⟩ := va_join (wr := []) (w1 := [(h0, .inr (8, [k_tape, k_words, .int 0, .int 0, k_type, k_place, k_value, k_name]))]) hP hD [0] [] rfl rfl (by decide) (by decide) hk1 hFc hP1 hD1
  have hK := hK.app hK1
  generalize H1 = H at hP hS ⊢
  have hP : va_P (dC, dI) vwCl [(h0, .inr (8, [k_tape, k_words, .int 0, .int 0, k_type, k_place, k_value, k_name]))] H := hP
  have hD : va_D A [(h0, .inr (8, [k_tape, k_words, .int 0, .int 0, k_type, k_place, k_value, k_name]))] := hD
  have hK : va_K (dC, dI) vwCl [] s := hK
  obtain rfl : r1 = (-1) := hw
  refine lv_bipush (v := 32) hx hb dX9_advance_17 (by decide) ?_
  refine lv_icmp_eq (tgt := 35) hx hb dX9_advance_19 (by decide) (fun c9 => absurd c9 (by decide)) (fun _ => ?_)
  refine lv_aload_n hx hb dX9_advance_22 rfl (lv_at hl 1 rfl) ?_
  refine lv_aload_n hx hb dX9_advance_23 rfl (lv_at hl 1 rfl) ?_
  refine va_get (D := (dC, dI)) (ci := 8) (v := .int 0) (C := RX9) (T := TX9) (N := 8) hx hb hts i_X9_advance_X9 hown hK hP 0 rfl rfl 3 (by decide) (hts (.fieldLink RX9 34 "StatementRules2$Tokens" "next" "I") k_X9_advance_fieldLink_RX9_34_SR_Tokens_next_I) (fun _ h9 => h9) rfl dX9_advance_24 ?_
  have hPc := hP.sub (ws' := [(h0, .inr (8, [k_tape, k_words, .int 0, .int 0, k_type, k_place, k_value, k_name]))]) [0] rfl
  have hDc := hD.sub (ws' := [(h0, .inr (8, [k_tape, k_words, .int 0, .int 0, k_type, k_place, k_value, k_name]))]) [0] (by decide) rfl
  have hKc := hK.sub (tys' := []) [] rfl
  have hFc := va_free (wc := [(h0, .inr (8, [k_tape, k_words, .int 0, .int 0, k_type, k_place, k_value, k_name]))]) hD hS hA [0] rfl
  refine va_calli (va_runV (As := [.int 0]) (rest := []) ⟨hx, hb, hml, hown, hts⟩ (c_X9_byteAt l dC dI _ h0 k_tape k_words (.int 0) k_type k_place k_value k_name) (cwV 1 hts hX9_advance_X9_byteAt_v43 rfl rfl rfl (by decide +kernel) ⟨Nat.le_of_ble_eq_true rfl, Nat.le_of_ble_eq_true rfl⟩) ⟨zPre.blind, va_recv hKc hPc (ci := 8) (q0 := 0) rfl rfl, zPre.go hZ hPc hKc hDc⟩ rfl rfl hl.1 rfl (lv_room (Nat.le_of_ble_eq_true rfl)) dX9_advance_27 ⟨Nat.le_of_ble_eq_true rfl, Nat.le_of_ble_eq_true rfl⟩) hS (fun q _ h => hFc q h) hFc (fun r2 u9 t9 H1 locs ht hvm hw hB hz1 hk1 hS => ?_)
  obtain ⟨hP1, hK1, hD1⟩ := hB
  rw [ht] at hP1
  have hK1 := va_K.moved hvm.symm hK1
  obtain ⟨hP, hD⟩ := va_join (wr := []) (w1 := [(h0, .inr (8, [k_tape, k_words, .int 0, .int 0, k_type, k_place, k_value, k_name]))]) hP hD [0] [] rfl rfl (by decide) (by decide) hk1 hFc hP1 hD1
  have hK := hK.app hK1
  generalize H1 = H at hP hS ⊢
  have hP : va_P (dC, dI) vwCl [(h0, .inr (8, [k_tape, k_words, .int 0, .int 0, k_type, k_place, k_value, k_name]))] H := hP
  have hD : va_D A [(h0, .inr (8, [k_tape, k_words, .int 0, .int 0, k_type, k_place, k_value, k_name]))] := hD
  have hK : va_K (dC, dI) vwCl [] s := hK
  obtain rfl : r2 = (-1) := hw
  refine lv_bipush (v := 10) hx hb dX9_advance_30 (by decide) ?_
  refine lv_icmp_ne (tgt := 51) hx hb dX9_advance_32 (by decide) (fun _ => ?_) (fun c9 => absurd c9 (by decide))
  refine lv_aload_n hx hb dX9_advance_51 rfl (lv_at hl 1 rfl) ?_
  refine lv_aload_n hx hb dX9_advance_52 rfl (lv_at hl 1 rfl) ?_
  refine va_get (D := (dC, dI)) (ci := 8) (v := .int 0) (C := RX9) (T := TX9) (N := 8) hx hb hts i_X9_advance_X9 hown hK hP 0 rfl rfl 3 (by decide) (hts (.fieldLink RX9 34 "StatementRules2$Tokens" "next" "I") k_X9_advance_fieldLink_RX9_34_SR_Tokens_next_I) (fun _ h9 => h9) rfl dX9_advance_53 ?_
  refine va_put (D := (dC, dI)) (ci := 8) (v := .int 0) (ty := .int) (C := RX9) (T := TX9) (N := 8) hx hb hts i_X9_advance_X9 tyX9 tyX9_ok nmX9 hown hK hP hD hS 0 rfl rfl 5 (by decide) (hts (.fieldLink RX9 47 "StatementRules2$Tokens" "place" "I") k_X9_advance_fieldLink_RX9_47_SR_Tokens_place_I) (fun _ h9 => h9) rfl (by decide +kernel) rfl rfl (Nat.le_of_ble_eq_true rfl) dX9_advance_56 (fun H locs hP hD hS => ?_)
  have hP : va_P (dC, dI) vwCl [(h0, .inr (8, [k_tape, k_words, .int 0, .int 0, k_type, .int 0, k_value, k_name]))] H := hP
  have hD : va_D A [(h0, .inr (8, [k_tape, k_words, .int 0, .int 0, k_type, .int 0, k_value, k_name]))] := hD
  refine lv_aload_n hx hb dX9_advance_59 rfl (lv_at hl 1 rfl) ?_
  refine va_get (D := (dC, dI)) (ci := 8) (v := .int 0) (C := RX9) (T := TX9) (N := 8) hx hb hts i_X9_advance_X9 hown hK hP 0 rfl rfl 3 (by decide) (hts (.fieldLink RX9 34 "StatementRules2$Tokens" "next" "I") k_X9_advance_fieldLink_RX9_34_SR_Tokens_next_I) (fun _ h9 => h9) rfl dX9_advance_60 ?_
  refine lv_aload_n hx hb dX9_advance_63 rfl (lv_at hl 1 rfl) ?_
  refine va_get (D := (dC, dI)) (ci := 8) (v := .int 0) (C := RX9) (T := TX9) (N := 8) hx hb hts i_X9_advance_X9 hown hK hP 0 rfl rfl 2 (by decide) (hts (.fieldLink RX9 31 "StatementRules2$Tokens" "length" "I") k_X9_advance_fieldLink_RX9_31_SR_Tokens_length_I) (fun _ h9 => h9) rfl dX9_advance_64 ?_
  refine lv_icmp_lt (tgt := 78) hx hb dX9_advance_67 (by decide) (fun c9 => absurd c9 (by decide)) (fun _ => ?_)
  refine lv_aload_n hx hb dX9_advance_70 rfl (lv_at hl 1 rfl) ?_
  refine lv_iconst (v := 0) hx hb dX9_advance_71 (by decide) ?_
  refine va_put (D := (dC, dI)) (ci := 8) (v := .int 0) (ty := .int) (C := RX9) (T := TX9) (N := 8) hx hb hts i_X9_advance_X9 tyX9 tyX9_ok nmX9 hown hK hP hD hS 0 rfl rfl 4 (by decide) (hts (.fieldLink RX9 40 "StatementRules2$Tokens" "type" "I") k_X9_advance_fieldLink_RX9_40_SR_Tokens_type_I) (fun _ h9 => h9) rfl (by decide +kernel) rfl rfl (Nat.le_of_ble_eq_true rfl) dX9_advance_72 (fun H locs hP hD hS => ?_)
  have hP : va_P (dC, dI) vwCl [(h0, .inr (8, [k_tape, k_words, .int 0, .int 0, .int 0, .int 0, k_value, k_name]))] H := hP
  have hD : va_D A [(h0, .inr (8, [k_tape, k_words, .int 0, .int 0, .int 0, .int 0, k_value, k_name]))] := hD
  refine lv_goto (tgt := 124) hx hb dX9_advance_75 (by decide) ?_
  have hP9 := hP.sub (ws' := [(h0, .inr (8, [k_tape, k_words, .int 0, .int 0, .int 0, .int 0, k_value, k_name]))]) [0] rfl
  have hD9 := hD.sub (ws' := [(h0, .inr (8, [k_tape, k_words, .int 0, .int 0, .int 0, .int 0, k_value, k_name]))]) [0] (by decide) rfl
  have hK9 := hK.sub (tys' := []) [] rfl
  exact W.vret hx hb hr (fun t ht hW => ⟨⟨(), rfl, trivial, by rw [ht]; exact hP9, va_K.moved hW.alike hK9, hD9⟩, hS.F ht⟩) hS.2.2 dX9_advance_124
theorem k_X9_start_fieldLink_RX9_31_SR_Tokens_length_I : Cond.fieldLink RX9 31 "StatementRules2$Tokens" "length" "I" ∈ wzX9_start := List.mem_cons_of_mem _ (List.mem_append_left _ (List.mem_of_getElem? (i := 0) rfl))
theorem i_X9_start_X9 : ∀ w ∈ wsX90, w ∈ wzX9_start := fun _ h => List.mem_cons_of_mem _ (List.mem_append_right _ (List.mem_append_left _ (h)))
theorem k_X9_start_fieldLink_RX9_34_SR_Tokens_next_I : Cond.fieldLink RX9 34 "StatementRules2$Tokens" "next" "I" ∈ wzX9_start := List.mem_cons_of_mem _ (List.mem_append_left _ (List.mem_of_getElem? (i := 1) rfl))
set_option maxHeartbeats 4000000 in
set_option maxRecDepth 100000 in
theorem c_X9_start (l : Launch) (dC : Nat → ClassId) (dI : Nat → Nat → Nat) (sz : Nat) (h0 : Nat) (k_tape : Value) (k_words : Value) (k_length : Value) (k_next : Value) (k_type : Value) (k_place : Value) (k_value : Value) (k_name : Value) : Met l yX9_start wzX9_start ({ frames := 3, cells := 0, slots := 0, locals := 180 }) (va_Pc [.ref h0, .int 0] (zPre dC dI sz [(h0, .inr (8, [k_tape, k_words, k_length, k_next, k_type, k_place, k_value, k_name]))] [])) (va_Qv (fun (_ : Unit) => True) (fun (_ : Unit) (t : State) => zPost dC dI (va_A [(h0, .inr (8, [k_tape, k_words, k_length, k_next, k_type, k_place, k_value, k_name]))] sz) [(h0, .inr (8, [k_tape, k_words, .int 0, .int 0, .int 0, .int 0, k_value, k_name]))] [] t) (va_A [(h0, .inr (8, [k_tape, k_words, k_length, k_next, k_type, k_place, k_value, k_name]))] sz)) 0 0 (va_A [(h0, .inr (8, [k_tape, k_words, k_length, k_next, k_type, k_place, k_value, k_name]))] sz) := by
  refine Met.ofW (cc := cX9_start) (maxL := 2) (ret := none) (by decide) rfl ?_
  intro p e s m args below meth c s₁ B hml hv
  obtain ⟨rfl, hsz, hZ, hP, hK, hD0⟩ := hv
  have hx := B.exec
  have hb := B.bytes
  have hr := B.returns
  have hts := atoms_spec (ws := wzX9_start) B.pre
  have hown : s.vm.findClass RX9 = some m.cls := findClass_of_methodNamed B.named
  have hlocks := B.notSynchronized
  subst hsz
  have hD := hD0.self (sz := s.heap.size)
  generalize hAe : va_A [(h0, .inr (8, [k_tape, k_words, k_length, k_next, k_type, k_place, k_value, k_name]))] s.heap.size = A at hD ⊢
  have hA : ∀ q : Nat, s.heap.size ≤ q → A q := fun q h => by rw [← hAe]; exact Or.inr h
  have hS : va_S A s.heap s.heap [] := va_S.rf
  have hP : va_P (dC, dI) vwCl [(h0, .inr (8, [k_tape, k_words, k_length, k_next, k_type, k_place, k_value, k_name]))] s.heap := hP
  have hl := lv_entry ([.ref h0, .int 0]) (n := 2) (Nat.le_of_ble_eq_true rfl)
  rw [lg_entry_eq]
  generalize (lg_sl ([.ref h0, .int 0]) ++ List.replicate (2 - (lg_sl ([.ref h0, .int 0])).length) Slot.unset).toArray = ls at hl ⊢
  have hl : lv_has ls 2 [(0, .ref h0), (1, .int 0)] := hl
  refine lv_aload_n hx hb dX9_start_0 rfl (lv_at hl 0 rfl) ?_
  refine lv_iload_n hx hb dX9_start_1 rfl (lv_at hl 1 rfl) ?_
  refine va_put (D := (dC, dI)) (ci := 8) (v := .int 0) (ty := .int) (C := RX9) (T := TX9) (N := 8) hx hb hts i_X9_start_X9 tyX9 tyX9_ok nmX9 hown hK hP hD hS 0 rfl rfl 2 (by decide) (hts (.fieldLink RX9 31 "StatementRules2$Tokens" "length" "I") k_X9_start_fieldLink_RX9_31_SR_Tokens_length_I) (fun _ h9 => h9) rfl (by decide +kernel) rfl rfl (Nat.le_of_ble_eq_true rfl) dX9_start_2 (fun H locs hP hD hS => ?_)
  have hP : va_P (dC, dI) vwCl [(h0, .inr (8, [k_tape, k_words, .int 0, k_next, k_type, k_place, k_value, k_name]))] H := hP
  have hD : va_D A [(h0, .inr (8, [k_tape, k_words, .int 0, k_next, k_type, k_place, k_value, k_name]))] := hD
  refine lv_aload_n hx hb dX9_start_5 rfl (lv_at hl 0 rfl) ?_
  refine lv_iconst (v := 0) hx hb dX9_start_6 (by decide) ?_
  refine va_put (D := (dC, dI)) (ci := 8) (v := .int 0) (ty := .int) (C := RX9) (T := TX9) (N := 8) hx hb hts i_X9_start_X9 tyX9 tyX9_ok nmX9 hown hK hP hD hS 0 rfl rfl 3 (by decide) (hts (.fieldLink RX9 34 "StatementRules2$Tokens" "next" "I") k_X9_start_fieldLink_RX9_34_SR_Tokens_next_I) (fun _ h9 => h9) rfl (by decide +kernel) rfl rfl (Nat.le_of_ble_eq_true rfl) dX9_start_7 (fun H locs hP hD hS => ?_)
  have hP : va_P (dC, dI) vwCl [(h0, .inr (8, [k_tape, k_words, .int 0, .int 0, k_type, k_place, k_value, k_name]))] H := hP
  have hD : va_D A [(h0, .inr (8, [k_tape, k_words, .int 0, .int 0, k_type, k_place, k_value, k_name]))] := hD
  refine lv_aload_n hx hb dX9_start_10 rfl (lv_at hl 0 rfl) ?_
  have hPc := hP.sub (ws' := [(h0, .inr (8, [k_tape, k_words, .int 0, .int 0, k_type, k_place, k_value, k_name]))]) [0] rfl
  have hDc := hD.sub (ws' := [(h0, .inr (8, [k_tape, k_words, .int 0, .int 0, k_type, k_place, k_value, k_name]))]) [0] (by decide) rfl
  have hKc := hK.sub (tys' := []) [] rfl
  have hFc := va_free (wc := [(h0, .inr (8, [k_tape, k_words, .int 0, .int 0, k_type, k_place, k_value, k_name]))]) hD hS hA [0] rfl
  refine va_callv (va_runV (As := []) (rest := []) ⟨hx, hb, hml, hown, hts⟩ (c_X9_advance l dC dI _ h0 k_tape k_words k_type k_place k_value k_name) (cwV 0 hts hX9_start_X9_advance_v37 rfl rfl rfl (by decide +kernel) ⟨Nat.le_of_ble_eq_true rfl, Nat.le_of_ble_eq_true rfl⟩) ⟨zPre.blind, va_recv hKc hPc (ci := 8) (q0 := 0) rfl rfl, zPre.go hZ hPc hKc hDc⟩ rfl rfl hl.1 rfl (lv_room (Nat.le_of_ble_eq_true rfl)) dX9_start_11 ⟨Nat.le_of_ble_eq_true rfl, Nat.le_of_ble_eq_true rfl⟩) hS (fun q _ h => hFc q h) hFc (fun u9 t9 H1 locs ht hvm hw hB hz1 hk1 hS => ?_)
  obtain ⟨hP1, hK1, hD1⟩ := hB
  rw [ht] at hP1
  have hK1 := va_K.moved hvm.symm hK1
  obtain ⟨hP, hD⟩ := va_join (wr := []) (w1 := [(h0, .inr (8, [k_tape, k_words, .int 0, .int 0, .int 0, .int 0, k_value, k_name]))]) hP hD [0] [] rfl rfl (by decide) (by decide) hk1 hFc hP1 hD1
  have hK := hK.app hK1
  generalize H1 = H at hP hS ⊢
  have hP : va_P (dC, dI) vwCl [(h0, .inr (8, [k_tape, k_words, .int 0, .int 0, .int 0, .int 0, k_value, k_name]))] H := hP
  have hD : va_D A [(h0, .inr (8, [k_tape, k_words, .int 0, .int 0, .int 0, .int 0, k_value, k_name]))] := hD
  have hK : va_K (dC, dI) vwCl [] s := hK
  have hP9 := hP.sub (ws' := [(h0, .inr (8, [k_tape, k_words, .int 0, .int 0, .int 0, .int 0, k_value, k_name]))]) [0] rfl
  have hD9 := hD.sub (ws' := [(h0, .inr (8, [k_tape, k_words, .int 0, .int 0, .int 0, .int 0, k_value, k_name]))]) [0] (by decide) rfl
  have hK9 := hK.sub (tys' := []) [] rfl
  exact W.vret hx hb hr (fun t ht hW => ⟨⟨(), rfl, trivial, by rw [ht]; exact hP9, va_K.moved hW.alike hK9, hD9⟩, hS.F ht⟩) hS.2.2 dX9_start_14
theorem k_X5_init_methodLink_RX5_3_objectInit : Cond.methodLink RX5 3 objectInit ∈ wzX5_init := List.mem_cons_of_mem _ (List.mem_append_left _ (List.mem_of_getElem? (i := 0) rfl))
theorem k_X5_init_instanceMethod_objectInit : Cond.instanceMethod objectInit ∈ wzX5_init := List.mem_cons_of_mem _ (List.mem_append_left _ (List.mem_of_getElem? (i := 1) rfl))
theorem k_X5_init_code_objectInit_0xb1_1_none : Cond.code objectInit ⟨#[0xb1]⟩ 1 none ∈ wzX5_init := List.mem_cons_of_mem _ (List.mem_append_left _ (List.mem_of_getElem? (i := 2) rfl))
set_option maxHeartbeats 4000000 in
set_option maxRecDepth 100000 in
theorem c_X5_init (l : Launch) (dC : Nat → ClassId) (dI : Nat → Nat → Nat) (sz : Nat) (h0 : Nat) (b_sort : Value) (b_serial : Value) (b_depth : Value) (b_namesBefore : Value) (b_label : Value) (b_begun : Value) (b_ends : Value) (b_never : Value) (b_whole : Value) (b_exit : Value) (b_next : Value) (b_other : Value) (b_caught : Value) (b_firstCase : Value) (b_firstJump : Value) (b_finallyJump : Value) (b_outerArm : Value) : Met l yX5_init wzX5_init ({ frames := 1, cells := 0, slots := 0, locals := 60 }) (va_Pc [.ref h0] (zPre dC dI sz [(h0, .inr (4, [b_sort, b_serial, b_depth, b_namesBefore, b_label, b_begun, b_ends, b_never, b_whole, b_exit, b_next, b_other, b_caught, b_firstCase, b_firstJump, b_finallyJump, b_outerArm]))] [])) (va_Qv (fun (_ : Unit) => True) (fun (_ : Unit) (t : State) => zPost dC dI (va_A [(h0, .inr (4, [b_sort, b_serial, b_depth, b_namesBefore, b_label, b_begun, b_ends, b_never, b_whole, b_exit, b_next, b_other, b_caught, b_firstCase, b_firstJump, b_finallyJump, b_outerArm]))] sz) [(h0, .inr (4, [b_sort, b_serial, b_depth, b_namesBefore, b_label, b_begun, b_ends, b_never, b_whole, b_exit, b_next, b_other, b_caught, b_firstCase, b_firstJump, b_finallyJump, b_outerArm]))] [] t) (va_A [(h0, .inr (4, [b_sort, b_serial, b_depth, b_namesBefore, b_label, b_begun, b_ends, b_never, b_whole, b_exit, b_next, b_other, b_caught, b_firstCase, b_firstJump, b_finallyJump, b_outerArm]))] sz)) 0 0 (va_A [(h0, .inr (4, [b_sort, b_serial, b_depth, b_namesBefore, b_label, b_begun, b_ends, b_never, b_whole, b_exit, b_next, b_other, b_caught, b_firstCase, b_firstJump, b_finallyJump, b_outerArm]))] sz) := by
  refine Met.ofW (cc := cX5_init) (maxL := 1) (ret := none) (by decide) rfl ?_
  intro p e s m args below meth c s₁ B hml hv
  obtain ⟨rfl, hsz, hZ, hP, hK, hD0⟩ := hv
  have hx := B.exec
  have hb := B.bytes
  have hr := B.returns
  have hts := atoms_spec (ws := wzX5_init) B.pre
  have hown : s.vm.findClass RX5 = some m.cls := findClass_of_methodNamed B.named
  have hlocks := B.notSynchronized
  have hin : meth.name = "<init>" := (name_of_methodNamed B.named B.method).1
  subst hsz
  have hD := hD0.self (sz := s.heap.size)
  generalize hAe : va_A [(h0, .inr (4, [b_sort, b_serial, b_depth, b_namesBefore, b_label, b_begun, b_ends, b_never, b_whole, b_exit, b_next, b_other, b_caught, b_firstCase, b_firstJump, b_finallyJump, b_outerArm]))] s.heap.size = A at hD ⊢
  have hA : ∀ q : Nat, s.heap.size ≤ q → A q := fun q h => by rw [← hAe]; exact Or.inr h
  have hS : va_S A s.heap s.heap [] := va_S.rf
  have hP : va_P (dC, dI) vwCl [(h0, .inr (4, [b_sort, b_serial, b_depth, b_namesBefore, b_label, b_begun, b_ends, b_never, b_whole, b_exit, b_next, b_other, b_caught, b_firstCase, b_firstJump, b_finallyJump, b_outerArm]))] s.heap := hP
  have hl := lv_entry ([.ref h0]) (n := 1) (Nat.le_of_ble_eq_true rfl)
  rw [lg_entry_eq]
  generalize (lg_sl ([.ref h0]) ++ List.replicate (1 - (lg_sl ([.ref h0])).length) Slot.unset).toArray = ls at hl ⊢
  have hl : lv_has ls 1 [(0, .ref h0)] := hl
  refine lv_aload_n hx hb dX5_init_0 rfl (lv_at hl 0 rfl) ?_
  refine W.objInit hx hb hown (hts (.methodLink RX5 3 objectInit) k_X5_init_methodLink_RX5_3_objectInit) (hts (.instanceMethod objectInit) k_X5_init_instanceMethod_objectInit) (hts (.code objectInit ⟨#[0xb1]⟩ 1 none) k_X5_init_code_objectInit_0xb1_1_none) rfl (by rw [hml]; exact hl.1) rfl dX5_init_1 (Nat.le_of_ble_eq_true rfl) (Nat.le_of_ble_eq_true rfl) ?_
  refine W.eq (g2 := F0 m 4 ls []) rfl ?_
  have hP9 := hP.sub (ws' := [(h0, .inr (4, [b_sort, b_serial, b_depth, b_namesBefore, b_label, b_begun, b_ends, b_never, b_whole, b_exit, b_next, b_other, b_caught, b_firstCase, b_firstJump, b_finallyJump, b_outerArm]))]) [0] rfl
  have hD9 := hD.sub (ws' := [(h0, .inr (4, [b_sort, b_serial, b_depth, b_namesBefore, b_label, b_begun, b_ends, b_never, b_whole, b_exit, b_next, b_other, b_caught, b_firstCase, b_firstJump, b_finallyJump, b_outerArm]))]) [0] (by decide) rfl
  have hK9 := hK.sub (tys' := []) [] rfl
  exact W.vret hx hb hr (fun t ht hW => ⟨⟨(), rfl, trivial, by rw [ht]; exact hP9, va_K.moved hW.alike hK9, hD9⟩, hS.F ht⟩) hS.2.2 dX5_init_4
theorem k_X6_push_fieldLink_RX6_21_SR_Opens_count_I : Cond.fieldLink RX6 21 "StatementRules2$Opens" "count" "I" ∈ wzX6_push := List.mem_cons_of_mem _ (List.mem_append_left _ (List.mem_of_getElem? (i := 0) rfl))
theorem i_X6_push_X6 : ∀ w ∈ wsX60, w ∈ wzX6_push := fun _ h => List.mem_cons_of_mem _ (List.mem_append_right _ (List.mem_append_left _ (h)))
theorem k_X6_push_fieldLink_RX6_11_SR_Opens_rows_LSR_Open : Cond.fieldLink RX6 11 "StatementRules2$Opens" "rows" "[LStatementRules2$Open;" ∈ wzX6_push := List.mem_cons_of_mem _ (List.mem_append_left _ (List.mem_of_getElem? (i := 1) rfl))
theorem k_X6_push_methodLink_RX6_34_yJ9_min_7cf53 : Cond.methodLink RX6 34 yJ9_min_7cf53 ∈ wzX6_push := List.mem_cons_of_mem _ (List.mem_append_left _ (List.mem_of_getElem? (i := 2) rfl))
theorem k_X6_push_static_yJ9_min_7cf53 : Cond.static yJ9_min_7cf53 ∈ wzX6_push := List.mem_cons_of_mem _ (List.mem_append_left _ (List.mem_of_getElem? (i := 3) rfl))
theorem k_X6_push_initialized_RJ9 : Cond.initialized RJ9 ∈ wzX6_push := List.mem_cons_of_mem _ (List.mem_append_left _ (List.mem_of_getElem? (i := 4) rfl))
theorem k_X6_push_code_yJ9_min_7cf53_cJ9_min_7cf53_2_some_int : Cond.code yJ9_min_7cf53 cJ9_min_7cf53 2 (some .int) ∈ wzX6_push := List.mem_cons_of_mem _ (List.mem_append_left _ (List.mem_of_getElem? (i := 5) rfl))
theorem df_X5 : ∀ j, j < 17 → defaultValue (tyX5 j) = vp_V [.int 0, .int 0, .int 0, .int 0, .long 0, .int 0, .int 0, .int 0, .int 0, .int 0, .int 0, .int 0, .int 0, .int 0, .int 0, .int 0, .int 0] j := by decide +kernel
theorem i_X6_push_X5 : ∀ w ∈ wsX50, w ∈ wzX6_push := fun _ h => List.mem_cons_of_mem _ (List.mem_append_right _ (List.mem_append_right _ (List.mem_append_left _ (h))))
theorem k_X6_push_classLink_RX6_9_RX5 : Cond.classLink RX6 9 RX5 ∈ wzX6_push := List.mem_cons_of_mem _ (List.mem_append_left _ (List.mem_of_getElem? (i := 6) rfl))
theorem k_X6_push_instantiable_RX5_17 : Cond.instantiable RX5 17 ∈ wzX6_push := List.mem_cons_of_mem _ (List.mem_append_left _ (List.mem_of_getElem? (i := 7) rfl))
theorem k_X6_push_initialized_RX5 : Cond.initialized RX5 ∈ wzX6_push := List.mem_cons_of_mem _ (List.mem_append_left _ (List.mem_of_getElem? (i := 8) rfl))
theorem k_X6_push_instanceMethod_yX5_init : Cond.instanceMethod yX5_init ∈ wzX6_push := List.mem_cons_of_mem _ (List.mem_append_left _ (List.mem_of_getElem? (i := 9) rfl))
theorem k_X6_push_fieldLink_RX6_25_SR_Opens_serials_I : Cond.fieldLink RX6 25 "StatementRules2$Opens" "serials" "I" ∈ wzX6_push := List.mem_cons_of_mem _ (List.mem_append_left _ (List.mem_of_getElem? (i := 10) rfl))
theorem k_X6_push_fieldLink_RX6_28_SR_Opens_jumpCount_I : Cond.fieldLink RX6 28 "StatementRules2$Opens" "jumpCount" "I" ∈ wzX6_push := List.mem_cons_of_mem _ (List.mem_append_left _ (List.mem_of_getElem? (i := 11) rfl))
set_option maxHeartbeats 4000000 in
set_option maxRecDepth 100000 in
theorem c_X6_push (l : Launch) (dC : Nat → ClassId) (dI : Nat → Nat → Nat) (sz : Nat) (h0 : Nat) (qr : Nat) (kr : ClassId) (p_jumps : Value) (p_arm : Value) : Met l yX6_push wzX6_push ({ frames := 2, cells := 1, slots := 17, locals := 120 }) (va_Pc [.ref h0, .int 300, .int 0, .int 2] (zPre dC dI sz [(h0, .inr (5, [.ref qr, p_jumps, .int 0, .int 0, .int 0, p_arm])), (qr, .inl (kr, 400, .inr (.inr (.inr (.inr (fun _ => none))))))] [(kr, .object "StatementRules2$Open")])) (va_Qr (fun (_ : Unit) => True) (fun (_ : Unit) (ra : Nat) (t : State) => zPost dC dI (va_A [(h0, .inr (5, [.ref qr, p_jumps, .int 0, .int 0, .int 0, p_arm])), (qr, .inl (kr, 400, .inr (.inr (.inr (.inr (fun _ => none))))))] sz) [(h0, .inr (5, [.ref qr, p_jumps, .int 1, .int 1, .int 0, p_arm])), (qr, .inl (kr, 400, .inr (.inr (.inr (.inr (va_up (fun _ => none) 0 (some ra))))))), (ra, .inr (4, [.int 300, .int 1, .int 0, .int 2, .long 0, .int 0, .int 0, .int 0, .int 0, .int (-1), .int (-1), .int (-1), .int 0, .int 0, .int 0, .int 0, .int 0]))] [(kr, .object "StatementRules2$Open")] t) (va_A [(h0, .inr (5, [.ref qr, p_jumps, .int 0, .int 0, .int 0, p_arm])), (qr, .inl (kr, 400, .inr (.inr (.inr (.inr (fun _ => none))))))] sz)) 1 17 (va_A [(h0, .inr (5, [.ref qr, p_jumps, .int 0, .int 0, .int 0, p_arm])), (qr, .inl (kr, 400, .inr (.inr (.inr (.inr (fun _ => none))))))] sz) := by
  refine Met.ofW (cc := cX6_push) (maxL := 6) (ret := (some (.object "StatementRules2$Open"))) (by decide) rfl ?_
  intro p e s m args below meth c s₁ B hml hv
  obtain ⟨rfl, hsz, hZ, hP, hK, hD0⟩ := hv
  have hx := B.exec
  have hb := B.bytes
  have hr := B.returns
  have hts := atoms_spec (ws := wzX6_push) B.pre
  have hown : s.vm.findClass RX6 = some m.cls := findClass_of_methodNamed B.named
  have hlocks := B.notSynchronized
  subst hsz
  have hD := hD0.self (sz := s.heap.size)
  generalize hAe : va_A [(h0, .inr (5, [.ref qr, p_jumps, .int 0, .int 0, .int 0, p_arm])), (qr, .inl (kr, 400, .inr (.inr (.inr (.inr (fun _ => none))))))] s.heap.size = A at hD ⊢
  have hA : ∀ q : Nat, s.heap.size ≤ q → A q := fun q h => by rw [← hAe]; exact Or.inr h
  have hS : va_S A s.heap s.heap [] := va_S.rf
  have hP : va_P (dC, dI) vwCl [(h0, .inr (5, [.ref qr, p_jumps, .int 0, .int 0, .int 0, p_arm])), (qr, .inl (kr, 400, .inr (.inr (.inr (.inr (fun _ => none))))))] s.heap := hP
  have hl := lv_entry ([.ref h0, .int 300, .int 0, .int 2]) (n := 6) (Nat.le_of_ble_eq_true rfl)
  rw [lg_entry_eq]
  generalize (lg_sl ([.ref h0, .int 300, .int 0, .int 2]) ++ List.replicate (6 - (lg_sl ([.ref h0, .int 300, .int 0, .int 2])).length) Slot.unset).toArray = ls at hl ⊢
  have hl : lv_has ls 6 [(0, .ref h0), (1, .int 300), (2, .int 0), (3, .int 2)] := hl
  refine lv_aload_n hx hb dX6_push_0 rfl (lv_at hl 0 rfl) ?_
  refine va_get (D := (dC, dI)) (ci := 5) (v := .int 0) (C := RX6) (T := TX6) (N := 6) hx hb hts i_X6_push_X6 hown hK hP 0 rfl rfl 2 (by decide) (hts (.fieldLink RX6 21 "StatementRules2$Opens" "count" "I") k_X6_push_fieldLink_RX6_21_SR_Opens_count_I) (fun _ h9 => h9) rfl dX6_push_1 ?_
  refine lv_aload_n hx hb dX6_push_4 rfl (lv_at hl 0 rfl) ?_
  refine va_get (D := (dC, dI)) (ci := 5) (v := .ref qr) (C := RX6) (T := TX6) (N := 6) hx hb hts i_X6_push_X6 hown hK hP 0 rfl rfl 0 (by decide) (hts (.fieldLink RX6 11 "StatementRules2$Opens" "rows" "[LStatementRules2$Open;") k_X6_push_fieldLink_RX6_11_SR_Opens_rows_LSR_Open) (fun _ h9 => h9) rfl dX6_push_5 ?_
  refine va_alen (v := 400) hx hb hK hP 1 0 rfl rfl rfl dX6_push_8 ?_
  refine lv_iconst (v := 1) hx hb dX6_push_9 (by decide) ?_
  refine lv_isub hx hb dX6_push_10 ?_
  refine lv_topi (fun z1 ez1 => ?_)
  obtain rfl : z1 = 399 := ez1.trans (by decide)
  refine va_mmin hx hb (hml.trans hl.1.symm) hown (hts (.methodLink RX6 34 yJ9_min_7cf53) k_X6_push_methodLink_RX6_34_yJ9_min_7cf53) (hts (.static yJ9_min_7cf53) k_X6_push_static_yJ9_min_7cf53) (hts (.initialized RJ9) k_X6_push_initialized_RJ9) (hts (.code yJ9_min_7cf53 cJ9_min_7cf53 2 (some .int)) k_X6_push_code_yJ9_min_7cf53_cJ9_min_7cf53_2_some_int) (Nat.le_of_ble_eq_true rfl) (Nat.le_of_ble_eq_true rfl) (Nat.le_of_ble_eq_true rfl) (Nat.le_of_ble_eq_true rfl) dX6_push_11 ?_
  refine lv_topi (fun z2 ez2 => ?_)
  obtain rfl : z2 = 0 := ez2.trans (by decide)
  refine lv_istore (lv' := [(4, .int 0), (0, .ref h0), (1, .int 300), (2, .int 0), (3, .int 2)]) hx hb dX6_push_14 hl (by decide) rfl (fun ls hl => ?_)
  refine lv_aload_n hx hb dX6_push_16 rfl (lv_at hl 1 rfl) ?_
  refine va_get (D := (dC, dI)) (ci := 5) (v := .ref qr) (C := RX6) (T := TX6) (N := 6) hx hb hts i_X6_push_X6 hown hK hP 0 rfl rfl 0 (by decide) (hts (.fieldLink RX6 11 "StatementRules2$Opens" "rows" "[LStatementRules2$Open;") k_X6_push_fieldLink_RX6_11_SR_Opens_rows_LSR_Open) (fun _ h9 => h9) rfl dX6_push_17 ?_
  refine lv_iload hx hb dX6_push_20 (lv_at hl 0 rfl) ?_
  refine va_aldq hx hb hK hP 1 0 rfl rfl (by unfold vp_in; decide) dX6_push_22 ?_
  refine W.eq (g2 := F0 m 23 ls [.null]) rfl ?_
  refine lv_astoreN (lv' := [(5, .null), (4, .int 0), (0, .ref h0), (1, .int 300), (2, .int 0), (3, .int 2)]) hx hb dX6_push_23 hl (by decide) rfl (fun ls hl => ?_)
  refine lv_aloadN hx hb dX6_push_25 (lv_at hl 0 rfl) ?_
  refine lv_ifnonnullN hx hb dX6_push_27 ?_
  refine va_new (ci := 4) (fs := [.int 0, .int 0, .int 0, .int 0, .long 0, .int 0, .int 0, .int 0, .int 0, .int 0, .int 0, .int 0, .int 0, .int 0, .int 0, .int 0, .int 0]) (C := RX5) (T := TX5) (N := 17) hx hb hts i_X6_push_X5 tyX5 tyX5_ok hown (hts (.classLink RX6 9 RX5) k_X6_push_classLink_RX6_9_RX5) (hts (.instantiable RX5 17) k_X6_push_instantiable_RX5_17) (hts (.initialized RX5) k_X6_push_initialized_RX5) hK hP hD hS hA rfl df_X5 (Nat.le_of_ble_eq_true rfl) (Nat.le_of_ble_eq_true rfl) dX6_push_30 (fun q3 H hP hD hS => ?_)
  refine W.widen (k := 1) (n := 17) (by omega) (by omega) ?_
  have hP : va_P (dC, dI) vwCl [(h0, .inr (5, [.ref qr, p_jumps, .int 0, .int 0, .int 0, p_arm])), (qr, .inl (kr, 400, .inr (.inr (.inr (.inr (fun _ => none)))))), (q3, .inr (4, [.int 0, .int 0, .int 0, .int 0, .long 0, .int 0, .int 0, .int 0, .int 0, .int 0, .int 0, .int 0, .int 0, .int 0, .int 0, .int 0, .int 0]))] H := hP
  have hD : va_D A [(h0, .inr (5, [.ref qr, p_jumps, .int 0, .int 0, .int 0, p_arm])), (qr, .inl (kr, 400, .inr (.inr (.inr (.inr (fun _ => none)))))), (q3, .inr (4, [.int 0, .int 0, .int 0, .int 0, .long 0, .int 0, .int 0, .int 0, .int 0, .int 0, .int 0, .int 0, .int 0, .int 0, .int 0, .int 0, .int 0]))] := hD
  refine lv_dup hx hb dX6_push_33 rfl ?_
  have hPc := hP.sub (ws' := [(q3, .inr (4, [.int 0, .int 0, .int 0, .int 0, .long 0, .int 0, .int 0, .int 0, .int 0, .int 0, .int 0, .int 0, .int 0, .int 0, .int 0, .int 0, .int 0]))]) [2] rfl
  have hDc := hD.sub (ws' := [(q3, .inr (4, [.int 0, .int 0, .int 0, .int 0, .long 0, .int 0, .int 0, .int 0, .int 0, .int 0, .int 0, .int 0, .int 0, .int 0, .int 0, .int 0, .int 0]))]) [2] (by decide) rfl
  have hKc := hK.sub (tys' := []) [] rfl
  have hFc := va_free (wc := [(q3, .inr (4, [.int 0, .int 0, .int 0, .int 0, .long 0, .int 0, .int 0, .int 0, .int 0, .int 0, .int 0, .int 0, .int 0, .int 0, .int 0, .int 0, .int 0]))]) hD hS hA [2] rfl
  refine va_callv (va_runIN (As := []) (rest := [.ref q3]) ⟨hx, hb, hml, hown, hts⟩ (c_X5_init l dC dI _ q3 (.int 0) (.int 0) (.int 0) (.int 0) (.long 0) (.int 0) (.int 0) (.int 0) (.int 0) (.int 0) (.int 0) (.int 0) (.int 0) (.int 0) (.int 0) (.int 0) (.int 0)) ⟨va_cnB 0 hts hX6_push_X5_init_n40 rfl rfl rfl (hZ.1 (.methodLinkNest RX6 40 yX5_init "StatementRules2") (by decide +kernel)) (hts (.initialized RX5) k_X6_push_initialized_RX5) (by decide +kernel) ⟨Nat.le_of_ble_eq_true rfl, Nat.le_of_ble_eq_true rfl⟩, rfl, (hts (.instanceMethod yX5_init) k_X6_push_instanceMethod_yX5_init)⟩ ⟨zPre.blind, zPre.go hZ hPc hKc hDc⟩ rfl rfl hl.1 rfl (lv_room (Nat.le_of_ble_eq_true rfl)) dX6_push_34 ⟨Nat.le_of_ble_eq_true rfl, Nat.le_of_ble_eq_true rfl⟩) hS (fun q _ h => hFc q h) hFc (fun u9 t9 H1 locs ht hvm hw hB hz1 hk1 hS => ?_)
  obtain ⟨hP1, hK1, hD1⟩ := hB
  rw [ht] at hP1
  have hK1 := va_K.moved hvm.symm hK1
  obtain ⟨hP, hD⟩ := va_join (wr := [(h0, .inr (5, [.ref qr, p_jumps, .int 0, .int 0, .int 0, p_arm])), (qr, .inl (kr, 400, .inr (.inr (.inr (.inr (fun _ => none))))))]) (w1 := [(q3, .inr (4, [.int 0, .int 0, .int 0, .int 0, .long 0, .int 0, .int 0, .int 0, .int 0, .int 0, .int 0, .int 0, .int 0, .int 0, .int 0, .int 0, .int 0]))]) hP hD [2] [0, 1] rfl rfl (by decide) (by decide) hk1 hFc hP1 hD1
  have hK := hK.app hK1
  generalize H1 = H at hP hS ⊢
  have hP : va_P (dC, dI) vwCl [(h0, .inr (5, [.ref qr, p_jumps, .int 0, .int 0, .int 0, p_arm])), (qr, .inl (kr, 400, .inr (.inr (.inr (.inr (fun _ => none)))))), (q3, .inr (4, [.int 0, .int 0, .int 0, .int 0, .long 0, .int 0, .int 0, .int 0, .int 0, .int 0, .int 0, .int 0, .int 0, .int 0, .int 0, .int 0, .int 0]))] H := hP
  have hD : va_D A [(h0, .inr (5, [.ref qr, p_jumps, .int 0, .int 0, .int 0, p_arm])), (qr, .inl (kr, 400, .inr (.inr (.inr (.inr (fun _ => none)))))), (q3, .inr (4, [.int 0, .int 0, .int 0, .int 0, .long 0, .int 0, .int 0, .int 0, .int 0, .int 0, .int 0, .int 0, .int 0, .int 0, .int 0, .int 0, .int 0]))] := hD
  have hK : va_K (dC, dI) vwCl [(kr, .object "StatementRules2$Open")] s := hK
  refine lv_astore (lv' := [(5, .ref q3), (4, .int 0), (0, .ref h0), (1, .int 300), (2, .int 0), (3, .int 2)]) hx hb dX6_push_37 hl (by decide) rfl (fun ls hl => ?_)
  refine lv_aload_n hx hb dX6_push_39 rfl (lv_at hl 2 rfl) ?_
  refine va_get (D := (dC, dI)) (ci := 5) (v := .ref qr) (C := RX6) (T := TX6) (N := 6) hx hb hts i_X6_push_X6 hown hK hP 0 rfl rfl 0 (by decide) (hts (.fieldLink RX6 11 "StatementRules2$Opens" "rows" "[LStatementRules2$Open;") k_X6_push_fieldLink_RX6_11_SR_Opens_rows_LSR_Open) (fun _ h9 => h9) rfl dX6_push_40 ?_
  refine lv_iload hx hb dX6_push_43 (lv_at hl 1 rfl) ?_
  refine lv_aload hx hb dX6_push_45 (lv_at hl 0 rfl) ?_
  refine va_astq hx hb hK hP hD hS 1 0 2 4 rfl rfl rfl rfl (by unfold vp_in; decide) dX6_push_47 (fun H locs hP hD hS => ?_)
  have hP : va_P (dC, dI) vwCl [(h0, .inr (5, [.ref qr, p_jumps, .int 0, .int 0, .int 0, p_arm])), (qr, .inl (kr, 400, .inr (.inr (.inr (.inr (va_up (fun _ => none) 0 (some q3))))))), (q3, .inr (4, [.int 0, .int 0, .int 0, .int 0, .long 0, .int 0, .int 0, .int 0, .int 0, .int 0, .int 0, .int 0, .int 0, .int 0, .int 0, .int 0, .int 0]))] H := hP
  have hD : va_D A [(h0, .inr (5, [.ref qr, p_jumps, .int 0, .int 0, .int 0, p_arm])), (qr, .inl (kr, 400, .inr (.inr (.inr (.inr (va_up (fun _ => none) 0 (some q3))))))), (q3, .inr (4, [.int 0, .int 0, .int 0, .int 0, .long 0, .int 0, .int 0, .int 0, .int 0, .int 0, .int 0, .int 0, .int 0, .int 0, .int 0, .int 0, .int 0]))] := hD
  refine lv_aload_n hx hb dX6_push_48 rfl (lv_at hl 2 rfl) ?_
  refine lv_iload hx hb dX6_push_49 (lv_at hl 1 rfl) ?_
  refine lv_iconst (v := 1) hx hb dX6_push_51 (by decide) ?_
  refine lv_iadd hx hb dX6_push_52 ?_
  refine lv_topi (fun z5 ez5 => ?_)
  obtain rfl : z5 = 1 := ez5.trans (by decide)
  refine va_put (D := (dC, dI)) (ci := 5) (v := .int 1) (ty := .int) (C := RX6) (T := TX6) (N := 6) hx hb hts i_X6_push_X6 tyX6 tyX6_ok nmX6 hown hK hP hD hS 0 rfl rfl 2 (by decide) (hts (.fieldLink RX6 21 "StatementRules2$Opens" "count" "I") k_X6_push_fieldLink_RX6_21_SR_Opens_count_I) (fun _ h9 => h9) rfl (by decide +kernel) rfl rfl (Nat.le_of_ble_eq_true rfl) dX6_push_53 (fun H locs hP hD hS => ?_)
  have hP : va_P (dC, dI) vwCl [(h0, .inr (5, [.ref qr, p_jumps, .int 1, .int 0, .int 0, p_arm])), (qr, .inl (kr, 400, .inr (.inr (.inr (.inr (va_up (fun _ => none) 0 (some q3))))))), (q3, .inr (4, [.int 0, .int 0, .int 0, .int 0, .long 0, .int 0, .int 0, .int 0, .int 0, .int 0, .int 0, .int 0, .int 0, .int 0, .int 0, .int 0, .int 0]))] H := hP
  have hD : va_D A [(h0, .inr (5, [.ref qr, p_jumps, .int 1, .int 0, .int 0, p_arm])), (qr, .inl (kr, 400, .inr (.inr (.inr (.inr (va_up (fun _ => none) 0 (some q3))))))), (q3, .inr (4, [.int 0, .int 0, .int 0, .int 0, .long 0, .int 0, .int 0, .int 0, .int 0, .int 0, .int 0, .int 0, .int 0, .int 0, .int 0, .int 0, .int 0]))] := hD
  refine lv_aload_n hx hb dX6_push_56 rfl (lv_at hl 2 rfl) ?_
  refine lv_dup hx hb dX6_push_57 rfl ?_
  refine va_get (D := (dC, dI)) (ci := 5) (v := .int 0) (C := RX6) (T := TX6) (N := 6) hx hb hts i_X6_push_X6 hown hK hP 0 rfl rfl 3 (by decide) (hts (.fieldLink RX6 25 "StatementRules2$Opens" "serials" "I") k_X6_push_fieldLink_RX6_25_SR_Opens_serials_I) (fun _ h9 => h9) rfl dX6_push_58 ?_
  refine lv_iconst (v := 1) hx hb dX6_push_61 (by decide) ?_
  refine lv_iadd hx hb dX6_push_62 ?_
  refine lv_topi (fun z6 ez6 => ?_)
  obtain rfl : z6 = 1 := ez6.trans (by decide)
  refine va_put (D := (dC, dI)) (ci := 5) (v := .int 1) (ty := .int) (C := RX6) (T := TX6) (N := 6) hx hb hts i_X6_push_X6 tyX6 tyX6_ok nmX6 hown hK hP hD hS 0 rfl rfl 3 (by decide) (hts (.fieldLink RX6 25 "StatementRules2$Opens" "serials" "I") k_X6_push_fieldLink_RX6_25_SR_Opens_serials_I) (fun _ h9 => h9) rfl (by decide +kernel) rfl rfl (Nat.le_of_ble_eq_true rfl) dX6_push_63 (fun H locs hP hD hS => ?_)
  have hP : va_P (dC, dI) vwCl [(h0, .inr (5, [.ref qr, p_jumps, .int 1, .int 1, .int 0, p_arm])), (qr, .inl (kr, 400, .inr (.inr (.inr (.inr (va_up (fun _ => none) 0 (some q3))))))), (q3, .inr (4, [.int 0, .int 0, .int 0, .int 0, .long 0, .int 0, .int 0, .int 0, .int 0, .int 0, .int 0, .int 0, .int 0, .int 0, .int 0, .int 0, .int 0]))] H := hP
  have hD : va_D A [(h0, .inr (5, [.ref qr, p_jumps, .int 1, .int 1, .int 0, p_arm])), (qr, .inl (kr, 400, .inr (.inr (.inr (.inr (va_up (fun _ => none) 0 (some q3))))))), (q3, .inr (4, [.int 0, .int 0, .int 0, .int 0, .long 0, .int 0, .int 0, .int 0, .int 0, .int 0, .int 0, .int 0, .int 0, .int 0, .int 0, .int 0, .int 0]))] := hD
  refine lv_aload hx hb dX6_push_66 (lv_at hl 0 rfl) ?_
  refine lv_iload_n hx hb dX6_push_68 rfl (lv_at hl 3 rfl) ?_
  refine va_putN (D := (dC, dI)) (ci := 4) (v := .int 300) (ty := .int) (C := RX5) (T := TX5) (N := 17) hx hb hts i_X6_push_X5 tyX5 tyX5_ok nmX5 hown hK hP hD hS 2 rfl rfl 0 (by decide) (va_Nw.use rfl (hZ.1 (.fieldLinkNest RX6 41 "StatementRules2$Open" "sort" "I" "StatementRules2") (by decide +kernel))) (fun _ h9 => h9) rfl (by decide +kernel) rfl rfl (Nat.le_of_ble_eq_true rfl) dX6_push_69 (fun H locs hP hD hS => ?_)
  have hP : va_P (dC, dI) vwCl [(h0, .inr (5, [.ref qr, p_jumps, .int 1, .int 1, .int 0, p_arm])), (qr, .inl (kr, 400, .inr (.inr (.inr (.inr (va_up (fun _ => none) 0 (some q3))))))), (q3, .inr (4, [.int 300, .int 0, .int 0, .int 0, .long 0, .int 0, .int 0, .int 0, .int 0, .int 0, .int 0, .int 0, .int 0, .int 0, .int 0, .int 0, .int 0]))] H := hP
  have hD : va_D A [(h0, .inr (5, [.ref qr, p_jumps, .int 1, .int 1, .int 0, p_arm])), (qr, .inl (kr, 400, .inr (.inr (.inr (.inr (va_up (fun _ => none) 0 (some q3))))))), (q3, .inr (4, [.int 300, .int 0, .int 0, .int 0, .long 0, .int 0, .int 0, .int 0, .int 0, .int 0, .int 0, .int 0, .int 0, .int 0, .int 0, .int 0, .int 0]))] := hD
  refine lv_aload hx hb dX6_push_72 (lv_at hl 0 rfl) ?_
  refine lv_aload_n hx hb dX6_push_74 rfl (lv_at hl 2 rfl) ?_
  refine va_get (D := (dC, dI)) (ci := 5) (v := .int 1) (C := RX6) (T := TX6) (N := 6) hx hb hts i_X6_push_X6 hown hK hP 0 rfl rfl 3 (by decide) (hts (.fieldLink RX6 25 "StatementRules2$Opens" "serials" "I") k_X6_push_fieldLink_RX6_25_SR_Opens_serials_I) (fun _ h9 => h9) rfl dX6_push_75 ?_
  refine va_putN (D := (dC, dI)) (ci := 4) (v := .int 1) (ty := .int) (C := RX5) (T := TX5) (N := 17) hx hb hts i_X6_push_X5 tyX5 tyX5_ok nmX5 hown hK hP hD hS 2 rfl rfl 1 (by decide) (va_Nw.use rfl (hZ.1 (.fieldLinkNest RX6 44 "StatementRules2$Open" "serial" "I" "StatementRules2") (by decide +kernel))) (fun _ h9 => h9) rfl (by decide +kernel) rfl rfl (Nat.le_of_ble_eq_true rfl) dX6_push_78 (fun H locs hP hD hS => ?_)
  have hP : va_P (dC, dI) vwCl [(h0, .inr (5, [.ref qr, p_jumps, .int 1, .int 1, .int 0, p_arm])), (qr, .inl (kr, 400, .inr (.inr (.inr (.inr (va_up (fun _ => none) 0 (some q3))))))), (q3, .inr (4, [.int 300, .int 1, .int 0, .int 0, .long 0, .int 0, .int 0, .int 0, .int 0, .int 0, .int 0, .int 0, .int 0, .int 0, .int 0, .int 0, .int 0]))] H := hP
  have hD : va_D A [(h0, .inr (5, [.ref qr, p_jumps, .int 1, .int 1, .int 0, p_arm])), (qr, .inl (kr, 400, .inr (.inr (.inr (.inr (va_up (fun _ => none) 0 (some q3))))))), (q3, .inr (4, [.int 300, .int 1, .int 0, .int 0, .long 0, .int 0, .int 0, .int 0, .int 0, .int 0, .int 0, .int 0, .int 0, .int 0, .int 0, .int 0, .int 0]))] := hD
  refine lv_aload hx hb dX6_push_81 (lv_at hl 0 rfl) ?_
  refine lv_iload_n hx hb dX6_push_83 rfl (lv_at hl 4 rfl) ?_
  refine va_putN (D := (dC, dI)) (ci := 4) (v := .int 0) (ty := .int) (C := RX5) (T := TX5) (N := 17) hx hb hts i_X6_push_X5 tyX5 tyX5_ok nmX5 hown hK hP hD hS 2 rfl rfl 2 (by decide) (va_Nw.use rfl (hZ.1 (.fieldLinkNest RX6 47 "StatementRules2$Open" "depth" "I" "StatementRules2") (by decide +kernel))) (fun _ h9 => h9) rfl (by decide +kernel) rfl rfl (Nat.le_of_ble_eq_true rfl) dX6_push_84 (fun H locs hP hD hS => ?_)
  have hP : va_P (dC, dI) vwCl [(h0, .inr (5, [.ref qr, p_jumps, .int 1, .int 1, .int 0, p_arm])), (qr, .inl (kr, 400, .inr (.inr (.inr (.inr (va_up (fun _ => none) 0 (some q3))))))), (q3, .inr (4, [.int 300, .int 1, .int 0, .int 0, .long 0, .int 0, .int 0, .int 0, .int 0, .int 0, .int 0, .int 0, .int 0, .int 0, .int 0, .int 0, .int 0]))] H := hP
  have hD : va_D A [(h0, .inr (5, [.ref qr, p_jumps, .int 1, .int 1, .int 0, p_arm])), (qr, .inl (kr, 400, .inr (.inr (.inr (.inr (va_up (fun _ => none) 0 (some q3))))))), (q3, .inr (4, [.int 300, .int 1, .int 0, .int 0, .long 0, .int 0, .int 0, .int 0, .int 0, .int 0, .int 0, .int 0, .int 0, .int 0, .int 0, .int 0, .int 0]))] := hD
  refine lv_aload hx hb dX6_push_87 (lv_at hl 0 rfl) ?_
  refine lv_iload_n hx hb dX6_push_89 rfl (lv_at hl 5 rfl) ?_
  refine va_putN (D := (dC, dI)) (ci := 4) (v := .int 2) (ty := .int) (C := RX5) (T := TX5) (N := 17) hx hb hts i_X6_push_X5 tyX5 tyX5_ok nmX5 hown hK hP hD hS 2 rfl rfl 3 (by decide) (va_Nw.use rfl (hZ.1 (.fieldLinkNest RX6 50 "StatementRules2$Open" "namesBefore" "I" "StatementRules2") (by decide +kernel))) (fun _ h9 => h9) rfl (by decide +kernel) rfl rfl (Nat.le_of_ble_eq_true rfl) dX6_push_90 (fun H locs hP hD hS => ?_)
  have hP : va_P (dC, dI) vwCl [(h0, .inr (5, [.ref qr, p_jumps, .int 1, .int 1, .int 0, p_arm])), (qr, .inl (kr, 400, .inr (.inr (.inr (.inr (va_up (fun _ => none) 0 (some q3))))))), (q3, .inr (4, [.int 300, .int 1, .int 0, .int 2, .long 0, .int 0, .int 0, .int 0, .int 0, .int 0, .int 0, .int 0, .int 0, .int 0, .int 0, .int 0, .int 0]))] H := hP
  have hD : va_D A [(h0, .inr (5, [.ref qr, p_jumps, .int 1, .int 1, .int 0, p_arm])), (qr, .inl (kr, 400, .inr (.inr (.inr (.inr (va_up (fun _ => none) 0 (some q3))))))), (q3, .inr (4, [.int 300, .int 1, .int 0, .int 2, .long 0, .int 0, .int 0, .int 0, .int 0, .int 0, .int 0, .int 0, .int 0, .int 0, .int 0, .int 0, .int 0]))] := hD
  refine lv_aload hx hb dX6_push_93 (lv_at hl 0 rfl) ?_
  refine lv_lconst (v := 0) hx hb dX6_push_95 (by decide) ?_
  refine va_putN (D := (dC, dI)) (ci := 4) (v := .long 0) (ty := .long) (C := RX5) (T := TX5) (N := 17) hx hb hts i_X6_push_X5 tyX5 tyX5_ok nmX5 hown hK hP hD hS 2 rfl rfl 4 (by decide) (va_Nw.use rfl (hZ.1 (.fieldLinkNest RX6 53 "StatementRules2$Open" "label" "J" "StatementRules2") (by decide +kernel))) (fun _ h9 => h9) rfl (by decide +kernel) rfl rfl (Nat.le_of_ble_eq_true rfl) dX6_push_96 (fun H locs hP hD hS => ?_)
  have hP : va_P (dC, dI) vwCl [(h0, .inr (5, [.ref qr, p_jumps, .int 1, .int 1, .int 0, p_arm])), (qr, .inl (kr, 400, .inr (.inr (.inr (.inr (va_up (fun _ => none) 0 (some q3))))))), (q3, .inr (4, [.int 300, .int 1, .int 0, .int 2, .long 0, .int 0, .int 0, .int 0, .int 0, .int 0, .int 0, .int 0, .int 0, .int 0, .int 0, .int 0, .int 0]))] H := hP
  have hD : va_D A [(h0, .inr (5, [.ref qr, p_jumps, .int 1, .int 1, .int 0, p_arm])), (qr, .inl (kr, 400, .inr (.inr (.inr (.inr (va_up (fun _ => none) 0 (some q3))))))), (q3, .inr (4, [.int 300, .int 1, .int 0, .int 2, .long 0, .int 0, .int 0, .int 0, .int 0, .int 0, .int 0, .int 0, .int 0, .int 0, .int 0, .int 0, .int 0]))] := hD
  refine lv_aload hx hb dX6_push_99 (lv_at hl 0 rfl) ?_
  refine lv_iconst (v := 0) hx hb dX6_push_101 (by decide) ?_
  refine va_putN (D := (dC, dI)) (ci := 4) (v := .int 0) (ty := .boolean) (C := RX5) (T := TX5) (N := 17) hx hb hts i_X6_push_X5 tyX5 tyX5_ok nmX5 hown hK hP hD hS 2 rfl rfl 5 (by decide) (va_Nw.use rfl (hZ.1 (.fieldLinkNest RX6 57 "StatementRules2$Open" "begun" "Z" "StatementRules2") (by decide +kernel))) (fun _ h9 => h9) rfl (by decide +kernel) rfl rfl (Nat.le_of_ble_eq_true rfl) dX6_push_102 (fun H locs hP hD hS => ?_)
  have hP : va_P (dC, dI) vwCl [(h0, .inr (5, [.ref qr, p_jumps, .int 1, .int 1, .int 0, p_arm])), (qr, .inl (kr, 400, .inr (.inr (.inr (.inr (va_up (fun _ => none) 0 (some q3))))))), (q3, .inr (4, [.int 300, .int 1, .int 0, .int 2, .long 0, .int 0, .int 0, .int 0, .int 0, .int 0, .int 0, .int 0, .int 0, .int 0, .int 0, .int 0, .int 0]))] H := hP
  have hD : va_D A [(h0, .inr (5, [.ref qr, p_jumps, .int 1, .int 1, .int 0, p_arm])), (qr, .inl (kr, 400, .inr (.inr (.inr (.inr (va_up (fun _ => none) 0 (some q3))))))), (q3, .inr (4, [.int 300, .int 1, .int 0, .int 2, .long 0, .int 0, .int 0, .int 0, .int 0, .int 0, .int 0, .int 0, .int 0, .int 0, .int 0, .int 0, .int 0]))] := hD
  refine lv_aload hx hb dX6_push_105 (lv_at hl 0 rfl) ?_
  refine lv_iconst (v := 0) hx hb dX6_push_107 (by decide) ?_
  refine va_putN (D := (dC, dI)) (ci := 4) (v := .int 0) (ty := .boolean) (C := RX5) (T := TX5) (N := 17) hx hb hts i_X6_push_X5 tyX5 tyX5_ok nmX5 hown hK hP hD hS 2 rfl rfl 6 (by decide) (va_Nw.use rfl (hZ.1 (.fieldLinkNest RX6 61 "StatementRules2$Open" "ends" "Z" "StatementRules2") (by decide +kernel))) (fun _ h9 => h9) rfl (by decide +kernel) rfl rfl (Nat.le_of_ble_eq_true rfl) dX6_push_108 (fun H locs hP hD hS => ?_)
  have hP : va_P (dC, dI) vwCl [(h0, .inr (5, [.ref qr, p_jumps, .int 1, .int 1, .int 0, p_arm])), (qr, .inl (kr, 400, .inr (.inr (.inr (.inr (va_up (fun _ => none) 0 (some q3))))))), (q3, .inr (4, [.int 300, .int 1, .int 0, .int 2, .long 0, .int 0, .int 0, .int 0, .int 0, .int 0, .int 0, .int 0, .int 0, .int 0, .int 0, .int 0, .int 0]))] H := hP
  have hD : va_D A [(h0, .inr (5, [.ref qr, p_jumps, .int 1, .int 1, .int 0, p_arm])), (qr, .inl (kr, 400, .inr (.inr (.inr (.inr (va_up (fun _ => none) 0 (some q3))))))), (q3, .inr (4, [.int 300, .int 1, .int 0, .int 2, .long 0, .int 0, .int 0, .int 0, .int 0, .int 0, .int 0, .int 0, .int 0, .int 0, .int 0, .int 0, .int 0]))] := hD
  refine lv_aload hx hb dX6_push_111 (lv_at hl 0 rfl) ?_
  refine lv_iconst (v := 0) hx hb dX6_push_113 (by decide) ?_
  refine va_putN (D := (dC, dI)) (ci := 4) (v := .int 0) (ty := .boolean) (C := RX5) (T := TX5) (N := 17) hx hb hts i_X6_push_X5 tyX5 tyX5_ok nmX5 hown hK hP hD hS 2 rfl rfl 7 (by decide) (va_Nw.use rfl (hZ.1 (.fieldLinkNest RX6 64 "StatementRules2$Open" "never" "Z" "StatementRules2") (by decide +kernel))) (fun _ h9 => h9) rfl (by decide +kernel) rfl rfl (Nat.le_of_ble_eq_true rfl) dX6_push_114 (fun H locs hP hD hS => ?_)
  have hP : va_P (dC, dI) vwCl [(h0, .inr (5, [.ref qr, p_jumps, .int 1, .int 1, .int 0, p_arm])), (qr, .inl (kr, 400, .inr (.inr (.inr (.inr (va_up (fun _ => none) 0 (some q3))))))), (q3, .inr (4, [.int 300, .int 1, .int 0, .int 2, .long 0, .int 0, .int 0, .int 0, .int 0, .int 0, .int 0, .int 0, .int 0, .int 0, .int 0, .int 0, .int 0]))] H := hP
  have hD : va_D A [(h0, .inr (5, [.ref qr, p_jumps, .int 1, .int 1, .int 0, p_arm])), (qr, .inl (kr, 400, .inr (.inr (.inr (.inr (va_up (fun _ => none) 0 (some q3))))))), (q3, .inr (4, [.int 300, .int 1, .int 0, .int 2, .long 0, .int 0, .int 0, .int 0, .int 0, .int 0, .int 0, .int 0, .int 0, .int 0, .int 0, .int 0, .int 0]))] := hD
  refine lv_aload hx hb dX6_push_117 (lv_at hl 0 rfl) ?_
  refine lv_iconst (v := 0) hx hb dX6_push_119 (by decide) ?_
  refine va_putN (D := (dC, dI)) (ci := 4) (v := .int 0) (ty := .boolean) (C := RX5) (T := TX5) (N := 17) hx hb hts i_X6_push_X5 tyX5 tyX5_ok nmX5 hown hK hP hD hS 2 rfl rfl 8 (by decide) (va_Nw.use rfl (hZ.1 (.fieldLinkNest RX6 67 "StatementRules2$Open" "whole" "Z" "StatementRules2") (by decide +kernel))) (fun _ h9 => h9) rfl (by decide +kernel) rfl rfl (Nat.le_of_ble_eq_true rfl) dX6_push_120 (fun H locs hP hD hS => ?_)
  have hP : va_P (dC, dI) vwCl [(h0, .inr (5, [.ref qr, p_jumps, .int 1, .int 1, .int 0, p_arm])), (qr, .inl (kr, 400, .inr (.inr (.inr (.inr (va_up (fun _ => none) 0 (some q3))))))), (q3, .inr (4, [.int 300, .int 1, .int 0, .int 2, .long 0, .int 0, .int 0, .int 0, .int 0, .int 0, .int 0, .int 0, .int 0, .int 0, .int 0, .int 0, .int 0]))] H := hP
  have hD : va_D A [(h0, .inr (5, [.ref qr, p_jumps, .int 1, .int 1, .int 0, p_arm])), (qr, .inl (kr, 400, .inr (.inr (.inr (.inr (va_up (fun _ => none) 0 (some q3))))))), (q3, .inr (4, [.int 300, .int 1, .int 0, .int 2, .long 0, .int 0, .int 0, .int 0, .int 0, .int 0, .int 0, .int 0, .int 0, .int 0, .int 0, .int 0, .int 0]))] := hD
  refine lv_aload hx hb dX6_push_123 (lv_at hl 0 rfl) ?_
  refine lv_iconst (v := (-1)) hx hb dX6_push_125 (by decide) ?_
  refine va_putN (D := (dC, dI)) (ci := 4) (v := .int (-1)) (ty := .int) (C := RX5) (T := TX5) (N := 17) hx hb hts i_X6_push_X5 tyX5 tyX5_ok nmX5 hown hK hP hD hS 2 rfl rfl 9 (by decide) (va_Nw.use rfl (hZ.1 (.fieldLinkNest RX6 70 "StatementRules2$Open" "exit" "I" "StatementRules2") (by decide +kernel))) (fun _ h9 => h9) rfl (by decide +kernel) rfl rfl (Nat.le_of_ble_eq_true rfl) dX6_push_126 (fun H locs hP hD hS => ?_)
  have hP : va_P (dC, dI) vwCl [(h0, .inr (5, [.ref qr, p_jumps, .int 1, .int 1, .int 0, p_arm])), (qr, .inl (kr, 400, .inr (.inr (.inr (.inr (va_up (fun _ => none) 0 (some q3))))))), (q3, .inr (4, [.int 300, .int 1, .int 0, .int 2, .long 0, .int 0, .int 0, .int 0, .int 0, .int (-1), .int 0, .int 0, .int 0, .int 0, .int 0, .int 0, .int 0]))] H := hP
  have hD : va_D A [(h0, .inr (5, [.ref qr, p_jumps, .int 1, .int 1, .int 0, p_arm])), (qr, .inl (kr, 400, .inr (.inr (.inr (.inr (va_up (fun _ => none) 0 (some q3))))))), (q3, .inr (4, [.int 300, .int 1, .int 0, .int 2, .long 0, .int 0, .int 0, .int 0, .int 0, .int (-1), .int 0, .int 0, .int 0, .int 0, .int 0, .int 0, .int 0]))] := hD
  refine lv_aload hx hb dX6_push_129 (lv_at hl 0 rfl) ?_
  refine lv_iconst (v := (-1)) hx hb dX6_push_131 (by decide) ?_
  refine va_putN (D := (dC, dI)) (ci := 4) (v := .int (-1)) (ty := .int) (C := RX5) (T := TX5) (N := 17) hx hb hts i_X6_push_X5 tyX5 tyX5_ok nmX5 hown hK hP hD hS 2 rfl rfl 10 (by decide) (va_Nw.use rfl (hZ.1 (.fieldLinkNest RX6 73 "StatementRules2$Open" "next" "I" "StatementRules2") (by decide +kernel))) (fun _ h9 => h9) rfl (by decide +kernel) rfl rfl (Nat.le_of_ble_eq_true rfl) dX6_push_132 (fun H locs hP hD hS => ?_)
  have hP : va_P (dC, dI) vwCl [(h0, .inr (5, [.ref qr, p_jumps, .int 1, .int 1, .int 0, p_arm])), (qr, .inl (kr, 400, .inr (.inr (.inr (.inr (va_up (fun _ => none) 0 (some q3))))))), (q3, .inr (4, [.int 300, .int 1, .int 0, .int 2, .long 0, .int 0, .int 0, .int 0, .int 0, .int (-1), .int (-1), .int 0, .int 0, .int 0, .int 0, .int 0, .int 0]))] H := hP
  have hD : va_D A [(h0, .inr (5, [.ref qr, p_jumps, .int 1, .int 1, .int 0, p_arm])), (qr, .inl (kr, 400, .inr (.inr (.inr (.inr (va_up (fun _ => none) 0 (some q3))))))), (q3, .inr (4, [.int 300, .int 1, .int 0, .int 2, .long 0, .int 0, .int 0, .int 0, .int 0, .int (-1), .int (-1), .int 0, .int 0, .int 0, .int 0, .int 0, .int 0]))] := hD
  refine lv_aload hx hb dX6_push_135 (lv_at hl 0 rfl) ?_
  refine lv_iconst (v := (-1)) hx hb dX6_push_137 (by decide) ?_
  refine va_putN (D := (dC, dI)) (ci := 4) (v := .int (-1)) (ty := .int) (C := RX5) (T := TX5) (N := 17) hx hb hts i_X6_push_X5 tyX5 tyX5_ok nmX5 hown hK hP hD hS 2 rfl rfl 11 (by decide) (va_Nw.use rfl (hZ.1 (.fieldLinkNest RX6 76 "StatementRules2$Open" "other" "I" "StatementRules2") (by decide +kernel))) (fun _ h9 => h9) rfl (by decide +kernel) rfl rfl (Nat.le_of_ble_eq_true rfl) dX6_push_138 (fun H locs hP hD hS => ?_)
  have hP : va_P (dC, dI) vwCl [(h0, .inr (5, [.ref qr, p_jumps, .int 1, .int 1, .int 0, p_arm])), (qr, .inl (kr, 400, .inr (.inr (.inr (.inr (va_up (fun _ => none) 0 (some q3))))))), (q3, .inr (4, [.int 300, .int 1, .int 0, .int 2, .long 0, .int 0, .int 0, .int 0, .int 0, .int (-1), .int (-1), .int (-1), .int 0, .int 0, .int 0, .int 0, .int 0]))] H := hP
  have hD : va_D A [(h0, .inr (5, [.ref qr, p_jumps, .int 1, .int 1, .int 0, p_arm])), (qr, .inl (kr, 400, .inr (.inr (.inr (.inr (va_up (fun _ => none) 0 (some q3))))))), (q3, .inr (4, [.int 300, .int 1, .int 0, .int 2, .long 0, .int 0, .int 0, .int 0, .int 0, .int (-1), .int (-1), .int (-1), .int 0, .int 0, .int 0, .int 0, .int 0]))] := hD
  refine lv_aload hx hb dX6_push_141 (lv_at hl 0 rfl) ?_
  refine lv_iconst (v := 0) hx hb dX6_push_143 (by decide) ?_
  refine va_putN (D := (dC, dI)) (ci := 4) (v := .int 0) (ty := .int) (C := RX5) (T := TX5) (N := 17) hx hb hts i_X6_push_X5 tyX5 tyX5_ok nmX5 hown hK hP hD hS 2 rfl rfl 12 (by decide) (va_Nw.use rfl (hZ.1 (.fieldLinkNest RX6 79 "StatementRules2$Open" "caught" "I" "StatementRules2") (by decide +kernel))) (fun _ h9 => h9) rfl (by decide +kernel) rfl rfl (Nat.le_of_ble_eq_true rfl) dX6_push_144 (fun H locs hP hD hS => ?_)
  have hP : va_P (dC, dI) vwCl [(h0, .inr (5, [.ref qr, p_jumps, .int 1, .int 1, .int 0, p_arm])), (qr, .inl (kr, 400, .inr (.inr (.inr (.inr (va_up (fun _ => none) 0 (some q3))))))), (q3, .inr (4, [.int 300, .int 1, .int 0, .int 2, .long 0, .int 0, .int 0, .int 0, .int 0, .int (-1), .int (-1), .int (-1), .int 0, .int 0, .int 0, .int 0, .int 0]))] H := hP
  have hD : va_D A [(h0, .inr (5, [.ref qr, p_jumps, .int 1, .int 1, .int 0, p_arm])), (qr, .inl (kr, 400, .inr (.inr (.inr (.inr (va_up (fun _ => none) 0 (some q3))))))), (q3, .inr (4, [.int 300, .int 1, .int 0, .int 2, .long 0, .int 0, .int 0, .int 0, .int 0, .int (-1), .int (-1), .int (-1), .int 0, .int 0, .int 0, .int 0, .int 0]))] := hD
  refine lv_aload hx hb dX6_push_147 (lv_at hl 0 rfl) ?_
  refine lv_aload_n hx hb dX6_push_149 rfl (lv_at hl 2 rfl) ?_
  refine va_get (D := (dC, dI)) (ci := 5) (v := .int 0) (C := RX6) (T := TX6) (N := 6) hx hb hts i_X6_push_X6 hown hK hP 0 rfl rfl 4 (by decide) (hts (.fieldLink RX6 28 "StatementRules2$Opens" "jumpCount" "I") k_X6_push_fieldLink_RX6_28_SR_Opens_jumpCount_I) (fun _ h9 => h9) rfl dX6_push_150 ?_
  refine va_putN (D := (dC, dI)) (ci := 4) (v := .int 0) (ty := .int) (C := RX5) (T := TX5) (N := 17) hx hb hts i_X6_push_X5 tyX5 tyX5_ok nmX5 hown hK hP hD hS 2 rfl rfl 14 (by decide) (va_Nw.use rfl (hZ.1 (.fieldLinkNest RX6 82 "StatementRules2$Open" "firstJump" "I" "StatementRules2") (by decide +kernel))) (fun _ h9 => h9) rfl (by decide +kernel) rfl rfl (Nat.le_of_ble_eq_true rfl) dX6_push_153 (fun H locs hP hD hS => ?_)
  have hP : va_P (dC, dI) vwCl [(h0, .inr (5, [.ref qr, p_jumps, .int 1, .int 1, .int 0, p_arm])), (qr, .inl (kr, 400, .inr (.inr (.inr (.inr (va_up (fun _ => none) 0 (some q3))))))), (q3, .inr (4, [.int 300, .int 1, .int 0, .int 2, .long 0, .int 0, .int 0, .int 0, .int 0, .int (-1), .int (-1), .int (-1), .int 0, .int 0, .int 0, .int 0, .int 0]))] H := hP
  have hD : va_D A [(h0, .inr (5, [.ref qr, p_jumps, .int 1, .int 1, .int 0, p_arm])), (qr, .inl (kr, 400, .inr (.inr (.inr (.inr (va_up (fun _ => none) 0 (some q3))))))), (q3, .inr (4, [.int 300, .int 1, .int 0, .int 2, .long 0, .int 0, .int 0, .int 0, .int 0, .int (-1), .int (-1), .int (-1), .int 0, .int 0, .int 0, .int 0, .int 0]))] := hD
  refine lv_aload hx hb dX6_push_156 (lv_at hl 0 rfl) ?_
  have hP9 := hP.sub (ws' := [(h0, .inr (5, [.ref qr, p_jumps, .int 1, .int 1, .int 0, p_arm])), (qr, .inl (kr, 400, .inr (.inr (.inr (.inr (va_up (fun _ => none) 0 (some q3))))))), (q3, .inr (4, [.int 300, .int 1, .int 0, .int 2, .long 0, .int 0, .int 0, .int 0, .int 0, .int (-1), .int (-1), .int (-1), .int 0, .int 0, .int 0, .int 0, .int 0]))]) [0, 1, 2] rfl
  have hD9 := hD.sub (ws' := [(h0, .inr (5, [.ref qr, p_jumps, .int 1, .int 1, .int 0, p_arm])), (qr, .inl (kr, 400, .inr (.inr (.inr (.inr (va_up (fun _ => none) 0 (some q3))))))), (q3, .inr (4, [.int 300, .int 1, .int 0, .int 2, .long 0, .int 0, .int 0, .int 0, .int 0, .int (-1), .int (-1), .int (-1), .int 0, .int 0, .int 0, .int 0, .int 0]))]) [0, 1, 2] (by decide) rfl
  have hK9 := hK.sub (tys' := [(kr, .object "StatementRules2$Open")]) [0] rfl
  exact W.aret (v := .ref q3) hx hb hr (Or.inl ⟨_, rfl⟩) (Or.inr ⟨_, rfl⟩) (fun t ht hW => ⟨⟨(), q3, rfl, trivial, by rw [ht]; exact hP9, va_K.moved hW.alike hK9, hD9⟩, hS.F ht⟩) hS.2.2 dX6_push_158
theorem k_X6_row_fieldLink_RX6_21_SR_Opens_count_I : Cond.fieldLink RX6 21 "StatementRules2$Opens" "count" "I" ∈ wzX6_row := List.mem_cons_of_mem _ (List.mem_append_left _ (List.mem_of_getElem? (i := 0) rfl))
theorem i_X6_row_X6 : ∀ w ∈ wsX60, w ∈ wzX6_row := fun _ h => List.mem_cons_of_mem _ (List.mem_append_right _ (List.mem_append_left _ (h)))
theorem k_X6_row_fieldLink_RX6_11_SR_Opens_rows_LSR_Open : Cond.fieldLink RX6 11 "StatementRules2$Opens" "rows" "[LStatementRules2$Open;" ∈ wzX6_row := List.mem_cons_of_mem _ (List.mem_append_left _ (List.mem_of_getElem? (i := 1) rfl))
set_option maxHeartbeats 4000000 in
set_option maxRecDepth 100000 in
theorem c_X6_row (l : Launch) (dC : Nat → ClassId) (dI : Nat → Nat → Nat) (sz : Nat) (h0 : Nat) (qr : Nat) (kr : ClassId) (q5 : Nat) (p_jumps : Value) (p_serials : Value) (p_jumpCount : Value) (p_arm : Value) : Met l yX6_row wzX6_row ({ frames := 1, cells := 0, slots := 0, locals := 60 }) (va_Pc [.ref h0, .int 0] (zPre dC dI sz [(h0, .inr (5, [.ref qr, p_jumps, .int 1, p_serials, p_jumpCount, p_arm])), (qr, .inl (kr, 400, .inr (.inr (.inr (.inr (va_up (fun _ => none) 0 (some q5)))))))] [(kr, .object "StatementRules2$Open")])) (va_Qr (fun (_ : Unit) => True) (fun (_ : Unit) (ra : Nat) (t : State) => ra = q5 ∧ zPost dC dI (va_A [(h0, .inr (5, [.ref qr, p_jumps, .int 1, p_serials, p_jumpCount, p_arm])), (qr, .inl (kr, 400, .inr (.inr (.inr (.inr (va_up (fun _ => none) 0 (some q5)))))))] sz) [(h0, .inr (5, [.ref qr, p_jumps, .int 1, p_serials, p_jumpCount, p_arm])), (qr, .inl (kr, 400, .inr (.inr (.inr (.inr (va_up (fun _ => none) 0 (some q5)))))))] [(kr, .object "StatementRules2$Open")] t) (va_A [(h0, .inr (5, [.ref qr, p_jumps, .int 1, p_serials, p_jumpCount, p_arm])), (qr, .inl (kr, 400, .inr (.inr (.inr (.inr (va_up (fun _ => none) 0 (some q5)))))))] sz)) 0 0 (va_A [(h0, .inr (5, [.ref qr, p_jumps, .int 1, p_serials, p_jumpCount, p_arm])), (qr, .inl (kr, 400, .inr (.inr (.inr (.inr (va_up (fun _ => none) 0 (some q5)))))))] sz) := by
  refine Met.ofW (cc := cX6_row) (maxL := 2) (ret := (some (.object "StatementRules2$Open"))) (by decide) rfl ?_
  intro p e s m args below meth c s₁ B hml hv
  obtain ⟨rfl, hsz, hZ, hP, hK, hD0⟩ := hv
  have hx := B.exec
  have hb := B.bytes
  have hr := B.returns
  have hts := atoms_spec (ws := wzX6_row) B.pre
  have hown : s.vm.findClass RX6 = some m.cls := findClass_of_methodNamed B.named
  have hlocks := B.notSynchronized
  subst hsz
  have hD := hD0.self (sz := s.heap.size)
  generalize hAe : va_A [(h0, .inr (5, [.ref qr, p_jumps, .int 1, p_serials, p_jumpCount, p_arm])), (qr, .inl (kr, 400, .inr (.inr (.inr (.inr (va_up (fun _ => none) 0 (some q5)))))))] s.heap.size = A at hD ⊢
  have hA : ∀ q : Nat, s.heap.size ≤ q → A q := fun q h => by rw [← hAe]; exact Or.inr h
  have hS : va_S A s.heap s.heap [] := va_S.rf
  have hP : va_P (dC, dI) vwCl [(h0, .inr (5, [.ref qr, p_jumps, .int 1, p_serials, p_jumpCount, p_arm])), (qr, .inl (kr, 400, .inr (.inr (.inr (.inr (va_up (fun _ => none) 0 (some q5)))))))] s.heap := hP
  have hl := lv_entry ([.ref h0, .int 0]) (n := 2) (Nat.le_of_ble_eq_true rfl)
  rw [lg_entry_eq]
  generalize (lg_sl ([.ref h0, .int 0]) ++ List.replicate (2 - (lg_sl ([.ref h0, .int 0])).length) Slot.unset).toArray = ls at hl ⊢
  have hl : lv_has ls 2 [(0, .ref h0), (1, .int 0)] := hl
  refine lv_iload_n hx hb dX6_row_0 rfl (lv_at hl 1 rfl) ?_
  refine lv_if_lt (tgt := 30) hx hb dX6_row_1 (by decide) (fun c9 => absurd c9 (by decide)) (fun _ => ?_)
  refine lv_iload_n hx hb dX6_row_4 rfl (lv_at hl 1 rfl) ?_
  refine lv_aload_n hx hb dX6_row_5 rfl (lv_at hl 0 rfl) ?_
  refine va_get (D := (dC, dI)) (ci := 5) (v := .int 1) (C := RX6) (T := TX6) (N := 6) hx hb hts i_X6_row_X6 hown hK hP 0 rfl rfl 2 (by decide) (hts (.fieldLink RX6 21 "StatementRules2$Opens" "count" "I") k_X6_row_fieldLink_RX6_21_SR_Opens_count_I) (fun _ h9 => h9) rfl dX6_row_6 ?_
  refine lv_icmp_ge (tgt := 30) hx hb dX6_row_9 (by decide) (fun c9 => absurd c9 (by decide)) (fun _ => ?_)
  refine lv_iload_n hx hb dX6_row_12 rfl (lv_at hl 1 rfl) ?_
  refine lv_aload_n hx hb dX6_row_13 rfl (lv_at hl 0 rfl) ?_
  refine va_get (D := (dC, dI)) (ci := 5) (v := .ref qr) (C := RX6) (T := TX6) (N := 6) hx hb hts i_X6_row_X6 hown hK hP 0 rfl rfl 0 (by decide) (hts (.fieldLink RX6 11 "StatementRules2$Opens" "rows" "[LStatementRules2$Open;") k_X6_row_fieldLink_RX6_11_SR_Opens_rows_LSR_Open) (fun _ h9 => h9) rfl dX6_row_14 ?_
  refine va_alen (v := 400) hx hb hK hP 1 0 rfl rfl rfl dX6_row_17 ?_
  refine lv_icmp_ge (tgt := 30) hx hb dX6_row_18 (by decide) (fun c9 => absurd c9 (by decide)) (fun _ => ?_)
  refine lv_aload_n hx hb dX6_row_21 rfl (lv_at hl 0 rfl) ?_
  refine va_get (D := (dC, dI)) (ci := 5) (v := .ref qr) (C := RX6) (T := TX6) (N := 6) hx hb hts i_X6_row_X6 hown hK hP 0 rfl rfl 0 (by decide) (hts (.fieldLink RX6 11 "StatementRules2$Opens" "rows" "[LStatementRules2$Open;") k_X6_row_fieldLink_RX6_11_SR_Opens_rows_LSR_Open) (fun _ h9 => h9) rfl dX6_row_22 ?_
  refine lv_iload_n hx hb dX6_row_25 rfl (lv_at hl 1 rfl) ?_
  refine va_aldq hx hb hK hP 1 0 rfl rfl (by unfold vp_in; decide) dX6_row_26 ?_
  refine W.eq (g2 := F0 m 27 ls [.ref q5]) rfl ?_
  refine lv_goto (tgt := 31) hx hb dX6_row_27 (by decide) ?_
  have hP9 := hP.sub (ws' := [(h0, .inr (5, [.ref qr, p_jumps, .int 1, p_serials, p_jumpCount, p_arm])), (qr, .inl (kr, 400, .inr (.inr (.inr (.inr (va_up (fun _ => none) 0 (some q5)))))))]) [0, 1] rfl
  have hD9 := hD.sub (ws' := [(h0, .inr (5, [.ref qr, p_jumps, .int 1, p_serials, p_jumpCount, p_arm])), (qr, .inl (kr, 400, .inr (.inr (.inr (.inr (va_up (fun _ => none) 0 (some q5)))))))]) [0, 1] (by decide) rfl
  have hK9 := hK.sub (tys' := [(kr, .object "StatementRules2$Open")]) [0] rfl
  exact W.aret (v := .ref q5) hx hb hr (Or.inl ⟨_, rfl⟩) (Or.inr ⟨_, rfl⟩) (fun t ht hW => ⟨⟨(), q5, rfl, trivial, rfl, by rw [ht]; exact hP9, va_K.moved hW.alike hK9, hD9⟩, hS.F ht⟩) hS.2.2 dX6_row_31
theorem k_X6_pop_fieldLink_RX6_21_SR_Opens_count_I : Cond.fieldLink RX6 21 "StatementRules2$Opens" "count" "I" ∈ wzX6_pop := List.mem_cons_of_mem _ (List.mem_append_left _ (List.mem_of_getElem? (i := 0) rfl))
theorem i_X6_pop_X6 : ∀ w ∈ wsX60, w ∈ wzX6_pop := fun _ h => List.mem_cons_of_mem _ (List.mem_append_right _ (List.mem_append_left _ (h)))
theorem k_X6_pop_methodLink_RX6_85_yJ9_max_7cf53 : Cond.methodLink RX6 85 yJ9_max_7cf53 ∈ wzX6_pop := List.mem_cons_of_mem _ (List.mem_append_left _ (List.mem_of_getElem? (i := 1) rfl))
theorem k_X6_pop_static_yJ9_max_7cf53 : Cond.static yJ9_max_7cf53 ∈ wzX6_pop := List.mem_cons_of_mem _ (List.mem_append_left _ (List.mem_of_getElem? (i := 2) rfl))
theorem k_X6_pop_initialized_RJ9 : Cond.initialized RJ9 ∈ wzX6_pop := List.mem_cons_of_mem _ (List.mem_append_left _ (List.mem_of_getElem? (i := 3) rfl))
theorem k_X6_pop_code_yJ9_max_7cf53_cJ9_max_7cf53_2_some_int : Cond.code yJ9_max_7cf53 cJ9_max_7cf53 2 (some .int) ∈ wzX6_pop := List.mem_cons_of_mem _ (List.mem_append_left _ (List.mem_of_getElem? (i := 4) rfl))
set_option maxHeartbeats 4000000 in
set_option maxRecDepth 100000 in
theorem c_X6_pop (l : Launch) (dC : Nat → ClassId) (dI : Nat → Nat → Nat) (sz : Nat) (h0 : Nat) (p_rows : Value) (p_jumps : Value) (p_serials : Value) (p_jumpCount : Value) (p_arm : Value) : Met l yX6_pop wzX6_pop ({ frames := 1, cells := 0, slots := 0, locals := 60 }) (va_Pc [.ref h0] (zPre dC dI sz [(h0, .inr (5, [p_rows, p_jumps, .int 1, p_serials, p_jumpCount, p_arm]))] [])) (va_Qv (fun (_ : Unit) => True) (fun (_ : Unit) (t : State) => zPost dC dI (va_A [(h0, .inr (5, [p_rows, p_jumps, .int 1, p_serials, p_jumpCount, p_arm]))] sz) [(h0, .inr (5, [p_rows, p_jumps, .int 0, p_serials, p_jumpCount, p_arm]))] [] t) (va_A [(h0, .inr (5, [p_rows, p_jumps, .int 1, p_serials, p_jumpCount, p_arm]))] sz)) 0 0 (va_A [(h0, .inr (5, [p_rows, p_jumps, .int 1, p_serials, p_jumpCount, p_arm]))] sz) := by
  refine Met.ofW (cc := cX6_pop) (maxL := 1) (ret := none) (by decide) rfl ?_
  intro p e s m args below meth c s₁ B hml hv
  obtain ⟨rfl, hsz, hZ, hP, hK, hD0⟩ := hv
  have hx := B.exec
  have hb := B.bytes
  have hr := B.returns
  have hts := atoms_spec (ws := wzX6_pop) B.pre
  have hown : s.vm.findClass RX6 = some m.cls := findClass_of_methodNamed B.named
  have hlocks := B.notSynchronized
  subst hsz
  have hD := hD0.self (sz := s.heap.size)
  generalize hAe : va_A [(h0, .inr (5, [p_rows, p_jumps, .int 1, p_serials, p_jumpCount, p_arm]))] s.heap.size = A at hD ⊢
  have hA : ∀ q : Nat, s.heap.size ≤ q → A q := fun q h => by rw [← hAe]; exact Or.inr h
  have hS : va_S A s.heap s.heap [] := va_S.rf
  have hP : va_P (dC, dI) vwCl [(h0, .inr (5, [p_rows, p_jumps, .int 1, p_serials, p_jumpCount, p_arm]))] s.heap := hP
  have hl := lv_entry ([.ref h0]) (n := 1) (Nat.le_of_ble_eq_true rfl)
  rw [lg_entry_eq]
  generalize (lg_sl ([.ref h0]) ++ List.replicate (1 - (lg_sl ([.ref h0])).length) Slot.unset).toArray = ls at hl ⊢
  have hl : lv_has ls 1 [(0, .ref h0)] := hl
  refine lv_aload_n hx hb dX6_pop_0 rfl (lv_at hl 0 rfl) ?_
  refine lv_iconst (v := 0) hx hb dX6_pop_1 (by decide) ?_
  refine lv_aload_n hx hb dX6_pop_2 rfl (lv_at hl 0 rfl) ?_
  refine va_get (D := (dC, dI)) (ci := 5) (v := .int 1) (C := RX6) (T := TX6) (N := 6) hx hb hts i_X6_pop_X6 hown hK hP 0 rfl rfl 2 (by decide) (hts (.fieldLink RX6 21 "StatementRules2$Opens" "count" "I") k_X6_pop_fieldLink_RX6_21_SR_Opens_count_I) (fun _ h9 => h9) rfl dX6_pop_3 ?_
  refine lv_iconst (v := 1) hx hb dX6_pop_6 (by decide) ?_
  refine lv_isub hx hb dX6_pop_7 ?_
  refine lv_topi (fun z1 ez1 => ?_)
  obtain rfl : z1 = 0 := ez1.trans (by decide)
  refine va_mmax hx hb (hml.trans hl.1.symm) hown (hts (.methodLink RX6 85 yJ9_max_7cf53) k_X6_pop_methodLink_RX6_85_yJ9_max_7cf53) (hts (.static yJ9_max_7cf53) k_X6_pop_static_yJ9_max_7cf53) (hts (.initialized RJ9) k_X6_pop_initialized_RJ9) (hts (.code yJ9_max_7cf53 cJ9_max_7cf53 2 (some .int)) k_X6_pop_code_yJ9_max_7cf53_cJ9_max_7cf53_2_some_int) (Nat.le_of_ble_eq_true rfl) (Nat.le_of_ble_eq_true rfl) (Nat.le_of_ble_eq_true rfl) (Nat.le_of_ble_eq_true rfl) dX6_pop_8 ?_
  refine lv_topi (fun z2 ez2 => ?_)
  obtain rfl : z2 = 0 := ez2.trans (by decide)
  refine va_put (D := (dC, dI)) (ci := 5) (v := .int 0) (ty := .int) (C := RX6) (T := TX6) (N := 6) hx hb hts i_X6_pop_X6 tyX6 tyX6_ok nmX6 hown hK hP hD hS 0 rfl rfl 2 (by decide) (hts (.fieldLink RX6 21 "StatementRules2$Opens" "count" "I") k_X6_pop_fieldLink_RX6_21_SR_Opens_count_I) (fun _ h9 => h9) rfl (by decide +kernel) rfl rfl (Nat.le_of_ble_eq_true rfl) dX6_pop_11 (fun H locs hP hD hS => ?_)
  have hP : va_P (dC, dI) vwCl [(h0, .inr (5, [p_rows, p_jumps, .int 0, p_serials, p_jumpCount, p_arm]))] H := hP
  have hD : va_D A [(h0, .inr (5, [p_rows, p_jumps, .int 0, p_serials, p_jumpCount, p_arm]))] := hD
  have hP9 := hP.sub (ws' := [(h0, .inr (5, [p_rows, p_jumps, .int 0, p_serials, p_jumpCount, p_arm]))]) [0] rfl
  have hD9 := hD.sub (ws' := [(h0, .inr (5, [p_rows, p_jumps, .int 0, p_serials, p_jumpCount, p_arm]))]) [0] (by decide) rfl
  have hK9 := hK.sub (tys' := []) [] rfl
  exact W.vret hx hb hr (fun t ht hW => ⟨⟨(), rfl, trivial, by rw [ht]; exact hP9, va_K.moved hW.alike hK9, hD9⟩, hS.F ht⟩) hS.2.2 dX6_pop_14
theorem k_X5_isLoop_fieldLink_RX5_9_SR_Open_sort_I : Cond.fieldLink RX5 9 "StatementRules2$Open" "sort" "I" ∈ wzX5_isLoop := List.mem_cons_of_mem _ (List.mem_append_left _ (List.mem_of_getElem? (i := 0) rfl))
theorem i_X5_isLoop_X5 : ∀ w ∈ wsX50, w ∈ wzX5_isLoop := fun _ h => List.mem_cons_of_mem _ (List.mem_append_right _ (List.mem_append_left _ (h)))
set_option maxHeartbeats 4000000 in
set_option maxRecDepth 100000 in
theorem c_X5_isLoop (l : Launch) (dC : Nat → ClassId) (dI : Nat → Nat → Nat) (sz : Nat) (h0 : Nat) (b_serial : Value) (b_depth : Value) (b_namesBefore : Value) (b_label : Value) (b_begun : Value) (b_ends : Value) (b_never : Value) (b_whole : Value) (b_exit : Value) (b_next : Value) (b_other : Value) (b_caught : Value) (b_firstCase : Value) (b_firstJump : Value) (b_finallyJump : Value) (b_outerArm : Value) : Met l yX5_isLoop wzX5_isLoop ({ frames := 1, cells := 0, slots := 0, locals := 60 }) (va_Pc [.ref h0] (zPre dC dI sz [(h0, .inr (4, [.int 300, b_serial, b_depth, b_namesBefore, b_label, b_begun, b_ends, b_never, b_whole, b_exit, b_next, b_other, b_caught, b_firstCase, b_firstJump, b_finallyJump, b_outerArm]))] [])) (va_Qi (fun (r : Int32) (_ : Unit) => r = 0) (fun (_ : Unit) (t : State) => zPost dC dI (va_A [(h0, .inr (4, [.int 300, b_serial, b_depth, b_namesBefore, b_label, b_begun, b_ends, b_never, b_whole, b_exit, b_next, b_other, b_caught, b_firstCase, b_firstJump, b_finallyJump, b_outerArm]))] sz) [(h0, .inr (4, [.int 300, b_serial, b_depth, b_namesBefore, b_label, b_begun, b_ends, b_never, b_whole, b_exit, b_next, b_other, b_caught, b_firstCase, b_firstJump, b_finallyJump, b_outerArm]))] [] t) (va_A [(h0, .inr (4, [.int 300, b_serial, b_depth, b_namesBefore, b_label, b_begun, b_ends, b_never, b_whole, b_exit, b_next, b_other, b_caught, b_firstCase, b_firstJump, b_finallyJump, b_outerArm]))] sz)) 0 0 (va_A [(h0, .inr (4, [.int 300, b_serial, b_depth, b_namesBefore, b_label, b_begun, b_ends, b_never, b_whole, b_exit, b_next, b_other, b_caught, b_firstCase, b_firstJump, b_finallyJump, b_outerArm]))] sz) := by
  refine Met.ofW (cc := cX5_isLoop) (maxL := 1) (ret := (some .boolean)) (by decide) rfl ?_
  intro p e s m args below meth c s₁ B hml hv
  obtain ⟨rfl, hsz, hZ, hP, hK, hD0⟩ := hv
  have hx := B.exec
  have hb := B.bytes
  have hr := B.returns
  have hts := atoms_spec (ws := wzX5_isLoop) B.pre
  have hown : s.vm.findClass RX5 = some m.cls := findClass_of_methodNamed B.named
  have hlocks := B.notSynchronized
  subst hsz
  have hD := hD0.self (sz := s.heap.size)
  generalize hAe : va_A [(h0, .inr (4, [.int 300, b_serial, b_depth, b_namesBefore, b_label, b_begun, b_ends, b_never, b_whole, b_exit, b_next, b_other, b_caught, b_firstCase, b_firstJump, b_finallyJump, b_outerArm]))] s.heap.size = A at hD ⊢
  have hA : ∀ q : Nat, s.heap.size ≤ q → A q := fun q h => by rw [← hAe]; exact Or.inr h
  have hS : va_S A s.heap s.heap [] := va_S.rf
  have hP : va_P (dC, dI) vwCl [(h0, .inr (4, [.int 300, b_serial, b_depth, b_namesBefore, b_label, b_begun, b_ends, b_never, b_whole, b_exit, b_next, b_other, b_caught, b_firstCase, b_firstJump, b_finallyJump, b_outerArm]))] s.heap := hP
  have hl := lv_entry ([.ref h0]) (n := 1) (Nat.le_of_ble_eq_true rfl)
  rw [lg_entry_eq]
  generalize (lg_sl ([.ref h0]) ++ List.replicate (1 - (lg_sl ([.ref h0])).length) Slot.unset).toArray = ls at hl ⊢
  have hl : lv_has ls 1 [(0, .ref h0)] := hl
  refine lv_aload_n hx hb dX5_isLoop_0 rfl (lv_at hl 0 rfl) ?_
  refine va_get (D := (dC, dI)) (ci := 4) (v := .int 300) (C := RX5) (T := TX5) (N := 17) hx hb hts i_X5_isLoop_X5 hown hK hP 0 rfl rfl 0 (by decide) (hts (.fieldLink RX5 9 "StatementRules2$Open" "sort" "I") k_X5_isLoop_fieldLink_RX5_9_SR_Open_sort_I) (fun _ h9 => h9) rfl dX5_isLoop_1 ?_
  refine lv_sipush (v := 205) hx hb dX5_isLoop_4 (by decide) ?_
  refine lv_icmp_eq (tgt := 40) hx hb dX5_isLoop_7 (by decide) (fun c9 => absurd c9 (by decide)) (fun _ => ?_)
  refine lv_aload_n hx hb dX5_isLoop_10 rfl (lv_at hl 0 rfl) ?_
  refine va_get (D := (dC, dI)) (ci := 4) (v := .int 300) (C := RX5) (T := TX5) (N := 17) hx hb hts i_X5_isLoop_X5 hown hK hP 0 rfl rfl 0 (by decide) (hts (.fieldLink RX5 9 "StatementRules2$Open" "sort" "I") k_X5_isLoop_fieldLink_RX5_9_SR_Open_sort_I) (fun _ h9 => h9) rfl dX5_isLoop_11 ?_
  refine lv_sipush (v := 206) hx hb dX5_isLoop_14 (by decide) ?_
  refine lv_icmp_eq (tgt := 40) hx hb dX5_isLoop_17 (by decide) (fun c9 => absurd c9 (by decide)) (fun _ => ?_)
  refine lv_aload_n hx hb dX5_isLoop_20 rfl (lv_at hl 0 rfl) ?_
  refine va_get (D := (dC, dI)) (ci := 4) (v := .int 300) (C := RX5) (T := TX5) (N := 17) hx hb hts i_X5_isLoop_X5 hown hK hP 0 rfl rfl 0 (by decide) (hts (.fieldLink RX5 9 "StatementRules2$Open" "sort" "I") k_X5_isLoop_fieldLink_RX5_9_SR_Open_sort_I) (fun _ h9 => h9) rfl dX5_isLoop_21 ?_
  refine lv_sipush (v := 207) hx hb dX5_isLoop_24 (by decide) ?_
  refine lv_icmp_eq (tgt := 40) hx hb dX5_isLoop_27 (by decide) (fun c9 => absurd c9 (by decide)) (fun _ => ?_)
  refine lv_aload_n hx hb dX5_isLoop_30 rfl (lv_at hl 0 rfl) ?_
  refine va_get (D := (dC, dI)) (ci := 4) (v := .int 300) (C := RX5) (T := TX5) (N := 17) hx hb hts i_X5_isLoop_X5 hown hK hP 0 rfl rfl 0 (by decide) (hts (.fieldLink RX5 9 "StatementRules2$Open" "sort" "I") k_X5_isLoop_fieldLink_RX5_9_SR_Open_sort_I) (fun _ h9 => h9) rfl dX5_isLoop_31 ?_
  refine lv_sipush (v := 304) hx hb dX5_isLoop_34 (by decide) ?_
  refine lv_icmp_ne (tgt := 44) hx hb dX5_isLoop_37 (by decide) (fun _ => ?_) (fun c9 => absurd c9 (by decide))
  refine lv_iconst (v := 0) hx hb dX5_isLoop_44 (by decide) ?_
  have hP9 := hP.sub (ws' := [(h0, .inr (4, [.int 300, b_serial, b_depth, b_namesBefore, b_label, b_begun, b_ends, b_never, b_whole, b_exit, b_next, b_other, b_caught, b_firstCase, b_firstJump, b_finallyJump, b_outerArm]))]) [0] rfl
  have hD9 := hD.sub (ws' := [(h0, .inr (4, [.int 300, b_serial, b_depth, b_namesBefore, b_label, b_begun, b_ends, b_never, b_whole, b_exit, b_next, b_other, b_caught, b_firstCase, b_firstJump, b_finallyJump, b_outerArm]))]) [0] (by decide) rfl
  have hK9 := hK.sub (tys' := []) [] rfl
  exact W.zret (v := 0) hx hb hr (rfl) (fun t ht hW => ⟨⟨0, (), rfl, rfl, by rw [ht]; exact hP9, va_K.moved hW.alike hK9, hD9⟩, hS.F ht⟩) hS.2.2 dX5_isLoop_45
theorem k_X5_hasOneBody_fieldLink_RX5_9_SR_Open_sort_I : Cond.fieldLink RX5 9 "StatementRules2$Open" "sort" "I" ∈ wzX5_hasOneBody := List.mem_cons_of_mem _ (List.mem_append_left _ (List.mem_of_getElem? (i := 0) rfl))
theorem i_X5_hasOneBody_X5 : ∀ w ∈ wsX50, w ∈ wzX5_hasOneBody := fun _ h => List.mem_cons_of_mem _ (List.mem_append_right _ (List.mem_append_left _ (h)))
set_option maxHeartbeats 4000000 in
set_option maxRecDepth 100000 in
theorem c_X5_hasOneBody (l : Launch) (dC : Nat → ClassId) (dI : Nat → Nat → Nat) (sz : Nat) (h0 : Nat) (b_serial : Value) (b_depth : Value) (b_namesBefore : Value) (b_label : Value) (b_begun : Value) (b_ends : Value) (b_never : Value) (b_whole : Value) (b_exit : Value) (b_next : Value) (b_other : Value) (b_caught : Value) (b_firstCase : Value) (b_firstJump : Value) (b_finallyJump : Value) (b_outerArm : Value) : Met l yX5_hasOneBody wzX5_hasOneBody ({ frames := 2, cells := 0, slots := 0, locals := 120 }) (va_Pc [.ref h0] (zPre dC dI sz [(h0, .inr (4, [.int 300, b_serial, b_depth, b_namesBefore, b_label, b_begun, b_ends, b_never, b_whole, b_exit, b_next, b_other, b_caught, b_firstCase, b_firstJump, b_finallyJump, b_outerArm]))] [])) (va_Qi (fun (r : Int32) (_ : Unit) => r = 0) (fun (_ : Unit) (t : State) => zPost dC dI (va_A [(h0, .inr (4, [.int 300, b_serial, b_depth, b_namesBefore, b_label, b_begun, b_ends, b_never, b_whole, b_exit, b_next, b_other, b_caught, b_firstCase, b_firstJump, b_finallyJump, b_outerArm]))] sz) [(h0, .inr (4, [.int 300, b_serial, b_depth, b_namesBefore, b_label, b_begun, b_ends, b_never, b_whole, b_exit, b_next, b_other, b_caught, b_firstCase, b_firstJump, b_finallyJump, b_outerArm]))] [] t) (va_A [(h0, .inr (4, [.int 300, b_serial, b_depth, b_namesBefore, b_label, b_begun, b_ends, b_never, b_whole, b_exit, b_next, b_other, b_caught, b_firstCase, b_firstJump, b_finallyJump, b_outerArm]))] sz)) 0 0 (va_A [(h0, .inr (4, [.int 300, b_serial, b_depth, b_namesBefore, b_label, b_begun, b_ends, b_never, b_whole, b_exit, b_next, b_other, b_caught, b_firstCase, b_firstJump, b_finallyJump, b_outerArm]))] sz) := by
  refine Met.ofW (cc := cX5_hasOneBody) (maxL := 1) (ret := (some .boolean)) (by decide) rfl ?_
  intro p e s m args below meth c s₁ B hml hv
  obtain ⟨rfl, hsz, hZ, hP, hK, hD0⟩ := hv
  have hx := B.exec
  have hb := B.bytes
  have hr := B.returns
  have hts := atoms_spec (ws := wzX5_hasOneBody) B.pre
  have hown : s.vm.findClass RX5 = some m.cls := findClass_of_methodNamed B.named
  have hlocks := B.notSynchronized
  subst hsz
  have hD := hD0.self (sz := s.heap.size)
  generalize hAe : va_A [(h0, .inr (4, [.int 300, b_serial, b_depth, b_namesBefore, b_label, b_begun, b_ends, b_never, b_whole, b_exit, b_next, b_other, b_caught, b_firstCase, b_firstJump, b_finallyJump, b_outerArm]))] s.heap.size = A at hD ⊢
  have hA : ∀ q : Nat, s.heap.size ≤ q → A q := fun q h => by rw [← hAe]; exact Or.inr h
  have hS : va_S A s.heap s.heap [] := va_S.rf
  have hP : va_P (dC, dI) vwCl [(h0, .inr (4, [.int 300, b_serial, b_depth, b_namesBefore, b_label, b_begun, b_ends, b_never, b_whole, b_exit, b_next, b_other, b_caught, b_firstCase, b_firstJump, b_finallyJump, b_outerArm]))] s.heap := hP
  have hl := lv_entry ([.ref h0]) (n := 1) (Nat.le_of_ble_eq_true rfl)
  rw [lg_entry_eq]
  generalize (lg_sl ([.ref h0]) ++ List.replicate (1 - (lg_sl ([.ref h0])).length) Slot.unset).toArray = ls at hl ⊢
  have hl : lv_has ls 1 [(0, .ref h0)] := hl
  refine lv_aload_n hx hb dX5_hasOneBody_0 rfl (lv_at hl 0 rfl) ?_
  have hPc := hP.sub (ws' := [(h0, .inr (4, [.int 300, b_serial, b_depth, b_namesBefore, b_label, b_begun, b_ends, b_never, b_whole, b_exit, b_next, b_other, b_caught, b_firstCase, b_firstJump, b_finallyJump, b_outerArm]))]) [0] rfl
  have hDc := hD.sub (ws' := [(h0, .inr (4, [.int 300, b_serial, b_depth, b_namesBefore, b_label, b_begun, b_ends, b_never, b_whole, b_exit, b_next, b_other, b_caught, b_firstCase, b_firstJump, b_finallyJump, b_outerArm]))]) [0] (by decide) rfl
  have hKc := hK.sub (tys' := []) [] rfl
  have hFc := va_free (wc := [(h0, .inr (4, [.int 300, b_serial, b_depth, b_namesBefore, b_label, b_begun, b_ends, b_never, b_whole, b_exit, b_next, b_other, b_caught, b_firstCase, b_firstJump, b_finallyJump, b_outerArm]))]) hD hS hA [0] rfl
  refine va_calli (va_runV (As := []) (rest := []) ⟨hx, hb, hml, hown, hts⟩ (c_X5_isLoop l dC dI _ h0 b_serial b_depth b_namesBefore b_label b_begun b_ends b_never b_whole b_exit b_next b_other b_caught b_firstCase b_firstJump b_finallyJump b_outerArm) (cwV 0 hts hX5_hasOneBody_X5_isLoop_v15 rfl rfl rfl (by decide +kernel) ⟨Nat.le_of_ble_eq_true rfl, Nat.le_of_ble_eq_true rfl⟩) ⟨zPre.blind, va_recv hKc hPc (ci := 4) (q0 := 0) rfl rfl, zPre.go hZ hPc hKc hDc⟩ rfl rfl hl.1 rfl (lv_room (Nat.le_of_ble_eq_true rfl)) dX5_hasOneBody_1 ⟨Nat.le_of_ble_eq_true rfl, Nat.le_of_ble_eq_true rfl⟩) hS (fun q _ h => hFc q h) hFc (fun r1 u9 t9 H1 locs ht hvm hw hB hz1 hk1 hS => ?_)
  obtain ⟨hP1, hK1, hD1⟩ := hB
  rw [ht] at hP1
  have hK1 := va_K.moved hvm.symm hK1
  obtain ⟨hP, hD⟩ := va_join (wr := []) (w1 := [(h0, .inr (4, [.int 300, b_serial, b_depth, b_namesBefore, b_label, b_begun, b_ends, b_never, b_whole, b_exit, b_next, b_other, b_caught, b_firstCase, b_firstJump, b_finallyJump, b_outerArm]))]) hP hD [0] [] rfl rfl (by decide) (by decide) hk1 hFc hP1 hD1
  have hK := hK.app hK1
  generalize H1 = H at hP hS ⊢
  have hP : va_P (dC, dI) vwCl [(h0, .inr (4, [.int 300, b_serial, b_depth, b_namesBefore, b_label, b_begun, b_ends, b_never, b_whole, b_exit, b_next, b_other, b_caught, b_firstCase, b_firstJump, b_finallyJump, b_outerArm]))] H := hP
  have hD : va_D A [(h0, .inr (4, [.int 300, b_serial, b_depth, b_namesBefore, b_label, b_begun, b_ends, b_never, b_whole, b_exit, b_next, b_other, b_caught, b_firstCase, b_firstJump, b_finallyJump, b_outerArm]))] := hD
  have hK : va_K (dC, dI) vwCl [] s := hK
  obtain rfl : r1 = 0 := hw
  refine lv_if_ne (tgt := 37) hx hb dX5_hasOneBody_4 (by decide) (fun c9 => absurd (by decide) c9) (fun _ => ?_)
  refine lv_aload_n hx hb dX5_hasOneBody_7 rfl (lv_at hl 0 rfl) ?_
  refine va_get (D := (dC, dI)) (ci := 4) (v := .int 300) (C := RX5) (T := TX5) (N := 17) hx hb hts i_X5_hasOneBody_X5 hown hK hP 0 rfl rfl 0 (by decide) (hts (.fieldLink RX5 9 "StatementRules2$Open" "sort" "I") k_X5_hasOneBody_fieldLink_RX5_9_SR_Open_sort_I) (fun _ h9 => h9) rfl dX5_hasOneBody_8 ?_
  refine lv_sipush (v := 303) hx hb dX5_hasOneBody_11 (by decide) ?_
  refine lv_icmp_eq (tgt := 37) hx hb dX5_hasOneBody_14 (by decide) (fun c9 => absurd c9 (by decide)) (fun _ => ?_)
  refine lv_aload_n hx hb dX5_hasOneBody_17 rfl (lv_at hl 0 rfl) ?_
  refine va_get (D := (dC, dI)) (ci := 4) (v := .int 300) (C := RX5) (T := TX5) (N := 17) hx hb hts i_X5_hasOneBody_X5 hown hK hP 0 rfl rfl 0 (by decide) (hts (.fieldLink RX5 9 "StatementRules2$Open" "sort" "I") k_X5_hasOneBody_fieldLink_RX5_9_SR_Open_sort_I) (fun _ h9 => h9) rfl dX5_hasOneBody_18 ?_
  refine lv_sipush (v := 203) hx hb dX5_hasOneBody_21 (by decide) ?_
  refine lv_icmp_eq (tgt := 37) hx hb dX5_hasOneBody_24 (by decide) (fun c9 => absurd c9 (by decide)) (fun _ => ?_)
  refine lv_aload_n hx hb dX5_hasOneBody_27 rfl (lv_at hl 0 rfl) ?_
  refine va_get (D := (dC, dI)) (ci := 4) (v := .int 300) (C := RX5) (T := TX5) (N := 17) hx hb hts i_X5_hasOneBody_X5 hown hK hP 0 rfl rfl 0 (by decide) (hts (.fieldLink RX5 9 "StatementRules2$Open" "sort" "I") k_X5_hasOneBody_fieldLink_RX5_9_SR_Open_sort_I) (fun _ h9 => h9) rfl dX5_hasOneBody_28 ?_
  refine lv_sipush (v := 204) hx hb dX5_hasOneBody_31 (by decide) ?_
  refine lv_icmp_ne (tgt := 41) hx hb dX5_hasOneBody_34 (by decide) (fun _ => ?_) (fun c9 => absurd c9 (by decide))
  refine lv_iconst (v := 0) hx hb dX5_hasOneBody_41 (by decide) ?_
  have hP9 := hP.sub (ws' := [(h0, .inr (4, [.int 300, b_serial, b_depth, b_namesBefore, b_label, b_begun, b_ends, b_never, b_whole, b_exit, b_next, b_other, b_caught, b_firstCase, b_firstJump, b_finallyJump, b_outerArm]))]) [0] rfl
  have hD9 := hD.sub (ws' := [(h0, .inr (4, [.int 300, b_serial, b_depth, b_namesBefore, b_label, b_begun, b_ends, b_never, b_whole, b_exit, b_next, b_other, b_caught, b_firstCase, b_firstJump, b_finallyJump, b_outerArm]))]) [0] (by decide) rfl
  have hK9 := hK.sub (tys' := []) [] rfl
  exact W.zret (v := 0) hx hb hr (rfl) (fun t ht hW => ⟨⟨0, (), rfl, rfl, by rw [ht]; exact hP9, va_K.moved hW.alike hK9, hD9⟩, hS.F ht⟩) hS.2.2 dX5_hasOneBody_42
