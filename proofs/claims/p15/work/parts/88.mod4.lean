theorem k_X0_clear_fieldLink_RX0_27_SR_Code_size_I : Cond.fieldLink RX0 27 "StatementRules2$Code" "size" "I" ∈ wzX0_clear := List.mem_cons_of_mem _ (List.mem_append_left _ (List.mem_of_getElem? (i := 0) rfl))
theorem i_X0_clear_X0 : ∀ w ∈ wsX00, w ∈ wzX0_clear := fun _ h => List.mem_cons_of_mem _ (List.mem_append_right _ (List.mem_append_left _ (h)))
theorem k_X0_clear_fieldLink_RX0_31_SR_Code_targetCount_I : Cond.fieldLink RX0 31 "StatementRules2$Code" "targetCount" "I" ∈ wzX0_clear := List.mem_cons_of_mem _ (List.mem_append_left _ (List.mem_of_getElem? (i := 1) rfl))
theorem k_X0_clear_fieldLink_RX0_34_SR_Code_caseCount_I : Cond.fieldLink RX0 34 "StatementRules2$Code" "caseCount" "I" ∈ wzX0_clear := List.mem_cons_of_mem _ (List.mem_append_left _ (List.mem_of_getElem? (i := 2) rfl))
theorem k_X0_clear_fieldLink_RX0_37_SR_Code_cellCount_I : Cond.fieldLink RX0 37 "StatementRules2$Code" "cellCount" "I" ∈ wzX0_clear := List.mem_cons_of_mem _ (List.mem_append_left _ (List.mem_of_getElem? (i := 3) rfl))
theorem k_X0_clear_fieldLink_RX0_40_SR_Code_statements_I : Cond.fieldLink RX0 40 "StatementRules2$Code" "statements" "I" ∈ wzX0_clear := List.mem_cons_of_mem _ (List.mem_append_left _ (List.mem_of_getElem? (i := 4) rfl))
theorem k_X0_clear_fieldLink_RX0_43_SR_Code_toldNames_I : Cond.fieldLink RX0 43 "StatementRules2$Code" "toldNames" "I" ∈ wzX0_clear := List.mem_cons_of_mem _ (List.mem_append_left _ (List.mem_of_getElem? (i := 5) rfl))
theorem k_X0_clear_fieldLink_RX0_46_SR_Code_jumps_I : Cond.fieldLink RX0 46 "StatementRules2$Code" "jumps" "I" ∈ wzX0_clear := List.mem_cons_of_mem _ (List.mem_append_left _ (List.mem_of_getElem? (i := 6) rfl))
theorem k_X0_clear_fieldLink_RX0_49_SR_Code_endReached_Z : Cond.fieldLink RX0 49 "StatementRules2$Code" "endReached" "Z" ∈ wzX0_clear := List.mem_cons_of_mem _ (List.mem_append_left _ (List.mem_of_getElem? (i := 7) rfl))
set_option maxHeartbeats 4000000 in
set_option maxRecDepth 100000 in
theorem c_X0_clear (l : Launch) (dC : Nat → ClassId) (dI : Nat → Nat → Nat) (sz : Nat) (h0 : Nat) (o5 : Int32) (o6 : Int32) (o7 : Int32) (o8 : Int32) (o9 : Int32) (o10 : Int32) (o11 : Int32) (o12 : Int32) (qp : Nat) (qg : Nat) (qt : Nat) (qv : Nat) (qw : Nat) : Met l yX0_clear wzX0_clear ({ frames := 1, cells := 0, slots := 0, locals := 60 }) (va_Pc [.ref h0] (zPre dC dI sz [(h0, .inr (0, [.ref qp, .ref qg, .ref qt, .ref qv, .ref qw, .int o5, .int o6, .int o7, .int o8, .int o9, .int o10, .int o11, .int o12]))] [])) (va_Qv (fun (_ : Unit) => True) (fun (_ : Unit) (t : State) => ∃ (e5 : Int32), ∃ (e6 : Int32), ∃ (e7 : Int32), ∃ (e8 : Int32), ∃ (e9 : Int32), ∃ (e10 : Int32), ∃ (e11 : Int32), ∃ (e12 : Int32), zPost dC dI (va_A [(h0, .inr (0, [.ref qp, .ref qg, .ref qt, .ref qv, .ref qw, .int o5, .int o6, .int o7, .int o8, .int o9, .int o10, .int o11, .int o12]))] sz) [(h0, .inr (0, [.ref qp, .ref qg, .ref qt, .ref qv, .ref qw, .int e5, .int e6, .int e7, .int e8, .int e9, .int e10, .int e11, .int e12]))] [] t) (va_A [(h0, .inr (0, [.ref qp, .ref qg, .ref qt, .ref qv, .ref qw, .int o5, .int o6, .int o7, .int o8, .int o9, .int o10, .int o11, .int o12]))] sz)) 0 0 (va_A [(h0, .inr (0, [.ref qp, .ref qg, .ref qt, .ref qv, .ref qw, .int o5, .int o6, .int o7, .int o8, .int o9, .int o10, .int o11, .int o12]))] sz) := by
  refine Met.ofW (cc := cX0_clear) (maxL := 1) (ret := none) (by decide) rfl ?_
  intro p e s m args below meth c s₁ B hml hv
  obtain ⟨rfl, hsz, hZ, hP, hK, hD0⟩ := hv
  have hx := B.exec
  have hb := B.bytes
  have hr := B.returns
  have hts := atoms_spec (ws := wzX0_clear) B.pre
  have hown : s.vm.findClass RX0 = some m.cls := findClass_of_methodNamed B.named
  have hlocks := B.notSynchronized
  subst hsz
  have hD := hD0.self (sz := s.heap.size)
  generalize hAe : va_A [(h0, .inr (0, [.ref qp, .ref qg, .ref qt, .ref qv, .ref qw, .int o5, .int o6, .int o7, .int o8, .int o9, .int o10, .int o11, .int o12]))] s.heap.size = A at hD ⊢
  have hA : ∀ q : Nat, s.heap.size ≤ q → A q := fun q h => by rw [← hAe]; exact Or.inr h
  have hS : va_S A s.heap s.heap [] := va_S.rf
  have hP : va_P (dC, dI) vwCl [(h0, .inr (0, [.ref qp, .ref qg, .ref qt, .ref qv, .ref qw, .int o5, .int o6, .int o7, .int o8, .int o9, .int o10, .int o11, .int o12]))] s.heap := hP
  have hl := lv_entry ([.ref h0]) (n := 1) (Nat.le_of_ble_eq_true rfl)
  rw [lg_entry_eq]
  generalize (lg_sl ([.ref h0]) ++ List.replicate (1 - (lg_sl ([.ref h0])).length) Slot.unset).toArray = ls at hl ⊢
  have hl : lv_has ls 1 [(0, .ref h0)] := hl
  refine lv_aload_n hx hb dX0_clear_0 rfl (lv_at hl 0 rfl) ?_
  refine lv_iconst (v := 0) hx hb dX0_clear_1 (by decide) ?_
  refine va_put (D := (dC, dI)) (ci := 0) (v := .int 0) (ty := .int) (C := RX0) (T := TX0) (N := 13) hx hb hts i_X0_clear_X0 tyX0 tyX0_ok nmX0 hown hK hP hD hS 0 rfl rfl 5 (by decide) (hts (.fieldLink RX0 27 "StatementRules2$Code" "size" "I") k_X0_clear_fieldLink_RX0_27_SR_Code_size_I) (fun _ h9 => h9) rfl (by decide +kernel) rfl rfl (Nat.le_of_ble_eq_true rfl) dX0_clear_2 (fun H locs hP hD hS => ?_)
  have hP : va_P (dC, dI) vwCl [(h0, .inr (0, [.ref qp, .ref qg, .ref qt, .ref qv, .ref qw, .int 0, .int o6, .int o7, .int o8, .int o9, .int o10, .int o11, .int o12]))] H := hP
  have hD : va_D A [(h0, .inr (0, [.ref qp, .ref qg, .ref qt, .ref qv, .ref qw, .int 0, .int o6, .int o7, .int o8, .int o9, .int o10, .int o11, .int o12]))] := hD
  refine lv_aload_n hx hb dX0_clear_5 rfl (lv_at hl 0 rfl) ?_
  refine lv_iconst (v := 0) hx hb dX0_clear_6 (by decide) ?_
  refine va_put (D := (dC, dI)) (ci := 0) (v := .int 0) (ty := .int) (C := RX0) (T := TX0) (N := 13) hx hb hts i_X0_clear_X0 tyX0 tyX0_ok nmX0 hown hK hP hD hS 0 rfl rfl 6 (by decide) (hts (.fieldLink RX0 31 "StatementRules2$Code" "targetCount" "I") k_X0_clear_fieldLink_RX0_31_SR_Code_targetCount_I) (fun _ h9 => h9) rfl (by decide +kernel) rfl rfl (Nat.le_of_ble_eq_true rfl) dX0_clear_7 (fun H locs hP hD hS => ?_)
  have hP : va_P (dC, dI) vwCl [(h0, .inr (0, [.ref qp, .ref qg, .ref qt, .ref qv, .ref qw, .int 0, .int 0, .int o7, .int o8, .int o9, .int o10, .int o11, .int o12]))] H := hP
  have hD : va_D A [(h0, .inr (0, [.ref qp, .ref qg, .ref qt, .ref qv, .ref qw, .int 0, .int 0, .int o7, .int o8, .int o9, .int o10, .int o11, .int o12]))] := hD
  refine lv_aload_n hx hb dX0_clear_10 rfl (lv_at hl 0 rfl) ?_
  refine lv_iconst (v := 0) hx hb dX0_clear_11 (by decide) ?_
  refine va_put (D := (dC, dI)) (ci := 0) (v := .int 0) (ty := .int) (C := RX0) (T := TX0) (N := 13) hx hb hts i_X0_clear_X0 tyX0 tyX0_ok nmX0 hown hK hP hD hS 0 rfl rfl 7 (by decide) (hts (.fieldLink RX0 34 "StatementRules2$Code" "caseCount" "I") k_X0_clear_fieldLink_RX0_34_SR_Code_caseCount_I) (fun _ h9 => h9) rfl (by decide +kernel) rfl rfl (Nat.le_of_ble_eq_true rfl) dX0_clear_12 (fun H locs hP hD hS => ?_)
  have hP : va_P (dC, dI) vwCl [(h0, .inr (0, [.ref qp, .ref qg, .ref qt, .ref qv, .ref qw, .int 0, .int 0, .int 0, .int o8, .int o9, .int o10, .int o11, .int o12]))] H := hP
  have hD : va_D A [(h0, .inr (0, [.ref qp, .ref qg, .ref qt, .ref qv, .ref qw, .int 0, .int 0, .int 0, .int o8, .int o9, .int o10, .int o11, .int o12]))] := hD
  refine lv_aload_n hx hb dX0_clear_15 rfl (lv_at hl 0 rfl) ?_
  refine lv_iconst (v := 0) hx hb dX0_clear_16 (by decide) ?_
  refine va_put (D := (dC, dI)) (ci := 0) (v := .int 0) (ty := .int) (C := RX0) (T := TX0) (N := 13) hx hb hts i_X0_clear_X0 tyX0 tyX0_ok nmX0 hown hK hP hD hS 0 rfl rfl 8 (by decide) (hts (.fieldLink RX0 37 "StatementRules2$Code" "cellCount" "I") k_X0_clear_fieldLink_RX0_37_SR_Code_cellCount_I) (fun _ h9 => h9) rfl (by decide +kernel) rfl rfl (Nat.le_of_ble_eq_true rfl) dX0_clear_17 (fun H locs hP hD hS => ?_)
  have hP : va_P (dC, dI) vwCl [(h0, .inr (0, [.ref qp, .ref qg, .ref qt, .ref qv, .ref qw, .int 0, .int 0, .int 0, .int 0, .int o9, .int o10, .int o11, .int o12]))] H := hP
  have hD : va_D A [(h0, .inr (0, [.ref qp, .ref qg, .ref qt, .ref qv, .ref qw, .int 0, .int 0, .int 0, .int 0, .int o9, .int o10, .int o11, .int o12]))] := hD
  refine lv_aload_n hx hb dX0_clear_20 rfl (lv_at hl 0 rfl) ?_
  refine lv_iconst (v := 0) hx hb dX0_clear_21 (by decide) ?_
  refine va_put (D := (dC, dI)) (ci := 0) (v := .int 0) (ty := .int) (C := RX0) (T := TX0) (N := 13) hx hb hts i_X0_clear_X0 tyX0 tyX0_ok nmX0 hown hK hP hD hS 0 rfl rfl 9 (by decide) (hts (.fieldLink RX0 40 "StatementRules2$Code" "statements" "I") k_X0_clear_fieldLink_RX0_40_SR_Code_statements_I) (fun _ h9 => h9) rfl (by decide +kernel) rfl rfl (Nat.le_of_ble_eq_true rfl) dX0_clear_22 (fun H locs hP hD hS => ?_)
  have hP : va_P (dC, dI) vwCl [(h0, .inr (0, [.ref qp, .ref qg, .ref qt, .ref qv, .ref qw, .int 0, .int 0, .int 0, .int 0, .int 0, .int o10, .int o11, .int o12]))] H := hP
  have hD : va_D A [(h0, .inr (0, [.ref qp, .ref qg, .ref qt, .ref qv, .ref qw, .int 0, .int 0, .int 0, .int 0, .int 0, .int o10, .int o11, .int o12]))] := hD
  refine lv_aload_n hx hb dX0_clear_25 rfl (lv_at hl 0 rfl) ?_
  refine lv_iconst (v := 0) hx hb dX0_clear_26 (by decide) ?_
  refine va_put (D := (dC, dI)) (ci := 0) (v := .int 0) (ty := .int) (C := RX0) (T := TX0) (N := 13) hx hb hts i_X0_clear_X0 tyX0 tyX0_ok nmX0 hown hK hP hD hS 0 rfl rfl 10 (by decide) (hts (.fieldLink RX0 43 "StatementRules2$Code" "toldNames" "I") k_X0_clear_fieldLink_RX0_43_SR_Code_toldNames_I) (fun _ h9 => h9) rfl (by decide +kernel) rfl rfl (Nat.le_of_ble_eq_true rfl) dX0_clear_27 (fun H locs hP hD hS => ?_)
  have hP : va_P (dC, dI) vwCl [(h0, .inr (0, [.ref qp, .ref qg, .ref qt, .ref qv, .ref qw, .int 0, .int 0, .int 0, .int 0, .int 0, .int 0, .int o11, .int o12]))] H := hP
  have hD : va_D A [(h0, .inr (0, [.ref qp, .ref qg, .ref qt, .ref qv, .ref qw, .int 0, .int 0, .int 0, .int 0, .int 0, .int 0, .int o11, .int o12]))] := hD
  refine lv_aload_n hx hb dX0_clear_30 rfl (lv_at hl 0 rfl) ?_
  refine lv_iconst (v := 0) hx hb dX0_clear_31 (by decide) ?_
  refine va_put (D := (dC, dI)) (ci := 0) (v := .int 0) (ty := .int) (C := RX0) (T := TX0) (N := 13) hx hb hts i_X0_clear_X0 tyX0 tyX0_ok nmX0 hown hK hP hD hS 0 rfl rfl 11 (by decide) (hts (.fieldLink RX0 46 "StatementRules2$Code" "jumps" "I") k_X0_clear_fieldLink_RX0_46_SR_Code_jumps_I) (fun _ h9 => h9) rfl (by decide +kernel) rfl rfl (Nat.le_of_ble_eq_true rfl) dX0_clear_32 (fun H locs hP hD hS => ?_)
  have hP : va_P (dC, dI) vwCl [(h0, .inr (0, [.ref qp, .ref qg, .ref qt, .ref qv, .ref qw, .int 0, .int 0, .int 0, .int 0, .int 0, .int 0, .int 0, .int o12]))] H := hP
  have hD : va_D A [(h0, .inr (0, [.ref qp, .ref qg, .ref qt, .ref qv, .ref qw, .int 0, .int 0, .int 0, .int 0, .int 0, .int 0, .int 0, .int o12]))] := hD
  refine lv_aload_n hx hb dX0_clear_35 rfl (lv_at hl 0 rfl) ?_
  refine lv_iconst (v := 0) hx hb dX0_clear_36 (by decide) ?_
  refine va_put (D := (dC, dI)) (ci := 0) (v := .int 0) (ty := .boolean) (C := RX0) (T := TX0) (N := 13) hx hb hts i_X0_clear_X0 tyX0 tyX0_ok nmX0 hown hK hP hD hS 0 rfl rfl 12 (by decide) (hts (.fieldLink RX0 49 "StatementRules2$Code" "endReached" "Z") k_X0_clear_fieldLink_RX0_49_SR_Code_endReached_Z) (fun _ h9 => h9) rfl (by decide +kernel) rfl rfl (Nat.le_of_ble_eq_true rfl) dX0_clear_37 (fun H locs hP hD hS => ?_)
  have hP : va_P (dC, dI) vwCl [(h0, .inr (0, [.ref qp, .ref qg, .ref qt, .ref qv, .ref qw, .int 0, .int 0, .int 0, .int 0, .int 0, .int 0, .int 0, .int 0]))] H := hP
  have hD : va_D A [(h0, .inr (0, [.ref qp, .ref qg, .ref qt, .ref qv, .ref qw, .int 0, .int 0, .int 0, .int 0, .int 0, .int 0, .int 0, .int 0]))] := hD
  have hP9 := hP.sub (ws' := [(h0, .inr (0, [.ref qp, .ref qg, .ref qt, .ref qv, .ref qw, .int 0, .int 0, .int 0, .int 0, .int 0, .int 0, .int 0, .int 0]))]) [0] rfl
  have hD9 := hD.sub (ws' := [(h0, .inr (0, [.ref qp, .ref qg, .ref qt, .ref qv, .ref qw, .int 0, .int 0, .int 0, .int 0, .int 0, .int 0, .int 0, .int 0]))]) [0] (by decide) rfl
  have hK9 := hK.sub (tys' := []) [] rfl
  exact W.vret hx hb hr (fun t ht hW => ⟨⟨(), rfl, trivial, 0, 0, 0, 0, 0, 0, 0, 0, by rw [ht]; exact hP9, va_K.moved hW.alike hK9, hD9⟩, hS.F ht⟩) hS.2.2 dX0_clear_40
theorem k_X0_add_fieldLink_RX0_9_SR_Code_ops_I : Cond.fieldLink RX0 9 "StatementRules2$Code" "ops" "[I" ∈ wzX0_add := List.mem_cons_of_mem _ (List.mem_append_left _ (List.mem_of_getElem? (i := 0) rfl))
theorem i_X0_add_X0 : ∀ w ∈ wsX00, w ∈ wzX0_add := fun _ h => List.mem_cons_of_mem _ (List.mem_append_right _ (List.mem_append_left _ (h)))
theorem k_X0_add_fieldLink_RX0_27_SR_Code_size_I : Cond.fieldLink RX0 27 "StatementRules2$Code" "size" "I" ∈ wzX0_add := List.mem_cons_of_mem _ (List.mem_append_left _ (List.mem_of_getElem? (i := 1) rfl))
theorem k_X0_add_initialized_RX11 : Cond.initialized RX11 ∈ wzX0_add := List.mem_cons_of_mem _ (List.mem_append_left _ (List.mem_of_getElem? (i := 2) rfl))
theorem k_X0_add_static_yX11_put : Cond.static yX11_put ∈ wzX0_add := List.mem_cons_of_mem _ (List.mem_append_left _ (List.mem_of_getElem? (i := 3) rfl))
theorem k_X0_add_fieldLink_RX0_15_SR_Code_arguments_I : Cond.fieldLink RX0 15 "StatementRules2$Code" "arguments" "[I" ∈ wzX0_add := List.mem_cons_of_mem _ (List.mem_append_left _ (List.mem_of_getElem? (i := 4) rfl))
set_option maxHeartbeats 4000000 in
set_option maxRecDepth 100000 in
theorem c_X0_add (l : Launch) (dC : Nat → ClassId) (dI : Nat → Nat → Nat) (sz : Nat) (h0 : Nat) (x : Int32) (y : Int32) (o5 : Int32) (o6 : Int32) (o7 : Int32) (o8 : Int32) (o9 : Int32) (o10 : Int32) (o11 : Int32) (o12 : Int32) (qp : Nat) (qg : Nat) (qt : Nat) (qv : Nat) (qw : Nat) (kp : ClassId) (kg : ClassId) (fp : Nat → Int32) (fg : Nat → Int32) : Met l yX0_add wzX0_add ({ frames := 2, cells := 0, slots := 0, locals := 120 }) (va_Pc [.ref h0, .int x, .int y] (zPre dC dI sz [(h0, .inr (0, [.ref qp, .ref qg, .ref qt, .ref qv, .ref qw, .int o5, .int o6, .int o7, .int o8, .int o9, .int o10, .int o11, .int o12])), (qp, .inl (kp, 1200, .inl fp)), (qg, .inl (kg, 1200, .inl fg))] [(kp, .int), (kg, .int)])) (va_Qv (fun (_ : Unit) => True) (fun (_ : Unit) (t : State) => ∃ (e5 : Int32), ∃ (bfp : Nat → Int32), ∃ (bfg : Nat → Int32), zPost dC dI (va_A [(h0, .inr (0, [.ref qp, .ref qg, .ref qt, .ref qv, .ref qw, .int o5, .int o6, .int o7, .int o8, .int o9, .int o10, .int o11, .int o12])), (qp, .inl (kp, 1200, .inl fp)), (qg, .inl (kg, 1200, .inl fg))] sz) [(h0, .inr (0, [.ref qp, .ref qg, .ref qt, .ref qv, .ref qw, .int e5, .int o6, .int o7, .int o8, .int o9, .int o10, .int o11, .int o12])), (qp, .inl (kp, 1200, .inl bfp)), (qg, .inl (kg, 1200, .inl bfg))] [(kp, .int), (kg, .int)] t) (va_A [(h0, .inr (0, [.ref qp, .ref qg, .ref qt, .ref qv, .ref qw, .int o5, .int o6, .int o7, .int o8, .int o9, .int o10, .int o11, .int o12])), (qp, .inl (kp, 1200, .inl fp)), (qg, .inl (kg, 1200, .inl fg))] sz)) 0 0 (va_A [(h0, .inr (0, [.ref qp, .ref qg, .ref qt, .ref qv, .ref qw, .int o5, .int o6, .int o7, .int o8, .int o9, .int o10, .int o11, .int o12])), (qp, .inl (kp, 1200, .inl fp)), (qg, .inl (kg, 1200, .inl fg))] sz) := by
  refine Met.ofW (cc := cX0_add) (maxL := 3) (ret := none) (by decide) rfl ?_
  intro p e s m args below meth c s₁ B hml hv
  obtain ⟨rfl, hsz, hZ, hP, hK, hD0⟩ := hv
  have hx := B.exec
  have hb := B.bytes
  have hr := B.returns
  have hts := atoms_spec (ws := wzX0_add) B.pre
  have hown : s.vm.findClass RX0 = some m.cls := findClass_of_methodNamed B.named
  have hlocks := B.notSynchronized
  subst hsz
  have hD := hD0.self (sz := s.heap.size)
  generalize hAe : va_A [(h0, .inr (0, [.ref qp, .ref qg, .ref qt, .ref qv, .ref qw, .int o5, .int o6, .int o7, .int o8, .int o9, .int o10, .int o11, .int o12])), (qp, .inl (kp, 1200, .inl fp)), (qg, .inl (kg, 1200, .inl fg))] s.heap.size = A at hD ⊢
  have hA : ∀ q : Nat, s.heap.size ≤ q → A q := fun q h => by rw [← hAe]; exact Or.inr h
  have hS : va_S A s.heap s.heap [] := va_S.rf
  have hP : va_P (dC, dI) vwCl [(h0, .inr (0, [.ref qp, .ref qg, .ref qt, .ref qv, .ref qw, .int o5, .int o6, .int o7, .int o8, .int o9, .int o10, .int o11, .int o12])), (qp, .inl (kp, 1200, .inl fp)), (qg, .inl (kg, 1200, .inl fg))] s.heap := hP
  have hl := lv_entry ([.ref h0, .int x, .int y]) (n := 3) (Nat.le_of_ble_eq_true rfl)
  rw [lg_entry_eq]
  generalize (lg_sl ([.ref h0, .int x, .int y]) ++ List.replicate (3 - (lg_sl ([.ref h0, .int x, .int y])).length) Slot.unset).toArray = ls at hl ⊢
  have hl : lv_has ls 3 [(0, .ref h0), (1, .int x), (2, .int y)] := hl
  refine lv_aload_n hx hb dX0_add_0 rfl (lv_at hl 0 rfl) ?_
  refine va_get (D := (dC, dI)) (ci := 0) (v := .ref qp) (C := RX0) (T := TX0) (N := 13) hx hb hts i_X0_add_X0 hown hK hP 0 rfl rfl 0 (by decide) (hts (.fieldLink RX0 9 "StatementRules2$Code" "ops" "[I") k_X0_add_fieldLink_RX0_9_SR_Code_ops_I) (fun _ h9 => h9) rfl dX0_add_1 ?_
  refine lv_aload_n hx hb dX0_add_4 rfl (lv_at hl 0 rfl) ?_
  refine va_get (D := (dC, dI)) (ci := 0) (v := .int o5) (C := RX0) (T := TX0) (N := 13) hx hb hts i_X0_add_X0 hown hK hP 0 rfl rfl 5 (by decide) (hts (.fieldLink RX0 27 "StatementRules2$Code" "size" "I") k_X0_add_fieldLink_RX0_27_SR_Code_size_I) (fun _ h9 => h9) rfl dX0_add_5 ?_
  refine lv_iload_n hx hb dX0_add_8 rfl (lv_at hl 1 rfl) ?_
  have hPc := hP.sub (ws' := [(qp, .inl (kp, 1200, .inl fp))]) [1] rfl
  have hDc := hD.sub (ws' := [(qp, .inl (kp, 1200, .inl fp))]) [1] (by decide) rfl
  have hKc := hK.sub (tys' := [(kp, .int)]) [0] rfl
  have hFc := va_free (wc := [(qp, .inl (kp, 1200, .inl fp))]) hD hS hA [1] rfl
  refine va_callv (va_runSN (As := [.ref qp, .int o5, .int x]) (rest := []) ⟨hx, hb, hml, hown, hts⟩ (c_X11_put l dC dI _ qp kp 1200 fp o5 x (by decide)) ⟨va_cnB 3 hts hX0_add_X11_put_n53 rfl rfl rfl (hZ.1 (.methodLinkNest RX0 53 yX11_put "StatementRules2") (by decide +kernel)) (hts (.initialized RX11) k_X0_add_initialized_RX11) (by decide +kernel) ⟨Nat.le_of_ble_eq_true rfl, Nat.le_of_ble_eq_true rfl⟩, (hts (.static yX11_put) k_X0_add_static_yX11_put), trivial⟩ ⟨zPre.blind, zPre.go hZ hPc hKc hDc⟩ rfl rfl hl.1 rfl (lv_room (Nat.le_of_ble_eq_true rfl)) dX0_add_9 ⟨Nat.le_of_ble_eq_true rfl, Nat.le_of_ble_eq_true rfl⟩) hS (fun q _ h => hFc q h) hFc (fun u9 t9 H1 locs ht hvm hw hB hz1 hk1 hS => ?_)
  obtain ⟨g_2, hP1, hK1, hD1⟩ := hB
  rw [ht] at hP1
  have hK1 := va_K.moved hvm.symm hK1
  obtain ⟨hP, hD⟩ := va_join (wr := [(h0, .inr (0, [.ref qp, .ref qg, .ref qt, .ref qv, .ref qw, .int o5, .int o6, .int o7, .int o8, .int o9, .int o10, .int o11, .int o12])), (qg, .inl (kg, 1200, .inl fg))]) (w1 := [(qp, .inl (kp, 1200, .inl g_2))]) hP hD [1] [0, 2] rfl rfl (by decide) (by decide) hk1 hFc hP1 hD1
  have hK := hK.app hK1
  generalize H1 = H at hP hS ⊢
  have hP : va_P (dC, dI) vwCl [(h0, .inr (0, [.ref qp, .ref qg, .ref qt, .ref qv, .ref qw, .int o5, .int o6, .int o7, .int o8, .int o9, .int o10, .int o11, .int o12])), (qg, .inl (kg, 1200, .inl fg)), (qp, .inl (kp, 1200, .inl g_2))] H := hP
  have hD : va_D A [(h0, .inr (0, [.ref qp, .ref qg, .ref qt, .ref qv, .ref qw, .int o5, .int o6, .int o7, .int o8, .int o9, .int o10, .int o11, .int o12])), (qg, .inl (kg, 1200, .inl fg)), (qp, .inl (kp, 1200, .inl g_2))] := hD
  have hK : va_K (dC, dI) vwCl [(kp, .int), (kg, .int), (kp, .int)] s := hK
  have hK : va_K (dC, dI) vwCl [(kp, .int), (kg, .int)] s := hK.sub [0, 1] rfl
  refine lv_aload_n hx hb dX0_add_12 rfl (lv_at hl 0 rfl) ?_
  refine va_get (D := (dC, dI)) (ci := 0) (v := .ref qg) (C := RX0) (T := TX0) (N := 13) hx hb hts i_X0_add_X0 hown hK hP 0 rfl rfl 1 (by decide) (hts (.fieldLink RX0 15 "StatementRules2$Code" "arguments" "[I") k_X0_add_fieldLink_RX0_15_SR_Code_arguments_I) (fun _ h9 => h9) rfl dX0_add_13 ?_
  refine lv_aload_n hx hb dX0_add_16 rfl (lv_at hl 0 rfl) ?_
  refine va_get (D := (dC, dI)) (ci := 0) (v := .int o5) (C := RX0) (T := TX0) (N := 13) hx hb hts i_X0_add_X0 hown hK hP 0 rfl rfl 5 (by decide) (hts (.fieldLink RX0 27 "StatementRules2$Code" "size" "I") k_X0_add_fieldLink_RX0_27_SR_Code_size_I) (fun _ h9 => h9) rfl dX0_add_17 ?_
  refine lv_iload_n hx hb dX0_add_20 rfl (lv_at hl 2 rfl) ?_
  have hPc := hP.sub (ws' := [(qg, .inl (kg, 1200, .inl fg))]) [1] rfl
  have hDc := hD.sub (ws' := [(qg, .inl (kg, 1200, .inl fg))]) [1] (by decide) rfl
  have hKc := hK.sub (tys' := [(kg, .int)]) [1] rfl
  have hFc := va_free (wc := [(qg, .inl (kg, 1200, .inl fg))]) hD hS hA [1] rfl
  refine va_callv (va_runSN (As := [.ref qg, .int o5, .int y]) (rest := []) ⟨hx, hb, hml, hown, hts⟩ (c_X11_put l dC dI _ qg kg 1200 fg o5 y (by decide)) ⟨va_cnB 3 hts hX0_add_X11_put_n53 rfl rfl rfl (hZ.1 (.methodLinkNest RX0 53 yX11_put "StatementRules2") (by decide +kernel)) (hts (.initialized RX11) k_X0_add_initialized_RX11) (by decide +kernel) ⟨Nat.le_of_ble_eq_true rfl, Nat.le_of_ble_eq_true rfl⟩, (hts (.static yX11_put) k_X0_add_static_yX11_put), trivial⟩ ⟨zPre.blind, zPre.go hZ hPc hKc hDc⟩ rfl rfl hl.1 rfl (lv_room (Nat.le_of_ble_eq_true rfl)) dX0_add_21 ⟨Nat.le_of_ble_eq_true rfl, Nat.le_of_ble_eq_true rfl⟩) hS (fun q _ h => hFc q h) hFc (fun u9 t9 H1 locs ht hvm hw hB hz1 hk1 hS => ?_)
  obtain ⟨g_4, hP1, hK1, hD1⟩ := hB
  rw [ht] at hP1
  have hK1 := va_K.moved hvm.symm hK1
  obtain ⟨hP, hD⟩ := va_join (wr := [(h0, .inr (0, [.ref qp, .ref qg, .ref qt, .ref qv, .ref qw, .int o5, .int o6, .int o7, .int o8, .int o9, .int o10, .int o11, .int o12])), (qp, .inl (kp, 1200, .inl g_2))]) (w1 := [(qg, .inl (kg, 1200, .inl g_4))]) hP hD [1] [0, 2] rfl rfl (by decide) (by decide) hk1 hFc hP1 hD1
  have hK := hK.app hK1
  generalize H1 = H at hP hS ⊢
  have hP : va_P (dC, dI) vwCl [(h0, .inr (0, [.ref qp, .ref qg, .ref qt, .ref qv, .ref qw, .int o5, .int o6, .int o7, .int o8, .int o9, .int o10, .int o11, .int o12])), (qp, .inl (kp, 1200, .inl g_2)), (qg, .inl (kg, 1200, .inl g_4))] H := hP
  have hD : va_D A [(h0, .inr (0, [.ref qp, .ref qg, .ref qt, .ref qv, .ref qw, .int o5, .int o6, .int o7, .int o8, .int o9, .int o10, .int o11, .int o12])), (qp, .inl (kp, 1200, .inl g_2)), (qg, .inl (kg, 1200, .inl g_4))] := hD
  have hK : va_K (dC, dI) vwCl [(kp, .int), (kg, .int), (kg, .int)] s := hK
  have hK : va_K (dC, dI) vwCl [(kp, .int), (kg, .int)] s := hK.sub [0, 1] rfl
  refine lv_aload_n hx hb dX0_add_24 rfl (lv_at hl 0 rfl) ?_
  refine lv_dup hx hb dX0_add_25 rfl ?_
  refine va_get (D := (dC, dI)) (ci := 0) (v := .int o5) (C := RX0) (T := TX0) (N := 13) hx hb hts i_X0_add_X0 hown hK hP 0 rfl rfl 5 (by decide) (hts (.fieldLink RX0 27 "StatementRules2$Code" "size" "I") k_X0_add_fieldLink_RX0_27_SR_Code_size_I) (fun _ h9 => h9) rfl dX0_add_26 ?_
  refine lv_iconst (v := 1) hx hb dX0_add_29 (by decide) ?_
  refine lv_iadd hx hb dX0_add_30 ?_
  refine lv_topi (fun z5 ez5 => ?_)
  refine va_put (D := (dC, dI)) (ci := 0) (v := .int z5) (ty := .int) (C := RX0) (T := TX0) (N := 13) hx hb hts i_X0_add_X0 tyX0 tyX0_ok nmX0 hown hK hP hD hS 0 rfl rfl 5 (by decide) (hts (.fieldLink RX0 27 "StatementRules2$Code" "size" "I") k_X0_add_fieldLink_RX0_27_SR_Code_size_I) (fun _ h9 => h9) rfl (by decide +kernel) rfl rfl (Nat.le_of_ble_eq_true rfl) dX0_add_31 (fun H locs hP hD hS => ?_)
  have hP : va_P (dC, dI) vwCl [(h0, .inr (0, [.ref qp, .ref qg, .ref qt, .ref qv, .ref qw, .int z5, .int o6, .int o7, .int o8, .int o9, .int o10, .int o11, .int o12])), (qp, .inl (kp, 1200, .inl g_2)), (qg, .inl (kg, 1200, .inl g_4))] H := hP
  have hD : va_D A [(h0, .inr (0, [.ref qp, .ref qg, .ref qt, .ref qv, .ref qw, .int z5, .int o6, .int o7, .int o8, .int o9, .int o10, .int o11, .int o12])), (qp, .inl (kp, 1200, .inl g_2)), (qg, .inl (kg, 1200, .inl g_4))] := hD
  have hP9 := hP.sub (ws' := [(h0, .inr (0, [.ref qp, .ref qg, .ref qt, .ref qv, .ref qw, .int z5, .int o6, .int o7, .int o8, .int o9, .int o10, .int o11, .int o12])), (qp, .inl (kp, 1200, .inl g_2)), (qg, .inl (kg, 1200, .inl g_4))]) [0, 1, 2] rfl
  have hD9 := hD.sub (ws' := [(h0, .inr (0, [.ref qp, .ref qg, .ref qt, .ref qv, .ref qw, .int z5, .int o6, .int o7, .int o8, .int o9, .int o10, .int o11, .int o12])), (qp, .inl (kp, 1200, .inl g_2)), (qg, .inl (kg, 1200, .inl g_4))]) [0, 1, 2] (by decide) rfl
  have hK9 := hK.sub (tys' := [(kp, .int), (kg, .int)]) [0, 1] rfl
  exact W.vret hx hb hr (fun t ht hW => ⟨⟨(), rfl, trivial, z5, g_2, g_4, by rw [ht]; exact hP9, va_K.moved hW.alike hK9, hD9⟩, hS.F ht⟩) hS.2.2 dX0_add_34
theorem k_X0_newTarget_fieldLink_RX0_18_SR_Code_targets_I : Cond.fieldLink RX0 18 "StatementRules2$Code" "targets" "[I" ∈ wzX0_newTarget := List.mem_cons_of_mem _ (List.mem_append_left _ (List.mem_of_getElem? (i := 0) rfl))
theorem i_X0_newTarget_X0 : ∀ w ∈ wsX00, w ∈ wzX0_newTarget := fun _ h => List.mem_cons_of_mem _ (List.mem_append_right _ (List.mem_append_left _ (h)))
theorem k_X0_newTarget_fieldLink_RX0_31_SR_Code_targetCount_I : Cond.fieldLink RX0 31 "StatementRules2$Code" "targetCount" "I" ∈ wzX0_newTarget := List.mem_cons_of_mem _ (List.mem_append_left _ (List.mem_of_getElem? (i := 1) rfl))
theorem k_X0_newTarget_initialized_RX11 : Cond.initialized RX11 ∈ wzX0_newTarget := List.mem_cons_of_mem _ (List.mem_append_left _ (List.mem_of_getElem? (i := 2) rfl))
theorem k_X0_newTarget_static_yX11_put : Cond.static yX11_put ∈ wzX0_newTarget := List.mem_cons_of_mem _ (List.mem_append_left _ (List.mem_of_getElem? (i := 3) rfl))
set_option maxHeartbeats 4000000 in
set_option maxRecDepth 100000 in
theorem c_X0_newTarget (l : Launch) (dC : Nat → ClassId) (dI : Nat → Nat → Nat) (sz : Nat) (h0 : Nat) (o5 : Int32) (o6 : Int32) (o7 : Int32) (o8 : Int32) (o9 : Int32) (o10 : Int32) (o11 : Int32) (o12 : Int32) (qp : Nat) (qg : Nat) (qt : Nat) (qv : Nat) (qw : Nat) (kt : ClassId) (ft : Nat → Int32) : Met l yX0_newTarget wzX0_newTarget ({ frames := 2, cells := 0, slots := 0, locals := 120 }) (va_Pc [.ref h0] (zPre dC dI sz [(h0, .inr (0, [.ref qp, .ref qg, .ref qt, .ref qv, .ref qw, .int o5, .int o6, .int o7, .int o8, .int o9, .int o10, .int o11, .int o12])), (qt, .inl (kt, 1024, .inl ft))] [(kt, .int)])) (va_Qi (fun (r : Int32) (_ : Unit) => True) (fun (_ : Unit) (t : State) => ∃ (e6 : Int32), ∃ (bft : Nat → Int32), zPost dC dI (va_A [(h0, .inr (0, [.ref qp, .ref qg, .ref qt, .ref qv, .ref qw, .int o5, .int o6, .int o7, .int o8, .int o9, .int o10, .int o11, .int o12])), (qt, .inl (kt, 1024, .inl ft))] sz) [(h0, .inr (0, [.ref qp, .ref qg, .ref qt, .ref qv, .ref qw, .int o5, .int e6, .int o7, .int o8, .int o9, .int o10, .int o11, .int o12])), (qt, .inl (kt, 1024, .inl bft))] [(kt, .int)] t) (va_A [(h0, .inr (0, [.ref qp, .ref qg, .ref qt, .ref qv, .ref qw, .int o5, .int o6, .int o7, .int o8, .int o9, .int o10, .int o11, .int o12])), (qt, .inl (kt, 1024, .inl ft))] sz)) 0 0 (va_A [(h0, .inr (0, [.ref qp, .ref qg, .ref qt, .ref qv, .ref qw, .int o5, .int o6, .int o7, .int o8, .int o9, .int o10, .int o11, .int o12])), (qt, .inl (kt, 1024, .inl ft))] sz) := by
  refine Met.ofW (cc := cX0_newTarget) (maxL := 1) (ret := (some .int)) (by decide) rfl ?_
  intro p e s m args below meth c s₁ B hml hv
  obtain ⟨rfl, hsz, hZ, hP, hK, hD0⟩ := hv
  have hx := B.exec
  have hb := B.bytes
  have hr := B.returns
  have hts := atoms_spec (ws := wzX0_newTarget) B.pre
  have hown : s.vm.findClass RX0 = some m.cls := findClass_of_methodNamed B.named
  have hlocks := B.notSynchronized
  subst hsz
  have hD := hD0.self (sz := s.heap.size)
  generalize hAe : va_A [(h0, .inr (0, [.ref qp, .ref qg, .ref qt, .ref qv, .ref qw, .int o5, .int o6, .int o7, .int o8, .int o9, .int o10, .int o11, .int o12])), (qt, .inl (kt, 1024, .inl ft))] s.heap.size = A at hD ⊢
  have hA : ∀ q : Nat, s.heap.size ≤ q → A q := fun q h => by rw [← hAe]; exact Or.inr h
  have hS : va_S A s.heap s.heap [] := va_S.rf
  have hP : va_P (dC, dI) vwCl [(h0, .inr (0, [.ref qp, .ref qg, .ref qt, .ref qv, .ref qw, .int o5, .int o6, .int o7, .int o8, .int o9, .int o10, .int o11, .int o12])), (qt, .inl (kt, 1024, .inl ft))] s.heap := hP
  have hl := lv_entry ([.ref h0]) (n := 1) (Nat.le_of_ble_eq_true rfl)
  rw [lg_entry_eq]
  generalize (lg_sl ([.ref h0]) ++ List.replicate (1 - (lg_sl ([.ref h0])).length) Slot.unset).toArray = ls at hl ⊢
  have hl : lv_has ls 1 [(0, .ref h0)] := hl
  refine lv_aload_n hx hb dX0_newTarget_0 rfl (lv_at hl 0 rfl) ?_
  refine va_get (D := (dC, dI)) (ci := 0) (v := .ref qt) (C := RX0) (T := TX0) (N := 13) hx hb hts i_X0_newTarget_X0 hown hK hP 0 rfl rfl 2 (by decide) (hts (.fieldLink RX0 18 "StatementRules2$Code" "targets" "[I") k_X0_newTarget_fieldLink_RX0_18_SR_Code_targets_I) (fun _ h9 => h9) rfl dX0_newTarget_1 ?_
  refine lv_aload_n hx hb dX0_newTarget_4 rfl (lv_at hl 0 rfl) ?_
  refine va_get (D := (dC, dI)) (ci := 0) (v := .int o6) (C := RX0) (T := TX0) (N := 13) hx hb hts i_X0_newTarget_X0 hown hK hP 0 rfl rfl 6 (by decide) (hts (.fieldLink RX0 31 "StatementRules2$Code" "targetCount" "I") k_X0_newTarget_fieldLink_RX0_31_SR_Code_targetCount_I) (fun _ h9 => h9) rfl dX0_newTarget_5 ?_
  refine lv_iconst (v := (-1)) hx hb dX0_newTarget_8 (by decide) ?_
  have hPc := hP.sub (ws' := [(qt, .inl (kt, 1024, .inl ft))]) [1] rfl
  have hDc := hD.sub (ws' := [(qt, .inl (kt, 1024, .inl ft))]) [1] (by decide) rfl
  have hKc := hK.sub (tys' := [(kt, .int)]) [0] rfl
  have hFc := va_free (wc := [(qt, .inl (kt, 1024, .inl ft))]) hD hS hA [1] rfl
  refine va_callv (va_runSN (As := [.ref qt, .int o6, .int (-1)]) (rest := []) ⟨hx, hb, hml, hown, hts⟩ (c_X11_put l dC dI _ qt kt 1024 ft o6 (-1) (by decide)) ⟨va_cnB 3 hts hX0_newTarget_X11_put_n53 rfl rfl rfl (hZ.1 (.methodLinkNest RX0 53 yX11_put "StatementRules2") (by decide +kernel)) (hts (.initialized RX11) k_X0_newTarget_initialized_RX11) (by decide +kernel) ⟨Nat.le_of_ble_eq_true rfl, Nat.le_of_ble_eq_true rfl⟩, (hts (.static yX11_put) k_X0_newTarget_static_yX11_put), trivial⟩ ⟨zPre.blind, zPre.go hZ hPc hKc hDc⟩ rfl rfl hl.1 rfl (lv_room (Nat.le_of_ble_eq_true rfl)) dX0_newTarget_9 ⟨Nat.le_of_ble_eq_true rfl, Nat.le_of_ble_eq_true rfl⟩) hS (fun q _ h => hFc q h) hFc (fun u9 t9 H1 locs ht hvm hw hB hz1 hk1 hS => ?_)
  obtain ⟨g_2, hP1, hK1, hD1⟩ := hB
  rw [ht] at hP1
  have hK1 := va_K.moved hvm.symm hK1
  obtain ⟨hP, hD⟩ := va_join (wr := [(h0, .inr (0, [.ref qp, .ref qg, .ref qt, .ref qv, .ref qw, .int o5, .int o6, .int o7, .int o8, .int o9, .int o10, .int o11, .int o12]))]) (w1 := [(qt, .inl (kt, 1024, .inl g_2))]) hP hD [1] [0] rfl rfl (by decide) (by decide) hk1 hFc hP1 hD1
  have hK := hK.app hK1
  generalize H1 = H at hP hS ⊢
  have hP : va_P (dC, dI) vwCl [(h0, .inr (0, [.ref qp, .ref qg, .ref qt, .ref qv, .ref qw, .int o5, .int o6, .int o7, .int o8, .int o9, .int o10, .int o11, .int o12])), (qt, .inl (kt, 1024, .inl g_2))] H := hP
  have hD : va_D A [(h0, .inr (0, [.ref qp, .ref qg, .ref qt, .ref qv, .ref qw, .int o5, .int o6, .int o7, .int o8, .int o9, .int o10, .int o11, .int o12])), (qt, .inl (kt, 1024, .inl g_2))] := hD
  have hK : va_K (dC, dI) vwCl [(kt, .int), (kt, .int)] s := hK
  have hK : va_K (dC, dI) vwCl [(kt, .int)] s := hK.sub [0] rfl
  refine lv_aload_n hx hb dX0_newTarget_12 rfl (lv_at hl 0 rfl) ?_
  refine lv_dup hx hb dX0_newTarget_13 rfl ?_
  refine va_get (D := (dC, dI)) (ci := 0) (v := .int o6) (C := RX0) (T := TX0) (N := 13) hx hb hts i_X0_newTarget_X0 hown hK hP 0 rfl rfl 6 (by decide) (hts (.fieldLink RX0 31 "StatementRules2$Code" "targetCount" "I") k_X0_newTarget_fieldLink_RX0_31_SR_Code_targetCount_I) (fun _ h9 => h9) rfl dX0_newTarget_14 ?_
  refine lv_iconst (v := 1) hx hb dX0_newTarget_17 (by decide) ?_
  refine lv_iadd hx hb dX0_newTarget_18 ?_
  refine lv_topi (fun z3 ez3 => ?_)
  refine va_put (D := (dC, dI)) (ci := 0) (v := .int z3) (ty := .int) (C := RX0) (T := TX0) (N := 13) hx hb hts i_X0_newTarget_X0 tyX0 tyX0_ok nmX0 hown hK hP hD hS 0 rfl rfl 6 (by decide) (hts (.fieldLink RX0 31 "StatementRules2$Code" "targetCount" "I") k_X0_newTarget_fieldLink_RX0_31_SR_Code_targetCount_I) (fun _ h9 => h9) rfl (by decide +kernel) rfl rfl (Nat.le_of_ble_eq_true rfl) dX0_newTarget_19 (fun H locs hP hD hS => ?_)
  have hP : va_P (dC, dI) vwCl [(h0, .inr (0, [.ref qp, .ref qg, .ref qt, .ref qv, .ref qw, .int o5, .int z3, .int o7, .int o8, .int o9, .int o10, .int o11, .int o12])), (qt, .inl (kt, 1024, .inl g_2))] H := hP
  have hD : va_D A [(h0, .inr (0, [.ref qp, .ref qg, .ref qt, .ref qv, .ref qw, .int o5, .int z3, .int o7, .int o8, .int o9, .int o10, .int o11, .int o12])), (qt, .inl (kt, 1024, .inl g_2))] := hD
  refine lv_aload_n hx hb dX0_newTarget_22 rfl (lv_at hl 0 rfl) ?_
  refine va_get (D := (dC, dI)) (ci := 0) (v := .int z3) (C := RX0) (T := TX0) (N := 13) hx hb hts i_X0_newTarget_X0 hown hK hP 0 rfl rfl 6 (by decide) (hts (.fieldLink RX0 31 "StatementRules2$Code" "targetCount" "I") k_X0_newTarget_fieldLink_RX0_31_SR_Code_targetCount_I) (fun _ h9 => h9) rfl dX0_newTarget_23 ?_
  refine lv_iconst (v := 1) hx hb dX0_newTarget_26 (by decide) ?_
  refine lv_isub hx hb dX0_newTarget_27 ?_
  refine lv_topi (fun z4 ez4 => ?_)
  have hP9 := hP.sub (ws' := [(h0, .inr (0, [.ref qp, .ref qg, .ref qt, .ref qv, .ref qw, .int o5, .int z3, .int o7, .int o8, .int o9, .int o10, .int o11, .int o12])), (qt, .inl (kt, 1024, .inl g_2))]) [0, 1] rfl
  have hD9 := hD.sub (ws' := [(h0, .inr (0, [.ref qp, .ref qg, .ref qt, .ref qv, .ref qw, .int o5, .int z3, .int o7, .int o8, .int o9, .int o10, .int o11, .int o12])), (qt, .inl (kt, 1024, .inl g_2))]) [0, 1] (by decide) rfl
  have hK9 := hK.sub (tys' := [(kt, .int)]) [0] rfl
  exact W.iret (v := z4) hx hb hr (fun t ht hW => ⟨⟨z4, (), rfl, trivial, z3, g_2, by rw [ht]; exact hP9, va_K.moved hW.alike hK9, hD9⟩, hS.F ht⟩) hS.2.2 dX0_newTarget_28
theorem k_X0_aim_fieldLink_RX0_18_SR_Code_targets_I : Cond.fieldLink RX0 18 "StatementRules2$Code" "targets" "[I" ∈ wzX0_aim := List.mem_cons_of_mem _ (List.mem_append_left _ (List.mem_of_getElem? (i := 0) rfl))
theorem i_X0_aim_X0 : ∀ w ∈ wsX00, w ∈ wzX0_aim := fun _ h => List.mem_cons_of_mem _ (List.mem_append_right _ (List.mem_append_left _ (h)))
theorem k_X0_aim_fieldLink_RX0_27_SR_Code_size_I : Cond.fieldLink RX0 27 "StatementRules2$Code" "size" "I" ∈ wzX0_aim := List.mem_cons_of_mem _ (List.mem_append_left _ (List.mem_of_getElem? (i := 1) rfl))
theorem k_X0_aim_initialized_RX11 : Cond.initialized RX11 ∈ wzX0_aim := List.mem_cons_of_mem _ (List.mem_append_left _ (List.mem_of_getElem? (i := 2) rfl))
theorem k_X0_aim_static_yX11_put : Cond.static yX11_put ∈ wzX0_aim := List.mem_cons_of_mem _ (List.mem_append_left _ (List.mem_of_getElem? (i := 3) rfl))
set_option maxHeartbeats 4000000 in
set_option maxRecDepth 100000 in
theorem c_X0_aim (l : Launch) (dC : Nat → ClassId) (dI : Nat → Nat → Nat) (sz : Nat) (h0 : Nat) (x : Int32) (o5 : Int32) (o6 : Int32) (o7 : Int32) (o8 : Int32) (o9 : Int32) (o10 : Int32) (o11 : Int32) (o12 : Int32) (qp : Nat) (qg : Nat) (qt : Nat) (qv : Nat) (qw : Nat) (kt : ClassId) (ft : Nat → Int32) : Met l yX0_aim wzX0_aim ({ frames := 2, cells := 0, slots := 0, locals := 120 }) (va_Pc [.ref h0, .int x] (zPre dC dI sz [(h0, .inr (0, [.ref qp, .ref qg, .ref qt, .ref qv, .ref qw, .int o5, .int o6, .int o7, .int o8, .int o9, .int o10, .int o11, .int o12])), (qt, .inl (kt, 1024, .inl ft))] [(kt, .int)])) (va_Qv (fun (_ : Unit) => True) (fun (_ : Unit) (t : State) => ∃ (bft : Nat → Int32), zPost dC dI (va_A [(h0, .inr (0, [.ref qp, .ref qg, .ref qt, .ref qv, .ref qw, .int o5, .int o6, .int o7, .int o8, .int o9, .int o10, .int o11, .int o12])), (qt, .inl (kt, 1024, .inl ft))] sz) [(h0, .inr (0, [.ref qp, .ref qg, .ref qt, .ref qv, .ref qw, .int o5, .int o6, .int o7, .int o8, .int o9, .int o10, .int o11, .int o12])), (qt, .inl (kt, 1024, .inl bft))] [(kt, .int)] t) (va_A [(h0, .inr (0, [.ref qp, .ref qg, .ref qt, .ref qv, .ref qw, .int o5, .int o6, .int o7, .int o8, .int o9, .int o10, .int o11, .int o12])), (qt, .inl (kt, 1024, .inl ft))] sz)) 0 0 (va_A [(h0, .inr (0, [.ref qp, .ref qg, .ref qt, .ref qv, .ref qw, .int o5, .int o6, .int o7, .int o8, .int o9, .int o10, .int o11, .int o12])), (qt, .inl (kt, 1024, .inl ft))] sz) := by
  refine Met.ofW (cc := cX0_aim) (maxL := 2) (ret := none) (by decide) rfl ?_
  intro p e s m args below meth c s₁ B hml hv
  obtain ⟨rfl, hsz, hZ, hP, hK, hD0⟩ := hv
  have hx := B.exec
  have hb := B.bytes
  have hr := B.returns
  have hts := atoms_spec (ws := wzX0_aim) B.pre
  have hown : s.vm.findClass RX0 = some m.cls := findClass_of_methodNamed B.named
  have hlocks := B.notSynchronized
  subst hsz
  have hD := hD0.self (sz := s.heap.size)
  generalize hAe : va_A [(h0, .inr (0, [.ref qp, .ref qg, .ref qt, .ref qv, .ref qw, .int o5, .int o6, .int o7, .int o8, .int o9, .int o10, .int o11, .int o12])), (qt, .inl (kt, 1024, .inl ft))] s.heap.size = A at hD ⊢
  have hA : ∀ q : Nat, s.heap.size ≤ q → A q := fun q h => by rw [← hAe]; exact Or.inr h
  have hS : va_S A s.heap s.heap [] := va_S.rf
  have hP : va_P (dC, dI) vwCl [(h0, .inr (0, [.ref qp, .ref qg, .ref qt, .ref qv, .ref qw, .int o5, .int o6, .int o7, .int o8, .int o9, .int o10, .int o11, .int o12])), (qt, .inl (kt, 1024, .inl ft))] s.heap := hP
  have hl := lv_entry ([.ref h0, .int x]) (n := 2) (Nat.le_of_ble_eq_true rfl)
  rw [lg_entry_eq]
  generalize (lg_sl ([.ref h0, .int x]) ++ List.replicate (2 - (lg_sl ([.ref h0, .int x])).length) Slot.unset).toArray = ls at hl ⊢
  have hl : lv_has ls 2 [(0, .ref h0), (1, .int x)] := hl
  refine lv_aload_n hx hb dX0_aim_0 rfl (lv_at hl 0 rfl) ?_
  refine va_get (D := (dC, dI)) (ci := 0) (v := .ref qt) (C := RX0) (T := TX0) (N := 13) hx hb hts i_X0_aim_X0 hown hK hP 0 rfl rfl 2 (by decide) (hts (.fieldLink RX0 18 "StatementRules2$Code" "targets" "[I") k_X0_aim_fieldLink_RX0_18_SR_Code_targets_I) (fun _ h9 => h9) rfl dX0_aim_1 ?_
  refine lv_iload_n hx hb dX0_aim_4 rfl (lv_at hl 1 rfl) ?_
  refine lv_aload_n hx hb dX0_aim_5 rfl (lv_at hl 0 rfl) ?_
  refine va_get (D := (dC, dI)) (ci := 0) (v := .int o5) (C := RX0) (T := TX0) (N := 13) hx hb hts i_X0_aim_X0 hown hK hP 0 rfl rfl 5 (by decide) (hts (.fieldLink RX0 27 "StatementRules2$Code" "size" "I") k_X0_aim_fieldLink_RX0_27_SR_Code_size_I) (fun _ h9 => h9) rfl dX0_aim_6 ?_
  have hPc := hP.sub (ws' := [(qt, .inl (kt, 1024, .inl ft))]) [1] rfl
  have hDc := hD.sub (ws' := [(qt, .inl (kt, 1024, .inl ft))]) [1] (by decide) rfl
  have hKc := hK.sub (tys' := [(kt, .int)]) [0] rfl
  have hFc := va_free (wc := [(qt, .inl (kt, 1024, .inl ft))]) hD hS hA [1] rfl
  refine va_callv (va_runSN (As := [.ref qt, .int x, .int o5]) (rest := []) ⟨hx, hb, hml, hown, hts⟩ (c_X11_put l dC dI _ qt kt 1024 ft x o5 (by decide)) ⟨va_cnB 3 hts hX0_aim_X11_put_n53 rfl rfl rfl (hZ.1 (.methodLinkNest RX0 53 yX11_put "StatementRules2") (by decide +kernel)) (hts (.initialized RX11) k_X0_aim_initialized_RX11) (by decide +kernel) ⟨Nat.le_of_ble_eq_true rfl, Nat.le_of_ble_eq_true rfl⟩, (hts (.static yX11_put) k_X0_aim_static_yX11_put), trivial⟩ ⟨zPre.blind, zPre.go hZ hPc hKc hDc⟩ rfl rfl hl.1 rfl (lv_room (Nat.le_of_ble_eq_true rfl)) dX0_aim_9 ⟨Nat.le_of_ble_eq_true rfl, Nat.le_of_ble_eq_true rfl⟩) hS (fun q _ h => hFc q h) hFc (fun u9 t9 H1 locs ht hvm hw hB hz1 hk1 hS => ?_)
  obtain ⟨g_2, hP1, hK1, hD1⟩ := hB
  rw [ht] at hP1
  have hK1 := va_K.moved hvm.symm hK1
  obtain ⟨hP, hD⟩ := va_join (wr := [(h0, .inr (0, [.ref qp, .ref qg, .ref qt, .ref qv, .ref qw, .int o5, .int o6, .int o7, .int o8, .int o9, .int o10, .int o11, .int o12]))]) (w1 := [(qt, .inl (kt, 1024, .inl g_2))]) hP hD [1] [0] rfl rfl (by decide) (by decide) hk1 hFc hP1 hD1
  have hK := hK.app hK1
  generalize H1 = H at hP hS ⊢
  have hP : va_P (dC, dI) vwCl [(h0, .inr (0, [.ref qp, .ref qg, .ref qt, .ref qv, .ref qw, .int o5, .int o6, .int o7, .int o8, .int o9, .int o10, .int o11, .int o12])), (qt, .inl (kt, 1024, .inl g_2))] H := hP
  have hD : va_D A [(h0, .inr (0, [.ref qp, .ref qg, .ref qt, .ref qv, .ref qw, .int o5, .int o6, .int o7, .int o8, .int o9, .int o10, .int o11, .int o12])), (qt, .inl (kt, 1024, .inl g_2))] := hD
  have hK : va_K (dC, dI) vwCl [(kt, .int), (kt, .int)] s := hK
  have hK : va_K (dC, dI) vwCl [(kt, .int)] s := hK.sub [0] rfl
  have hP9 := hP.sub (ws' := [(h0, .inr (0, [.ref qp, .ref qg, .ref qt, .ref qv, .ref qw, .int o5, .int o6, .int o7, .int o8, .int o9, .int o10, .int o11, .int o12])), (qt, .inl (kt, 1024, .inl g_2))]) [0, 1] rfl
  have hD9 := hD.sub (ws' := [(h0, .inr (0, [.ref qp, .ref qg, .ref qt, .ref qv, .ref qw, .int o5, .int o6, .int o7, .int o8, .int o9, .int o10, .int o11, .int o12])), (qt, .inl (kt, 1024, .inl g_2))]) [0, 1] (by decide) rfl
  have hK9 := hK.sub (tys' := [(kt, .int)]) [0] rfl
  exact W.vret hx hb hr (fun t ht hW => ⟨⟨(), rfl, trivial, g_2, by rw [ht]; exact hP9, va_K.moved hW.alike hK9, hD9⟩, hS.F ht⟩) hS.2.2 dX0_aim_12
theorem k_X0_newCells_fieldLink_RX0_37_SR_Code_cellCount_I : Cond.fieldLink RX0 37 "StatementRules2$Code" "cellCount" "I" ∈ wzX0_newCells := List.mem_cons_of_mem _ (List.mem_append_left _ (List.mem_of_getElem? (i := 0) rfl))
theorem i_X0_newCells_X0 : ∀ w ∈ wsX00, w ∈ wzX0_newCells := fun _ h => List.mem_cons_of_mem _ (List.mem_append_right _ (List.mem_append_left _ (h)))
set_option maxHeartbeats 4000000 in
set_option maxRecDepth 100000 in
theorem c_X0_newCells (l : Launch) (dC : Nat → ClassId) (dI : Nat → Nat → Nat) (sz : Nat) (h0 : Nat) (x : Int32) (o5 : Int32) (o6 : Int32) (o7 : Int32) (o8 : Int32) (o9 : Int32) (o10 : Int32) (o11 : Int32) (o12 : Int32) (qp : Nat) (qg : Nat) (qt : Nat) (qv : Nat) (qw : Nat) : Met l yX0_newCells wzX0_newCells ({ frames := 1, cells := 0, slots := 0, locals := 60 }) (va_Pc [.ref h0, .int x] (zPre dC dI sz [(h0, .inr (0, [.ref qp, .ref qg, .ref qt, .ref qv, .ref qw, .int o5, .int o6, .int o7, .int o8, .int o9, .int o10, .int o11, .int o12]))] [])) (va_Qi (fun (r : Int32) (_ : Unit) => True) (fun (_ : Unit) (t : State) => ∃ (e8 : Int32), zPost dC dI (va_A [(h0, .inr (0, [.ref qp, .ref qg, .ref qt, .ref qv, .ref qw, .int o5, .int o6, .int o7, .int o8, .int o9, .int o10, .int o11, .int o12]))] sz) [(h0, .inr (0, [.ref qp, .ref qg, .ref qt, .ref qv, .ref qw, .int o5, .int o6, .int o7, .int e8, .int o9, .int o10, .int o11, .int o12]))] [] t) (va_A [(h0, .inr (0, [.ref qp, .ref qg, .ref qt, .ref qv, .ref qw, .int o5, .int o6, .int o7, .int o8, .int o9, .int o10, .int o11, .int o12]))] sz)) 0 0 (va_A [(h0, .inr (0, [.ref qp, .ref qg, .ref qt, .ref qv, .ref qw, .int o5, .int o6, .int o7, .int o8, .int o9, .int o10, .int o11, .int o12]))] sz) := by
  refine Met.ofW (cc := cX0_newCells) (maxL := 2) (ret := (some .int)) (by decide) rfl ?_
  intro p e s m args below meth c s₁ B hml hv
  obtain ⟨rfl, hsz, hZ, hP, hK, hD0⟩ := hv
  have hx := B.exec
  have hb := B.bytes
  have hr := B.returns
  have hts := atoms_spec (ws := wzX0_newCells) B.pre
  have hown : s.vm.findClass RX0 = some m.cls := findClass_of_methodNamed B.named
  have hlocks := B.notSynchronized
  subst hsz
  have hD := hD0.self (sz := s.heap.size)
  generalize hAe : va_A [(h0, .inr (0, [.ref qp, .ref qg, .ref qt, .ref qv, .ref qw, .int o5, .int o6, .int o7, .int o8, .int o9, .int o10, .int o11, .int o12]))] s.heap.size = A at hD ⊢
  have hA : ∀ q : Nat, s.heap.size ≤ q → A q := fun q h => by rw [← hAe]; exact Or.inr h
  have hS : va_S A s.heap s.heap [] := va_S.rf
  have hP : va_P (dC, dI) vwCl [(h0, .inr (0, [.ref qp, .ref qg, .ref qt, .ref qv, .ref qw, .int o5, .int o6, .int o7, .int o8, .int o9, .int o10, .int o11, .int o12]))] s.heap := hP
  have hl := lv_entry ([.ref h0, .int x]) (n := 2) (Nat.le_of_ble_eq_true rfl)
  rw [lg_entry_eq]
  generalize (lg_sl ([.ref h0, .int x]) ++ List.replicate (2 - (lg_sl ([.ref h0, .int x])).length) Slot.unset).toArray = ls at hl ⊢
  have hl : lv_has ls 2 [(0, .ref h0), (1, .int x)] := hl
  refine lv_aload_n hx hb dX0_newCells_0 rfl (lv_at hl 0 rfl) ?_
  refine lv_dup hx hb dX0_newCells_1 rfl ?_
  refine va_get (D := (dC, dI)) (ci := 0) (v := .int o8) (C := RX0) (T := TX0) (N := 13) hx hb hts i_X0_newCells_X0 hown hK hP 0 rfl rfl 8 (by decide) (hts (.fieldLink RX0 37 "StatementRules2$Code" "cellCount" "I") k_X0_newCells_fieldLink_RX0_37_SR_Code_cellCount_I) (fun _ h9 => h9) rfl dX0_newCells_2 ?_
  refine lv_iload_n hx hb dX0_newCells_5 rfl (lv_at hl 1 rfl) ?_
  refine lv_iadd hx hb dX0_newCells_6 ?_
  refine lv_topi (fun z1 ez1 => ?_)
  refine va_put (D := (dC, dI)) (ci := 0) (v := .int z1) (ty := .int) (C := RX0) (T := TX0) (N := 13) hx hb hts i_X0_newCells_X0 tyX0 tyX0_ok nmX0 hown hK hP hD hS 0 rfl rfl 8 (by decide) (hts (.fieldLink RX0 37 "StatementRules2$Code" "cellCount" "I") k_X0_newCells_fieldLink_RX0_37_SR_Code_cellCount_I) (fun _ h9 => h9) rfl (by decide +kernel) rfl rfl (Nat.le_of_ble_eq_true rfl) dX0_newCells_7 (fun H locs hP hD hS => ?_)
  have hP : va_P (dC, dI) vwCl [(h0, .inr (0, [.ref qp, .ref qg, .ref qt, .ref qv, .ref qw, .int o5, .int o6, .int o7, .int z1, .int o9, .int o10, .int o11, .int o12]))] H := hP
  have hD : va_D A [(h0, .inr (0, [.ref qp, .ref qg, .ref qt, .ref qv, .ref qw, .int o5, .int o6, .int o7, .int z1, .int o9, .int o10, .int o11, .int o12]))] := hD
  refine lv_aload_n hx hb dX0_newCells_10 rfl (lv_at hl 0 rfl) ?_
  refine va_get (D := (dC, dI)) (ci := 0) (v := .int z1) (C := RX0) (T := TX0) (N := 13) hx hb hts i_X0_newCells_X0 hown hK hP 0 rfl rfl 8 (by decide) (hts (.fieldLink RX0 37 "StatementRules2$Code" "cellCount" "I") k_X0_newCells_fieldLink_RX0_37_SR_Code_cellCount_I) (fun _ h9 => h9) rfl dX0_newCells_11 ?_
  refine lv_iload_n hx hb dX0_newCells_14 rfl (lv_at hl 1 rfl) ?_
  refine lv_isub hx hb dX0_newCells_15 ?_
  refine lv_topi (fun z2 ez2 => ?_)
  have hP9 := hP.sub (ws' := [(h0, .inr (0, [.ref qp, .ref qg, .ref qt, .ref qv, .ref qw, .int o5, .int o6, .int o7, .int z1, .int o9, .int o10, .int o11, .int o12]))]) [0] rfl
  have hD9 := hD.sub (ws' := [(h0, .inr (0, [.ref qp, .ref qg, .ref qt, .ref qv, .ref qw, .int o5, .int o6, .int o7, .int z1, .int o9, .int o10, .int o11, .int o12]))]) [0] (by decide) rfl
  have hK9 := hK.sub (tys' := []) [] rfl
  exact W.iret (v := z2) hx hb hr (fun t ht hW => ⟨⟨z2, (), rfl, trivial, z1, by rw [ht]; exact hP9, va_K.moved hW.alike hK9, hD9⟩, hS.F ht⟩) hS.2.2 dX0_newCells_16
theorem k_X0_addCase_fieldLink_RX0_21_SR_Code_caseValues_I : Cond.fieldLink RX0 21 "StatementRules2$Code" "caseValues" "[I" ∈ wzX0_addCase := List.mem_cons_of_mem _ (List.mem_append_left _ (List.mem_of_getElem? (i := 0) rfl))
theorem i_X0_addCase_X0 : ∀ w ∈ wsX00, w ∈ wzX0_addCase := fun _ h => List.mem_cons_of_mem _ (List.mem_append_right _ (List.mem_append_left _ (h)))
theorem k_X0_addCase_fieldLink_RX0_34_SR_Code_caseCount_I : Cond.fieldLink RX0 34 "StatementRules2$Code" "caseCount" "I" ∈ wzX0_addCase := List.mem_cons_of_mem _ (List.mem_append_left _ (List.mem_of_getElem? (i := 1) rfl))
theorem k_X0_addCase_initialized_RX11 : Cond.initialized RX11 ∈ wzX0_addCase := List.mem_cons_of_mem _ (List.mem_append_left _ (List.mem_of_getElem? (i := 2) rfl))
theorem k_X0_addCase_static_yX11_put : Cond.static yX11_put ∈ wzX0_addCase := List.mem_cons_of_mem _ (List.mem_append_left _ (List.mem_of_getElem? (i := 3) rfl))
theorem k_X0_addCase_fieldLink_RX0_24_SR_Code_caseTargets_I : Cond.fieldLink RX0 24 "StatementRules2$Code" "caseTargets" "[I" ∈ wzX0_addCase := List.mem_cons_of_mem _ (List.mem_append_left _ (List.mem_of_getElem? (i := 4) rfl))
set_option maxHeartbeats 4000000 in
set_option maxRecDepth 100000 in
theorem c_X0_addCase (l : Launch) (dC : Nat → ClassId) (dI : Nat → Nat → Nat) (sz : Nat) (h0 : Nat) (x : Int32) (y : Int32) (o5 : Int32) (o6 : Int32) (o7 : Int32) (o8 : Int32) (o9 : Int32) (o10 : Int32) (o11 : Int32) (o12 : Int32) (qp : Nat) (qg : Nat) (qt : Nat) (qv : Nat) (qw : Nat) (kv : ClassId) (kw : ClassId) (fv : Nat → Int32) (fw : Nat → Int32) : Met l yX0_addCase wzX0_addCase ({ frames := 2, cells := 0, slots := 0, locals := 120 }) (va_Pc [.ref h0, .int x, .int y] (zPre dC dI sz [(h0, .inr (0, [.ref qp, .ref qg, .ref qt, .ref qv, .ref qw, .int o5, .int o6, .int o7, .int o8, .int o9, .int o10, .int o11, .int o12])), (qv, .inl (kv, 320, .inl fv)), (qw, .inl (kw, 320, .inl fw))] [(kv, .int), (kw, .int)])) (va_Qv (fun (_ : Unit) => True) (fun (_ : Unit) (t : State) => ∃ (e7 : Int32), ∃ (bfv : Nat → Int32), ∃ (bfw : Nat → Int32), zPost dC dI (va_A [(h0, .inr (0, [.ref qp, .ref qg, .ref qt, .ref qv, .ref qw, .int o5, .int o6, .int o7, .int o8, .int o9, .int o10, .int o11, .int o12])), (qv, .inl (kv, 320, .inl fv)), (qw, .inl (kw, 320, .inl fw))] sz) [(h0, .inr (0, [.ref qp, .ref qg, .ref qt, .ref qv, .ref qw, .int o5, .int o6, .int e7, .int o8, .int o9, .int o10, .int o11, .int o12])), (qv, .inl (kv, 320, .inl bfv)), (qw, .inl (kw, 320, .inl bfw))] [(kv, .int), (kw, .int)] t) (va_A [(h0, .inr (0, [.ref qp, .ref qg, .ref qt, .ref qv, .ref qw, .int o5, .int o6, .int o7, .int o8, .int o9, .int o10, .int o11, .int o12])), (qv, .inl (kv, 320, .inl fv)), (qw, .inl (kw, 320, .inl fw))] sz)) 0 0 (va_A [(h0, .inr (0, [.ref qp, .ref qg, .ref qt, .ref qv, .ref qw, .int o5, .int o6, .int o7, .int o8, .int o9, .int o10, .int o11, .int o12])), (qv, .inl (kv, 320, .inl fv)), (qw, .inl (kw, 320, .inl fw))] sz) := by
  refine Met.ofW (cc := cX0_addCase) (maxL := 3) (ret := none) (by decide) rfl ?_
  intro p e s m args below meth c s₁ B hml hv
  obtain ⟨rfl, hsz, hZ, hP, hK, hD0⟩ := hv
  have hx := B.exec
  have hb := B.bytes
  have hr := B.returns
  have hts := atoms_spec (ws := wzX0_addCase) B.pre
  have hown : s.vm.findClass RX0 = some m.cls := findClass_of_methodNamed B.named
  have hlocks := B.notSynchronized
  subst hsz
  have hD := hD0.self (sz := s.heap.size)
  generalize hAe : va_A [(h0, .inr (0, [.ref qp, .ref qg, .ref qt, .ref qv, .ref qw, .int o5, .int o6, .int o7, .int o8, .int o9, .int o10, .int o11, .int o12])), (qv, .inl (kv, 320, .inl fv)), (qw, .inl (kw, 320, .inl fw))] s.heap.size = A at hD ⊢
  have hA : ∀ q : Nat, s.heap.size ≤ q → A q := fun q h => by rw [← hAe]; exact Or.inr h
  have hS : va_S A s.heap s.heap [] := va_S.rf
  have hP : va_P (dC, dI) vwCl [(h0, .inr (0, [.ref qp, .ref qg, .ref qt, .ref qv, .ref qw, .int o5, .int o6, .int o7, .int o8, .int o9, .int o10, .int o11, .int o12])), (qv, .inl (kv, 320, .inl fv)), (qw, .inl (kw, 320, .inl fw))] s.heap := hP
  have hl := lv_entry ([.ref h0, .int x, .int y]) (n := 3) (Nat.le_of_ble_eq_true rfl)
  rw [lg_entry_eq]
  generalize (lg_sl ([.ref h0, .int x, .int y]) ++ List.replicate (3 - (lg_sl ([.ref h0, .int x, .int y])).length) Slot.unset).toArray = ls at hl ⊢
  have hl : lv_has ls 3 [(0, .ref h0), (1, .int x), (2, .int y)] := hl
  refine lv_aload_n hx hb dX0_addCase_0 rfl (lv_at hl 0 rfl) ?_
  refine va_get (D := (dC, dI)) (ci := 0) (v := .ref qv) (C := RX0) (T := TX0) (N := 13) hx hb hts i_X0_addCase_X0 hown hK hP 0 rfl rfl 3 (by decide) (hts (.fieldLink RX0 21 "StatementRules2$Code" "caseValues" "[I") k_X0_addCase_fieldLink_RX0_21_SR_Code_caseValues_I) (fun _ h9 => h9) rfl dX0_addCase_1 ?_
  refine lv_aload_n hx hb dX0_addCase_4 rfl (lv_at hl 0 rfl) ?_
  refine va_get (D := (dC, dI)) (ci := 0) (v := .int o7) (C := RX0) (T := TX0) (N := 13) hx hb hts i_X0_addCase_X0 hown hK hP 0 rfl rfl 7 (by decide) (hts (.fieldLink RX0 34 "StatementRules2$Code" "caseCount" "I") k_X0_addCase_fieldLink_RX0_34_SR_Code_caseCount_I) (fun _ h9 => h9) rfl dX0_addCase_5 ?_
  refine lv_iload_n hx hb dX0_addCase_8 rfl (lv_at hl 1 rfl) ?_
  have hPc := hP.sub (ws' := [(qv, .inl (kv, 320, .inl fv))]) [1] rfl
  have hDc := hD.sub (ws' := [(qv, .inl (kv, 320, .inl fv))]) [1] (by decide) rfl
  have hKc := hK.sub (tys' := [(kv, .int)]) [0] rfl
  have hFc := va_free (wc := [(qv, .inl (kv, 320, .inl fv))]) hD hS hA [1] rfl
  refine va_callv (va_runSN (As := [.ref qv, .int o7, .int x]) (rest := []) ⟨hx, hb, hml, hown, hts⟩ (c_X11_put l dC dI _ qv kv 320 fv o7 x (by decide)) ⟨va_cnB 3 hts hX0_addCase_X11_put_n53 rfl rfl rfl (hZ.1 (.methodLinkNest RX0 53 yX11_put "StatementRules2") (by decide +kernel)) (hts (.initialized RX11) k_X0_addCase_initialized_RX11) (by decide +kernel) ⟨Nat.le_of_ble_eq_true rfl, Nat.le_of_ble_eq_true rfl⟩, (hts (.static yX11_put) k_X0_addCase_static_yX11_put), trivial⟩ ⟨zPre.blind, zPre.go hZ hPc hKc hDc⟩ rfl rfl hl.1 rfl (lv_room (Nat.le_of_ble_eq_true rfl)) dX0_addCase_9 ⟨Nat.le_of_ble_eq_true rfl, Nat.le_of_ble_eq_true rfl⟩) hS (fun q _ h => hFc q h) hFc (fun u9 t9 H1 locs ht hvm hw hB hz1 hk1 hS => ?_)
  obtain ⟨g_2, hP1, hK1, hD1⟩ := hB
  rw [ht] at hP1
  have hK1 := va_K.moved hvm.symm hK1
  obtain ⟨hP, hD⟩ := va_join (wr := [(h0, .inr (0, [.ref qp, .ref qg, .ref qt, .ref qv, .ref qw, .int o5, .int o6, .int o7, .int o8, .int o9, .int o10, .int o11, .int o12])), (qw, .inl (kw, 320, .inl fw))]) (w1 := [(qv, .inl (kv, 320, .inl g_2))]) hP hD [1] [0, 2] rfl rfl (by decide) (by decide) hk1 hFc hP1 hD1
  have hK := hK.app hK1
  generalize H1 = H at hP hS ⊢
  have hP : va_P (dC, dI) vwCl [(h0, .inr (0, [.ref qp, .ref qg, .ref qt, .ref qv, .ref qw, .int o5, .int o6, .int o7, .int o8, .int o9, .int o10, .int o11, .int o12])), (qw, .inl (kw, 320, .inl fw)), (qv, .inl (kv, 320, .inl g_2))] H := hP
  have hD : va_D A [(h0, .inr (0, [.ref qp, .ref qg, .ref qt, .ref qv, .ref qw, .int o5, .int o6, .int o7, .int o8, .int o9, .int o10, .int o11, .int o12])), (qw, .inl (kw, 320, .inl fw)), (qv, .inl (kv, 320, .inl g_2))] := hD
  have hK : va_K (dC, dI) vwCl [(kv, .int), (kw, .int), (kv, .int)] s := hK
  have hK : va_K (dC, dI) vwCl [(kv, .int), (kw, .int)] s := hK.sub [0, 1] rfl
  refine lv_aload_n hx hb dX0_addCase_12 rfl (lv_at hl 0 rfl) ?_
  refine va_get (D := (dC, dI)) (ci := 0) (v := .ref qw) (C := RX0) (T := TX0) (N := 13) hx hb hts i_X0_addCase_X0 hown hK hP 0 rfl rfl 4 (by decide) (hts (.fieldLink RX0 24 "StatementRules2$Code" "caseTargets" "[I") k_X0_addCase_fieldLink_RX0_24_SR_Code_caseTargets_I) (fun _ h9 => h9) rfl dX0_addCase_13 ?_
  refine lv_aload_n hx hb dX0_addCase_16 rfl (lv_at hl 0 rfl) ?_
  refine va_get (D := (dC, dI)) (ci := 0) (v := .int o7) (C := RX0) (T := TX0) (N := 13) hx hb hts i_X0_addCase_X0 hown hK hP 0 rfl rfl 7 (by decide) (hts (.fieldLink RX0 34 "StatementRules2$Code" "caseCount" "I") k_X0_addCase_fieldLink_RX0_34_SR_Code_caseCount_I) (fun _ h9 => h9) rfl dX0_addCase_17 ?_
  refine lv_iload_n hx hb dX0_addCase_20 rfl (lv_at hl 2 rfl) ?_
  have hPc := hP.sub (ws' := [(qw, .inl (kw, 320, .inl fw))]) [1] rfl
  have hDc := hD.sub (ws' := [(qw, .inl (kw, 320, .inl fw))]) [1] (by decide) rfl
  have hKc := hK.sub (tys' := [(kw, .int)]) [1] rfl
  have hFc := va_free (wc := [(qw, .inl (kw, 320, .inl fw))]) hD hS hA [1] rfl
  refine va_callv (va_runSN (As := [.ref qw, .int o7, .int y]) (rest := []) ⟨hx, hb, hml, hown, hts⟩ (c_X11_put l dC dI _ qw kw 320 fw o7 y (by decide)) ⟨va_cnB 3 hts hX0_addCase_X11_put_n53 rfl rfl rfl (hZ.1 (.methodLinkNest RX0 53 yX11_put "StatementRules2") (by decide +kernel)) (hts (.initialized RX11) k_X0_addCase_initialized_RX11) (by decide +kernel) ⟨Nat.le_of_ble_eq_true rfl, Nat.le_of_ble_eq_true rfl⟩, (hts (.static yX11_put) k_X0_addCase_static_yX11_put), trivial⟩ ⟨zPre.blind, zPre.go hZ hPc hKc hDc⟩ rfl rfl hl.1 rfl (lv_room (Nat.le_of_ble_eq_true rfl)) dX0_addCase_21 ⟨Nat.le_of_ble_eq_true rfl, Nat.le_of_ble_eq_true rfl⟩) hS (fun q _ h => hFc q h) hFc (fun u9 t9 H1 locs ht hvm hw hB hz1 hk1 hS => ?_)
  obtain ⟨g_4, hP1, hK1, hD1⟩ := hB
  rw [ht] at hP1
  have hK1 := va_K.moved hvm.symm hK1
  obtain ⟨hP, hD⟩ := va_join (wr := [(h0, .inr (0, [.ref qp, .ref qg, .ref qt, .ref qv, .ref qw, .int o5, .int o6, .int o7, .int o8, .int o9, .int o10, .int o11, .int o12])), (qv, .inl (kv, 320, .inl g_2))]) (w1 := [(qw, .inl (kw, 320, .inl g_4))]) hP hD [1] [0, 2] rfl rfl (by decide) (by decide) hk1 hFc hP1 hD1
  have hK := hK.app hK1
  generalize H1 = H at hP hS ⊢
  have hP : va_P (dC, dI) vwCl [(h0, .inr (0, [.ref qp, .ref qg, .ref qt, .ref qv, .ref qw, .int o5, .int o6, .int o7, .int o8, .int o9, .int o10, .int o11, .int o12])), (qv, .inl (kv, 320, .inl g_2)), (qw, .inl (kw, 320, .inl g_4))] H := hP
  have hD : va_D A [(h0, .inr (0, [.ref qp, .ref qg, .ref qt, .ref qv, .ref qw, .int o5, .int o6, .int o7, .int o8, .int o9, .int o10, .int o11, .int o12])), (qv, .inl (kv, 320, .inl g_2)), (qw, .inl (kw, 320, .inl g_4))] := hD
  have hK : va_K (dC, dI) vwCl [(kv, .int), (kw, .int), (kw, .int)] s := hK
  have hK : va_K (dC, dI) vwCl [(kv, .int), (kw, .int)] s := hK.sub [0, 1] rfl
  refine lv_aload_n hx hb dX0_addCase_24 rfl (lv_at hl 0 rfl) ?_
  refine lv_dup hx hb dX0_addCase_25 rfl ?_
  refine va_get (D := (dC, dI)) (ci := 0) (v := .int o7) (C := RX0) (T := TX0) (N := 13) hx hb hts i_X0_addCase_X0 hown hK hP 0 rfl rfl 7 (by decide) (hts (.fieldLink RX0 34 "StatementRules2$Code" "caseCount" "I") k_X0_addCase_fieldLink_RX0_34_SR_Code_caseCount_I) (fun _ h9 => h9) rfl dX0_addCase_26 ?_
  refine lv_iconst (v := 1) hx hb dX0_addCase_29 (by decide) ?_
  refine lv_iadd hx hb dX0_addCase_30 ?_
  refine lv_topi (fun z5 ez5 => ?_)
  refine va_put (D := (dC, dI)) (ci := 0) (v := .int z5) (ty := .int) (C := RX0) (T := TX0) (N := 13) hx hb hts i_X0_addCase_X0 tyX0 tyX0_ok nmX0 hown hK hP hD hS 0 rfl rfl 7 (by decide) (hts (.fieldLink RX0 34 "StatementRules2$Code" "caseCount" "I") k_X0_addCase_fieldLink_RX0_34_SR_Code_caseCount_I) (fun _ h9 => h9) rfl (by decide +kernel) rfl rfl (Nat.le_of_ble_eq_true rfl) dX0_addCase_31 (fun H locs hP hD hS => ?_)
  have hP : va_P (dC, dI) vwCl [(h0, .inr (0, [.ref qp, .ref qg, .ref qt, .ref qv, .ref qw, .int o5, .int o6, .int z5, .int o8, .int o9, .int o10, .int o11, .int o12])), (qv, .inl (kv, 320, .inl g_2)), (qw, .inl (kw, 320, .inl g_4))] H := hP
  have hD : va_D A [(h0, .inr (0, [.ref qp, .ref qg, .ref qt, .ref qv, .ref qw, .int o5, .int o6, .int z5, .int o8, .int o9, .int o10, .int o11, .int o12])), (qv, .inl (kv, 320, .inl g_2)), (qw, .inl (kw, 320, .inl g_4))] := hD
  have hP9 := hP.sub (ws' := [(h0, .inr (0, [.ref qp, .ref qg, .ref qt, .ref qv, .ref qw, .int o5, .int o6, .int z5, .int o8, .int o9, .int o10, .int o11, .int o12])), (qv, .inl (kv, 320, .inl g_2)), (qw, .inl (kw, 320, .inl g_4))]) [0, 1, 2] rfl
  have hD9 := hD.sub (ws' := [(h0, .inr (0, [.ref qp, .ref qg, .ref qt, .ref qv, .ref qw, .int o5, .int o6, .int z5, .int o8, .int o9, .int o10, .int o11, .int o12])), (qv, .inl (kv, 320, .inl g_2)), (qw, .inl (kw, 320, .inl g_4))]) [0, 1, 2] (by decide) rfl
  have hK9 := hK.sub (tys' := [(kv, .int), (kw, .int)]) [0, 1] rfl
  exact W.vret hx hb hr (fun t ht hW => ⟨⟨(), rfl, trivial, z5, g_2, g_4, by rw [ht]; exact hP9, va_K.moved hW.alike hK9, hD9⟩, hS.F ht⟩) hS.2.2 dX0_addCase_34
theorem k_X0_hasCase_fieldLink_RX0_34_SR_Code_caseCount_I : Cond.fieldLink RX0 34 "StatementRules2$Code" "caseCount" "I" ∈ wzX0_hasCase := List.mem_cons_of_mem _ (List.mem_append_left _ (List.mem_of_getElem? (i := 0) rfl))
theorem i_X0_hasCase_X0 : ∀ w ∈ wsX00, w ∈ wzX0_hasCase := fun _ h => List.mem_cons_of_mem _ (List.mem_append_right _ (List.mem_append_left _ (h)))
theorem k_X0_hasCase_fieldLink_RX0_21_SR_Code_caseValues_I : Cond.fieldLink RX0 21 "StatementRules2$Code" "caseValues" "[I" ∈ wzX0_hasCase := List.mem_cons_of_mem _ (List.mem_append_left _ (List.mem_of_getElem? (i := 1) rfl))
theorem k_X0_hasCase_initialized_RX11 : Cond.initialized RX11 ∈ wzX0_hasCase := List.mem_cons_of_mem _ (List.mem_append_left _ (List.mem_of_getElem? (i := 2) rfl))
theorem k_X0_hasCase_static_yX11_at : Cond.static yX11_at ∈ wzX0_hasCase := List.mem_cons_of_mem _ (List.mem_append_left _ (List.mem_of_getElem? (i := 3) rfl))
set_option maxHeartbeats 4000000 in
set_option maxRecDepth 100000 in
theorem j_X0_hasCase_2 {p : Program} {e : Env} {s : State} {m : MethodId} {args : Array Value} {below : List Frame} {meth : Method} {c : Code} {A : Nat → Prop} (l : Launch) (dC : Nat → ClassId) (dI : Nat → Nat → Nat) (h0 : Nat) (qp : Nat) (qg : Nat) (qt : Nat) (qv : Nat) (qw : Nat) (kv : ClassId) (o5 : Int32) (o6 : Int32) (o7 : Int32) (o8 : Int32) (o9 : Int32) (o10 : Int32) (o11 : Int32) (o12 : Int32) (fv : Nat → Int32) (y : Int32) (hx : p.tables.exec = Jvm.exec) (hb : c.code = cX0_hasCase) (hr : meth.sig.returnType = (some .boolean)) (hml : c.maxLocals = 4) (hown : s.vm.findClass RX0 = some m.cls) (hts : ∀ w ∈ wzX0_hasCase, w.before args s = true) (hlocks : meth.locks = false) (hZ : zAMB s) (hA : ∀ q : Nat, s.heap.size ≤ q → A q) (hK : va_K (dC, dI) vwCl [(kv, .int)] s) : ∀ (n9 : Nat) (l3 : Int32) (H : Heap) (locs : List Loc) (ls : Array Slot), ((o7 : Int32).toInt - (l3 : Int32).toInt).toNat ≤ n9 → va_P (dC, dI) vwCl [(h0, .inr (0, [.ref qp, .ref qg, .ref qt, .ref qv, .ref qw, .int o5, .int o6, .int o7, .int o8, .int o9, .int o10, .int o11, .int o12])), (qv, .inl (kv, 320, .inl fv))] H → va_D A [(h0, .inr (0, [.ref qp, .ref qg, .ref qt, .ref qv, .ref qw, .int o5, .int o6, .int o7, .int o8, .int o9, .int o10, .int o11, .int o12])), (qv, .inl (kv, 320, .inl fv))] → va_S A s.heap H locs → lv_has ls 4 [(0, .ref h0), (2, .int y), (3, .int l3)] → W p l e ({ frames := 2, cells := 0, slots := 0, locals := 120 }) s m args below meth c H locs 0 0 (MQ below (va_Qi (fun (r : Int32) (_ : Unit) => r = 0 ∨ r = 1) (fun (_ : Unit) (t : State) => zPost dC dI A [(h0, .inr (0, [.ref qp, .ref qg, .ref qt, .ref qv, .ref qw, .int o5, .int o6, .int o7, .int o8, .int o9, .int o10, .int o11, .int o12])), (qv, .inl (kv, 320, .inl fv))] [(kv, .int)] t) A) args s 0 0 A) (F0 m 2 ls []) := by
  intro n9
  induction n9 with
  | zero =>
    intro l3 H locs ls hinv hP hD hS hl
    have hge : o7 ≤ l3 := z_upz hinv
    refine lv_iload_n hx hb dX0_hasCase_2 rfl (lv_at hl 2 rfl) ?_
    refine lv_aload_n hx hb dX0_hasCase_3 rfl (lv_at hl 0 rfl) ?_
    refine va_get (D := (dC, dI)) (ci := 0) (v := .int o7) (C := RX0) (T := TX0) (N := 13) hx hb hts i_X0_hasCase_X0 hown hK hP 0 rfl rfl 7 (by decide) (hts (.fieldLink RX0 34 "StatementRules2$Code" "caseCount" "I") k_X0_hasCase_fieldLink_RX0_34_SR_Code_caseCount_I) (fun _ h9 => h9) rfl dX0_hasCase_4 ?_
    refine lv_icmp_ge (tgt := 30) hx hb dX0_hasCase_7 (by decide) (fun _ => ?_) (fun c9 => absurd hge c9)
    refine lv_iconst (v := 0) hx hb dX0_hasCase_30 (by decide) ?_
    have hP9 := hP.sub (ws' := [(h0, .inr (0, [.ref qp, .ref qg, .ref qt, .ref qv, .ref qw, .int o5, .int o6, .int o7, .int o8, .int o9, .int o10, .int o11, .int o12])), (qv, .inl (kv, 320, .inl fv))]) [0, 1] rfl
    have hD9 := hD.sub (ws' := [(h0, .inr (0, [.ref qp, .ref qg, .ref qt, .ref qv, .ref qw, .int o5, .int o6, .int o7, .int o8, .int o9, .int o10, .int o11, .int o12])), (qv, .inl (kv, 320, .inl fv))]) [0, 1] (by decide) rfl
    have hK9 := hK.sub (tys' := [(kv, .int)]) [0] rfl
    exact W.zret (v := 0) hx hb hr (rfl) (fun t ht hW => ⟨⟨0, (), rfl, (Or.inl rfl), by rw [ht]; exact hP9, va_K.moved hW.alike hK9, hD9⟩, hS.F ht⟩) hS.2.2 dX0_hasCase_31
  | succ n9 ih =>
    intro l3 H locs ls hinv hP hD hS hl
    refine lv_iload_n hx hb dX0_hasCase_2 rfl (lv_at hl 2 rfl) ?_
    refine lv_aload_n hx hb dX0_hasCase_3 rfl (lv_at hl 0 rfl) ?_
    refine va_get (D := (dC, dI)) (ci := 0) (v := .int o7) (C := RX0) (T := TX0) (N := 13) hx hb hts i_X0_hasCase_X0 hown hK hP 0 rfl rfl 7 (by decide) (hts (.fieldLink RX0 34 "StatementRules2$Code" "caseCount" "I") k_X0_hasCase_fieldLink_RX0_34_SR_Code_caseCount_I) (fun _ h9 => h9) rfl dX0_hasCase_4 ?_
    refine lv_icmp_ge (tgt := 30) hx hb dX0_hasCase_7 (by decide) (fun c1 => ?_) (fun c1 => ?_)
    ·
      refine lv_iconst (v := 0) hx hb dX0_hasCase_30 (by decide) ?_
      have hP9 := hP.sub (ws' := [(h0, .inr (0, [.ref qp, .ref qg, .ref qt, .ref qv, .ref qw, .int o5, .int o6, .int o7, .int o8, .int o9, .int o10, .int o11, .int o12])), (qv, .inl (kv, 320, .inl fv))]) [0, 1] rfl
      have hD9 := hD.sub (ws' := [(h0, .inr (0, [.ref qp, .ref qg, .ref qt, .ref qv, .ref qw, .int o5, .int o6, .int o7, .int o8, .int o9, .int o10, .int o11, .int o12])), (qv, .inl (kv, 320, .inl fv))]) [0, 1] (by decide) rfl
      have hK9 := hK.sub (tys' := [(kv, .int)]) [0] rfl
      exact W.zret (v := 0) hx hb hr (rfl) (fun t ht hW => ⟨⟨0, (), rfl, (Or.inl rfl), by rw [ht]; exact hP9, va_K.moved hW.alike hK9, hD9⟩, hS.F ht⟩) hS.2.2 dX0_hasCase_31
    ·
      refine lv_aload_n hx hb dX0_hasCase_10 rfl (lv_at hl 0 rfl) ?_
      refine va_get (D := (dC, dI)) (ci := 0) (v := .ref qv) (C := RX0) (T := TX0) (N := 13) hx hb hts i_X0_hasCase_X0 hown hK hP 0 rfl rfl 3 (by decide) (hts (.fieldLink RX0 21 "StatementRules2$Code" "caseValues" "[I") k_X0_hasCase_fieldLink_RX0_21_SR_Code_caseValues_I) (fun _ h9 => h9) rfl dX0_hasCase_11 ?_
      refine lv_iload_n hx hb dX0_hasCase_14 rfl (lv_at hl 2 rfl) ?_
      have hPc := hP.sub (ws' := [(qv, .inl (kv, 320, .inl fv))]) [1] rfl
      have hDc := hD.sub (ws' := [(qv, .inl (kv, 320, .inl fv))]) [1] (by decide) rfl
      have hKc := hK.sub (tys' := [(kv, .int)]) [0] rfl
      have hFc := va_free (wc := [(qv, .inl (kv, 320, .inl fv))]) hD hS hA [1] rfl
      refine va_calli (va_runSN (As := [.ref qv, .int l3]) (rest := []) ⟨hx, hb, hml, hown, hts⟩ (c_X11_at l dC dI _ qv kv 320 fv l3 (by decide)) ⟨va_cnB 2 hts hX0_hasCase_X11_at_n57 rfl rfl rfl (hZ.1 (.methodLinkNest RX0 57 yX11_at "StatementRules2") (by decide +kernel)) (hts (.initialized RX11) k_X0_hasCase_initialized_RX11) (by decide +kernel) ⟨Nat.le_of_ble_eq_true rfl, Nat.le_of_ble_eq_true rfl⟩, (hts (.static yX11_at) k_X0_hasCase_static_yX11_at), trivial⟩ ⟨zPre.blind, zPre.go hZ hPc hKc hDc⟩ rfl rfl hl.1 rfl (lv_room (Nat.le_of_ble_eq_true rfl)) dX0_hasCase_15 ⟨Nat.le_of_ble_eq_true rfl, Nat.le_of_ble_eq_true rfl⟩) hS (fun q _ h => hFc q h) hFc (fun r2 u9 t9 H1 locs ht hvm hw hB hz1 hk1 hS => ?_)
      obtain ⟨hP1, hK1, hD1⟩ := hB
      rw [ht] at hP1
      have hK1 := va_K.moved hvm.symm hK1
      obtain ⟨hP, hD⟩ := va_join (wr := [(h0, .inr (0, [.ref qp, .ref qg, .ref qt, .ref qv, .ref qw, .int o5, .int o6, .int o7, .int o8, .int o9, .int o10, .int o11, .int o12]))]) (w1 := [(qv, .inl (kv, 320, .inl fv))]) hP hD [1] [0] rfl rfl (by decide) (by decide) hk1 hFc hP1 hD1
      have hK := hK.app hK1
      generalize H1 = H at hP hS ⊢
      have hP : va_P (dC, dI) vwCl [(h0, .inr (0, [.ref qp, .ref qg, .ref qt, .ref qv, .ref qw, .int o5, .int o6, .int o7, .int o8, .int o9, .int o10, .int o11, .int o12])), (qv, .inl (kv, 320, .inl fv))] H := hP
      have hD : va_D A [(h0, .inr (0, [.ref qp, .ref qg, .ref qt, .ref qv, .ref qw, .int o5, .int o6, .int o7, .int o8, .int o9, .int o10, .int o11, .int o12])), (qv, .inl (kv, 320, .inl fv))] := hD
      have hK : va_K (dC, dI) vwCl [(kv, .int), (kv, .int)] s := hK
      have hK : va_K (dC, dI) vwCl [(kv, .int)] s := hK.sub [0] rfl
      refine lv_iload_n hx hb dX0_hasCase_18 rfl (lv_at hl 1 rfl) ?_
      refine lv_icmp_ne (tgt := 24) hx hb dX0_hasCase_19 (by decide) (fun c3 => ?_) (fun c3 => ?_)
      ·
        obtain ⟨z4, ez4⟩ : ∃ y : Int32, y = l3 + Int32.ofInt (1) := ⟨_, rfl⟩
        refine lv_iinc (v := z4) (lv' := [(3, .int z4), (0, .ref h0), (2, .int y)]) hx hb dX0_hasCase_24 hl (k := 2) rfl (ez4.symm) (by decide) rfl (fun ls hl => ?_)
        refine lv_goto (tgt := 2) hx hb dX0_hasCase_27 (by decide) ?_
        exact ih z4 _ _ _ (by rw [ez4]; exact z_up hinv c1) hP hD hS (lv_sub hl [1, 2, 0] rfl)
      ·
        refine lv_iconst (v := 1) hx hb dX0_hasCase_22 (by decide) ?_
        have hP9 := hP.sub (ws' := [(h0, .inr (0, [.ref qp, .ref qg, .ref qt, .ref qv, .ref qw, .int o5, .int o6, .int o7, .int o8, .int o9, .int o10, .int o11, .int o12])), (qv, .inl (kv, 320, .inl fv))]) [0, 1] rfl
        have hD9 := hD.sub (ws' := [(h0, .inr (0, [.ref qp, .ref qg, .ref qt, .ref qv, .ref qw, .int o5, .int o6, .int o7, .int o8, .int o9, .int o10, .int o11, .int o12])), (qv, .inl (kv, 320, .inl fv))]) [0, 1] (by decide) rfl
        have hK9 := hK.sub (tys' := [(kv, .int)]) [0] rfl
        exact W.zret (v := 1) hx hb hr (rfl) (fun t ht hW => ⟨⟨1, (), rfl, (Or.inr rfl), by rw [ht]; exact hP9, va_K.moved hW.alike hK9, hD9⟩, hS.F ht⟩) hS.2.2 dX0_hasCase_23
set_option maxHeartbeats 4000000 in
set_option maxRecDepth 100000 in
theorem c_X0_hasCase (l : Launch) (dC : Nat → ClassId) (dI : Nat → Nat → Nat) (sz : Nat) (h0 : Nat) (x : Int32) (y : Int32) (o5 : Int32) (o6 : Int32) (o7 : Int32) (o8 : Int32) (o9 : Int32) (o10 : Int32) (o11 : Int32) (o12 : Int32) (qp : Nat) (qg : Nat) (qt : Nat) (qv : Nat) (qw : Nat) (kv : ClassId) (fv : Nat → Int32) : Met l yX0_hasCase wzX0_hasCase ({ frames := 2, cells := 0, slots := 0, locals := 120 }) (va_Pc [.ref h0, .int x, .int y] (zPre dC dI sz [(h0, .inr (0, [.ref qp, .ref qg, .ref qt, .ref qv, .ref qw, .int o5, .int o6, .int o7, .int o8, .int o9, .int o10, .int o11, .int o12])), (qv, .inl (kv, 320, .inl fv))] [(kv, .int)])) (va_Qi (fun (r : Int32) (_ : Unit) => r = 0 ∨ r = 1) (fun (_ : Unit) (t : State) => zPost dC dI (va_A [(h0, .inr (0, [.ref qp, .ref qg, .ref qt, .ref qv, .ref qw, .int o5, .int o6, .int o7, .int o8, .int o9, .int o10, .int o11, .int o12])), (qv, .inl (kv, 320, .inl fv))] sz) [(h0, .inr (0, [.ref qp, .ref qg, .ref qt, .ref qv, .ref qw, .int o5, .int o6, .int o7, .int o8, .int o9, .int o10, .int o11, .int o12])), (qv, .inl (kv, 320, .inl fv))] [(kv, .int)] t) (va_A [(h0, .inr (0, [.ref qp, .ref qg, .ref qt, .ref qv, .ref qw, .int o5, .int o6, .int o7, .int o8, .int o9, .int o10, .int o11, .int o12])), (qv, .inl (kv, 320, .inl fv))] sz)) 0 0 (va_A [(h0, .inr (0, [.ref qp, .ref qg, .ref qt, .ref qv, .ref qw, .int o5, .int o6, .int o7, .int o8, .int o9, .int o10, .int o11, .int o12])), (qv, .inl (kv, 320, .inl fv))] sz) := by
  refine Met.ofW (cc := cX0_hasCase) (maxL := 4) (ret := (some .boolean)) (by decide) rfl ?_
  intro p e s m args below meth c s₁ B hml hv
  obtain ⟨rfl, hsz, hZ, hP, hK, hD0⟩ := hv
  have hx := B.exec
  have hb := B.bytes
  have hr := B.returns
  have hts := atoms_spec (ws := wzX0_hasCase) B.pre
  have hown : s.vm.findClass RX0 = some m.cls := findClass_of_methodNamed B.named
  have hlocks := B.notSynchronized
  subst hsz
  have hD := hD0.self (sz := s.heap.size)
  generalize hAe : va_A [(h0, .inr (0, [.ref qp, .ref qg, .ref qt, .ref qv, .ref qw, .int o5, .int o6, .int o7, .int o8, .int o9, .int o10, .int o11, .int o12])), (qv, .inl (kv, 320, .inl fv))] s.heap.size = A at hD ⊢
  have hA : ∀ q : Nat, s.heap.size ≤ q → A q := fun q h => by rw [← hAe]; exact Or.inr h
  have hS : va_S A s.heap s.heap [] := va_S.rf
  have hP : va_P (dC, dI) vwCl [(h0, .inr (0, [.ref qp, .ref qg, .ref qt, .ref qv, .ref qw, .int o5, .int o6, .int o7, .int o8, .int o9, .int o10, .int o11, .int o12])), (qv, .inl (kv, 320, .inl fv))] s.heap := hP
  have hl := lv_entry ([.ref h0, .int x, .int y]) (n := 4) (Nat.le_of_ble_eq_true rfl)
  rw [lg_entry_eq]
  generalize (lg_sl ([.ref h0, .int x, .int y]) ++ List.replicate (4 - (lg_sl ([.ref h0, .int x, .int y])).length) Slot.unset).toArray = ls at hl ⊢
  have hl : lv_has ls 4 [(0, .ref h0), (1, .int x), (2, .int y)] := hl
  refine lv_iload_n hx hb dX0_hasCase_0 rfl (lv_at hl 1 rfl) ?_
  refine lv_istore_n (lv' := [(3, .int x), (0, .ref h0), (1, .int x), (2, .int y)]) hx hb dX0_hasCase_1 rfl hl (by decide) rfl (fun ls hl => ?_)
  exact j_X0_hasCase_2 l dC dI h0 qp qg qt qv qw kv o5 o6 o7 o8 o9 o10 o11 o12 fv y hx hb hr hml hown hts hlocks hZ hA hK _ x _ _ _ (Nat.le_refl _) hP hD hS (lv_sub hl [1, 3, 0] rfl)
theorem k_X0_addCases_fieldLink_RX0_34_SR_Code_caseCount_I : Cond.fieldLink RX0 34 "StatementRules2$Code" "caseCount" "I" ∈ wzX0_addCases := List.mem_cons_of_mem _ (List.mem_append_left _ (List.mem_of_getElem? (i := 0) rfl))
theorem i_X0_addCases_X0 : ∀ w ∈ wsX00, w ∈ wzX0_addCases := fun _ h => List.mem_cons_of_mem _ (List.mem_append_right _ (List.mem_append_left _ (h)))
theorem k_X0_addCases_fieldLink_RX0_21_SR_Code_caseValues_I : Cond.fieldLink RX0 21 "StatementRules2$Code" "caseValues" "[I" ∈ wzX0_addCases := List.mem_cons_of_mem _ (List.mem_append_left _ (List.mem_of_getElem? (i := 1) rfl))
theorem k_X0_addCases_initialized_RX11 : Cond.initialized RX11 ∈ wzX0_addCases := List.mem_cons_of_mem _ (List.mem_append_left _ (List.mem_of_getElem? (i := 2) rfl))
theorem k_X0_addCases_static_yX11_at : Cond.static yX11_at ∈ wzX0_addCases := List.mem_cons_of_mem _ (List.mem_append_left _ (List.mem_of_getElem? (i := 3) rfl))
theorem k_X0_addCases_fieldLink_RX0_24_SR_Code_caseTargets_I : Cond.fieldLink RX0 24 "StatementRules2$Code" "caseTargets" "[I" ∈ wzX0_addCases := List.mem_cons_of_mem _ (List.mem_append_left _ (List.mem_of_getElem? (i := 4) rfl))
set_option maxHeartbeats 4000000 in
set_option maxRecDepth 100000 in
theorem j_X0_addCases_2 {p : Program} {e : Env} {s : State} {m : MethodId} {args : Array Value} {below : List Frame} {meth : Method} {c : Code} {A : Nat → Prop} (l : Launch) (dC : Nat → ClassId) (dI : Nat → Nat → Nat) (h0 : Nat) (qp : Nat) (qg : Nat) (qt : Nat) (qv : Nat) (qw : Nat) (kp : ClassId) (kg : ClassId) (kv : ClassId) (kw : ClassId) (o6 : Int32) (o7 : Int32) (o8 : Int32) (o9 : Int32) (o10 : Int32) (o11 : Int32) (o12 : Int32) (fv : Nat → Int32) (fw : Nat → Int32) (x : Int32) (y : Int32) (hx : p.tables.exec = Jvm.exec) (hb : c.code = cX0_addCases) (hr : meth.sig.returnType = none) (hml : c.maxLocals = 4) (hown : s.vm.findClass RX0 = some m.cls) (hts : ∀ w ∈ wzX0_addCases, w.before args s = true) (hlocks : meth.locks = false) (hZ : zAMB s) (hA : ∀ q : Nat, s.heap.size ≤ q → A q) (hK : va_K (dC, dI) vwCl [(kp, .int), (kg, .int), (kv, .int), (kw, .int)] s) : ∀ (n9 : Nat) (w0_5 : Int32) (a1 : Nat → Int32) (a2 : Nat → Int32) (l3 : Int32) (H : Heap) (locs : List Loc) (ls : Array Slot), ((o7 : Int32).toInt - (l3 : Int32).toInt).toNat ≤ n9 → va_P (dC, dI) vwCl [(h0, .inr (0, [.ref qp, .ref qg, .ref qt, .ref qv, .ref qw, .int w0_5, .int o6, .int o7, .int o8, .int o9, .int o10, .int o11, .int o12])), (qp, .inl (kp, 1200, .inl a1)), (qg, .inl (kg, 1200, .inl a2)), (qv, .inl (kv, 320, .inl fv)), (qw, .inl (kw, 320, .inl fw))] H → va_D A [(h0, .inr (0, [.ref qp, .ref qg, .ref qt, .ref qv, .ref qw, .int w0_5, .int o6, .int o7, .int o8, .int o9, .int o10, .int o11, .int o12])), (qp, .inl (kp, 1200, .inl a1)), (qg, .inl (kg, 1200, .inl a2)), (qv, .inl (kv, 320, .inl fv)), (qw, .inl (kw, 320, .inl fw))] → va_S A s.heap H locs → lv_has ls 4 [(0, .ref h0), (1, .int x), (2, .int y), (3, .int l3)] → W p l e ({ frames := 3, cells := 0, slots := 0, locals := 180 }) s m args below meth c H locs 0 0 (MQ below (va_Qv (fun (_ : Unit) => True) (fun (_ : Unit) (t : State) => ∃ (e5 : Int32), ∃ (e7 : Int32), ∃ (bfp : Nat → Int32), ∃ (bfg : Nat → Int32), zPost dC dI A [(h0, .inr (0, [.ref qp, .ref qg, .ref qt, .ref qv, .ref qw, .int e5, .int o6, .int e7, .int o8, .int o9, .int o10, .int o11, .int o12])), (qp, .inl (kp, 1200, .inl bfp)), (qg, .inl (kg, 1200, .inl bfg)), (qv, .inl (kv, 320, .inl fv)), (qw, .inl (kw, 320, .inl fw))] [(kp, .int), (kg, .int), (kv, .int), (kw, .int)] t) A) args s 0 0 A) (F0 m 2 ls []) := by
  intro n9
  induction n9 with
  | zero =>
    intro w0_5 a1 a2 l3 H locs ls hinv hP hD hS hl
    have hge : o7 ≤ l3 := z_upz hinv
    refine lv_iload_n hx hb dX0_addCases_2 rfl (lv_at hl 3 rfl) ?_
    refine lv_aload_n hx hb dX0_addCases_3 rfl (lv_at hl 0 rfl) ?_
    refine va_get (D := (dC, dI)) (ci := 0) (v := .int o7) (C := RX0) (T := TX0) (N := 13) hx hb hts i_X0_addCases_X0 hown hK hP 0 rfl rfl 7 (by decide) (hts (.fieldLink RX0 34 "StatementRules2$Code" "caseCount" "I") k_X0_addCases_fieldLink_RX0_34_SR_Code_caseCount_I) (fun _ h9 => h9) rfl dX0_addCases_4 ?_
    refine lv_icmp_ge (tgt := 43) hx hb dX0_addCases_7 (by decide) (fun _ => ?_) (fun c9 => absurd hge c9)
    refine lv_aload_n hx hb dX0_addCases_43 rfl (lv_at hl 0 rfl) ?_
    refine lv_iload_n hx hb dX0_addCases_44 rfl (lv_at hl 1 rfl) ?_
    refine va_put (D := (dC, dI)) (ci := 0) (v := .int x) (ty := .int) (C := RX0) (T := TX0) (N := 13) hx hb hts i_X0_addCases_X0 tyX0 tyX0_ok nmX0 hown hK hP hD hS 0 rfl rfl 7 (by decide) (hts (.fieldLink RX0 34 "StatementRules2$Code" "caseCount" "I") k_X0_addCases_fieldLink_RX0_34_SR_Code_caseCount_I) (fun _ h9 => h9) rfl (by decide +kernel) rfl rfl (Nat.le_of_ble_eq_true rfl) dX0_addCases_45 (fun H locs hP hD hS => ?_)
    have hP : va_P (dC, dI) vwCl [(h0, .inr (0, [.ref qp, .ref qg, .ref qt, .ref qv, .ref qw, .int w0_5, .int o6, .int x, .int o8, .int o9, .int o10, .int o11, .int o12])), (qp, .inl (kp, 1200, .inl a1)), (qg, .inl (kg, 1200, .inl a2)), (qv, .inl (kv, 320, .inl fv)), (qw, .inl (kw, 320, .inl fw))] H := hP
    have hD : va_D A [(h0, .inr (0, [.ref qp, .ref qg, .ref qt, .ref qv, .ref qw, .int w0_5, .int o6, .int x, .int o8, .int o9, .int o10, .int o11, .int o12])), (qp, .inl (kp, 1200, .inl a1)), (qg, .inl (kg, 1200, .inl a2)), (qv, .inl (kv, 320, .inl fv)), (qw, .inl (kw, 320, .inl fw))] := hD
    refine lv_aload_n hx hb dX0_addCases_48 rfl (lv_at hl 0 rfl) ?_
    refine lv_bipush (v := 6) hx hb dX0_addCases_49 (by decide) ?_
    refine lv_iconst (v := 0) hx hb dX0_addCases_51 (by decide) ?_
    have hPc := hP.sub (ws' := [(h0, .inr (0, [.ref qp, .ref qg, .ref qt, .ref qv, .ref qw, .int w0_5, .int o6, .int x, .int o8, .int o9, .int o10, .int o11, .int o12])), (qp, .inl (kp, 1200, .inl a1)), (qg, .inl (kg, 1200, .inl a2))]) [0, 1, 2] rfl
    have hDc := hD.sub (ws' := [(h0, .inr (0, [.ref qp, .ref qg, .ref qt, .ref qv, .ref qw, .int w0_5, .int o6, .int x, .int o8, .int o9, .int o10, .int o11, .int o12])), (qp, .inl (kp, 1200, .inl a1)), (qg, .inl (kg, 1200, .inl a2))]) [0, 1, 2] (by decide) rfl
    have hKc := hK.sub (tys' := [(kp, .int), (kg, .int)]) [0, 1] rfl
    have hFc := va_free (wc := [(h0, .inr (0, [.ref qp, .ref qg, .ref qt, .ref qv, .ref qw, .int w0_5, .int o6, .int x, .int o8, .int o9, .int o10, .int o11, .int o12])), (qp, .inl (kp, 1200, .inl a1)), (qg, .inl (kg, 1200, .inl a2))]) hD hS hA [0, 1, 2] rfl
    refine va_callv (va_runV (As := [.int 6, .int 0]) (rest := []) ⟨hx, hb, hml, hown, hts⟩ (c_X0_add l dC dI _ h0 6 0 w0_5 o6 x o8 o9 o10 o11 o12 qp qg qt qv qw kp kg a1 a2) (cwV 2 hts hX0_addCases_X0_add_v61 rfl rfl rfl (by decide +kernel) ⟨Nat.le_of_ble_eq_true rfl, Nat.le_of_ble_eq_true rfl⟩) ⟨zPre.blind, va_recv hKc hPc (ci := 0) (q0 := 0) rfl rfl, zPre.go hZ hPc hKc hDc⟩ rfl rfl hl.1 rfl (lv_room (Nat.le_of_ble_eq_true rfl)) dX0_addCases_52 ⟨Nat.le_of_ble_eq_true rfl, Nat.le_of_ble_eq_true rfl⟩) hS (fun q _ h => hFc q h) hFc (fun u9 t9 H1 locs ht hvm hw hB hz1 hk1 hS => ?_)
    obtain ⟨e5_2, bfp_3, bfg_4, hP1, hK1, hD1⟩ := hB
    rw [ht] at hP1
    have hK1 := va_K.moved hvm.symm hK1
    obtain ⟨hP, hD⟩ := va_join (wr := [(qv, .inl (kv, 320, .inl fv)), (qw, .inl (kw, 320, .inl fw))]) (w1 := [(h0, .inr (0, [.ref qp, .ref qg, .ref qt, .ref qv, .ref qw, .int e5_2, .int o6, .int x, .int o8, .int o9, .int o10, .int o11, .int o12])), (qp, .inl (kp, 1200, .inl bfp_3)), (qg, .inl (kg, 1200, .inl bfg_4))]) hP hD [0, 1, 2] [3, 4] rfl rfl (by decide) (by decide) hk1 hFc hP1 hD1
    have hK := hK.app hK1
    generalize H1 = H at hP hS ⊢
    have hP : va_P (dC, dI) vwCl [(qv, .inl (kv, 320, .inl fv)), (qw, .inl (kw, 320, .inl fw)), (h0, .inr (0, [.ref qp, .ref qg, .ref qt, .ref qv, .ref qw, .int e5_2, .int o6, .int x, .int o8, .int o9, .int o10, .int o11, .int o12])), (qp, .inl (kp, 1200, .inl bfp_3)), (qg, .inl (kg, 1200, .inl bfg_4))] H := hP
    have hD : va_D A [(qv, .inl (kv, 320, .inl fv)), (qw, .inl (kw, 320, .inl fw)), (h0, .inr (0, [.ref qp, .ref qg, .ref qt, .ref qv, .ref qw, .int e5_2, .int o6, .int x, .int o8, .int o9, .int o10, .int o11, .int o12])), (qp, .inl (kp, 1200, .inl bfp_3)), (qg, .inl (kg, 1200, .inl bfg_4))] := hD
    have hK : va_K (dC, dI) vwCl [(kp, .int), (kg, .int), (kv, .int), (kw, .int), (kp, .int), (kg, .int)] s := hK
    have hK : va_K (dC, dI) vwCl [(kp, .int), (kg, .int), (kv, .int), (kw, .int)] s := hK.sub [0, 1, 2, 3] rfl
    refine lv_aload_n hx hb dX0_addCases_55 rfl (lv_at hl 0 rfl) ?_
    refine lv_bipush (v := 30) hx hb dX0_addCases_56 (by decide) ?_
    refine lv_iload_n hx hb dX0_addCases_58 rfl (lv_at hl 2 rfl) ?_
    have hPc := hP.sub (ws' := [(h0, .inr (0, [.ref qp, .ref qg, .ref qt, .ref qv, .ref qw, .int e5_2, .int o6, .int x, .int o8, .int o9, .int o10, .int o11, .int o12])), (qp, .inl (kp, 1200, .inl bfp_3)), (qg, .inl (kg, 1200, .inl bfg_4))]) [2, 3, 4] rfl
    have hDc := hD.sub (ws' := [(h0, .inr (0, [.ref qp, .ref qg, .ref qt, .ref qv, .ref qw, .int e5_2, .int o6, .int x, .int o8, .int o9, .int o10, .int o11, .int o12])), (qp, .inl (kp, 1200, .inl bfp_3)), (qg, .inl (kg, 1200, .inl bfg_4))]) [2, 3, 4] (by decide) rfl
    have hKc := hK.sub (tys' := [(kp, .int), (kg, .int)]) [0, 1] rfl
    have hFc := va_free (wc := [(h0, .inr (0, [.ref qp, .ref qg, .ref qt, .ref qv, .ref qw, .int e5_2, .int o6, .int x, .int o8, .int o9, .int o10, .int o11, .int o12])), (qp, .inl (kp, 1200, .inl bfp_3)), (qg, .inl (kg, 1200, .inl bfg_4))]) hD hS hA [2, 3, 4] rfl
    refine va_callv (va_runV (As := [.int 30, .int y]) (rest := []) ⟨hx, hb, hml, hown, hts⟩ (c_X0_add l dC dI _ h0 30 y e5_2 o6 x o8 o9 o10 o11 o12 qp qg qt qv qw kp kg bfp_3 bfg_4) (cwV 2 hts hX0_addCases_X0_add_v61 rfl rfl rfl (by decide +kernel) ⟨Nat.le_of_ble_eq_true rfl, Nat.le_of_ble_eq_true rfl⟩) ⟨zPre.blind, va_recv hKc hPc (ci := 0) (q0 := 0) rfl rfl, zPre.go hZ hPc hKc hDc⟩ rfl rfl hl.1 rfl (lv_room (Nat.le_of_ble_eq_true rfl)) dX0_addCases_59 ⟨Nat.le_of_ble_eq_true rfl, Nat.le_of_ble_eq_true rfl⟩) hS (fun q _ h => hFc q h) hFc (fun u9 t9 H1 locs ht hvm hw hB hz1 hk1 hS => ?_)
    obtain ⟨e5_6, bfp_7, bfg_8, hP1, hK1, hD1⟩ := hB
    rw [ht] at hP1
    have hK1 := va_K.moved hvm.symm hK1
    obtain ⟨hP, hD⟩ := va_join (wr := [(qv, .inl (kv, 320, .inl fv)), (qw, .inl (kw, 320, .inl fw))]) (w1 := [(h0, .inr (0, [.ref qp, .ref qg, .ref qt, .ref qv, .ref qw, .int e5_6, .int o6, .int x, .int o8, .int o9, .int o10, .int o11, .int o12])), (qp, .inl (kp, 1200, .inl bfp_7)), (qg, .inl (kg, 1200, .inl bfg_8))]) hP hD [2, 3, 4] [0, 1] rfl rfl (by decide) (by decide) hk1 hFc hP1 hD1
    have hK := hK.app hK1
    generalize H1 = H at hP hS ⊢
    have hP : va_P (dC, dI) vwCl [(qv, .inl (kv, 320, .inl fv)), (qw, .inl (kw, 320, .inl fw)), (h0, .inr (0, [.ref qp, .ref qg, .ref qt, .ref qv, .ref qw, .int e5_6, .int o6, .int x, .int o8, .int o9, .int o10, .int o11, .int o12])), (qp, .inl (kp, 1200, .inl bfp_7)), (qg, .inl (kg, 1200, .inl bfg_8))] H := hP
    have hD : va_D A [(qv, .inl (kv, 320, .inl fv)), (qw, .inl (kw, 320, .inl fw)), (h0, .inr (0, [.ref qp, .ref qg, .ref qt, .ref qv, .ref qw, .int e5_6, .int o6, .int x, .int o8, .int o9, .int o10, .int o11, .int o12])), (qp, .inl (kp, 1200, .inl bfp_7)), (qg, .inl (kg, 1200, .inl bfg_8))] := hD
    have hK : va_K (dC, dI) vwCl [(kp, .int), (kg, .int), (kv, .int), (kw, .int), (kp, .int), (kg, .int)] s := hK
    have hK : va_K (dC, dI) vwCl [(kp, .int), (kg, .int), (kv, .int), (kw, .int)] s := hK.sub [0, 1, 2, 3] rfl
    have hP9 := hP.sub (ws' := [(h0, .inr (0, [.ref qp, .ref qg, .ref qt, .ref qv, .ref qw, .int e5_6, .int o6, .int x, .int o8, .int o9, .int o10, .int o11, .int o12])), (qp, .inl (kp, 1200, .inl bfp_7)), (qg, .inl (kg, 1200, .inl bfg_8)), (qv, .inl (kv, 320, .inl fv)), (qw, .inl (kw, 320, .inl fw))]) [2, 3, 4, 0, 1] rfl
    have hD9 := hD.sub (ws' := [(h0, .inr (0, [.ref qp, .ref qg, .ref qt, .ref qv, .ref qw, .int e5_6, .int o6, .int x, .int o8, .int o9, .int o10, .int o11, .int o12])), (qp, .inl (kp, 1200, .inl bfp_7)), (qg, .inl (kg, 1200, .inl bfg_8)), (qv, .inl (kv, 320, .inl fv)), (qw, .inl (kw, 320, .inl fw))]) [2, 3, 4, 0, 1] (by decide) rfl
    have hK9 := hK.sub (tys' := [(kp, .int), (kg, .int), (kv, .int), (kw, .int)]) [0, 1, 2, 3] rfl
    exact W.vret hx hb hr (fun t ht hW => ⟨⟨(), rfl, trivial, e5_6, x, bfp_7, bfg_8, by rw [ht]; exact hP9, va_K.moved hW.alike hK9, hD9⟩, hS.F ht⟩) hS.2.2 dX0_addCases_62
  | succ n9 ih =>
    intro w0_5 a1 a2 l3 H locs ls hinv hP hD hS hl
    refine lv_iload_n hx hb dX0_addCases_2 rfl (lv_at hl 3 rfl) ?_
    refine lv_aload_n hx hb dX0_addCases_3 rfl (lv_at hl 0 rfl) ?_
    refine va_get (D := (dC, dI)) (ci := 0) (v := .int o7) (C := RX0) (T := TX0) (N := 13) hx hb hts i_X0_addCases_X0 hown hK hP 0 rfl rfl 7 (by decide) (hts (.fieldLink RX0 34 "StatementRules2$Code" "caseCount" "I") k_X0_addCases_fieldLink_RX0_34_SR_Code_caseCount_I) (fun _ h9 => h9) rfl dX0_addCases_4 ?_
    refine lv_icmp_ge (tgt := 43) hx hb dX0_addCases_7 (by decide) (fun c9 => ?_) (fun c9 => ?_)
    ·
      refine lv_aload_n hx hb dX0_addCases_43 rfl (lv_at hl 0 rfl) ?_
      refine lv_iload_n hx hb dX0_addCases_44 rfl (lv_at hl 1 rfl) ?_
      refine va_put (D := (dC, dI)) (ci := 0) (v := .int x) (ty := .int) (C := RX0) (T := TX0) (N := 13) hx hb hts i_X0_addCases_X0 tyX0 tyX0_ok nmX0 hown hK hP hD hS 0 rfl rfl 7 (by decide) (hts (.fieldLink RX0 34 "StatementRules2$Code" "caseCount" "I") k_X0_addCases_fieldLink_RX0_34_SR_Code_caseCount_I) (fun _ h9 => h9) rfl (by decide +kernel) rfl rfl (Nat.le_of_ble_eq_true rfl) dX0_addCases_45 (fun H locs hP hD hS => ?_)
      have hP : va_P (dC, dI) vwCl [(h0, .inr (0, [.ref qp, .ref qg, .ref qt, .ref qv, .ref qw, .int w0_5, .int o6, .int x, .int o8, .int o9, .int o10, .int o11, .int o12])), (qp, .inl (kp, 1200, .inl a1)), (qg, .inl (kg, 1200, .inl a2)), (qv, .inl (kv, 320, .inl fv)), (qw, .inl (kw, 320, .inl fw))] H := hP
      have hD : va_D A [(h0, .inr (0, [.ref qp, .ref qg, .ref qt, .ref qv, .ref qw, .int w0_5, .int o6, .int x, .int o8, .int o9, .int o10, .int o11, .int o12])), (qp, .inl (kp, 1200, .inl a1)), (qg, .inl (kg, 1200, .inl a2)), (qv, .inl (kv, 320, .inl fv)), (qw, .inl (kw, 320, .inl fw))] := hD
      refine lv_aload_n hx hb dX0_addCases_48 rfl (lv_at hl 0 rfl) ?_
      refine lv_bipush (v := 6) hx hb dX0_addCases_49 (by decide) ?_
      refine lv_iconst (v := 0) hx hb dX0_addCases_51 (by decide) ?_
      have hPc := hP.sub (ws' := [(h0, .inr (0, [.ref qp, .ref qg, .ref qt, .ref qv, .ref qw, .int w0_5, .int o6, .int x, .int o8, .int o9, .int o10, .int o11, .int o12])), (qp, .inl (kp, 1200, .inl a1)), (qg, .inl (kg, 1200, .inl a2))]) [0, 1, 2] rfl
      have hDc := hD.sub (ws' := [(h0, .inr (0, [.ref qp, .ref qg, .ref qt, .ref qv, .ref qw, .int w0_5, .int o6, .int x, .int o8, .int o9, .int o10, .int o11, .int o12])), (qp, .inl (kp, 1200, .inl a1)), (qg, .inl (kg, 1200, .inl a2))]) [0, 1, 2] (by decide) rfl
      have hKc := hK.sub (tys' := [(kp, .int), (kg, .int)]) [0, 1] rfl
      have hFc := va_free (wc := [(h0, .inr (0, [.ref qp, .ref qg, .ref qt, .ref qv, .ref qw, .int w0_5, .int o6, .int x, .int o8, .int o9, .int o10, .int o11, .int o12])), (qp, .inl (kp, 1200, .inl a1)), (qg, .inl (kg, 1200, .inl a2))]) hD hS hA [0, 1, 2] rfl
      refine va_callv (va_runV (As := [.int 6, .int 0]) (rest := []) ⟨hx, hb, hml, hown, hts⟩ (c_X0_add l dC dI _ h0 6 0 w0_5 o6 x o8 o9 o10 o11 o12 qp qg qt qv qw kp kg a1 a2) (cwV 2 hts hX0_addCases_X0_add_v61 rfl rfl rfl (by decide +kernel) ⟨Nat.le_of_ble_eq_true rfl, Nat.le_of_ble_eq_true rfl⟩) ⟨zPre.blind, va_recv hKc hPc (ci := 0) (q0 := 0) rfl rfl, zPre.go hZ hPc hKc hDc⟩ rfl rfl hl.1 rfl (lv_room (Nat.le_of_ble_eq_true rfl)) dX0_addCases_52 ⟨Nat.le_of_ble_eq_true rfl, Nat.le_of_ble_eq_true rfl⟩) hS (fun q _ h => hFc q h) hFc (fun u9 t9 H1 locs ht hvm hw hB hz1 hk1 hS => ?_)
      obtain ⟨e5_11, bfp_12, bfg_13, hP1, hK1, hD1⟩ := hB
      rw [ht] at hP1
      have hK1 := va_K.moved hvm.symm hK1
      obtain ⟨hP, hD⟩ := va_join (wr := [(qv, .inl (kv, 320, .inl fv)), (qw, .inl (kw, 320, .inl fw))]) (w1 := [(h0, .inr (0, [.ref qp, .ref qg, .ref qt, .ref qv, .ref qw, .int e5_11, .int o6, .int x, .int o8, .int o9, .int o10, .int o11, .int o12])), (qp, .inl (kp, 1200, .inl bfp_12)), (qg, .inl (kg, 1200, .inl bfg_13))]) hP hD [0, 1, 2] [3, 4] rfl rfl (by decide) (by decide) hk1 hFc hP1 hD1
      have hK := hK.app hK1
      generalize H1 = H at hP hS ⊢
      have hP : va_P (dC, dI) vwCl [(qv, .inl (kv, 320, .inl fv)), (qw, .inl (kw, 320, .inl fw)), (h0, .inr (0, [.ref qp, .ref qg, .ref qt, .ref qv, .ref qw, .int e5_11, .int o6, .int x, .int o8, .int o9, .int o10, .int o11, .int o12])), (qp, .inl (kp, 1200, .inl bfp_12)), (qg, .inl (kg, 1200, .inl bfg_13))] H := hP
      have hD : va_D A [(qv, .inl (kv, 320, .inl fv)), (qw, .inl (kw, 320, .inl fw)), (h0, .inr (0, [.ref qp, .ref qg, .ref qt, .ref qv, .ref qw, .int e5_11, .int o6, .int x, .int o8, .int o9, .int o10, .int o11, .int o12])), (qp, .inl (kp, 1200, .inl bfp_12)), (qg, .inl (kg, 1200, .inl bfg_13))] := hD
      have hK : va_K (dC, dI) vwCl [(kp, .int), (kg, .int), (kv, .int), (kw, .int), (kp, .int), (kg, .int)] s := hK
      have hK : va_K (dC, dI) vwCl [(kp, .int), (kg, .int), (kv, .int), (kw, .int)] s := hK.sub [0, 1, 2, 3] rfl
      refine lv_aload_n hx hb dX0_addCases_55 rfl (lv_at hl 0 rfl) ?_
      refine lv_bipush (v := 30) hx hb dX0_addCases_56 (by decide) ?_
      refine lv_iload_n hx hb dX0_addCases_58 rfl (lv_at hl 2 rfl) ?_
      have hPc := hP.sub (ws' := [(h0, .inr (0, [.ref qp, .ref qg, .ref qt, .ref qv, .ref qw, .int e5_11, .int o6, .int x, .int o8, .int o9, .int o10, .int o11, .int o12])), (qp, .inl (kp, 1200, .inl bfp_12)), (qg, .inl (kg, 1200, .inl bfg_13))]) [2, 3, 4] rfl
      have hDc := hD.sub (ws' := [(h0, .inr (0, [.ref qp, .ref qg, .ref qt, .ref qv, .ref qw, .int e5_11, .int o6, .int x, .int o8, .int o9, .int o10, .int o11, .int o12])), (qp, .inl (kp, 1200, .inl bfp_12)), (qg, .inl (kg, 1200, .inl bfg_13))]) [2, 3, 4] (by decide) rfl
      have hKc := hK.sub (tys' := [(kp, .int), (kg, .int)]) [0, 1] rfl
      have hFc := va_free (wc := [(h0, .inr (0, [.ref qp, .ref qg, .ref qt, .ref qv, .ref qw, .int e5_11, .int o6, .int x, .int o8, .int o9, .int o10, .int o11, .int o12])), (qp, .inl (kp, 1200, .inl bfp_12)), (qg, .inl (kg, 1200, .inl bfg_13))]) hD hS hA [2, 3, 4] rfl
      refine va_callv (va_runV (As := [.int 30, .int y]) (rest := []) ⟨hx, hb, hml, hown, hts⟩ (c_X0_add l dC dI _ h0 30 y e5_11 o6 x o8 o9 o10 o11 o12 qp qg qt qv qw kp kg bfp_12 bfg_13) (cwV 2 hts hX0_addCases_X0_add_v61 rfl rfl rfl (by decide +kernel) ⟨Nat.le_of_ble_eq_true rfl, Nat.le_of_ble_eq_true rfl⟩) ⟨zPre.blind, va_recv hKc hPc (ci := 0) (q0 := 0) rfl rfl, zPre.go hZ hPc hKc hDc⟩ rfl rfl hl.1 rfl (lv_room (Nat.le_of_ble_eq_true rfl)) dX0_addCases_59 ⟨Nat.le_of_ble_eq_true rfl, Nat.le_of_ble_eq_true rfl⟩) hS (fun q _ h => hFc q h) hFc (fun u9 t9 H1 locs ht hvm hw hB hz1 hk1 hS => ?_)
      obtain ⟨e5_15, bfp_16, bfg_17, hP1, hK1, hD1⟩ := hB
      rw [ht] at hP1
      have hK1 := va_K.moved hvm.symm hK1
      obtain ⟨hP, hD⟩ := va_join (wr := [(qv, .inl (kv, 320, .inl fv)), (qw, .inl (kw, 320, .inl fw))]) (w1 := [(h0, .inr (0, [.ref qp, .ref qg, .ref qt, .ref qv, .ref qw, .int e5_15, .int o6, .int x, .int o8, .int o9, .int o10, .int o11, .int o12])), (qp, .inl (kp, 1200, .inl bfp_16)), (qg, .inl (kg, 1200, .inl bfg_17))]) hP hD [2, 3, 4] [0, 1] rfl rfl (by decide) (by decide) hk1 hFc hP1 hD1
      have hK := hK.app hK1
      generalize H1 = H at hP hS ⊢
      have hP : va_P (dC, dI) vwCl [(qv, .inl (kv, 320, .inl fv)), (qw, .inl (kw, 320, .inl fw)), (h0, .inr (0, [.ref qp, .ref qg, .ref qt, .ref qv, .ref qw, .int e5_15, .int o6, .int x, .int o8, .int o9, .int o10, .int o11, .int o12])), (qp, .inl (kp, 1200, .inl bfp_16)), (qg, .inl (kg, 1200, .inl bfg_17))] H := hP
      have hD : va_D A [(qv, .inl (kv, 320, .inl fv)), (qw, .inl (kw, 320, .inl fw)), (h0, .inr (0, [.ref qp, .ref qg, .ref qt, .ref qv, .ref qw, .int e5_15, .int o6, .int x, .int o8, .int o9, .int o10, .int o11, .int o12])), (qp, .inl (kp, 1200, .inl bfp_16)), (qg, .inl (kg, 1200, .inl bfg_17))] := hD
      have hK : va_K (dC, dI) vwCl [(kp, .int), (kg, .int), (kv, .int), (kw, .int), (kp, .int), (kg, .int)] s := hK
      have hK : va_K (dC, dI) vwCl [(kp, .int), (kg, .int), (kv, .int), (kw, .int)] s := hK.sub [0, 1, 2, 3] rfl
      have hP9 := hP.sub (ws' := [(h0, .inr (0, [.ref qp, .ref qg, .ref qt, .ref qv, .ref qw, .int e5_15, .int o6, .int x, .int o8, .int o9, .int o10, .int o11, .int o12])), (qp, .inl (kp, 1200, .inl bfp_16)), (qg, .inl (kg, 1200, .inl bfg_17)), (qv, .inl (kv, 320, .inl fv)), (qw, .inl (kw, 320, .inl fw))]) [2, 3, 4, 0, 1] rfl
      have hD9 := hD.sub (ws' := [(h0, .inr (0, [.ref qp, .ref qg, .ref qt, .ref qv, .ref qw, .int e5_15, .int o6, .int x, .int o8, .int o9, .int o10, .int o11, .int o12])), (qp, .inl (kp, 1200, .inl bfp_16)), (qg, .inl (kg, 1200, .inl bfg_17)), (qv, .inl (kv, 320, .inl fv)), (qw, .inl (kw, 320, .inl fw))]) [2, 3, 4, 0, 1] (by decide) rfl
      have hK9 := hK.sub (tys' := [(kp, .int), (kg, .int), (kv, .int), (kw, .int)]) [0, 1, 2, 3] rfl
      exact W.vret hx hb hr (fun t ht hW => ⟨⟨(), rfl, trivial, e5_15, x, bfp_16, bfg_17, by rw [ht]; exact hP9, va_K.moved hW.alike hK9, hD9⟩, hS.F ht⟩) hS.2.2 dX0_addCases_62
    ·
      refine lv_aload_n hx hb dX0_addCases_10 rfl (lv_at hl 0 rfl) ?_
      refine lv_iconst (v := 0) hx hb dX0_addCases_11 (by decide) ?_
      refine lv_aload_n hx hb dX0_addCases_12 rfl (lv_at hl 0 rfl) ?_
      refine va_get (D := (dC, dI)) (ci := 0) (v := .ref qv) (C := RX0) (T := TX0) (N := 13) hx hb hts i_X0_addCases_X0 hown hK hP 0 rfl rfl 3 (by decide) (hts (.fieldLink RX0 21 "StatementRules2$Code" "caseValues" "[I") k_X0_addCases_fieldLink_RX0_21_SR_Code_caseValues_I) (fun _ h9 => h9) rfl dX0_addCases_13 ?_
      refine lv_iload_n hx hb dX0_addCases_16 rfl (lv_at hl 3 rfl) ?_
      have hPc := hP.sub (ws' := [(qv, .inl (kv, 320, .inl fv))]) [3] rfl
      have hDc := hD.sub (ws' := [(qv, .inl (kv, 320, .inl fv))]) [3] (by decide) rfl
      have hKc := hK.sub (tys' := [(kv, .int)]) [2] rfl
      have hFc := va_free (wc := [(qv, .inl (kv, 320, .inl fv))]) hD hS hA [3] rfl
      refine va_calli (va_runSN (As := [.ref qv, .int l3]) (rest := [.int 0, .ref h0]) ⟨hx, hb, hml, hown, hts⟩ (c_X11_at l dC dI _ qv kv 320 fv l3 (by decide)) ⟨va_cnB 2 hts hX0_addCases_X11_at_n57 rfl rfl rfl (hZ.1 (.methodLinkNest RX0 57 yX11_at "StatementRules2") (by decide +kernel)) (hts (.initialized RX11) k_X0_addCases_initialized_RX11) (by decide +kernel) ⟨Nat.le_of_ble_eq_true rfl, Nat.le_of_ble_eq_true rfl⟩, (hts (.static yX11_at) k_X0_addCases_static_yX11_at), trivial⟩ ⟨zPre.blind, zPre.go hZ hPc hKc hDc⟩ rfl rfl hl.1 rfl (lv_room (Nat.le_of_ble_eq_true rfl)) dX0_addCases_17 ⟨Nat.le_of_ble_eq_true rfl, Nat.le_of_ble_eq_true rfl⟩) hS (fun q _ h => hFc q h) hFc (fun r18 u9 t9 H1 locs ht hvm hw hB hz1 hk1 hS => ?_)
      obtain ⟨hP1, hK1, hD1⟩ := hB
      rw [ht] at hP1
      have hK1 := va_K.moved hvm.symm hK1
      obtain ⟨hP, hD⟩ := va_join (wr := [(h0, .inr (0, [.ref qp, .ref qg, .ref qt, .ref qv, .ref qw, .int w0_5, .int o6, .int o7, .int o8, .int o9, .int o10, .int o11, .int o12])), (qp, .inl (kp, 1200, .inl a1)), (qg, .inl (kg, 1200, .inl a2)), (qw, .inl (kw, 320, .inl fw))]) (w1 := [(qv, .inl (kv, 320, .inl fv))]) hP hD [3] [0, 1, 2, 4] rfl rfl (by decide) (by decide) hk1 hFc hP1 hD1
      have hK := hK.app hK1
      generalize H1 = H at hP hS ⊢
      have hP : va_P (dC, dI) vwCl [(h0, .inr (0, [.ref qp, .ref qg, .ref qt, .ref qv, .ref qw, .int w0_5, .int o6, .int o7, .int o8, .int o9, .int o10, .int o11, .int o12])), (qp, .inl (kp, 1200, .inl a1)), (qg, .inl (kg, 1200, .inl a2)), (qw, .inl (kw, 320, .inl fw)), (qv, .inl (kv, 320, .inl fv))] H := hP
      have hD : va_D A [(h0, .inr (0, [.ref qp, .ref qg, .ref qt, .ref qv, .ref qw, .int w0_5, .int o6, .int o7, .int o8, .int o9, .int o10, .int o11, .int o12])), (qp, .inl (kp, 1200, .inl a1)), (qg, .inl (kg, 1200, .inl a2)), (qw, .inl (kw, 320, .inl fw)), (qv, .inl (kv, 320, .inl fv))] := hD
      have hK : va_K (dC, dI) vwCl [(kp, .int), (kg, .int), (kv, .int), (kw, .int), (kv, .int)] s := hK
      have hK : va_K (dC, dI) vwCl [(kp, .int), (kg, .int), (kv, .int), (kw, .int)] s := hK.sub [0, 1, 2, 3] rfl
      have hPc := hP.sub (ws' := [(h0, .inr (0, [.ref qp, .ref qg, .ref qt, .ref qv, .ref qw, .int w0_5, .int o6, .int o7, .int o8, .int o9, .int o10, .int o11, .int o12])), (qp, .inl (kp, 1200, .inl a1)), (qg, .inl (kg, 1200, .inl a2))]) [0, 1, 2] rfl
      have hDc := hD.sub (ws' := [(h0, .inr (0, [.ref qp, .ref qg, .ref qt, .ref qv, .ref qw, .int w0_5, .int o6, .int o7, .int o8, .int o9, .int o10, .int o11, .int o12])), (qp, .inl (kp, 1200, .inl a1)), (qg, .inl (kg, 1200, .inl a2))]) [0, 1, 2] (by decide) rfl
      have hKc := hK.sub (tys' := [(kp, .int), (kg, .int)]) [0, 1] rfl
      have hFc := va_free (wc := [(h0, .inr (0, [.ref qp, .ref qg, .ref qt, .ref qv, .ref qw, .int w0_5, .int o6, .int o7, .int o8, .int o9, .int o10, .int o11, .int o12])), (qp, .inl (kp, 1200, .inl a1)), (qg, .inl (kg, 1200, .inl a2))]) hD hS hA [0, 1, 2] rfl
      refine va_callv (va_runV (As := [.int 0, .int r18]) (rest := []) ⟨hx, hb, hml, hown, hts⟩ (c_X0_add l dC dI _ h0 0 r18 w0_5 o6 o7 o8 o9 o10 o11 o12 qp qg qt qv qw kp kg a1 a2) (cwV 2 hts hX0_addCases_X0_add_v61 rfl rfl rfl (by decide +kernel) ⟨Nat.le_of_ble_eq_true rfl, Nat.le_of_ble_eq_true rfl⟩) ⟨zPre.blind, va_recv hKc hPc (ci := 0) (q0 := 0) rfl rfl, zPre.go hZ hPc hKc hDc⟩ rfl rfl hl.1 rfl (lv_room (Nat.le_of_ble_eq_true rfl)) dX0_addCases_20 ⟨Nat.le_of_ble_eq_true rfl, Nat.le_of_ble_eq_true rfl⟩) hS (fun q _ h => hFc q h) hFc (fun u9 t9 H1 locs ht hvm hw hB hz1 hk1 hS => ?_)
      obtain ⟨e5_20, bfp_21, bfg_22, hP1, hK1, hD1⟩ := hB
      rw [ht] at hP1
      have hK1 := va_K.moved hvm.symm hK1
      obtain ⟨hP, hD⟩ := va_join (wr := [(qw, .inl (kw, 320, .inl fw)), (qv, .inl (kv, 320, .inl fv))]) (w1 := [(h0, .inr (0, [.ref qp, .ref qg, .ref qt, .ref qv, .ref qw, .int e5_20, .int o6, .int o7, .int o8, .int o9, .int o10, .int o11, .int o12])), (qp, .inl (kp, 1200, .inl bfp_21)), (qg, .inl (kg, 1200, .inl bfg_22))]) hP hD [0, 1, 2] [3, 4] rfl rfl (by decide) (by decide) hk1 hFc hP1 hD1
      have hK := hK.app hK1
      generalize H1 = H at hP hS ⊢
      have hP : va_P (dC, dI) vwCl [(qw, .inl (kw, 320, .inl fw)), (qv, .inl (kv, 320, .inl fv)), (h0, .inr (0, [.ref qp, .ref qg, .ref qt, .ref qv, .ref qw, .int e5_20, .int o6, .int o7, .int o8, .int o9, .int o10, .int o11, .int o12])), (qp, .inl (kp, 1200, .inl bfp_21)), (qg, .inl (kg, 1200, .inl bfg_22))] H := hP
      have hD : va_D A [(qw, .inl (kw, 320, .inl fw)), (qv, .inl (kv, 320, .inl fv)), (h0, .inr (0, [.ref qp, .ref qg, .ref qt, .ref qv, .ref qw, .int e5_20, .int o6, .int o7, .int o8, .int o9, .int o10, .int o11, .int o12])), (qp, .inl (kp, 1200, .inl bfp_21)), (qg, .inl (kg, 1200, .inl bfg_22))] := hD
      have hK : va_K (dC, dI) vwCl [(kp, .int), (kg, .int), (kv, .int), (kw, .int), (kp, .int), (kg, .int)] s := hK
      have hK : va_K (dC, dI) vwCl [(kp, .int), (kg, .int), (kv, .int), (kw, .int)] s := hK.sub [0, 1, 2, 3] rfl
      refine lv_aload_n hx hb dX0_addCases_23 rfl (lv_at hl 0 rfl) ?_
      refine lv_bipush (v := 34) hx hb dX0_addCases_24 (by decide) ?_
      refine lv_aload_n hx hb dX0_addCases_26 rfl (lv_at hl 0 rfl) ?_
      refine va_get (D := (dC, dI)) (ci := 0) (v := .ref qw) (C := RX0) (T := TX0) (N := 13) hx hb hts i_X0_addCases_X0 hown hK hP 2 rfl rfl 4 (by decide) (hts (.fieldLink RX0 24 "StatementRules2$Code" "caseTargets" "[I") k_X0_addCases_fieldLink_RX0_24_SR_Code_caseTargets_I) (fun _ h9 => h9) rfl dX0_addCases_27 ?_
      refine lv_iload_n hx hb dX0_addCases_30 rfl (lv_at hl 3 rfl) ?_
      have hPc := hP.sub (ws' := [(qw, .inl (kw, 320, .inl fw))]) [0] rfl
      have hDc := hD.sub (ws' := [(qw, .inl (kw, 320, .inl fw))]) [0] (by decide) rfl
      have hKc := hK.sub (tys' := [(kw, .int)]) [3] rfl
      have hFc := va_free (wc := [(qw, .inl (kw, 320, .inl fw))]) hD hS hA [0] rfl
      refine va_calli (va_runSN (As := [.ref qw, .int l3]) (rest := [.int 34, .ref h0]) ⟨hx, hb, hml, hown, hts⟩ (c_X11_at l dC dI _ qw kw 320 fw l3 (by decide)) ⟨va_cnB 2 hts hX0_addCases_X11_at_n57 rfl rfl rfl (hZ.1 (.methodLinkNest RX0 57 yX11_at "StatementRules2") (by decide +kernel)) (hts (.initialized RX11) k_X0_addCases_initialized_RX11) (by decide +kernel) ⟨Nat.le_of_ble_eq_true rfl, Nat.le_of_ble_eq_true rfl⟩, (hts (.static yX11_at) k_X0_addCases_static_yX11_at), trivial⟩ ⟨zPre.blind, zPre.go hZ hPc hKc hDc⟩ rfl rfl hl.1 rfl (lv_room (Nat.le_of_ble_eq_true rfl)) dX0_addCases_31 ⟨Nat.le_of_ble_eq_true rfl, Nat.le_of_ble_eq_true rfl⟩) hS (fun q _ h => hFc q h) hFc (fun r23 u9 t9 H1 locs ht hvm hw hB hz1 hk1 hS => ?_)
      obtain ⟨hP1, hK1, hD1⟩ := hB
      rw [ht] at hP1
      have hK1 := va_K.moved hvm.symm hK1
      obtain ⟨hP, hD⟩ := va_join (wr := [(qv, .inl (kv, 320, .inl fv)), (h0, .inr (0, [.ref qp, .ref qg, .ref qt, .ref qv, .ref qw, .int e5_20, .int o6, .int o7, .int o8, .int o9, .int o10, .int o11, .int o12])), (qp, .inl (kp, 1200, .inl bfp_21)), (qg, .inl (kg, 1200, .inl bfg_22))]) (w1 := [(qw, .inl (kw, 320, .inl fw))]) hP hD [0] [1, 2, 3, 4] rfl rfl (by decide) (by decide) hk1 hFc hP1 hD1
      have hK := hK.app hK1
      generalize H1 = H at hP hS ⊢
      have hP : va_P (dC, dI) vwCl [(qv, .inl (kv, 320, .inl fv)), (h0, .inr (0, [.ref qp, .ref qg, .ref qt, .ref qv, .ref qw, .int e5_20, .int o6, .int o7, .int o8, .int o9, .int o10, .int o11, .int o12])), (qp, .inl (kp, 1200, .inl bfp_21)), (qg, .inl (kg, 1200, .inl bfg_22)), (qw, .inl (kw, 320, .inl fw))] H := hP
      have hD : va_D A [(qv, .inl (kv, 320, .inl fv)), (h0, .inr (0, [.ref qp, .ref qg, .ref qt, .ref qv, .ref qw, .int e5_20, .int o6, .int o7, .int o8, .int o9, .int o10, .int o11, .int o12])), (qp, .inl (kp, 1200, .inl bfp_21)), (qg, .inl (kg, 1200, .inl bfg_22)), (qw, .inl (kw, 320, .inl fw))] := hD
      have hK : va_K (dC, dI) vwCl [(kp, .int), (kg, .int), (kv, .int), (kw, .int), (kw, .int)] s := hK
      have hK : va_K (dC, dI) vwCl [(kp, .int), (kg, .int), (kv, .int), (kw, .int)] s := hK.sub [0, 1, 2, 3] rfl
      have hPc := hP.sub (ws' := [(h0, .inr (0, [.ref qp, .ref qg, .ref qt, .ref qv, .ref qw, .int e5_20, .int o6, .int o7, .int o8, .int o9, .int o10, .int o11, .int o12])), (qp, .inl (kp, 1200, .inl bfp_21)), (qg, .inl (kg, 1200, .inl bfg_22))]) [1, 2, 3] rfl
      have hDc := hD.sub (ws' := [(h0, .inr (0, [.ref qp, .ref qg, .ref qt, .ref qv, .ref qw, .int e5_20, .int o6, .int o7, .int o8, .int o9, .int o10, .int o11, .int o12])), (qp, .inl (kp, 1200, .inl bfp_21)), (qg, .inl (kg, 1200, .inl bfg_22))]) [1, 2, 3] (by decide) rfl
      have hKc := hK.sub (tys' := [(kp, .int), (kg, .int)]) [0, 1] rfl
      have hFc := va_free (wc := [(h0, .inr (0, [.ref qp, .ref qg, .ref qt, .ref qv, .ref qw, .int e5_20, .int o6, .int o7, .int o8, .int o9, .int o10, .int o11, .int o12])), (qp, .inl (kp, 1200, .inl bfp_21)), (qg, .inl (kg, 1200, .inl bfg_22))]) hD hS hA [1, 2, 3] rfl
      refine va_callv (va_runV (As := [.int 34, .int r23]) (rest := []) ⟨hx, hb, hml, hown, hts⟩ (c_X0_add l dC dI _ h0 34 r23 e5_20 o6 o7 o8 o9 o10 o11 o12 qp qg qt qv qw kp kg bfp_21 bfg_22) (cwV 2 hts hX0_addCases_X0_add_v61 rfl rfl rfl (by decide +kernel) ⟨Nat.le_of_ble_eq_true rfl, Nat.le_of_ble_eq_true rfl⟩) ⟨zPre.blind, va_recv hKc hPc (ci := 0) (q0 := 0) rfl rfl, zPre.go hZ hPc hKc hDc⟩ rfl rfl hl.1 rfl (lv_room (Nat.le_of_ble_eq_true rfl)) dX0_addCases_34 ⟨Nat.le_of_ble_eq_true rfl, Nat.le_of_ble_eq_true rfl⟩) hS (fun q _ h => hFc q h) hFc (fun u9 t9 H1 locs ht hvm hw hB hz1 hk1 hS => ?_)
      obtain ⟨e5_25, bfp_26, bfg_27, hP1, hK1, hD1⟩ := hB
      rw [ht] at hP1
      have hK1 := va_K.moved hvm.symm hK1
      obtain ⟨hP, hD⟩ := va_join (wr := [(qv, .inl (kv, 320, .inl fv)), (qw, .inl (kw, 320, .inl fw))]) (w1 := [(h0, .inr (0, [.ref qp, .ref qg, .ref qt, .ref qv, .ref qw, .int e5_25, .int o6, .int o7, .int o8, .int o9, .int o10, .int o11, .int o12])), (qp, .inl (kp, 1200, .inl bfp_26)), (qg, .inl (kg, 1200, .inl bfg_27))]) hP hD [1, 2, 3] [0, 4] rfl rfl (by decide) (by decide) hk1 hFc hP1 hD1
      have hK := hK.app hK1
      generalize H1 = H at hP hS ⊢
      have hP : va_P (dC, dI) vwCl [(qv, .inl (kv, 320, .inl fv)), (qw, .inl (kw, 320, .inl fw)), (h0, .inr (0, [.ref qp, .ref qg, .ref qt, .ref qv, .ref qw, .int e5_25, .int o6, .int o7, .int o8, .int o9, .int o10, .int o11, .int o12])), (qp, .inl (kp, 1200, .inl bfp_26)), (qg, .inl (kg, 1200, .inl bfg_27))] H := hP
      have hD : va_D A [(qv, .inl (kv, 320, .inl fv)), (qw, .inl (kw, 320, .inl fw)), (h0, .inr (0, [.ref qp, .ref qg, .ref qt, .ref qv, .ref qw, .int e5_25, .int o6, .int o7, .int o8, .int o9, .int o10, .int o11, .int o12])), (qp, .inl (kp, 1200, .inl bfp_26)), (qg, .inl (kg, 1200, .inl bfg_27))] := hD
      have hK : va_K (dC, dI) vwCl [(kp, .int), (kg, .int), (kv, .int), (kw, .int), (kp, .int), (kg, .int)] s := hK
      have hK : va_K (dC, dI) vwCl [(kp, .int), (kg, .int), (kv, .int), (kw, .int)] s := hK.sub [0, 1, 2, 3] rfl
      obtain ⟨z28, ez28⟩ : ∃ y : Int32, y = l3 + Int32.ofInt (1) := ⟨_, rfl⟩
      refine lv_iinc (v := z28) (lv' := [(3, .int z28), (0, .ref h0), (1, .int x), (2, .int y)]) hx hb dX0_addCases_37 hl (k := 3) rfl (ez28.symm) (by decide) rfl (fun ls hl => ?_)
      refine lv_goto (tgt := 2) hx hb dX0_addCases_40 (by decide) ?_
      have hP := hP.sub (ws' := [(h0, .inr (0, [.ref qp, .ref qg, .ref qt, .ref qv, .ref qw, .int e5_25, .int o6, .int o7, .int o8, .int o9, .int o10, .int o11, .int o12])), (qp, .inl (kp, 1200, .inl bfp_26)), (qg, .inl (kg, 1200, .inl bfg_27)), (qv, .inl (kv, 320, .inl fv)), (qw, .inl (kw, 320, .inl fw))]) [2, 3, 4, 0, 1] rfl
      have hD := hD.sub (ws' := [(h0, .inr (0, [.ref qp, .ref qg, .ref qt, .ref qv, .ref qw, .int e5_25, .int o6, .int o7, .int o8, .int o9, .int o10, .int o11, .int o12])), (qp, .inl (kp, 1200, .inl bfp_26)), (qg, .inl (kg, 1200, .inl bfg_27)), (qv, .inl (kv, 320, .inl fv)), (qw, .inl (kw, 320, .inl fw))]) [2, 3, 4, 0, 1] (by decide) rfl
      exact ih e5_25 bfp_26 bfg_27 z28 _ _ _ (by rw [ez28]; exact z_up hinv c9) hP hD hS (lv_sub hl [1, 2, 3, 0] rfl)
set_option maxHeartbeats 4000000 in
set_option maxRecDepth 100000 in
theorem c_X0_addCases (l : Launch) (dC : Nat → ClassId) (dI : Nat → Nat → Nat) (sz : Nat) (h0 : Nat) (x : Int32) (y : Int32) (o5 : Int32) (o6 : Int32) (o7 : Int32) (o8 : Int32) (o9 : Int32) (o10 : Int32) (o11 : Int32) (o12 : Int32) (qp : Nat) (qg : Nat) (qt : Nat) (qv : Nat) (qw : Nat) (kp : ClassId) (kg : ClassId) (kv : ClassId) (kw : ClassId) (fp : Nat → Int32) (fg : Nat → Int32) (fv : Nat → Int32) (fw : Nat → Int32) : Met l yX0_addCases wzX0_addCases ({ frames := 3, cells := 0, slots := 0, locals := 180 }) (va_Pc [.ref h0, .int x, .int y] (zPre dC dI sz [(h0, .inr (0, [.ref qp, .ref qg, .ref qt, .ref qv, .ref qw, .int o5, .int o6, .int o7, .int o8, .int o9, .int o10, .int o11, .int o12])), (qp, .inl (kp, 1200, .inl fp)), (qg, .inl (kg, 1200, .inl fg)), (qv, .inl (kv, 320, .inl fv)), (qw, .inl (kw, 320, .inl fw))] [(kp, .int), (kg, .int), (kv, .int), (kw, .int)])) (va_Qv (fun (_ : Unit) => True) (fun (_ : Unit) (t : State) => ∃ (e5 : Int32), ∃ (e7 : Int32), ∃ (bfp : Nat → Int32), ∃ (bfg : Nat → Int32), zPost dC dI (va_A [(h0, .inr (0, [.ref qp, .ref qg, .ref qt, .ref qv, .ref qw, .int o5, .int o6, .int o7, .int o8, .int o9, .int o10, .int o11, .int o12])), (qp, .inl (kp, 1200, .inl fp)), (qg, .inl (kg, 1200, .inl fg)), (qv, .inl (kv, 320, .inl fv)), (qw, .inl (kw, 320, .inl fw))] sz) [(h0, .inr (0, [.ref qp, .ref qg, .ref qt, .ref qv, .ref qw, .int e5, .int o6, .int e7, .int o8, .int o9, .int o10, .int o11, .int o12])), (qp, .inl (kp, 1200, .inl bfp)), (qg, .inl (kg, 1200, .inl bfg)), (qv, .inl (kv, 320, .inl fv)), (qw, .inl (kw, 320, .inl fw))] [(kp, .int), (kg, .int), (kv, .int), (kw, .int)] t) (va_A [(h0, .inr (0, [.ref qp, .ref qg, .ref qt, .ref qv, .ref qw, .int o5, .int o6, .int o7, .int o8, .int o9, .int o10, .int o11, .int o12])), (qp, .inl (kp, 1200, .inl fp)), (qg, .inl (kg, 1200, .inl fg)), (qv, .inl (kv, 320, .inl fv)), (qw, .inl (kw, 320, .inl fw))] sz)) 0 0 (va_A [(h0, .inr (0, [.ref qp, .ref qg, .ref qt, .ref qv, .ref qw, .int o5, .int o6, .int o7, .int o8, .int o9, .int o10, .int o11, .int o12])), (qp, .inl (kp, 1200, .inl fp)), (qg, .inl (kg, 1200, .inl fg)), (qv, .inl (kv, 320, .inl fv)), (qw, .inl (kw, 320, .inl fw))] sz) := by
  refine Met.ofW (cc := cX0_addCases) (maxL := 4) (ret := none) (by decide) rfl ?_
  intro p e s m args below meth c s₁ B hml hv
  obtain ⟨rfl, hsz, hZ, hP, hK, hD0⟩ := hv
  have hx := B.exec
  have hb := B.bytes
  have hr := B.returns
  have hts := atoms_spec (ws := wzX0_addCases) B.pre
  have hown : s.vm.findClass RX0 = some m.cls := findClass_of_methodNamed B.named
  have hlocks := B.notSynchronized
  subst hsz
  have hD := hD0.self (sz := s.heap.size)
  generalize hAe : va_A [(h0, .inr (0, [.ref qp, .ref qg, .ref qt, .ref qv, .ref qw, .int o5, .int o6, .int o7, .int o8, .int o9, .int o10, .int o11, .int o12])), (qp, .inl (kp, 1200, .inl fp)), (qg, .inl (kg, 1200, .inl fg)), (qv, .inl (kv, 320, .inl fv)), (qw, .inl (kw, 320, .inl fw))] s.heap.size = A at hD ⊢
  have hA : ∀ q : Nat, s.heap.size ≤ q → A q := fun q h => by rw [← hAe]; exact Or.inr h
  have hS : va_S A s.heap s.heap [] := va_S.rf
  have hP : va_P (dC, dI) vwCl [(h0, .inr (0, [.ref qp, .ref qg, .ref qt, .ref qv, .ref qw, .int o5, .int o6, .int o7, .int o8, .int o9, .int o10, .int o11, .int o12])), (qp, .inl (kp, 1200, .inl fp)), (qg, .inl (kg, 1200, .inl fg)), (qv, .inl (kv, 320, .inl fv)), (qw, .inl (kw, 320, .inl fw))] s.heap := hP
  have hl := lv_entry ([.ref h0, .int x, .int y]) (n := 4) (Nat.le_of_ble_eq_true rfl)
  rw [lg_entry_eq]
  generalize (lg_sl ([.ref h0, .int x, .int y]) ++ List.replicate (4 - (lg_sl ([.ref h0, .int x, .int y])).length) Slot.unset).toArray = ls at hl ⊢
  have hl : lv_has ls 4 [(0, .ref h0), (1, .int x), (2, .int y)] := hl
  refine lv_iload_n hx hb dX0_addCases_0 rfl (lv_at hl 1 rfl) ?_
  refine lv_istore_n (lv' := [(3, .int x), (0, .ref h0), (1, .int x), (2, .int y)]) hx hb dX0_addCases_1 rfl hl (by decide) rfl (fun ls hl => ?_)
  exact j_X0_addCases_2 l dC dI h0 qp qg qt qv qw kp kg kv kw o6 o7 o8 o9 o10 o11 o12 fv fw x y hx hb hr hml hown hts hlocks hZ hA hK _ o5 fp fg x _ _ _ (Nat.le_refl _) hP hD hS (lv_sub hl [1, 2, 3, 0] rfl)
