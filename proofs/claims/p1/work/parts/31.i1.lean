theorem k_X4_init_methodLink_RX4_1_objectInit : Cond.methodLink RX4 1 objectInit ∈ wzX4_init := List.mem_cons_of_mem _ (List.mem_append_left _ (List.mem_of_getElem? (i := 0) rfl))
theorem k_X4_init_instanceMethod_objectInit : Cond.instanceMethod objectInit ∈ wzX4_init := List.mem_cons_of_mem _ (List.mem_append_left _ (List.mem_of_getElem? (i := 1) rfl))
theorem k_X4_init_code_objectInit_0xb1_1_none : Cond.code objectInit ⟨#[0xb1]⟩ 1 none ∈ wzX4_init := List.mem_cons_of_mem _ (List.mem_append_left _ (List.mem_of_getElem? (i := 2) rfl))
theorem k_X4_init_arrayClass_long : Cond.arrayClass .long ∈ wzX4_init := List.mem_cons_of_mem _ (List.mem_append_left _ (List.mem_of_getElem? (i := 3) rfl))
theorem k_X4_init_fieldLink_RX4_7_SR_Names_names_J : Cond.fieldLink RX4 7 "StatementRules2$Names" "names" "[J" ∈ wzX4_init := List.mem_cons_of_mem _ (List.mem_append_left _ (List.mem_of_getElem? (i := 4) rfl))
theorem i_X4_init_X4 : ∀ w ∈ wsX40, w ∈ wzX4_init := fun _ h => List.mem_cons_of_mem _ (List.mem_append_right _ (List.mem_append_left _ (h)))
theorem k_X4_init_arrayClass_int : Cond.arrayClass .int ∈ wzX4_init := List.mem_cons_of_mem _ (List.mem_append_left _ (List.mem_of_getElem? (i := 5) rfl))
theorem k_X4_init_fieldLink_RX4_13_SR_Names_cells_I : Cond.fieldLink RX4 13 "StatementRules2$Names" "cells" "[I" ∈ wzX4_init := List.mem_cons_of_mem _ (List.mem_append_left _ (List.mem_of_getElem? (i := 6) rfl))
theorem k_X4_init_fieldLink_RX4_17_SR_Names_frames_I : Cond.fieldLink RX4 17 "StatementRules2$Names" "frames" "[I" ∈ wzX4_init := List.mem_cons_of_mem _ (List.mem_append_left _ (List.mem_of_getElem? (i := 7) rfl))
set_option maxHeartbeats 4000000 in
set_option maxRecDepth 100000 in
theorem c_X4_init (l : Launch) (dC : Nat → ClassId) (dI : Nat → Nat → Nat) (sz : Nat) (h0 : Nat) : Met l yX4_init wzX4_init ({ frames := 1, cells := 3, slots := 384, locals := 60 }) (va_Pc [.ref h0] (zPre dC dI sz [(h0, .inr (3, [.null, .null, .null, .int 0]))] [])) (va_Qv (fun (_ : Unit) => True) (fun (_ : Unit) (t : State) => ∃ (qn : Nat), ∃ (kn : ClassId), ∃ (qc : Nat), ∃ (kc : ClassId), ∃ (qf : Nat), ∃ (kf : ClassId), zPost dC dI (va_A [(h0, .inr (3, [.null, .null, .null, .int 0]))] sz) [(h0, .inr (3, [.ref qn, .ref qc, .ref qf, .int 0])), (qn, .inl (kn, 128, .inr (.inl (fun _ => 0)))), (qc, .inl (kc, 128, .inl (fun _ => 0))), (qf, .inl (kf, 128, .inl (fun _ => 0)))] [(kn, .long), (kc, .int), (kf, .int)] t) (va_A [(h0, .inr (3, [.null, .null, .null, .int 0]))] sz)) 3 384 (va_A [(h0, .inr (3, [.null, .null, .null, .int 0]))] sz) := by
  refine Met.ofW (cc := cX4_init) (maxL := 1) (ret := none) (by decide) rfl ?_
  intro p e s m args below meth c s₁ B hml hv
  obtain ⟨rfl, hsz, hZ, hP, hK, hD0⟩ := hv
  have hx := B.exec
  have hb := B.bytes
  have hr := B.returns
  have hts := atoms_spec (ws := wzX4_init) B.pre
  have hown : s.vm.findClass RX4 = some m.cls := findClass_of_methodNamed B.named
  have hlocks := B.notSynchronized
  have hin : meth.name = "<init>" := (name_of_methodNamed B.named B.method).1
  subst hsz
  have hD := hD0.self (sz := s.heap.size)
  generalize hAe : va_A [(h0, .inr (3, [.null, .null, .null, .int 0]))] s.heap.size = A at hD ⊢
  have hA : ∀ q : Nat, s.heap.size ≤ q → A q := fun q h => by rw [← hAe]; exact Or.inr h
  have hS : va_S A s.heap s.heap [] := va_S.rf
  have hP : va_P (dC, dI) vwCl [(h0, .inr (3, [.null, .null, .null, .int 0]))] s.heap := hP
  have hl := lv_entry ([.ref h0]) (n := 1) (Nat.le_of_ble_eq_true rfl)
  rw [lg_entry_eq]
  generalize (lg_sl ([.ref h0]) ++ List.replicate (1 - (lg_sl ([.ref h0])).length) Slot.unset).toArray = ls at hl ⊢
  have hl : lv_has ls 1 [(0, .ref h0)] := hl
  refine lv_aload_n hx hb dX4_init_0 rfl (lv_at hl 0 rfl) ?_
  refine W.objInit hx hb hown (hts (.methodLink RX4 1 objectInit) k_X4_init_methodLink_RX4_1_objectInit) (hts (.instanceMethod objectInit) k_X4_init_instanceMethod_objectInit) (hts (.code objectInit ⟨#[0xb1]⟩ 1 none) k_X4_init_code_objectInit_0xb1_1_none) rfl (by rw [hml]; exact hl.1) rfl dX4_init_1 (Nat.le_of_ble_eq_true rfl) (Nat.le_of_ble_eq_true rfl) ?_
  refine W.eq (g2 := F0 m 4 ls []) rfl ?_
  refine lv_aload_n hx hb dX4_init_4 rfl (lv_at hl 0 rfl) ?_
  refine lv_sipush (v := 128) hx hb dX4_init_5 (by decide) ?_
  refine va_newa (atype := .long) (ty := .long) (N' := 128) (a0 := (128, .inr (.inl (fun _ => 0)))) hx hb (hts (.arrayClass .long) k_X4_init_arrayClass_long) rfl hK hP hD hS hA (z_newl 128) (by decide) (by decide) (by decide) (Nat.le_of_ble_eq_true rfl) (Nat.le_of_ble_eq_true rfl) dX4_init_8 (fun q1 kq1 H hK hP hD hS => ?_)
  refine W.widen (k := 1) (n := 128) (by omega) (by omega) ?_
  have hP : va_P (dC, dI) vwCl [(h0, .inr (3, [.null, .null, .null, .int 0])), (q1, .inl (kq1, 128, .inr (.inl (fun _ => 0))))] H := hP
  have hD : va_D A [(h0, .inr (3, [.null, .null, .null, .int 0])), (q1, .inl (kq1, 128, .inr (.inl (fun _ => 0))))] := hD
  have hK : va_K (dC, dI) vwCl [(kq1, .long)] s := hK
  refine va_putF (D := (dC, dI)) (ci := 3) (v := .ref q1) (ty := (.array .long)) (C := RX4) (T := TX4) (N := 4) hx hb hts i_X4_init_X4 tyX4 tyX4_ok nmX4 hown hK hP hD hS 0 rfl rfl 0 (by decide) (hts (.fieldLink RX4 7 "StatementRules2$Names" "names" "[J") k_X4_init_fieldLink_RX4_7_SR_Names_names_J) (fun _ h9 => h9) rfl hin rfl (by decide +kernel) rfl rfl (Nat.le_of_ble_eq_true rfl) dX4_init_10 (fun H locs hP hD hS => ?_)
  have hP : va_P (dC, dI) vwCl [(h0, .inr (3, [.ref q1, .null, .null, .int 0])), (q1, .inl (kq1, 128, .inr (.inl (fun _ => 0))))] H := hP
  have hD : va_D A [(h0, .inr (3, [.ref q1, .null, .null, .int 0])), (q1, .inl (kq1, 128, .inr (.inl (fun _ => 0))))] := hD
  refine lv_aload_n hx hb dX4_init_13 rfl (lv_at hl 0 rfl) ?_
  refine lv_sipush (v := 128) hx hb dX4_init_14 (by decide) ?_
  refine va_newa (atype := .int) (ty := .int) (N' := 128) (a0 := (128, .inl (fun _ => 0))) hx hb (hts (.arrayClass .int) k_X4_init_arrayClass_int) rfl hK hP hD hS hA (z_newi 128) (by decide) (by decide) (by decide) (Nat.le_of_ble_eq_true rfl) (Nat.le_of_ble_eq_true rfl) dX4_init_17 (fun q2 kq2 H hK hP hD hS => ?_)
  refine W.widen (k := 2) (n := 256) (by omega) (by omega) ?_
  have hP : va_P (dC, dI) vwCl [(h0, .inr (3, [.ref q1, .null, .null, .int 0])), (q1, .inl (kq1, 128, .inr (.inl (fun _ => 0)))), (q2, .inl (kq2, 128, .inl (fun _ => 0)))] H := hP
  have hD : va_D A [(h0, .inr (3, [.ref q1, .null, .null, .int 0])), (q1, .inl (kq1, 128, .inr (.inl (fun _ => 0)))), (q2, .inl (kq2, 128, .inl (fun _ => 0)))] := hD
  have hK : va_K (dC, dI) vwCl [(kq1, .long), (kq2, .int)] s := hK
  refine va_putF (D := (dC, dI)) (ci := 3) (v := .ref q2) (ty := (.array .int)) (C := RX4) (T := TX4) (N := 4) hx hb hts i_X4_init_X4 tyX4 tyX4_ok nmX4 hown hK hP hD hS 0 rfl rfl 1 (by decide) (hts (.fieldLink RX4 13 "StatementRules2$Names" "cells" "[I") k_X4_init_fieldLink_RX4_13_SR_Names_cells_I) (fun _ h9 => h9) rfl hin rfl (by decide +kernel) rfl rfl (Nat.le_of_ble_eq_true rfl) dX4_init_19 (fun H locs hP hD hS => ?_)
  have hP : va_P (dC, dI) vwCl [(h0, .inr (3, [.ref q1, .ref q2, .null, .int 0])), (q1, .inl (kq1, 128, .inr (.inl (fun _ => 0)))), (q2, .inl (kq2, 128, .inl (fun _ => 0)))] H := hP
  have hD : va_D A [(h0, .inr (3, [.ref q1, .ref q2, .null, .int 0])), (q1, .inl (kq1, 128, .inr (.inl (fun _ => 0)))), (q2, .inl (kq2, 128, .inl (fun _ => 0)))] := hD
  refine lv_aload_n hx hb dX4_init_22 rfl (lv_at hl 0 rfl) ?_
  refine lv_sipush (v := 128) hx hb dX4_init_23 (by decide) ?_
  refine va_newa (atype := .int) (ty := .int) (N' := 128) (a0 := (128, .inl (fun _ => 0))) hx hb (hts (.arrayClass .int) k_X4_init_arrayClass_int) rfl hK hP hD hS hA (z_newi 128) (by decide) (by decide) (by decide) (Nat.le_of_ble_eq_true rfl) (Nat.le_of_ble_eq_true rfl) dX4_init_26 (fun q3 kq3 H hK hP hD hS => ?_)
  refine W.widen (k := 3) (n := 384) (by omega) (by omega) ?_
  have hP : va_P (dC, dI) vwCl [(h0, .inr (3, [.ref q1, .ref q2, .null, .int 0])), (q1, .inl (kq1, 128, .inr (.inl (fun _ => 0)))), (q2, .inl (kq2, 128, .inl (fun _ => 0))), (q3, .inl (kq3, 128, .inl (fun _ => 0)))] H := hP
  have hD : va_D A [(h0, .inr (3, [.ref q1, .ref q2, .null, .int 0])), (q1, .inl (kq1, 128, .inr (.inl (fun _ => 0)))), (q2, .inl (kq2, 128, .inl (fun _ => 0))), (q3, .inl (kq3, 128, .inl (fun _ => 0)))] := hD
  have hK : va_K (dC, dI) vwCl [(kq1, .long), (kq2, .int), (kq3, .int)] s := hK
  refine va_putF (D := (dC, dI)) (ci := 3) (v := .ref q3) (ty := (.array .int)) (C := RX4) (T := TX4) (N := 4) hx hb hts i_X4_init_X4 tyX4 tyX4_ok nmX4 hown hK hP hD hS 0 rfl rfl 2 (by decide) (hts (.fieldLink RX4 17 "StatementRules2$Names" "frames" "[I") k_X4_init_fieldLink_RX4_17_SR_Names_frames_I) (fun _ h9 => h9) rfl hin rfl (by decide +kernel) rfl rfl (Nat.le_of_ble_eq_true rfl) dX4_init_28 (fun H locs hP hD hS => ?_)
  have hP : va_P (dC, dI) vwCl [(h0, .inr (3, [.ref q1, .ref q2, .ref q3, .int 0])), (q1, .inl (kq1, 128, .inr (.inl (fun _ => 0)))), (q2, .inl (kq2, 128, .inl (fun _ => 0))), (q3, .inl (kq3, 128, .inl (fun _ => 0)))] H := hP
  have hD : va_D A [(h0, .inr (3, [.ref q1, .ref q2, .ref q3, .int 0])), (q1, .inl (kq1, 128, .inr (.inl (fun _ => 0)))), (q2, .inl (kq2, 128, .inl (fun _ => 0))), (q3, .inl (kq3, 128, .inl (fun _ => 0)))] := hD
  have hP9 := hP.sub (ws' := [(h0, .inr (3, [.ref q1, .ref q2, .ref q3, .int 0])), (q1, .inl (kq1, 128, .inr (.inl (fun _ => 0)))), (q2, .inl (kq2, 128, .inl (fun _ => 0))), (q3, .inl (kq3, 128, .inl (fun _ => 0)))]) [0, 1, 2, 3] rfl
  have hD9 := hD.sub (ws' := [(h0, .inr (3, [.ref q1, .ref q2, .ref q3, .int 0])), (q1, .inl (kq1, 128, .inr (.inl (fun _ => 0)))), (q2, .inl (kq2, 128, .inl (fun _ => 0))), (q3, .inl (kq3, 128, .inl (fun _ => 0)))]) [0, 1, 2, 3] (by decide) rfl
  have hK9 := hK.sub (tys' := [(kq1, .long), (kq2, .int), (kq3, .int)]) [0, 1, 2] rfl
  exact W.vret hx hb hr (fun t ht hW => ⟨⟨(), rfl, trivial, q1, kq1, q2, kq2, q3, kq3, by rw [ht]; exact hP9, va_K.moved hW.alike hK9, hD9⟩, hS.F ht⟩) hS.2.2 dX4_init_31
