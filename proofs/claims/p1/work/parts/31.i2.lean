theorem k_X6_init_methodLink_RX6_3_objectInit : Cond.methodLink RX6 3 objectInit ∈ wzX6_init := List.mem_cons_of_mem _ (List.mem_append_left _ (List.mem_of_getElem? (i := 0) rfl))
theorem k_X6_init_instanceMethod_objectInit : Cond.instanceMethod objectInit ∈ wzX6_init := List.mem_cons_of_mem _ (List.mem_append_left _ (List.mem_of_getElem? (i := 1) rfl))
theorem k_X6_init_code_objectInit_0xb1_1_none : Cond.code objectInit ⟨#[0xb1]⟩ 1 none ∈ wzX6_init := List.mem_cons_of_mem _ (List.mem_append_left _ (List.mem_of_getElem? (i := 2) rfl))
theorem k_X6_init_classLink_RX6_9_RX5 : Cond.classLink RX6 9 RX5 ∈ wzX6_init := List.mem_cons_of_mem _ (List.mem_append_left _ (List.mem_of_getElem? (i := 3) rfl))
theorem k_X6_init_fieldLink_RX6_11_SR_Opens_rows_LSR_Open : Cond.fieldLink RX6 11 "StatementRules2$Opens" "rows" "[LStatementRules2$Open;" ∈ wzX6_init := List.mem_cons_of_mem _ (List.mem_append_left _ (List.mem_of_getElem? (i := 4) rfl))
theorem i_X6_init_X6 : ∀ w ∈ wsX60, w ∈ wzX6_init := fun _ h => List.mem_cons_of_mem _ (List.mem_append_right _ (List.mem_append_left _ (h)))
theorem k_X6_init_arrayClass_int : Cond.arrayClass .int ∈ wzX6_init := List.mem_cons_of_mem _ (List.mem_append_left _ (List.mem_of_getElem? (i := 5) rfl))
theorem k_X6_init_fieldLink_RX6_17_SR_Opens_jumps_I : Cond.fieldLink RX6 17 "StatementRules2$Opens" "jumps" "[I" ∈ wzX6_init := List.mem_cons_of_mem _ (List.mem_append_left _ (List.mem_of_getElem? (i := 6) rfl))
set_option maxHeartbeats 4000000 in
set_option maxRecDepth 100000 in
theorem c_X6_init (l : Launch) (dC : Nat → ClassId) (dI : Nat → Nat → Nat) (sz : Nat) (h0 : Nat) : Met l yX6_init wzX6_init ({ frames := 1, cells := 2, slots := 560, locals := 60 }) (va_Pc [.ref h0] (zPre dC dI sz [(h0, .inr (5, [.null, .null, .int 0, .int 0, .int 0, .int 0]))] [])) (va_Qv (fun (_ : Unit) => True) (fun (_ : Unit) (t : State) => ∃ (qr : Nat), ∃ (qj : Nat), ∃ (kr : ClassId), zPost dC dI (va_A [(h0, .inr (5, [.null, .null, .int 0, .int 0, .int 0, .int 0]))] sz) [(h0, .inr (5, [.ref qr, .ref qj, .int 0, .int 0, .int 0, .int 0])), (qr, .inl (kr, 400, .inr (.inr (.inr (.inr (fun _ => none))))))] [(kr, .object "StatementRules2$Open")] t) (va_A [(h0, .inr (5, [.null, .null, .int 0, .int 0, .int 0, .int 0]))] sz)) 2 560 (va_A [(h0, .inr (5, [.null, .null, .int 0, .int 0, .int 0, .int 0]))] sz) := by
  refine Met.ofW (cc := cX6_init) (maxL := 1) (ret := none) (by decide) rfl ?_
  intro p e s m args below meth c s₁ B hml hv
  obtain ⟨rfl, hsz, hZ, hP, hK, hD0⟩ := hv
  have hx := B.exec
  have hb := B.bytes
  have hr := B.returns
  have hts := atoms_spec (ws := wzX6_init) B.pre
  have hown : s.vm.findClass RX6 = some m.cls := findClass_of_methodNamed B.named
  have hlocks := B.notSynchronized
  have hin : meth.name = "<init>" := (name_of_methodNamed B.named B.method).1
  subst hsz
  have hD := hD0.self (sz := s.heap.size)
  generalize hAe : va_A [(h0, .inr (5, [.null, .null, .int 0, .int 0, .int 0, .int 0]))] s.heap.size = A at hD ⊢
  have hA : ∀ q : Nat, s.heap.size ≤ q → A q := fun q h => by rw [← hAe]; exact Or.inr h
  have hS : va_S A s.heap s.heap [] := va_S.rf
  have hP : va_P (dC, dI) vwCl [(h0, .inr (5, [.null, .null, .int 0, .int 0, .int 0, .int 0]))] s.heap := hP
  have hl := lv_entry ([.ref h0]) (n := 1) (Nat.le_of_ble_eq_true rfl)
  rw [lg_entry_eq]
  generalize (lg_sl ([.ref h0]) ++ List.replicate (1 - (lg_sl ([.ref h0])).length) Slot.unset).toArray = ls at hl ⊢
  have hl : lv_has ls 1 [(0, .ref h0)] := hl
  refine lv_aload_n hx hb dX6_init_0 rfl (lv_at hl 0 rfl) ?_
  refine W.objInit hx hb hown (hts (.methodLink RX6 3 objectInit) k_X6_init_methodLink_RX6_3_objectInit) (hts (.instanceMethod objectInit) k_X6_init_instanceMethod_objectInit) (hts (.code objectInit ⟨#[0xb1]⟩ 1 none) k_X6_init_code_objectInit_0xb1_1_none) rfl (by rw [hml]; exact hl.1) rfl dX6_init_1 (Nat.le_of_ble_eq_true rfl) (Nat.le_of_ble_eq_true rfl) ?_
  refine W.eq (g2 := F0 m 4 ls []) rfl ?_
  refine lv_aload_n hx hb dX6_init_4 rfl (lv_at hl 0 rfl) ?_
  refine lv_sipush (v := 400) hx hb dX6_init_5 (by decide) ?_
  refine va_newq (C := "StatementRules2$Open") (N' := 400) hx hb hown (hts (.classLink RX6 9 RX5) k_X6_init_classLink_RX6_9_RX5) hZ.2.1 hK hP hD hS hA (by decide) (by decide) (by decide) (Nat.le_of_ble_eq_true rfl) (Nat.le_of_ble_eq_true rfl) dX6_init_8 (fun q1 kq1 H hK hP hD hS => ?_)
  refine W.widen (k := 1) (n := 400) (by omega) (by omega) ?_
  have hP : va_P (dC, dI) vwCl [(h0, .inr (5, [.null, .null, .int 0, .int 0, .int 0, .int 0])), (q1, .inl (kq1, 400, .inr (.inr (.inr (.inr (fun _ => none))))))] H := hP
  have hD : va_D A [(h0, .inr (5, [.null, .null, .int 0, .int 0, .int 0, .int 0])), (q1, .inl (kq1, 400, .inr (.inr (.inr (.inr (fun _ => none))))))] := hD
  have hK : va_K (dC, dI) vwCl [(kq1, .object "StatementRules2$Open")] s := hK
  refine va_putF (D := (dC, dI)) (ci := 5) (v := .ref q1) (ty := (.array (.object "StatementRules2$Open"))) (C := RX6) (T := TX6) (N := 6) hx hb hts i_X6_init_X6 tyX6 tyX6_ok nmX6 hown hK hP hD hS 0 rfl rfl 0 (by decide) (hts (.fieldLink RX6 11 "StatementRules2$Opens" "rows" "[LStatementRules2$Open;") k_X6_init_fieldLink_RX6_11_SR_Opens_rows_LSR_Open) (fun _ h9 => h9) rfl hin rfl (by decide +kernel) rfl rfl (Nat.le_of_ble_eq_true rfl) dX6_init_11 (fun H locs hP hD hS => ?_)
  have hP : va_P (dC, dI) vwCl [(h0, .inr (5, [.ref q1, .null, .int 0, .int 0, .int 0, .int 0])), (q1, .inl (kq1, 400, .inr (.inr (.inr (.inr (fun _ => none))))))] H := hP
  have hD : va_D A [(h0, .inr (5, [.ref q1, .null, .int 0, .int 0, .int 0, .int 0])), (q1, .inl (kq1, 400, .inr (.inr (.inr (.inr (fun _ => none))))))] := hD
  refine lv_aload_n hx hb dX6_init_14 rfl (lv_at hl 0 rfl) ?_
  refine lv_sipush (v := 160) hx hb dX6_init_15 (by decide) ?_
  refine va_newa (atype := .int) (ty := .int) (N' := 160) (a0 := (160, .inl (fun _ => 0))) hx hb (hts (.arrayClass .int) k_X6_init_arrayClass_int) rfl hK hP hD hS hA (z_newi 160) (by decide) (by decide) (by decide) (Nat.le_of_ble_eq_true rfl) (Nat.le_of_ble_eq_true rfl) dX6_init_18 (fun q2 kq2 H hK hP hD hS => ?_)
  refine W.widen (k := 2) (n := 560) (by omega) (by omega) ?_
  have hP : va_P (dC, dI) vwCl [(h0, .inr (5, [.ref q1, .null, .int 0, .int 0, .int 0, .int 0])), (q1, .inl (kq1, 400, .inr (.inr (.inr (.inr (fun _ => none)))))), (q2, .inl (kq2, 160, .inl (fun _ => 0)))] H := hP
  have hD : va_D A [(h0, .inr (5, [.ref q1, .null, .int 0, .int 0, .int 0, .int 0])), (q1, .inl (kq1, 400, .inr (.inr (.inr (.inr (fun _ => none)))))), (q2, .inl (kq2, 160, .inl (fun _ => 0)))] := hD
  have hK : va_K (dC, dI) vwCl [(kq1, .object "StatementRules2$Open"), (kq2, .int)] s := hK
  refine va_putF (D := (dC, dI)) (ci := 5) (v := .ref q2) (ty := (.array .int)) (C := RX6) (T := TX6) (N := 6) hx hb hts i_X6_init_X6 tyX6 tyX6_ok nmX6 hown hK hP hD hS 0 rfl rfl 1 (by decide) (hts (.fieldLink RX6 17 "StatementRules2$Opens" "jumps" "[I") k_X6_init_fieldLink_RX6_17_SR_Opens_jumps_I) (fun _ h9 => h9) rfl hin rfl (by decide +kernel) rfl rfl (Nat.le_of_ble_eq_true rfl) dX6_init_20 (fun H locs hP hD hS => ?_)
  have hP : va_P (dC, dI) vwCl [(h0, .inr (5, [.ref q1, .ref q2, .int 0, .int 0, .int 0, .int 0])), (q1, .inl (kq1, 400, .inr (.inr (.inr (.inr (fun _ => none)))))), (q2, .inl (kq2, 160, .inl (fun _ => 0)))] H := hP
  have hD : va_D A [(h0, .inr (5, [.ref q1, .ref q2, .int 0, .int 0, .int 0, .int 0])), (q1, .inl (kq1, 400, .inr (.inr (.inr (.inr (fun _ => none)))))), (q2, .inl (kq2, 160, .inl (fun _ => 0)))] := hD
  have hP9 := hP.sub (ws' := [(h0, .inr (5, [.ref q1, .ref q2, .int 0, .int 0, .int 0, .int 0])), (q1, .inl (kq1, 400, .inr (.inr (.inr (.inr (fun _ => none))))))]) [0, 1] rfl
  have hD9 := hD.sub (ws' := [(h0, .inr (5, [.ref q1, .ref q2, .int 0, .int 0, .int 0, .int 0])), (q1, .inl (kq1, 400, .inr (.inr (.inr (.inr (fun _ => none))))))]) [0, 1] (by decide) rfl
  have hK9 := hK.sub (tys' := [(kq1, .object "StatementRules2$Open")]) [0] rfl
  exact W.vret hx hb hr (fun t ht hW => ⟨⟨(), rfl, trivial, q1, q2, kq1, by rw [ht]; exact hP9, va_K.moved hW.alike hK9, hD9⟩, hS.F ht⟩) hS.2.2 dX6_init_23
