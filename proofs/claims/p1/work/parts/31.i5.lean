theorem k_X1_init_methodLink_RX1_3_objectInit : Cond.methodLink RX1 3 objectInit ∈ wzX1_init := List.mem_cons_of_mem _ (List.mem_append_left _ (List.mem_of_getElem? (i := 0) rfl))
theorem k_X1_init_instanceMethod_objectInit : Cond.instanceMethod objectInit ∈ wzX1_init := List.mem_cons_of_mem _ (List.mem_append_left _ (List.mem_of_getElem? (i := 1) rfl))
theorem k_X1_init_code_objectInit_0xb1_1_none : Cond.code objectInit ⟨#[0xb1]⟩ 1 none ∈ wzX1_init := List.mem_cons_of_mem _ (List.mem_append_left _ (List.mem_of_getElem? (i := 2) rfl))
theorem df_X4 : ∀ j, j < 4 → defaultValue (tyX4 j) = vp_V [.null, .null, .null, .int 0] j := by decide +kernel
theorem i_X1_init_X4 : ∀ w ∈ wsX40, w ∈ wzX1_init := fun _ h => List.mem_cons_of_mem _ (List.mem_append_right _ (List.mem_append_left _ (h)))
theorem k_X1_init_classLink_RX1_9_RX4 : Cond.classLink RX1 9 RX4 ∈ wzX1_init := List.mem_cons_of_mem _ (List.mem_append_left _ (List.mem_of_getElem? (i := 3) rfl))
theorem k_X1_init_instantiable_RX4_4 : Cond.instantiable RX4 4 ∈ wzX1_init := List.mem_cons_of_mem _ (List.mem_append_left _ (List.mem_of_getElem? (i := 4) rfl))
theorem k_X1_init_initialized_RX4 : Cond.initialized RX4 ∈ wzX1_init := List.mem_cons_of_mem _ (List.mem_append_left _ (List.mem_of_getElem? (i := 5) rfl))
theorem k_X1_init_instanceMethod_yX4_init : Cond.instanceMethod yX4_init ∈ wzX1_init := List.mem_cons_of_mem _ (List.mem_append_left _ (List.mem_of_getElem? (i := 6) rfl))
theorem k_X1_init_fieldLink_RX1_12_SR_Formulas_names_LSR_Names : Cond.fieldLink RX1 12 "StatementRules2$Formulas" "names" "LStatementRules2$Names;" ∈ wzX1_init := List.mem_cons_of_mem _ (List.mem_append_left _ (List.mem_of_getElem? (i := 7) rfl))
theorem i_X1_init_X7 : ∀ w ∈ wsX70, w ∈ wzX1_init := fun _ h => List.mem_cons_of_mem _ (List.mem_append_right _ (List.mem_append_right _ (List.mem_append_left _ (h))))
theorem k_X1_init_fieldLink_RX1_18_SR_Formulas_tokens_LSR_Tokens : Cond.fieldLink RX1 18 "StatementRules2$Formulas" "tokens" "LStatementRules2$Tokens;" ∈ wzX1_init := List.mem_cons_of_mem _ (List.mem_append_left _ (List.mem_of_getElem? (i := 8) rfl))
theorem k_X1_init_fieldLink_RX1_22_SR_Formulas_code_LSR_Code : Cond.fieldLink RX1 22 "StatementRules2$Formulas" "code" "LStatementRules2$Code;" ∈ wzX1_init := List.mem_cons_of_mem _ (List.mem_append_left _ (List.mem_of_getElem? (i := 9) rfl))
theorem k_X1_init_fieldLink_RX1_26_SR_Formulas_told_LSR_Told : Cond.fieldLink RX1 26 "StatementRules2$Formulas" "told" "LStatementRules2$Told;" ∈ wzX1_init := List.mem_cons_of_mem _ (List.mem_append_left _ (List.mem_of_getElem? (i := 10) rfl))
set_option maxHeartbeats 4000000 in
set_option maxRecDepth 100000 in
theorem c_X1_init (l : Launch) (dC : Nat → ClassId) (dI : Nat → Nat → Nat) (sz : Nat) (h0 : Nat) (q9 : Nat) (q0 : Nat) (q10 : Nat) : Met l yX1_init wzX1_init ({ frames := 2, cells := 4, slots := 388, locals := 120 }) (va_Pc [.ref h0, .ref q9, .ref q0, .ref q10] (zPre dC dI sz [(h0, .inr (6, [.null, .null, .null, .null, .int 0, .int 0, .int 0, .null, .int 0, .int 0, .int 0]))] [])) (va_Qv (fun (_ : Unit) => True) (fun (_ : Unit) (t : State) => ∃ (q4 : Nat), ∃ (qn : Nat), ∃ (kn : ClassId), ∃ (qc : Nat), ∃ (kc : ClassId), ∃ (qf : Nat), ∃ (kf : ClassId), zPost dC dI (va_A [(h0, .inr (6, [.null, .null, .null, .null, .int 0, .int 0, .int 0, .null, .int 0, .int 0, .int 0]))] sz) [(h0, .inr (6, [.ref q9, .ref q0, .ref q10, .ref q4, .int 0, .int 0, .int 0, .null, .int 0, .int 0, .int 0])), (q4, .inr (3, [.ref qn, .ref qc, .ref qf, .int 0])), (qn, .inl (kn, 128, .inr (.inl (fun _ => 0)))), (qc, .inl (kc, 128, .inl (fun _ => 0))), (qf, .inl (kf, 128, .inl (fun _ => 0)))] [(kn, .long), (kc, .int), (kf, .int)] t) (va_A [(h0, .inr (6, [.null, .null, .null, .null, .int 0, .int 0, .int 0, .null, .int 0, .int 0, .int 0]))] sz)) 4 388 (va_A [(h0, .inr (6, [.null, .null, .null, .null, .int 0, .int 0, .int 0, .null, .int 0, .int 0, .int 0]))] sz) := by
  refine Met.ofW (cc := cX1_init) (maxL := 4) (ret := none) (by decide) rfl ?_
  intro p e s m args below meth c s₁ B hml hv
  obtain ⟨rfl, hsz, hZ, hP, hK, hD0⟩ := hv
  have hx := B.exec
  have hb := B.bytes
  have hr := B.returns
  have hts := atoms_spec (ws := wzX1_init) B.pre
  have hown : s.vm.findClass RX1 = some m.cls := findClass_of_methodNamed B.named
  have hlocks := B.notSynchronized
  have hin : meth.name = "<init>" := (name_of_methodNamed B.named B.method).1
  subst hsz
  have hD := hD0.self (sz := s.heap.size)
  generalize hAe : va_A [(h0, .inr (6, [.null, .null, .null, .null, .int 0, .int 0, .int 0, .null, .int 0, .int 0, .int 0]))] s.heap.size = A at hD ⊢
  have hA : ∀ q : Nat, s.heap.size ≤ q → A q := fun q h => by rw [← hAe]; exact Or.inr h
  have hS : va_S A s.heap s.heap [] := va_S.rf
  have hP : va_P (dC, dI) vwCl [(h0, .inr (6, [.null, .null, .null, .null, .int 0, .int 0, .int 0, .null, .int 0, .int 0, .int 0]))] s.heap := hP
  have hl := lv_entry ([.ref h0, .ref q9, .ref q0, .ref q10]) (n := 4) (Nat.le_of_ble_eq_true rfl)
  rw [lg_entry_eq]
  generalize (lg_sl ([.ref h0, .ref q9, .ref q0, .ref q10]) ++ List.replicate (4 - (lg_sl ([.ref h0, .ref q9, .ref q0, .ref q10])).length) Slot.unset).toArray = ls at hl ⊢
  have hl : lv_has ls 4 [(0, .ref h0), (1, .ref q9), (2, .ref q0), (3, .ref q10)] := hl
  refine lv_aload_n hx hb dX1_init_0 rfl (lv_at hl 0 rfl) ?_
  refine W.objInit hx hb hown (hts (.methodLink RX1 3 objectInit) k_X1_init_methodLink_RX1_3_objectInit) (hts (.instanceMethod objectInit) k_X1_init_instanceMethod_objectInit) (hts (.code objectInit ⟨#[0xb1]⟩ 1 none) k_X1_init_code_objectInit_0xb1_1_none) rfl (by rw [hml]; exact hl.1) rfl dX1_init_1 (Nat.le_of_ble_eq_true rfl) (Nat.le_of_ble_eq_true rfl) ?_
  refine W.eq (g2 := F0 m 4 ls []) rfl ?_
  refine lv_aload_n hx hb dX1_init_4 rfl (lv_at hl 0 rfl) ?_
  refine va_new (ci := 3) (fs := [.null, .null, .null, .int 0]) (C := RX4) (T := TX4) (N := 4) hx hb hts i_X1_init_X4 tyX4 tyX4_ok hown (hts (.classLink RX1 9 RX4) k_X1_init_classLink_RX1_9_RX4) (hts (.instantiable RX4 4) k_X1_init_instantiable_RX4_4) (hts (.initialized RX4) k_X1_init_initialized_RX4) hK hP hD hS hA rfl df_X4 (Nat.le_of_ble_eq_true rfl) (Nat.le_of_ble_eq_true rfl) dX1_init_5 (fun q1 H hP hD hS => ?_)
  refine W.widen (k := 1) (n := 4) (by omega) (by omega) ?_
  have hP : va_P (dC, dI) vwCl [(h0, .inr (6, [.null, .null, .null, .null, .int 0, .int 0, .int 0, .null, .int 0, .int 0, .int 0])), (q1, .inr (3, [.null, .null, .null, .int 0]))] H := hP
  have hD : va_D A [(h0, .inr (6, [.null, .null, .null, .null, .int 0, .int 0, .int 0, .null, .int 0, .int 0, .int 0])), (q1, .inr (3, [.null, .null, .null, .int 0]))] := hD
  refine lv_dup hx hb dX1_init_8 rfl ?_
  have hPc := hP.sub (ws' := [(q1, .inr (3, [.null, .null, .null, .int 0]))]) [1] rfl
  have hDc := hD.sub (ws' := [(q1, .inr (3, [.null, .null, .null, .int 0]))]) [1] (by decide) rfl
  have hKc := hK.sub (tys' := []) [] rfl
  have hFc := va_free (wc := [(q1, .inr (3, [.null, .null, .null, .int 0]))]) hD hS hA [1] rfl
  refine va_callv (va_runIN (As := []) (rest := [.ref q1, .ref h0]) ⟨hx, hb, hml, hown, hts⟩ (c_X4_init l dC dI _ q1) ⟨va_cnB 0 hts hX1_init_X4_init_n11 rfl rfl rfl (hZ.1 (.methodLinkNest RX1 11 yX4_init "StatementRules2") (by decide +kernel)) (hts (.initialized RX4) k_X1_init_initialized_RX4) (by decide +kernel) ⟨Nat.le_of_ble_eq_true rfl, Nat.le_of_ble_eq_true rfl⟩, rfl, (hts (.instanceMethod yX4_init) k_X1_init_instanceMethod_yX4_init)⟩ ⟨zPre.blind, zPre.go hZ hPc hKc hDc⟩ rfl rfl hl.1 rfl (lv_room (Nat.le_of_ble_eq_true rfl)) dX1_init_9 ⟨Nat.le_of_ble_eq_true rfl, Nat.le_of_ble_eq_true rfl⟩) hS (fun q _ h => hFc q h) hFc (fun u9 t9 H1 locs ht hvm hw hB hz1 hk1 hS => ?_)
  obtain ⟨qn_3, kn_4, qc_5, kc_6, qf_7, kf_8, hP1, hK1, hD1⟩ := hB
  rw [ht] at hP1
  have hK1 := va_K.moved hvm.symm hK1
  obtain ⟨hP, hD⟩ := va_join (wr := [(h0, .inr (6, [.null, .null, .null, .null, .int 0, .int 0, .int 0, .null, .int 0, .int 0, .int 0]))]) (w1 := [(q1, .inr (3, [.ref qn_3, .ref qc_5, .ref qf_7, .int 0])), (qn_3, .inl (kn_4, 128, .inr (.inl (fun _ => 0)))), (qc_5, .inl (kc_6, 128, .inl (fun _ => 0))), (qf_7, .inl (kf_8, 128, .inl (fun _ => 0)))]) hP hD [1] [0] rfl rfl (by decide) (by decide) hk1 hFc hP1 hD1
  have hK := hK.app hK1
  generalize H1 = H at hP hS ⊢
  have hP : va_P (dC, dI) vwCl [(h0, .inr (6, [.null, .null, .null, .null, .int 0, .int 0, .int 0, .null, .int 0, .int 0, .int 0])), (q1, .inr (3, [.ref qn_3, .ref qc_5, .ref qf_7, .int 0])), (qn_3, .inl (kn_4, 128, .inr (.inl (fun _ => 0)))), (qc_5, .inl (kc_6, 128, .inl (fun _ => 0))), (qf_7, .inl (kf_8, 128, .inl (fun _ => 0)))] H := hP
  have hD : va_D A [(h0, .inr (6, [.null, .null, .null, .null, .int 0, .int 0, .int 0, .null, .int 0, .int 0, .int 0])), (q1, .inr (3, [.ref qn_3, .ref qc_5, .ref qf_7, .int 0])), (qn_3, .inl (kn_4, 128, .inr (.inl (fun _ => 0)))), (qc_5, .inl (kc_6, 128, .inl (fun _ => 0))), (qf_7, .inl (kf_8, 128, .inl (fun _ => 0)))] := hD
  have hK : va_K (dC, dI) vwCl [(kn_4, .long), (kc_6, .int), (kf_8, .int)] s := hK
  refine W.widen (k := 4) (n := 388) (by omega) (by omega) ?_
  refine va_putF (D := (dC, dI)) (ci := 6) (v := .ref q1) (ty := (.object "StatementRules2$Names")) (C := RX7) (T := TX7) (N := 11) hx hb hts i_X1_init_X7 tyX7 tyX7_ok nmX7 hown hK hP hD hS 0 rfl rfl 3 (by decide) (hts (.fieldLink RX1 12 "StatementRules2$Formulas" "names" "LStatementRules2$Names;") k_X1_init_fieldLink_RX1_12_SR_Formulas_names_LSR_Names) (fun _ h9 => h9) rfl hin rfl (by decide +kernel) rfl rfl (Nat.le_of_ble_eq_true rfl) dX1_init_12 (fun H locs hP hD hS => ?_)
  have hP : va_P (dC, dI) vwCl [(h0, .inr (6, [.null, .null, .null, .ref q1, .int 0, .int 0, .int 0, .null, .int 0, .int 0, .int 0])), (q1, .inr (3, [.ref qn_3, .ref qc_5, .ref qf_7, .int 0])), (qn_3, .inl (kn_4, 128, .inr (.inl (fun _ => 0)))), (qc_5, .inl (kc_6, 128, .inl (fun _ => 0))), (qf_7, .inl (kf_8, 128, .inl (fun _ => 0)))] H := hP
  have hD : va_D A [(h0, .inr (6, [.null, .null, .null, .ref q1, .int 0, .int 0, .int 0, .null, .int 0, .int 0, .int 0])), (q1, .inr (3, [.ref qn_3, .ref qc_5, .ref qf_7, .int 0])), (qn_3, .inl (kn_4, 128, .inr (.inl (fun _ => 0)))), (qc_5, .inl (kc_6, 128, .inl (fun _ => 0))), (qf_7, .inl (kf_8, 128, .inl (fun _ => 0)))] := hD
  refine lv_aload_n hx hb dX1_init_15 rfl (lv_at hl 0 rfl) ?_
  refine lv_aload_n hx hb dX1_init_16 rfl (lv_at hl 1 rfl) ?_
  refine va_putF (D := (dC, dI)) (ci := 6) (v := .ref q9) (ty := (.object "StatementRules2$Tokens")) (C := RX7) (T := TX7) (N := 11) hx hb hts i_X1_init_X7 tyX7 tyX7_ok nmX7 hown hK hP hD hS 0 rfl rfl 0 (by decide) (hts (.fieldLink RX1 18 "StatementRules2$Formulas" "tokens" "LStatementRules2$Tokens;") k_X1_init_fieldLink_RX1_18_SR_Formulas_tokens_LSR_Tokens) (fun _ h9 => h9) rfl hin rfl (by decide +kernel) rfl rfl (Nat.le_of_ble_eq_true rfl) dX1_init_17 (fun H locs hP hD hS => ?_)
  have hP : va_P (dC, dI) vwCl [(h0, .inr (6, [.ref q9, .null, .null, .ref q1, .int 0, .int 0, .int 0, .null, .int 0, .int 0, .int 0])), (q1, .inr (3, [.ref qn_3, .ref qc_5, .ref qf_7, .int 0])), (qn_3, .inl (kn_4, 128, .inr (.inl (fun _ => 0)))), (qc_5, .inl (kc_6, 128, .inl (fun _ => 0))), (qf_7, .inl (kf_8, 128, .inl (fun _ => 0)))] H := hP
  have hD : va_D A [(h0, .inr (6, [.ref q9, .null, .null, .ref q1, .int 0, .int 0, .int 0, .null, .int 0, .int 0, .int 0])), (q1, .inr (3, [.ref qn_3, .ref qc_5, .ref qf_7, .int 0])), (qn_3, .inl (kn_4, 128, .inr (.inl (fun _ => 0)))), (qc_5, .inl (kc_6, 128, .inl (fun _ => 0))), (qf_7, .inl (kf_8, 128, .inl (fun _ => 0)))] := hD
  refine lv_aload_n hx hb dX1_init_20 rfl (lv_at hl 0 rfl) ?_
  refine lv_aload_n hx hb dX1_init_21 rfl (lv_at hl 2 rfl) ?_
  refine va_putF (D := (dC, dI)) (ci := 6) (v := .ref q0) (ty := (.object "StatementRules2$Code")) (C := RX7) (T := TX7) (N := 11) hx hb hts i_X1_init_X7 tyX7 tyX7_ok nmX7 hown hK hP hD hS 0 rfl rfl 1 (by decide) (hts (.fieldLink RX1 22 "StatementRules2$Formulas" "code" "LStatementRules2$Code;") k_X1_init_fieldLink_RX1_22_SR_Formulas_code_LSR_Code) (fun _ h9 => h9) rfl hin rfl (by decide +kernel) rfl rfl (Nat.le_of_ble_eq_true rfl) dX1_init_22 (fun H locs hP hD hS => ?_)
  have hP : va_P (dC, dI) vwCl [(h0, .inr (6, [.ref q9, .ref q0, .null, .ref q1, .int 0, .int 0, .int 0, .null, .int 0, .int 0, .int 0])), (q1, .inr (3, [.ref qn_3, .ref qc_5, .ref qf_7, .int 0])), (qn_3, .inl (kn_4, 128, .inr (.inl (fun _ => 0)))), (qc_5, .inl (kc_6, 128, .inl (fun _ => 0))), (qf_7, .inl (kf_8, 128, .inl (fun _ => 0)))] H := hP
  have hD : va_D A [(h0, .inr (6, [.ref q9, .ref q0, .null, .ref q1, .int 0, .int 0, .int 0, .null, .int 0, .int 0, .int 0])), (q1, .inr (3, [.ref qn_3, .ref qc_5, .ref qf_7, .int 0])), (qn_3, .inl (kn_4, 128, .inr (.inl (fun _ => 0)))), (qc_5, .inl (kc_6, 128, .inl (fun _ => 0))), (qf_7, .inl (kf_8, 128, .inl (fun _ => 0)))] := hD
  refine lv_aload_n hx hb dX1_init_25 rfl (lv_at hl 0 rfl) ?_
  refine lv_aload_n hx hb dX1_init_26 rfl (lv_at hl 3 rfl) ?_
  refine va_putF (D := (dC, dI)) (ci := 6) (v := .ref q10) (ty := (.object "StatementRules2$Told")) (C := RX7) (T := TX7) (N := 11) hx hb hts i_X1_init_X7 tyX7 tyX7_ok nmX7 hown hK hP hD hS 0 rfl rfl 2 (by decide) (hts (.fieldLink RX1 26 "StatementRules2$Formulas" "told" "LStatementRules2$Told;") k_X1_init_fieldLink_RX1_26_SR_Formulas_told_LSR_Told) (fun _ h9 => h9) rfl hin rfl (by decide +kernel) rfl rfl (Nat.le_of_ble_eq_true rfl) dX1_init_27 (fun H locs hP hD hS => ?_)
  have hP : va_P (dC, dI) vwCl [(h0, .inr (6, [.ref q9, .ref q0, .ref q10, .ref q1, .int 0, .int 0, .int 0, .null, .int 0, .int 0, .int 0])), (q1, .inr (3, [.ref qn_3, .ref qc_5, .ref qf_7, .int 0])), (qn_3, .inl (kn_4, 128, .inr (.inl (fun _ => 0)))), (qc_5, .inl (kc_6, 128, .inl (fun _ => 0))), (qf_7, .inl (kf_8, 128, .inl (fun _ => 0)))] H := hP
  have hD : va_D A [(h0, .inr (6, [.ref q9, .ref q0, .ref q10, .ref q1, .int 0, .int 0, .int 0, .null, .int 0, .int 0, .int 0])), (q1, .inr (3, [.ref qn_3, .ref qc_5, .ref qf_7, .int 0])), (qn_3, .inl (kn_4, 128, .inr (.inl (fun _ => 0)))), (qc_5, .inl (kc_6, 128, .inl (fun _ => 0))), (qf_7, .inl (kf_8, 128, .inl (fun _ => 0)))] := hD
  have hP9 := hP.sub (ws' := [(h0, .inr (6, [.ref q9, .ref q0, .ref q10, .ref q1, .int 0, .int 0, .int 0, .null, .int 0, .int 0, .int 0])), (q1, .inr (3, [.ref qn_3, .ref qc_5, .ref qf_7, .int 0])), (qn_3, .inl (kn_4, 128, .inr (.inl (fun _ => 0)))), (qc_5, .inl (kc_6, 128, .inl (fun _ => 0))), (qf_7, .inl (kf_8, 128, .inl (fun _ => 0)))]) [0, 1, 2, 3, 4] rfl
  have hD9 := hD.sub (ws' := [(h0, .inr (6, [.ref q9, .ref q0, .ref q10, .ref q1, .int 0, .int 0, .int 0, .null, .int 0, .int 0, .int 0])), (q1, .inr (3, [.ref qn_3, .ref qc_5, .ref qf_7, .int 0])), (qn_3, .inl (kn_4, 128, .inr (.inl (fun _ => 0)))), (qc_5, .inl (kc_6, 128, .inl (fun _ => 0))), (qf_7, .inl (kf_8, 128, .inl (fun _ => 0)))]) [0, 1, 2, 3, 4] (by decide) rfl
  have hK9 := hK.sub (tys' := [(kn_4, .long), (kc_6, .int), (kf_8, .int)]) [0, 1, 2] rfl
  exact W.vret hx hb hr (fun t ht hW => ⟨⟨(), rfl, trivial, q1, qn_3, kn_4, qc_5, kc_6, qf_7, kf_8, by rw [ht]; exact hP9, va_K.moved hW.alike hK9, hD9⟩, hS.F ht⟩) hS.2.2 dX1_init_30
