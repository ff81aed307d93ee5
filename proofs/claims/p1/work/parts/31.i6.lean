theorem k_X7_init_initialized_RX1 : Cond.initialized RX1 ∈ wzX7_init := List.mem_cons_of_mem _ (List.mem_append_left _ (List.mem_of_getElem? (i := 0) rfl))
theorem k_X7_init_methodLink_RX7_3_yX1_init : Cond.methodLink RX7 3 yX1_init ∈ wzX7_init := List.mem_cons_of_mem _ (List.mem_append_left _ (List.mem_of_getElem? (i := 1) rfl))
theorem k_X7_init_instanceMethod_yX1_init : Cond.instanceMethod yX1_init ∈ wzX7_init := List.mem_cons_of_mem _ (List.mem_append_left _ (List.mem_of_getElem? (i := 2) rfl))
theorem df_X6 : ∀ j, j < 6 → defaultValue (tyX6 j) = vp_V [.null, .null, .int 0, .int 0, .int 0, .int 0] j := by decide +kernel
theorem i_X7_init_X6 : ∀ w ∈ wsX60, w ∈ wzX7_init := fun _ h => List.mem_cons_of_mem _ (List.mem_append_right _ (List.mem_append_left _ (h)))
theorem k_X7_init_classLink_RX7_9_RX6 : Cond.classLink RX7 9 RX6 ∈ wzX7_init := List.mem_cons_of_mem _ (List.mem_append_left _ (List.mem_of_getElem? (i := 3) rfl))
theorem k_X7_init_instantiable_RX6_6 : Cond.instantiable RX6 6 ∈ wzX7_init := List.mem_cons_of_mem _ (List.mem_append_left _ (List.mem_of_getElem? (i := 4) rfl))
theorem k_X7_init_initialized_RX6 : Cond.initialized RX6 ∈ wzX7_init := List.mem_cons_of_mem _ (List.mem_append_left _ (List.mem_of_getElem? (i := 5) rfl))
theorem k_X7_init_instanceMethod_yX6_init : Cond.instanceMethod yX6_init ∈ wzX7_init := List.mem_cons_of_mem _ (List.mem_append_left _ (List.mem_of_getElem? (i := 6) rfl))
theorem k_X7_init_fieldLink_RX7_14_SR_Statements_opens_LSR_Opens : Cond.fieldLink RX7 14 "StatementRules2$Statements" "opens" "LStatementRules2$Opens;" ∈ wzX7_init := List.mem_cons_of_mem _ (List.mem_append_left _ (List.mem_of_getElem? (i := 7) rfl))
theorem i_X7_init_X7 : ∀ w ∈ wsX70, w ∈ wzX7_init := fun _ h => List.mem_cons_of_mem _ (List.mem_append_right _ (List.mem_append_right _ (List.mem_append_left _ (h))))
set_option maxHeartbeats 4000000 in
set_option maxRecDepth 100000 in
theorem c_X7_init (l : Launch) (dC : Nat → ClassId) (dI : Nat → Nat → Nat) (sz : Nat) (h0 : Nat) (q9 : Nat) (q0 : Nat) (q10 : Nat) : Met l yX7_init wzX7_init ({ frames := 3, cells := 7, slots := 954, locals := 180 }) (va_Pc [.ref h0, .ref q9, .ref q0, .ref q10] (zPre dC dI sz [(h0, .inr (6, [.null, .null, .null, .null, .int 0, .int 0, .int 0, .null, .int 0, .int 0, .int 0]))] [])) (va_Qv (fun (_ : Unit) => True) (fun (_ : Unit) (t : State) => ∃ (q4 : Nat), ∃ (qn : Nat), ∃ (kn : ClassId), ∃ (qc : Nat), ∃ (kc : ClassId), ∃ (qf : Nat), ∃ (kf : ClassId), ∃ (q6 : Nat), ∃ (qr : Nat), ∃ (qj : Nat), ∃ (kr : ClassId), zPost dC dI (va_A [(h0, .inr (6, [.null, .null, .null, .null, .int 0, .int 0, .int 0, .null, .int 0, .int 0, .int 0]))] sz) [(h0, .inr (6, [.ref q9, .ref q0, .ref q10, .ref q4, .int 0, .int 0, .int 0, .ref q6, .int 0, .int 0, .int 0])), (q4, .inr (3, [.ref qn, .ref qc, .ref qf, .int 0])), (qn, .inl (kn, 128, .inr (.inl (fun _ => 0)))), (qc, .inl (kc, 128, .inl (fun _ => 0))), (qf, .inl (kf, 128, .inl (fun _ => 0))), (q6, .inr (5, [.ref qr, .ref qj, .int 0, .int 0, .int 0, .int 0])), (qr, .inl (kr, 400, .inr (.inr (.inr (.inr (fun _ => none))))))] [(kn, .long), (kc, .int), (kf, .int), (kr, .object "StatementRules2$Open")] t) (va_A [(h0, .inr (6, [.null, .null, .null, .null, .int 0, .int 0, .int 0, .null, .int 0, .int 0, .int 0]))] sz)) 7 954 (va_A [(h0, .inr (6, [.null, .null, .null, .null, .int 0, .int 0, .int 0, .null, .int 0, .int 0, .int 0]))] sz) := by
  refine Met.ofW (cc := cX7_init) (maxL := 4) (ret := none) (by decide) rfl ?_
  intro p e s m args below meth c s₁ B hml hv
  obtain ⟨rfl, hsz, hZ, hP, hK, hD0⟩ := hv
  have hx := B.exec
  have hb := B.bytes
  have hr := B.returns
  have hts := atoms_spec (ws := wzX7_init) B.pre
  have hown : s.vm.findClass RX7 = some m.cls := findClass_of_methodNamed B.named
  have hlocks := B.notSynchronized
  have hin : meth.name = "<init>" := (name_of_methodNamed B.named B.method).1
  subst hsz
  have hD := hD0.self (sz := s.heap.size)
  generalize hAe : va_A [(h0, .inr (6, [.null, .null, .null, .null, .int 0, .int 0, .int 0, .null, .int 0, .int 0, .int 0]))] s.heap.size = A at hD ⊢
  have hA : ∀ q : Nat, s.heap.size ≤ q → A q := fun q h => by rw [← hAe]; exact Or.inr h
  have hS : va_S A s.heap s.heap [] := va_S.rf
  have hP : va_P (dC, dI) vwCl [(h0, .inr (6, [.null, .null, .null, .null, .int 0, .int 0, .int 0, .null, .int 0, .int 0, .int 0]))] s.heap := hP
  have hl := lv_entry ([.ref h0, .ref q9, .ref q0, .ref q10]) (n := 4) (Nat.le_of_ble_eq_true rfl)
  rw [lg_entry_eq]
  generalize (lg_sl ([.ref h0, .ref q9, .ref q0, .ref q10]) ++ List.replicate (4 - (lg_sl ([.ref h0, .ref q9, .ref q0, .ref q10])).length) Slot.unset).toArray = ls at hl ⊢
  have hl : lv_has ls 4 [(0, .ref h0), (1, .ref q9), (2, .ref q0), (3, .ref q10)] := hl
  refine lv_aload_n hx hb dX7_init_0 rfl (lv_at hl 0 rfl) ?_
  refine lv_aload_n hx hb dX7_init_1 rfl (lv_at hl 1 rfl) ?_
  refine lv_aload_n hx hb dX7_init_2 rfl (lv_at hl 2 rfl) ?_
  refine lv_aload_n hx hb dX7_init_3 rfl (lv_at hl 3 rfl) ?_
  have hPc := hP.sub (ws' := [(h0, .inr (6, [.null, .null, .null, .null, .int 0, .int 0, .int 0, .null, .int 0, .int 0, .int 0]))]) [0] rfl
  have hDc := hD.sub (ws' := [(h0, .inr (6, [.null, .null, .null, .null, .int 0, .int 0, .int 0, .null, .int 0, .int 0, .int 0]))]) [0] (by decide) rfl
  have hKc := hK.sub (tys' := []) [] rfl
  have hFc := va_free (wc := [(h0, .inr (6, [.null, .null, .null, .null, .int 0, .int 0, .int 0, .null, .int 0, .int 0, .int 0]))]) hD hS hA [0] rfl
  refine va_callv (va_runI (As := [.ref q9, .ref q0, .ref q10]) (rest := []) ⟨hx, hb, hml, hown, hts⟩ (c_X1_init l dC dI _ h0 q9 q0 q10) (cwI 3 hts hX7_init_X1_init_i3 rfl rfl rfl (hts (.initialized RX1) k_X7_init_initialized_RX1) (hts (.methodLink RX7 3 yX1_init) k_X7_init_methodLink_RX7_3_yX1_init) (hts (.instanceMethod yX1_init) k_X7_init_instanceMethod_yX1_init) rfl (by decide +kernel) ⟨Nat.le_of_ble_eq_true rfl, Nat.le_of_ble_eq_true rfl⟩) ⟨zPre.blind, zPre.go hZ hPc hKc hDc⟩ rfl rfl hl.1 rfl (lv_room (Nat.le_of_ble_eq_true rfl)) dX7_init_4 ⟨Nat.le_of_ble_eq_true rfl, Nat.le_of_ble_eq_true rfl⟩) hS (fun q _ h => hFc q h) hFc (fun u9 t9 H1 locs ht hvm hw hB hz1 hk1 hS => ?_)
  obtain ⟨q4_2, qn_3, kn_4, qc_5, kc_6, qf_7, kf_8, hP1, hK1, hD1⟩ := hB
  rw [ht] at hP1
  have hK1 := va_K.moved hvm.symm hK1
  obtain ⟨hP, hD⟩ := va_join (wr := []) (w1 := [(h0, .inr (6, [.ref q9, .ref q0, .ref q10, .ref q4_2, .int 0, .int 0, .int 0, .null, .int 0, .int 0, .int 0])), (q4_2, .inr (3, [.ref qn_3, .ref qc_5, .ref qf_7, .int 0])), (qn_3, .inl (kn_4, 128, .inr (.inl (fun _ => 0)))), (qc_5, .inl (kc_6, 128, .inl (fun _ => 0))), (qf_7, .inl (kf_8, 128, .inl (fun _ => 0)))]) hP hD [0] [] rfl rfl (by decide) (by decide) hk1 hFc hP1 hD1
  have hK := hK.app hK1
  generalize H1 = H at hP hS ⊢
  have hP : va_P (dC, dI) vwCl [(h0, .inr (6, [.ref q9, .ref q0, .ref q10, .ref q4_2, .int 0, .int 0, .int 0, .null, .int 0, .int 0, .int 0])), (q4_2, .inr (3, [.ref qn_3, .ref qc_5, .ref qf_7, .int 0])), (qn_3, .inl (kn_4, 128, .inr (.inl (fun _ => 0)))), (qc_5, .inl (kc_6, 128, .inl (fun _ => 0))), (qf_7, .inl (kf_8, 128, .inl (fun _ => 0)))] H := hP
  have hD : va_D A [(h0, .inr (6, [.ref q9, .ref q0, .ref q10, .ref q4_2, .int 0, .int 0, .int 0, .null, .int 0, .int 0, .int 0])), (q4_2, .inr (3, [.ref qn_3, .ref qc_5, .ref qf_7, .int 0])), (qn_3, .inl (kn_4, 128, .inr (.inl (fun _ => 0)))), (qc_5, .inl (kc_6, 128, .inl (fun _ => 0))), (qf_7, .inl (kf_8, 128, .inl (fun _ => 0)))] := hD
  have hK : va_K (dC, dI) vwCl [(kn_4, .long), (kc_6, .int), (kf_8, .int)] s := hK
  refine W.widen (k := 4) (n := 388) (by omega) (by omega) ?_
  refine lv_aload_n hx hb dX7_init_7 rfl (lv_at hl 0 rfl) ?_
  refine va_new (ci := 5) (fs := [.null, .null, .int 0, .int 0, .int 0, .int 0]) (C := RX6) (T := TX6) (N := 6) hx hb hts i_X7_init_X6 tyX6 tyX6_ok hown (hts (.classLink RX7 9 RX6) k_X7_init_classLink_RX7_9_RX6) (hts (.instantiable RX6 6) k_X7_init_instantiable_RX6_6) (hts (.initialized RX6) k_X7_init_initialized_RX6) hK hP hD hS hA rfl df_X6 (Nat.le_of_ble_eq_true rfl) (Nat.le_of_ble_eq_true rfl) dX7_init_8 (fun q11 H hP hD hS => ?_)
  refine W.widen (k := 5) (n := 394) (by omega) (by omega) ?_
  have hP : va_P (dC, dI) vwCl [(h0, .inr (6, [.ref q9, .ref q0, .ref q10, .ref q4_2, .int 0, .int 0, .int 0, .null, .int 0, .int 0, .int 0])), (q4_2, .inr (3, [.ref qn_3, .ref qc_5, .ref qf_7, .int 0])), (qn_3, .inl (kn_4, 128, .inr (.inl (fun _ => 0)))), (qc_5, .inl (kc_6, 128, .inl (fun _ => 0))), (qf_7, .inl (kf_8, 128, .inl (fun _ => 0))), (q11, .inr (5, [.null, .null, .int 0, .int 0, .int 0, .int 0]))] H := hP
  have hD : va_D A [(h0, .inr (6, [.ref q9, .ref q0, .ref q10, .ref q4_2, .int 0, .int 0, .int 0, .null, .int 0, .int 0, .int 0])), (q4_2, .inr (3, [.ref qn_3, .ref qc_5, .ref qf_7, .int 0])), (qn_3, .inl (kn_4, 128, .inr (.inl (fun _ => 0)))), (qc_5, .inl (kc_6, 128, .inl (fun _ => 0))), (qf_7, .inl (kf_8, 128, .inl (fun _ => 0))), (q11, .inr (5, [.null, .null, .int 0, .int 0, .int 0, .int 0]))] := hD
  refine lv_dup hx hb dX7_init_11 rfl ?_
  have hPc := hP.sub (ws' := [(q11, .inr (5, [.null, .null, .int 0, .int 0, .int 0, .int 0]))]) [5] rfl
  have hDc := hD.sub (ws' := [(q11, .inr (5, [.null, .null, .int 0, .int 0, .int 0, .int 0]))]) [5] (by decide) rfl
  have hKc := hK.sub (tys' := []) [] rfl
  have hFc := va_free (wc := [(q11, .inr (5, [.null, .null, .int 0, .int 0, .int 0, .int 0]))]) hD hS hA [5] rfl
  refine va_callv (va_runIN (As := []) (rest := [.ref q11, .ref h0]) ⟨hx, hb, hml, hown, hts⟩ (c_X6_init l dC dI _ q11) ⟨va_cnB 0 hts hX7_init_X6_init_n11 rfl rfl rfl (hZ.1 (.methodLinkNest RX7 11 yX6_init "StatementRules2") (by decide +kernel)) (hts (.initialized RX6) k_X7_init_initialized_RX6) (by decide +kernel) ⟨Nat.le_of_ble_eq_true rfl, Nat.le_of_ble_eq_true rfl⟩, rfl, (hts (.instanceMethod yX6_init) k_X7_init_instanceMethod_yX6_init)⟩ ⟨zPre.blind, zPre.go hZ hPc hKc hDc⟩ rfl rfl hl.1 rfl (lv_room (Nat.le_of_ble_eq_true rfl)) dX7_init_12 ⟨Nat.le_of_ble_eq_true rfl, Nat.le_of_ble_eq_true rfl⟩) hS (fun q _ h => hFc q h) hFc (fun u9 t9 H1 locs ht hvm hw hB hz1 hk1 hS => ?_)
  obtain ⟨qr_13, qj_14, kr_15, hP1, hK1, hD1⟩ := hB
  rw [ht] at hP1
  have hK1 := va_K.moved hvm.symm hK1
  obtain ⟨hP, hD⟩ := va_join (wr := [(h0, .inr (6, [.ref q9, .ref q0, .ref q10, .ref q4_2, .int 0, .int 0, .int 0, .null, .int 0, .int 0, .int 0])), (q4_2, .inr (3, [.ref qn_3, .ref qc_5, .ref qf_7, .int 0])), (qn_3, .inl (kn_4, 128, .inr (.inl (fun _ => 0)))), (qc_5, .inl (kc_6, 128, .inl (fun _ => 0))), (qf_7, .inl (kf_8, 128, .inl (fun _ => 0)))]) (w1 := [(q11, .inr (5, [.ref qr_13, .ref qj_14, .int 0, .int 0, .int 0, .int 0])), (qr_13, .inl (kr_15, 400, .inr (.inr (.inr (.inr (fun _ => none))))))]) hP hD [5] [0, 1, 2, 3, 4] rfl rfl (by decide) (by decide) hk1 hFc hP1 hD1
  have hK := hK.app hK1
  generalize H1 = H at hP hS ⊢
  have hP : va_P (dC, dI) vwCl [(h0, .inr (6, [.ref q9, .ref q0, .ref q10, .ref q4_2, .int 0, .int 0, .int 0, .null, .int 0, .int 0, .int 0])), (q4_2, .inr (3, [.ref qn_3, .ref qc_5, .ref qf_7, .int 0])), (qn_3, .inl (kn_4, 128, .inr (.inl (fun _ => 0)))), (qc_5, .inl (kc_6, 128, .inl (fun _ => 0))), (qf_7, .inl (kf_8, 128, .inl (fun _ => 0))), (q11, .inr (5, [.ref qr_13, .ref qj_14, .int 0, .int 0, .int 0, .int 0])), (qr_13, .inl (kr_15, 400, .inr (.inr (.inr (.inr (fun _ => none))))))] H := hP
  have hD : va_D A [(h0, .inr (6, [.ref q9, .ref q0, .ref q10, .ref q4_2, .int 0, .int 0, .int 0, .null, .int 0, .int 0, .int 0])), (q4_2, .inr (3, [.ref qn_3, .ref qc_5, .ref qf_7, .int 0])), (qn_3, .inl (kn_4, 128, .inr (.inl (fun _ => 0)))), (qc_5, .inl (kc_6, 128, .inl (fun _ => 0))), (qf_7, .inl (kf_8, 128, .inl (fun _ => 0))), (q11, .inr (5, [.ref qr_13, .ref qj_14, .int 0, .int 0, .int 0, .int 0])), (qr_13, .inl (kr_15, 400, .inr (.inr (.inr (.inr (fun _ => none))))))] := hD
  have hK : va_K (dC, dI) vwCl [(kn_4, .long), (kc_6, .int), (kf_8, .int), (kr_15, .object "StatementRules2$Open")] s := hK
  refine W.widen (k := 7) (n := 954) (by omega) (by omega) ?_
  refine va_putF (D := (dC, dI)) (ci := 6) (v := .ref q11) (ty := (.object "StatementRules2$Opens")) (C := RX7) (T := TX7) (N := 11) hx hb hts i_X7_init_X7 tyX7 tyX7_ok nmX7 hown hK hP hD hS 0 rfl rfl 7 (by decide) (hts (.fieldLink RX7 14 "StatementRules2$Statements" "opens" "LStatementRules2$Opens;") k_X7_init_fieldLink_RX7_14_SR_Statements_opens_LSR_Opens) (fun _ h9 => h9) rfl hin rfl (by decide +kernel) rfl rfl (Nat.le_of_ble_eq_true rfl) dX7_init_15 (fun H locs hP hD hS => ?_)
  have hP : va_P (dC, dI) vwCl [(h0, .inr (6, [.ref q9, .ref q0, .ref q10, .ref q4_2, .int 0, .int 0, .int 0, .ref q11, .int 0, .int 0, .int 0])), (q4_2, .inr (3, [.ref qn_3, .ref qc_5, .ref qf_7, .int 0])), (qn_3, .inl (kn_4, 128, .inr (.inl (fun _ => 0)))), (qc_5, .inl (kc_6, 128, .inl (fun _ => 0))), (qf_7, .inl (kf_8, 128, .inl (fun _ => 0))), (q11, .inr (5, [.ref qr_13, .ref qj_14, .int 0, .int 0, .int 0, .int 0])), (qr_13, .inl (kr_15, 400, .inr (.inr (.inr (.inr (fun _ => none))))))] H := hP
  have hD : va_D A [(h0, .inr (6, [.ref q9, .ref q0, .ref q10, .ref q4_2, .int 0, .int 0, .int 0, .ref q11, .int 0, .int 0, .int 0])), (q4_2, .inr (3, [.ref qn_3, .ref qc_5, .ref qf_7, .int 0])), (qn_3, .inl (kn_4, 128, .inr (.inl (fun _ => 0)))), (qc_5, .inl (kc_6, 128, .inl (fun _ => 0))), (qf_7, .inl (kf_8, 128, .inl (fun _ => 0))), (q11, .inr (5, [.ref qr_13, .ref qj_14, .int 0, .int 0, .int 0, .int 0])), (qr_13, .inl (kr_15, 400, .inr (.inr (.inr (.inr (fun _ => none))))))] := hD
  have hP9 := hP.sub (ws' := [(h0, .inr (6, [.ref q9, .ref q0, .ref q10, .ref q4_2, .int 0, .int 0, .int 0, .ref q11, .int 0, .int 0, .int 0])), (q4_2, .inr (3, [.ref qn_3, .ref qc_5, .ref qf_7, .int 0])), (qn_3, .inl (kn_4, 128, .inr (.inl (fun _ => 0)))), (qc_5, .inl (kc_6, 128, .inl (fun _ => 0))), (qf_7, .inl (kf_8, 128, .inl (fun _ => 0))), (q11, .inr (5, [.ref qr_13, .ref qj_14, .int 0, .int 0, .int 0, .int 0])), (qr_13, .inl (kr_15, 400, .inr (.inr (.inr (.inr (fun _ => none))))))]) [0, 1, 2, 3, 4, 5, 6] rfl
  have hD9 := hD.sub (ws' := [(h0, .inr (6, [.ref q9, .ref q0, .ref q10, .ref q4_2, .int 0, .int 0, .int 0, .ref q11, .int 0, .int 0, .int 0])), (q4_2, .inr (3, [.ref qn_3, .ref qc_5, .ref qf_7, .int 0])), (qn_3, .inl (kn_4, 128, .inr (.inl (fun _ => 0)))), (qc_5, .inl (kc_6, 128, .inl (fun _ => 0))), (qf_7, .inl (kf_8, 128, .inl (fun _ => 0))), (q11, .inr (5, [.ref qr_13, .ref qj_14, .int 0, .int 0, .int 0, .int 0])), (qr_13, .inl (kr_15, 400, .inr (.inr (.inr (.inr (fun _ => none))))))]) [0, 1, 2, 3, 4, 5, 6] (by decide) rfl
  have hK9 := hK.sub (tys' := [(kn_4, .long), (kc_6, .int), (kf_8, .int), (kr_15, .object "StatementRules2$Open")]) [0, 1, 2, 3] rfl
  exact W.vret hx hb hr (fun t ht hW => ⟨⟨(), rfl, trivial, q4_2, qn_3, kn_4, qc_5, kc_6, qf_7, kf_8, q11, qr_13, qj_14, kr_15, by rw [ht]; exact hP9, va_K.moved hW.alike hK9, hD9⟩, hS.F ht⟩) hS.2.2 dX7_init_18
