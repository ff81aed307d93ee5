theorem k_L_rounds_classLink_RL_13_java_lang_ArithmeticException : Cond.classLink RL 13 "java/lang/ArithmeticException" ∈ wzL_rounds := List.mem_cons_of_mem _ (List.mem_append_left _ (List.mem_of_getElem? (i := 0) rfl))
set_option maxHeartbeats 4000000 in
set_option maxRecDepth 100000 in
theorem c_L_rounds_z (l : Launch) (dC : Nat → ClassId) (dI : Nat → Nat → Nat) (sz : Nat) (h0 : Nat) (n : Int32) (qo : Nat) (ko : ClassId) (fo : Nat → Int64) (x_tape : Value) (x_told : Value) (x_code : Value) (x_reader : Value) (x_machine : Value) (x_length : Value) (x_latestFault : Value) (x_hasProgram : Value) (x_hasRun : Value) (hl9 : l.stackTraces = false) (h1 : ¬ n < 0) : Met l yL_rounds wzL_rounds ({ frames := 8, cells := 1, slots := 6, locals := 480 }) (va_Pc [.ref h0, .int n, .int 0, .ref qo] (zPreT dC dI sz [(h0, .inr (10, [x_tape, x_told, x_code, x_reader, x_machine, x_length, x_latestFault, x_hasProgram, x_hasRun])), (qo, .inl (ko, 1, .inr (.inl fo)))] [(ko, .long)])) (va_Qi (fun (r : Int32) (_ : Unit) => r = 1) (fun (_ : Unit) (t : State) => zPost dC dI (va_A [(h0, .inr (10, [x_tape, x_told, x_code, x_reader, x_machine, x_length, x_latestFault, x_hasProgram, x_hasRun])), (qo, .inl (ko, 1, .inr (.inl fo)))] sz) [(h0, .inr (10, [x_tape, x_told, x_code, x_reader, x_machine, x_length, x_latestFault, x_hasProgram, x_hasRun])), (qo, .inl (ko, 1, .inr (.inl fo)))] [(ko, .long)] t) (va_A [(h0, .inr (10, [x_tape, x_told, x_code, x_reader, x_machine, x_length, x_latestFault, x_hasProgram, x_hasRun])), (qo, .inl (ko, 1, .inr (.inl fo)))] sz)) 1 6 (va_A [(h0, .inr (10, [x_tape, x_told, x_code, x_reader, x_machine, x_length, x_latestFault, x_hasProgram, x_hasRun])), (qo, .inl (ko, 1, .inr (.inl fo)))] sz) := by
  refine va_MetW (hh := [(0, 10, 13, 13)]) (cc := cL_rounds) (maxL := 5) (ret := (some .int)) (by decide) rfl ?_
  intro p e s m args below meth c s₁ B hml hv
  obtain ⟨rfl, ⟨hsz, hZ, hP, hK, hD0⟩, hX⟩ := hv
  have hx := B.exec
  have hb := B.bytes
  have hr := B.returns
  have hts := atoms_spec (ws := wzL_rounds) B.pre
  have hown : s.vm.findClass RL = some m.cls := findClass_of_methodNamed B.named
  have hlocks := B.notSynchronized
  subst hsz
  have hD := hD0.self (sz := s.heap.size)
  generalize hAe : va_A [(h0, .inr (10, [x_tape, x_told, x_code, x_reader, x_machine, x_length, x_latestFault, x_hasProgram, x_hasRun])), (qo, .inl (ko, 1, .inr (.inl fo)))] s.heap.size = A at hD hX ⊢
  have hA : ∀ q : Nat, s.heap.size ≤ q → A q := fun q h => by rw [← hAe]; exact Or.inr h
  have hS : va_S A s.heap s.heap [] := va_S.rf
  have hP : va_P (dC, dI) vwCl [(h0, .inr (10, [x_tape, x_told, x_code, x_reader, x_machine, x_length, x_latestFault, x_hasProgram, x_hasRun])), (qo, .inl (ko, 1, .inr (.inl fo)))] s.heap := hP
  have hl := lv_entry ([.ref h0, .int n, .int 0, .ref qo]) (n := 5) (Nat.le_of_ble_eq_true rfl)
  rw [lg_entry_eq]
  generalize (lg_sl ([.ref h0, .int n, .int 0, .ref qo]) ++ List.replicate (5 - (lg_sl ([.ref h0, .int n, .int 0, .ref qo])).length) Slot.unset).toArray = ls at hl ⊢
  have hl : lv_has ls 5 [(0, .ref h0), (1, .int n), (2, .int 0), (3, .ref qo)] := hl
  refine lv_aload_n hx hb dL_rounds_0 rfl (lv_at hl 3 rfl) ?_
  refine lv_iconst (v := 0) hx hb dL_rounds_1 (by decide) ?_
  refine lv_aload_n hx hb dL_rounds_2 rfl (lv_at hl 0 rfl) ?_
  refine lv_iload_n hx hb dL_rounds_3 rfl (lv_at hl 1 rfl) ?_
  refine lv_iload_n hx hb dL_rounds_4 rfl (lv_at hl 2 rfl) ?_
  have hPc := hP.sub (ws' := [(h0, .inr (10, [x_tape, x_told, x_code, x_reader, x_machine, x_length, x_latestFault, x_hasProgram, x_hasRun]))]) [0] rfl
  have hDc := hD.sub (ws' := [(h0, .inr (10, [x_tape, x_told, x_code, x_reader, x_machine, x_length, x_latestFault, x_hasProgram, x_hasRun]))]) [0] (by decide) rfl
  have hKc := hK.sub (tys' := []) [] rfl
  have hFc := va_free (wc := [(h0, .inr (10, [x_tape, x_told, x_code, x_reader, x_machine, x_length, x_latestFault, x_hasProgram, x_hasRun]))]) hD hS hA [0] rfl
  have hFe := va_free (wc := []) hD hS hA [] rfl
  refine vx_calli (vx_runV (As := [.int n, .int 0]) (rest := [.int 0, .ref qo]) ⟨hx, hb, hml, hown, hts⟩ (c_X11_rounds_z l dC dI _ h0 n _ _ _ _ _ _ _ _ _ hl9 h1) (cwV 2 hts hL_rounds_X11_rounds_v7 rfl rfl rfl (by decide +kernel) ⟨Nat.le_of_ble_eq_true rfl, Nat.le_of_ble_eq_true rfl⟩) ⟨zPreT.blind, va_recv hKc hPc (ci := 10) (q0 := 0) rfl rfl, zPreT.go hX hS hFc hZ hPc hKc hDc⟩ rfl rfl hl.1 rfl (lv_room (Nat.le_of_ble_eq_true rfl)) dL_rounds_5 ⟨Nat.le_of_ble_eq_true rfl, Nat.le_of_ble_eq_true rfl⟩) hS (fun q _ h => hFc q h) hFc (fun q _ h => hFe q (h.elim (fun z => Or.inl z) (fun z => Or.inr z))) (fun E ce q9 u9 t9 H1 locs ht hvm _ hE hz1 hk1 hS hce hcv hcl => ?_) (fun r u9 t9 H1 locs ht hvm hw hB hz1 hk1 hS => hw.elim)
  obtain rfl : E = "java/lang/ArithmeticException" := hE
  have hP1 : va_P (dC, dI) vwCl [] H1 := fun k q h => by simp at h
  have hD1 : va_D (va_A [] s.heap.size) [] := ⟨fun i j p q h => by simp at h, fun k q h => by simp at h⟩
  obtain ⟨hP, hD⟩ := va_join (wr := [(h0, .inr (10, [x_tape, x_told, x_code, x_reader, x_machine, x_length, x_latestFault, x_hasProgram, x_hasRun])), (qo, .inl (ko, 1, .inr (.inl fo)))]) (w1 := []) hP hD [] [0, 1] rfl rfl (by decide) (by decide) hk1 hFe hP1 hD1
  generalize H1 = H at hP hS hce ⊢
  have hP : va_P (dC, dI) vwCl [(h0, .inr (10, [x_tape, x_told, x_code, x_reader, x_machine, x_length, x_latestFault, x_hasProgram, x_hasRun])), (qo, .inl (ko, 1, .inr (.inl fo)))] H := hP
  have hD : va_D A [(h0, .inr (10, [x_tape, x_told, x_code, x_reader, x_machine, x_length, x_latestFault, x_hasProgram, x_hasRun])), (qo, .inl (ko, 1, .inr (.inl fo)))] := hD
  have hTab := vx_table (x := yL_rounds) B (hts (.codeWith yL_rounds cL_rounds 5 (some .int) [(0, 10, 13, 13)]) List.mem_cons_self)
  refine vx_widen (k := 1) (n := 6) (by omega) (by omega) ?_
  refine vx_catch (own := RL) (name := "java/lang/ArithmeticException") (E := "java/lang/ArithmeticException") hown [] { startPc := 0, endPc := 10, handlerPc := 13, catchType := 13 } [] hTab (fun z h => nomatch h) (by decide) (by decide) (hts (.classLink RL 13 "java/lang/ArithmeticException") k_L_rounds_classLink_RL_13_java_lang_ArithmeticException) (zT_use (w := .castable "java/lang/ArithmeticException" "java/lang/ArithmeticException") rfl (hX.1 _ (List.mem_cons_self))) hce hcv hcl ?_
  refine W.eq (g2 := F0 m 13 ls [.ref q9]) rfl ?_
  refine lv_astore (lv' := [(4, .ref q9), (0, .ref h0), (1, .int n), (2, .int 0), (3, .ref qo)]) hx hb dL_rounds_13 hl (by decide) rfl (fun ls hl => ?_)
  refine lv_iconst (v := 1) hx hb dL_rounds_15 (by decide) ?_
  have hP9 := hP.sub (ws' := [(h0, .inr (10, [x_tape, x_told, x_code, x_reader, x_machine, x_length, x_latestFault, x_hasProgram, x_hasRun])), (qo, .inl (ko, 1, .inr (.inl fo)))]) [0, 1] rfl
  have hD9 := hD.sub (ws' := [(h0, .inr (10, [x_tape, x_told, x_code, x_reader, x_machine, x_length, x_latestFault, x_hasProgram, x_hasRun])), (qo, .inl (ko, 1, .inr (.inl fo)))]) [0, 1] (by decide) rfl
  have hK9 := hK.sub (tys' := [(ko, .long)]) [0] rfl
  exact W.iret (v := 1) hx hb hr (fun t ht hW => ⟨⟨1, (), rfl, rfl, by rw [ht]; exact hP9, va_K.moved hW.alike hK9, hD9⟩, hS.F ht⟩) hS.2.2 dL_rounds_16
