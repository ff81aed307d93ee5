theorem k_X11_addBytes_fieldLink_RX11_9_SR_tape_I : Cond.fieldLink RX11 9 "StatementRules2" "tape" "[I" ∈ wzX11_addBytes := List.mem_cons_of_mem _ (List.mem_append_left _ (List.mem_of_getElem? (i := 0) rfl))
theorem i_X11_addBytes_X11 : ∀ w ∈ wsX110, w ∈ wzX11_addBytes := fun _ h => List.mem_cons_of_mem _ (List.mem_append_right _ (List.mem_append_left _ (h)))
theorem k_X11_addBytes_fieldLink_RX11_50_SR_length_I : Cond.fieldLink RX11 50 "StatementRules2" "length" "I" ∈ wzX11_addBytes := List.mem_cons_of_mem _ (List.mem_append_left _ (List.mem_of_getElem? (i := 1) rfl))
set_option maxHeartbeats 4000000 in
set_option maxRecDepth 100000 in
theorem c_X11_addBytes_0 (l : Launch) (dC : Nat → ClassId) (dI : Nat → Nat → Nat) (sz : Nat) (h0 : Nat) (v : Int32) (qt : Nat) (kt : ClassId) (f : Nat → Int32) (x_told : Value) (x_code : Value) (x_reader : Value) (x_machine : Value) (x_latestFault : Value) (x_hasProgram : Value) (x_hasRun : Value) : Met l yX11_addBytes wzX11_addBytes ({ frames := 2, cells := 0, slots := 0, locals := 120 }) (va_Pc [.ref h0, .int v] (zPre dC dI sz [(h0, .inr (10, [.ref qt, x_told, x_code, x_reader, x_machine, .int 0, x_latestFault, x_hasProgram, x_hasRun])), (qt, .inl (kt, 900, .inl f))] [(kt, .int)])) (va_Qv (fun (_ : Unit) => True) (fun (_ : Unit) (t : State) => ∃ (g : Nat → Int32), zPost dC dI (va_A [(h0, .inr (10, [.ref qt, x_told, x_code, x_reader, x_machine, .int 0, x_latestFault, x_hasProgram, x_hasRun])), (qt, .inl (kt, 900, .inl f))] sz) [(h0, .inr (10, [.ref qt, x_told, x_code, x_reader, x_machine, .int 4, x_latestFault, x_hasProgram, x_hasRun])), (qt, .inl (kt, 900, .inl g))] [(kt, .int)] t) (va_A [(h0, .inr (10, [.ref qt, x_told, x_code, x_reader, x_machine, .int 0, x_latestFault, x_hasProgram, x_hasRun])), (qt, .inl (kt, 900, .inl f))] sz)) 0 0 (va_A [(h0, .inr (10, [.ref qt, x_told, x_code, x_reader, x_machine, .int 0, x_latestFault, x_hasProgram, x_hasRun])), (qt, .inl (kt, 900, .inl f))] sz) := by
  refine Met.ofW (cc := cX11_addBytes) (maxL := 3) (ret := none) (by decide) rfl ?_
  intro p e s m args below meth c s₁ B hml hv
  obtain ⟨rfl, hsz, hZ, hP, hK, hD0⟩ := hv
  have hx := B.exec
  have hb := B.bytes
  have hr := B.returns
  have hts := atoms_spec (ws := wzX11_addBytes) B.pre
  have hown : s.vm.findClass RX11 = some m.cls := findClass_of_methodNamed B.named
  have hlocks := B.notSynchronized
  subst hsz
  have hD := hD0.self (sz := s.heap.size)
  generalize hAe : va_A [(h0, .inr (10, [.ref qt, x_told, x_code, x_reader, x_machine, .int 0, x_latestFault, x_hasProgram, x_hasRun])), (qt, .inl (kt, 900, .inl f))] s.heap.size = A at hD ⊢
  have hA : ∀ q : Nat, s.heap.size ≤ q → A q := fun q h => by rw [← hAe]; exact Or.inr h
  have hS : va_S A s.heap s.heap [] := va_S.rf
  have hP : va_P (dC, dI) vwCl [(h0, .inr (10, [.ref qt, x_told, x_code, x_reader, x_machine, .int 0, x_latestFault, x_hasProgram, x_hasRun])), (qt, .inl (kt, 900, .inl f))] s.heap := hP
  have hl := lv_entry ([.ref h0, .int v]) (n := 3) (Nat.le_of_ble_eq_true rfl)
  rw [lg_entry_eq]
  generalize (lg_sl ([.ref h0, .int v]) ++ List.replicate (3 - (lg_sl ([.ref h0, .int v])).length) Slot.unset).toArray = ls at hl ⊢
  have hl : lv_has ls 3 [(0, .ref h0), (1, .int v)] := hl
  refine lv_bipush (v := 24) hx hb dX11_addBytes_0 (by decide) ?_
  refine lv_istore_n (lv' := [(2, .int 24), (0, .ref h0), (1, .int v)]) hx hb dX11_addBytes_2 rfl hl (by decide) rfl (fun ls hl => ?_)
  refine lv_iload_n hx hb dX11_addBytes_3 rfl (lv_at hl 0 rfl) ?_
  refine lv_if_lt (tgt := 41) hx hb dX11_addBytes_4 (by decide) (fun c9 => absurd c9 (by decide)) (fun _ => ?_)
  refine lv_aload_n hx hb dX11_addBytes_7 rfl (lv_at hl 1 rfl) ?_
  refine va_get (D := (dC, dI)) (ci := 10) (v := .ref qt) (C := RX11) (T := TX11) (N := 9) hx hb hts i_X11_addBytes_X11 hown hK hP 0 rfl rfl 0 (by decide) (hts (.fieldLink RX11 9 "StatementRules2" "tape" "[I") k_X11_addBytes_fieldLink_RX11_9_SR_tape_I) (fun _ h9 => h9) rfl dX11_addBytes_8 ?_
  refine lv_aload_n hx hb dX11_addBytes_11 rfl (lv_at hl 1 rfl) ?_
  refine va_get (D := (dC, dI)) (ci := 10) (v := .int 0) (C := RX11) (T := TX11) (N := 9) hx hb hts i_X11_addBytes_X11 hown hK hP 0 rfl rfl 5 (by decide) (hts (.fieldLink RX11 50 "StatementRules2" "length" "I") k_X11_addBytes_fieldLink_RX11_50_SR_length_I) (fun _ h9 => h9) rfl dX11_addBytes_12 ?_
  refine lv_iload_n hx hb dX11_addBytes_15 rfl (lv_at hl 2 rfl) ?_
  refine lv_iload_n hx hb dX11_addBytes_16 rfl (lv_at hl 0 rfl) ?_
  obtain ⟨z1, ez1⟩ : ∃ y : Int32, y = ((v : Int32).toUInt32 >>> ((24 : Int32).toUInt32 &&& Int32.toUInt32 31)).toInt32 := ⟨_, rfl⟩
  refine lv_iushr (v := z1) hx hb dX11_addBytes_17 ez1.symm ?_
  refine lv_sipush (v := 255) hx hb dX11_addBytes_18 (by decide) ?_
  refine lv_iand hx hb dX11_addBytes_21 ?_
  refine lv_topi (fun z2 ez2 => ?_)
  have hPc := hP.sub (ws' := [(qt, .inl (kt, 900, .inl f))]) [1] rfl
  have hDc := hD.sub (ws' := [(qt, .inl (kt, 900, .inl f))]) [1] (by decide) rfl
  have hKc := hK.sub (tys' := [(kt, .int)]) [0] rfl
  have hFc := va_free (wc := [(qt, .inl (kt, 900, .inl f))]) hD hS hA [1] rfl
  refine va_callv (va_runS (As := [.ref qt, .int 0, .int z2]) (rest := []) ⟨hx, hb, hml, hown, hts⟩ (c_X11_put l dC dI _ qt kt 900 f 0 z2 (by first | decide | (unfold vp_in; decide)) (by first | decide | (unfold vp_in; decide)) (by first | decide | (unfold vp_in; decide))) (va_cwS 3 hts hX11_addBytes_X11_put_s58 rfl rfl rfl (by decide +kernel) ⟨Nat.le_of_ble_eq_true rfl, Nat.le_of_ble_eq_true rfl⟩) ⟨zPre.blind, zPre.go hZ hPc hKc hDc⟩ rfl rfl hl.1 rfl (lv_room (Nat.le_of_ble_eq_true rfl)) dX11_addBytes_22 ⟨Nat.le_of_ble_eq_true rfl, Nat.le_of_ble_eq_true rfl⟩) hS (fun q _ h => hFc q h) hFc (fun u9 t9 H1 locs ht hvm hw hB hz1 hk1 hS => ?_)
  obtain ⟨g_4, hP1, hK1, hD1⟩ := hB
  rw [ht] at hP1
  have hK1 := va_K.moved hvm.symm hK1
  obtain ⟨hP, hD⟩ := va_join (wr := [(h0, .inr (10, [.ref qt, x_told, x_code, x_reader, x_machine, .int 0, x_latestFault, x_hasProgram, x_hasRun]))]) (w1 := [(qt, .inl (kt, 900, .inl g_4))]) hP hD [1] [0] rfl rfl (by decide) (by decide) hk1 hFc hP1 hD1
  have hK := hK.app hK1
  generalize H1 = H at hP hS ⊢
  have hP : va_P (dC, dI) vwCl [(h0, .inr (10, [.ref qt, x_told, x_code, x_reader, x_machine, .int 0, x_latestFault, x_hasProgram, x_hasRun])), (qt, .inl (kt, 900, .inl g_4))] H := hP
  have hD : va_D A [(h0, .inr (10, [.ref qt, x_told, x_code, x_reader, x_machine, .int 0, x_latestFault, x_hasProgram, x_hasRun])), (qt, .inl (kt, 900, .inl g_4))] := hD
  have hK : va_K (dC, dI) vwCl [(kt, .int), (kt, .int)] s := hK
  have hK : va_K (dC, dI) vwCl [(kt, .int)] s := hK.sub [0] rfl
  refine lv_aload_n hx hb dX11_addBytes_25 rfl (lv_at hl 1 rfl) ?_
  refine lv_dup hx hb dX11_addBytes_26 rfl ?_
  refine va_get (D := (dC, dI)) (ci := 10) (v := .int 0) (C := RX11) (T := TX11) (N := 9) hx hb hts i_X11_addBytes_X11 hown hK hP 0 rfl rfl 5 (by decide) (hts (.fieldLink RX11 50 "StatementRules2" "length" "I") k_X11_addBytes_fieldLink_RX11_50_SR_length_I) (fun _ h9 => h9) rfl dX11_addBytes_27 ?_
  refine lv_iconst (v := 1) hx hb dX11_addBytes_30 (by decide) ?_
  refine lv_iadd hx hb dX11_addBytes_31 ?_
  refine lv_topi (fun z5 ez5 => ?_)
  obtain rfl : z5 = 1 := ez5.trans (by decide)
  refine va_put (D := (dC, dI)) (ci := 10) (v := .int 1) (ty := .int) (C := RX11) (T := TX11) (N := 9) hx hb hts i_X11_addBytes_X11 tyX11 tyX11_ok nmX11 hown hK hP hD hS 0 rfl rfl 5 (by decide) (hts (.fieldLink RX11 50 "StatementRules2" "length" "I") k_X11_addBytes_fieldLink_RX11_50_SR_length_I) (fun _ h9 => h9) rfl (by decide +kernel) rfl rfl (Nat.le_of_ble_eq_true rfl) dX11_addBytes_32 (fun H locs hP hD hS => ?_)
  have hP : va_P (dC, dI) vwCl [(h0, .inr (10, [.ref qt, x_told, x_code, x_reader, x_machine, .int 1, x_latestFault, x_hasProgram, x_hasRun])), (qt, .inl (kt, 900, .inl g_4))] H := hP
  have hD : va_D A [(h0, .inr (10, [.ref qt, x_told, x_code, x_reader, x_machine, .int 1, x_latestFault, x_hasProgram, x_hasRun])), (qt, .inl (kt, 900, .inl g_4))] := hD
  refine lv_iinc (v := 16) (lv' := [(2, .int 16), (0, .ref h0), (1, .int v)]) hx hb dX11_addBytes_35 hl (k := 0) rfl (by decide) (by decide) rfl (fun ls hl => ?_)
  refine lv_goto (tgt := 3) hx hb dX11_addBytes_38 (by decide) ?_
  refine lv_iload_n hx hb dX11_addBytes_3 rfl (lv_at hl 0 rfl) ?_
  refine lv_if_lt (tgt := 41) hx hb dX11_addBytes_4 (by decide) (fun c9 => absurd c9 (by decide)) (fun _ => ?_)
  refine lv_aload_n hx hb dX11_addBytes_7 rfl (lv_at hl 1 rfl) ?_
  refine va_get (D := (dC, dI)) (ci := 10) (v := .ref qt) (C := RX11) (T := TX11) (N := 9) hx hb hts i_X11_addBytes_X11 hown hK hP 0 rfl rfl 0 (by decide) (hts (.fieldLink RX11 9 "StatementRules2" "tape" "[I") k_X11_addBytes_fieldLink_RX11_9_SR_tape_I) (fun _ h9 => h9) rfl dX11_addBytes_8 ?_
  refine lv_aload_n hx hb dX11_addBytes_11 rfl (lv_at hl 1 rfl) ?_
  refine va_get (D := (dC, dI)) (ci := 10) (v := .int 1) (C := RX11) (T := TX11) (N := 9) hx hb hts i_X11_addBytes_X11 hown hK hP 0 rfl rfl 5 (by decide) (hts (.fieldLink RX11 50 "StatementRules2" "length" "I") k_X11_addBytes_fieldLink_RX11_50_SR_length_I) (fun _ h9 => h9) rfl dX11_addBytes_12 ?_
  refine lv_iload_n hx hb dX11_addBytes_15 rfl (lv_at hl 2 rfl) ?_
  refine lv_iload_n hx hb dX11_addBytes_16 rfl (lv_at hl 0 rfl) ?_
  obtain ⟨z6, ez6⟩ : ∃ y : Int32, y = ((v : Int32).toUInt32 >>> ((16 : Int32).toUInt32 &&& Int32.toUInt32 31)).toInt32 := ⟨_, rfl⟩
  refine lv_iushr (v := z6) hx hb dX11_addBytes_17 ez6.symm ?_
  refine lv_sipush (v := 255) hx hb dX11_addBytes_18 (by decide) ?_
  refine lv_iand hx hb dX11_addBytes_21 ?_
  refine lv_topi (fun z7 ez7 => ?_)
  have hPc := hP.sub (ws' := [(qt, .inl (kt, 900, .inl g_4))]) [1] rfl
  have hDc := hD.sub (ws' := [(qt, .inl (kt, 900, .inl g_4))]) [1] (by decide) rfl
  have hKc := hK.sub (tys' := [(kt, .int)]) [0] rfl
  have hFc := va_free (wc := [(qt, .inl (kt, 900, .inl g_4))]) hD hS hA [1] rfl
  refine va_callv (va_runS (As := [.ref qt, .int 1, .int z7]) (rest := []) ⟨hx, hb, hml, hown, hts⟩ (c_X11_put l dC dI _ qt kt 900 g_4 1 z7 (by first | decide | (unfold vp_in; decide)) (by first | decide | (unfold vp_in; decide)) (by first | decide | (unfold vp_in; decide))) (va_cwS 3 hts hX11_addBytes_X11_put_s58 rfl rfl rfl (by decide +kernel) ⟨Nat.le_of_ble_eq_true rfl, Nat.le_of_ble_eq_true rfl⟩) ⟨zPre.blind, zPre.go hZ hPc hKc hDc⟩ rfl rfl hl.1 rfl (lv_room (Nat.le_of_ble_eq_true rfl)) dX11_addBytes_22 ⟨Nat.le_of_ble_eq_true rfl, Nat.le_of_ble_eq_true rfl⟩) hS (fun q _ h => hFc q h) hFc (fun u9 t9 H1 locs ht hvm hw hB hz1 hk1 hS => ?_)
  obtain ⟨g_9, hP1, hK1, hD1⟩ := hB
  rw [ht] at hP1
  have hK1 := va_K.moved hvm.symm hK1
  obtain ⟨hP, hD⟩ := va_join (wr := [(h0, .inr (10, [.ref qt, x_told, x_code, x_reader, x_machine, .int 1, x_latestFault, x_hasProgram, x_hasRun]))]) (w1 := [(qt, .inl (kt, 900, .inl g_9))]) hP hD [1] [0] rfl rfl (by decide) (by decide) hk1 hFc hP1 hD1
  have hK := hK.app hK1
  generalize H1 = H at hP hS ⊢
  have hP : va_P (dC, dI) vwCl [(h0, .inr (10, [.ref qt, x_told, x_code, x_reader, x_machine, .int 1, x_latestFault, x_hasProgram, x_hasRun])), (qt, .inl (kt, 900, .inl g_9))] H := hP
  have hD : va_D A [(h0, .inr (10, [.ref qt, x_told, x_code, x_reader, x_machine, .int 1, x_latestFault, x_hasProgram, x_hasRun])), (qt, .inl (kt, 900, .inl g_9))] := hD
  have hK : va_K (dC, dI) vwCl [(kt, .int), (kt, .int)] s := hK
  have hK : va_K (dC, dI) vwCl [(kt, .int)] s := hK.sub [0] rfl
  refine lv_aload_n hx hb dX11_addBytes_25 rfl (lv_at hl 1 rfl) ?_
  refine lv_dup hx hb dX11_addBytes_26 rfl ?_
  refine va_get (D := (dC, dI)) (ci := 10) (v := .int 1) (C := RX11) (T := TX11) (N := 9) hx hb hts i_X11_addBytes_X11 hown hK hP 0 rfl rfl 5 (by decide) (hts (.fieldLink RX11 50 "StatementRules2" "length" "I") k_X11_addBytes_fieldLink_RX11_50_SR_length_I) (fun _ h9 => h9) rfl dX11_addBytes_27 ?_
  refine lv_iconst (v := 1) hx hb dX11_addBytes_30 (by decide) ?_
  refine lv_iadd hx hb dX11_addBytes_31 ?_
  refine lv_topi (fun z10 ez10 => ?_)
  obtain rfl : z10 = 2 := ez10.trans (by decide)
  refine va_put (D := (dC, dI)) (ci := 10) (v := .int 2) (ty := .int) (C := RX11) (T := TX11) (N := 9) hx hb hts i_X11_addBytes_X11 tyX11 tyX11_ok nmX11 hown hK hP hD hS 0 rfl rfl 5 (by decide) (hts (.fieldLink RX11 50 "StatementRules2" "length" "I") k_X11_addBytes_fieldLink_RX11_50_SR_length_I) (fun _ h9 => h9) rfl (by decide +kernel) rfl rfl (Nat.le_of_ble_eq_true rfl) dX11_addBytes_32 (fun H locs hP hD hS => ?_)
  have hP : va_P (dC, dI) vwCl [(h0, .inr (10, [.ref qt, x_told, x_code, x_reader, x_machine, .int 2, x_latestFault, x_hasProgram, x_hasRun])), (qt, .inl (kt, 900, .inl g_9))] H := hP
  have hD : va_D A [(h0, .inr (10, [.ref qt, x_told, x_code, x_reader, x_machine, .int 2, x_latestFault, x_hasProgram, x_hasRun])), (qt, .inl (kt, 900, .inl g_9))] := hD
  refine lv_iinc (v := 8) (lv' := [(2, .int 8), (0, .ref h0), (1, .int v)]) hx hb dX11_addBytes_35 hl (k := 0) rfl (by decide) (by decide) rfl (fun ls hl => ?_)
  refine lv_goto (tgt := 3) hx hb dX11_addBytes_38 (by decide) ?_
  refine lv_iload_n hx hb dX11_addBytes_3 rfl (lv_at hl 0 rfl) ?_
  refine lv_if_lt (tgt := 41) hx hb dX11_addBytes_4 (by decide) (fun c9 => absurd c9 (by decide)) (fun _ => ?_)
  refine lv_aload_n hx hb dX11_addBytes_7 rfl (lv_at hl 1 rfl) ?_
  refine va_get (D := (dC, dI)) (ci := 10) (v := .ref qt) (C := RX11) (T := TX11) (N := 9) hx hb hts i_X11_addBytes_X11 hown hK hP 0 rfl rfl 0 (by decide) (hts (.fieldLink RX11 9 "StatementRules2" "tape" "[I") k_X11_addBytes_fieldLink_RX11_9_SR_tape_I) (fun _ h9 => h9) rfl dX11_addBytes_8 ?_
  refine lv_aload_n hx hb dX11_addBytes_11 rfl (lv_at hl 1 rfl) ?_
  refine va_get (D := (dC, dI)) (ci := 10) (v := .int 2) (C := RX11) (T := TX11) (N := 9) hx hb hts i_X11_addBytes_X11 hown hK hP 0 rfl rfl 5 (by decide) (hts (.fieldLink RX11 50 "StatementRules2" "length" "I") k_X11_addBytes_fieldLink_RX11_50_SR_length_I) (fun _ h9 => h9) rfl dX11_addBytes_12 ?_
  refine lv_iload_n hx hb dX11_addBytes_15 rfl (lv_at hl 2 rfl) ?_
  refine lv_iload_n hx hb dX11_addBytes_16 rfl (lv_at hl 0 rfl) ?_
  obtain ⟨z11, ez11⟩ : ∃ y : Int32, y = ((v : Int32).toUInt32 >>> ((8 : Int32).toUInt32 &&& Int32.toUInt32 31)).toInt32 := ⟨_, rfl⟩
  refine lv_iushr (v := z11) hx hb dX11_addBytes_17 ez11.symm ?_
  refine lv_sipush (v := 255) hx hb dX11_addBytes_18 (by decide) ?_
  refine lv_iand hx hb dX11_addBytes_21 ?_
  refine lv_topi (fun z12 ez12 => ?_)
  have hPc := hP.sub (ws' := [(qt, .inl (kt, 900, .inl g_9))]) [1] rfl
  have hDc := hD.sub (ws' := [(qt, .inl (kt, 900, .inl g_9))]) [1] (by decide) rfl
  have hKc := hK.sub (tys' := [(kt, .int)]) [0] rfl
  have hFc := va_free (wc := [(qt, .inl (kt, 900, .inl g_9))]) hD hS hA [1] rfl
  refine va_callv (va_runS (As := [.ref qt, .int 2, .int z12]) (rest := []) ⟨hx, hb, hml, hown, hts⟩ (c_X11_put l dC dI _ qt kt 900 g_9 2 z12 (by first | decide | (unfold vp_in; decide)) (by first | decide | (unfold vp_in; decide)) (by first | decide | (unfold vp_in; decide))) (va_cwS 3 hts hX11_addBytes_X11_put_s58 rfl rfl rfl (by decide +kernel) ⟨Nat.le_of_ble_eq_true rfl, Nat.le_of_ble_eq_true rfl⟩) ⟨zPre.blind, zPre.go hZ hPc hKc hDc⟩ rfl rfl hl.1 rfl (lv_room (Nat.le_of_ble_eq_true rfl)) dX11_addBytes_22 ⟨Nat.le_of_ble_eq_true rfl, Nat.le_of_ble_eq_true rfl⟩) hS (fun q _ h => hFc q h) hFc (fun u9 t9 H1 locs ht hvm hw hB hz1 hk1 hS => ?_)
  obtain ⟨g_14, hP1, hK1, hD1⟩ := hB
  rw [ht] at hP1
  have hK1 := va_K.moved hvm.symm hK1
  obtain ⟨hP, hD⟩ := va_join (wr := [(h0, .inr (10, [.ref qt, x_told, x_code, x_reader, x_machine, .int 2, x_latestFault, x_hasProgram, x_hasRun]))]) (w1 := [(qt, .inl (kt, 900, .inl g_14))]) hP hD [1] [0] rfl rfl (by decide) (by decide) hk1 hFc hP1 hD1
  have hK := hK.app hK1
  generalize H1 = H at hP hS ⊢
  have hP : va_P (dC, dI) vwCl [(h0, .inr (10, [.ref qt, x_told, x_code, x_reader, x_machine, .int 2, x_latestFault, x_hasProgram, x_hasRun])), (qt, .inl (kt, 900, .inl g_14))] H := hP
  have hD : va_D A [(h0, .inr (10, [.ref qt, x_told, x_code, x_reader, x_machine, .int 2, x_latestFault, x_hasProgram, x_hasRun])), (qt, .inl (kt, 900, .inl g_14))] := hD
  have hK : va_K (dC, dI) vwCl [(kt, .int), (kt, .int)] s := hK
  have hK : va_K (dC, dI) vwCl [(kt, .int)] s := hK.sub [0] rfl
  refine lv_aload_n hx hb dX11_addBytes_25 rfl (lv_at hl 1 rfl) ?_
  refine lv_dup hx hb dX11_addBytes_26 rfl ?_
  refine va_get (D := (dC, dI)) (ci := 10) (v := .int 2) (C := RX11) (T := TX11) (N := 9) hx hb hts i_X11_addBytes_X11 hown hK hP 0 rfl rfl 5 (by decide) (hts (.fieldLink RX11 50 "StatementRules2" "length" "I") k_X11_addBytes_fieldLink_RX11_50_SR_length_I) (fun _ h9 => h9) rfl dX11_addBytes_27 ?_
  refine lv_iconst (v := 1) hx hb dX11_addBytes_30 (by decide) ?_
  refine lv_iadd hx hb dX11_addBytes_31 ?_
  refine lv_topi (fun z15 ez15 => ?_)
  obtain rfl : z15 = 3 := ez15.trans (by decide)
  refine va_put (D := (dC, dI)) (ci := 10) (v := .int 3) (ty := .int) (C := RX11) (T := TX11) (N := 9) hx hb hts i_X11_addBytes_X11 tyX11 tyX11_ok nmX11 hown hK hP hD hS 0 rfl rfl 5 (by decide) (hts (.fieldLink RX11 50 "StatementRules2" "length" "I") k_X11_addBytes_fieldLink_RX11_50_SR_length_I) (fun _ h9 => h9) rfl (by decide +kernel) rfl rfl (Nat.le_of_ble_eq_true rfl) dX11_addBytes_32 (fun H locs hP hD hS => ?_)
  have hP : va_P (dC, dI) vwCl [(h0, .inr (10, [.ref qt, x_told, x_code, x_reader, x_machine, .int 3, x_latestFault, x_hasProgram, x_hasRun])), (qt, .inl (kt, 900, .inl g_14))] H := hP
  have hD : va_D A [(h0, .inr (10, [.ref qt, x_told, x_code, x_reader, x_machine, .int 3, x_latestFault, x_hasProgram, x_hasRun])), (qt, .inl (kt, 900, .inl g_14))] := hD
  refine lv_iinc (v := 0) (lv' := [(2, .int 0), (0, .ref h0), (1, .int v)]) hx hb dX11_addBytes_35 hl (k := 0) rfl (by decide) (by decide) rfl (fun ls hl => ?_)
  refine lv_goto (tgt := 3) hx hb dX11_addBytes_38 (by decide) ?_
  refine lv_iload_n hx hb dX11_addBytes_3 rfl (lv_at hl 0 rfl) ?_
  refine lv_if_lt (tgt := 41) hx hb dX11_addBytes_4 (by decide) (fun c9 => absurd c9 (by decide)) (fun _ => ?_)
  refine lv_aload_n hx hb dX11_addBytes_7 rfl (lv_at hl 1 rfl) ?_
  refine va_get (D := (dC, dI)) (ci := 10) (v := .ref qt) (C := RX11) (T := TX11) (N := 9) hx hb hts i_X11_addBytes_X11 hown hK hP 0 rfl rfl 0 (by decide) (hts (.fieldLink RX11 9 "StatementRules2" "tape" "[I") k_X11_addBytes_fieldLink_RX11_9_SR_tape_I) (fun _ h9 => h9) rfl dX11_addBytes_8 ?_
  refine lv_aload_n hx hb dX11_addBytes_11 rfl (lv_at hl 1 rfl) ?_
  refine va_get (D := (dC, dI)) (ci := 10) (v := .int 3) (C := RX11) (T := TX11) (N := 9) hx hb hts i_X11_addBytes_X11 hown hK hP 0 rfl rfl 5 (by decide) (hts (.fieldLink RX11 50 "StatementRules2" "length" "I") k_X11_addBytes_fieldLink_RX11_50_SR_length_I) (fun _ h9 => h9) rfl dX11_addBytes_12 ?_
  refine lv_iload_n hx hb dX11_addBytes_15 rfl (lv_at hl 2 rfl) ?_
  refine lv_iload_n hx hb dX11_addBytes_16 rfl (lv_at hl 0 rfl) ?_
  obtain ⟨z16, ez16⟩ : ∃ y : Int32, y = ((v : Int32).toUInt32 >>> ((0 : Int32).toUInt32 &&& Int32.toUInt32 31)).toInt32 := ⟨_, rfl⟩
  refine lv_iushr (v := z16) hx hb dX11_addBytes_17 ez16.symm ?_
  refine lv_sipush (v := 255) hx hb dX11_addBytes_18 (by decide) ?_
  refine lv_iand hx hb dX11_addBytes_21 ?_
  refine lv_topi (fun z17 ez17 => ?_)
  have hPc := hP.sub (ws' := [(qt, .inl (kt, 900, .inl g_14))]) [1] rfl
  have hDc := hD.sub (ws' := [(qt, .inl (kt, 900, .inl g_14))]) [1] (by decide) rfl
  have hKc := hK.sub (tys' := [(kt, .int)]) [0] rfl
  have hFc := va_free (wc := [(qt, .inl (kt, 900, .inl g_14))]) hD hS hA [1] rfl
  refine va_callv (va_runS (As := [.ref qt, .int 3, .int z17]) (rest := []) ⟨hx, hb, hml, hown, hts⟩ (c_X11_put l dC dI _ qt kt 900 g_14 3 z17 (by first | decide | (unfold vp_in; decide)) (by first | decide | (unfold vp_in; decide)) (by first | decide | (unfold vp_in; decide))) (va_cwS 3 hts hX11_addBytes_X11_put_s58 rfl rfl rfl (by decide +kernel) ⟨Nat.le_of_ble_eq_true rfl, Nat.le_of_ble_eq_true rfl⟩) ⟨zPre.blind, zPre.go hZ hPc hKc hDc⟩ rfl rfl hl.1 rfl (lv_room (Nat.le_of_ble_eq_true rfl)) dX11_addBytes_22 ⟨Nat.le_of_ble_eq_true rfl, Nat.le_of_ble_eq_true rfl⟩) hS (fun q _ h => hFc q h) hFc (fun u9 t9 H1 locs ht hvm hw hB hz1 hk1 hS => ?_)
  obtain ⟨g_19, hP1, hK1, hD1⟩ := hB
  rw [ht] at hP1
  have hK1 := va_K.moved hvm.symm hK1
  obtain ⟨hP, hD⟩ := va_join (wr := [(h0, .inr (10, [.ref qt, x_told, x_code, x_reader, x_machine, .int 3, x_latestFault, x_hasProgram, x_hasRun]))]) (w1 := [(qt, .inl (kt, 900, .inl g_19))]) hP hD [1] [0] rfl rfl (by decide) (by decide) hk1 hFc hP1 hD1
  have hK := hK.app hK1
  generalize H1 = H at hP hS ⊢
  have hP : va_P (dC, dI) vwCl [(h0, .inr (10, [.ref qt, x_told, x_code, x_reader, x_machine, .int 3, x_latestFault, x_hasProgram, x_hasRun])), (qt, .inl (kt, 900, .inl g_19))] H := hP
  have hD : va_D A [(h0, .inr (10, [.ref qt, x_told, x_code, x_reader, x_machine, .int 3, x_latestFault, x_hasProgram, x_hasRun])), (qt, .inl (kt, 900, .inl g_19))] := hD
  have hK : va_K (dC, dI) vwCl [(kt, .int), (kt, .int)] s := hK
  have hK : va_K (dC, dI) vwCl [(kt, .int)] s := hK.sub [0] rfl
  refine lv_aload_n hx hb dX11_addBytes_25 rfl (lv_at hl 1 rfl) ?_
  refine lv_dup hx hb dX11_addBytes_26 rfl ?_
  refine va_get (D := (dC, dI)) (ci := 10) (v := .int 3) (C := RX11) (T := TX11) (N := 9) hx hb hts i_X11_addBytes_X11 hown hK hP 0 rfl rfl 5 (by decide) (hts (.fieldLink RX11 50 "StatementRules2" "length" "I") k_X11_addBytes_fieldLink_RX11_50_SR_length_I) (fun _ h9 => h9) rfl dX11_addBytes_27 ?_
  refine lv_iconst (v := 1) hx hb dX11_addBytes_30 (by decide) ?_
  refine lv_iadd hx hb dX11_addBytes_31 ?_
  refine lv_topi (fun z20 ez20 => ?_)
  obtain rfl : z20 = 4 := ez20.trans (by decide)
  refine va_put (D := (dC, dI)) (ci := 10) (v := .int 4) (ty := .int) (C := RX11) (T := TX11) (N := 9) hx hb hts i_X11_addBytes_X11 tyX11 tyX11_ok nmX11 hown hK hP hD hS 0 rfl rfl 5 (by decide) (hts (.fieldLink RX11 50 "StatementRules2" "length" "I") k_X11_addBytes_fieldLink_RX11_50_SR_length_I) (fun _ h9 => h9) rfl (by decide +kernel) rfl rfl (Nat.le_of_ble_eq_true rfl) dX11_addBytes_32 (fun H locs hP hD hS => ?_)
  have hP : va_P (dC, dI) vwCl [(h0, .inr (10, [.ref qt, x_told, x_code, x_reader, x_machine, .int 4, x_latestFault, x_hasProgram, x_hasRun])), (qt, .inl (kt, 900, .inl g_19))] H := hP
  have hD : va_D A [(h0, .inr (10, [.ref qt, x_told, x_code, x_reader, x_machine, .int 4, x_latestFault, x_hasProgram, x_hasRun])), (qt, .inl (kt, 900, .inl g_19))] := hD
  refine lv_iinc (v := (-8)) (lv' := [(2, .int (-8)), (0, .ref h0), (1, .int v)]) hx hb dX11_addBytes_35 hl (k := 0) rfl (by decide) (by decide) rfl (fun ls hl => ?_)
  refine lv_goto (tgt := 3) hx hb dX11_addBytes_38 (by decide) ?_
  refine lv_iload_n hx hb dX11_addBytes_3 rfl (lv_at hl 0 rfl) ?_
  refine lv_if_lt (tgt := 41) hx hb dX11_addBytes_4 (by decide) (fun _ => ?_) (fun c9 => absurd (by decide) c9)
  have hP9 := hP.sub (ws' := [(h0, .inr (10, [.ref qt, x_told, x_code, x_reader, x_machine, .int 4, x_latestFault, x_hasProgram, x_hasRun])), (qt, .inl (kt, 900, .inl g_19))]) [0, 1] rfl
  have hD9 := hD.sub (ws' := [(h0, .inr (10, [.ref qt, x_told, x_code, x_reader, x_machine, .int 4, x_latestFault, x_hasProgram, x_hasRun])), (qt, .inl (kt, 900, .inl g_19))]) [0, 1] (by decide) rfl
  have hK9 := hK.sub (tys' := [(kt, .int)]) [0] rfl
  exact W.vret hx hb hr (fun t ht hW => ⟨⟨(), rfl, trivial, g_19, by rw [ht]; exact hP9, va_K.moved hW.alike hK9, hD9⟩, hS.F ht⟩) hS.2.2 dX11_addBytes_41
set_option maxHeartbeats 4000000 in
set_option maxRecDepth 100000 in
theorem c_X11_addBytes_4 (l : Launch) (dC : Nat → ClassId) (dI : Nat → Nat → Nat) (sz : Nat) (h0 : Nat) (v : Int32) (qt : Nat) (kt : ClassId) (f : Nat → Int32) (x_told : Value) (x_code : Value) (x_reader : Value) (x_machine : Value) (x_latestFault : Value) (x_hasProgram : Value) (x_hasRun : Value) : Met l yX11_addBytes wzX11_addBytes ({ frames := 2, cells := 0, slots := 0, locals := 120 }) (va_Pc [.ref h0, .int v] (zPre dC dI sz [(h0, .inr (10, [.ref qt, x_told, x_code, x_reader, x_machine, .int 4, x_latestFault, x_hasProgram, x_hasRun])), (qt, .inl (kt, 900, .inl f))] [(kt, .int)])) (va_Qv (fun (_ : Unit) => True) (fun (_ : Unit) (t : State) => ∃ (g : Nat → Int32), zPost dC dI (va_A [(h0, .inr (10, [.ref qt, x_told, x_code, x_reader, x_machine, .int 4, x_latestFault, x_hasProgram, x_hasRun])), (qt, .inl (kt, 900, .inl f))] sz) [(h0, .inr (10, [.ref qt, x_told, x_code, x_reader, x_machine, .int 8, x_latestFault, x_hasProgram, x_hasRun])), (qt, .inl (kt, 900, .inl g))] [(kt, .int)] t) (va_A [(h0, .inr (10, [.ref qt, x_told, x_code, x_reader, x_machine, .int 4, x_latestFault, x_hasProgram, x_hasRun])), (qt, .inl (kt, 900, .inl f))] sz)) 0 0 (va_A [(h0, .inr (10, [.ref qt, x_told, x_code, x_reader, x_machine, .int 4, x_latestFault, x_hasProgram, x_hasRun])), (qt, .inl (kt, 900, .inl f))] sz) := by
  refine Met.ofW (cc := cX11_addBytes) (maxL := 3) (ret := none) (by decide) rfl ?_
  intro p e s m args below meth c s₁ B hml hv
  obtain ⟨rfl, hsz, hZ, hP, hK, hD0⟩ := hv
  have hx := B.exec
  have hb := B.bytes
  have hr := B.returns
  have hts := atoms_spec (ws := wzX11_addBytes) B.pre
  have hown : s.vm.findClass RX11 = some m.cls := findClass_of_methodNamed B.named
  have hlocks := B.notSynchronized
  subst hsz
  have hD := hD0.self (sz := s.heap.size)
  generalize hAe : va_A [(h0, .inr (10, [.ref qt, x_told, x_code, x_reader, x_machine, .int 4, x_latestFault, x_hasProgram, x_hasRun])), (qt, .inl (kt, 900, .inl f))] s.heap.size = A at hD ⊢
  have hA : ∀ q : Nat, s.heap.size ≤ q → A q := fun q h => by rw [← hAe]; exact Or.inr h
  have hS : va_S A s.heap s.heap [] := va_S.rf
  have hP : va_P (dC, dI) vwCl [(h0, .inr (10, [.ref qt, x_told, x_code, x_reader, x_machine, .int 4, x_latestFault, x_hasProgram, x_hasRun])), (qt, .inl (kt, 900, .inl f))] s.heap := hP
  have hl := lv_entry ([.ref h0, .int v]) (n := 3) (Nat.le_of_ble_eq_true rfl)
  rw [lg_entry_eq]
  generalize (lg_sl ([.ref h0, .int v]) ++ List.replicate (3 - (lg_sl ([.ref h0, .int v])).length) Slot.unset).toArray = ls at hl ⊢
  have hl : lv_has ls 3 [(0, .ref h0), (1, .int v)] := hl
  refine lv_bipush (v := 24) hx hb dX11_addBytes_0 (by decide) ?_
  refine lv_istore_n (lv' := [(2, .int 24), (0, .ref h0), (1, .int v)]) hx hb dX11_addBytes_2 rfl hl (by decide) rfl (fun ls hl => ?_)
  refine lv_iload_n hx hb dX11_addBytes_3 rfl (lv_at hl 0 rfl) ?_
  refine lv_if_lt (tgt := 41) hx hb dX11_addBytes_4 (by decide) (fun c9 => absurd c9 (by decide)) (fun _ => ?_)
  refine lv_aload_n hx hb dX11_addBytes_7 rfl (lv_at hl 1 rfl) ?_
  refine va_get (D := (dC, dI)) (ci := 10) (v := .ref qt) (C := RX11) (T := TX11) (N := 9) hx hb hts i_X11_addBytes_X11 hown hK hP 0 rfl rfl 0 (by decide) (hts (.fieldLink RX11 9 "StatementRules2" "tape" "[I") k_X11_addBytes_fieldLink_RX11_9_SR_tape_I) (fun _ h9 => h9) rfl dX11_addBytes_8 ?_
  refine lv_aload_n hx hb dX11_addBytes_11 rfl (lv_at hl 1 rfl) ?_
  refine va_get (D := (dC, dI)) (ci := 10) (v := .int 4) (C := RX11) (T := TX11) (N := 9) hx hb hts i_X11_addBytes_X11 hown hK hP 0 rfl rfl 5 (by decide) (hts (.fieldLink RX11 50 "StatementRules2" "length" "I") k_X11_addBytes_fieldLink_RX11_50_SR_length_I) (fun _ h9 => h9) rfl dX11_addBytes_12 ?_
  refine lv_iload_n hx hb dX11_addBytes_15 rfl (lv_at hl 2 rfl) ?_
  refine lv_iload_n hx hb dX11_addBytes_16 rfl (lv_at hl 0 rfl) ?_
  obtain ⟨z1, ez1⟩ : ∃ y : Int32, y = ((v : Int32).toUInt32 >>> ((24 : Int32).toUInt32 &&& Int32.toUInt32 31)).toInt32 := ⟨_, rfl⟩
  refine lv_iushr (v := z1) hx hb dX11_addBytes_17 ez1.symm ?_
  refine lv_sipush (v := 255) hx hb dX11_addBytes_18 (by decide) ?_
  refine lv_iand hx hb dX11_addBytes_21 ?_
  refine lv_topi (fun z2 ez2 => ?_)
  have hPc := hP.sub (ws' := [(qt, .inl (kt, 900, .inl f))]) [1] rfl
  have hDc := hD.sub (ws' := [(qt, .inl (kt, 900, .inl f))]) [1] (by decide) rfl
  have hKc := hK.sub (tys' := [(kt, .int)]) [0] rfl
  have hFc := va_free (wc := [(qt, .inl (kt, 900, .inl f))]) hD hS hA [1] rfl
  refine va_callv (va_runS (As := [.ref qt, .int 4, .int z2]) (rest := []) ⟨hx, hb, hml, hown, hts⟩ (c_X11_put l dC dI _ qt kt 900 f 4 z2 (by first | decide | (unfold vp_in; decide)) (by first | decide | (unfold vp_in; decide)) (by first | decide | (unfold vp_in; decide))) (va_cwS 3 hts hX11_addBytes_X11_put_s58 rfl rfl rfl (by decide +kernel) ⟨Nat.le_of_ble_eq_true rfl, Nat.le_of_ble_eq_true rfl⟩) ⟨zPre.blind, zPre.go hZ hPc hKc hDc⟩ rfl rfl hl.1 rfl (lv_room (Nat.le_of_ble_eq_true rfl)) dX11_addBytes_22 ⟨Nat.le_of_ble_eq_true rfl, Nat.le_of_ble_eq_true rfl⟩) hS (fun q _ h => hFc q h) hFc (fun u9 t9 H1 locs ht hvm hw hB hz1 hk1 hS => ?_)
  obtain ⟨g_4, hP1, hK1, hD1⟩ := hB
  rw [ht] at hP1
  have hK1 := va_K.moved hvm.symm hK1
  obtain ⟨hP, hD⟩ := va_join (wr := [(h0, .inr (10, [.ref qt, x_told, x_code, x_reader, x_machine, .int 4, x_latestFault, x_hasProgram, x_hasRun]))]) (w1 := [(qt, .inl (kt, 900, .inl g_4))]) hP hD [1] [0] rfl rfl (by decide) (by decide) hk1 hFc hP1 hD1
  have hK := hK.app hK1
  generalize H1 = H at hP hS ⊢
  have hP : va_P (dC, dI) vwCl [(h0, .inr (10, [.ref qt, x_told, x_code, x_reader, x_machine, .int 4, x_latestFault, x_hasProgram, x_hasRun])), (qt, .inl (kt, 900, .inl g_4))] H := hP
  have hD : va_D A [(h0, .inr (10, [.ref qt, x_told, x_code, x_reader, x_machine, .int 4, x_latestFault, x_hasProgram, x_hasRun])), (qt, .inl (kt, 900, .inl g_4))] := hD
  have hK : va_K (dC, dI) vwCl [(kt, .int), (kt, .int)] s := hK
  have hK : va_K (dC, dI) vwCl [(kt, .int)] s := hK.sub [0] rfl
  refine lv_aload_n hx hb dX11_addBytes_25 rfl (lv_at hl 1 rfl) ?_
  refine lv_dup hx hb dX11_addBytes_26 rfl ?_
  refine va_get (D := (dC, dI)) (ci := 10) (v := .int 4) (C := RX11) (T := TX11) (N := 9) hx hb hts i_X11_addBytes_X11 hown hK hP 0 rfl rfl 5 (by decide) (hts (.fieldLink RX11 50 "StatementRules2" "length" "I") k_X11_addBytes_fieldLink_RX11_50_SR_length_I) (fun _ h9 => h9) rfl dX11_addBytes_27 ?_
  refine lv_iconst (v := 1) hx hb dX11_addBytes_30 (by decide) ?_
  refine lv_iadd hx hb dX11_addBytes_31 ?_
  refine lv_topi (fun z5 ez5 => ?_)
  obtain rfl : z5 = 5 := ez5.trans (by decide)
  refine va_put (D := (dC, dI)) (ci := 10) (v := .int 5) (ty := .int) (C := RX11) (T := TX11) (N := 9) hx hb hts i_X11_addBytes_X11 tyX11 tyX11_ok nmX11 hown hK hP hD hS 0 rfl rfl 5 (by decide) (hts (.fieldLink RX11 50 "StatementRules2" "length" "I") k_X11_addBytes_fieldLink_RX11_50_SR_length_I) (fun _ h9 => h9) rfl (by decide +kernel) rfl rfl (Nat.le_of_ble_eq_true rfl) dX11_addBytes_32 (fun H locs hP hD hS => ?_)
  have hP : va_P (dC, dI) vwCl [(h0, .inr (10, [.ref qt, x_told, x_code, x_reader, x_machine, .int 5, x_latestFault, x_hasProgram, x_hasRun])), (qt, .inl (kt, 900, .inl g_4))] H := hP
  have hD : va_D A [(h0, .inr (10, [.ref qt, x_told, x_code, x_reader, x_machine, .int 5, x_latestFault, x_hasProgram, x_hasRun])), (qt, .inl (kt, 900, .inl g_4))] := hD
  refine lv_iinc (v := 16) (lv' := [(2, .int 16), (0, .ref h0), (1, .int v)]) hx hb dX11_addBytes_35 hl (k := 0) rfl (by decide) (by decide) rfl (fun ls hl => ?_)
  refine lv_goto (tgt := 3) hx hb dX11_addBytes_38 (by decide) ?_
  refine lv_iload_n hx hb dX11_addBytes_3 rfl (lv_at hl 0 rfl) ?_
  refine lv_if_lt (tgt := 41) hx hb dX11_addBytes_4 (by decide) (fun c9 => absurd c9 (by decide)) (fun _ => ?_)
  refine lv_aload_n hx hb dX11_addBytes_7 rfl (lv_at hl 1 rfl) ?_
  refine va_get (D := (dC, dI)) (ci := 10) (v := .ref qt) (C := RX11) (T := TX11) (N := 9) hx hb hts i_X11_addBytes_X11 hown hK hP 0 rfl rfl 0 (by decide) (hts (.fieldLink RX11 9 "StatementRules2" "tape" "[I") k_X11_addBytes_fieldLink_RX11_9_SR_tape_I) (fun _ h9 => h9) rfl dX11_addBytes_8 ?_
  refine lv_aload_n hx hb dX11_addBytes_11 rfl (lv_at hl 1 rfl) ?_
  refine va_get (D := (dC, dI)) (ci := 10) (v := .int 5) (C := RX11) (T := TX11) (N := 9) hx hb hts i_X11_addBytes_X11 hown hK hP 0 rfl rfl 5 (by decide) (hts (.fieldLink RX11 50 "StatementRules2" "length" "I") k_X11_addBytes_fieldLink_RX11_50_SR_length_I) (fun _ h9 => h9) rfl dX11_addBytes_12 ?_
  refine lv_iload_n hx hb dX11_addBytes_15 rfl (lv_at hl 2 rfl) ?_
  refine lv_iload_n hx hb dX11_addBytes_16 rfl (lv_at hl 0 rfl) ?_
  obtain ⟨z6, ez6⟩ : ∃ y : Int32, y = ((v : Int32).toUInt32 >>> ((16 : Int32).toUInt32 &&& Int32.toUInt32 31)).toInt32 := ⟨_, rfl⟩
  refine lv_iushr (v := z6) hx hb dX11_addBytes_17 ez6.symm ?_
  refine lv_sipush (v := 255) hx hb dX11_addBytes_18 (by decide) ?_
  refine lv_iand hx hb dX11_addBytes_21 ?_
  refine lv_topi (fun z7 ez7 => ?_)
  have hPc := hP.sub (ws' := [(qt, .inl (kt, 900, .inl g_4))]) [1] rfl
  have hDc := hD.sub (ws' := [(qt, .inl (kt, 900, .inl g_4))]) [1] (by decide) rfl
  have hKc := hK.sub (tys' := [(kt, .int)]) [0] rfl
  have hFc := va_free (wc := [(qt, .inl (kt, 900, .inl g_4))]) hD hS hA [1] rfl
  refine va_callv (va_runS (As := [.ref qt, .int 5, .int z7]) (rest := []) ⟨hx, hb, hml, hown, hts⟩ (c_X11_put l dC dI _ qt kt 900 g_4 5 z7 (by first | decide | (unfold vp_in; decide)) (by first | decide | (unfold vp_in; decide)) (by first | decide | (unfold vp_in; decide))) (va_cwS 3 hts hX11_addBytes_X11_put_s58 rfl rfl rfl (by decide +kernel) ⟨Nat.le_of_ble_eq_true rfl, Nat.le_of_ble_eq_true rfl⟩) ⟨zPre.blind, zPre.go hZ hPc hKc hDc⟩ rfl rfl hl.1 rfl (lv_room (Nat.le_of_ble_eq_true rfl)) dX11_addBytes_22 ⟨Nat.le_of_ble_eq_true rfl, Nat.le_of_ble_eq_true rfl⟩) hS (fun q _ h => hFc q h) hFc (fun u9 t9 H1 locs ht hvm hw hB hz1 hk1 hS => ?_)
  obtain ⟨g_9, hP1, hK1, hD1⟩ := hB
  rw [ht] at hP1
  have hK1 := va_K.moved hvm.symm hK1
  obtain ⟨hP, hD⟩ := va_join (wr := [(h0, .inr (10, [.ref qt, x_told, x_code, x_reader, x_machine, .int 5, x_latestFault, x_hasProgram, x_hasRun]))]) (w1 := [(qt, .inl (kt, 900, .inl g_9))]) hP hD [1] [0] rfl rfl (by decide) (by decide) hk1 hFc hP1 hD1
  have hK := hK.app hK1
  generalize H1 = H at hP hS ⊢
  have hP : va_P (dC, dI) vwCl [(h0, .inr (10, [.ref qt, x_told, x_code, x_reader, x_machine, .int 5, x_latestFault, x_hasProgram, x_hasRun])), (qt, .inl (kt, 900, .inl g_9))] H := hP
  have hD : va_D A [(h0, .inr (10, [.ref qt, x_told, x_code, x_reader, x_machine, .int 5, x_latestFault, x_hasProgram, x_hasRun])), (qt, .inl (kt, 900, .inl g_9))] := hD
  have hK : va_K (dC, dI) vwCl [(kt, .int), (kt, .int)] s := hK
  have hK : va_K (dC, dI) vwCl [(kt, .int)] s := hK.sub [0] rfl
  refine lv_aload_n hx hb dX11_addBytes_25 rfl (lv_at hl 1 rfl) ?_
  refine lv_dup hx hb dX11_addBytes_26 rfl ?_
  refine va_get (D := (dC, dI)) (ci := 10) (v := .int 5) (C := RX11) (T := TX11) (N := 9) hx hb hts i_X11_addBytes_X11 hown hK hP 0 rfl rfl 5 (by decide) (hts (.fieldLink RX11 50 "StatementRules2" "length" "I") k_X11_addBytes_fieldLink_RX11_50_SR_length_I) (fun _ h9 => h9) rfl dX11_addBytes_27 ?_
  refine lv_iconst (v := 1) hx hb dX11_addBytes_30 (by decide) ?_
  refine lv_iadd hx hb dX11_addBytes_31 ?_
  refine lv_topi (fun z10 ez10 => ?_)
  obtain rfl : z10 = 6 := ez10.trans (by decide)
  refine va_put (D := (dC, dI)) (ci := 10) (v := .int 6) (ty := .int) (C := RX11) (T := TX11) (N := 9) hx hb hts i_X11_addBytes_X11 tyX11 tyX11_ok nmX11 hown hK hP hD hS 0 rfl rfl 5 (by decide) (hts (.fieldLink RX11 50 "StatementRules2" "length" "I") k_X11_addBytes_fieldLink_RX11_50_SR_length_I) (fun _ h9 => h9) rfl (by decide +kernel) rfl rfl (Nat.le_of_ble_eq_true rfl) dX11_addBytes_32 (fun H locs hP hD hS => ?_)
  have hP : va_P (dC, dI) vwCl [(h0, .inr (10, [.ref qt, x_told, x_code, x_reader, x_machine, .int 6, x_latestFault, x_hasProgram, x_hasRun])), (qt, .inl (kt, 900, .inl g_9))] H := hP
  have hD : va_D A [(h0, .inr (10, [.ref qt, x_told, x_code, x_reader, x_machine, .int 6, x_latestFault, x_hasProgram, x_hasRun])), (qt, .inl (kt, 900, .inl g_9))] := hD
  refine lv_iinc (v := 8) (lv' := [(2, .int 8), (0, .ref h0), (1, .int v)]) hx hb dX11_addBytes_35 hl (k := 0) rfl (by decide) (by decide) rfl (fun ls hl => ?_)
  refine lv_goto (tgt := 3) hx hb dX11_addBytes_38 (by decide) ?_
  refine lv_iload_n hx hb dX11_addBytes_3 rfl (lv_at hl 0 rfl) ?_
  refine lv_if_lt (tgt := 41) hx hb dX11_addBytes_4 (by decide) (fun c9 => absurd c9 (by decide)) (fun _ => ?_)
  refine lv_aload_n hx hb dX11_addBytes_7 rfl (lv_at hl 1 rfl) ?_
  refine va_get (D := (dC, dI)) (ci := 10) (v := .ref qt) (C := RX11) (T := TX11) (N := 9) hx hb hts i_X11_addBytes_X11 hown hK hP 0 rfl rfl 0 (by decide) (hts (.fieldLink RX11 9 "StatementRules2" "tape" "[I") k_X11_addBytes_fieldLink_RX11_9_SR_tape_I) (fun _ h9 => h9) rfl dX11_addBytes_8 ?_
  refine lv_aload_n hx hb dX11_addBytes_11 rfl (lv_at hl 1 rfl) ?_
  refine va_get (D := (dC, dI)) (ci := 10) (v := .int 6) (C := RX11) (T := TX11) (N := 9) hx hb hts i_X11_addBytes_X11 hown hK hP 0 rfl rfl 5 (by decide) (hts (.fieldLink RX11 50 "StatementRules2" "length" "I") k_X11_addBytes_fieldLink_RX11_50_SR_length_I) (fun _ h9 => h9) rfl dX11_addBytes_12 ?_
  refine lv_iload_n hx hb dX11_addBytes_15 rfl (lv_at hl 2 rfl) ?_
  refine lv_iload_n hx hb dX11_addBytes_16 rfl (lv_at hl 0 rfl) ?_
  obtain ⟨z11, ez11⟩ : ∃ y : Int32, y = ((v : Int32).toUInt32 >>> ((8 : Int32).toUInt32 &&& Int32.toUInt32 31)).toInt32 := ⟨_, rfl⟩
  refine lv_iushr (v := z11) hx hb dX11_addBytes_17 ez11.symm ?_
  refine lv_sipush (v := 255) hx hb dX11_addBytes_18 (by decide) ?_
  refine lv_iand hx hb dX11_addBytes_21 ?_
  refine lv_topi (fun z12 ez12 => ?_)
  have hPc := hP.sub (ws' := [(qt, .inl (kt, 900, .inl g_9))]) [1] rfl
  have hDc := hD.sub (ws' := [(qt, .inl (kt, 900, .inl g_9))]) [1] (by decide) rfl
  have hKc := hK.sub (tys' := [(kt, .int)]) [0] rfl
  have hFc := va_free (wc := [(qt, .inl (kt, 900, .inl g_9))]) hD hS hA [1] rfl
  refine va_callv (va_runS (As := [.ref qt, .int 6, .int z12]) (rest := []) ⟨hx, hb, hml, hown, hts⟩ (c_X11_put l dC dI _ qt kt 900 g_9 6 z12 (by first | decide | (unfold vp_in; decide)) (by first | decide | (unfold vp_in; decide)) (by first | decide | (unfold vp_in; decide))) (va_cwS 3 hts hX11_addBytes_X11_put_s58 rfl rfl rfl (by decide +kernel) ⟨Nat.le_of_ble_eq_true rfl, Nat.le_of_ble_eq_true rfl⟩) ⟨zPre.blind, zPre.go hZ hPc hKc hDc⟩ rfl rfl hl.1 rfl (lv_room (Nat.le_of_ble_eq_true rfl)) dX11_addBytes_22 ⟨Nat.le_of_ble_eq_true rfl, Nat.le_of_ble_eq_true rfl⟩) hS (fun q _ h => hFc q h) hFc (fun u9 t9 H1 locs ht hvm hw hB hz1 hk1 hS => ?_)
  obtain ⟨g_14, hP1, hK1, hD1⟩ := hB
  rw [ht] at hP1
  have hK1 := va_K.moved hvm.symm hK1
  obtain ⟨hP, hD⟩ := va_join (wr := [(h0, .inr (10, [.ref qt, x_told, x_code, x_reader, x_machine, .int 6, x_latestFault, x_hasProgram, x_hasRun]))]) (w1 := [(qt, .inl (kt, 900, .inl g_14))]) hP hD [1] [0] rfl rfl (by decide) (by decide) hk1 hFc hP1 hD1
  have hK := hK.app hK1
  generalize H1 = H at hP hS ⊢
  have hP : va_P (dC, dI) vwCl [(h0, .inr (10, [.ref qt, x_told, x_code, x_reader, x_machine, .int 6, x_latestFault, x_hasProgram, x_hasRun])), (qt, .inl (kt, 900, .inl g_14))] H := hP
  have hD : va_D A [(h0, .inr (10, [.ref qt, x_told, x_code, x_reader, x_machine, .int 6, x_latestFault, x_hasProgram, x_hasRun])), (qt, .inl (kt, 900, .inl g_14))] := hD
  have hK : va_K (dC, dI) vwCl [(kt, .int), (kt, .int)] s := hK
  have hK : va_K (dC, dI) vwCl [(kt, .int)] s := hK.sub [0] rfl
  refine lv_aload_n hx hb dX11_addBytes_25 rfl (lv_at hl 1 rfl) ?_
  refine lv_dup hx hb dX11_addBytes_26 rfl ?_
  refine va_get (D := (dC, dI)) (ci := 10) (v := .int 6) (C := RX11) (T := TX11) (N := 9) hx hb hts i_X11_addBytes_X11 hown hK hP 0 rfl rfl 5 (by decide) (hts (.fieldLink RX11 50 "StatementRules2" "length" "I") k_X11_addBytes_fieldLink_RX11_50_SR_length_I) (fun _ h9 => h9) rfl dX11_addBytes_27 ?_
  refine lv_iconst (v := 1) hx hb dX11_addBytes_30 (by decide) ?_
  refine lv_iadd hx hb dX11_addBytes_31 ?_
  refine lv_topi (fun z15 ez15 => ?_)
  obtain rfl : z15 = 7 := ez15.trans (by decide)
  refine va_put (D := (dC, dI)) (ci := 10) (v := .int 7) (ty := .int) (C := RX11) (T := TX11) (N := 9) hx hb hts i_X11_addBytes_X11 tyX11 tyX11_ok nmX11 hown hK hP hD hS 0 rfl rfl 5 (by decide) (hts (.fieldLink RX11 50 "StatementRules2" "length" "I") k_X11_addBytes_fieldLink_RX11_50_SR_length_I) (fun _ h9 => h9) rfl (by decide +kernel) rfl rfl (Nat.le_of_ble_eq_true rfl) dX11_addBytes_32 (fun H locs hP hD hS => ?_)
  have hP : va_P (dC, dI) vwCl [(h0, .inr (10, [.ref qt, x_told, x_code, x_reader, x_machine, .int 7, x_latestFault, x_hasProgram, x_hasRun])), (qt, .inl (kt, 900, .inl g_14))] H := hP
  have hD : va_D A [(h0, .inr (10, [.ref qt, x_told, x_code, x_reader, x_machine, .int 7, x_latestFault, x_hasProgram, x_hasRun])), (qt, .inl (kt, 900, .inl g_14))] := hD
  refine lv_iinc (v := 0) (lv' := [(2, .int 0), (0, .ref h0), (1, .int v)]) hx hb dX11_addBytes_35 hl (k := 0) rfl (by decide) (by decide) rfl (fun ls hl => ?_)
  refine lv_goto (tgt := 3) hx hb dX11_addBytes_38 (by decide) ?_
  refine lv_iload_n hx hb dX11_addBytes_3 rfl (lv_at hl 0 rfl) ?_
  refine lv_if_lt (tgt := 41) hx hb dX11_addBytes_4 (by decide) (fun c9 => absurd c9 (by decide)) (fun _ => ?_)
  refine lv_aload_n hx hb dX11_addBytes_7 rfl (lv_at hl 1 rfl) ?_
  refine va_get (D := (dC, dI)) (ci := 10) (v := .ref qt) (C := RX11) (T := TX11) (N := 9) hx hb hts i_X11_addBytes_X11 hown hK hP 0 rfl rfl 0 (by decide) (hts (.fieldLink RX11 9 "StatementRules2" "tape" "[I") k_X11_addBytes_fieldLink_RX11_9_SR_tape_I) (fun _ h9 => h9) rfl dX11_addBytes_8 ?_
  refine lv_aload_n hx hb dX11_addBytes_11 rfl (lv_at hl 1 rfl) ?_
  refine va_get (D := (dC, dI)) (ci := 10) (v := .int 7) (C := RX11) (T := TX11) (N := 9) hx hb hts i_X11_addBytes_X11 hown hK hP 0 rfl rfl 5 (by decide) (hts (.fieldLink RX11 50 "StatementRules2" "length" "I") k_X11_addBytes_fieldLink_RX11_50_SR_length_I) (fun _ h9 => h9) rfl dX11_addBytes_12 ?_
  refine lv_iload_n hx hb dX11_addBytes_15 rfl (lv_at hl 2 rfl) ?_
  refine lv_iload_n hx hb dX11_addBytes_16 rfl (lv_at hl 0 rfl) ?_
  obtain ⟨z16, ez16⟩ : ∃ y : Int32, y = ((v : Int32).toUInt32 >>> ((0 : Int32).toUInt32 &&& Int32.toUInt32 31)).toInt32 := ⟨_, rfl⟩
  refine lv_iushr (v := z16) hx hb dX11_addBytes_17 ez16.symm ?_
  refine lv_sipush (v := 255) hx hb dX11_addBytes_18 (by decide) ?_
  refine lv_iand hx hb dX11_addBytes_21 ?_
  refine lv_topi (fun z17 ez17 => ?_)
  have hPc := hP.sub (ws' := [(qt, .inl (kt, 900, .inl g_14))]) [1] rfl
  have hDc := hD.sub (ws' := [(qt, .inl (kt, 900, .inl g_14))]) [1] (by decide) rfl
  have hKc := hK.sub (tys' := [(kt, .int)]) [0] rfl
  have hFc := va_free (wc := [(qt, .inl (kt, 900, .inl g_14))]) hD hS hA [1] rfl
  refine va_callv (va_runS (As := [.ref qt, .int 7, .int z17]) (rest := []) ⟨hx, hb, hml, hown, hts⟩ (c_X11_put l dC dI _ qt kt 900 g_14 7 z17 (by first | decide | (unfold vp_in; decide)) (by first | decide | (unfold vp_in; decide)) (by first | decide | (unfold vp_in; decide))) (va_cwS 3 hts hX11_addBytes_X11_put_s58 rfl rfl rfl (by decide +kernel) ⟨Nat.le_of_ble_eq_true rfl, Nat.le_of_ble_eq_true rfl⟩) ⟨zPre.blind, zPre.go hZ hPc hKc hDc⟩ rfl rfl hl.1 rfl (lv_room (Nat.le_of_ble_eq_true rfl)) dX11_addBytes_22 ⟨Nat.le_of_ble_eq_true rfl, Nat.le_of_ble_eq_true rfl⟩) hS (fun q _ h => hFc q h) hFc (fun u9 t9 H1 locs ht hvm hw hB hz1 hk1 hS => ?_)
  obtain ⟨g_19, hP1, hK1, hD1⟩ := hB
  rw [ht] at hP1
  have hK1 := va_K.moved hvm.symm hK1
  obtain ⟨hP, hD⟩ := va_join (wr := [(h0, .inr (10, [.ref qt, x_told, x_code, x_reader, x_machine, .int 7, x_latestFault, x_hasProgram, x_hasRun]))]) (w1 := [(qt, .inl (kt, 900, .inl g_19))]) hP hD [1] [0] rfl rfl (by decide) (by decide) hk1 hFc hP1 hD1
  have hK := hK.app hK1
  generalize H1 = H at hP hS ⊢
  have hP : va_P (dC, dI) vwCl [(h0, .inr (10, [.ref qt, x_told, x_code, x_reader, x_machine, .int 7, x_latestFault, x_hasProgram, x_hasRun])), (qt, .inl (kt, 900, .inl g_19))] H := hP
  have hD : va_D A [(h0, .inr (10, [.ref qt, x_told, x_code, x_reader, x_machine, .int 7, x_latestFault, x_hasProgram, x_hasRun])), (qt, .inl (kt, 900, .inl g_19))] := hD
  have hK : va_K (dC, dI) vwCl [(kt, .int), (kt, .int)] s := hK
  have hK : va_K (dC, dI) vwCl [(kt, .int)] s := hK.sub [0] rfl
  refine lv_aload_n hx hb dX11_addBytes_25 rfl (lv_at hl 1 rfl) ?_
  refine lv_dup hx hb dX11_addBytes_26 rfl ?_
  refine va_get (D := (dC, dI)) (ci := 10) (v := .int 7) (C := RX11) (T := TX11) (N := 9) hx hb hts i_X11_addBytes_X11 hown hK hP 0 rfl rfl 5 (by decide) (hts (.fieldLink RX11 50 "StatementRules2" "length" "I") k_X11_addBytes_fieldLink_RX11_50_SR_length_I) (fun _ h9 => h9) rfl dX11_addBytes_27 ?_
  refine lv_iconst (v := 1) hx hb dX11_addBytes_30 (by decide) ?_
  refine lv_iadd hx hb dX11_addBytes_31 ?_
  refine lv_topi (fun z20 ez20 => ?_)
  obtain rfl : z20 = 8 := ez20.trans (by decide)
  refine va_put (D := (dC, dI)) (ci := 10) (v := .int 8) (ty := .int) (C := RX11) (T := TX11) (N := 9) hx hb hts i_X11_addBytes_X11 tyX11 tyX11_ok nmX11 hown hK hP hD hS 0 rfl rfl 5 (by decide) (hts (.fieldLink RX11 50 "StatementRules2" "length" "I") k_X11_addBytes_fieldLink_RX11_50_SR_length_I) (fun _ h9 => h9) rfl (by decide +kernel) rfl rfl (Nat.le_of_ble_eq_true rfl) dX11_addBytes_32 (fun H locs hP hD hS => ?_)
  have hP : va_P (dC, dI) vwCl [(h0, .inr (10, [.ref qt, x_told, x_code, x_reader, x_machine, .int 8, x_latestFault, x_hasProgram, x_hasRun])), (qt, .inl (kt, 900, .inl g_19))] H := hP
  have hD : va_D A [(h0, .inr (10, [.ref qt, x_told, x_code, x_reader, x_machine, .int 8, x_latestFault, x_hasProgram, x_hasRun])), (qt, .inl (kt, 900, .inl g_19))] := hD
  refine lv_iinc (v := (-8)) (lv' := [(2, .int (-8)), (0, .ref h0), (1, .int v)]) hx hb dX11_addBytes_35 hl (k := 0) rfl (by decide) (by decide) rfl (fun ls hl => ?_)
  refine lv_goto (tgt := 3) hx hb dX11_addBytes_38 (by decide) ?_
  refine lv_iload_n hx hb dX11_addBytes_3 rfl (lv_at hl 0 rfl) ?_
  refine lv_if_lt (tgt := 41) hx hb dX11_addBytes_4 (by decide) (fun _ => ?_) (fun c9 => absurd (by decide) c9)
  have hP9 := hP.sub (ws' := [(h0, .inr (10, [.ref qt, x_told, x_code, x_reader, x_machine, .int 8, x_latestFault, x_hasProgram, x_hasRun])), (qt, .inl (kt, 900, .inl g_19))]) [0, 1] rfl
  have hD9 := hD.sub (ws' := [(h0, .inr (10, [.ref qt, x_told, x_code, x_reader, x_machine, .int 8, x_latestFault, x_hasProgram, x_hasRun])), (qt, .inl (kt, 900, .inl g_19))]) [0, 1] (by decide) rfl
  have hK9 := hK.sub (tys' := [(kt, .int)]) [0] rfl
  exact W.vret hx hb hr (fun t ht hW => ⟨⟨(), rfl, trivial, g_19, by rw [ht]; exact hP9, va_K.moved hW.alike hK9, hD9⟩, hS.F ht⟩) hS.2.2 dX11_addBytes_41
set_option maxHeartbeats 4000000 in
set_option maxRecDepth 100000 in
theorem c_X11_addBytes_8 (l : Launch) (dC : Nat → ClassId) (dI : Nat → Nat → Nat) (sz : Nat) (h0 : Nat) (v : Int32) (qt : Nat) (kt : ClassId) (f : Nat → Int32) (x_told : Value) (x_code : Value) (x_reader : Value) (x_machine : Value) (x_latestFault : Value) (x_hasProgram : Value) (x_hasRun : Value) : Met l yX11_addBytes wzX11_addBytes ({ frames := 2, cells := 0, slots := 0, locals := 120 }) (va_Pc [.ref h0, .int v] (zPre dC dI sz [(h0, .inr (10, [.ref qt, x_told, x_code, x_reader, x_machine, .int 8, x_latestFault, x_hasProgram, x_hasRun])), (qt, .inl (kt, 900, .inl f))] [(kt, .int)])) (va_Qv (fun (_ : Unit) => True) (fun (_ : Unit) (t : State) => ∃ (g : Nat → Int32), zPost dC dI (va_A [(h0, .inr (10, [.ref qt, x_told, x_code, x_reader, x_machine, .int 8, x_latestFault, x_hasProgram, x_hasRun])), (qt, .inl (kt, 900, .inl f))] sz) [(h0, .inr (10, [.ref qt, x_told, x_code, x_reader, x_machine, .int 12, x_latestFault, x_hasProgram, x_hasRun])), (qt, .inl (kt, 900, .inl g))] [(kt, .int)] t) (va_A [(h0, .inr (10, [.ref qt, x_told, x_code, x_reader, x_machine, .int 8, x_latestFault, x_hasProgram, x_hasRun])), (qt, .inl (kt, 900, .inl f))] sz)) 0 0 (va_A [(h0, .inr (10, [.ref qt, x_told, x_code, x_reader, x_machine, .int 8, x_latestFault, x_hasProgram, x_hasRun])), (qt, .inl (kt, 900, .inl f))] sz) := by
  refine Met.ofW (cc := cX11_addBytes) (maxL := 3) (ret := none) (by decide) rfl ?_
  intro p e s m args below meth c s₁ B hml hv
  obtain ⟨rfl, hsz, hZ, hP, hK, hD0⟩ := hv
  have hx := B.exec
  have hb := B.bytes
  have hr := B.returns
  have hts := atoms_spec (ws := wzX11_addBytes) B.pre
  have hown : s.vm.findClass RX11 = some m.cls := findClass_of_methodNamed B.named
  have hlocks := B.notSynchronized
  subst hsz
  have hD := hD0.self (sz := s.heap.size)
  generalize hAe : va_A [(h0, .inr (10, [.ref qt, x_told, x_code, x_reader, x_machine, .int 8, x_latestFault, x_hasProgram, x_hasRun])), (qt, .inl (kt, 900, .inl f))] s.heap.size = A at hD ⊢
  have hA : ∀ q : Nat, s.heap.size ≤ q → A q := fun q h => by rw [← hAe]; exact Or.inr h
  have hS : va_S A s.heap s.heap [] := va_S.rf
  have hP : va_P (dC, dI) vwCl [(h0, .inr (10, [.ref qt, x_told, x_code, x_reader, x_machine, .int 8, x_latestFault, x_hasProgram, x_hasRun])), (qt, .inl (kt, 900, .inl f))] s.heap := hP
  have hl := lv_entry ([.ref h0, .int v]) (n := 3) (Nat.le_of_ble_eq_true rfl)
  rw [lg_entry_eq]
  generalize (lg_sl ([.ref h0, .int v]) ++ List.replicate (3 - (lg_sl ([.ref h0, .int v])).length) Slot.unset).toArray = ls at hl ⊢
  have hl : lv_has ls 3 [(0, .ref h0), (1, .int v)] := hl
  refine lv_bipush (v := 24) hx hb dX11_addBytes_0 (by decide) ?_
  refine lv_istore_n (lv' := [(2, .int 24), (0, .ref h0), (1, .int v)]) hx hb dX11_addBytes_2 rfl hl (by decide) rfl (fun ls hl => ?_)
  refine lv_iload_n hx hb dX11_addBytes_3 rfl (lv_at hl 0 rfl) ?_
  refine lv_if_lt (tgt := 41) hx hb dX11_addBytes_4 (by decide) (fun c9 => absurd c9 (by decide)) (fun _ => ?_)
  refine lv_aload_n hx hb dX11_addBytes_7 rfl (lv_at hl 1 rfl) ?_
  refine va_get (D := (dC, dI)) (ci := 10) (v := .ref qt) (C := RX11) (T := TX11) (N := 9) hx hb hts i_X11_addBytes_X11 hown hK hP 0 rfl rfl 0 (by decide) (hts (.fieldLink RX11 9 "StatementRules2" "tape" "[I") k_X11_addBytes_fieldLink_RX11_9_SR_tape_I) (fun _ h9 => h9) rfl dX11_addBytes_8 ?_
  refine lv_aload_n hx hb dX11_addBytes_11 rfl (lv_at hl 1 rfl) ?_
  refine va_get (D := (dC, dI)) (ci := 10) (v := .int 8) (C := RX11) (T := TX11) (N := 9) hx hb hts i_X11_addBytes_X11 hown hK hP 0 rfl rfl 5 (by decide) (hts (.fieldLink RX11 50 "StatementRules2" "length" "I") k_X11_addBytes_fieldLink_RX11_50_SR_length_I) (fun _ h9 => h9) rfl dX11_addBytes_12 ?_
  refine lv_iload_n hx hb dX11_addBytes_15 rfl (lv_at hl 2 rfl) ?_
  refine lv_iload_n hx hb dX11_addBytes_16 rfl (lv_at hl 0 rfl) ?_
  obtain ⟨z1, ez1⟩ : ∃ y : Int32, y = ((v : Int32).toUInt32 >>> ((24 : Int32).toUInt32 &&& Int32.toUInt32 31)).toInt32 := ⟨_, rfl⟩
  refine lv_iushr (v := z1) hx hb dX11_addBytes_17 ez1.symm ?_
  refine lv_sipush (v := 255) hx hb dX11_addBytes_18 (by decide) ?_
  refine lv_iand hx hb dX11_addBytes_21 ?_
  refine lv_topi (fun z2 ez2 => ?_)
  have hPc := hP.sub (ws' := [(qt, .inl (kt, 900, .inl f))]) [1] rfl
  have hDc := hD.sub (ws' := [(qt, .inl (kt, 900, .inl f))]) [1] (by decide) rfl
  have hKc := hK.sub (tys' := [(kt, .int)]) [0] rfl
  have hFc := va_free (wc := [(qt, .inl (kt, 900, .inl f))]) hD hS hA [1] rfl
  refine va_callv (va_runS (As := [.ref qt, .int 8, .int z2]) (rest := []) ⟨hx, hb, hml, hown, hts⟩ (c_X11_put l dC dI _ qt kt 900 f 8 z2 (by first | decide | (unfold vp_in; decide)) (by first | decide | (unfold vp_in; decide)) (by first | decide | (unfold vp_in; decide))) (va_cwS 3 hts hX11_addBytes_X11_put_s58 rfl rfl rfl (by decide +kernel) ⟨Nat.le_of_ble_eq_true rfl, Nat.le_of_ble_eq_true rfl⟩) ⟨zPre.blind, zPre.go hZ hPc hKc hDc⟩ rfl rfl hl.1 rfl (lv_room (Nat.le_of_ble_eq_true rfl)) dX11_addBytes_22 ⟨Nat.le_of_ble_eq_true rfl, Nat.le_of_ble_eq_true rfl⟩) hS (fun q _ h => hFc q h) hFc (fun u9 t9 H1 locs ht hvm hw hB hz1 hk1 hS => ?_)
  obtain ⟨g_4, hP1, hK1, hD1⟩ := hB
  rw [ht] at hP1
  have hK1 := va_K.moved hvm.symm hK1
  obtain ⟨hP, hD⟩ := va_join (wr := [(h0, .inr (10, [.ref qt, x_told, x_code, x_reader, x_machine, .int 8, x_latestFault, x_hasProgram, x_hasRun]))]) (w1 := [(qt, .inl (kt, 900, .inl g_4))]) hP hD [1] [0] rfl rfl (by decide) (by decide) hk1 hFc hP1 hD1
  have hK := hK.app hK1
  generalize H1 = H at hP hS ⊢
  have hP : va_P (dC, dI) vwCl [(h0, .inr (10, [.ref qt, x_told, x_code, x_reader, x_machine, .int 8, x_latestFault, x_hasProgram, x_hasRun])), (qt, .inl (kt, 900, .inl g_4))] H := hP
  have hD : va_D A [(h0, .inr (10, [.ref qt, x_told, x_code, x_reader, x_machine, .int 8, x_latestFault, x_hasProgram, x_hasRun])), (qt, .inl (kt, 900, .inl g_4))] := hD
  have hK : va_K (dC, dI) vwCl [(kt, .int), (kt, .int)] s := hK
  have hK : va_K (dC, dI) vwCl [(kt, .int)] s := hK.sub [0] rfl
  refine lv_aload_n hx hb dX11_addBytes_25 rfl (lv_at hl 1 rfl) ?_
  refine lv_dup hx hb dX11_addBytes_26 rfl ?_
  refine va_get (D := (dC, dI)) (ci := 10) (v := .int 8) (C := RX11) (T := TX11) (N := 9) hx hb hts i_X11_addBytes_X11 hown hK hP 0 rfl rfl 5 (by decide) (hts (.fieldLink RX11 50 "StatementRules2" "length" "I") k_X11_addBytes_fieldLink_RX11_50_SR_length_I) (fun _ h9 => h9) rfl dX11_addBytes_27 ?_
  refine lv_iconst (v := 1) hx hb dX11_addBytes_30 (by decide) ?_
  refine lv_iadd hx hb dX11_addBytes_31 ?_
  refine lv_topi (fun z5 ez5 => ?_)
  obtain rfl : z5 = 9 := ez5.trans (by decide)
  refine va_put (D := (dC, dI)) (ci := 10) (v := .int 9) (ty := .int) (C := RX11) (T := TX11) (N := 9) hx hb hts i_X11_addBytes_X11 tyX11 tyX11_ok nmX11 hown hK hP hD hS 0 rfl rfl 5 (by decide) (hts (.fieldLink RX11 50 "StatementRules2" "length" "I") k_X11_addBytes_fieldLink_RX11_50_SR_length_I) (fun _ h9 => h9) rfl (by decide +kernel) rfl rfl (Nat.le_of_ble_eq_true rfl) dX11_addBytes_32 (fun H locs hP hD hS => ?_)
  have hP : va_P (dC, dI) vwCl [(h0, .inr (10, [.ref qt, x_told, x_code, x_reader, x_machine, .int 9, x_latestFault, x_hasProgram, x_hasRun])), (qt, .inl (kt, 900, .inl g_4))] H := hP
  have hD : va_D A [(h0, .inr (10, [.ref qt, x_told, x_code, x_reader, x_machine, .int 9, x_latestFault, x_hasProgram, x_hasRun])), (qt, .inl (kt, 900, .inl g_4))] := hD
  refine lv_iinc (v := 16) (lv' := [(2, .int 16), (0, .ref h0), (1, .int v)]) hx hb dX11_addBytes_35 hl (k := 0) rfl (by decide) (by decide) rfl (fun ls hl => ?_)
  refine lv_goto (tgt := 3) hx hb dX11_addBytes_38 (by decide) ?_
  refine lv_iload_n hx hb dX11_addBytes_3 rfl (lv_at hl 0 rfl) ?_
  refine lv_if_lt (tgt := 41) hx hb dX11_addBytes_4 (by decide) (fun c9 => absurd c9 (by decide)) (fun _ => ?_)
  refine lv_aload_n hx hb dX11_addBytes_7 rfl (lv_at hl 1 rfl) ?_
  refine va_get (D := (dC, dI)) (ci := 10) (v := .ref qt) (C := RX11) (T := TX11) (N := 9) hx hb hts i_X11_addBytes_X11 hown hK hP 0 rfl rfl 0 (by decide) (hts (.fieldLink RX11 9 "StatementRules2" "tape" "[I") k_X11_addBytes_fieldLink_RX11_9_SR_tape_I) (fun _ h9 => h9) rfl dX11_addBytes_8 ?_
  refine lv_aload_n hx hb dX11_addBytes_11 rfl (lv_at hl 1 rfl) ?_
  refine va_get (D := (dC, dI)) (ci := 10) (v := .int 9) (C := RX11) (T := TX11) (N := 9) hx hb hts i_X11_addBytes_X11 hown hK hP 0 rfl rfl 5 (by decide) (hts (.fieldLink RX11 50 "StatementRules2" "length" "I") k_X11_addBytes_fieldLink_RX11_50_SR_length_I) (fun _ h9 => h9) rfl dX11_addBytes_12 ?_
  refine lv_iload_n hx hb dX11_addBytes_15 rfl (lv_at hl 2 rfl) ?_
  refine lv_iload_n hx hb dX11_addBytes_16 rfl (lv_at hl 0 rfl) ?_
  obtain ⟨z6, ez6⟩ : ∃ y : Int32, y = ((v : Int32).toUInt32 >>> ((16 : Int32).toUInt32 &&& Int32.toUInt32 31)).toInt32 := ⟨_, rfl⟩
  refine lv_iushr (v := z6) hx hb dX11_addBytes_17 ez6.symm ?_
  refine lv_sipush (v := 255) hx hb dX11_addBytes_18 (by decide) ?_
  refine lv_iand hx hb dX11_addBytes_21 ?_
  refine lv_topi (fun z7 ez7 => ?_)
  have hPc := hP.sub (ws' := [(qt, .inl (kt, 900, .inl g_4))]) [1] rfl
  have hDc := hD.sub (ws' := [(qt, .inl (kt, 900, .inl g_4))]) [1] (by decide) rfl
  have hKc := hK.sub (tys' := [(kt, .int)]) [0] rfl
  have hFc := va_free (wc := [(qt, .inl (kt, 900, .inl g_4))]) hD hS hA [1] rfl
  refine va_callv (va_runS (As := [.ref qt, .int 9, .int z7]) (rest := []) ⟨hx, hb, hml, hown, hts⟩ (c_X11_put l dC dI _ qt kt 900 g_4 9 z7 (by first | decide | (unfold vp_in; decide)) (by first | decide | (unfold vp_in; decide)) (by first | decide | (unfold vp_in; decide))) (va_cwS 3 hts hX11_addBytes_X11_put_s58 rfl rfl rfl (by decide +kernel) ⟨Nat.le_of_ble_eq_true rfl, Nat.le_of_ble_eq_true rfl⟩) ⟨zPre.blind, zPre.go hZ hPc hKc hDc⟩ rfl rfl hl.1 rfl (lv_room (Nat.le_of_ble_eq_true rfl)) dX11_addBytes_22 ⟨Nat.le_of_ble_eq_true rfl, Nat.le_of_ble_eq_true rfl⟩) hS (fun q _ h => hFc q h) hFc (fun u9 t9 H1 locs ht hvm hw hB hz1 hk1 hS => ?_)
  obtain ⟨g_9, hP1, hK1, hD1⟩ := hB
  rw [ht] at hP1
  have hK1 := va_K.moved hvm.symm hK1
  obtain ⟨hP, hD⟩ := va_join (wr := [(h0, .inr (10, [.ref qt, x_told, x_code, x_reader, x_machine, .int 9, x_latestFault, x_hasProgram, x_hasRun]))]) (w1 := [(qt, .inl (kt, 900, .inl g_9))]) hP hD [1] [0] rfl rfl (by decide) (by decide) hk1 hFc hP1 hD1
  have hK := hK.app hK1
  generalize H1 = H at hP hS ⊢
  have hP : va_P (dC, dI) vwCl [(h0, .inr (10, [.ref qt, x_told, x_code, x_reader, x_machine, .int 9, x_latestFault, x_hasProgram, x_hasRun])), (qt, .inl (kt, 900, .inl g_9))] H := hP
  have hD : va_D A [(h0, .inr (10, [.ref qt, x_told, x_code, x_reader, x_machine, .int 9, x_latestFault, x_hasProgram, x_hasRun])), (qt, .inl (kt, 900, .inl g_9))] := hD
  have hK : va_K (dC, dI) vwCl [(kt, .int), (kt, .int)] s := hK
  have hK : va_K (dC, dI) vwCl [(kt, .int)] s := hK.sub [0] rfl
  refine lv_aload_n hx hb dX11_addBytes_25 rfl (lv_at hl 1 rfl) ?_
  refine lv_dup hx hb dX11_addBytes_26 rfl ?_
  refine va_get (D := (dC, dI)) (ci := 10) (v := .int 9) (C := RX11) (T := TX11) (N := 9) hx hb hts i_X11_addBytes_X11 hown hK hP 0 rfl rfl 5 (by decide) (hts (.fieldLink RX11 50 "StatementRules2" "length" "I") k_X11_addBytes_fieldLink_RX11_50_SR_length_I) (fun _ h9 => h9) rfl dX11_addBytes_27 ?_
  refine lv_iconst (v := 1) hx hb dX11_addBytes_30 (by decide) ?_
  refine lv_iadd hx hb dX11_addBytes_31 ?_
  refine lv_topi (fun z10 ez10 => ?_)
  obtain rfl : z10 = 10 := ez10.trans (by decide)
  refine va_put (D := (dC, dI)) (ci := 10) (v := .int 10) (ty := .int) (C := RX11) (T := TX11) (N := 9) hx hb hts i_X11_addBytes_X11 tyX11 tyX11_ok nmX11 hown hK hP hD hS 0 rfl rfl 5 (by decide) (hts (.fieldLink RX11 50 "StatementRules2" "length" "I") k_X11_addBytes_fieldLink_RX11_50_SR_length_I) (fun _ h9 => h9) rfl (by decide +kernel) rfl rfl (Nat.le_of_ble_eq_true rfl) dX11_addBytes_32 (fun H locs hP hD hS => ?_)
  have hP : va_P (dC, dI) vwCl [(h0, .inr (10, [.ref qt, x_told, x_code, x_reader, x_machine, .int 10, x_latestFault, x_hasProgram, x_hasRun])), (qt, .inl (kt, 900, .inl g_9))] H := hP
  have hD : va_D A [(h0, .inr (10, [.ref qt, x_told, x_code, x_reader, x_machine, .int 10, x_latestFault, x_hasProgram, x_hasRun])), (qt, .inl (kt, 900, .inl g_9))] := hD
  refine lv_iinc (v := 8) (lv' := [(2, .int 8), (0, .ref h0), (1, .int v)]) hx hb dX11_addBytes_35 hl (k := 0) rfl (by decide) (by decide) rfl (fun ls hl => ?_)
  refine lv_goto (tgt := 3) hx hb dX11_addBytes_38 (by decide) ?_
  refine lv_iload_n hx hb dX11_addBytes_3 rfl (lv_at hl 0 rfl) ?_
  refine lv_if_lt (tgt := 41) hx hb dX11_addBytes_4 (by decide) (fun c9 => absurd c9 (by decide)) (fun _ => ?_)
  refine lv_aload_n hx hb dX11_addBytes_7 rfl (lv_at hl 1 rfl) ?_
  refine va_get (D := (dC, dI)) (ci := 10) (v := .ref qt) (C := RX11) (T := TX11) (N := 9) hx hb hts i_X11_addBytes_X11 hown hK hP 0 rfl rfl 0 (by decide) (hts (.fieldLink RX11 9 "StatementRules2" "tape" "[I") k_X11_addBytes_fieldLink_RX11_9_SR_tape_I) (fun _ h9 => h9) rfl dX11_addBytes_8 ?_
  refine lv_aload_n hx hb dX11_addBytes_11 rfl (lv_at hl 1 rfl) ?_
  refine va_get (D := (dC, dI)) (ci := 10) (v := .int 10) (C := RX11) (T := TX11) (N := 9) hx hb hts i_X11_addBytes_X11 hown hK hP 0 rfl rfl 5 (by decide) (hts (.fieldLink RX11 50 "StatementRules2" "length" "I") k_X11_addBytes_fieldLink_RX11_50_SR_length_I) (fun _ h9 => h9) rfl dX11_addBytes_12 ?_
  refine lv_iload_n hx hb dX11_addBytes_15 rfl (lv_at hl 2 rfl) ?_
  refine lv_iload_n hx hb dX11_addBytes_16 rfl (lv_at hl 0 rfl) ?_
  obtain ⟨z11, ez11⟩ : ∃ y : Int32, y = ((v : Int32).toUInt32 >>> ((8 : Int32).toUInt32 &&& Int32.toUInt32 31)).toInt32 := ⟨_, rfl⟩
  refine lv_iushr (v := z11) hx hb dX11_addBytes_17 ez11.symm ?_
  refine lv_sipush (v := 255) hx hb dX11_addBytes_18 (by decide) ?_
  refine lv_iand hx hb dX11_addBytes_21 ?_
  refine lv_topi (fun z12 ez12 => ?_)
  have hPc := hP.sub (ws' := [(qt, .inl (kt, 900, .inl g_9))]) [1] rfl
  have hDc := hD.sub (ws' := [(qt, .inl (kt, 900, .inl g_9))]) [1] (by decide) rfl
  have hKc := hK.sub (tys' := [(kt, .int)]) [0] rfl
  have hFc := va_free (wc := [(qt, .inl (kt, 900, .inl g_9))]) hD hS hA [1] rfl
  refine va_callv (va_runS (As := [.ref qt, .int 10, .int z12]) (rest := []) ⟨hx, hb, hml, hown, hts⟩ (c_X11_put l dC dI _ qt kt 900 g_9 10 z12 (by first | decide | (unfold vp_in; decide)) (by first | decide | (unfold vp_in; decide)) (by first | decide | (unfold vp_in; decide))) (va_cwS 3 hts hX11_addBytes_X11_put_s58 rfl rfl rfl (by decide +kernel) ⟨Nat.le_of_ble_eq_true rfl, Nat.le_of_ble_eq_true rfl⟩) ⟨zPre.blind, zPre.go hZ hPc hKc hDc⟩ rfl rfl hl.1 rfl (lv_room (Nat.le_of_ble_eq_true rfl)) dX11_addBytes_22 ⟨Nat.le_of_ble_eq_true rfl, Nat.le_of_ble_eq_true rfl⟩) hS (fun q _ h => hFc q h) hFc (fun u9 t9 H1 locs ht hvm hw hB hz1 hk1 hS => ?_)
  obtain ⟨g_14, hP1, hK1, hD1⟩ := hB
  rw [ht] at hP1
  have hK1 := va_K.moved hvm.symm hK1
  obtain ⟨hP, hD⟩ := va_join (wr := [(h0, .inr (10, [.ref qt, x_told, x_code, x_reader, x_machine, .int 10, x_latestFault, x_hasProgram, x_hasRun]))]) (w1 := [(qt, .inl (kt, 900, .inl g_14))]) hP hD [1] [0] rfl rfl (by decide) (by decide) hk1 hFc hP1 hD1
  have hK := hK.app hK1
  generalize H1 = H at hP hS ⊢
  have hP : va_P (dC, dI) vwCl [(h0, .inr (10, [.ref qt, x_told, x_code, x_reader, x_machine, .int 10, x_latestFault, x_hasProgram, x_hasRun])), (qt, .inl (kt, 900, .inl g_14))] H := hP
  have hD : va_D A [(h0, .inr (10, [.ref qt, x_told, x_code, x_reader, x_machine, .int 10, x_latestFault, x_hasProgram, x_hasRun])), (qt, .inl (kt, 900, .inl g_14))] := hD
  have hK : va_K (dC, dI) vwCl [(kt, .int), (kt, .int)] s := hK
  have hK : va_K (dC, dI) vwCl [(kt, .int)] s := hK.sub [0] rfl
  refine lv_aload_n hx hb dX11_addBytes_25 rfl (lv_at hl 1 rfl) ?_
  refine lv_dup hx hb dX11_addBytes_26 rfl ?_
  refine va_get (D := (dC, dI)) (ci := 10) (v := .int 10) (C := RX11) (T := TX11) (N := 9) hx hb hts i_X11_addBytes_X11 hown hK hP 0 rfl rfl 5 (by decide) (hts (.fieldLink RX11 50 "StatementRules2" "length" "I") k_X11_addBytes_fieldLink_RX11_50_SR_length_I) (fun _ h9 => h9) rfl dX11_addBytes_27 ?_
  refine lv_iconst (v := 1) hx hb dX11_addBytes_30 (by decide) ?_
  refine lv_iadd hx hb dX11_addBytes_31 ?_
  refine lv_topi (fun z15 ez15 => ?_)
  obtain rfl : z15 = 11 := ez15.trans (by decide)
  refine va_put (D := (dC, dI)) (ci := 10) (v := .int 11) (ty := .int) (C := RX11) (T := TX11) (N := 9) hx hb hts i_X11_addBytes_X11 tyX11 tyX11_ok nmX11 hown hK hP hD hS 0 rfl rfl 5 (by decide) (hts (.fieldLink RX11 50 "StatementRules2" "length" "I") k_X11_addBytes_fieldLink_RX11_50_SR_length_I) (fun _ h9 => h9) rfl (by decide +kernel) rfl rfl (Nat.le_of_ble_eq_true rfl) dX11_addBytes_32 (fun H locs hP hD hS => ?_)
  have hP : va_P (dC, dI) vwCl [(h0, .inr (10, [.ref qt, x_told, x_code, x_reader, x_machine, .int 11, x_latestFault, x_hasProgram, x_hasRun])), (qt, .inl (kt, 900, .inl g_14))] H := hP
  have hD : va_D A [(h0, .inr (10, [.ref qt, x_told, x_code, x_reader, x_machine, .int 11, x_latestFault, x_hasProgram, x_hasRun])), (qt, .inl (kt, 900, .inl g_14))] := hD
  refine lv_iinc (v := 0) (lv' := [(2, .int 0), (0, .ref h0), (1, .int v)]) hx hb dX11_addBytes_35 hl (k := 0) rfl (by decide) (by decide) rfl (fun ls hl => ?_)
  refine lv_goto (tgt := 3) hx hb dX11_addBytes_38 (by decide) ?_
  refine lv_iload_n hx hb dX11_addBytes_3 rfl (lv_at hl 0 rfl) ?_
  refine lv_if_lt (tgt := 41) hx hb dX11_addBytes_4 (by decide) (fun c9 => absurd c9 (by decide)) (fun _ => ?_)
  refine lv_aload_n hx hb dX11_addBytes_7 rfl (lv_at hl 1 rfl) ?_
  refine va_get (D := (dC, dI)) (ci := 10) (v := .ref qt) (C := RX11) (T := TX11) (N := 9) hx hb hts i_X11_addBytes_X11 hown hK hP 0 rfl rfl 0 (by decide) (hts (.fieldLink RX11 9 "StatementRules2" "tape" "[I") k_X11_addBytes_fieldLink_RX11_9_SR_tape_I) (fun _ h9 => h9) rfl dX11_addBytes_8 ?_
  refine lv_aload_n hx hb dX11_addBytes_11 rfl (lv_at hl 1 rfl) ?_
  refine va_get (D := (dC, dI)) (ci := 10) (v := .int 11) (C := RX11) (T := TX11) (N := 9) hx hb hts i_X11_addBytes_X11 hown hK hP 0 rfl rfl 5 (by decide) (hts (.fieldLink RX11 50 "StatementRules2" "length" "I") k_X11_addBytes_fieldLink_RX11_50_SR_length_I) (fun _ h9 => h9) rfl dX11_addBytes_12 ?_
  refine lv_iload_n hx hb dX11_addBytes_15 rfl (lv_at hl 2 rfl) ?_
  refine lv_iload_n hx hb dX11_addBytes_16 rfl (lv_at hl 0 rfl) ?_
  obtain ⟨z16, ez16⟩ : ∃ y : Int32, y = ((v : Int32).toUInt32 >>> ((0 : Int32).toUInt32 &&& Int32.toUInt32 31)).toInt32 := ⟨_, rfl⟩
  refine lv_iushr (v := z16) hx hb dX11_addBytes_17 ez16.symm ?_
  refine lv_sipush (v := 255) hx hb dX11_addBytes_18 (by decide) ?_
  refine lv_iand hx hb dX11_addBytes_21 ?_
  refine lv_topi (fun z17 ez17 => ?_)
  have hPc := hP.sub (ws' := [(qt, .inl (kt, 900, .inl g_14))]) [1] rfl
  have hDc := hD.sub (ws' := [(qt, .inl (kt, 900, .inl g_14))]) [1] (by decide) rfl
  have hKc := hK.sub (tys' := [(kt, .int)]) [0] rfl
  have hFc := va_free (wc := [(qt, .inl (kt, 900, .inl g_14))]) hD hS hA [1] rfl
  refine va_callv (va_runS (As := [.ref qt, .int 11, .int z17]) (rest := []) ⟨hx, hb, hml, hown, hts⟩ (c_X11_put l dC dI _ qt kt 900 g_14 11 z17 (by first | decide | (unfold vp_in; decide)) (by first | decide | (unfold vp_in; decide)) (by first | decide | (unfold vp_in; decide))) (va_cwS 3 hts hX11_addBytes_X11_put_s58 rfl rfl rfl (by decide +kernel) ⟨Nat.le_of_ble_eq_true rfl, Nat.le_of_ble_eq_true rfl⟩) ⟨zPre.blind, zPre.go hZ hPc hKc hDc⟩ rfl rfl hl.1 rfl (lv_room (Nat.le_of_ble_eq_true rfl)) dX11_addBytes_22 ⟨Nat.le_of_ble_eq_true rfl, Nat.le_of_ble_eq_true rfl⟩) hS (fun q _ h => hFc q h) hFc (fun u9 t9 H1 locs ht hvm hw hB hz1 hk1 hS => ?_)
  obtain ⟨g_19, hP1, hK1, hD1⟩ := hB
  rw [ht] at hP1
  have hK1 := va_K.moved hvm.symm hK1
  obtain ⟨hP, hD⟩ := va_join (wr := [(h0, .inr (10, [.ref qt, x_told, x_code, x_reader, x_machine, .int 11, x_latestFault, x_hasProgram, x_hasRun]))]) (w1 := [(qt, .inl (kt, 900, .inl g_19))]) hP hD [1] [0] rfl rfl (by decide) (by decide) hk1 hFc hP1 hD1
  have hK := hK.app hK1
  generalize H1 = H at hP hS ⊢
  have hP : va_P (dC, dI) vwCl [(h0, .inr (10, [.ref qt, x_told, x_code, x_reader, x_machine, .int 11, x_latestFault, x_hasProgram, x_hasRun])), (qt, .inl (kt, 900, .inl g_19))] H := hP
  have hD : va_D A [(h0, .inr (10, [.ref qt, x_told, x_code, x_reader, x_machine, .int 11, x_latestFault, x_hasProgram, x_hasRun])), (qt, .inl (kt, 900, .inl g_19))] := hD
  have hK : va_K (dC, dI) vwCl [(kt, .int), (kt, .int)] s := hK
  have hK : va_K (dC, dI) vwCl [(kt, .int)] s := hK.sub [0] rfl
  refine lv_aload_n hx hb dX11_addBytes_25 rfl (lv_at hl 1 rfl) ?_
  refine lv_dup hx hb dX11_addBytes_26 rfl ?_
  refine va_get (D := (dC, dI)) (ci := 10) (v := .int 11) (C := RX11) (T := TX11) (N := 9) hx hb hts i_X11_addBytes_X11 hown hK hP 0 rfl rfl 5 (by decide) (hts (.fieldLink RX11 50 "StatementRules2" "length" "I") k_X11_addBytes_fieldLink_RX11_50_SR_length_I) (fun _ h9 => h9) rfl dX11_addBytes_27 ?_
  refine lv_iconst (v := 1) hx hb dX11_addBytes_30 (by decide) ?_
  refine lv_iadd hx hb dX11_addBytes_31 ?_
  refine lv_topi (fun z20 ez20 => ?_)
  obtain rfl : z20 = 12 := ez20.trans (by decide)
  refine va_put (D := (dC, dI)) (ci := 10) (v := .int 12) (ty := .int) (C := RX11) (T := TX11) (N := 9) hx hb hts i_X11_addBytes_X11 tyX11 tyX11_ok nmX11 hown hK hP hD hS 0 rfl rfl 5 (by decide) (hts (.fieldLink RX11 50 "StatementRules2" "length" "I") k_X11_addBytes_fieldLink_RX11_50_SR_length_I) (fun _ h9 => h9) rfl (by decide +kernel) rfl rfl (Nat.le_of_ble_eq_true rfl) dX11_addBytes_32 (fun H locs hP hD hS => ?_)
  have hP : va_P (dC, dI) vwCl [(h0, .inr (10, [.ref qt, x_told, x_code, x_reader, x_machine, .int 12, x_latestFault, x_hasProgram, x_hasRun])), (qt, .inl (kt, 900, .inl g_19))] H := hP
  have hD : va_D A [(h0, .inr (10, [.ref qt, x_told, x_code, x_reader, x_machine, .int 12, x_latestFault, x_hasProgram, x_hasRun])), (qt, .inl (kt, 900, .inl g_19))] := hD
  refine lv_iinc (v := (-8)) (lv' := [(2, .int (-8)), (0, .ref h0), (1, .int v)]) hx hb dX11_addBytes_35 hl (k := 0) rfl (by decide) (by decide) rfl (fun ls hl => ?_)
  refine lv_goto (tgt := 3) hx hb dX11_addBytes_38 (by decide) ?_
  refine lv_iload_n hx hb dX11_addBytes_3 rfl (lv_at hl 0 rfl) ?_
  refine lv_if_lt (tgt := 41) hx hb dX11_addBytes_4 (by decide) (fun _ => ?_) (fun c9 => absurd (by decide) c9)
  have hP9 := hP.sub (ws' := [(h0, .inr (10, [.ref qt, x_told, x_code, x_reader, x_machine, .int 12, x_latestFault, x_hasProgram, x_hasRun])), (qt, .inl (kt, 900, .inl g_19))]) [0, 1] rfl
  have hD9 := hD.sub (ws' := [(h0, .inr (10, [.ref qt, x_told, x_code, x_reader, x_machine, .int 12, x_latestFault, x_hasProgram, x_hasRun])), (qt, .inl (kt, 900, .inl g_19))]) [0, 1] (by decide) rfl
  have hK9 := hK.sub (tys' := [(kt, .int)]) [0] rfl
  exact W.vret hx hb hr (fun t ht hW => ⟨⟨(), rfl, trivial, g_19, by rw [ht]; exact hP9, va_K.moved hW.alike hK9, hD9⟩, hS.F ht⟩) hS.2.2 dX11_addBytes_41
set_option maxHeartbeats 4000000 in
set_option maxRecDepth 100000 in
theorem c_X11_addBytes_12 (l : Launch) (dC : Nat → ClassId) (dI : Nat → Nat → Nat) (sz : Nat) (h0 : Nat) (v : Int32) (qt : Nat) (kt : ClassId) (f : Nat → Int32) (x_told : Value) (x_code : Value) (x_reader : Value) (x_machine : Value) (x_latestFault : Value) (x_hasProgram : Value) (x_hasRun : Value) : Met l yX11_addBytes wzX11_addBytes ({ frames := 2, cells := 0, slots := 0, locals := 120 }) (va_Pc [.ref h0, .int v] (zPre dC dI sz [(h0, .inr (10, [.ref qt, x_told, x_code, x_reader, x_machine, .int 12, x_latestFault, x_hasProgram, x_hasRun])), (qt, .inl (kt, 900, .inl f))] [(kt, .int)])) (va_Qv (fun (_ : Unit) => True) (fun (_ : Unit) (t : State) => ∃ (g : Nat → Int32), zPost dC dI (va_A [(h0, .inr (10, [.ref qt, x_told, x_code, x_reader, x_machine, .int 12, x_latestFault, x_hasProgram, x_hasRun])), (qt, .inl (kt, 900, .inl f))] sz) [(h0, .inr (10, [.ref qt, x_told, x_code, x_reader, x_machine, .int 16, x_latestFault, x_hasProgram, x_hasRun])), (qt, .inl (kt, 900, .inl g))] [(kt, .int)] t) (va_A [(h0, .inr (10, [.ref qt, x_told, x_code, x_reader, x_machine, .int 12, x_latestFault, x_hasProgram, x_hasRun])), (qt, .inl (kt, 900, .inl f))] sz)) 0 0 (va_A [(h0, .inr (10, [.ref qt, x_told, x_code, x_reader, x_machine, .int 12, x_latestFault, x_hasProgram, x_hasRun])), (qt, .inl (kt, 900, .inl f))] sz) := by
  refine Met.ofW (cc := cX11_addBytes) (maxL := 3) (ret := none) (by decide) rfl ?_
  intro p e s m args below meth c s₁ B hml hv
  obtain ⟨rfl, hsz, hZ, hP, hK, hD0⟩ := hv
  have hx := B.exec
  have hb := B.bytes
  have hr := B.returns
  have hts := atoms_spec (ws := wzX11_addBytes) B.pre
  have hown : s.vm.findClass RX11 = some m.cls := findClass_of_methodNamed B.named
  have hlocks := B.notSynchronized
  subst hsz
  have hD := hD0.self (sz := s.heap.size)
  generalize hAe : va_A [(h0, .inr (10, [.ref qt, x_told, x_code, x_reader, x_machine, .int 12, x_latestFault, x_hasProgram, x_hasRun])), (qt, .inl (kt, 900, .inl f))] s.heap.size = A at hD ⊢
  have hA : ∀ q : Nat, s.heap.size ≤ q → A q := fun q h => by rw [← hAe]; exact Or.inr h
  have hS : va_S A s.heap s.heap [] := va_S.rf
  have hP : va_P (dC, dI) vwCl [(h0, .inr (10, [.ref qt, x_told, x_code, x_reader, x_machine, .int 12, x_latestFault, x_hasProgram, x_hasRun])), (qt, .inl (kt, 900, .inl f))] s.heap := hP
  have hl := lv_entry ([.ref h0, .int v]) (n := 3) (Nat.le_of_ble_eq_true rfl)
  rw [lg_entry_eq]
  generalize (lg_sl ([.ref h0, .int v]) ++ List.replicate (3 - (lg_sl ([.ref h0, .int v])).length) Slot.unset).toArray = ls at hl ⊢
  have hl : lv_has ls 3 [(0, .ref h0), (1, .int v)] := hl
  refine lv_bipush (v := 24) hx hb dX11_addBytes_0 (by decide) ?_
  refine lv_istore_n (lv' := [(2, .int 24), (0, .ref h0), (1, .int v)]) hx hb dX11_addBytes_2 rfl hl (by decide) rfl (fun ls hl => ?_)
  refine lv_iload_n hx hb dX11_addBytes_3 rfl (lv_at hl 0 rfl) ?_
  refine lv_if_lt (tgt := 41) hx hb dX11_addBytes_4 (by decide) (fun c9 => absurd c9 (by decide)) (fun _ => ?_)
  refine lv_aload_n hx hb dX11_addBytes_7 rfl (lv_at hl 1 rfl) ?_
  refine va_get (D := (dC, dI)) (ci := 10) (v := .ref qt) (C := RX11) (T := TX11) (N := 9) hx hb hts i_X11_addBytes_X11 hown hK hP 0 rfl rfl 0 (by decide) (hts (.fieldLink RX11 9 "StatementRules2" "tape" "[I") k_X11_addBytes_fieldLink_RX11_9_SR_tape_I) (fun _ h9 => h9) rfl dX11_addBytes_8 ?_
  refine lv_aload_n hx hb dX11_addBytes_11 rfl (lv_at hl 1 rfl) ?_
  refine va_get (D := (dC, dI)) (ci := 10) (v := .int 12) (C := RX11) (T := TX11) (N := 9) hx hb hts i_X11_addBytes_X11 hown hK hP 0 rfl rfl 5 (by decide) (hts (.fieldLink RX11 50 "StatementRules2" "length" "I") k_X11_addBytes_fieldLink_RX11_50_SR_length_I) (fun _ h9 => h9) rfl dX11_addBytes_12 ?_
  refine lv_iload_n hx hb dX11_addBytes_15 rfl (lv_at hl 2 rfl) ?_
  refine lv_iload_n hx hb dX11_addBytes_16 rfl (lv_at hl 0 rfl) ?_
  obtain ⟨z1, ez1⟩ : ∃ y : Int32, y = ((v : Int32).toUInt32 >>> ((24 : Int32).toUInt32 &&& Int32.toUInt32 31)).toInt32 := ⟨_, rfl⟩
  refine lv_iushr (v := z1) hx hb dX11_addBytes_17 ez1.symm ?_
  refine lv_sipush (v := 255) hx hb dX11_addBytes_18 (by decide) ?_
  refine lv_iand hx hb dX11_addBytes_21 ?_
  refine lv_topi (fun z2 ez2 => ?_)
  have hPc := hP.sub (ws' := [(qt, .inl (kt, 900, .inl f))]) [1] rfl
  have hDc := hD.sub (ws' := [(qt, .inl (kt, 900, .inl f))]) [1] (by decide) rfl
  have hKc := hK.sub (tys' := [(kt, .int)]) [0] rfl
  have hFc := va_free (wc := [(qt, .inl (kt, 900, .inl f))]) hD hS hA [1] rfl
  refine va_callv (va_runS (As := [.ref qt, .int 12, .int z2]) (rest := []) ⟨hx, hb, hml, hown, hts⟩ (c_X11_put l dC dI _ qt kt 900 f 12 z2 (by first | decide | (unfold vp_in; decide)) (by first | decide | (unfold vp_in; decide)) (by first | decide | (unfold vp_in; decide))) (va_cwS 3 hts hX11_addBytes_X11_put_s58 rfl rfl rfl (by decide +kernel) ⟨Nat.le_of_ble_eq_true rfl, Nat.le_of_ble_eq_true rfl⟩) ⟨zPre.blind, zPre.go hZ hPc hKc hDc⟩ rfl rfl hl.1 rfl (lv_room (Nat.le_of_ble_eq_true rfl)) dX11_addBytes_22 ⟨Nat.le_of_ble_eq_true rfl, Nat.le_of_ble_eq_true rfl⟩) hS (fun q _ h => hFc q h) hFc (fun u9 t9 H1 locs ht hvm hw hB hz1 hk1 hS => ?_)
  obtain ⟨g_4, hP1, hK1, hD1⟩ := hB
  rw [ht] at hP1
  have hK1 := va_K.moved hvm.symm hK1
  obtain ⟨hP, hD⟩ := va_join (wr := [(h0, .inr (10, [.ref qt, x_told, x_code, x_reader, x_machine, .int 12, x_latestFault, x_hasProgram, x_hasRun]))]) (w1 := [(qt, .inl (kt, 900, .inl g_4))]) hP hD [1] [0] rfl rfl (by decide) (by decide) hk1 hFc hP1 hD1
  have hK := hK.app hK1
  generalize H1 = H at hP hS ⊢
  have hP : va_P (dC, dI) vwCl [(h0, .inr (10, [.ref qt, x_told, x_code, x_reader, x_machine, .int 12, x_latestFault, x_hasProgram, x_hasRun])), (qt, .inl (kt, 900, .inl g_4))] H := hP
  have hD : va_D A [(h0, .inr (10, [.ref qt, x_told, x_code, x_reader, x_machine, .int 12, x_latestFault, x_hasProgram, x_hasRun])), (qt, .inl (kt, 900, .inl g_4))] := hD
  have hK : va_K (dC, dI) vwCl [(kt, .int), (kt, .int)] s := hK
  have hK : va_K (dC, dI) vwCl [(kt, .int)] s := hK.sub [0] rfl
  refine lv_aload_n hx hb dX11_addBytes_25 rfl (lv_at hl 1 rfl) ?_
  refine lv_dup hx hb dX11_addBytes_26 rfl ?_
  refine va_get (D := (dC, dI)) (ci := 10) (v := .int 12) (C := RX11) (T := TX11) (N := 9) hx hb hts i_X11_addBytes_X11 hown hK hP 0 rfl rfl 5 (by decide) (hts (.fieldLink RX11 50 "StatementRules2" "length" "I") k_X11_addBytes_fieldLink_RX11_50_SR_length_I) (fun _ h9 => h9) rfl dX11_addBytes_27 ?_
  refine lv_iconst (v := 1) hx hb dX11_addBytes_30 (by decide) ?_
  refine lv_iadd hx hb dX11_addBytes_31 ?_
  refine lv_topi (fun z5 ez5 => ?_)
  obtain rfl : z5 = 13 := ez5.trans (by decide)
  refine va_put (D := (dC, dI)) (ci := 10) (v := .int 13) (ty := .int) (C := RX11) (T := TX11) (N := 9) hx hb hts i_X11_addBytes_X11 tyX11 tyX11_ok nmX11 hown hK hP hD hS 0 rfl rfl 5 (by decide) (hts (.fieldLink RX11 50 "StatementRules2" "length" "I") k_X11_addBytes_fieldLink_RX11_50_SR_length_I) (fun _ h9 => h9) rfl (by decide +kernel) rfl rfl (Nat.le_of_ble_eq_true rfl) dX11_addBytes_32 (fun H locs hP hD hS => ?_)
  have hP : va_P (dC, dI) vwCl [(h0, .inr (10, [.ref qt, x_told, x_code, x_reader, x_machine, .int 13, x_latestFault, x_hasProgram, x_hasRun])), (qt, .inl (kt, 900, .inl g_4))] H := hP
  have hD : va_D A [(h0, .inr (10, [.ref qt, x_told, x_code, x_reader, x_machine, .int 13, x_latestFault, x_hasProgram, x_hasRun])), (qt, .inl (kt, 900, .inl g_4))] := hD
  refine lv_iinc (v := 16) (lv' := [(2, .int 16), (0, .ref h0), (1, .int v)]) hx hb dX11_addBytes_35 hl (k := 0) rfl (by decide) (by decide) rfl (fun ls hl => ?_)
  refine lv_goto (tgt := 3) hx hb dX11_addBytes_38 (by decide) ?_
  refine lv_iload_n hx hb dX11_addBytes_3 rfl (lv_at hl 0 rfl) ?_
  refine lv_if_lt (tgt := 41) hx hb dX11_addBytes_4 (by decide) (fun c9 => absurd c9 (by decide)) (fun _ => ?_)
  refine lv_aload_n hx hb dX11_addBytes_7 rfl (lv_at hl 1 rfl) ?_
  refine va_get (D := (dC, dI)) (ci := 10) (v := .ref qt) (C := RX11) (T := TX11) (N := 9) hx hb hts i_X11_addBytes_X11 hown hK hP 0 rfl rfl 0 (by decide) (hts (.fieldLink RX11 9 "StatementRules2" "tape" "[I") k_X11_addBytes_fieldLink_RX11_9_SR_tape_I) (fun _ h9 => h9) rfl dX11_addBytes_8 ?_
  refine lv_aload_n hx hb dX11_addBytes_11 rfl (lv_at hl 1 rfl) ?_
  refine va_get (D := (dC, dI)) (ci := 10) (v := .int 13) (C := RX11) (T := TX11) (N := 9) hx hb hts i_X11_addBytes_X11 hown hK hP 0 rfl rfl 5 (by decide) (hts (.fieldLink RX11 50 "StatementRules2" "length" "I") k_X11_addBytes_fieldLink_RX11_50_SR_length_I) (fun _ h9 => h9) rfl dX11_addBytes_12 ?_
  refine lv_iload_n hx hb dX11_addBytes_15 rfl (lv_at hl 2 rfl) ?_
  refine lv_iload_n hx hb dX11_addBytes_16 rfl (lv_at hl 0 rfl) ?_
  obtain ⟨z6, ez6⟩ : ∃ y : Int32, y = ((v : Int32).toUInt32 >>> ((16 : Int32).toUInt32 &&& Int32.toUInt32 31)).toInt32 := ⟨_, rfl⟩
  refine lv_iushr (v := z6) hx hb dX11_addBytes_17 ez6.symm ?_
  refine lv_sipush (v := 255) hx hb dX11_addBytes_18 (by decide) ?_
  refine lv_iand hx hb dX11_addBytes_21 ?_
  refine lv_topi (fun z7 ez7 => ?_)
  have hPc := hP.sub (ws' := [(qt, .inl (kt, 900, .inl g_4))]) [1] rfl
  have hDc := hD.sub (ws' := [(qt, .inl (kt, 900, .inl g_4))]) [1] (by decide) rfl
  have hKc := hK.sub (tys' := [(kt, .int)]) [0] rfl
  have hFc := va_free (wc := [(qt, .inl (kt, 900, .inl g_4))]) hD hS hA [1] rfl
  refine va_callv (va_runS (As := [.ref qt, .int 13, .int z7]) (rest := []) ⟨hx, hb, hml, hown, hts⟩ (c_X11_put l dC dI _ qt kt 900 g_4 13 z7 (by first | decide | (unfold vp_in; decide)) (by first | decide | (unfold vp_in; decide)) (by first | decide | (unfold vp_in; decide))) (va_cwS 3 hts hX11_addBytes_X11_put_s58 rfl rfl rfl (by decide +kernel) ⟨Nat.le_of_ble_eq_true rfl, Nat.le_of_ble_eq_true rfl⟩) ⟨zPre.blind, zPre.go hZ hPc hKc hDc⟩ rfl rfl hl.1 rfl (lv_room (Nat.le_of_ble_eq_true rfl)) dX11_addBytes_22 ⟨Nat.le_of_ble_eq_true rfl, Nat.le_of_ble_eq_true rfl⟩) hS (fun q _ h => hFc q h) hFc (fun u9 t9 H1 locs ht hvm hw hB hz1 hk1 hS => ?_)
  obtain ⟨g_9, hP1, hK1, hD1⟩ := hB
  rw [ht] at hP1
  have hK1 := va_K.moved hvm.symm hK1
  obtain ⟨hP, hD⟩ := va_join (wr := [(h0, .inr (10, [.ref qt, x_told, x_code, x_reader, x_machine, .int 13, x_latestFault, x_hasProgram, x_hasRun]))]) (w1 := [(qt, .inl (kt, 900, .inl g_9))]) hP hD [1] [0] rfl rfl (by decide) (by decide) hk1 hFc hP1 hD1
  have hK := hK.app hK1
  generalize H1 = H at hP hS ⊢
  have hP : va_P (dC, dI) vwCl [(h0, .inr (10, [.ref qt, x_told, x_code, x_reader, x_machine, .int 13, x_latestFault, x_hasProgram, x_hasRun])), (qt, .inl (kt, 900, .inl g_9))] H := hP
  have hD : va_D A [(h0, .inr (10, [.ref qt, x_told, x_code, x_reader, x_machine, .int 13, x_latestFault, x_hasProgram, x_hasRun])), (qt, .inl (kt, 900, .inl g_9))] := hD
  have hK : va_K (dC, dI) vwCl [(kt, .int), (kt, .int)] s := hK
  have hK : va_K (dC, dI) vwCl [(kt, .int)] s := hK.sub [0] rfl
  refine lv_aload_n hx hb dX11_addBytes_25 rfl (lv_at hl 1 rfl) ?_
  refine lv_dup hx hb dX11_addBytes_26 rfl ?_
  refine va_get (D := (dC, dI)) (ci := 10) (v := .int 13) (C := RX11) (T := TX11) (N := 9) hx hb hts i_X11_addBytes_X11 hown hK hP 0 rfl rfl 5 (by decide) (hts (.fieldLink RX11 50 "StatementRules2" "length" "I") k_X11_addBytes_fieldLink_RX11_50_SR_length_I) (fun _ h9 => h9) rfl dX11_addBytes_27 ?_
  refine lv_iconst (v := 1) hx hb dX11_addBytes_30 (by decide) ?_
  refine lv_iadd hx hb dX11_addBytes_31 ?_
  refine lv_topi (fun z10 ez10 => ?_)
  obtain rfl : z10 = 14 := ez10.trans (by decide)
  refine va_put (D := (dC, dI)) (ci := 10) (v := .int 14) (ty := .int) (C := RX11) (T := TX11) (N := 9) hx hb hts i_X11_addBytes_X11 tyX11 tyX11_ok nmX11 hown hK hP hD hS 0 rfl rfl 5 (by decide) (hts (.fieldLink RX11 50 "StatementRules2" "length" "I") k_X11_addBytes_fieldLink_RX11_50_SR_length_I) (fun _ h9 => h9) rfl (by decide +kernel) rfl rfl (Nat.le_of_ble_eq_true rfl) dX11_addBytes_32 (fun H locs hP hD hS => ?_)
  have hP : va_P (dC, dI) vwCl [(h0, .inr (10, [.ref qt, x_told, x_code, x_reader, x_machine, .int 14, x_latestFault, x_hasProgram, x_hasRun])), (qt, .inl (kt, 900, .inl g_9))] H := hP
  have hD : va_D A [(h0, .inr (10, [.ref qt, x_told, x_code, x_reader, x_machine, .int 14, x_latestFault, x_hasProgram, x_hasRun])), (qt, .inl (kt, 900, .inl g_9))] := hD
  refine lv_iinc (v := 8) (lv' := [(2, .int 8), (0, .ref h0), (1, .int v)]) hx hb dX11_addBytes_35 hl (k := 0) rfl (by decide) (by decide) rfl (fun ls hl => ?_)
  refine lv_goto (tgt := 3) hx hb dX11_addBytes_38 (by decide) ?_
  refine lv_iload_n hx hb dX11_addBytes_3 rfl (lv_at hl 0 rfl) ?_
  refine lv_if_lt (tgt := 41) hx hb dX11_addBytes_4 (by decide) (fun c9 => absurd c9 (by decide)) (fun _ => ?_)
  refine lv_aload_n hx hb dX11_addBytes_7 rfl (lv_at hl 1 rfl) ?_
  refine va_get (D := (dC, dI)) (ci := 10) (v := .ref qt) (C := RX11) (T := TX11) (N := 9) hx hb hts i_X11_addBytes_X11 hown hK hP 0 rfl rfl 0 (by decide) (hts (.fieldLink RX11 9 "StatementRules2" "tape" "[I") k_X11_addBytes_fieldLink_RX11_9_SR_tape_I) (fun _ h9 => h9) rfl dX11_addBytes_8 ?_
  refine lv_aload_n hx hb dX11_addBytes_11 rfl (lv_at hl 1 rfl) ?_
  refine va_get (D := (dC, dI)) (ci := 10) (v := .int 14) (C := RX11) (T := TX11) (N := 9) hx hb hts i_X11_addBytes_X11 hown hK hP 0 rfl rfl 5 (by decide) (hts (.fieldLink RX11 50 "StatementRules2" "length" "I") k_X11_addBytes_fieldLink_RX11_50_SR_length_I) (fun _ h9 => h9) rfl dX11_addBytes_12 ?_
  refine lv_iload_n hx hb dX11_addBytes_15 rfl (lv_at hl 2 rfl) ?_
  refine lv_iload_n hx hb dX11_addBytes_16 rfl (lv_at hl 0 rfl) ?_
  obtain ⟨z11, ez11⟩ : ∃ y : Int32, y = ((v : Int32).toUInt32 >>> ((8 : Int32).toUInt32 &&& Int32.toUInt32 31)).toInt32 := ⟨_, rfl⟩
  refine lv_iushr (v := z11) hx hb dX11_addBytes_17 ez11.symm ?_
  refine lv_sipush (v := 255) hx hb dX11_addBytes_18 (by decide) ?_
  refine lv_iand hx hb dX11_addBytes_21 ?_
  refine lv_topi (fun z12 ez12 => ?_)
  have hPc := hP.sub (ws' := [(qt, .inl (kt, 900, .inl g_9))]) [1] rfl
  have hDc := hD.sub (ws' := [(qt, .inl (kt, 900, .inl g_9))]) [1] (by decide) rfl
  have hKc := hK.sub (tys' := [(kt, .int)]) [0] rfl
  have hFc := va_free (wc := [(qt, .inl (kt, 900, .inl g_9))]) hD hS hA [1] rfl
  refine va_callv (va_runS (As := [.ref qt, .int 14, .int z12]) (rest := []) ⟨hx, hb, hml, hown, hts⟩ (c_X11_put l dC dI _ qt kt 900 g_9 14 z12 (by first | decide | (unfold vp_in; decide)) (by first | decide | (unfold vp_in; decide)) (by first | decide | (unfold vp_in; decide))) (va_cwS 3 hts hX11_addBytes_X11_put_s58 rfl rfl rfl (by decide +kernel) ⟨Nat.le_of_ble_eq_true rfl, Nat.le_of_ble_eq_true rfl⟩) ⟨zPre.blind, zPre.go hZ hPc hKc hDc⟩ rfl rfl hl.1 rfl (lv_room (Nat.le_of_ble_eq_true rfl)) dX11_addBytes_22 ⟨Nat.le_of_ble_eq_true rfl, Nat.le_of_ble_eq_true rfl⟩) hS (fun q _ h => hFc q h) hFc (fun u9 t9 H1 locs ht hvm hw hB hz1 hk1 hS => ?_)
  obtain ⟨g_14, hP1, hK1, hD1⟩ := hB
  rw [ht] at hP1
  have hK1 := va_K.moved hvm.symm hK1
  obtain ⟨hP, hD⟩ := va_join (wr := [(h0, .inr (10, [.ref qt, x_told, x_code, x_reader, x_machine, .int 14, x_latestFault, x_hasProgram, x_hasRun]))]) (w1 := [(qt, .inl (kt, 900, .inl g_14))]) hP hD [1] [0] rfl rfl (by decide) (by decide) hk1 hFc hP1 hD1
  have hK := hK.app hK1
  generalize H1 = H at hP hS ⊢
  have hP : va_P (dC, dI) vwCl [(h0, .inr (10, [.ref qt, x_told, x_code, x_reader, x_machine, .int 14, x_latestFault, x_hasProgram, x_hasRun])), (qt, .inl (kt, 900, .inl g_14))] H := hP
  have hD : va_D A [(h0, .inr (10, [.ref qt, x_told, x_code, x_reader, x_machine, .int 14, x_latestFault, x_hasProgram, x_hasRun])), (qt, .inl (kt, 900, .inl g_14))] := hD
  have hK : va_K (dC, dI) vwCl [(kt, .int), (kt, .int)] s := hK
  have hK : va_K (dC, dI) vwCl [(kt, .int)] s := hK.sub [0] rfl
  refine lv_aload_n hx hb dX11_addBytes_25 rfl (lv_at hl 1 rfl) ?_
  refine lv_dup hx hb dX11_addBytes_26 rfl ?_
  refine va_get (D := (dC, dI)) (ci := 10) (v := .int 14) (C := RX11) (T := TX11) (N := 9) hx hb hts i_X11_addBytes_X11 hown hK hP 0 rfl rfl 5 (by decide) (hts (.fieldLink RX11 50 "StatementRules2" "length" "I") k_X11_addBytes_fieldLink_RX11_50_SR_length_I) (fun _ h9 => h9) rfl dX11_addBytes_27 ?_
  refine lv_iconst (v := 1) hx hb dX11_addBytes_30 (by decide) ?_
  refine lv_iadd hx hb dX11_addBytes_31 ?_
  refine lv_topi (fun z15 ez15 => ?_)
  obtain rfl : z15 = 15 := ez15.trans (by decide)
  refine va_put (D := (dC, dI)) (ci := 10) (v := .int 15) (ty := .int) (C := RX11) (T := TX11) (N := 9) hx hb hts i_X11_addBytes_X11 tyX11 tyX11_ok nmX11 hown hK hP hD hS 0 rfl rfl 5 (by decide) (hts (.fieldLink RX11 50 "StatementRules2" "length" "I") k_X11_addBytes_fieldLink_RX11_50_SR_length_I) (fun _ h9 => h9) rfl (by decide +kernel) rfl rfl (Nat.le_of_ble_eq_true rfl) dX11_addBytes_32 (fun H locs hP hD hS => ?_)
  have hP : va_P (dC, dI) vwCl [(h0, .inr (10, [.ref qt, x_told, x_code, x_reader, x_machine, .int 15, x_latestFault, x_hasProgram, x_hasRun])), (qt, .inl (kt, 900, .inl g_14))] H := hP
  have hD : va_D A [(h0, .inr (10, [.ref qt, x_told, x_code, x_reader, x_machine, .int 15, x_latestFault, x_hasProgram, x_hasRun])), (qt, .inl (kt, 900, .inl g_14))] := hD
  refine lv_iinc (v := 0) (lv' := [(2, .int 0), (0, .ref h0), (1, .int v)]) hx hb dX11_addBytes_35 hl (k := 0) rfl (by decide) (by decide) rfl (fun ls hl => ?_)
  refine lv_goto (tgt := 3) hx hb dX11_addBytes_38 (by decide) ?_
  refine lv_iload_n hx hb dX11_addBytes_3 rfl (lv_at hl 0 rfl) ?_
  refine lv_if_lt (tgt := 41) hx hb dX11_addBytes_4 (by decide) (fun c9 => absurd c9 (by decide)) (fun _ => ?_)
  refine lv_aload_n hx hb dX11_addBytes_7 rfl (lv_at hl 1 rfl) ?_
  refine va_get (D := (dC, dI)) (ci := 10) (v := .ref qt) (C := RX11) (T := TX11) (N := 9) hx hb hts i_X11_addBytes_X11 hown hK hP 0 rfl rfl 0 (by decide) (hts (.fieldLink RX11 9 "StatementRules2" "tape" "[I") k_X11_addBytes_fieldLink_RX11_9_SR_tape_I) (fun _ h9 => h9) rfl dX11_addBytes_8 ?_
  refine lv_aload_n hx hb dX11_addBytes_11 rfl (lv_at hl 1 rfl) ?_
  refine va_get (D := (dC, dI)) (ci := 10) (v := .int 15) (C := RX11) (T := TX11) (N := 9) hx hb hts i_X11_addBytes_X11 hown hK hP 0 rfl rfl 5 (by decide) (hts (.fieldLink RX11 50 "StatementRules2" "length" "I") k_X11_addBytes_fieldLink_RX11_50_SR_length_I) (fun _ h9 => h9) rfl dX11_addBytes_12 ?_
  refine lv_iload_n hx hb dX11_addBytes_15 rfl (lv_at hl 2 rfl) ?_
  refine lv_iload_n hx hb dX11_addBytes_16 rfl (lv_at hl 0 rfl) ?_
  obtain ⟨z16, ez16⟩ : ∃ y : Int32, y = ((v : Int32).toUInt32 >>> ((0 : Int32).toUInt32 &&& Int32.toUInt32 31)).toInt32 := ⟨_, rfl⟩
  refine lv_iushr (v := z16) hx hb dX11_addBytes_17 ez16.symm ?_
  refine lv_sipush (v := 255) hx hb dX11_addBytes_18 (by decide) ?_
  refine lv_iand hx hb dX11_addBytes_21 ?_
  refine lv_topi (fun z17 ez17 => ?_)
  have hPc := hP.sub (ws' := [(qt, .inl (kt, 900, .inl g_14))]) [1] rfl
  have hDc := hD.sub (ws' := [(qt, .inl (kt, 900, .inl g_14))]) [1] (by decide) rfl
  have hKc := hK.sub (tys' := [(kt, .int)]) [0] rfl
  have hFc := va_free (wc := [(qt, .inl (kt, 900, .inl g_14))]) hD hS hA [1] rfl
  refine va_callv (va_runS (As := [.ref qt, .int 15, .int z17]) (rest := []) ⟨hx, hb, hml, hown, hts⟩ (c_X11_put l dC dI _ qt kt 900 g_14 15 z17 (by first | decide | (unfold vp_in; decide)) (by first | decide | (unfold vp_in; decide)) (by first | decide | (unfold vp_in; decide))) (va_cwS 3 hts hX11_addBytes_X11_put_s58 rfl rfl rfl (by decide +kernel) ⟨Nat.le_of_ble_eq_true rfl, Nat.le_of_ble_eq_true rfl⟩) ⟨zPre.blind, zPre.go hZ hPc hKc hDc⟩ rfl rfl hl.1 rfl (lv_room (Nat.le_of_ble_eq_true rfl)) dX11_addBytes_22 ⟨Nat.le_of_ble_eq_true rfl, Nat.le_of_ble_eq_true rfl⟩) hS (fun q _ h => hFc q h) hFc (fun u9 t9 H1 locs ht hvm hw hB hz1 hk1 hS => ?_)
  obtain ⟨g_19, hP1, hK1, hD1⟩ := hB
  rw [ht] at hP1
  have hK1 := va_K.moved hvm.symm hK1
  obtain ⟨hP, hD⟩ := va_join (wr := [(h0, .inr (10, [.ref qt, x_told, x_code, x_reader, x_machine, .int 15, x_latestFault, x_hasProgram, x_hasRun]))]) (w1 := [(qt, .inl (kt, 900, .inl g_19))]) hP hD [1] [0] rfl rfl (by decide) (by decide) hk1 hFc hP1 hD1
  have hK := hK.app hK1
  generalize H1 = H at hP hS ⊢
  have hP : va_P (dC, dI) vwCl [(h0, .inr (10, [.ref qt, x_told, x_code, x_reader, x_machine, .int 15, x_latestFault, x_hasProgram, x_hasRun])), (qt, .inl (kt, 900, .inl g_19))] H := hP
  have hD : va_D A [(h0, .inr (10, [.ref qt, x_told, x_code, x_reader, x_machine, .int 15, x_latestFault, x_hasProgram, x_hasRun])), (qt, .inl (kt, 900, .inl g_19))] := hD
  have hK : va_K (dC, dI) vwCl [(kt, .int), (kt, .int)] s := hK
  have hK : va_K (dC, dI) vwCl [(kt, .int)] s := hK.sub [0] rfl
  refine lv_aload_n hx hb dX11_addBytes_25 rfl (lv_at hl 1 rfl) ?_
  refine lv_dup hx hb dX11_addBytes_26 rfl ?_
  refine va_get (D := (dC, dI)) (ci := 10) (v := .int 15) (C := RX11) (T := TX11) (N := 9) hx hb hts i_X11_addBytes_X11 hown hK hP 0 rfl rfl 5 (by decide) (hts (.fieldLink RX11 50 "StatementRules2" "length" "I") k_X11_addBytes_fieldLink_RX11_50_SR_length_I) (fun _ h9 => h9) rfl dX11_addBytes_27 ?_
  refine lv_iconst (v := 1) hx hb dX11_addBytes_30 (by decide) ?_
  refine lv_iadd hx hb dX11_addBytes_31 ?_
  refine lv_topi (fun z20 ez20 => ?_)
  obtain rfl : z20 = 16 := ez20.trans (by decide)
  refine va_put (D := (dC, dI)) (ci := 10) (v := .int 16) (ty := .int) (C := RX11) (T := TX11) (N := 9) hx hb hts i_X11_addBytes_X11 tyX11 tyX11_ok nmX11 hown hK hP hD hS 0 rfl rfl 5 (by decide) (hts (.fieldLink RX11 50 "StatementRules2" "length" "I") k_X11_addBytes_fieldLink_RX11_50_SR_length_I) (fun _ h9 => h9) rfl (by decide +kernel) rfl rfl (Nat.le_of_ble_eq_true rfl) dX11_addBytes_32 (fun H locs hP hD hS => ?_)
  have hP : va_P (dC, dI) vwCl [(h0, .inr (10, [.ref qt, x_told, x_code, x_reader, x_machine, .int 16, x_latestFault, x_hasProgram, x_hasRun])), (qt, .inl (kt, 900, .inl g_19))] H := hP
  have hD : va_D A [(h0, .inr (10, [.ref qt, x_told, x_code, x_reader, x_machine, .int 16, x_latestFault, x_hasProgram, x_hasRun])), (qt, .inl (kt, 900, .inl g_19))] := hD
  refine lv_iinc (v := (-8)) (lv' := [(2, .int (-8)), (0, .ref h0), (1, .int v)]) hx hb dX11_addBytes_35 hl (k := 0) rfl (by decide) (by decide) rfl (fun ls hl => ?_)
  refine lv_goto (tgt := 3) hx hb dX11_addBytes_38 (by decide) ?_
  refine lv_iload_n hx hb dX11_addBytes_3 rfl (lv_at hl 0 rfl) ?_
  refine lv_if_lt (tgt := 41) hx hb dX11_addBytes_4 (by decide) (fun _ => ?_) (fun c9 => absurd (by decide) c9)
  have hP9 := hP.sub (ws' := [(h0, .inr (10, [.ref qt, x_told, x_code, x_reader, x_machine, .int 16, x_latestFault, x_hasProgram, x_hasRun])), (qt, .inl (kt, 900, .inl g_19))]) [0, 1] rfl
  have hD9 := hD.sub (ws' := [(h0, .inr (10, [.ref qt, x_told, x_code, x_reader, x_machine, .int 16, x_latestFault, x_hasProgram, x_hasRun])), (qt, .inl (kt, 900, .inl g_19))]) [0, 1] (by decide) rfl
  have hK9 := hK.sub (tys' := [(kt, .int)]) [0] rfl
  exact W.vret hx hb hr (fun t ht hW => ⟨⟨(), rfl, trivial, g_19, by rw [ht]; exact hP9, va_K.moved hW.alike hK9, hD9⟩, hS.F ht⟩) hS.2.2 dX11_addBytes_41
set_option maxHeartbeats 4000000 in
set_option maxRecDepth 100000 in
theorem c_X11_addBytes_16 (l : Launch) (dC : Nat → ClassId) (dI : Nat → Nat → Nat) (sz : Nat) (h0 : Nat) (v : Int32) (qt : Nat) (kt : ClassId) (f : Nat → Int32) (x_told : Value) (x_code : Value) (x_reader : Value) (x_machine : Value) (x_latestFault : Value) (x_hasProgram : Value) (x_hasRun : Value) : Met l yX11_addBytes wzX11_addBytes ({ frames := 2, cells := 0, slots := 0, locals := 120 }) (va_Pc [.ref h0, .int v] (zPre dC dI sz [(h0, .inr (10, [.ref qt, x_told, x_code, x_reader, x_machine, .int 16, x_latestFault, x_hasProgram, x_hasRun])), (qt, .inl (kt, 900, .inl f))] [(kt, .int)])) (va_Qv (fun (_ : Unit) => True) (fun (_ : Unit) (t : State) => ∃ (g : Nat → Int32), zPost dC dI (va_A [(h0, .inr (10, [.ref qt, x_told, x_code, x_reader, x_machine, .int 16, x_latestFault, x_hasProgram, x_hasRun])), (qt, .inl (kt, 900, .inl f))] sz) [(h0, .inr (10, [.ref qt, x_told, x_code, x_reader, x_machine, .int 20, x_latestFault, x_hasProgram, x_hasRun])), (qt, .inl (kt, 900, .inl g))] [(kt, .int)] t) (va_A [(h0, .inr (10, [.ref qt, x_told, x_code, x_reader, x_machine, .int 16, x_latestFault, x_hasProgram, x_hasRun])), (qt, .inl (kt, 900, .inl f))] sz)) 0 0 (va_A [(h0, .inr (10, [.ref qt, x_told, x_code, x_reader, x_machine, .int 16, x_latestFault, x_hasProgram, x_hasRun])), (qt, .inl (kt, 900, .inl f))] sz) := by
  refine Met.ofW (cc := cX11_addBytes) (maxL := 3) (ret := none) (by decide) rfl ?_
  intro p e s m args below meth c s₁ B hml hv
  obtain ⟨rfl, hsz, hZ, hP, hK, hD0⟩ := hv
  have hx := B.exec
  have hb := B.bytes
  have hr := B.returns
  have hts := atoms_spec (ws := wzX11_addBytes) B.pre
  have hown : s.vm.findClass RX11 = some m.cls := findClass_of_methodNamed B.named
  have hlocks := B.notSynchronized
  subst hsz
  have hD := hD0.self (sz := s.heap.size)
  generalize hAe : va_A [(h0, .inr (10, [.ref qt, x_told, x_code, x_reader, x_machine, .int 16, x_latestFault, x_hasProgram, x_hasRun])), (qt, .inl (kt, 900, .inl f))] s.heap.size = A at hD ⊢
  have hA : ∀ q : Nat, s.heap.size ≤ q → A q := fun q h => by rw [← hAe]; exact Or.inr h
  have hS : va_S A s.heap s.heap [] := va_S.rf
  have hP : va_P (dC, dI) vwCl [(h0, .inr (10, [.ref qt, x_told, x_code, x_reader, x_machine, .int 16, x_latestFault, x_hasProgram, x_hasRun])), (qt, .inl (kt, 900, .inl f))] s.heap := hP
  have hl := lv_entry ([.ref h0, .int v]) (n := 3) (Nat.le_of_ble_eq_true rfl)
  rw [lg_entry_eq]
  generalize (lg_sl ([.ref h0, .int v]) ++ List.replicate (3 - (lg_sl ([.ref h0, .int v])).length) Slot.unset).toArray = ls at hl ⊢
  have hl : lv_has ls 3 [(0, .ref h0), (1, .int v)] := hl
  refine lv_bipush (v := 24) hx hb dX11_addBytes_0 (by decide) ?_
  refine lv_istore_n (lv' := [(2, .int 24), (0, .ref h0), (1, .int v)]) hx hb dX11_addBytes_2 rfl hl (by decide) rfl (fun ls hl => ?_)
  refine lv_iload_n hx hb dX11_addBytes_3 rfl (lv_at hl 0 rfl) ?_
  refine lv_if_lt (tgt := 41) hx hb dX11_addBytes_4 (by decide) (fun c9 => absurd c9 (by decide)) (fun _ => ?_)
  refine lv_aload_n hx hb dX11_addBytes_7 rfl (lv_at hl 1 rfl) ?_
  refine va_get (D := (dC, dI)) (ci := 10) (v := .ref qt) (C := RX11) (T := TX11) (N := 9) hx hb hts i_X11_addBytes_X11 hown hK hP 0 rfl rfl 0 (by decide) (hts (.fieldLink RX11 9 "StatementRules2" "tape" "[I") k_X11_addBytes_fieldLink_RX11_9_SR_tape_I) (fun _ h9 => h9) rfl dX11_addBytes_8 ?_
  refine lv_aload_n hx hb dX11_addBytes_11 rfl (lv_at hl 1 rfl) ?_
  refine va_get (D := (dC, dI)) (ci := 10) (v := .int 16) (C := RX11) (T := TX11) (N := 9) hx hb hts i_X11_addBytes_X11 hown hK hP 0 rfl rfl 5 (by decide) (hts (.fieldLink RX11 50 "StatementRules2" "length" "I") k_X11_addBytes_fieldLink_RX11_50_SR_length_I) (fun _ h9 => h9) rfl dX11_addBytes_12 ?_
  refine lv_iload_n hx hb dX11_addBytes_15 rfl (lv_at hl 2 rfl) ?_
  refine lv_iload_n hx hb dX11_addBytes_16 rfl (lv_at hl 0 rfl) ?_
  obtain ⟨z1, ez1⟩ : ∃ y : Int32, y = ((v : Int32).toUInt32 >>> ((24 : Int32).toUInt32 &&& Int32.toUInt32 31)).toInt32 := ⟨_, rfl⟩
  refine lv_iushr (v := z1) hx hb dX11_addBytes_17 ez1.symm ?_
  refine lv_sipush (v := 255) hx hb dX11_addBytes_18 (by decide) ?_
  refine lv_iand hx hb dX11_addBytes_21 ?_
  refine lv_topi (fun z2 ez2 => ?_)
  have hPc := hP.sub (ws' := [(qt, .inl (kt, 900, .inl f))]) [1] rfl
  have hDc := hD.sub (ws' := [(qt, .inl (kt, 900, .inl f))]) [1] (by decide) rfl
  have hKc := hK.sub (tys' := [(kt, .int)]) [0] rfl
  have hFc := va_free (wc := [(qt, .inl (kt, 900, .inl f))]) hD hS hA [1] rfl
  refine va_callv (va_runS (As := [.ref qt, .int 16, .int z2]) (rest := []) ⟨hx, hb, hml, hown, hts⟩ (c_X11_put l dC dI _ qt kt 900 f 16 z2 (by first | decide | (unfold vp_in; decide)) (by first | decide | (unfold vp_in; decide)) (by first | decide | (unfold vp_in; decide))) (va_cwS 3 hts hX11_addBytes_X11_put_s58 rfl rfl rfl (by decide +kernel) ⟨Nat.le_of_ble_eq_true rfl, Nat.le_of_ble_eq_true rfl⟩) ⟨zPre.blind, zPre.go hZ hPc hKc hDc⟩ rfl rfl hl.1 rfl (lv_room (Nat.le_of_ble_eq_true rfl)) dX11_addBytes_22 ⟨Nat.le_of_ble_eq_true rfl, Nat.le_of_ble_eq_true rfl⟩) hS (fun q _ h => hFc q h) hFc (fun u9 t9 H1 locs ht hvm hw hB hz1 hk1 hS => ?_)
  obtain ⟨g_4, hP1, hK1, hD1⟩ := hB
  rw [ht] at hP1
  have hK1 := va_K.moved hvm.symm hK1
  obtain ⟨hP, hD⟩ := va_join (wr := [(h0, .inr (10, [.ref qt, x_told, x_code, x_reader, x_machine, .int 16, x_latestFault, x_hasProgram, x_hasRun]))]) (w1 := [(qt, .inl (kt, 900, .inl g_4))]) hP hD [1] [0] rfl rfl (by decide) (by decide) hk1 hFc hP1 hD1
  have hK := hK.app hK1
  generalize H1 = H at hP hS ⊢
  have hP : va_P (dC, dI) vwCl [(h0, .inr (10, [.ref qt, x_told, x_code, x_reader, x_machine, .int 16, x_latestFault, x_hasProgram, x_hasRun])), (qt, .inl (kt, 900, .inl g_4))] H := hP
  have hD : va_D A [(h0, .inr (10, [.ref qt, x_told, x_code, x_reader, x_machine, .int 16, x_latestFault, x_hasProgram, x_hasRun])), (qt, .inl (kt, 900, .inl g_4))] := hD
  have hK : va_K (dC, dI) vwCl [(kt, .int), (kt, .int)] s := hK
  have hK : va_K (dC, dI) vwCl [(kt, .int)] s := hK.sub [0] rfl
  refine lv_aload_n hx hb dX11_addBytes_25 rfl (lv_at hl 1 rfl) ?_
  refine lv_dup hx hb dX11_addBytes_26 rfl ?_
  refine va_get (D := (dC, dI)) (ci := 10) (v := .int 16) (C := RX11) (T := TX11) (N := 9) hx hb hts i_X11_addBytes_X11 hown hK hP 0 rfl rfl 5 (by decide) (hts (.fieldLink RX11 50 "StatementRules2" "length" "I") k_X11_addBytes_fieldLink_RX11_50_SR_length_I) (fun _ h9 => h9) rfl dX11_addBytes_27 ?_
  refine lv_iconst (v := 1) hx hb dX11_addBytes_30 (by decide) ?_
  refine lv_iadd hx hb dX11_addBytes_31 ?_
  refine lv_topi (fun z5 ez5 => ?_)
  obtain rfl : z5 = 17 := ez5.trans (by decide)
  refine va_put (D := (dC, dI)) (ci := 10) (v := .int 17) (ty := .int) (C := RX11) (T := TX11) (N := 9) hx hb hts i_X11_addBytes_X11 tyX11 tyX11_ok nmX11 hown hK hP hD hS 0 rfl rfl 5 (by decide) (hts (.fieldLink RX11 50 "StatementRules2" "length" "I") k_X11_addBytes_fieldLink_RX11_50_SR_length_I) (fun _ h9 => h9) rfl (by decide +kernel) rfl rfl (Nat.le_of_ble_eq_true rfl) dX11_addBytes_32 (fun H locs hP hD hS => ?_)
  have hP : va_P (dC, dI) vwCl [(h0, .inr (10, [.ref qt, x_told, x_code, x_reader, x_machine, .int 17, x_latestFault, x_hasProgram, x_hasRun])), (qt, .inl (kt, 900, .inl g_4))] H := hP
  have hD : va_D A [(h0, .inr (10, [.ref qt, x_told, x_code, x_reader, x_machine, .int 17, x_latestFault, x_hasProgram, x_hasRun])), (qt, .inl (kt, 900, .inl g_4))] := hD
  refine lv_iinc (v := 16) (lv' := [(2, .int 16), (0, .ref h0), (1, .int v)]) hx hb dX11_addBytes_35 hl (k := 0) rfl (by decide) (by decide) rfl (fun ls hl => ?_)
  refine lv_goto (tgt := 3) hx hb dX11_addBytes_38 (by decide) ?_
  refine lv_iload_n hx hb dX11_addBytes_3 rfl (lv_at hl 0 rfl) ?_
  refine lv_if_lt (tgt := 41) hx hb dX11_addBytes_4 (by decide) (fun c9 => absurd c9 (by decide)) (fun _ => ?_)
  refine lv_aload_n hx hb dX11_addBytes_7 rfl (lv_at hl 1 rfl) ?_
  refine va_get (D := (dC, dI)) (ci := 10) (v := .ref qt) (C := RX11) (T := TX11) (N := 9) hx hb hts i_X11_addBytes_X11 hown hK hP 0 rfl rfl 0 (by decide) (hts (.fieldLink RX11 9 "StatementRules2" "tape" "[I") k_X11_addBytes_fieldLink_RX11_9_SR_tape_I) (fun _ h9 => h9) rfl dX11_addBytes_8 ?_
  refine lv_aload_n hx hb dX11_addBytes_11 rfl (lv_at hl 1 rfl) ?_
  refine va_get (D := (dC, dI)) (ci := 10) (v := .int 17) (C := RX11) (T := TX11) (N := 9) hx hb hts i_X11_addBytes_X11 hown hK hP 0 rfl rfl 5 (by decide) (hts (.fieldLink RX11 50 "StatementRules2" "length" "I") k_X11_addBytes_fieldLink_RX11_50_SR_length_I) (fun _ h9 => h9) rfl dX11_addBytes_12 ?_
  refine lv_iload_n hx hb dX11_addBytes_15 rfl (lv_at hl 2 rfl) ?_
  refine lv_iload_n hx hb dX11_addBytes_16 rfl (lv_at hl 0 rfl) ?_
  obtain ⟨z6, ez6⟩ : ∃ y : Int32, y = ((v : Int32).toUInt32 >>> ((16 : Int32).toUInt32 &&& Int32.toUInt32 31)).toInt32 := ⟨_, rfl⟩
  refine lv_iushr (v := z6) hx hb dX11_addBytes_17 ez6.symm ?_
  refine lv_sipush (v := 255) hx hb dX11_addBytes_18 (by decide) ?_
  refine lv_iand hx hb dX11_addBytes_21 ?_
  refine lv_topi (fun z7 ez7 => ?_)
  have hPc := hP.sub (ws' := [(qt, .inl (kt, 900, .inl g_4))]) [1] rfl
  have hDc := hD.sub (ws' := [(qt, .inl (kt, 900, .inl g_4))]) [1] (by decide) rfl
  have hKc := hK.sub (tys' := [(kt, .int)]) [0] rfl
  have hFc := va_free (wc := [(qt, .inl (kt, 900, .inl g_4))]) hD hS hA [1] rfl
  refine va_callv (va_runS (As := [.ref qt, .int 17, .int z7]) (rest := []) ⟨hx, hb, hml, hown, hts⟩ (c_X11_put l dC dI _ qt kt 900 g_4 17 z7 (by first | decide | (unfold vp_in; decide)) (by first | decide | (unfold vp_in; decide)) (by first | decide | (unfold vp_in; decide))) (va_cwS 3 hts hX11_addBytes_X11_put_s58 rfl rfl rfl (by decide +kernel) ⟨Nat.le_of_ble_eq_true rfl, Nat.le_of_ble_eq_true rfl⟩) ⟨zPre.blind, zPre.go hZ hPc hKc hDc⟩ rfl rfl hl.1 rfl (lv_room (Nat.le_of_ble_eq_true rfl)) dX11_addBytes_22 ⟨Nat.le_of_ble_eq_true rfl, Nat.le_of_ble_eq_true rfl⟩) hS (fun q _ h => hFc q h) hFc (fun u9 t9 H1 locs ht hvm hw hB hz1 hk1 hS => ?_)
  obtain ⟨g_9, hP1, hK1, hD1⟩ := hB
  rw [ht] at hP1
  have hK1 := va_K.moved hvm.symm hK1
  obtain ⟨hP, hD⟩ := va_join (wr := [(h0, .inr (10, [.ref qt, x_told, x_code, x_reader, x_machine, .int 17, x_latestFault, x_hasProgram, x_hasRun]))]) (w1 := [(qt, .inl (kt, 900, .inl g_9))]) hP hD [1] [0] rfl rfl (by decide) (by decide) hk1 hFc hP1 hD1
  have hK := hK.app hK1
  generalize H1 = H at hP hS ⊢
  have hP : va_P (dC, dI) vwCl [(h0, .inr (10, [.ref qt, x_told, x_code, x_reader, x_machine, .int 17, x_latestFault, x_hasProgram, x_hasRun])), (qt, .inl (kt, 900, .inl g_9))] H := hP
  have hD : va_D A [(h0, .inr (10, [.ref qt, x_told, x_code, x_reader, x_machine, .int 17, x_latestFault, x_hasProgram, x_hasRun])), (qt, .inl (kt, 900, .inl g_9))] := hD
  have hK : va_K (dC, dI) vwCl [(kt, .int), (kt, .int)] s := hK
  have hK : va_K (dC, dI) vwCl [(kt, .int)] s := hK.sub [0] rfl
  refine lv_aload_n hx hb dX11_addBytes_25 rfl (lv_at hl 1 rfl) ?_
  refine lv_dup hx hb dX11_addBytes_26 rfl ?_
  refine va_get (D := (dC, dI)) (ci := 10) (v := .int 17) (C := RX11) (T := TX11) (N := 9) hx hb hts i_X11_addBytes_X11 hown hK hP 0 rfl rfl 5 (by decide) (hts (.fieldLink RX11 50 "StatementRules2" "length" "I") k_X11_addBytes_fieldLink_RX11_50_SR_length_I) (fun _ h9 => h9) rfl dX11_addBytes_27 ?_
  refine lv_iconst (v := 1) hx hb dX11_addBytes_30 (by decide) ?_
  refine lv_iadd hx hb dX11_addBytes_31 ?_
  refine lv_topi (fun z10 ez10 => ?_)
  obtain rfl : z10 = 18 := ez10.trans (by decide)
  refine va_put (D := (dC, dI)) (ci := 10) (v := .int 18) (ty := .int) (C := RX11) (T := TX11) (N := 9) hx hb hts i_X11_addBytes_X11 tyX11 tyX11_ok nmX11 hown hK hP hD hS 0 rfl rfl 5 (by decide) (hts (.fieldLink RX11 50 "StatementRules2" "length" "I") k_X11_addBytes_fieldLink_RX11_50_SR_length_I) (fun _ h9 => h9) rfl (by decide +kernel) rfl rfl (Nat.le_of_ble_eq_true rfl) dX11_addBytes_32 (fun H locs hP hD hS => ?_)
  have hP : va_P (dC, dI) vwCl [(h0, .inr (10, [.ref qt, x_told, x_code, x_reader, x_machine, .int 18, x_latestFault, x_hasProgram, x_hasRun])), (qt, .inl (kt, 900, .inl g_9))] H := hP
  have hD : va_D A [(h0, .inr (10, [.ref qt, x_told, x_code, x_reader, x_machine, .int 18, x_latestFault, x_hasProgram, x_hasRun])), (qt, .inl (kt, 900, .inl g_9))] := hD
  refine lv_iinc (v := 8) (lv' := [(2, .int 8), (0, .ref h0), (1, .int v)]) hx hb dX11_addBytes_35 hl (k := 0) rfl (by decide) (by decide) rfl (fun ls hl => ?_)
  refine lv_goto (tgt := 3) hx hb dX11_addBytes_38 (by decide) ?_
  refine lv_iload_n hx hb dX11_addBytes_3 rfl (lv_at hl 0 rfl) ?_
  refine lv_if_lt (tgt := 41) hx hb dX11_addBytes_4 (by decide) (fun c9 => absurd c9 (by decide)) (fun _ => ?_)
  refine lv_aload_n hx hb dX11_addBytes_7 rfl (lv_at hl 1 rfl) ?_
  refine va_get (D := (dC, dI)) (ci := 10) (v := .ref qt) (C := RX11) (T := TX11) (N := 9) hx hb hts i_X11_addBytes_X11 hown hK hP 0 rfl rfl 0 (by decide) (hts (.fieldLink RX11 9 "StatementRules2" "tape" "[I") k_X11_addBytes_fieldLink_RX11_9_SR_tape_I) (fun _ h9 => h9) rfl dX11_addBytes_8 ?_
  refine lv_aload_n hx hb dX11_addBytes_11 rfl (lv_at hl 1 rfl) ?_
  refine va_get (D := (dC, dI)) (ci := 10) (v := .int 18) (C := RX11) (T := TX11) (N := 9) hx hb hts i_X11_addBytes_X11 hown hK hP 0 rfl rfl 5 (by decide) (hts (.fieldLink RX11 50 "StatementRules2" "length" "I") k_X11_addBytes_fieldLink_RX11_50_SR_length_I) (fun _ h9 => h9) rfl dX11_addBytes_12 ?_
  refine lv_iload_n hx hb dX11_addBytes_15 rfl (lv_at hl 2 rfl) ?_
  refine lv_iload_n hx hb dX11_addBytes_16 rfl (lv_at hl 0 rfl) ?_
  obtain ⟨z11, ez11⟩ : ∃ y : Int32, y = ((v : Int32).toUInt32 >>> ((8 : Int32).toUInt32 &&& Int32.toUInt32 31)).toInt32 := ⟨_, rfl⟩
  refine lv_iushr (v := z11) hx hb dX11_addBytes_17 ez11.symm ?_
  refine lv_sipush (v := 255) hx hb dX11_addBytes_18 (by decide) ?_
  refine lv_iand hx hb dX11_addBytes_21 ?_
  refine lv_topi (fun z12 ez12 => ?_)
  have hPc := hP.sub (ws' := [(qt, .inl (kt, 900, .inl g_9))]) [1] rfl
  have hDc := hD.sub (ws' := [(qt, .inl (kt, 900, .inl g_9))]) [1] (by decide) rfl
  have hKc := hK.sub (tys' := [(kt, .int)]) [0] rfl
  have hFc := va_free (wc := [(qt, .inl (kt, 900, .inl g_9))]) hD hS hA [1] rfl
  refine va_callv (va_runS (As := [.ref qt, .int 18, .int z12]) (rest := []) ⟨hx, hb, hml, hown, hts⟩ (c_X11_put l dC dI _ qt kt 900 g_9 18 z12 (by first | decide | (unfold vp_in; decide)) (by first | decide | (unfold vp_in; decide)) (by first | decide | (unfold vp_in; decide))) (va_cwS 3 hts hX11_addBytes_X11_put_s58 rfl rfl rfl (by decide +kernel) ⟨Nat.le_of_ble_eq_true rfl, Nat.le_of_ble_eq_true rfl⟩) ⟨zPre.blind, zPre.go hZ hPc hKc hDc⟩ rfl rfl hl.1 rfl (lv_room (Nat.le_of_ble_eq_true rfl)) dX11_addBytes_22 ⟨Nat.le_of_ble_eq_true rfl, Nat.le_of_ble_eq_true rfl⟩) hS (fun q _ h => hFc q h) hFc (fun u9 t9 H1 locs ht hvm hw hB hz1 hk1 hS => ?_)
  obtain ⟨g_14, hP1, hK1, hD1⟩ := hB
  rw [ht] at hP1
  have hK1 := va_K.moved hvm.symm hK1
  obtain ⟨hP, hD⟩ := va_join (wr := [(h0, .inr (10, [.ref qt, x_told, x_code, x_reader, x_machine, .int 18, x_latestFault, x_hasProgram, x_hasRun]))]) (w1 := [(qt, .inl (kt, 900, .inl g_14))]) hP hD [1] [0] rfl rfl (by decide) (by decide) hk1 hFc hP1 hD1
  have hK := hK.app hK1
  generalize H1 = H at hP hS ⊢
  have hP : va_P (dC, dI) vwCl [(h0, .inr (10, [.ref qt, x_told, x_code, x_reader, x_machine, .int 18, x_latestFault, x_hasProgram, x_hasRun])), (qt, .inl (kt, 900, .inl g_14))] H := hP
  have hD : va_D A [(h0, .inr (10, [.ref qt, x_told, x_code, x_reader, x_machine, .int 18, x_latestFault, x_hasProgram, x_hasRun])), (qt, .inl (kt, 900, .inl g_14))] := hD
  have hK : va_K (dC, dI) vwCl [(kt, .int), (kt, .int)] s := hK
  have hK : va_K (dC, dI) vwCl [(kt, .int)] s := hK.sub [0] rfl
  refine lv_aload_n hx hb dX11_addBytes_25 rfl (lv_at hl 1 rfl) ?_
  refine lv_dup hx hb dX11_addBytes_26 rfl ?_
  refine va_get (D := (dC, dI)) (ci := 10) (v := .int 18) (C := RX11) (T := TX11) (N := 9) hx hb hts i_X11_addBytes_X11 hown hK hP 0 rfl rfl 5 (by decide) (hts (.fieldLink RX11 50 "StatementRules2" "length" "I") k_X11_addBytes_fieldLink_RX11_50_SR_length_I) (fun _ h9 => h9) rfl dX11_addBytes_27 ?_
  refine lv_iconst (v := 1) hx hb dX11_addBytes_30 (by decide) ?_
  refine lv_iadd hx hb dX11_addBytes_31 ?_
  refine lv_topi (fun z15 ez15 => ?_)
  obtain rfl : z15 = 19 := ez15.trans (by decide)
  refine va_put (D := (dC, dI)) (ci := 10) (v := .int 19) (ty := .int) (C := RX11) (T := TX11) (N := 9) hx hb hts i_X11_addBytes_X11 tyX11 tyX11_ok nmX11 hown hK hP hD hS 0 rfl rfl 5 (by decide) (hts (.fieldLink RX11 50 "StatementRules2" "length" "I") k_X11_addBytes_fieldLink_RX11_50_SR_length_I) (fun _ h9 => h9) rfl (by decide +kernel) rfl rfl (Nat.le_of_ble_eq_true rfl) dX11_addBytes_32 (fun H locs hP hD hS => ?_)
  have hP : va_P (dC, dI) vwCl [(h0, .inr (10, [.ref qt, x_told, x_code, x_reader, x_machine, .int 19, x_latestFault, x_hasProgram, x_hasRun])), (qt, .inl (kt, 900, .inl g_14))] H := hP
  have hD : va_D A [(h0, .inr (10, [.ref qt, x_told, x_code, x_reader, x_machine, .int 19, x_latestFault, x_hasProgram, x_hasRun])), (qt, .inl (kt, 900, .inl g_14))] := hD
  refine lv_iinc (v := 0) (lv' := [(2, .int 0), (0, .ref h0), (1, .int v)]) hx hb dX11_addBytes_35 hl (k := 0) rfl (by decide) (by decide) rfl (fun ls hl => ?_)
  refine lv_goto (tgt := 3) hx hb dX11_addBytes_38 (by decide) ?_
  refine lv_iload_n hx hb dX11_addBytes_3 rfl (lv_at hl 0 rfl) ?_
  refine lv_if_lt (tgt := 41) hx hb dX11_addBytes_4 (by decide) (fun c9 => absurd c9 (by decide)) (fun _ => ?_)
  refine lv_aload_n hx hb dX11_addBytes_7 rfl (lv_at hl 1 rfl) ?_
  refine va_get (D := (dC, dI)) (ci := 10) (v := .ref qt) (C := RX11) (T := TX11) (N := 9) hx hb hts i_X11_addBytes_X11 hown hK hP 0 rfl rfl 0 (by decide) (hts (.fieldLink RX11 9 "StatementRules2" "tape" "[I") k_X11_addBytes_fieldLink_RX11_9_SR_tape_I) (fun _ h9 => h9) rfl dX11_addBytes_8 ?_
  refine lv_aload_n hx hb dX11_addBytes_11 rfl (lv_at hl 1 rfl) ?_
  refine va_get (D := (dC, dI)) (ci := 10) (v := .int 19) (C := RX11) (T := TX11) (N := 9) hx hb hts i_X11_addBytes_X11 hown hK hP 0 rfl rfl 5 (by decide) (hts (.fieldLink RX11 50 "StatementRules2" "length" "I") k_X11_addBytes_fieldLink_RX11_50_SR_length_I) (fun _ h9 => h9) rfl dX11_addBytes_12 ?_
  refine lv_iload_n hx hb dX11_addBytes_15 rfl (lv_at hl 2 rfl) ?_
  refine lv_iload_n hx hb dX11_addBytes_16 rfl (lv_at hl 0 rfl) ?_
  obtain ⟨z16, ez16⟩ : ∃ y : Int32, y = ((v : Int32).toUInt32 >>> ((0 : Int32).toUInt32 &&& Int32.toUInt32 31)).toInt32 := ⟨_, rfl⟩
  refine lv_iushr (v := z16) hx hb dX11_addBytes_17 ez16.symm ?_
  refine lv_sipush (v := 255) hx hb dX11_addBytes_18 (by decide) ?_
  refine lv_iand hx hb dX11_addBytes_21 ?_
  refine lv_topi (fun z17 ez17 => ?_)
  have hPc := hP.sub (ws' := [(qt, .inl (kt, 900, .inl g_14))]) [1] rfl
  have hDc := hD.sub (ws' := [(qt, .inl (kt, 900, .inl g_14))]) [1] (by decide) rfl
  have hKc := hK.sub (tys' := [(kt, .int)]) [0] rfl
  have hFc := va_free (wc := [(qt, .inl (kt, 900, .inl g_14))]) hD hS hA [1] rfl
  refine va_callv (va_runS (As := [.ref qt, .int 19, .int z17]) (rest := []) ⟨hx, hb, hml, hown, hts⟩ (c_X11_put l dC dI _ qt kt 900 g_14 19 z17 (by first | decide | (unfold vp_in; decide)) (by first | decide | (unfold vp_in; decide)) (by first | decide | (unfold vp_in; decide))) (va_cwS 3 hts hX11_addBytes_X11_put_s58 rfl rfl rfl (by decide +kernel) ⟨Nat.le_of_ble_eq_true rfl, Nat.le_of_ble_eq_true rfl⟩) ⟨zPre.blind, zPre.go hZ hPc hKc hDc⟩ rfl rfl hl.1 rfl (lv_room (Nat.le_of_ble_eq_true rfl)) dX11_addBytes_22 ⟨Nat.le_of_ble_eq_true rfl, Nat.le_of_ble_eq_true rfl⟩) hS (fun q _ h => hFc q h) hFc (fun u9 t9 H1 locs ht hvm hw hB hz1 hk1 hS => ?_)
  obtain ⟨g_19, hP1, hK1, hD1⟩ := hB
  rw [ht] at hP1
  have hK1 := va_K.moved hvm.symm hK1
  obtain ⟨hP, hD⟩ := va_join (wr := [(h0, .inr (10, [.ref qt, x_told, x_code, x_reader, x_machine, .int 19, x_latestFault, x_hasProgram, x_hasRun]))]) (w1 := [(qt, .inl (kt, 900, .inl g_19))]) hP hD [1] [0] rfl rfl (by decide) (by decide) hk1 hFc hP1 hD1
  have hK := hK.app hK1
  generalize H1 = H at hP hS ⊢
  have hP : va_P (dC, dI) vwCl [(h0, .inr (10, [.ref qt, x_told, x_code, x_reader, x_machine, .int 19, x_latestFault, x_hasProgram, x_hasRun])), (qt, .inl (kt, 900, .inl g_19))] H := hP
  have hD : va_D A [(h0, .inr (10, [.ref qt, x_told, x_code, x_reader, x_machine, .int 19, x_latestFault, x_hasProgram, x_hasRun])), (qt, .inl (kt, 900, .inl g_19))] := hD
  have hK : va_K (dC, dI) vwCl [(kt, .int), (kt, .int)] s := hK
  have hK : va_K (dC, dI) vwCl [(kt, .int)] s := hK.sub [0] rfl
  refine lv_aload_n hx hb dX11_addBytes_25 rfl (lv_at hl 1 rfl) ?_
  refine lv_dup hx hb dX11_addBytes_26 rfl ?_
  refine va_get (D := (dC, dI)) (ci := 10) (v := .int 19) (C := RX11) (T := TX11) (N := 9) hx hb hts i_X11_addBytes_X11 hown hK hP 0 rfl rfl 5 (by decide) (hts (.fieldLink RX11 50 "StatementRules2" "length" "I") k_X11_addBytes_fieldLink_RX11_50_SR_length_I) (fun _ h9 => h9) rfl dX11_addBytes_27 ?_
  refine lv_iconst (v := 1) hx hb dX11_addBytes_30 (by decide) ?_
  refine lv_iadd hx hb dX11_addBytes_31 ?_
  refine lv_topi (fun z20 ez20 => ?_)
  obtain rfl : z20 = 20 := ez20.trans (by decide)
  refine va_put (D := (dC, dI)) (ci := 10) (v := .int 20) (ty := .int) (C := RX11) (T := TX11) (N := 9) hx hb hts i_X11_addBytes_X11 tyX11 tyX11_ok nmX11 hown hK hP hD hS 0 rfl rfl 5 (by decide) (hts (.fieldLink RX11 50 "StatementRules2" "length" "I") k_X11_addBytes_fieldLink_RX11_50_SR_length_I) (fun _ h9 => h9) rfl (by decide +kernel) rfl rfl (Nat.le_of_ble_eq_true rfl) dX11_addBytes_32 (fun H locs hP hD hS => ?_)
  have hP : va_P (dC, dI) vwCl [(h0, .inr (10, [.ref qt, x_told, x_code, x_reader, x_machine, .int 20, x_latestFault, x_hasProgram, x_hasRun])), (qt, .inl (kt, 900, .inl g_19))] H := hP
  have hD : va_D A [(h0, .inr (10, [.ref qt, x_told, x_code, x_reader, x_machine, .int 20, x_latestFault, x_hasProgram, x_hasRun])), (qt, .inl (kt, 900, .inl g_19))] := hD
  refine lv_iinc (v := (-8)) (lv' := [(2, .int (-8)), (0, .ref h0), (1, .int v)]) hx hb dX11_addBytes_35 hl (k := 0) rfl (by decide) (by decide) rfl (fun ls hl => ?_)
  refine lv_goto (tgt := 3) hx hb dX11_addBytes_38 (by decide) ?_
  refine lv_iload_n hx hb dX11_addBytes_3 rfl (lv_at hl 0 rfl) ?_
  refine lv_if_lt (tgt := 41) hx hb dX11_addBytes_4 (by decide) (fun _ => ?_) (fun c9 => absurd (by decide) c9)
  have hP9 := hP.sub (ws' := [(h0, .inr (10, [.ref qt, x_told, x_code, x_reader, x_machine, .int 20, x_latestFault, x_hasProgram, x_hasRun])), (qt, .inl (kt, 900, .inl g_19))]) [0, 1] rfl
  have hD9 := hD.sub (ws' := [(h0, .inr (10, [.ref qt, x_told, x_code, x_reader, x_machine, .int 20, x_latestFault, x_hasProgram, x_hasRun])), (qt, .inl (kt, 900, .inl g_19))]) [0, 1] (by decide) rfl
  have hK9 := hK.sub (tys' := [(kt, .int)]) [0] rfl
  exact W.vret hx hb hr (fun t ht hW => ⟨⟨(), rfl, trivial, g_19, by rw [ht]; exact hP9, va_K.moved hW.alike hK9, hD9⟩, hS.F ht⟩) hS.2.2 dX11_addBytes_41
theorem k_X11_feed_fieldLink_RX11_50_SR_length_I : Cond.fieldLink RX11 50 "StatementRules2" "length" "I" ∈ wzX11_feed := List.mem_cons_of_mem _ (List.mem_append_left _ (List.mem_of_getElem? (i := 0) rfl))
theorem i_X11_feed_X11 : ∀ w ∈ wsX110, w ∈ wzX11_feed := fun _ h => List.mem_cons_of_mem _ (List.mem_append_right _ (List.mem_append_left _ (h)))
set_option maxHeartbeats 4000000 in
set_option maxRecDepth 100000 in
theorem c_X11_feed (l : Launch) (dC : Nat → ClassId) (dI : Nat → Nat → Nat) (sz : Nat) (h0 : Nat) (a : Int32) (b : Int32) (c9 : Int32) (d : Int32) (e9 : Int32) (qt : Nat) (kt : ClassId) (f : Nat → Int32) (x_told : Value) (x_code : Value) (x_reader : Value) (x_machine : Value) (x_latestFault : Value) (x_hasProgram : Value) (x_hasRun : Value) : Met l yX11_feed wzX11_feed ({ frames := 3, cells := 0, slots := 0, locals := 180 }) (va_Pc [.ref h0, .int a, .int b, .int c9, .int d, .int e9] (zPre dC dI sz [(h0, .inr (10, [.ref qt, x_told, x_code, x_reader, x_machine, .int 0, x_latestFault, x_hasProgram, x_hasRun])), (qt, .inl (kt, 900, .inl f))] [(kt, .int)])) (va_Qi (fun (r : Int32) (_ : Unit) => r = 20) (fun (_ : Unit) (t : State) => zPost dC dI (va_A [(h0, .inr (10, [.ref qt, x_told, x_code, x_reader, x_machine, .int 0, x_latestFault, x_hasProgram, x_hasRun])), (qt, .inl (kt, 900, .inl f))] sz) [] [] t) (va_A [(h0, .inr (10, [.ref qt, x_told, x_code, x_reader, x_machine, .int 0, x_latestFault, x_hasProgram, x_hasRun])), (qt, .inl (kt, 900, .inl f))] sz)) 0 0 (va_A [(h0, .inr (10, [.ref qt, x_told, x_code, x_reader, x_machine, .int 0, x_latestFault, x_hasProgram, x_hasRun])), (qt, .inl (kt, 900, .inl f))] sz) := by
  refine Met.ofW (cc := cX11_feed) (maxL := 6) (ret := (some .int)) (by decide) rfl ?_
  intro p e s m args below meth c s₁ B hml hv
  obtain ⟨rfl, hsz, hZ, hP, hK, hD0⟩ := hv
  have hx := B.exec
  have hb := B.bytes
  have hr := B.returns
  have hts := atoms_spec (ws := wzX11_feed) B.pre
  have hown : s.vm.findClass RX11 = some m.cls := findClass_of_methodNamed B.named
  have hlocks := B.notSynchronized
  subst hsz
  have hD := hD0.self (sz := s.heap.size)
  generalize hAe : va_A [(h0, .inr (10, [.ref qt, x_told, x_code, x_reader, x_machine, .int 0, x_latestFault, x_hasProgram, x_hasRun])), (qt, .inl (kt, 900, .inl f))] s.heap.size = A at hD ⊢
  have hA : ∀ q : Nat, s.heap.size ≤ q → A q := fun q h => by rw [← hAe]; exact Or.inr h
  have hS : va_S A s.heap s.heap [] := va_S.rf
  have hP : va_P (dC, dI) vwCl [(h0, .inr (10, [.ref qt, x_told, x_code, x_reader, x_machine, .int 0, x_latestFault, x_hasProgram, x_hasRun])), (qt, .inl (kt, 900, .inl f))] s.heap := hP
  have hl := lv_entry ([.ref h0, .int a, .int b, .int c9, .int d, .int e9]) (n := 6) (Nat.le_of_ble_eq_true rfl)
  rw [lg_entry_eq]
  generalize (lg_sl ([.ref h0, .int a, .int b, .int c9, .int d, .int e9]) ++ List.replicate (6 - (lg_sl ([.ref h0, .int a, .int b, .int c9, .int d, .int e9])).length) Slot.unset).toArray = ls at hl ⊢
  have hl : lv_has ls 6 [(0, .ref h0), (1, .int a), (2, .int b), (3, .int c9), (4, .int d), (5, .int e9)] := hl
  refine lv_aload_n hx hb dX11_feed_0 rfl (lv_at hl 0 rfl) ?_
  refine va_get (D := (dC, dI)) (ci := 10) (v := .int 0) (C := RX11) (T := TX11) (N := 9) hx hb hts i_X11_feed_X11 hown hK hP 0 rfl rfl 5 (by decide) (hts (.fieldLink RX11 50 "StatementRules2" "length" "I") k_X11_feed_fieldLink_RX11_50_SR_length_I) (fun _ h9 => h9) rfl dX11_feed_1 ?_
  refine lv_bipush (v := 20) hx hb dX11_feed_4 (by decide) ?_
  refine lv_iadd hx hb dX11_feed_6 ?_
  refine lv_topi (fun z1 ez1 => ?_)
  obtain rfl : z1 = 20 := ez1.trans (by decide)
  refine lv_sipush (v := 900) hx hb dX11_feed_7 (by decide) ?_
  refine lv_icmp_le (tgt := 16) hx hb dX11_feed_10 (by decide) (fun _ => ?_) (fun c9 => absurd (by decide) c9)
  refine lv_aload_n hx hb dX11_feed_16 rfl (lv_at hl 0 rfl) ?_
  refine lv_iload_n hx hb dX11_feed_17 rfl (lv_at hl 1 rfl) ?_
  have hPc := hP.sub (ws' := [(h0, .inr (10, [.ref qt, x_told, x_code, x_reader, x_machine, .int 0, x_latestFault, x_hasProgram, x_hasRun])), (qt, .inl (kt, 900, .inl f))]) [0, 1] rfl
  have hDc := hD.sub (ws' := [(h0, .inr (10, [.ref qt, x_told, x_code, x_reader, x_machine, .int 0, x_latestFault, x_hasProgram, x_hasRun])), (qt, .inl (kt, 900, .inl f))]) [0, 1] (by decide) rfl
  have hKc := hK.sub (tys' := [(kt, .int)]) [0] rfl
  have hFc := va_free (wc := [(h0, .inr (10, [.ref qt, x_told, x_code, x_reader, x_machine, .int 0, x_latestFault, x_hasProgram, x_hasRun])), (qt, .inl (kt, 900, .inl f))]) hD hS hA [0, 1] rfl
  refine va_callv (va_runV (As := [.int a]) (rest := []) ⟨hx, hb, hml, hown, hts⟩ (c_X11_addBytes_0 l dC dI _ h0 a qt kt f x_told x_code x_reader x_machine x_latestFault x_hasProgram x_hasRun) (cwV 1 hts hX11_feed_X11_addBytes_v54 rfl rfl rfl (by decide +kernel) ⟨Nat.le_of_ble_eq_true rfl, Nat.le_of_ble_eq_true rfl⟩) ⟨zPre.blind, va_recv hKc hPc (ci := 10) (q0 := 0) rfl rfl, zPre.go hZ hPc hKc hDc⟩ rfl rfl hl.1 rfl (lv_room (Nat.le_of_ble_eq_true rfl)) dX11_feed_18 ⟨Nat.le_of_ble_eq_true rfl, Nat.le_of_ble_eq_true rfl⟩) hS (fun q _ h => hFc q h) hFc (fun u9 t9 H1 locs ht hvm hw hB hz1 hk1 hS => ?_)
  obtain ⟨g_3, hP1, hK1, hD1⟩ := hB
  rw [ht] at hP1
  have hK1 := va_K.moved hvm.symm hK1
  obtain ⟨hP, hD⟩ := va_join (wr := []) (w1 := [(h0, .inr (10, [.ref qt, x_told, x_code, x_reader, x_machine, .int 4, x_latestFault, x_hasProgram, x_hasRun])), (qt, .inl (kt, 900, .inl g_3))]) hP hD [0, 1] [] rfl rfl (by decide) (by decide) hk1 hFc hP1 hD1
  have hK := hK.app hK1
  generalize H1 = H at hP hS ⊢
  have hP : va_P (dC, dI) vwCl [(h0, .inr (10, [.ref qt, x_told, x_code, x_reader, x_machine, .int 4, x_latestFault, x_hasProgram, x_hasRun])), (qt, .inl (kt, 900, .inl g_3))] H := hP
  have hD : va_D A [(h0, .inr (10, [.ref qt, x_told, x_code, x_reader, x_machine, .int 4, x_latestFault, x_hasProgram, x_hasRun])), (qt, .inl (kt, 900, .inl g_3))] := hD
  have hK : va_K (dC, dI) vwCl [(kt, .int), (kt, .int)] s := hK
  have hK : va_K (dC, dI) vwCl [(kt, .int)] s := hK.sub [0] rfl
  refine lv_aload_n hx hb dX11_feed_21 rfl (lv_at hl 0 rfl) ?_
  refine lv_iload_n hx hb dX11_feed_22 rfl (lv_at hl 2 rfl) ?_
  have hPc := hP.sub (ws' := [(h0, .inr (10, [.ref qt, x_told, x_code, x_reader, x_machine, .int 4, x_latestFault, x_hasProgram, x_hasRun])), (qt, .inl (kt, 900, .inl g_3))]) [0, 1] rfl
  have hDc := hD.sub (ws' := [(h0, .inr (10, [.ref qt, x_told, x_code, x_reader, x_machine, .int 4, x_latestFault, x_hasProgram, x_hasRun])), (qt, .inl (kt, 900, .inl g_3))]) [0, 1] (by decide) rfl
  have hKc := hK.sub (tys' := [(kt, .int)]) [0] rfl
  have hFc := va_free (wc := [(h0, .inr (10, [.ref qt, x_told, x_code, x_reader, x_machine, .int 4, x_latestFault, x_hasProgram, x_hasRun])), (qt, .inl (kt, 900, .inl g_3))]) hD hS hA [0, 1] rfl
  refine va_callv (va_runV (As := [.int b]) (rest := []) ⟨hx, hb, hml, hown, hts⟩ (c_X11_addBytes_4 l dC dI _ h0 b qt kt g_3 x_told x_code x_reader x_machine x_latestFault x_hasProgram x_hasRun) (cwV 1 hts hX11_feed_X11_addBytes_v54 rfl rfl rfl (by decide +kernel) ⟨Nat.le_of_ble_eq_true rfl, Nat.le_of_ble_eq_true rfl⟩) ⟨zPre.blind, va_recv hKc hPc (ci := 10) (q0 := 0) rfl rfl, zPre.go hZ hPc hKc hDc⟩ rfl rfl hl.1 rfl (lv_room (Nat.le_of_ble_eq_true rfl)) dX11_feed_23 ⟨Nat.le_of_ble_eq_true rfl, Nat.le_of_ble_eq_true rfl⟩) hS (fun q _ h => hFc q h) hFc (fun u9 t9 H1 locs ht hvm hw hB hz1 hk1 hS => ?_)
  obtain ⟨g_5, hP1, hK1, hD1⟩ := hB
  rw [ht] at hP1
  have hK1 := va_K.moved hvm.symm hK1
  obtain ⟨hP, hD⟩ := va_join (wr := []) (w1 := [(h0, .inr (10, [.ref qt, x_told, x_code, x_reader, x_machine, .int 8, x_latestFault, x_hasProgram, x_hasRun])), (qt, .inl (kt, 900, .inl g_5))]) hP hD [0, 1] [] rfl rfl (by decide) (by decide) hk1 hFc hP1 hD1
  have hK := hK.app hK1
  generalize H1 = H at hP hS ⊢
  have hP : va_P (dC, dI) vwCl [(h0, .inr (10, [.ref qt, x_told, x_code, x_reader, x_machine, .int 8, x_latestFault, x_hasProgram, x_hasRun])), (qt, .inl (kt, 900, .inl g_5))] H := hP
  have hD : va_D A [(h0, .inr (10, [.ref qt, x_told, x_code, x_reader, x_machine, .int 8, x_latestFault, x_hasProgram, x_hasRun])), (qt, .inl (kt, 900, .inl g_5))] := hD
  have hK : va_K (dC, dI) vwCl [(kt, .int), (kt, .int)] s := hK
  have hK : va_K (dC, dI) vwCl [(kt, .int)] s := hK.sub [0] rfl
  refine lv_aload_n hx hb dX11_feed_26 rfl (lv_at hl 0 rfl) ?_
  refine lv_iload_n hx hb dX11_feed_27 rfl (lv_at hl 3 rfl) ?_
  have hPc := hP.sub (ws' := [(h0, .inr (10, [.ref qt, x_told, x_code, x_reader, x_machine, .int 8, x_latestFault, x_hasProgram, x_hasRun])), (qt, .inl (kt, 900, .inl g_5))]) [0, 1] rfl
  have hDc := hD.sub (ws' := [(h0, .inr (10, [.ref qt, x_told, x_code, x_reader, x_machine, .int 8, x_latestFault, x_hasProgram, x_hasRun])), (qt, .inl (kt, 900, .inl g_5))]) [0, 1] (by decide) rfl
  have hKc := hK.sub (tys' := [(kt, .int)]) [0] rfl
  have hFc := va_free (wc := [(h0, .inr (10, [.ref qt, x_told, x_code, x_reader, x_machine, .int 8, x_latestFault, x_hasProgram, x_hasRun])), (qt, .inl (kt, 900, .inl g_5))]) hD hS hA [0, 1] rfl
  refine va_callv (va_runV (As := [.int c9]) (rest := []) ⟨hx, hb, hml, hown, hts⟩ (c_X11_addBytes_8 l dC dI _ h0 c9 qt kt g_5 x_told x_code x_reader x_machine x_latestFault x_hasProgram x_hasRun) (cwV 1 hts hX11_feed_X11_addBytes_v54 rfl rfl rfl (by decide +kernel) ⟨Nat.le_of_ble_eq_true rfl, Nat.le_of_ble_eq_true rfl⟩) ⟨zPre.blind, va_recv hKc hPc (ci := 10) (q0 := 0) rfl rfl, zPre.go hZ hPc hKc hDc⟩ rfl rfl hl.1 rfl (lv_room (Nat.le_of_ble_eq_true rfl)) dX11_feed_28 ⟨Nat.le_of_ble_eq_true rfl, Nat.le_of_ble_eq_true rfl⟩) hS (fun q _ h => hFc q h) hFc (fun u9 t9 H1 locs ht hvm hw hB hz1 hk1 hS => ?_)
  obtain ⟨g_7, hP1, hK1, hD1⟩ := hB
  rw [ht] at hP1
  have hK1 := va_K.moved hvm.symm hK1
  obtain ⟨hP, hD⟩ := va_join (wr := []) (w1 := [(h0, .inr (10, [.ref qt, x_told, x_code, x_reader, x_machine, .int 12, x_latestFault, x_hasProgram, x_hasRun])), (qt, .inl (kt, 900, .inl g_7))]) hP hD [0, 1] [] rfl rfl (by decide) (by decide) hk1 hFc hP1 hD1
  have hK := hK.app hK1
  generalize H1 = H at hP hS ⊢
  have hP : va_P (dC, dI) vwCl [(h0, .inr (10, [.ref qt, x_told, x_code, x_reader, x_machine, .int 12, x_latestFault, x_hasProgram, x_hasRun])), (qt, .inl (kt, 900, .inl g_7))] H := hP
  have hD : va_D A [(h0, .inr (10, [.ref qt, x_told, x_code, x_reader, x_machine, .int 12, x_latestFault, x_hasProgram, x_hasRun])), (qt, .inl (kt, 900, .inl g_7))] := hD
  have hK : va_K (dC, dI) vwCl [(kt, .int), (kt, .int)] s := hK
  have hK : va_K (dC, dI) vwCl [(kt, .int)] s := hK.sub [0] rfl
  refine lv_aload_n hx hb dX11_feed_31 rfl (lv_at hl 0 rfl) ?_
  refine lv_iload hx hb dX11_feed_32 (lv_at hl 4 rfl) ?_
  have hPc := hP.sub (ws' := [(h0, .inr (10, [.ref qt, x_told, x_code, x_reader, x_machine, .int 12, x_latestFault, x_hasProgram, x_hasRun])), (qt, .inl (kt, 900, .inl g_7))]) [0, 1] rfl
  have hDc := hD.sub (ws' := [(h0, .inr (10, [.ref qt, x_told, x_code, x_reader, x_machine, .int 12, x_latestFault, x_hasProgram, x_hasRun])), (qt, .inl (kt, 900, .inl g_7))]) [0, 1] (by decide) rfl
  have hKc := hK.sub (tys' := [(kt, .int)]) [0] rfl
  have hFc := va_free (wc := [(h0, .inr (10, [.ref qt, x_told, x_code, x_reader, x_machine, .int 12, x_latestFault, x_hasProgram, x_hasRun])), (qt, .inl (kt, 900, .inl g_7))]) hD hS hA [0, 1] rfl
  refine va_callv (va_runV (As := [.int d]) (rest := []) ⟨hx, hb, hml, hown, hts⟩ (c_X11_addBytes_12 l dC dI _ h0 d qt kt g_7 x_told x_code x_reader x_machine x_latestFault x_hasProgram x_hasRun) (cwV 1 hts hX11_feed_X11_addBytes_v54 rfl rfl rfl (by decide +kernel) ⟨Nat.le_of_ble_eq_true rfl, Nat.le_of_ble_eq_true rfl⟩) ⟨zPre.blind, va_recv hKc hPc (ci := 10) (q0 := 0) rfl rfl, zPre.go hZ hPc hKc hDc⟩ rfl rfl hl.1 rfl (lv_room (Nat.le_of_ble_eq_true rfl)) dX11_feed_34 ⟨Nat.le_of_ble_eq_true rfl, Nat.le_of_ble_eq_true rfl⟩) hS (fun q _ h => hFc q h) hFc (fun u9 t9 H1 locs ht hvm hw hB hz1 hk1 hS => ?_)
  obtain ⟨g_9, hP1, hK1, hD1⟩ := hB
  rw [ht] at hP1
  have hK1 := va_K.moved hvm.symm hK1
  obtain ⟨hP, hD⟩ := va_join (wr := []) (w1 := [(h0, .inr (10, [.ref qt, x_told, x_code, x_reader, x_machine, .int 16, x_latestFault, x_hasProgram, x_hasRun])), (qt, .inl (kt, 900, .inl g_9))]) hP hD [0, 1] [] rfl rfl (by decide) (by decide) hk1 hFc hP1 hD1
  have hK := hK.app hK1
  generalize H1 = H at hP hS ⊢
  have hP : va_P (dC, dI) vwCl [(h0, .inr (10, [.ref qt, x_told, x_code, x_reader, x_machine, .int 16, x_latestFault, x_hasProgram, x_hasRun])), (qt, .inl (kt, 900, .inl g_9))] H := hP
  have hD : va_D A [(h0, .inr (10, [.ref qt, x_told, x_code, x_reader, x_machine, .int 16, x_latestFault, x_hasProgram, x_hasRun])), (qt, .inl (kt, 900, .inl g_9))] := hD
  have hK : va_K (dC, dI) vwCl [(kt, .int), (kt, .int)] s := hK
  have hK : va_K (dC, dI) vwCl [(kt, .int)] s := hK.sub [0] rfl
  refine lv_aload_n hx hb dX11_feed_37 rfl (lv_at hl 0 rfl) ?_
  refine lv_iload hx hb dX11_feed_38 (lv_at hl 5 rfl) ?_
  have hPc := hP.sub (ws' := [(h0, .inr (10, [.ref qt, x_told, x_code, x_reader, x_machine, .int 16, x_latestFault, x_hasProgram, x_hasRun])), (qt, .inl (kt, 900, .inl g_9))]) [0, 1] rfl
  have hDc := hD.sub (ws' := [(h0, .inr (10, [.ref qt, x_told, x_code, x_reader, x_machine, .int 16, x_latestFault, x_hasProgram, x_hasRun])), (qt, .inl (kt, 900, .inl g_9))]) [0, 1] (by decide) rfl
  have hKc := hK.sub (tys' := [(kt, .int)]) [0] rfl
  have hFc := va_free (wc := [(h0, .inr (10, [.ref qt, x_told, x_code, x_reader, x_machine, .int 16, x_latestFault, x_hasProgram, x_hasRun])), (qt, .inl (kt, 900, .inl g_9))]) hD hS hA [0, 1] rfl
  refine va_callv (va_runV (As := [.int e9]) (rest := []) ⟨hx, hb, hml, hown, hts⟩ (c_X11_addBytes_16 l dC dI _ h0 e9 qt kt g_9 x_told x_code x_reader x_machine x_latestFault x_hasProgram x_hasRun) (cwV 1 hts hX11_feed_X11_addBytes_v54 rfl rfl rfl (by decide +kernel) ⟨Nat.le_of_ble_eq_true rfl, Nat.le_of_ble_eq_true rfl⟩) ⟨zPre.blind, va_recv hKc hPc (ci := 10) (q0 := 0) rfl rfl, zPre.go hZ hPc hKc hDc⟩ rfl rfl hl.1 rfl (lv_room (Nat.le_of_ble_eq_true rfl)) dX11_feed_40 ⟨Nat.le_of_ble_eq_true rfl, Nat.le_of_ble_eq_true rfl⟩) hS (fun q _ h => hFc q h) hFc (fun u9 t9 H1 locs ht hvm hw hB hz1 hk1 hS => ?_)
  obtain ⟨g_11, hP1, hK1, hD1⟩ := hB
  rw [ht] at hP1
  have hK1 := va_K.moved hvm.symm hK1
  obtain ⟨hP, hD⟩ := va_join (wr := []) (w1 := [(h0, .inr (10, [.ref qt, x_told, x_code, x_reader, x_machine, .int 20, x_latestFault, x_hasProgram, x_hasRun])), (qt, .inl (kt, 900, .inl g_11))]) hP hD [0, 1] [] rfl rfl (by decide) (by decide) hk1 hFc hP1 hD1
  have hK := hK.app hK1
  generalize H1 = H at hP hS ⊢
  have hP : va_P (dC, dI) vwCl [(h0, .inr (10, [.ref qt, x_told, x_code, x_reader, x_machine, .int 20, x_latestFault, x_hasProgram, x_hasRun])), (qt, .inl (kt, 900, .inl g_11))] H := hP
  have hD : va_D A [(h0, .inr (10, [.ref qt, x_told, x_code, x_reader, x_machine, .int 20, x_latestFault, x_hasProgram, x_hasRun])), (qt, .inl (kt, 900, .inl g_11))] := hD
  have hK : va_K (dC, dI) vwCl [(kt, .int), (kt, .int)] s := hK
  have hK : va_K (dC, dI) vwCl [(kt, .int)] s := hK.sub [0] rfl
  refine lv_aload_n hx hb dX11_feed_43 rfl (lv_at hl 0 rfl) ?_
  refine va_get (D := (dC, dI)) (ci := 10) (v := .int 20) (C := RX11) (T := TX11) (N := 9) hx hb hts i_X11_feed_X11 hown hK hP 0 rfl rfl 5 (by decide) (hts (.fieldLink RX11 50 "StatementRules2" "length" "I") k_X11_feed_fieldLink_RX11_50_SR_length_I) (fun _ h9 => h9) rfl dX11_feed_44 ?_
  have hP9 := hP.sub (ws' := []) [] rfl
  have hD9 := hD.sub (ws' := []) [] (by decide) rfl
  have hK9 := hK.sub (tys' := []) [] rfl
  exact W.iret (v := 20) hx hb hr (fun t ht hW => ⟨⟨20, (), rfl, rfl, by rw [ht]; exact hP9, va_K.moved hW.alike hK9, hD9⟩, hS.F ht⟩) hS.2.2 dX11_feed_47
