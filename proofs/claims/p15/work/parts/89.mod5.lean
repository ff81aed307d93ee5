theorem k_X11_addBytes_fieldLink_RX11_9_SR_tape_I : Cond.fieldLink RX11 9 "StatementRules2" "tape" "[I" ∈ wzX11_addBytes := List.mem_cons_of_mem _ (List.mem_append_left _ (List.mem_of_getElem? (i := 0) rfl))
theorem i_X11_addBytes_X11 : ∀ w ∈ wsX110, w ∈ wzX11_addBytes := fun _ h => List.mem_cons_of_mem _ (List.mem_append_right _ (List.mem_append_left _ (h)))
theorem k_X11_addBytes_fieldLink_RX11_50_SR_length_I : Cond.fieldLink RX11 50 "StatementRules2" "length" "I" ∈ wzX11_addBytes := List.mem_cons_of_mem _ (List.mem_append_left _ (List.mem_of_getElem? (i := 1) rfl))
set_option maxHeartbeats 4000000 in
set_option maxRecDepth 100000 in
theorem c_X11_addBytes (l : Launch) (dC : Nat → ClassId) (dI : Nat → Nat → Nat) (sz : Nat) (h0 : Nat) (v : Int32) (x5 : Int32) (x6 : Int32) (x7 : Int32) (x8 : Int32) (qt : Nat) (q10 : Nat) (q0 : Nat) (q7 : Nat) (q3 : Nat) (kt : ClassId) (ft : Nat → Int32) : Met l yX11_addBytes wzX11_addBytes ({ frames := 2, cells := 0, slots := 0, locals := 120 }) (va_Pc [.ref h0, .int v] (zPre dC dI sz [(h0, .inr (10, [.ref qt, .ref q10, .ref q0, .ref q7, .ref q3, .int x5, .int x6, .int x7, .int x8])), (qt, .inl (kt, 900, .inl ft))] [(kt, .int)])) (va_Qv (fun (_ : Unit) => True) (fun (_ : Unit) (t : State) => ∃ (y5 : Int32), ∃ (gt : Nat → Int32), zPost dC dI (va_A [(h0, .inr (10, [.ref qt, .ref q10, .ref q0, .ref q7, .ref q3, .int x5, .int x6, .int x7, .int x8])), (qt, .inl (kt, 900, .inl ft))] sz) [(h0, .inr (10, [.ref qt, .ref q10, .ref q0, .ref q7, .ref q3, .int y5, .int x6, .int x7, .int x8])), (qt, .inl (kt, 900, .inl gt))] [(kt, .int)] t) (va_A [(h0, .inr (10, [.ref qt, .ref q10, .ref q0, .ref q7, .ref q3, .int x5, .int x6, .int x7, .int x8])), (qt, .inl (kt, 900, .inl ft))] sz)) 0 0 (va_A [(h0, .inr (10, [.ref qt, .ref q10, .ref q0, .ref q7, .ref q3, .int x5, .int x6, .int x7, .int x8])), (qt, .inl (kt, 900, .inl ft))] sz) := by
  refine Met.ofW (cc := cX11_addBytes) (maxL := 3) (ret := none) (by decide) rfl ?_
  intro p e s m args below meth c s₁ B hml hv
  obtain ⟨rfl, hsz, hZ, hP, hK, hD0⟩ := hv
  have hx := B.exec
  have hb := B.bytes
  have hr := B.returns
  have hts := atoms_spec (ws := wzX11_addBytes) B.pre
  have hown : s.vm.findClass RX11 = some m.cls := findClass_of_methodNamed B.named
  have hlocks := B.notSynchronized
  subst hsz
  have hD := hD0.self (sz := s.heap.size)
  generalize hAe : va_A [(h0, .inr (10, [.ref qt, .ref q10, .ref q0, .ref q7, .ref q3, .int x5, .int x6, .int x7, .int x8])), (qt, .inl (kt, 900, .inl ft))] s.heap.size = A at hD ⊢
  have hA : ∀ q : Nat, s.heap.size ≤ q → A q := fun q h => by rw [← hAe]; exact Or.inr h
  have hS : va_S A s.heap s.heap [] := va_S.rf
  have hP : va_P (dC, dI) vwCl [(h0, .inr (10, [.ref qt, .ref q10, .ref q0, .ref q7, .ref q3, .int x5, .int x6, .int x7, .int x8])), (qt, .inl (kt, 900, .inl ft))] s.heap := hP
  have hl := lv_entry ([.ref h0, .int v]) (n := 3) (Nat.le_of_ble_eq_true rfl)
  rw [lg_entry_eq]
  generalize (lg_sl ([.ref h0, .int v]) ++ List.replicate (3 - (lg_sl ([.ref h0, .int v])).length) Slot.unset).toArray = ls at hl ⊢
  have hl : lv_has ls 3 [(0, .ref h0), (1, .int v)] := hl
  refine lv_bipush (v := 24) hx hb dX11_addBytes_0 (by decide) ?_
  refine lv_istore_n (lv' := [(2, .int 24), (0, .ref h0), (1, .int v)]) hx hb dX11_addBytes_2 rfl hl (by decide) rfl (fun ls hl => ?_)
  refine lv_iload_n hx hb dX11_addBytes_3 rfl (lv_at hl 0 rfl) ?_
  refine lv_if_lt (tgt := 41) hx hb dX11_addBytes_4 (by decide) (fun c9 => absurd c9 (by decide)) (fun _ => ?_)
  refine lv_aload_n hx hb dX11_addBytes_7 rfl (lv_at hl 1 rfl) ?_
  refine va_get (D := (dC, dI)) (ci := 10) (v := .ref qt) (C := RX11) (T := TX11) (N := 9) hx hb hts i_X11_addBytes_X11 hown hK hP 0 rfl rfl 0 (by decide) (hts (.fieldLink RX11 9 "StatementRules2" "tape" "[I") k_X11_addBytes_fieldLink_RX11_9_SR_tape_I) (fun _ h9 => h9) rfl dX11_addBytes_8 ?_
  refine lv_aload_n hx hb dX11_addBytes_11 rfl (lv_at hl 1 rfl) ?_
  refine va_get (D := (dC, dI)) (ci := 10) (v := .int x5) (C := RX11) (T := TX11) (N := 9) hx hb hts i_X11_addBytes_X11 hown hK hP 0 rfl rfl 5 (by decide) (hts (.fieldLink RX11 50 "StatementRules2" "length" "I") k_X11_addBytes_fieldLink_RX11_50_SR_length_I) (fun _ h9 => h9) rfl dX11_addBytes_12 ?_
  refine lv_iload_n hx hb dX11_addBytes_15 rfl (lv_at hl 2 rfl) ?_
  refine lv_iload_n hx hb dX11_addBytes_16 rfl (lv_at hl 0 rfl) ?_
  obtain ⟨z1, ez1⟩ : ∃ y : Int32, y = ((v : Int32).toUInt32 >>> ((24 : Int32).toUInt32 &&& Int32.toUInt32 31)).toInt32 := ⟨_, rfl⟩
  refine lv_iushr (v := z1) hx hb dX11_addBytes_17 ez1.symm ?_
  refine lv_sipush (v := 255) hx hb dX11_addBytes_18 (by decide) ?_
  refine lv_iand hx hb dX11_addBytes_21 ?_
  refine lv_topi (fun z2 ez2 => ?_)
  have hPc := hP.sub (ws' := [(qt, .inl (kt, 900, .inl ft))]) [1] rfl
  have hDc := hD.sub (ws' := [(qt, .inl (kt, 900, .inl ft))]) [1] (by decide) rfl
  have hKc := hK.sub (tys' := [(kt, .int)]) [0] rfl
  have hFc := va_free (wc := [(qt, .inl (kt, 900, .inl ft))]) hD hS hA [1] rfl
  refine va_callv (va_runS (As := [.ref qt, .int x5, .int z2]) (rest := []) ⟨hx, hb, hml, hown, hts⟩ (c_X11_put l dC dI _ qt kt 900 ft x5 z2 (by decide)) (va_cwS 3 hts hX11_addBytes_X11_put_s58 rfl rfl rfl (by decide +kernel) ⟨Nat.le_of_ble_eq_true rfl, Nat.le_of_ble_eq_true rfl⟩) ⟨zPre.blind, zPre.go hZ hPc hKc hDc⟩ rfl rfl hl.1 rfl (lv_room (Nat.le_of_ble_eq_true rfl)) dX11_addBytes_22 ⟨Nat.le_of_ble_eq_true rfl, Nat.le_of_ble_eq_true rfl⟩) hS (fun q _ h => hFc q h) hFc (fun u9 t9 H1 locs ht hvm hw hB hz1 hk1 hS => ?_)
  obtain ⟨g_4, hP1, hK1, hD1⟩ := hB
  rw [ht] at hP1
  have hK1 := va_K.moved hvm.symm hK1
  obtain ⟨hP, hD⟩ := va_join (wr := [(h0, .inr (10, [.ref qt, .ref q10, .ref q0, .ref q7, .ref q3, .int x5, .int x6, .int x7, .int x8]))]) (w1 := [(qt, .inl (kt, 900, .inl g_4))]) hP hD [1] [0] rfl rfl (by decide) (by decide) hk1 hFc hP1 hD1
  have hK := hK.app hK1
  generalize H1 = H at hP hS ⊢
  have hP : va_P (dC, dI) vwCl [(h0, .inr (10, [.ref qt, .ref q10, .ref q0, .ref q7, .ref q3, .int x5, .int x6, .int x7, .int x8])), (qt, .inl (kt, 900, .inl g_4))] H := hP
  have hD : va_D A [(h0, .inr (10, [.ref qt, .ref q10, .ref q0, .ref q7, .ref q3, .int x5, .int x6, .int x7, .int x8])), (qt, .inl (kt, 900, .inl g_4))] := hD
  have hK : va_K (dC, dI) vwCl [(kt, .int), (kt, .int)] s := hK
  have hK : va_K (dC, dI) vwCl [(kt, .int)] s := hK.sub [0] rfl
  refine lv_aload_n hx hb dX11_addBytes_25 rfl (lv_at hl 1 rfl) ?_
  refine lv_dup hx hb dX11_addBytes_26 rfl ?_
  refine va_get (D := (dC, dI)) (ci := 10) (v := .int x5) (C := RX11) (T := TX11) (N := 9) hx hb hts i_X11_addBytes_X11 hown hK hP 0 rfl rfl 5 (by decide) (hts (.fieldLink RX11 50 "StatementRules2" "length" "I") k_X11_addBytes_fieldLink_RX11_50_SR_length_I) (fun _ h9 => h9) rfl dX11_addBytes_27 ?_
  refine lv_iconst (v := 1) hx hb dX11_addBytes_30 (by decide) ?_
  refine lv_iadd hx hb dX11_addBytes_31 ?_
  refine lv_topi (fun z5 ez5 => ?_)
  refine va_put (D := (dC, dI)) (ci := 10) (v := .int z5) (ty := .int) (C := RX11) (T := TX11) (N := 9) hx hb hts i_X11_addBytes_X11 tyX11 tyX11_ok nmX11 hown hK hP hD hS 0 rfl rfl 5 (by decide) (hts (.fieldLink RX11 50 "StatementRules2" "length" "I") k_X11_addBytes_fieldLink_RX11_50_SR_length_I) (fun _ h9 => h9) rfl (by decide +kernel) rfl rfl (Nat.le_of_ble_eq_true rfl) dX11_addBytes_32 (fun H locs hP hD hS => ?_)
  have hP : va_P (dC, dI) vwCl [(h0, .inr (10, [.ref qt, .ref q10, .ref q0, .ref q7, .ref q3, .int z5, .int x6, .int x7, .int x8])), (qt, .inl (kt, 900, .inl g_4))] H := hP
  have hD : va_D A [(h0, .inr (10, [.ref qt, .ref q10, .ref q0, .ref q7, .ref q3, .int z5, .int x6, .int x7, .int x8])), (qt, .inl (kt, 900, .inl g_4))] := hD
  refine lv_iinc (v := 16) (lv' := [(2, .int 16), (0, .ref h0), (1, .int v)]) hx hb dX11_addBytes_35 hl (k := 0) rfl (by decide) (by decide) rfl (fun ls hl => ?_)
  refine lv_goto (tgt := 3) hx hb dX11_addBytes_38 (by decide) ?_
  refine lv_iload_n hx hb dX11_addBytes_3 rfl (lv_at hl 0 rfl) ?_
  refine lv_if_lt (tgt := 41) hx hb dX11_addBytes_4 (by decide) (fun c9 => absurd c9 (by decide)) (fun _ => ?_)
  refine lv_aload_n hx hb dX11_addBytes_7 rfl (lv_at hl 1 rfl) ?_
  refine va_get (D := (dC, dI)) (ci := 10) (v := .ref qt) (C := RX11) (T := TX11) (N := 9) hx hb hts i_X11_addBytes_X11 hown hK hP 0 rfl rfl 0 (by decide) (hts (.fieldLink RX11 9 "StatementRules2" "tape" "[I") k_X11_addBytes_fieldLink_RX11_9_SR_tape_I) (fun _ h9 => h9) rfl dX11_addBytes_8 ?_
  refine lv_aload_n hx hb dX11_addBytes_11 rfl (lv_at hl 1 rfl) ?_
  refine va_get (D := (dC, dI)) (ci := 10) (v := .int z5) (C := RX11) (T := TX11) (N := 9) hx hb hts i_X11_addBytes_X11 hown hK hP 0 rfl rfl 5 (by decide) (hts (.fieldLink RX11 50 "StatementRules2" "length" "I") k_X11_addBytes_fieldLink_RX11_50_SR_length_I) (fun _ h9 => h9) rfl dX11_addBytes_12 ?_
  refine lv_iload_n hx hb dX11_addBytes_15 rfl (lv_at hl 2 rfl) ?_
  refine lv_iload_n hx hb dX11_addBytes_16 rfl (lv_at hl 0 rfl) ?_
  obtain ⟨z6, ez6⟩ : ∃ y : Int32, y = ((v : Int32).toUInt32 >>> ((16 : Int32).toUInt32 &&& Int32.toUInt32 31)).toInt32 := ⟨_, rfl⟩
  refine lv_iushr (v := z6) hx hb dX11_addBytes_17 ez6.symm ?_
  refine lv_sipush (v := 255) hx hb dX11_addBytes_18 (by decide) ?_
  refine lv_iand hx hb dX11_addBytes_21 ?_
  refine lv_topi (fun z7 ez7 => ?_)
  have hPc := hP.sub (ws' := [(qt, .inl (kt, 900, .inl g_4))]) [1] rfl
  have hDc := hD.sub (ws' := [(qt, .inl (kt, 900, .inl g_4))]) [1] (by decide) rfl
  have hKc := hK.sub (tys' := [(kt, .int)]) [0] rfl
  have hFc := va_free (wc := [(qt, .inl (kt, 900, .inl g_4))]) hD hS hA [1] rfl
  refine va_callv (va_runS (As := [.ref qt, .int z5, .int z7]) (rest := []) ⟨hx, hb, hml, hown, hts⟩ (c_X11_put l dC dI _ qt kt 900 g_4 z5 z7 (by decide)) (va_cwS 3 hts hX11_addBytes_X11_put_s58 rfl rfl rfl (by decide +kernel) ⟨Nat.le_of_ble_eq_true rfl, Nat.le_of_ble_eq_true rfl⟩) ⟨zPre.blind, zPre.go hZ hPc hKc hDc⟩ rfl rfl hl.1 rfl (lv_room (Nat.le_of_ble_eq_true rfl)) dX11_addBytes_22 ⟨Nat.le_of_ble_eq_true rfl, Nat.le_of_ble_eq_true rfl⟩) hS (fun q _ h => hFc q h) hFc (fun u9 t9 H1 locs ht hvm hw hB hz1 hk1 hS => ?_)
  obtain ⟨g_9, hP1, hK1, hD1⟩ := hB
  rw [ht] at hP1
  have hK1 := va_K.moved hvm.symm hK1
  obtain ⟨hP, hD⟩ := va_join (wr := [(h0, .inr (10, [.ref qt, .ref q10, .ref q0, .ref q7, .ref q3, .int z5, .int x6, .int x7, .int x8]))]) (w1 := [(qt, .inl (kt, 900, .inl g_9))]) hP hD [1] [0] rfl rfl (by decide) (by decide) hk1 hFc hP1 hD1
  have hK := hK.app hK1
  generalize H1 = H at hP hS ⊢
  have hP : va_P (dC, dI) vwCl [(h0, .inr (10, [.ref qt, .ref q10, .ref q0, .ref q7, .ref q3, .int z5, .int x6, .int x7, .int x8])), (qt, .inl (kt, 900, .inl g_9))] H := hP
  have hD : va_D A [(h0, .inr (10, [.ref qt, .ref q10, .ref q0, .ref q7, .ref q3, .int z5, .int x6, .int x7, .int x8])), (qt, .inl (kt, 900, .inl g_9))] := hD
  have hK : va_K (dC, dI) vwCl [(kt, .int), (kt, .int)] s := hK
  have hK : va_K (dC, dI) vwCl [(kt, .int)] s := hK.sub [0] rfl
  refine lv_aload_n hx hb dX11_addBytes_25 rfl (lv_at hl 1 rfl) ?_
  refine lv_dup hx hb dX11_addBytes_26 rfl ?_
  refine va_get (D := (dC, dI)) (ci := 10) (v := .int z5) (C := RX11) (T := TX11) (N := 9) hx hb hts i_X11_addBytes_X11 hown hK hP 0 rfl rfl 5 (by decide) (hts (.fieldLink RX11 50 "StatementRules2" "length" "I") k_X11_addBytes_fieldLink_RX11_50_SR_length_I) (fun _ h9 => h9) rfl dX11_addBytes_27 ?_
  refine lv_iconst (v := 1) hx hb dX11_addBytes_30 (by decide) ?_
  refine lv_iadd hx hb dX11_addBytes_31 ?_
  refine lv_topi (fun z10 ez10 => ?_)
  refine va_put (D := (dC, dI)) (ci := 10) (v := .int z10) (ty := .int) (C := RX11) (T := TX11) (N := 9) hx hb hts i_X11_addBytes_X11 tyX11 tyX11_ok nmX11 hown hK hP hD hS 0 rfl rfl 5 (by decide) (hts (.fieldLink RX11 50 "StatementRules2" "length" "I") k_X11_addBytes_fieldLink_RX11_50_SR_length_I) (fun _ h9 => h9) rfl (by decide +kernel) rfl rfl (Nat.le_of_ble_eq_true rfl) dX11_addBytes_32 (fun H locs hP hD hS => ?_)
  have hP : va_P (dC, dI) vwCl [(h0, .inr (10, [.ref qt, .ref q10, .ref q0, .ref q7, .ref q3, .int z10, .int x6, .int x7, .int x8])), (qt, .inl (kt, 900, .inl g_9))] H := hP
  have hD : va_D A [(h0, .inr (10, [.ref qt, .ref q10, .ref q0, .ref q7, .ref q3, .int z10, .int x6, .int x7, .int x8])), (qt, .inl (kt, 900, .inl g_9))] := hD
  refine lv_iinc (v := 8) (lv' := [(2, .int 8), (0, .ref h0), (1, .int v)]) hx hb dX11_addBytes_35 hl (k := 0) rfl (by decide) (by decide) rfl (fun ls hl => ?_)
  refine lv_goto (tgt := 3) hx hb dX11_addBytes_38 (by decide) ?_
  refine lv_iload_n hx hb dX11_addBytes_3 rfl (lv_at hl 0 rfl) ?_
  refine lv_if_lt (tgt := 41) hx hb dX11_addBytes_4 (by decide) (fun c9 => absurd c9 (by decide)) (fun _ => ?_)
  refine lv_aload_n hx hb dX11_addBytes_7 rfl (lv_at hl 1 rfl) ?_
  refine va_get (D := (dC, dI)) (ci := 10) (v := .ref qt) (C := RX11) (T := TX11) (N := 9) hx hb hts i_X11_addBytes_X11 hown hK hP 0 rfl rfl 0 (by decide) (hts (.fieldLink RX11 9 "StatementRules2" "tape" "[I") k_X11_addBytes_fieldLink_RX11_9_SR_tape_I) (fun _ h9 => h9) rfl dX11_addBytes_8 ?_
  refine lv_aload_n hx hb dX11_addBytes_11 rfl (lv_at hl 1 rfl) ?_
  refine va_get (D := (dC, dI)) (ci := 10) (v := .int z10) (C := RX11) (T := TX11) (N := 9) hx hb hts i_X11_addBytes_X11 hown hK hP 0 rfl rfl 5 (by decide) (hts (.fieldLink RX11 50 "StatementRules2" "length" "I") k_X11_addBytes_fieldLink_RX11_50_SR_length_I) (fun _ h9 => h9) rfl dX11_addBytes_12 ?_
  refine lv_iload_n hx hb dX11_addBytes_15 rfl (lv_at hl 2 rfl) ?_
  refine lv_iload_n hx hb dX11_addBytes_16 rfl (lv_at hl 0 rfl) ?_
  obtain ⟨z11, ez11⟩ : ∃ y : Int32, y = ((v : Int32).toUInt32 >>> ((8 : Int32).toUInt32 &&& Int32.toUInt32 31)).toInt32 := ⟨_, rfl⟩
  refine lv_iushr (v := z11) hx hb dX11_addBytes_17 ez11.symm ?_
  refine lv_sipush (v := 255) hx hb dX11_addBytes_18 (by decide) ?_
  refine lv_iand hx hb dX11_addBytes_21 ?_
  refine lv_topi (fun z12 ez12 => ?_)
  have hPc := hP.sub (ws' := [(qt, .inl (kt, 900, .inl g_9))]) [1] rfl
  have hDc := hD.sub (ws' := [(qt, .inl (kt, 900, .inl g_9))]) [1] (by decide) rfl
  have hKc := hK.sub (tys' := [(kt, .int)]) [0] rfl
  have hFc := va_free (wc := [(qt, .inl (kt, 900, .inl g_9))]) hD hS hA [1] rfl
  refine va_callv (va_runS (As := [.ref qt, .int z10, .int z12]) (rest := []) ⟨hx, hb, hml, hown, hts⟩ (c_X11_put l dC dI _ qt kt 900 g_9 z10 z12 (by decide)) (va_cwS 3 hts hX11_addBytes_X11_put_s58 rfl rfl rfl (by decide +kernel) ⟨Nat.le_of_ble_eq_true rfl, Nat.le_of_ble_eq_true rfl⟩) ⟨zPre.blind, zPre.go hZ hPc hKc hDc⟩ rfl rfl hl.1 rfl (lv_room (Nat.le_of_ble_eq_true rfl)) dX11_addBytes_22 ⟨Nat.le_of_ble_eq_true rfl, Nat.le_of_ble_eq_true rfl⟩) hS (fun q _ h => hFc q h) hFc (fun u9 t9 H1 locs ht hvm hw hB hz1 hk1 hS => ?_)
  obtain ⟨g_14, hP1, hK1, hD1⟩ := hB
  rw [ht] at hP1
  have hK1 := va_K.moved hvm.symm hK1
  obtain ⟨hP, hD⟩ := va_join (wr := [(h0, .inr (10, [.ref qt, .ref q10, .ref q0, .ref q7, .ref q3, .int z10, .int x6, .int x7, .int x8]))]) (w1 := [(qt, .inl (kt, 900, .inl g_14))]) hP hD [1] [0] rfl rfl (by decide) (by decide) hk1 hFc hP1 hD1
  have hK := hK.app hK1
  generalize H1 = H at hP hS ⊢
  have hP : va_P (dC, dI) vwCl [(h0, .inr (10, [.ref qt, .ref q10, .ref q0, .ref q7, .ref q3, .int z10, .int x6, .int x7, .int x8])), (qt, .inl (kt, 900, .inl g_14))] H := hP
  have hD : va_D A [(h0, .inr (10, [.ref qt, .ref q10, .ref q0, .ref q7, .ref q3, .int z10, .int x6, .int x7, .int x8])), (qt, .inl (kt, 900, .inl g_14))] := hD
  have hK : va_K (dC, dI) vwCl [(kt, .int), (kt, .int)] s := hK
  have hK : va_K (dC, dI) vwCl [(kt, .int)] s := hK.sub [0] rfl
  refine lv_aload_n hx hb dX11_addBytes_25 rfl (lv_at hl 1 rfl) ?_
  refine lv_dup hx hb dX11_addBytes_26 rfl ?_
  refine va_get (D := (dC, dI)) (ci := 10) (v := .int z10) (C := RX11) (T := TX11) (N := 9) hx hb hts i_X11_addBytes_X11 hown hK hP 0 rfl rfl 5 (by decide) (hts (.fieldLink RX11 50 "StatementRules2" "length" "I") k_X11_addBytes_fieldLink_RX11_50_SR_length_I) (fun _ h9 => h9) rfl dX11_addBytes_27 ?_
  refine lv_iconst (v := 1) hx hb dX11_addBytes_30 (by decide) ?_
  refine lv_iadd hx hb dX11_addBytes_31 ?_
  refine lv_topi (fun z15 ez15 => ?_)
  refine va_put (D := (dC, dI)) (ci := 10) (v := .int z15) (ty := .int) (C := RX11) (T := TX11) (N := 9) hx hb hts i_X11_addBytes_X11 tyX11 tyX11_ok nmX11 hown hK hP hD hS 0 rfl rfl 5 (by decide) (hts (.fieldLink RX11 50 "StatementRules2" "length" "I") k_X11_addBytes_fieldLink_RX11_50_SR_length_I) (fun _ h9 => h9) rfl (by decide +kernel) rfl rfl (Nat.le_of_ble_eq_true rfl) dX11_addBytes_32 (fun H locs hP hD hS => ?_)
  have hP : va_P (dC, dI) vwCl [(h0, .inr (10, [.ref qt, .ref q10, .ref q0, .ref q7, .ref q3, .int z15, .int x6, .int x7, .int x8])), (qt, .inl (kt, 900, .inl g_14))] H := hP
  have hD : va_D A [(h0, .inr (10, [.ref qt, .ref q10, .ref q0, .ref q7, .ref q3, .int z15, .int x6, .int x7, .int x8])), (qt, .inl (kt, 900, .inl g_14))] := hD
  refine lv_iinc (v := 0) (lv' := [(2, .int 0), (0, .ref h0), (1, .int v)]) hx hb dX11_addBytes_35 hl (k := 0) rfl (by decide) (by decide) rfl (fun ls hl => ?_)
  refine lv_goto (tgt := 3) hx hb dX11_addBytes_38 (by decide) ?_
  refine lv_iload_n hx hb dX11_addBytes_3 rfl (lv_at hl 0 rfl) ?_
  refine lv_if_lt (tgt := 41) hx hb dX11_addBytes_4 (by decide) (fun c9 => absurd c9 (by decide)) (fun _ => ?_)
  refine lv_aload_n hx hb dX11_addBytes_7 rfl (lv_at hl 1 rfl) ?_
  refine va_get (D := (dC, dI)) (ci := 10) (v := .ref qt) (C := RX11) (T := TX11) (N := 9) hx hb hts i_X11_addBytes_X11 hown hK hP 0 rfl rfl 0 (by decide) (hts (.fieldLink RX11 9 "StatementRules2" "tape" "[I") k_X11_addBytes_fieldLink_RX11_9_SR_tape_I) (fun _ h9 => h9) rfl dX11_addBytes_8 ?_
  refine lv_aload_n hx hb dX11_addBytes_11 rfl (lv_at hl 1 rfl) ?_
  refine va_get (D := (dC, dI)) (ci := 10) (v := .int z15) (C := RX11) (T := TX11) (N := 9) hx hb hts i_X11_addBytes_X11 hown hK hP 0 rfl rfl 5 (by decide) (hts (.fieldLink RX11 50 "StatementRules2" "length" "I") k_X11_addBytes_fieldLink_RX11_50_SR_length_I) (fun _ h9 => h9) rfl dX11_addBytes_12 ?_
  refine lv_iload_n hx hb dX11_addBytes_15 rfl (lv_at hl 2 rfl) ?_
  refine lv_iload_n hx hb dX11_addBytes_16 rfl (lv_at hl 0 rfl) ?_
  obtain ⟨z16, ez16⟩ : ∃ y : Int32, y = ((v : Int32).toUInt32 >>> ((0 : Int32).toUInt32 &&& Int32.toUInt32 31)).toInt32 := ⟨_, rfl⟩
  refine lv_iushr (v := z16) hx hb dX11_addBytes_17 ez16.symm ?_
  refine lv_sipush (v := 255) hx hb dX11_addBytes_18 (by decide) ?_
  refine lv_iand hx hb dX11_addBytes_21 ?_
  refine lv_topi (fun z17 ez17 => ?_)
  have hPc := hP.sub (ws' := [(qt, .inl (kt, 900, .inl g_14))]) [1] rfl
  have hDc := hD.sub (ws' := [(qt, .inl (kt, 900, .inl g_14))]) [1] (by decide) rfl
  have hKc := hK.sub (tys' := [(kt, .int)]) [0] rfl
  have hFc := va_free (wc := [(qt, .inl (kt, 900, .inl g_14))]) hD hS hA [1] rfl
  refine va_callv (va_runS (As := [.ref qt, .int z15, .int z17]) (rest := []) ⟨hx, hb, hml, hown, hts⟩ (c_X11_put l dC dI _ qt kt 900 g_14 z15 z17 (by decide)) (va_cwS 3 hts hX11_addBytes_X11_put_s58 rfl rfl rfl (by decide +kernel) ⟨Nat.le_of_ble_eq_true rfl, Nat.le_of_ble_eq_true rfl⟩) ⟨zPre.blind, zPre.go hZ hPc hKc hDc⟩ rfl rfl hl.1 rfl (lv_room (Nat.le_of_ble_eq_true rfl)) dX11_addBytes_22 ⟨Nat.le_of_ble_eq_true rfl, Nat.le_of_ble_eq_true rfl⟩) hS (fun q _ h => hFc q h) hFc (fun u9 t9 H1 locs ht hvm hw hB hz1 hk1 hS => ?_)
  obtain ⟨g_19, hP1, hK1, hD1⟩ := hB
  rw [ht] at hP1
  have hK1 := va_K.moved hvm.symm hK1
  obtain ⟨hP, hD⟩ := va_join (wr := [(h0, .inr (10, [.ref qt, .ref q10, .ref q0, .ref q7, .ref q3, .int z15, .int x6, .int x7, .int x8]))]) (w1 := [(qt, .inl (kt, 900, .inl g_19))]) hP hD [1] [0] rfl rfl (by decide) (by decide) hk1 hFc hP1 hD1
  have hK := hK.app hK1
  generalize H1 = H at hP hS ⊢
  have hP : va_P (dC, dI) vwCl [(h0, .inr (10, [.ref qt, .ref q10, .ref q0, .ref q7, .ref q3, .int z15, .int x6, .int x7, .int x8])), (qt, .inl (kt, 900, .inl g_19))] H := hP
  have hD : va_D A [(h0, .inr (10, [.ref qt, .ref q10, .ref q0, .ref q7, .ref q3, .int z15, .int x6, .int x7, .int x8])), (qt, .inl (kt, 900, .inl g_19))] := hD
  have hK : va_K (dC, dI) vwCl [(kt, .int), (kt, .int)] s := hK
  have hK : va_K (dC, dI) vwCl [(kt, .int)] s := hK.sub [0] rfl
  refine lv_aload_n hx hb dX11_addBytes_25 rfl (lv_at hl 1 rfl) ?_
  refine lv_dup hx hb dX11_addBytes_26 rfl ?_
  refine va_get (D := (dC, dI)) (ci := 10) (v := .int z15) (C := RX11) (T := TX11) (N := 9) hx hb hts i_X11_addBytes_X11 hown hK hP 0 rfl rfl 5 (by decide) (hts (.fieldLink RX11 50 "StatementRules2" "length" "I") k_X11_addBytes_fieldLink_RX11_50_SR_length_I) (fun _ h9 => h9) rfl dX11_addBytes_27 ?_
  refine lv_iconst (v := 1) hx hb dX11_addBytes_30 (by decide) ?_
  refine lv_iadd hx hb dX11_addBytes_31 ?_
  refine lv_topi (fun z20 ez20 => ?_)
  refine va_put (D := (dC, dI)) (ci := 10) (v := .int z20) (ty := .int) (C := RX11) (T := TX11) (N := 9) hx hb hts i_X11_addBytes_X11 tyX11 tyX11_ok nmX11 hown hK hP hD hS 0 rfl rfl 5 (by decide) (hts (.fieldLink RX11 50 "StatementRules2" "length" "I") k_X11_addBytes_fieldLink_RX11_50_SR_length_I) (fun _ h9 => h9) rfl (by decide +kernel) rfl rfl (Nat.le_of_ble_eq_true rfl) dX11_addBytes_32 (fun H locs hP hD hS => ?_)
  have hP : va_P (dC, dI) vwCl [(h0, .inr (10, [.ref qt, .ref q10, .ref q0, .ref q7, .ref q3, .int z20, .int x6, .int x7, .int x8])), (qt, .inl (kt, 900, .inl g_19))] H := hP
  have hD : va_D A [(h0, .inr (10, [.ref qt, .ref q10, .ref q0, .ref q7, .ref q3, .int z20, .int x6, .int x7, .int x8])), (qt, .inl (kt, 900, .inl g_19))] := hD
  refine lv_iinc (v := (-8)) (lv' := [(2, .int (-8)), (0, .ref h0), (1, .int v)]) hx hb dX11_addBytes_35 hl (k := 0) rfl (by decide) (by decide) rfl (fun ls hl => ?_)
  refine lv_goto (tgt := 3) hx hb dX11_addBytes_38 (by decide) ?_
  refine lv_iload_n hx hb dX11_addBytes_3 rfl (lv_at hl 0 rfl) ?_
  refine lv_if_lt (tgt := 41) hx hb dX11_addBytes_4 (by decide) (fun _ => ?_) (fun c9 => absurd (by decide) c9)
  have hP9 := hP.sub (ws' := [(h0, .inr (10, [.ref qt, .ref q10, .ref q0, .ref q7, .ref q3, .int z20, .int x6, .int x7, .int x8])), (qt, .inl (kt, 900, .inl g_19))]) [0, 1] rfl
  have hD9 := hD.sub (ws' := [(h0, .inr (10, [.ref qt, .ref q10, .ref q0, .ref q7, .ref q3, .int z20, .int x6, .int x7, .int x8])), (qt, .inl (kt, 900, .inl g_19))]) [0, 1] (by decide) rfl
  have hK9 := hK.sub (tys' := [(kt, .int)]) [0] rfl
  exact W.vret hx hb hr (fun t ht hW => ⟨⟨(), rfl, trivial, z20, g_19, by rw [ht]; exact hP9, va_K.moved hW.alike hK9, hD9⟩, hS.F ht⟩) hS.2.2 dX11_addBytes_41
theorem k_X11_feed_fieldLink_RX11_50_SR_length_I : Cond.fieldLink RX11 50 "StatementRules2" "length" "I" ∈ wzX11_feed := List.mem_cons_of_mem _ (List.mem_append_left _ (List.mem_of_getElem? (i := 0) rfl))
theorem i_X11_feed_X11 : ∀ w ∈ wsX110, w ∈ wzX11_feed := fun _ h => List.mem_cons_of_mem _ (List.mem_append_right _ (List.mem_append_left _ (h)))
set_option maxHeartbeats 4000000 in
set_option maxRecDepth 100000 in
theorem c_X11_feed (l : Launch) (dC : Nat → ClassId) (dI : Nat → Nat → Nat) (sz : Nat) (h0 : Nat) (a1 : Int32) (a2 : Int32) (a3 : Int32) (a4 : Int32) (a5 : Int32) (x5 : Int32) (x6 : Int32) (x7 : Int32) (x8 : Int32) (qt : Nat) (q10 : Nat) (q0 : Nat) (q7 : Nat) (q3 : Nat) (kt : ClassId) (ft : Nat → Int32) : Met l yX11_feed wzX11_feed ({ frames := 3, cells := 0, slots := 0, locals := 180 }) (va_Pc [.ref h0, .int a1, .int a2, .int a3, .int a4, .int a5] (zPre dC dI sz [(h0, .inr (10, [.ref qt, .ref q10, .ref q0, .ref q7, .ref q3, .int x5, .int x6, .int x7, .int x8])), (qt, .inl (kt, 900, .inl ft))] [(kt, .int)])) (va_Qi (fun (r : Int32) (_ : Unit) => True) (fun (_ : Unit) (t : State) => ∃ (y5 : Int32), ∃ (gt : Nat → Int32), zPost dC dI (va_A [(h0, .inr (10, [.ref qt, .ref q10, .ref q0, .ref q7, .ref q3, .int x5, .int x6, .int x7, .int x8])), (qt, .inl (kt, 900, .inl ft))] sz) [(h0, .inr (10, [.ref qt, .ref q10, .ref q0, .ref q7, .ref q3, .int y5, .int x6, .int x7, .int x8])), (qt, .inl (kt, 900, .inl gt))] [(kt, .int)] t) (va_A [(h0, .inr (10, [.ref qt, .ref q10, .ref q0, .ref q7, .ref q3, .int x5, .int x6, .int x7, .int x8])), (qt, .inl (kt, 900, .inl ft))] sz)) 0 0 (va_A [(h0, .inr (10, [.ref qt, .ref q10, .ref q0, .ref q7, .ref q3, .int x5, .int x6, .int x7, .int x8])), (qt, .inl (kt, 900, .inl ft))] sz) := by
  refine Met.ofW (cc := cX11_feed) (maxL := 6) (ret := (some .int)) (by decide) rfl ?_
  intro p e s m args below meth c s₁ B hml hv
  obtain ⟨rfl, hsz, hZ, hP, hK, hD0⟩ := hv
  have hx := B.exec
  have hb := B.bytes
  have hr := B.returns
  have hts := atoms_spec (ws := wzX11_feed) B.pre
  have hown : s.vm.findClass RX11 = some m.cls := findClass_of_methodNamed B.named
  have hlocks := B.notSynchronized
  subst hsz
  have hD := hD0.self (sz := s.heap.size)
  generalize hAe : va_A [(h0, .inr (10, [.ref qt, .ref q10, .ref q0, .ref q7, .ref q3, .int x5, .int x6, .int x7, .int x8])), (qt, .inl (kt, 900, .inl ft))] s.heap.size = A at hD ⊢
  have hA : ∀ q : Nat, s.heap.size ≤ q → A q := fun q h => by rw [← hAe]; exact Or.inr h
  have hS : va_S A s.heap s.heap [] := va_S.rf
  have hP : va_P (dC, dI) vwCl [(h0, .inr (10, [.ref qt, .ref q10, .ref q0, .ref q7, .ref q3, .int x5, .int x6, .int x7, .int x8])), (qt, .inl (kt, 900, .inl ft))] s.heap := hP
  have hl := lv_entry ([.ref h0, .int a1, .int a2, .int a3, .int a4, .int a5]) (n := 6) (Nat.le_of_ble_eq_true rfl)
  rw [lg_entry_eq]
  generalize (lg_sl ([.ref h0, .int a1, .int a2, .int a3, .int a4, .int a5]) ++ List.replicate (6 - (lg_sl ([.ref h0, .int a1, .int a2, .int a3, .int a4, .int a5])).length) Slot.unset).toArray = ls at hl ⊢
  have hl : lv_has ls 6 [(0, .ref h0), (1, .int a1), (2, .int a2), (3, .int a3), (4, .int a4), (5, .int a5)] := hl
  refine lv_aload_n hx hb dX11_feed_0 rfl (lv_at hl 0 rfl) ?_
  refine va_get (D := (dC, dI)) (ci := 10) (v := .int x5) (C := RX11) (T := TX11) (N := 9) hx hb hts i_X11_feed_X11 hown hK hP 0 rfl rfl 5 (by decide) (hts (.fieldLink RX11 50 "StatementRules2" "length" "I") k_X11_feed_fieldLink_RX11_50_SR_length_I) (fun _ h9 => h9) rfl dX11_feed_1 ?_
  refine lv_bipush (v := 20) hx hb dX11_feed_4 (by decide) ?_
  refine lv_iadd hx hb dX11_feed_6 ?_
  refine lv_topi (fun z1 ez1 => ?_)
  refine lv_sipush (v := 900) hx hb dX11_feed_7 (by decide) ?_
  refine lv_icmp_le (tgt := 16) hx hb dX11_feed_10 (by decide) (fun c2 => ?_) (fun c2 => ?_)
  ·
    refine lv_aload_n hx hb dX11_feed_16 rfl (lv_at hl 0 rfl) ?_
    refine lv_iload_n hx hb dX11_feed_17 rfl (lv_at hl 1 rfl) ?_
    have hPc := hP.sub (ws' := [(h0, .inr (10, [.ref qt, .ref q10, .ref q0, .ref q7, .ref q3, .int x5, .int x6, .int x7, .int x8])), (qt, .inl (kt, 900, .inl ft))]) [0, 1] rfl
    have hDc := hD.sub (ws' := [(h0, .inr (10, [.ref qt, .ref q10, .ref q0, .ref q7, .ref q3, .int x5, .int x6, .int x7, .int x8])), (qt, .inl (kt, 900, .inl ft))]) [0, 1] (by decide) rfl
    have hKc := hK.sub (tys' := [(kt, .int)]) [0] rfl
    have hFc := va_free (wc := [(h0, .inr (10, [.ref qt, .ref q10, .ref q0, .ref q7, .ref q3, .int x5, .int x6, .int x7, .int x8])), (qt, .inl (kt, 900, .inl ft))]) hD hS hA [0, 1] rfl
    refine va_callv (va_runV (As := [.int a1]) (rest := []) ⟨hx, hb, hml, hown, hts⟩ (c_X11_addBytes l dC dI _ h0 a1 x5 x6 x7 x8 qt q10 q0 q7 q3 kt ft) (cwV 1 hts hX11_feed_X11_addBytes_v54 rfl rfl rfl (by decide +kernel) ⟨Nat.le_of_ble_eq_true rfl, Nat.le_of_ble_eq_true rfl⟩) ⟨zPre.blind, va_recv hKc hPc (ci := 10) (q0 := 0) rfl rfl, zPre.go hZ hPc hKc hDc⟩ rfl rfl hl.1 rfl (lv_room (Nat.le_of_ble_eq_true rfl)) dX11_feed_18 ⟨Nat.le_of_ble_eq_true rfl, Nat.le_of_ble_eq_true rfl⟩) hS (fun q _ h => hFc q h) hFc (fun u9 t9 H1 locs ht hvm hw hB hz1 hk1 hS => ?_)
    obtain ⟨y5_4, gt_5, hP1, hK1, hD1⟩ := hB
    rw [ht] at hP1
    have hK1 := va_K.moved hvm.symm hK1
    obtain ⟨hP, hD⟩ := va_join (wr := []) (w1 := [(h0, .inr (10, [.ref qt, .ref q10, .ref q0, .ref q7, .ref q3, .int y5_4, .int x6, .int x7, .int x8])), (qt, .inl (kt, 900, .inl gt_5))]) hP hD [0, 1] [] rfl rfl (by decide) (by decide) hk1 hFc hP1 hD1
    have hK := hK.app hK1
    generalize H1 = H at hP hS ⊢
    have hP : va_P (dC, dI) vwCl [(h0, .inr (10, [.ref qt, .ref q10, .ref q0, .ref q7, .ref q3, .int y5_4, .int x6, .int x7, .int x8])), (qt, .inl (kt, 900, .inl gt_5))] H := hP
    have hD : va_D A [(h0, .inr (10, [.ref qt, .ref q10, .ref q0, .ref q7, .ref q3, .int y5_4, .int x6, .int x7, .int x8])), (qt, .inl (kt, 900, .inl gt_5))] := hD
    have hK : va_K (dC, dI) vwCl [(kt, .int), (kt, .int)] s := hK
    have hK : va_K (dC, dI) vwCl [(kt, .int)] s := hK.sub [0] rfl
    refine lv_aload_n hx hb dX11_feed_21 rfl (lv_at hl 0 rfl) ?_
    refine lv_iload_n hx hb dX11_feed_22 rfl (lv_at hl 2 rfl) ?_
    have hPc := hP.sub (ws' := [(h0, .inr (10, [.ref qt, .ref q10, .ref q0, .ref q7, .ref q3, .int y5_4, .int x6, .int x7, .int x8])), (qt, .inl (kt, 900, .inl gt_5))]) [0, 1] rfl
    have hDc := hD.sub (ws' := [(h0, .inr (10, [.ref qt, .ref q10, .ref q0, .ref q7, .ref q3, .int y5_4, .int x6, .int x7, .int x8])), (qt, .inl (kt, 900, .inl gt_5))]) [0, 1] (by decide) rfl
    have hKc := hK.sub (tys' := [(kt, .int)]) [0] rfl
    have hFc := va_free (wc := [(h0, .inr (10, [.ref qt, .ref q10, .ref q0, .ref q7, .ref q3, .int y5_4, .int x6, .int x7, .int x8])), (qt, .inl (kt, 900, .inl gt_5))]) hD hS hA [0, 1] rfl
    refine va_callv (va_runV (As := [.int a2]) (rest := []) ⟨hx, hb, hml, hown, hts⟩ (c_X11_addBytes l dC dI _ h0 a2 y5_4 x6 x7 x8 qt q10 q0 q7 q3 kt gt_5) (cwV 1 hts hX11_feed_X11_addBytes_v54 rfl rfl rfl (by decide +kernel) ⟨Nat.le_of_ble_eq_true rfl, Nat.le_of_ble_eq_true rfl⟩) ⟨zPre.blind, va_recv hKc hPc (ci := 10) (q0 := 0) rfl rfl, zPre.go hZ hPc hKc hDc⟩ rfl rfl hl.1 rfl (lv_room (Nat.le_of_ble_eq_true rfl)) dX11_feed_23 ⟨Nat.le_of_ble_eq_true rfl, Nat.le_of_ble_eq_true rfl⟩) hS (fun q _ h => hFc q h) hFc (fun u9 t9 H1 locs ht hvm hw hB hz1 hk1 hS => ?_)
    obtain ⟨y5_7, gt_8, hP1, hK1, hD1⟩ := hB
    rw [ht] at hP1
    have hK1 := va_K.moved hvm.symm hK1
    obtain ⟨hP, hD⟩ := va_join (wr := []) (w1 := [(h0, .inr (10, [.ref qt, .ref q10, .ref q0, .ref q7, .ref q3, .int y5_7, .int x6, .int x7, .int x8])), (qt, .inl (kt, 900, .inl gt_8))]) hP hD [0, 1] [] rfl rfl (by decide) (by decide) hk1 hFc hP1 hD1
    have hK := hK.app hK1
    generalize H1 = H at hP hS ⊢
    have hP : va_P (dC, dI) vwCl [(h0, .inr (10, [.ref qt, .ref q10, .ref q0, .ref q7, .ref q3, .int y5_7, .int x6, .int x7, .int x8])), (qt, .inl (kt, 900, .inl gt_8))] H := hP
    have hD : va_D A [(h0, .inr (10, [.ref qt, .ref q10, .ref q0, .ref q7, .ref q3, .int y5_7, .int x6, .int x7, .int x8])), (qt, .inl (kt, 900, .inl gt_8))] := hD
    have hK : va_K (dC, dI) vwCl [(kt, .int), (kt, .int)] s := hK
    have hK : va_K (dC, dI) vwCl [(kt, .int)] s := hK.sub [0] rfl
    refine lv_aload_n hx hb dX11_feed_26 rfl (lv_at hl 0 rfl) ?_
    refine lv_iload_n hx hb dX11_feed_27 rfl (lv_at hl 3 rfl) ?_
    have hPc := hP.sub (ws' := [(h0, .inr (10, [.ref qt, .ref q10, .ref q0, .ref q7, .ref q3, .int y5_7, .int x6, .int x7, .int x8])), (qt, .inl (kt, 900, .inl gt_8))]) [0, 1] rfl
    have hDc := hD.sub (ws' := [(h0, .inr (10, [.ref qt, .ref q10, .ref q0, .ref q7, .ref q3, .int y5_7, .int x6, .int x7, .int x8])), (qt, .inl (kt, 900, .inl gt_8))]) [0, 1] (by decide) rfl
    have hKc := hK.sub (tys' := [(kt, .int)]) [0] rfl
    have hFc := va_free (wc := [(h0, .inr (10, [.ref qt, .ref q10, .ref q0, .ref q7, .ref q3, .int y5_7, .int x6, .int x7, .int x8])), (qt, .inl (kt, 900, .inl gt_8))]) hD hS hA [0, 1] rfl
    refine va_callv (va_runV (As := [.int a3]) (rest := []) ⟨hx, hb, hml, hown, hts⟩ (c_X11_addBytes l dC dI _ h0 a3 y5_7 x6 x7 x8 qt q10 q0 q7 q3 kt gt_8) (cwV 1 hts hX11_feed_X11_addBytes_v54 rfl rfl rfl (by decide +kernel) ⟨Nat.le_of_ble_eq_true rfl, Nat.le_of_ble_eq_true rfl⟩) ⟨zPre.blind, va_recv hKc hPc (ci := 10) (q0 := 0) rfl rfl, zPre.go hZ hPc hKc hDc⟩ rfl rfl hl.1 rfl (lv_room (Nat.le_of_ble_eq_true rfl)) dX11_feed_28 ⟨Nat.le_of_ble_eq_true rfl, Nat.le_of_ble_eq_true rfl⟩) hS (fun q _ h => hFc q h) hFc (fun u9 t9 H1 locs ht hvm hw hB hz1 hk1 hS => ?_)
    obtain ⟨y5_10, gt_11, hP1, hK1, hD1⟩ := hB
    rw [ht] at hP1
    have hK1 := va_K.moved hvm.symm hK1
    obtain ⟨hP, hD⟩ := va_join (wr := []) (w1 := [(h0, .inr (10, [.ref qt, .ref q10, .ref q0, .ref q7, .ref q3, .int y5_10, .int x6, .int x7, .int x8])), (qt, .inl (kt, 900, .inl gt_11))]) hP hD [0, 1] [] rfl rfl (by decide) (by decide) hk1 hFc hP1 hD1
    have hK := hK.app hK1
    generalize H1 = H at hP hS ⊢
    have hP : va_P (dC, dI) vwCl [(h0, .inr (10, [.ref qt, .ref q10, .ref q0, .ref q7, .ref q3, .int y5_10, .int x6, .int x7, .int x8])), (qt, .inl (kt, 900, .inl gt_11))] H := hP
    have hD : va_D A [(h0, .inr (10, [.ref qt, .ref q10, .ref q0, .ref q7, .ref q3, .int y5_10, .int x6, .int x7, .int x8])), (qt, .inl (kt, 900, .inl gt_11))] := hD
    have hK : va_K (dC, dI) vwCl [(kt, .int), (kt, .int)] s := hK
    have hK : va_K (dC, dI) vwCl [(kt, .int)] s := hK.sub [0] rfl
    refine lv_aload_n hx hb dX11_feed_31 rfl (lv_at hl 0 rfl) ?_
    refine lv_iload hx hb dX11_feed_32 (lv_at hl 4 rfl) ?_
    have hPc := hP.sub (ws' := [(h0, .inr (10, [.ref qt, .ref q10, .ref q0, .ref q7, .ref q3, .int y5_10, .int x6, .int x7, .int x8])), (qt, .inl (kt, 900, .inl gt_11))]) [0, 1] rfl
    have hDc := hD.sub (ws' := [(h0, .inr (10, [.ref qt, .ref q10, .ref q0, .ref q7, .ref q3, .int y5_10, .int x6, .int x7, .int x8])), (qt, .inl (kt, 900, .inl gt_11))]) [0, 1] (by decide) rfl
    have hKc := hK.sub (tys' := [(kt, .int)]) [0] rfl
    have hFc := va_free (wc := [(h0, .inr (10, [.ref qt, .ref q10, .ref q0, .ref q7, .ref q3, .int y5_10, .int x6, .int x7, .int x8])), (qt, .inl (kt, 900, .inl gt_11))]) hD hS hA [0, 1] rfl
    refine va_callv (va_runV (As := [.int a4]) (rest := []) ⟨hx, hb, hml, hown, hts⟩ (c_X11_addBytes l dC dI _ h0 a4 y5_10 x6 x7 x8 qt q10 q0 q7 q3 kt gt_11) (cwV 1 hts hX11_feed_X11_addBytes_v54 rfl rfl rfl (by decide +kernel) ⟨Nat.le_of_ble_eq_true rfl, Nat.le_of_ble_eq_true rfl⟩) ⟨zPre.blind, va_recv hKc hPc (ci := 10) (q0 := 0) rfl rfl, zPre.go hZ hPc hKc hDc⟩ rfl rfl hl.1 rfl (lv_room (Nat.le_of_ble_eq_true rfl)) dX11_feed_34 ⟨Nat.le_of_ble_eq_true rfl, Nat.le_of_ble_eq_true rfl⟩) hS (fun q _ h => hFc q h) hFc (fun u9 t9 H1 locs ht hvm hw hB hz1 hk1 hS => ?_)
    obtain ⟨y5_13, gt_14, hP1, hK1, hD1⟩ := hB
    rw [ht] at hP1
    have hK1 := va_K.moved hvm.symm hK1
    obtain ⟨hP, hD⟩ := va_join (wr := []) (w1 := [(h0, .inr (10, [.ref qt, .ref q10, .ref q0, .ref q7, .ref q3, .int y5_13, .int x6, .int x7, .int x8])), (qt, .inl (kt, 900, .inl gt_14))]) hP hD [0, 1] [] rfl rfl (by decide) (by decide) hk1 hFc hP1 hD1
    have hK := hK.app hK1
    generalize H1 = H at hP hS ⊢
    have hP : va_P (dC, dI) vwCl [(h0, .inr (10, [.ref qt, .ref q10, .ref q0, .ref q7, .ref q3, .int y5_13, .int x6, .int x7, .int x8])), (qt, .inl (kt, 900, .inl gt_14))] H := hP
    have hD : va_D A [(h0, .inr (10, [.ref qt, .ref q10, .ref q0, .ref q7, .ref q3, .int y5_13, .int x6, .int x7, .int x8])), (qt, .inl (kt, 900, .inl gt_14))] := hD
    have hK : va_K (dC, dI) vwCl [(kt, .int), (kt, .int)] s := hK
    have hK : va_K (dC, dI) vwCl [(kt, .int)] s := hK.sub [0] rfl
    refine lv_aload_n hx hb dX11_feed_37 rfl (lv_at hl 0 rfl) ?_
    refine lv_iload hx hb dX11_feed_38 (lv_at hl 5 rfl) ?_
    have hPc := hP.sub (ws' := [(h0, .inr (10, [.ref qt, .ref q10, .ref q0, .ref q7, .ref q3, .int y5_13, .int x6, .int x7, .int x8])), (qt, .inl (kt, 900, .inl gt_14))]) [0, 1] rfl
    have hDc := hD.sub (ws' := [(h0, .inr (10, [.ref qt, .ref q10, .ref q0, .ref q7, .ref q3, .int y5_13, .int x6, .int x7, .int x8])), (qt, .inl (kt, 900, .inl gt_14))]) [0, 1] (by decide) rfl
    have hKc := hK.sub (tys' := [(kt, .int)]) [0] rfl
    have hFc := va_free (wc := [(h0, .inr (10, [.ref qt, .ref q10, .ref q0, .ref q7, .ref q3, .int y5_13, .int x6, .int x7, .int x8])), (qt, .inl (kt, 900, .inl gt_14))]) hD hS hA [0, 1] rfl
    refine va_callv (va_runV (As := [.int a5]) (rest := []) ⟨hx, hb, hml, hown, hts⟩ (c_X11_addBytes l dC dI _ h0 a5 y5_13 x6 x7 x8 qt q10 q0 q7 q3 kt gt_14) (cwV 1 hts hX11_feed_X11_addBytes_v54 rfl rfl rfl (by decide +kernel) ⟨Nat.le_of_ble_eq_true rfl, Nat.le_of_ble_eq_true rfl⟩) ⟨zPre.blind, va_recv hKc hPc (ci := 10) (q0 := 0) rfl rfl, zPre.go hZ hPc hKc hDc⟩ rfl rfl hl.1 rfl (lv_room (Nat.le_of_ble_eq_true rfl)) dX11_feed_40 ⟨Nat.le_of_ble_eq_true rfl, Nat.le_of_ble_eq_true rfl⟩) hS (fun q _ h => hFc q h) hFc (fun u9 t9 H1 locs ht hvm hw hB hz1 hk1 hS => ?_)
    obtain ⟨y5_16, gt_17, hP1, hK1, hD1⟩ := hB
    rw [ht] at hP1
    have hK1 := va_K.moved hvm.symm hK1
    obtain ⟨hP, hD⟩ := va_join (wr := []) (w1 := [(h0, .inr (10, [.ref qt, .ref q10, .ref q0, .ref q7, .ref q3, .int y5_16, .int x6, .int x7, .int x8])), (qt, .inl (kt, 900, .inl gt_17))]) hP hD [0, 1] [] rfl rfl (by decide) (by decide) hk1 hFc hP1 hD1
    have hK := hK.app hK1
    generalize H1 = H at hP hS ⊢
    have hP : va_P (dC, dI) vwCl [(h0, .inr (10, [.ref qt, .ref q10, .ref q0, .ref q7, .ref q3, .int y5_16, .int x6, .int x7, .int x8])), (qt, .inl (kt, 900, .inl gt_17))] H := hP
    have hD : va_D A [(h0, .inr (10, [.ref qt, .ref q10, .ref q0, .ref q7, .ref q3, .int y5_16, .int x6, .int x7, .int x8])), (qt, .inl (kt, 900, .inl gt_17))] := hD
    have hK : va_K (dC, dI) vwCl [(kt, .int), (kt, .int)] s := hK
    have hK : va_K (dC, dI) vwCl [(kt, .int)] s := hK.sub [0] rfl
    refine lv_aload_n hx hb dX11_feed_43 rfl (lv_at hl 0 rfl) ?_
    refine va_get (D := (dC, dI)) (ci := 10) (v := .int y5_16) (C := RX11) (T := TX11) (N := 9) hx hb hts i_X11_feed_X11 hown hK hP 0 rfl rfl 5 (by decide) (hts (.fieldLink RX11 50 "StatementRules2" "length" "I") k_X11_feed_fieldLink_RX11_50_SR_length_I) (fun _ h9 => h9) rfl dX11_feed_44 ?_
    have hP9 := hP.sub (ws' := [(h0, .inr (10, [.ref qt, .ref q10, .ref q0, .ref q7, .ref q3, .int y5_16, .int x6, .int x7, .int x8])), (qt, .inl (kt, 900, .inl gt_17))]) [0, 1] rfl
    have hD9 := hD.sub (ws' := [(h0, .inr (10, [.ref qt, .ref q10, .ref q0, .ref q7, .ref q3, .int y5_16, .int x6, .int x7, .int x8])), (qt, .inl (kt, 900, .inl gt_17))]) [0, 1] (by decide) rfl
    have hK9 := hK.sub (tys' := [(kt, .int)]) [0] rfl
    exact W.iret (v := y5_16) hx hb hr (fun t ht hW => ⟨⟨y5_16, (), rfl, trivial, y5_16, gt_17, by rw [ht]; exact hP9, va_K.moved hW.alike hK9, hD9⟩, hS.F ht⟩) hS.2.2 dX11_feed_47
  ·
    refine lv_bipush (v := (-2)) hx hb dX11_feed_13 (by decide) ?_
    have hP9 := hP.sub (ws' := [(h0, .inr (10, [.ref qt, .ref q10, .ref q0, .ref q7, .ref q3, .int x5, .int x6, .int x7, .int x8])), (qt, .inl (kt, 900, .inl ft))]) [0, 1] rfl
    have hD9 := hD.sub (ws' := [(h0, .inr (10, [.ref qt, .ref q10, .ref q0, .ref q7, .ref q3, .int x5, .int x6, .int x7, .int x8])), (qt, .inl (kt, 900, .inl ft))]) [0, 1] (by decide) rfl
    have hK9 := hK.sub (tys' := [(kt, .int)]) [0] rfl
    exact W.iret (v := (-2)) hx hb hr (fun t ht hW => ⟨⟨(-2), (), rfl, trivial, x5, ft, by rw [ht]; exact hP9, va_K.moved hW.alike hK9, hD9⟩, hS.F ht⟩) hS.2.2 dX11_feed_15
theorem k_X11_cut_fieldLink_RX11_50_SR_length_I : Cond.fieldLink RX11 50 "StatementRules2" "length" "I" ∈ wzX11_cut := List.mem_cons_of_mem _ (List.mem_append_left _ (List.mem_of_getElem? (i := 0) rfl))
theorem i_X11_cut_X11 : ∀ w ∈ wsX110, w ∈ wzX11_cut := fun _ h => List.mem_cons_of_mem _ (List.mem_append_right _ (List.mem_append_left _ (h)))
set_option maxHeartbeats 4000000 in
set_option maxRecDepth 100000 in
theorem j_X11_cut_12 {p : Program} {e : Env} {s : State} {m : MethodId} {args : Array Value} {below : List Frame} {meth : Method} {c : Code} {A : Nat → Prop} (l : Launch) (dC : Nat → ClassId) (dI : Nat → Nat → Nat) (h0 : Nat) (qt : Nat) (q10 : Nat) (q0 : Nat) (q7 : Nat) (q3 : Nat) (x5 : Int32) (x6 : Int32) (x7 : Int32) (x8 : Int32) (hx : p.tables.exec = Jvm.exec) (hb : c.code = cX11_cut) (hr : meth.sig.returnType = (some .int)) (hml : c.maxLocals = 3) (hown : s.vm.findClass RX11 = some m.cls) (hts : ∀ w ∈ wzX11_cut, w.before args s = true) (hlocks : meth.locks = false) (hZ : zAMB s) (hA : ∀ q : Nat, s.heap.size ≤ q → A q) (hK : va_K (dC, dI) vwCl [] s) : ∀  (H : Heap) (locs : List Loc) (ls : Array Slot), va_P (dC, dI) vwCl [(h0, .inr (10, [.ref qt, .ref q10, .ref q0, .ref q7, .ref q3, .int x5, .int x6, .int x7, .int x8]))] H → va_D A [(h0, .inr (10, [.ref qt, .ref q10, .ref q0, .ref q7, .ref q3, .int x5, .int x6, .int x7, .int x8]))] → va_S A s.heap H locs → lv_has ls 3 [] → W p l e ({ frames := 1, cells := 0, slots := 0, locals := 60 }) s m args below meth c H locs 0 0 (MQ below (va_Qi (fun (r : Int32) (_ : Unit) => True) (fun (_ : Unit) (t : State) => ∃ (y5 : Int32), zPost dC dI A [(h0, .inr (10, [.ref qt, .ref q10, .ref q0, .ref q7, .ref q3, .int y5, .int x6, .int x7, .int x8]))] [] t) A) args s 0 0 A) (F0 m 12 ls []) := by
  intro  H locs ls hP hD hS hl
  refine lv_iconst (v := (-1)) hx hb dX11_cut_12 (by decide) ?_
  have hP9 := hP.sub (ws' := [(h0, .inr (10, [.ref qt, .ref q10, .ref q0, .ref q7, .ref q3, .int x5, .int x6, .int x7, .int x8]))]) [0] rfl
  have hD9 := hD.sub (ws' := [(h0, .inr (10, [.ref qt, .ref q10, .ref q0, .ref q7, .ref q3, .int x5, .int x6, .int x7, .int x8]))]) [0] (by decide) rfl
  have hK9 := hK.sub (tys' := []) [] rfl
  exact W.iret (v := (-1)) hx hb hr (fun t ht hW => ⟨⟨(-1), (), rfl, trivial, x5, by rw [ht]; exact hP9, va_K.moved hW.alike hK9, hD9⟩, hS.F ht⟩) hS.2.2 dX11_cut_13
set_option maxHeartbeats 4000000 in
set_option maxRecDepth 100000 in
theorem c_X11_cut (l : Launch) (dC : Nat → ClassId) (dI : Nat → Nat → Nat) (sz : Nat) (h0 : Nat) (v : Int32) (x5 : Int32) (x6 : Int32) (x7 : Int32) (x8 : Int32) (qt : Nat) (q10 : Nat) (q0 : Nat) (q7 : Nat) (q3 : Nat) : Met l yX11_cut wzX11_cut ({ frames := 1, cells := 0, slots := 0, locals := 60 }) (va_Pc [.ref h0, .int v] (zPre dC dI sz [(h0, .inr (10, [.ref qt, .ref q10, .ref q0, .ref q7, .ref q3, .int x5, .int x6, .int x7, .int x8]))] [])) (va_Qi (fun (r : Int32) (_ : Unit) => True) (fun (_ : Unit) (t : State) => ∃ (y5 : Int32), zPost dC dI (va_A [(h0, .inr (10, [.ref qt, .ref q10, .ref q0, .ref q7, .ref q3, .int x5, .int x6, .int x7, .int x8]))] sz) [(h0, .inr (10, [.ref qt, .ref q10, .ref q0, .ref q7, .ref q3, .int y5, .int x6, .int x7, .int x8]))] [] t) (va_A [(h0, .inr (10, [.ref qt, .ref q10, .ref q0, .ref q7, .ref q3, .int x5, .int x6, .int x7, .int x8]))] sz)) 0 0 (va_A [(h0, .inr (10, [.ref qt, .ref q10, .ref q0, .ref q7, .ref q3, .int x5, .int x6, .int x7, .int x8]))] sz) := by
  refine Met.ofW (cc := cX11_cut) (maxL := 3) (ret := (some .int)) (by decide) rfl ?_
  intro p e s m args below meth c s₁ B hml hv
  obtain ⟨rfl, hsz, hZ, hP, hK, hD0⟩ := hv
  have hx := B.exec
  have hb := B.bytes
  have hr := B.returns
  have hts := atoms_spec (ws := wzX11_cut) B.pre
  have hown : s.vm.findClass RX11 = some m.cls := findClass_of_methodNamed B.named
  have hlocks := B.notSynchronized
  subst hsz
  have hD := hD0.self (sz := s.heap.size)
  generalize hAe : va_A [(h0, .inr (10, [.ref qt, .ref q10, .ref q0, .ref q7, .ref q3, .int x5, .int x6, .int x7, .int x8]))] s.heap.size = A at hD ⊢
  have hA : ∀ q : Nat, s.heap.size ≤ q → A q := fun q h => by rw [← hAe]; exact Or.inr h
  have hS : va_S A s.heap s.heap [] := va_S.rf
  have hP : va_P (dC, dI) vwCl [(h0, .inr (10, [.ref qt, .ref q10, .ref q0, .ref q7, .ref q3, .int x5, .int x6, .int x7, .int x8]))] s.heap := hP
  have hl := lv_entry ([.ref h0, .int v]) (n := 3) (Nat.le_of_ble_eq_true rfl)
  rw [lg_entry_eq]
  generalize (lg_sl ([.ref h0, .int v]) ++ List.replicate (3 - (lg_sl ([.ref h0, .int v])).length) Slot.unset).toArray = ls at hl ⊢
  have hl : lv_has ls 3 [(0, .ref h0), (1, .int v)] := hl
  refine lv_iload_n hx hb dX11_cut_0 rfl (lv_at hl 1 rfl) ?_
  refine lv_if_lt (tgt := 12) hx hb dX11_cut_1 (by decide) (fun c1 => ?_) (fun c1 => ?_)
  ·
    exact j_X11_cut_12 l dC dI h0 qt q10 q0 q7 q3  x5 x6 x7 x8 hx hb hr hml hown hts hlocks hZ hA hK  _ _ _ hP hD hS (lv_sub hl [] rfl)
  ·
    refine lv_iload_n hx hb dX11_cut_4 rfl (lv_at hl 1 rfl) ?_
    refine lv_aload_n hx hb dX11_cut_5 rfl (lv_at hl 0 rfl) ?_
    refine va_get (D := (dC, dI)) (ci := 10) (v := .int x5) (C := RX11) (T := TX11) (N := 9) hx hb hts i_X11_cut_X11 hown hK hP 0 rfl rfl 5 (by decide) (hts (.fieldLink RX11 50 "StatementRules2" "length" "I") k_X11_cut_fieldLink_RX11_50_SR_length_I) (fun _ h9 => h9) rfl dX11_cut_6 ?_
    refine lv_icmp_le (tgt := 14) hx hb dX11_cut_9 (by decide) (fun c2 => ?_) (fun c2 => ?_)
    ·
      refine lv_aload_n hx hb dX11_cut_14 rfl (lv_at hl 0 rfl) ?_
      refine va_get (D := (dC, dI)) (ci := 10) (v := .int x5) (C := RX11) (T := TX11) (N := 9) hx hb hts i_X11_cut_X11 hown hK hP 0 rfl rfl 5 (by decide) (hts (.fieldLink RX11 50 "StatementRules2" "length" "I") k_X11_cut_fieldLink_RX11_50_SR_length_I) (fun _ h9 => h9) rfl dX11_cut_15 ?_
      refine lv_iload_n hx hb dX11_cut_18 rfl (lv_at hl 1 rfl) ?_
      refine lv_isub hx hb dX11_cut_19 ?_
      refine lv_topi (fun z3 ez3 => ?_)
      refine lv_istore_n (lv' := [(2, .int z3), (0, .ref h0), (1, .int v)]) hx hb dX11_cut_20 rfl hl (by decide) rfl (fun ls hl => ?_)
      refine lv_aload_n hx hb dX11_cut_21 rfl (lv_at hl 1 rfl) ?_
      refine lv_iload_n hx hb dX11_cut_22 rfl (lv_at hl 2 rfl) ?_
      refine va_put (D := (dC, dI)) (ci := 10) (v := .int v) (ty := .int) (C := RX11) (T := TX11) (N := 9) hx hb hts i_X11_cut_X11 tyX11 tyX11_ok nmX11 hown hK hP hD hS 0 rfl rfl 5 (by decide) (hts (.fieldLink RX11 50 "StatementRules2" "length" "I") k_X11_cut_fieldLink_RX11_50_SR_length_I) (fun _ h9 => h9) rfl (by decide +kernel) rfl rfl (Nat.le_of_ble_eq_true rfl) dX11_cut_23 (fun H locs hP hD hS => ?_)
      have hP : va_P (dC, dI) vwCl [(h0, .inr (10, [.ref qt, .ref q10, .ref q0, .ref q7, .ref q3, .int v, .int x6, .int x7, .int x8]))] H := hP
      have hD : va_D A [(h0, .inr (10, [.ref qt, .ref q10, .ref q0, .ref q7, .ref q3, .int v, .int x6, .int x7, .int x8]))] := hD
      refine lv_iload_n hx hb dX11_cut_26 rfl (lv_at hl 0 rfl) ?_
      have hP9 := hP.sub (ws' := [(h0, .inr (10, [.ref qt, .ref q10, .ref q0, .ref q7, .ref q3, .int v, .int x6, .int x7, .int x8]))]) [0] rfl
      have hD9 := hD.sub (ws' := [(h0, .inr (10, [.ref qt, .ref q10, .ref q0, .ref q7, .ref q3, .int v, .int x6, .int x7, .int x8]))]) [0] (by decide) rfl
      have hK9 := hK.sub (tys' := []) [] rfl
      exact W.iret (v := z3) hx hb hr (fun t ht hW => ⟨⟨z3, (), rfl, trivial, v, by rw [ht]; exact hP9, va_K.moved hW.alike hK9, hD9⟩, hS.F ht⟩) hS.2.2 dX11_cut_27
    ·
      exact j_X11_cut_12 l dC dI h0 qt q10 q0 q7 q3  x5 x6 x7 x8 hx hb hr hml hown hts hlocks hZ hA hK  _ _ _ hP hD hS (lv_sub hl [] rfl)
theorem k_X11_fault_fieldLink_RX11_91_SR_latestFault_I : Cond.fieldLink RX11 91 "StatementRules2" "latestFault" "I" ∈ wzX11_fault := List.mem_cons_of_mem _ (List.mem_append_left _ (List.mem_of_getElem? (i := 0) rfl))
theorem i_X11_fault_X11 : ∀ w ∈ wsX110, w ∈ wzX11_fault := fun _ h => List.mem_cons_of_mem _ (List.mem_append_right _ (List.mem_append_left _ (h)))
set_option maxHeartbeats 4000000 in
set_option maxRecDepth 100000 in
theorem c_X11_fault (l : Launch) (dC : Nat → ClassId) (dI : Nat → Nat → Nat) (sz : Nat) (h0 : Nat) (x5 : Int32) (x6 : Int32) (x7 : Int32) (x8 : Int32) (qt : Nat) (q10 : Nat) (q0 : Nat) (q7 : Nat) (q3 : Nat) : Met l yX11_fault wzX11_fault ({ frames := 1, cells := 0, slots := 0, locals := 60 }) (va_Pc [.ref h0] (zPre dC dI sz [(h0, .inr (10, [.ref qt, .ref q10, .ref q0, .ref q7, .ref q3, .int x5, .int x6, .int x7, .int x8]))] [])) (va_Qi (fun (r : Int32) (_ : Unit) => True) (fun (_ : Unit) (t : State) => zPost dC dI (va_A [(h0, .inr (10, [.ref qt, .ref q10, .ref q0, .ref q7, .ref q3, .int x5, .int x6, .int x7, .int x8]))] sz) [(h0, .inr (10, [.ref qt, .ref q10, .ref q0, .ref q7, .ref q3, .int x5, .int x6, .int x7, .int x8]))] [] t) (va_A [(h0, .inr (10, [.ref qt, .ref q10, .ref q0, .ref q7, .ref q3, .int x5, .int x6, .int x7, .int x8]))] sz)) 0 0 (va_A [(h0, .inr (10, [.ref qt, .ref q10, .ref q0, .ref q7, .ref q3, .int x5, .int x6, .int x7, .int x8]))] sz) := by
  refine Met.ofW (cc := cX11_fault) (maxL := 1) (ret := (some .int)) (by decide) rfl ?_
  intro p e s m args below meth c s₁ B hml hv
  obtain ⟨rfl, hsz, hZ, hP, hK, hD0⟩ := hv
  have hx := B.exec
  have hb := B.bytes
  have hr := B.returns
  have hts := atoms_spec (ws := wzX11_fault) B.pre
  have hown : s.vm.findClass RX11 = some m.cls := findClass_of_methodNamed B.named
  have hlocks := B.notSynchronized
  subst hsz
  have hD := hD0.self (sz := s.heap.size)
  generalize hAe : va_A [(h0, .inr (10, [.ref qt, .ref q10, .ref q0, .ref q7, .ref q3, .int x5, .int x6, .int x7, .int x8]))] s.heap.size = A at hD ⊢
  have hA : ∀ q : Nat, s.heap.size ≤ q → A q := fun q h => by rw [← hAe]; exact Or.inr h
  have hS : va_S A s.heap s.heap [] := va_S.rf
  have hP : va_P (dC, dI) vwCl [(h0, .inr (10, [.ref qt, .ref q10, .ref q0, .ref q7, .ref q3, .int x5, .int x6, .int x7, .int x8]))] s.heap := hP
  have hl := lv_entry ([.ref h0]) (n := 1) (Nat.le_of_ble_eq_true rfl)
  rw [lg_entry_eq]
  generalize (lg_sl ([.ref h0]) ++ List.replicate (1 - (lg_sl ([.ref h0])).length) Slot.unset).toArray = ls at hl ⊢
  have hl : lv_has ls 1 [(0, .ref h0)] := hl
  refine lv_aload_n hx hb dX11_fault_0 rfl (lv_at hl 0 rfl) ?_
  refine va_get (D := (dC, dI)) (ci := 10) (v := .int x6) (C := RX11) (T := TX11) (N := 9) hx hb hts i_X11_fault_X11 hown hK hP 0 rfl rfl 6 (by decide) (hts (.fieldLink RX11 91 "StatementRules2" "latestFault" "I") k_X11_fault_fieldLink_RX11_91_SR_latestFault_I) (fun _ h9 => h9) rfl dX11_fault_1 ?_
  have hP9 := hP.sub (ws' := [(h0, .inr (10, [.ref qt, .ref q10, .ref q0, .ref q7, .ref q3, .int x5, .int x6, .int x7, .int x8]))]) [0] rfl
  have hD9 := hD.sub (ws' := [(h0, .inr (10, [.ref qt, .ref q10, .ref q0, .ref q7, .ref q3, .int x5, .int x6, .int x7, .int x8]))]) [0] (by decide) rfl
  have hK9 := hK.sub (tys' := []) [] rfl
  exact W.iret (v := x6) hx hb hr (fun t ht hW => ⟨⟨x6, (), rfl, trivial, by rw [ht]; exact hP9, va_K.moved hW.alike hK9, hD9⟩, hS.F ht⟩) hS.2.2 dX11_fault_4
theorem k_X11_kind_fieldLink_RX11_16_SR_told_LSR_Told : Cond.fieldLink RX11 16 "StatementRules2" "told" "LStatementRules2$Told;" ∈ wzX11_kind := List.mem_cons_of_mem _ (List.mem_append_left _ (List.mem_of_getElem? (i := 0) rfl))
theorem i_X11_kind_X11 : ∀ w ∈ wsX110, w ∈ wzX11_kind := fun _ h => List.mem_cons_of_mem _ (List.mem_append_right _ (List.mem_append_left _ (h)))
set_option maxHeartbeats 4000000 in
set_option maxRecDepth 100000 in
theorem c_X11_kind (l : Launch) (dC : Nat → ClassId) (dI : Nat → Nat → Nat) (sz : Nat) (h0 : Nat) (u : Int32) (x5 : Int32) (x6 : Int32) (x7 : Int32) (x8 : Int32) (qt : Nat) (q10 : Nat) (q0 : Nat) (q7 : Nat) (q3 : Nat) (g4 : Int32) (g5 : Int32) (qa : Nat) (qn : Nat) (qo : Nat) (qc : Nat) (kA : ClassId) (fa : Nat → Int32) : Met l yX11_kind wzX11_kind ({ frames := 3, cells := 0, slots := 0, locals := 180 }) (va_Pc [.ref h0, .int u] (zPre dC dI sz [(h0, .inr (10, [.ref qt, .ref q10, .ref q0, .ref q7, .ref q3, .int x5, .int x6, .int x7, .int x8])), (q10, .inr (9, [.ref qa, .ref qn, .ref qo, .ref qc, .int g4, .int g5])), (qa, .inl (kA, 12, .inl fa))] [(kA, .int)])) (va_Qi (fun (r : Int32) (_ : Unit) => True) (fun (_ : Unit) (t : State) => ∃ (e4 : Int32), ∃ (e5 : Int32), ∃ (fb : Nat → Int32), zPost dC dI (va_A [(h0, .inr (10, [.ref qt, .ref q10, .ref q0, .ref q7, .ref q3, .int x5, .int x6, .int x7, .int x8])), (q10, .inr (9, [.ref qa, .ref qn, .ref qo, .ref qc, .int g4, .int g5])), (qa, .inl (kA, 12, .inl fa))] sz) [(h0, .inr (10, [.ref qt, .ref q10, .ref q0, .ref q7, .ref q3, .int x5, .int x6, .int x7, .int x8])), (q10, .inr (9, [.ref qa, .ref qn, .ref qo, .ref qc, .int e4, .int e5])), (qa, .inl (kA, 12, .inl fb))] [(kA, .int)] t) (va_A [(h0, .inr (10, [.ref qt, .ref q10, .ref q0, .ref q7, .ref q3, .int x5, .int x6, .int x7, .int x8])), (q10, .inr (9, [.ref qa, .ref qn, .ref qo, .ref qc, .int g4, .int g5])), (qa, .inl (kA, 12, .inl fa))] sz)) 0 0 (va_A [(h0, .inr (10, [.ref qt, .ref q10, .ref q0, .ref q7, .ref q3, .int x5, .int x6, .int x7, .int x8])), (q10, .inr (9, [.ref qa, .ref qn, .ref qo, .ref qc, .int g4, .int g5])), (qa, .inl (kA, 12, .inl fa))] sz) := by
  refine Met.ofW (cc := cX11_kind) (maxL := 2) (ret := (some .int)) (by decide) rfl ?_
  intro p e s m args below meth c s₁ B hml hv
  obtain ⟨rfl, hsz, hZ, hP, hK, hD0⟩ := hv
  have hx := B.exec
  have hb := B.bytes
  have hr := B.returns
  have hts := atoms_spec (ws := wzX11_kind) B.pre
  have hown : s.vm.findClass RX11 = some m.cls := findClass_of_methodNamed B.named
  have hlocks := B.notSynchronized
  subst hsz
  have hD := hD0.self (sz := s.heap.size)
  generalize hAe : va_A [(h0, .inr (10, [.ref qt, .ref q10, .ref q0, .ref q7, .ref q3, .int x5, .int x6, .int x7, .int x8])), (q10, .inr (9, [.ref qa, .ref qn, .ref qo, .ref qc, .int g4, .int g5])), (qa, .inl (kA, 12, .inl fa))] s.heap.size = A at hD ⊢
  have hA : ∀ q : Nat, s.heap.size ≤ q → A q := fun q h => by rw [← hAe]; exact Or.inr h
  have hS : va_S A s.heap s.heap [] := va_S.rf
  have hP : va_P (dC, dI) vwCl [(h0, .inr (10, [.ref qt, .ref q10, .ref q0, .ref q7, .ref q3, .int x5, .int x6, .int x7, .int x8])), (q10, .inr (9, [.ref qa, .ref qn, .ref qo, .ref qc, .int g4, .int g5])), (qa, .inl (kA, 12, .inl fa))] s.heap := hP
  have hl := lv_entry ([.ref h0, .int u]) (n := 2) (Nat.le_of_ble_eq_true rfl)
  rw [lg_entry_eq]
  generalize (lg_sl ([.ref h0, .int u]) ++ List.replicate (2 - (lg_sl ([.ref h0, .int u])).length) Slot.unset).toArray = ls at hl ⊢
  have hl : lv_has ls 2 [(0, .ref h0), (1, .int u)] := hl
  refine lv_aload_n hx hb dX11_kind_0 rfl (lv_at hl 0 rfl) ?_
  refine va_get (D := (dC, dI)) (ci := 10) (v := .ref q10) (C := RX11) (T := TX11) (N := 9) hx hb hts i_X11_kind_X11 hown hK hP 0 rfl rfl 1 (by decide) (hts (.fieldLink RX11 16 "StatementRules2" "told" "LStatementRules2$Told;") k_X11_kind_fieldLink_RX11_16_SR_told_LSR_Told) (fun _ h9 => h9) rfl dX11_kind_1 ?_
  refine lv_iload_n hx hb dX11_kind_4 rfl (lv_at hl 1 rfl) ?_
  have hPc := hP.sub (ws' := [(q10, .inr (9, [.ref qa, .ref qn, .ref qo, .ref qc, .int g4, .int g5]))]) [1] rfl
  have hDc := hD.sub (ws' := [(q10, .inr (9, [.ref qa, .ref qn, .ref qo, .ref qc, .int g4, .int g5]))]) [1] (by decide) rfl
  have hKc := hK.sub (tys' := []) [] rfl
  have hFc := va_free (wc := [(q10, .inr (9, [.ref qa, .ref qn, .ref qo, .ref qc, .int g4, .int g5]))]) hD hS hA [1] rfl
  refine va_calli (va_runV (As := [.int u]) (rest := []) ⟨hx, hb, hml, hown, hts⟩ (c_X10_isKind l dC dI _ q10 u g4 g5 qa qn qo qc) (cwV 1 hts hX11_kind_X10_isKind_v62 rfl rfl rfl (by decide +kernel) ⟨Nat.le_of_ble_eq_true rfl, Nat.le_of_ble_eq_true rfl⟩) ⟨zPre.blind, va_recv hKc hPc (ci := 9) (q0 := 0) rfl rfl, zPre.go hZ hPc hKc hDc⟩ rfl rfl hl.1 rfl (lv_room (Nat.le_of_ble_eq_true rfl)) dX11_kind_5 ⟨Nat.le_of_ble_eq_true rfl, Nat.le_of_ble_eq_true rfl⟩) hS (fun q _ h => hFc q h) hFc (fun r1 u9 t9 H1 locs ht hvm hw hB hz1 hk1 hS => ?_)
  obtain ⟨hP1, hK1, hD1⟩ := hB
  rw [ht] at hP1
  have hK1 := va_K.moved hvm.symm hK1
  obtain ⟨hP, hD⟩ := va_join (wr := [(h0, .inr (10, [.ref qt, .ref q10, .ref q0, .ref q7, .ref q3, .int x5, .int x6, .int x7, .int x8])), (qa, .inl (kA, 12, .inl fa))]) (w1 := [(q10, .inr (9, [.ref qa, .ref qn, .ref qo, .ref qc, .int g4, .int g5]))]) hP hD [1] [0, 2] rfl rfl (by decide) (by decide) hk1 hFc hP1 hD1
  have hK := hK.app hK1
  generalize H1 = H at hP hS ⊢
  have hP : va_P (dC, dI) vwCl [(h0, .inr (10, [.ref qt, .ref q10, .ref q0, .ref q7, .ref q3, .int x5, .int x6, .int x7, .int x8])), (qa, .inl (kA, 12, .inl fa)), (q10, .inr (9, [.ref qa, .ref qn, .ref qo, .ref qc, .int g4, .int g5]))] H := hP
  have hD : va_D A [(h0, .inr (10, [.ref qt, .ref q10, .ref q0, .ref q7, .ref q3, .int x5, .int x6, .int x7, .int x8])), (qa, .inl (kA, 12, .inl fa)), (q10, .inr (9, [.ref qa, .ref qn, .ref qo, .ref qc, .int g4, .int g5]))] := hD
  have hK : va_K (dC, dI) vwCl [(kA, .int)] s := hK
  refine lv_if_ne (tgt := 13) hx hb dX11_kind_8 (by decide) (fun c2 => ?_) (fun c2 => ?_)
  ·
    refine lv_aload_n hx hb dX11_kind_13 rfl (lv_at hl 0 rfl) ?_
    refine va_get (D := (dC, dI)) (ci := 10) (v := .ref q10) (C := RX11) (T := TX11) (N := 9) hx hb hts i_X11_kind_X11 hown hK hP 0 rfl rfl 1 (by decide) (hts (.fieldLink RX11 16 "StatementRules2" "told" "LStatementRules2$Told;") k_X11_kind_fieldLink_RX11_16_SR_told_LSR_Told) (fun _ h9 => h9) rfl dX11_kind_14 ?_
    have hPc := hP.sub (ws' := [(q10, .inr (9, [.ref qa, .ref qn, .ref qo, .ref qc, .int g4, .int g5]))]) [2] rfl
    have hDc := hD.sub (ws' := [(q10, .inr (9, [.ref qa, .ref qn, .ref qo, .ref qc, .int g4, .int g5]))]) [2] (by decide) rfl
    have hKc := hK.sub (tys' := []) [] rfl
    have hFc := va_free (wc := [(q10, .inr (9, [.ref qa, .ref qn, .ref qo, .ref qc, .int g4, .int g5]))]) hD hS hA [2] rfl
    refine va_calli (va_runV (As := []) (rest := []) ⟨hx, hb, hml, hown, hts⟩ (c_X10_isFull l dC dI _ q10 g4 g5 qa qn qo qc) (cwV 0 hts hX11_kind_X10_isFull_v66 rfl rfl rfl (by decide +kernel) ⟨Nat.le_of_ble_eq_true rfl, Nat.le_of_ble_eq_true rfl⟩) ⟨zPre.blind, va_recv hKc hPc (ci := 9) (q0 := 0) rfl rfl, zPre.go hZ hPc hKc hDc⟩ rfl rfl hl.1 rfl (lv_room (Nat.le_of_ble_eq_true rfl)) dX11_kind_17 ⟨Nat.le_of_ble_eq_true rfl, Nat.le_of_ble_eq_true rfl⟩) hS (fun q _ h => hFc q h) hFc (fun r3 u9 t9 H1 locs ht hvm hw hB hz1 hk1 hS => ?_)
    obtain ⟨hP1, hK1, hD1⟩ := hB
    rw [ht] at hP1
    have hK1 := va_K.moved hvm.symm hK1
    obtain ⟨hP, hD⟩ := va_join (wr := [(h0, .inr (10, [.ref qt, .ref q10, .ref q0, .ref q7, .ref q3, .int x5, .int x6, .int x7, .int x8])), (qa, .inl (kA, 12, .inl fa))]) (w1 := [(q10, .inr (9, [.ref qa, .ref qn, .ref qo, .ref qc, .int g4, .int g5]))]) hP hD [2] [0, 1] rfl rfl (by decide) (by decide) hk1 hFc hP1 hD1
    have hK := hK.app hK1
    generalize H1 = H at hP hS ⊢
    have hP : va_P (dC, dI) vwCl [(h0, .inr (10, [.ref qt, .ref q10, .ref q0, .ref q7, .ref q3, .int x5, .int x6, .int x7, .int x8])), (qa, .inl (kA, 12, .inl fa)), (q10, .inr (9, [.ref qa, .ref qn, .ref qo, .ref qc, .int g4, .int g5]))] H := hP
    have hD : va_D A [(h0, .inr (10, [.ref qt, .ref q10, .ref q0, .ref q7, .ref q3, .int x5, .int x6, .int x7, .int x8])), (qa, .inl (kA, 12, .inl fa)), (q10, .inr (9, [.ref qa, .ref qn, .ref qo, .ref qc, .int g4, .int g5]))] := hD
    have hK : va_K (dC, dI) vwCl [(kA, .int)] s := hK
    refine lv_if_eq (tgt := 28) hx hb dX11_kind_20 (by decide) (fun c4 => ?_) (fun c4 => ?_)
    ·
      refine lv_aload_n hx hb dX11_kind_28 rfl (lv_at hl 0 rfl) ?_
      refine va_get (D := (dC, dI)) (ci := 10) (v := .ref q10) (C := RX11) (T := TX11) (N := 9) hx hb hts i_X11_kind_X11 hown hK hP 0 rfl rfl 1 (by decide) (hts (.fieldLink RX11 16 "StatementRules2" "told" "LStatementRules2$Told;") k_X11_kind_fieldLink_RX11_16_SR_told_LSR_Told) (fun _ h9 => h9) rfl dX11_kind_29 ?_
      refine lv_iload_n hx hb dX11_kind_32 rfl (lv_at hl 1 rfl) ?_
      have hPc := hP.sub (ws' := [(q10, .inr (9, [.ref qa, .ref qn, .ref qo, .ref qc, .int g4, .int g5])), (qa, .inl (kA, 12, .inl fa))]) [2, 1] rfl
      have hDc := hD.sub (ws' := [(q10, .inr (9, [.ref qa, .ref qn, .ref qo, .ref qc, .int g4, .int g5])), (qa, .inl (kA, 12, .inl fa))]) [2, 1] (by decide) rfl
      have hKc := hK.sub (tys' := [(kA, .int)]) [0] rfl
      have hFc := va_free (wc := [(q10, .inr (9, [.ref qa, .ref qn, .ref qo, .ref qc, .int g4, .int g5])), (qa, .inl (kA, 12, .inl fa))]) hD hS hA [2, 1] rfl
      refine va_calli (va_runV (As := [.int u]) (rest := []) ⟨hx, hb, hml, hown, hts⟩ (c_X10_addKind l dC dI _ q10 u g4 g5 qa qn qo qc kA fa) (cwV 1 hts hX11_kind_X10_addKind_v70 rfl rfl rfl (by decide +kernel) ⟨Nat.le_of_ble_eq_true rfl, Nat.le_of_ble_eq_true rfl⟩) ⟨zPre.blind, va_recv hKc hPc (ci := 9) (q0 := 0) rfl rfl, zPre.go hZ hPc hKc hDc⟩ rfl rfl hl.1 rfl (lv_room (Nat.le_of_ble_eq_true rfl)) dX11_kind_33 ⟨Nat.le_of_ble_eq_true rfl, Nat.le_of_ble_eq_true rfl⟩) hS (fun q _ h => hFc q h) hFc (fun r5 u9 t9 H1 locs ht hvm hw hB hz1 hk1 hS => ?_)
      obtain ⟨e4_6, e5_7, fb_8, hP1, hK1, hD1⟩ := hB
      rw [ht] at hP1
      have hK1 := va_K.moved hvm.symm hK1
      obtain ⟨hP, hD⟩ := va_join (wr := [(h0, .inr (10, [.ref qt, .ref q10, .ref q0, .ref q7, .ref q3, .int x5, .int x6, .int x7, .int x8]))]) (w1 := [(q10, .inr (9, [.ref qa, .ref qn, .ref qo, .ref qc, .int e4_6, .int e5_7])), (qa, .inl (kA, 12, .inl fb_8))]) hP hD [2, 1] [0] rfl rfl (by decide) (by decide) hk1 hFc hP1 hD1
      have hK := hK.app hK1
      generalize H1 = H at hP hS ⊢
      have hP : va_P (dC, dI) vwCl [(h0, .inr (10, [.ref qt, .ref q10, .ref q0, .ref q7, .ref q3, .int x5, .int x6, .int x7, .int x8])), (q10, .inr (9, [.ref qa, .ref qn, .ref qo, .ref qc, .int e4_6, .int e5_7])), (qa, .inl (kA, 12, .inl fb_8))] H := hP
      have hD : va_D A [(h0, .inr (10, [.ref qt, .ref q10, .ref q0, .ref q7, .ref q3, .int x5, .int x6, .int x7, .int x8])), (q10, .inr (9, [.ref qa, .ref qn, .ref qo, .ref qc, .int e4_6, .int e5_7])), (qa, .inl (kA, 12, .inl fb_8))] := hD
      have hK : va_K (dC, dI) vwCl [(kA, .int), (kA, .int)] s := hK
      have hK : va_K (dC, dI) vwCl [(kA, .int)] s := hK.sub [0] rfl
      have hP9 := hP.sub (ws' := [(h0, .inr (10, [.ref qt, .ref q10, .ref q0, .ref q7, .ref q3, .int x5, .int x6, .int x7, .int x8])), (q10, .inr (9, [.ref qa, .ref qn, .ref qo, .ref qc, .int e4_6, .int e5_7])), (qa, .inl (kA, 12, .inl fb_8))]) [0, 1, 2] rfl
      have hD9 := hD.sub (ws' := [(h0, .inr (10, [.ref qt, .ref q10, .ref q0, .ref q7, .ref q3, .int x5, .int x6, .int x7, .int x8])), (q10, .inr (9, [.ref qa, .ref qn, .ref qo, .ref qc, .int e4_6, .int e5_7])), (qa, .inl (kA, 12, .inl fb_8))]) [0, 1, 2] (by decide) rfl
      have hK9 := hK.sub (tys' := [(kA, .int)]) [0] rfl
      exact W.iret (v := r5) hx hb hr (fun t ht hW => ⟨⟨r5, (), rfl, trivial, e4_6, e5_7, fb_8, by rw [ht]; exact hP9, va_K.moved hW.alike hK9, hD9⟩, hS.F ht⟩) hS.2.2 dX11_kind_36
    ·
      refine lv_bipush (v := (-2)) hx hb dX11_kind_23 (by decide) ?_
      refine lv_goto (tgt := 36) hx hb dX11_kind_25 (by decide) ?_
      have hP9 := hP.sub (ws' := [(h0, .inr (10, [.ref qt, .ref q10, .ref q0, .ref q7, .ref q3, .int x5, .int x6, .int x7, .int x8])), (q10, .inr (9, [.ref qa, .ref qn, .ref qo, .ref qc, .int g4, .int g5])), (qa, .inl (kA, 12, .inl fa))]) [0, 2, 1] rfl
      have hD9 := hD.sub (ws' := [(h0, .inr (10, [.ref qt, .ref q10, .ref q0, .ref q7, .ref q3, .int x5, .int x6, .int x7, .int x8])), (q10, .inr (9, [.ref qa, .ref qn, .ref qo, .ref qc, .int g4, .int g5])), (qa, .inl (kA, 12, .inl fa))]) [0, 2, 1] (by decide) rfl
      have hK9 := hK.sub (tys' := [(kA, .int)]) [0] rfl
      exact W.iret (v := (-2)) hx hb hr (fun t ht hW => ⟨⟨(-2), (), rfl, trivial, g4, g5, fa, by rw [ht]; exact hP9, va_K.moved hW.alike hK9, hD9⟩, hS.F ht⟩) hS.2.2 dX11_kind_36
  ·
    refine lv_iconst (v := (-1)) hx hb dX11_kind_11 (by decide) ?_
    have hP9 := hP.sub (ws' := [(h0, .inr (10, [.ref qt, .ref q10, .ref q0, .ref q7, .ref q3, .int x5, .int x6, .int x7, .int x8])), (q10, .inr (9, [.ref qa, .ref qn, .ref qo, .ref qc, .int g4, .int g5])), (qa, .inl (kA, 12, .inl fa))]) [0, 2, 1] rfl
    have hD9 := hD.sub (ws' := [(h0, .inr (10, [.ref qt, .ref q10, .ref q0, .ref q7, .ref q3, .int x5, .int x6, .int x7, .int x8])), (q10, .inr (9, [.ref qa, .ref qn, .ref qo, .ref qc, .int g4, .int g5])), (qa, .inl (kA, 12, .inl fa))]) [0, 2, 1] (by decide) rfl
    have hK9 := hK.sub (tys' := [(kA, .int)]) [0] rfl
    exact W.iret (v := (-1)) hx hb hr (fun t ht hW => ⟨⟨(-1), (), rfl, trivial, g4, g5, fa, by rw [ht]; exact hP9, va_K.moved hW.alike hK9, hD9⟩, hS.F ht⟩) hS.2.2 dX11_kind_12
theorem k_X11_isKindOrNothing_fieldLink_RX11_16_SR_told_LSR_Told : Cond.fieldLink RX11 16 "StatementRules2" "told" "LStatementRules2$Told;" ∈ wzX11_isKindOrNothing := List.mem_cons_of_mem _ (List.mem_append_left _ (List.mem_of_getElem? (i := 0) rfl))
theorem i_X11_isKindOrNothing_X11 : ∀ w ∈ wsX110, w ∈ wzX11_isKindOrNothing := fun _ h => List.mem_cons_of_mem _ (List.mem_append_right _ (List.mem_append_left _ (h)))
set_option maxHeartbeats 4000000 in
set_option maxRecDepth 100000 in
theorem j_X11_isKindOrNothing_16 {p : Program} {e : Env} {s : State} {m : MethodId} {args : Array Value} {below : List Frame} {meth : Method} {c : Code} {A : Nat → Prop} (l : Launch) (dC : Nat → ClassId) (dI : Nat → Nat → Nat) (h0 : Nat) (qt : Nat) (q10 : Nat) (q0 : Nat) (q7 : Nat) (q3 : Nat) (qa : Nat) (qn : Nat) (qo : Nat) (qc : Nat) (x5 : Int32) (x6 : Int32) (x7 : Int32) (x8 : Int32) (g4 : Int32) (g5 : Int32) (hx : p.tables.exec = Jvm.exec) (hb : c.code = cX11_isKindOrNothing) (hr : meth.sig.returnType = (some .boolean)) (hml : c.maxLocals = 2) (hown : s.vm.findClass RX11 = some m.cls) (hts : ∀ w ∈ wzX11_isKindOrNothing, w.before args s = true) (hlocks : meth.locks = false) (hZ : zAMB s) (hA : ∀ q : Nat, s.heap.size ≤ q → A q) (hK : va_K (dC, dI) vwCl [] s) : ∀  (H : Heap) (locs : List Loc) (ls : Array Slot), va_P (dC, dI) vwCl [(h0, .inr (10, [.ref qt, .ref q10, .ref q0, .ref q7, .ref q3, .int x5, .int x6, .int x7, .int x8])), (q10, .inr (9, [.ref qa, .ref qn, .ref qo, .ref qc, .int g4, .int g5]))] H → va_D A [(h0, .inr (10, [.ref qt, .ref q10, .ref q0, .ref q7, .ref q3, .int x5, .int x6, .int x7, .int x8])), (q10, .inr (9, [.ref qa, .ref qn, .ref qo, .ref qc, .int g4, .int g5]))] → va_S A s.heap H locs → lv_has ls 2 [] → W p l e ({ frames := 2, cells := 0, slots := 0, locals := 120 }) s m args below meth c H locs 0 0 (MQ below (va_Qi (fun (r : Int32) (_ : Unit) => r = 0 ∨ r = 1) (fun (_ : Unit) (t : State) => zPost dC dI A [(h0, .inr (10, [.ref qt, .ref q10, .ref q0, .ref q7, .ref q3, .int x5, .int x6, .int x7, .int x8])), (q10, .inr (9, [.ref qa, .ref qn, .ref qo, .ref qc, .int g4, .int g5]))] [] t) A) args s 0 0 A) (F0 m 16 ls []) := by
  intro  H locs ls hP hD hS hl
  refine lv_iconst (v := 1) hx hb dX11_isKindOrNothing_16 (by decide) ?_
  refine lv_goto (tgt := 21) hx hb dX11_isKindOrNothing_17 (by decide) ?_
  have hP9 := hP.sub (ws' := [(h0, .inr (10, [.ref qt, .ref q10, .ref q0, .ref q7, .ref q3, .int x5, .int x6, .int x7, .int x8])), (q10, .inr (9, [.ref qa, .ref qn, .ref qo, .ref qc, .int g4, .int g5]))]) [0, 1] rfl
  have hD9 := hD.sub (ws' := [(h0, .inr (10, [.ref qt, .ref q10, .ref q0, .ref q7, .ref q3, .int x5, .int x6, .int x7, .int x8])), (q10, .inr (9, [.ref qa, .ref qn, .ref qo, .ref qc, .int g4, .int g5]))]) [0, 1] (by decide) rfl
  have hK9 := hK.sub (tys' := []) [] rfl
  exact W.zret (v := 1) hx hb hr (rfl) (fun t ht hW => ⟨⟨1, (), rfl, (Or.inr rfl), by rw [ht]; exact hP9, va_K.moved hW.alike hK9, hD9⟩, hS.F ht⟩) hS.2.2 dX11_isKindOrNothing_21
set_option maxHeartbeats 4000000 in
set_option maxRecDepth 100000 in
theorem c_X11_isKindOrNothing (l : Launch) (dC : Nat → ClassId) (dI : Nat → Nat → Nat) (sz : Nat) (h0 : Nat) (u : Int32) (x5 : Int32) (x6 : Int32) (x7 : Int32) (x8 : Int32) (qt : Nat) (q10 : Nat) (q0 : Nat) (q7 : Nat) (q3 : Nat) (g4 : Int32) (g5 : Int32) (qa : Nat) (qn : Nat) (qo : Nat) (qc : Nat) : Met l yX11_isKindOrNothing wzX11_isKindOrNothing ({ frames := 2, cells := 0, slots := 0, locals := 120 }) (va_Pc [.ref h0, .int u] (zPre dC dI sz [(h0, .inr (10, [.ref qt, .ref q10, .ref q0, .ref q7, .ref q3, .int x5, .int x6, .int x7, .int x8])), (q10, .inr (9, [.ref qa, .ref qn, .ref qo, .ref qc, .int g4, .int g5]))] [])) (va_Qi (fun (r : Int32) (_ : Unit) => r = 0 ∨ r = 1) (fun (_ : Unit) (t : State) => zPost dC dI (va_A [(h0, .inr (10, [.ref qt, .ref q10, .ref q0, .ref q7, .ref q3, .int x5, .int x6, .int x7, .int x8])), (q10, .inr (9, [.ref qa, .ref qn, .ref qo, .ref qc, .int g4, .int g5]))] sz) [(h0, .inr (10, [.ref qt, .ref q10, .ref q0, .ref q7, .ref q3, .int x5, .int x6, .int x7, .int x8])), (q10, .inr (9, [.ref qa, .ref qn, .ref qo, .ref qc, .int g4, .int g5]))] [] t) (va_A [(h0, .inr (10, [.ref qt, .ref q10, .ref q0, .ref q7, .ref q3, .int x5, .int x6, .int x7, .int x8])), (q10, .inr (9, [.ref qa, .ref qn, .ref qo, .ref qc, .int g4, .int g5]))] sz)) 0 0 (va_A [(h0, .inr (10, [.ref qt, .ref q10, .ref q0, .ref q7, .ref q3, .int x5, .int x6, .int x7, .int x8])), (q10, .inr (9, [.ref qa, .ref qn, .ref qo, .ref qc, .int g4, .int g5]))] sz) := by
  refine Met.ofW (cc := cX11_isKindOrNothing) (maxL := 2) (ret := (some .boolean)) (by decide) rfl ?_
  intro p e s m args below meth c s₁ B hml hv
  obtain ⟨rfl, hsz, hZ, hP, hK, hD0⟩ := hv
  have hx := B.exec
  have hb := B.bytes
  have hr := B.returns
  have hts := atoms_spec (ws := wzX11_isKindOrNothing) B.pre
  have hown : s.vm.findClass RX11 = some m.cls := findClass_of_methodNamed B.named
  have hlocks := B.notSynchronized
  subst hsz
  have hD := hD0.self (sz := s.heap.size)
  generalize hAe : va_A [(h0, .inr (10, [.ref qt, .ref q10, .ref q0, .ref q7, .ref q3, .int x5, .int x6, .int x7, .int x8])), (q10, .inr (9, [.ref qa, .ref qn, .ref qo, .ref qc, .int g4, .int g5]))] s.heap.size = A at hD ⊢
  have hA : ∀ q : Nat, s.heap.size ≤ q → A q := fun q h => by rw [← hAe]; exact Or.inr h
  have hS : va_S A s.heap s.heap [] := va_S.rf
  have hP : va_P (dC, dI) vwCl [(h0, .inr (10, [.ref qt, .ref q10, .ref q0, .ref q7, .ref q3, .int x5, .int x6, .int x7, .int x8])), (q10, .inr (9, [.ref qa, .ref qn, .ref qo, .ref qc, .int g4, .int g5]))] s.heap := hP
  have hl := lv_entry ([.ref h0, .int u]) (n := 2) (Nat.le_of_ble_eq_true rfl)
  rw [lg_entry_eq]
  generalize (lg_sl ([.ref h0, .int u]) ++ List.replicate (2 - (lg_sl ([.ref h0, .int u])).length) Slot.unset).toArray = ls at hl ⊢
  have hl : lv_has ls 2 [(0, .ref h0), (1, .int u)] := hl
  refine lv_iload_n hx hb dX11_isKindOrNothing_0 rfl (lv_at hl 1 rfl) ?_
  refine lv_iconst (v := (-1)) hx hb dX11_isKindOrNothing_1 (by decide) ?_
  refine lv_icmp_eq (tgt := 16) hx hb dX11_isKindOrNothing_2 (by decide) (fun c1 => ?_) (fun c1 => ?_)
  ·
    exact j_X11_isKindOrNothing_16 l dC dI h0 qt q10 q0 q7 q3 qa qn qo qc  x5 x6 x7 x8 g4 g5 hx hb hr hml hown hts hlocks hZ hA hK  _ _ _ hP hD hS (lv_sub hl [] rfl)
  ·
    refine lv_aload_n hx hb dX11_isKindOrNothing_5 rfl (lv_at hl 0 rfl) ?_
    refine va_get (D := (dC, dI)) (ci := 10) (v := .ref q10) (C := RX11) (T := TX11) (N := 9) hx hb hts i_X11_isKindOrNothing_X11 hown hK hP 0 rfl rfl 1 (by decide) (hts (.fieldLink RX11 16 "StatementRules2" "told" "LStatementRules2$Told;") k_X11_isKindOrNothing_fieldLink_RX11_16_SR_told_LSR_Told) (fun _ h9 => h9) rfl dX11_isKindOrNothing_6 ?_
    refine lv_iload_n hx hb dX11_isKindOrNothing_9 rfl (lv_at hl 1 rfl) ?_
    have hPc := hP.sub (ws' := [(q10, .inr (9, [.ref qa, .ref qn, .ref qo, .ref qc, .int g4, .int g5]))]) [1] rfl
    have hDc := hD.sub (ws' := [(q10, .inr (9, [.ref qa, .ref qn, .ref qo, .ref qc, .int g4, .int g5]))]) [1] (by decide) rfl
    have hKc := hK.sub (tys' := []) [] rfl
    have hFc := va_free (wc := [(q10, .inr (9, [.ref qa, .ref qn, .ref qo, .ref qc, .int g4, .int g5]))]) hD hS hA [1] rfl
    refine va_calli (va_runV (As := [.int u]) (rest := []) ⟨hx, hb, hml, hown, hts⟩ (c_X10_isKind l dC dI _ q10 u g4 g5 qa qn qo qc) (cwV 1 hts hX11_isKindOrNothing_X10_isKind_v62 rfl rfl rfl (by decide +kernel) ⟨Nat.le_of_ble_eq_true rfl, Nat.le_of_ble_eq_true rfl⟩) ⟨zPre.blind, va_recv hKc hPc (ci := 9) (q0 := 0) rfl rfl, zPre.go hZ hPc hKc hDc⟩ rfl rfl hl.1 rfl (lv_room (Nat.le_of_ble_eq_true rfl)) dX11_isKindOrNothing_10 ⟨Nat.le_of_ble_eq_true rfl, Nat.le_of_ble_eq_true rfl⟩) hS (fun q _ h => hFc q h) hFc (fun r2 u9 t9 H1 locs ht hvm hw hB hz1 hk1 hS => ?_)
    obtain ⟨hP1, hK1, hD1⟩ := hB
    rw [ht] at hP1
    have hK1 := va_K.moved hvm.symm hK1
    obtain ⟨hP, hD⟩ := va_join (wr := [(h0, .inr (10, [.ref qt, .ref q10, .ref q0, .ref q7, .ref q3, .int x5, .int x6, .int x7, .int x8]))]) (w1 := [(q10, .inr (9, [.ref qa, .ref qn, .ref qo, .ref qc, .int g4, .int g5]))]) hP hD [1] [0] rfl rfl (by decide) (by decide) hk1 hFc hP1 hD1
    have hK := hK.app hK1
    generalize H1 = H at hP hS ⊢
    have hP : va_P (dC, dI) vwCl [(h0, .inr (10, [.ref qt, .ref q10, .ref q0, .ref q7, .ref q3, .int x5, .int x6, .int x7, .int x8])), (q10, .inr (9, [.ref qa, .ref qn, .ref qo, .ref qc, .int g4, .int g5]))] H := hP
    have hD : va_D A [(h0, .inr (10, [.ref qt, .ref q10, .ref q0, .ref q7, .ref q3, .int x5, .int x6, .int x7, .int x8])), (q10, .inr (9, [.ref qa, .ref qn, .ref qo, .ref qc, .int g4, .int g5]))] := hD
    have hK : va_K (dC, dI) vwCl [] s := hK
    refine lv_if_eq (tgt := 20) hx hb dX11_isKindOrNothing_13 (by decide) (fun c3 => ?_) (fun c3 => ?_)
    ·
      refine lv_iconst (v := 0) hx hb dX11_isKindOrNothing_20 (by decide) ?_
      have hP9 := hP.sub (ws' := [(h0, .inr (10, [.ref qt, .ref q10, .ref q0, .ref q7, .ref q3, .int x5, .int x6, .int x7, .int x8])), (q10, .inr (9, [.ref qa, .ref qn, .ref qo, .ref qc, .int g4, .int g5]))]) [0, 1] rfl
      have hD9 := hD.sub (ws' := [(h0, .inr (10, [.ref qt, .ref q10, .ref q0, .ref q7, .ref q3, .int x5, .int x6, .int x7, .int x8])), (q10, .inr (9, [.ref qa, .ref qn, .ref qo, .ref qc, .int g4, .int g5]))]) [0, 1] (by decide) rfl
      have hK9 := hK.sub (tys' := []) [] rfl
      exact W.zret (v := 0) hx hb hr (rfl) (fun t ht hW => ⟨⟨0, (), rfl, (Or.inl rfl), by rw [ht]; exact hP9, va_K.moved hW.alike hK9, hD9⟩, hS.F ht⟩) hS.2.2 dX11_isKindOrNothing_21
    ·
      exact j_X11_isKindOrNothing_16 l dC dI h0 qt q10 q0 q7 q3 qa qn qo qc  x5 x6 x7 x8 g4 g5 hx hb hr hml hown hts hlocks hZ hA hK  _ _ _ hP hD hS (lv_sub hl [] rfl)
theorem k_X11_resource_fieldLink_RX11_16_SR_told_LSR_Told : Cond.fieldLink RX11 16 "StatementRules2" "told" "LStatementRules2$Told;" ∈ wzX11_resource := List.mem_cons_of_mem _ (List.mem_append_left _ (List.mem_of_getElem? (i := 0) rfl))
theorem i_X11_resource_X11 : ∀ w ∈ wsX110, w ∈ wzX11_resource := fun _ h => List.mem_cons_of_mem _ (List.mem_append_right _ (List.mem_append_left _ (h)))
set_option maxHeartbeats 4000000 in
set_option maxRecDepth 100000 in
theorem j_X11_resource_19 {p : Program} {e : Env} {s : State} {m : MethodId} {args : Array Value} {below : List Frame} {meth : Method} {c : Code} {A : Nat → Prop} (l : Launch) (dC : Nat → ClassId) (dI : Nat → Nat → Nat) (h0 : Nat) (qt : Nat) (q10 : Nat) (q0 : Nat) (q7 : Nat) (q3 : Nat) (qa : Nat) (qn : Nat) (qo : Nat) (qc : Nat) (kn : ClassId) (ko : ClassId) (kc : ClassId) (x5 : Int32) (x6 : Int32) (x7 : Int32) (x8 : Int32) (g4 : Int32) (g5 : Int32) (fn : Nat → Int32) (fo : Nat → Int32) (fc : Nat → Int32) (hx : p.tables.exec = Jvm.exec) (hb : c.code = cX11_resource) (hr : meth.sig.returnType = (some .int)) (hml : c.maxLocals = 5) (hown : s.vm.findClass RX11 = some m.cls) (hts : ∀ w ∈ wzX11_resource, w.before args s = true) (hlocks : meth.locks = false) (hZ : zAMB s) (hA : ∀ q : Nat, s.heap.size ≤ q → A q) (hK : va_K (dC, dI) vwCl [(kn, .int), (ko, .int), (kc, .int)] s) : ∀  (H : Heap) (locs : List Loc) (ls : Array Slot), va_P (dC, dI) vwCl [(h0, .inr (10, [.ref qt, .ref q10, .ref q0, .ref q7, .ref q3, .int x5, .int x6, .int x7, .int x8])), (q10, .inr (9, [.ref qa, .ref qn, .ref qo, .ref qc, .int g4, .int g5])), (qn, .inl (kn, 8, .inl fn)), (qo, .inl (ko, 8, .inl fo)), (qc, .inl (kc, 8, .inl fc))] H → va_D A [(h0, .inr (10, [.ref qt, .ref q10, .ref q0, .ref q7, .ref q3, .int x5, .int x6, .int x7, .int x8])), (q10, .inr (9, [.ref qa, .ref qn, .ref qo, .ref qc, .int g4, .int g5])), (qn, .inl (kn, 8, .inl fn)), (qo, .inl (ko, 8, .inl fo)), (qc, .inl (kc, 8, .inl fc))] → va_S A s.heap H locs → lv_has ls 5 [] → W p l e ({ frames := 3, cells := 0, slots := 0, locals := 180 }) s m args below meth c H locs 0 0 (MQ below (va_Qi (fun (r : Int32) (_ : Unit) => True) (fun (_ : Unit) (t : State) => ∃ (ha : Nat → Int32), ∃ (hb9 : Nat → Int32), ∃ (hc9 : Nat → Int32), zPost dC dI A [(h0, .inr (10, [.ref qt, .ref q10, .ref q0, .ref q7, .ref q3, .int x5, .int x6, .int x7, .int x8])), (q10, .inr (9, [.ref qa, .ref qn, .ref qo, .ref qc, .int g4, .int g5])), (qn, .inl (kn, 8, .inl ha)), (qo, .inl (ko, 8, .inl hb9)), (qc, .inl (kc, 8, .inl hc9))] [(kn, .int), (ko, .int), (kc, .int)] t) A) args s 0 0 A) (F0 m 19 ls []) := by
  intro  H locs ls hP hD hS hl
  refine lv_iconst (v := (-1)) hx hb dX11_resource_19 (by decide) ?_
  have hP9 := hP.sub (ws' := [(h0, .inr (10, [.ref qt, .ref q10, .ref q0, .ref q7, .ref q3, .int x5, .int x6, .int x7, .int x8])), (q10, .inr (9, [.ref qa, .ref qn, .ref qo, .ref qc, .int g4, .int g5])), (qn, .inl (kn, 8, .inl fn)), (qo, .inl (ko, 8, .inl fo)), (qc, .inl (kc, 8, .inl fc))]) [0, 1, 2, 3, 4] rfl
  have hD9 := hD.sub (ws' := [(h0, .inr (10, [.ref qt, .ref q10, .ref q0, .ref q7, .ref q3, .int x5, .int x6, .int x7, .int x8])), (q10, .inr (9, [.ref qa, .ref qn, .ref qo, .ref qc, .int g4, .int g5])), (qn, .inl (kn, 8, .inl fn)), (qo, .inl (ko, 8, .inl fo)), (qc, .inl (kc, 8, .inl fc))]) [0, 1, 2, 3, 4] (by decide) rfl
  have hK9 := hK.sub (tys' := [(kn, .int), (ko, .int), (kc, .int)]) [0, 1, 2] rfl
  exact W.iret (v := (-1)) hx hb hr (fun t ht hW => ⟨⟨(-1), (), rfl, trivial, fn, fo, fc, by rw [ht]; exact hP9, va_K.moved hW.alike hK9, hD9⟩, hS.F ht⟩) hS.2.2 dX11_resource_20
set_option maxHeartbeats 4000000 in
set_option maxRecDepth 100000 in
theorem j_X11_resource_38 {p : Program} {e : Env} {s : State} {m : MethodId} {args : Array Value} {below : List Frame} {meth : Method} {c : Code} {A : Nat → Prop} (l : Launch) (dC : Nat → ClassId) (dI : Nat → Nat → Nat) (qn : Nat) (qo : Nat) (qc : Nat) (h0 : Nat) (qt : Nat) (q10 : Nat) (q0 : Nat) (q7 : Nat) (q3 : Nat) (qa : Nat) (kn : ClassId) (ko : ClassId) (kc : ClassId) (fn : Nat → Int32) (fo : Nat → Int32) (fc : Nat → Int32) (x5 : Int32) (x6 : Int32) (x7 : Int32) (x8 : Int32) (g4 : Int32) (g5 : Int32) (hx : p.tables.exec = Jvm.exec) (hb : c.code = cX11_resource) (hr : meth.sig.returnType = (some .int)) (hml : c.maxLocals = 5) (hown : s.vm.findClass RX11 = some m.cls) (hts : ∀ w ∈ wzX11_resource, w.before args s = true) (hlocks : meth.locks = false) (hZ : zAMB s) (hA : ∀ q : Nat, s.heap.size ≤ q → A q) (hK : va_K (dC, dI) vwCl [(kn, .int), (ko, .int), (kc, .int)] s) : ∀  (H : Heap) (locs : List Loc) (ls : Array Slot), va_P (dC, dI) vwCl [(qn, .inl (kn, 8, .inl fn)), (qo, .inl (ko, 8, .inl fo)), (qc, .inl (kc, 8, .inl fc)), (h0, .inr (10, [.ref qt, .ref q10, .ref q0, .ref q7, .ref q3, .int x5, .int x6, .int x7, .int x8])), (q10, .inr (9, [.ref qa, .ref qn, .ref qo, .ref qc, .int g4, .int g5]))] H → va_D A [(qn, .inl (kn, 8, .inl fn)), (qo, .inl (ko, 8, .inl fo)), (qc, .inl (kc, 8, .inl fc)), (h0, .inr (10, [.ref qt, .ref q10, .ref q0, .ref q7, .ref q3, .int x5, .int x6, .int x7, .int x8])), (q10, .inr (9, [.ref qa, .ref qn, .ref qo, .ref qc, .int g4, .int g5]))] → va_S A s.heap H locs → lv_has ls 5 [] → W p l e ({ frames := 3, cells := 0, slots := 0, locals := 180 }) s m args below meth c H locs 0 0 (MQ below (va_Qi (fun (r : Int32) (_ : Unit) => True) (fun (_ : Unit) (t : State) => ∃ (ha : Nat → Int32), ∃ (hb9 : Nat → Int32), ∃ (hc9 : Nat → Int32), zPost dC dI A [(h0, .inr (10, [.ref qt, .ref q10, .ref q0, .ref q7, .ref q3, .int x5, .int x6, .int x7, .int x8])), (q10, .inr (9, [.ref qa, .ref qn, .ref qo, .ref qc, .int g4, .int g5])), (qn, .inl (kn, 8, .inl ha)), (qo, .inl (ko, 8, .inl hb9)), (qc, .inl (kc, 8, .inl hc9))] [(kn, .int), (ko, .int), (kc, .int)] t) A) args s 0 0 A) (F0 m 38 ls []) := by
  intro  H locs ls hP hD hS hl
  refine lv_iconst (v := (-1)) hx hb dX11_resource_38 (by decide) ?_
  have hP9 := hP.sub (ws' := [(h0, .inr (10, [.ref qt, .ref q10, .ref q0, .ref q7, .ref q3, .int x5, .int x6, .int x7, .int x8])), (q10, .inr (9, [.ref qa, .ref qn, .ref qo, .ref qc, .int g4, .int g5])), (qn, .inl (kn, 8, .inl fn)), (qo, .inl (ko, 8, .inl fo)), (qc, .inl (kc, 8, .inl fc))]) [3, 4, 0, 1, 2] rfl
  have hD9 := hD.sub (ws' := [(h0, .inr (10, [.ref qt, .ref q10, .ref q0, .ref q7, .ref q3, .int x5, .int x6, .int x7, .int x8])), (q10, .inr (9, [.ref qa, .ref qn, .ref qo, .ref qc, .int g4, .int g5])), (qn, .inl (kn, 8, .inl fn)), (qo, .inl (ko, 8, .inl fo)), (qc, .inl (kc, 8, .inl fc))]) [3, 4, 0, 1, 2] (by decide) rfl
  have hK9 := hK.sub (tys' := [(kn, .int), (ko, .int), (kc, .int)]) [0, 1, 2] rfl
  exact W.iret (v := (-1)) hx hb hr (fun t ht hW => ⟨⟨(-1), (), rfl, trivial, fn, fo, fc, by rw [ht]; exact hP9, va_K.moved hW.alike hK9, hD9⟩, hS.F ht⟩) hS.2.2 dX11_resource_39
set_option maxHeartbeats 4000000 in
set_option maxRecDepth 100000 in
theorem c_X11_resource (l : Launch) (dC : Nat → ClassId) (dI : Nat → Nat → Nat) (sz : Nat) (h0 : Nat) (a1 : Int32) (a2 : Int32) (a3 : Int32) (a4 : Int32) (x5 : Int32) (x6 : Int32) (x7 : Int32) (x8 : Int32) (qt : Nat) (q10 : Nat) (q0 : Nat) (q7 : Nat) (q3 : Nat) (g4 : Int32) (g5 : Int32) (qa : Nat) (qn : Nat) (qo : Nat) (qc : Nat) (kn : ClassId) (fn : Nat → Int32) (ko : ClassId) (fo : Nat → Int32) (kc : ClassId) (fc : Nat → Int32) : Met l yX11_resource wzX11_resource ({ frames := 3, cells := 0, slots := 0, locals := 180 }) (va_Pc [.ref h0, .int a1, .int a2, .int a3, .int a4] (zPre dC dI sz [(h0, .inr (10, [.ref qt, .ref q10, .ref q0, .ref q7, .ref q3, .int x5, .int x6, .int x7, .int x8])), (q10, .inr (9, [.ref qa, .ref qn, .ref qo, .ref qc, .int g4, .int g5])), (qn, .inl (kn, 8, .inl fn)), (qo, .inl (ko, 8, .inl fo)), (qc, .inl (kc, 8, .inl fc))] [(kn, .int), (ko, .int), (kc, .int)])) (va_Qi (fun (r : Int32) (_ : Unit) => True) (fun (_ : Unit) (t : State) => ∃ (ha : Nat → Int32), ∃ (hb9 : Nat → Int32), ∃ (hc9 : Nat → Int32), zPost dC dI (va_A [(h0, .inr (10, [.ref qt, .ref q10, .ref q0, .ref q7, .ref q3, .int x5, .int x6, .int x7, .int x8])), (q10, .inr (9, [.ref qa, .ref qn, .ref qo, .ref qc, .int g4, .int g5])), (qn, .inl (kn, 8, .inl fn)), (qo, .inl (ko, 8, .inl fo)), (qc, .inl (kc, 8, .inl fc))] sz) [(h0, .inr (10, [.ref qt, .ref q10, .ref q0, .ref q7, .ref q3, .int x5, .int x6, .int x7, .int x8])), (q10, .inr (9, [.ref qa, .ref qn, .ref qo, .ref qc, .int g4, .int g5])), (qn, .inl (kn, 8, .inl ha)), (qo, .inl (ko, 8, .inl hb9)), (qc, .inl (kc, 8, .inl hc9))] [(kn, .int), (ko, .int), (kc, .int)] t) (va_A [(h0, .inr (10, [.ref qt, .ref q10, .ref q0, .ref q7, .ref q3, .int x5, .int x6, .int x7, .int x8])), (q10, .inr (9, [.ref qa, .ref qn, .ref qo, .ref qc, .int g4, .int g5])), (qn, .inl (kn, 8, .inl fn)), (qo, .inl (ko, 8, .inl fo)), (qc, .inl (kc, 8, .inl fc))] sz)) 0 0 (va_A [(h0, .inr (10, [.ref qt, .ref q10, .ref q0, .ref q7, .ref q3, .int x5, .int x6, .int x7, .int x8])), (q10, .inr (9, [.ref qa, .ref qn, .ref qo, .ref qc, .int g4, .int g5])), (qn, .inl (kn, 8, .inl fn)), (qo, .inl (ko, 8, .inl fo)), (qc, .inl (kc, 8, .inl fc))] sz) := by
  refine Met.ofW (cc := cX11_resource) (maxL := 5) (ret := (some .int)) (by decide) rfl ?_
  intro p e s m args below meth c s₁ B hml hv
  obtain ⟨rfl, hsz, hZ, hP, hK, hD0⟩ := hv
  have hx := B.exec
  have hb := B.bytes
  have hr := B.returns
  have hts := atoms_spec (ws := wzX11_resource) B.pre
  have hown : s.vm.findClass RX11 = some m.cls := findClass_of_methodNamed B.named
  have hlocks := B.notSynchronized
  subst hsz
  have hD := hD0.self (sz := s.heap.size)
  generalize hAe : va_A [(h0, .inr (10, [.ref qt, .ref q10, .ref q0, .ref q7, .ref q3, .int x5, .int x6, .int x7, .int x8])), (q10, .inr (9, [.ref qa, .ref qn, .ref qo, .ref qc, .int g4, .int g5])), (qn, .inl (kn, 8, .inl fn)), (qo, .inl (ko, 8, .inl fo)), (qc, .inl (kc, 8, .inl fc))] s.heap.size = A at hD ⊢
  have hA : ∀ q : Nat, s.heap.size ≤ q → A q := fun q h => by rw [← hAe]; exact Or.inr h
  have hS : va_S A s.heap s.heap [] := va_S.rf
  have hP : va_P (dC, dI) vwCl [(h0, .inr (10, [.ref qt, .ref q10, .ref q0, .ref q7, .ref q3, .int x5, .int x6, .int x7, .int x8])), (q10, .inr (9, [.ref qa, .ref qn, .ref qo, .ref qc, .int g4, .int g5])), (qn, .inl (kn, 8, .inl fn)), (qo, .inl (ko, 8, .inl fo)), (qc, .inl (kc, 8, .inl fc))] s.heap := hP
  have hl := lv_entry ([.ref h0, .int a1, .int a2, .int a3, .int a4]) (n := 5) (Nat.le_of_ble_eq_true rfl)
  rw [lg_entry_eq]
  generalize (lg_sl ([.ref h0, .int a1, .int a2, .int a3, .int a4]) ++ List.replicate (5 - (lg_sl ([.ref h0, .int a1, .int a2, .int a3, .int a4])).length) Slot.unset).toArray = ls at hl ⊢
  have hl : lv_has ls 5 [(0, .ref h0), (1, .int a1), (2, .int a2), (3, .int a3), (4, .int a4)] := hl
  refine lv_iload_n hx hb dX11_resource_0 rfl (lv_at hl 1 rfl) ?_
  refine lv_if_lt (tgt := 19) hx hb dX11_resource_1 (by decide) (fun c1 => ?_) (fun c1 => ?_)
  ·
    exact j_X11_resource_19 l dC dI h0 qt q10 q0 q7 q3 qa qn qo qc kn ko kc x5 x6 x7 x8 g4 g5 fn fo fc hx hb hr hml hown hts hlocks hZ hA hK  _ _ _ hP hD hS (lv_sub hl [] rfl)
  ·
    refine lv_iload_n hx hb dX11_resource_4 rfl (lv_at hl 1 rfl) ?_
    refine lv_bipush (v := 8) hx hb dX11_resource_5 (by decide) ?_
    refine lv_icmp_ge (tgt := 19) hx hb dX11_resource_7 (by decide) (fun c2 => ?_) (fun c2 => ?_)
    ·
      exact j_X11_resource_19 l dC dI h0 qt q10 q0 q7 q3 qa qn qo qc kn ko kc x5 x6 x7 x8 g4 g5 fn fo fc hx hb hr hml hown hts hlocks hZ hA hK  _ _ _ hP hD hS (lv_sub hl [] rfl)
    ·
      refine lv_iload_n hx hb dX11_resource_10 rfl (lv_at hl 2 rfl) ?_
      refine lv_if_lt (tgt := 19) hx hb dX11_resource_11 (by decide) (fun c3 => ?_) (fun c3 => ?_)
      ·
        exact j_X11_resource_19 l dC dI h0 qt q10 q0 q7 q3 qa qn qo qc kn ko kc x5 x6 x7 x8 g4 g5 fn fo fc hx hb hr hml hown hts hlocks hZ hA hK  _ _ _ hP hD hS (lv_sub hl [] rfl)
      ·
        refine lv_iload_n hx hb dX11_resource_14 rfl (lv_at hl 2 rfl) ?_
        refine lv_iconst (v := 1) hx hb dX11_resource_15 (by decide) ?_
        refine lv_icmp_le (tgt := 21) hx hb dX11_resource_16 (by decide) (fun c4 => ?_) (fun c4 => ?_)
        ·
          refine lv_aload_n hx hb dX11_resource_21 rfl (lv_at hl 0 rfl) ?_
          refine lv_iload_n hx hb dX11_resource_22 rfl (lv_at hl 3 rfl) ?_
          have hPc := hP.sub (ws' := [(h0, .inr (10, [.ref qt, .ref q10, .ref q0, .ref q7, .ref q3, .int x5, .int x6, .int x7, .int x8])), (q10, .inr (9, [.ref qa, .ref qn, .ref qo, .ref qc, .int g4, .int g5]))]) [0, 1] rfl
          have hDc := hD.sub (ws' := [(h0, .inr (10, [.ref qt, .ref q10, .ref q0, .ref q7, .ref q3, .int x5, .int x6, .int x7, .int x8])), (q10, .inr (9, [.ref qa, .ref qn, .ref qo, .ref qc, .int g4, .int g5]))]) [0, 1] (by decide) rfl
          have hKc := hK.sub (tys' := []) [] rfl
          have hFc := va_free (wc := [(h0, .inr (10, [.ref qt, .ref q10, .ref q0, .ref q7, .ref q3, .int x5, .int x6, .int x7, .int x8])), (q10, .inr (9, [.ref qa, .ref qn, .ref qo, .ref qc, .int g4, .int g5]))]) hD hS hA [0, 1] rfl
          refine va_calli (va_runV (As := [.int a3]) (rest := []) ⟨hx, hb, hml, hown, hts⟩ (c_X11_isKindOrNothing l dC dI _ h0 a3 x5 x6 x7 x8 qt q10 q0 q7 q3 g4 g5 qa qn qo qc) (cwV 1 hts hX11_resource_X11_isKindOrNothing_v74 rfl rfl rfl (by decide +kernel) ⟨Nat.le_of_ble_eq_true rfl, Nat.le_of_ble_eq_true rfl⟩) ⟨zPre.blind, va_recv hKc hPc (ci := 10) (q0 := 0) rfl rfl, zPre.go hZ hPc hKc hDc⟩ rfl rfl hl.1 rfl (lv_room (Nat.le_of_ble_eq_true rfl)) dX11_resource_23 ⟨Nat.le_of_ble_eq_true rfl, Nat.le_of_ble_eq_true rfl⟩) hS (fun q _ h => hFc q h) hFc (fun r5 u9 t9 H1 locs ht hvm hw hB hz1 hk1 hS => ?_)
          obtain ⟨hP1, hK1, hD1⟩ := hB
          rw [ht] at hP1
          have hK1 := va_K.moved hvm.symm hK1
          obtain ⟨hP, hD⟩ := va_join (wr := [(qn, .inl (kn, 8, .inl fn)), (qo, .inl (ko, 8, .inl fo)), (qc, .inl (kc, 8, .inl fc))]) (w1 := [(h0, .inr (10, [.ref qt, .ref q10, .ref q0, .ref q7, .ref q3, .int x5, .int x6, .int x7, .int x8])), (q10, .inr (9, [.ref qa, .ref qn, .ref qo, .ref qc, .int g4, .int g5]))]) hP hD [0, 1] [2, 3, 4] rfl rfl (by decide) (by decide) hk1 hFc hP1 hD1
          have hK := hK.app hK1
          generalize H1 = H at hP hS ⊢
          have hP : va_P (dC, dI) vwCl [(qn, .inl (kn, 8, .inl fn)), (qo, .inl (ko, 8, .inl fo)), (qc, .inl (kc, 8, .inl fc)), (h0, .inr (10, [.ref qt, .ref q10, .ref q0, .ref q7, .ref q3, .int x5, .int x6, .int x7, .int x8])), (q10, .inr (9, [.ref qa, .ref qn, .ref qo, .ref qc, .int g4, .int g5]))] H := hP
          have hD : va_D A [(qn, .inl (kn, 8, .inl fn)), (qo, .inl (ko, 8, .inl fo)), (qc, .inl (kc, 8, .inl fc)), (h0, .inr (10, [.ref qt, .ref q10, .ref q0, .ref q7, .ref q3, .int x5, .int x6, .int x7, .int x8])), (q10, .inr (9, [.ref qa, .ref qn, .ref qo, .ref qc, .int g4, .int g5]))] := hD
          have hK : va_K (dC, dI) vwCl [(kn, .int), (ko, .int), (kc, .int)] s := hK
          refine lv_if_eq (tgt := 38) hx hb dX11_resource_26 (by decide) (fun c6 => ?_) (fun c6 => ?_)
          ·
            exact j_X11_resource_38 l dC dI qn qo qc h0 qt q10 q0 q7 q3 qa kn ko kc fn fo fc x5 x6 x7 x8 g4 g5 hx hb hr hml hown hts hlocks hZ hA hK  _ _ _ hP hD hS (lv_sub hl [] rfl)
          ·
            refine lv_aload_n hx hb dX11_resource_29 rfl (lv_at hl 0 rfl) ?_
            refine lv_iload hx hb dX11_resource_30 (lv_at hl 4 rfl) ?_
            have hPc := hP.sub (ws' := [(h0, .inr (10, [.ref qt, .ref q10, .ref q0, .ref q7, .ref q3, .int x5, .int x6, .int x7, .int x8])), (q10, .inr (9, [.ref qa, .ref qn, .ref qo, .ref qc, .int g4, .int g5]))]) [3, 4] rfl
            have hDc := hD.sub (ws' := [(h0, .inr (10, [.ref qt, .ref q10, .ref q0, .ref q7, .ref q3, .int x5, .int x6, .int x7, .int x8])), (q10, .inr (9, [.ref qa, .ref qn, .ref qo, .ref qc, .int g4, .int g5]))]) [3, 4] (by decide) rfl
            have hKc := hK.sub (tys' := []) [] rfl
            have hFc := va_free (wc := [(h0, .inr (10, [.ref qt, .ref q10, .ref q0, .ref q7, .ref q3, .int x5, .int x6, .int x7, .int x8])), (q10, .inr (9, [.ref qa, .ref qn, .ref qo, .ref qc, .int g4, .int g5]))]) hD hS hA [3, 4] rfl
            refine va_calli (va_runV (As := [.int a4]) (rest := []) ⟨hx, hb, hml, hown, hts⟩ (c_X11_isKindOrNothing l dC dI _ h0 a4 x5 x6 x7 x8 qt q10 q0 q7 q3 g4 g5 qa qn qo qc) (cwV 1 hts hX11_resource_X11_isKindOrNothing_v74 rfl rfl rfl (by decide +kernel) ⟨Nat.le_of_ble_eq_true rfl, Nat.le_of_ble_eq_true rfl⟩) ⟨zPre.blind, va_recv hKc hPc (ci := 10) (q0 := 0) rfl rfl, zPre.go hZ hPc hKc hDc⟩ rfl rfl hl.1 rfl (lv_room (Nat.le_of_ble_eq_true rfl)) dX11_resource_32 ⟨Nat.le_of_ble_eq_true rfl, Nat.le_of_ble_eq_true rfl⟩) hS (fun q _ h => hFc q h) hFc (fun r7 u9 t9 H1 locs ht hvm hw hB hz1 hk1 hS => ?_)
            obtain ⟨hP1, hK1, hD1⟩ := hB
            rw [ht] at hP1
            have hK1 := va_K.moved hvm.symm hK1
            obtain ⟨hP, hD⟩ := va_join (wr := [(qn, .inl (kn, 8, .inl fn)), (qo, .inl (ko, 8, .inl fo)), (qc, .inl (kc, 8, .inl fc))]) (w1 := [(h0, .inr (10, [.ref qt, .ref q10, .ref q0, .ref q7, .ref q3, .int x5, .int x6, .int x7, .int x8])), (q10, .inr (9, [.ref qa, .ref qn, .ref qo, .ref qc, .int g4, .int g5]))]) hP hD [3, 4] [0, 1, 2] rfl rfl (by decide) (by decide) hk1 hFc hP1 hD1
            have hK := hK.app hK1
            generalize H1 = H at hP hS ⊢
            have hP : va_P (dC, dI) vwCl [(qn, .inl (kn, 8, .inl fn)), (qo, .inl (ko, 8, .inl fo)), (qc, .inl (kc, 8, .inl fc)), (h0, .inr (10, [.ref qt, .ref q10, .ref q0, .ref q7, .ref q3, .int x5, .int x6, .int x7, .int x8])), (q10, .inr (9, [.ref qa, .ref qn, .ref qo, .ref qc, .int g4, .int g5]))] H := hP
            have hD : va_D A [(qn, .inl (kn, 8, .inl fn)), (qo, .inl (ko, 8, .inl fo)), (qc, .inl (kc, 8, .inl fc)), (h0, .inr (10, [.ref qt, .ref q10, .ref q0, .ref q7, .ref q3, .int x5, .int x6, .int x7, .int x8])), (q10, .inr (9, [.ref qa, .ref qn, .ref qo, .ref qc, .int g4, .int g5]))] := hD
            have hK : va_K (dC, dI) vwCl [(kn, .int), (ko, .int), (kc, .int)] s := hK
            refine lv_if_ne (tgt := 40) hx hb dX11_resource_35 (by decide) (fun c8 => ?_) (fun c8 => ?_)
            ·
              refine lv_aload_n hx hb dX11_resource_40 rfl (lv_at hl 0 rfl) ?_
              refine va_get (D := (dC, dI)) (ci := 10) (v := .ref q10) (C := RX11) (T := TX11) (N := 9) hx hb hts i_X11_resource_X11 hown hK hP 3 rfl rfl 1 (by decide) (hts (.fieldLink RX11 16 "StatementRules2" "told" "LStatementRules2$Told;") k_X11_resource_fieldLink_RX11_16_SR_told_LSR_Told) (fun _ h9 => h9) rfl dX11_resource_41 ?_
              refine lv_iload_n hx hb dX11_resource_44 rfl (lv_at hl 1 rfl) ?_
              refine lv_iload_n hx hb dX11_resource_45 rfl (lv_at hl 2 rfl) ?_
              refine lv_iload_n hx hb dX11_resource_46 rfl (lv_at hl 3 rfl) ?_
              refine lv_iload hx hb dX11_resource_47 (lv_at hl 4 rfl) ?_
              have hPc := hP.sub (ws' := [(q10, .inr (9, [.ref qa, .ref qn, .ref qo, .ref qc, .int g4, .int g5])), (qn, .inl (kn, 8, .inl fn)), (qo, .inl (ko, 8, .inl fo)), (qc, .inl (kc, 8, .inl fc))]) [4, 0, 1, 2] rfl
              have hDc := hD.sub (ws' := [(q10, .inr (9, [.ref qa, .ref qn, .ref qo, .ref qc, .int g4, .int g5])), (qn, .inl (kn, 8, .inl fn)), (qo, .inl (ko, 8, .inl fo)), (qc, .inl (kc, 8, .inl fc))]) [4, 0, 1, 2] (by decide) rfl
              have hKc := hK.sub (tys' := [(kn, .int), (ko, .int), (kc, .int)]) [0, 1, 2] rfl
              have hFc := va_free (wc := [(q10, .inr (9, [.ref qa, .ref qn, .ref qo, .ref qc, .int g4, .int g5])), (qn, .inl (kn, 8, .inl fn)), (qo, .inl (ko, 8, .inl fo)), (qc, .inl (kc, 8, .inl fc))]) hD hS hA [4, 0, 1, 2] rfl
              refine va_callv (va_runV (As := [.int a1, .int a2, .int a3, .int a4]) (rest := []) ⟨hx, hb, hml, hown, hts⟩ (c_X10_tellResource l dC dI _ q10 a1 a2 a3 a4 g4 g5 qa qn qo qc kn fn ko fo kc fc) (cwV 4 hts hX11_resource_X10_tellResource_v77 rfl rfl rfl (by decide +kernel) ⟨Nat.le_of_ble_eq_true rfl, Nat.le_of_ble_eq_true rfl⟩) ⟨zPre.blind, va_recv hKc hPc (ci := 9) (q0 := 0) rfl rfl, zPre.go hZ hPc hKc hDc⟩ rfl rfl hl.1 rfl (lv_room (Nat.le_of_ble_eq_true rfl)) dX11_resource_49 ⟨Nat.le_of_ble_eq_true rfl, Nat.le_of_ble_eq_true rfl⟩) hS (fun q _ h => hFc q h) hFc (fun u9 t9 H1 locs ht hvm hw hB hz1 hk1 hS => ?_)
              obtain ⟨ha_10, hb9_11, hc9_12, hP1, hK1, hD1⟩ := hB
              rw [ht] at hP1
              have hK1 := va_K.moved hvm.symm hK1
              obtain ⟨hP, hD⟩ := va_join (wr := [(h0, .inr (10, [.ref qt, .ref q10, .ref q0, .ref q7, .ref q3, .int x5, .int x6, .int x7, .int x8]))]) (w1 := [(q10, .inr (9, [.ref qa, .ref qn, .ref qo, .ref qc, .int g4, .int g5])), (qn, .inl (kn, 8, .inl ha_10)), (qo, .inl (ko, 8, .inl hb9_11)), (qc, .inl (kc, 8, .inl hc9_12))]) hP hD [4, 0, 1, 2] [3] rfl rfl (by decide) (by decide) hk1 hFc hP1 hD1
              have hK := hK.app hK1
              generalize H1 = H at hP hS ⊢
              have hP : va_P (dC, dI) vwCl [(h0, .inr (10, [.ref qt, .ref q10, .ref q0, .ref q7, .ref q3, .int x5, .int x6, .int x7, .int x8])), (q10, .inr (9, [.ref qa, .ref qn, .ref qo, .ref qc, .int g4, .int g5])), (qn, .inl (kn, 8, .inl ha_10)), (qo, .inl (ko, 8, .inl hb9_11)), (qc, .inl (kc, 8, .inl hc9_12))] H := hP
              have hD : va_D A [(h0, .inr (10, [.ref qt, .ref q10, .ref q0, .ref q7, .ref q3, .int x5, .int x6, .int x7, .int x8])), (q10, .inr (9, [.ref qa, .ref qn, .ref qo, .ref qc, .int g4, .int g5])), (qn, .inl (kn, 8, .inl ha_10)), (qo, .inl (ko, 8, .inl hb9_11)), (qc, .inl (kc, 8, .inl hc9_12))] := hD
              have hK : va_K (dC, dI) vwCl [(kn, .int), (ko, .int), (kc, .int), (kn, .int), (ko, .int), (kc, .int)] s := hK
              have hK : va_K (dC, dI) vwCl [(kn, .int), (ko, .int), (kc, .int)] s := hK.sub [0, 1, 2] rfl
              refine lv_iconst (v := 1) hx hb dX11_resource_52 (by decide) ?_
              have hP9 := hP.sub (ws' := [(h0, .inr (10, [.ref qt, .ref q10, .ref q0, .ref q7, .ref q3, .int x5, .int x6, .int x7, .int x8])), (q10, .inr (9, [.ref qa, .ref qn, .ref qo, .ref qc, .int g4, .int g5])), (qn, .inl (kn, 8, .inl ha_10)), (qo, .inl (ko, 8, .inl hb9_11)), (qc, .inl (kc, 8, .inl hc9_12))]) [0, 1, 2, 3, 4] rfl
              have hD9 := hD.sub (ws' := [(h0, .inr (10, [.ref qt, .ref q10, .ref q0, .ref q7, .ref q3, .int x5, .int x6, .int x7, .int x8])), (q10, .inr (9, [.ref qa, .ref qn, .ref qo, .ref qc, .int g4, .int g5])), (qn, .inl (kn, 8, .inl ha_10)), (qo, .inl (ko, 8, .inl hb9_11)), (qc, .inl (kc, 8, .inl hc9_12))]) [0, 1, 2, 3, 4] (by decide) rfl
              have hK9 := hK.sub (tys' := [(kn, .int), (ko, .int), (kc, .int)]) [0, 1, 2] rfl
              exact W.iret (v := 1) hx hb hr (fun t ht hW => ⟨⟨1, (), rfl, trivial, ha_10, hb9_11, hc9_12, by rw [ht]; exact hP9, va_K.moved hW.alike hK9, hD9⟩, hS.F ht⟩) hS.2.2 dX11_resource_53
            ·
              exact j_X11_resource_38 l dC dI qn qo qc h0 qt q10 q0 q7 q3 qa kn ko kc fn fo fc x5 x6 x7 x8 g4 g5 hx hb hr hml hown hts hlocks hZ hA hK  _ _ _ hP hD hS (lv_sub hl [] rfl)
        ·
          exact j_X11_resource_19 l dC dI h0 qt q10 q0 q7 q3 qa qn qo qc kn ko kc x5 x6 x7 x8 g4 g5 fn fo fc hx hb hr hml hown hts hlocks hZ hA hK  _ _ _ hP hD hS (lv_sub hl [] rfl)
theorem k_X11_under_fieldLink_RX11_16_SR_told_LSR_Told : Cond.fieldLink RX11 16 "StatementRules2" "told" "LStatementRules2$Told;" ∈ wzX11_under := List.mem_cons_of_mem _ (List.mem_append_left _ (List.mem_of_getElem? (i := 0) rfl))
theorem i_X11_under_X11 : ∀ w ∈ wsX110, w ∈ wzX11_under := fun _ h => List.mem_cons_of_mem _ (List.mem_append_right _ (List.mem_append_left _ (h)))
set_option maxHeartbeats 4000000 in
set_option maxRecDepth 100000 in
theorem j_X11_under_22 {p : Program} {e : Env} {s : State} {m : MethodId} {args : Array Value} {below : List Frame} {meth : Method} {c : Code} {A : Nat → Prop} (l : Launch) (dC : Nat → ClassId) (dI : Nat → Nat → Nat) (h0 : Nat) (qt : Nat) (q10 : Nat) (q0 : Nat) (q7 : Nat) (q3 : Nat) (qa : Nat) (qn : Nat) (qo : Nat) (qc : Nat) (kA : ClassId) (x5 : Int32) (x6 : Int32) (x7 : Int32) (x8 : Int32) (fa : Nat → Int32) (g4 : Int32) (g5 : Int32) (hx : p.tables.exec = Jvm.exec) (hb : c.code = cX11_under) (hr : meth.sig.returnType = (some .int)) (hml : c.maxLocals = 3) (hown : s.vm.findClass RX11 = some m.cls) (hts : ∀ w ∈ wzX11_under, w.before args s = true) (hlocks : meth.locks = false) (hZ : zAMB s) (hA : ∀ q : Nat, s.heap.size ≤ q → A q) (hK : va_K (dC, dI) vwCl [(kA, .int)] s) : ∀  (H : Heap) (locs : List Loc) (ls : Array Slot), va_P (dC, dI) vwCl [(h0, .inr (10, [.ref qt, .ref q10, .ref q0, .ref q7, .ref q3, .int x5, .int x6, .int x7, .int x8])), (qa, .inl (kA, 12, .inl fa)), (q10, .inr (9, [.ref qa, .ref qn, .ref qo, .ref qc, .int g4, .int g5]))] H → va_D A [(h0, .inr (10, [.ref qt, .ref q10, .ref q0, .ref q7, .ref q3, .int x5, .int x6, .int x7, .int x8])), (qa, .inl (kA, 12, .inl fa)), (q10, .inr (9, [.ref qa, .ref qn, .ref qo, .ref qc, .int g4, .int g5]))] → va_S A s.heap H locs → lv_has ls 3 [] → W p l e ({ frames := 3, cells := 0, slots := 0, locals := 180 }) s m args below meth c H locs 0 0 (MQ below (va_Qi (fun (r : Int32) (_ : Unit) => True) (fun (_ : Unit) (t : State) => zPost dC dI A [(h0, .inr (10, [.ref qt, .ref q10, .ref q0, .ref q7, .ref q3, .int x5, .int x6, .int x7, .int x8])), (q10, .inr (9, [.ref qa, .ref qn, .ref qo, .ref qc, .int g4, .int g5])), (qa, .inl (kA, 12, .inl fa))] [(kA, .int)] t) A) args s 0 0 A) (F0 m 22 ls []) := by
  intro  H locs ls hP hD hS hl
  refine lv_iconst (v := (-1)) hx hb dX11_under_22 (by decide) ?_
  have hP9 := hP.sub (ws' := [(h0, .inr (10, [.ref qt, .ref q10, .ref q0, .ref q7, .ref q3, .int x5, .int x6, .int x7, .int x8])), (q10, .inr (9, [.ref qa, .ref qn, .ref qo, .ref qc, .int g4, .int g5])), (qa, .inl (kA, 12, .inl fa))]) [0, 2, 1] rfl
  have hD9 := hD.sub (ws' := [(h0, .inr (10, [.ref qt, .ref q10, .ref q0, .ref q7, .ref q3, .int x5, .int x6, .int x7, .int x8])), (q10, .inr (9, [.ref qa, .ref qn, .ref qo, .ref qc, .int g4, .int g5])), (qa, .inl (kA, 12, .inl fa))]) [0, 2, 1] (by decide) rfl
  have hK9 := hK.sub (tys' := [(kA, .int)]) [0] rfl
  exact W.iret (v := (-1)) hx hb hr (fun t ht hW => ⟨⟨(-1), (), rfl, trivial, by rw [ht]; exact hP9, va_K.moved hW.alike hK9, hD9⟩, hS.F ht⟩) hS.2.2 dX11_under_23
set_option maxHeartbeats 4000000 in
set_option maxRecDepth 100000 in
theorem c_X11_under (l : Launch) (dC : Nat → ClassId) (dI : Nat → Nat → Nat) (sz : Nat) (h0 : Nat) (u : Int32) (v : Int32) (x5 : Int32) (x6 : Int32) (x7 : Int32) (x8 : Int32) (qt : Nat) (q10 : Nat) (q0 : Nat) (q7 : Nat) (q3 : Nat) (g4 : Int32) (g5 : Int32) (qa : Nat) (qn : Nat) (qo : Nat) (qc : Nat) (kA : ClassId) (fa : Nat → Int32) : Met l yX11_under wzX11_under ({ frames := 3, cells := 0, slots := 0, locals := 180 }) (va_Pc [.ref h0, .int u, .int v] (zPre dC dI sz [(h0, .inr (10, [.ref qt, .ref q10, .ref q0, .ref q7, .ref q3, .int x5, .int x6, .int x7, .int x8])), (q10, .inr (9, [.ref qa, .ref qn, .ref qo, .ref qc, .int g4, .int g5])), (qa, .inl (kA, 12, .inl fa))] [(kA, .int)])) (va_Qi (fun (r : Int32) (_ : Unit) => True) (fun (_ : Unit) (t : State) => zPost dC dI (va_A [(h0, .inr (10, [.ref qt, .ref q10, .ref q0, .ref q7, .ref q3, .int x5, .int x6, .int x7, .int x8])), (q10, .inr (9, [.ref qa, .ref qn, .ref qo, .ref qc, .int g4, .int g5])), (qa, .inl (kA, 12, .inl fa))] sz) [(h0, .inr (10, [.ref qt, .ref q10, .ref q0, .ref q7, .ref q3, .int x5, .int x6, .int x7, .int x8])), (q10, .inr (9, [.ref qa, .ref qn, .ref qo, .ref qc, .int g4, .int g5])), (qa, .inl (kA, 12, .inl fa))] [(kA, .int)] t) (va_A [(h0, .inr (10, [.ref qt, .ref q10, .ref q0, .ref q7, .ref q3, .int x5, .int x6, .int x7, .int x8])), (q10, .inr (9, [.ref qa, .ref qn, .ref qo, .ref qc, .int g4, .int g5])), (qa, .inl (kA, 12, .inl fa))] sz)) 0 0 (va_A [(h0, .inr (10, [.ref qt, .ref q10, .ref q0, .ref q7, .ref q3, .int x5, .int x6, .int x7, .int x8])), (q10, .inr (9, [.ref qa, .ref qn, .ref qo, .ref qc, .int g4, .int g5])), (qa, .inl (kA, 12, .inl fa))] sz) := by
  refine Met.ofW (cc := cX11_under) (maxL := 3) (ret := (some .int)) (by decide) rfl ?_
  intro p e s m args below meth c s₁ B hml hv
  obtain ⟨rfl, hsz, hZ, hP, hK, hD0⟩ := hv
  have hx := B.exec
  have hb := B.bytes
  have hr := B.returns
  have hts := atoms_spec (ws := wzX11_under) B.pre
  have hown : s.vm.findClass RX11 = some m.cls := findClass_of_methodNamed B.named
  have hlocks := B.notSynchronized
  subst hsz
  have hD := hD0.self (sz := s.heap.size)
  generalize hAe : va_A [(h0, .inr (10, [.ref qt, .ref q10, .ref q0, .ref q7, .ref q3, .int x5, .int x6, .int x7, .int x8])), (q10, .inr (9, [.ref qa, .ref qn, .ref qo, .ref qc, .int g4, .int g5])), (qa, .inl (kA, 12, .inl fa))] s.heap.size = A at hD ⊢
  have hA : ∀ q : Nat, s.heap.size ≤ q → A q := fun q h => by rw [← hAe]; exact Or.inr h
  have hS : va_S A s.heap s.heap [] := va_S.rf
  have hP : va_P (dC, dI) vwCl [(h0, .inr (10, [.ref qt, .ref q10, .ref q0, .ref q7, .ref q3, .int x5, .int x6, .int x7, .int x8])), (q10, .inr (9, [.ref qa, .ref qn, .ref qo, .ref qc, .int g4, .int g5])), (qa, .inl (kA, 12, .inl fa))] s.heap := hP
  have hl := lv_entry ([.ref h0, .int u, .int v]) (n := 3) (Nat.le_of_ble_eq_true rfl)
  rw [lg_entry_eq]
  generalize (lg_sl ([.ref h0, .int u, .int v]) ++ List.replicate (3 - (lg_sl ([.ref h0, .int u, .int v])).length) Slot.unset).toArray = ls at hl ⊢
  have hl : lv_has ls 3 [(0, .ref h0), (1, .int u), (2, .int v)] := hl
  refine lv_aload_n hx hb dX11_under_0 rfl (lv_at hl 0 rfl) ?_
  refine va_get (D := (dC, dI)) (ci := 10) (v := .ref q10) (C := RX11) (T := TX11) (N := 9) hx hb hts i_X11_under_X11 hown hK hP 0 rfl rfl 1 (by decide) (hts (.fieldLink RX11 16 "StatementRules2" "told" "LStatementRules2$Told;") k_X11_under_fieldLink_RX11_16_SR_told_LSR_Told) (fun _ h9 => h9) rfl dX11_under_1 ?_
  refine lv_iload_n hx hb dX11_under_4 rfl (lv_at hl 1 rfl) ?_
  have hPc := hP.sub (ws' := [(q10, .inr (9, [.ref qa, .ref qn, .ref qo, .ref qc, .int g4, .int g5]))]) [1] rfl
  have hDc := hD.sub (ws' := [(q10, .inr (9, [.ref qa, .ref qn, .ref qo, .ref qc, .int g4, .int g5]))]) [1] (by decide) rfl
  have hKc := hK.sub (tys' := []) [] rfl
  have hFc := va_free (wc := [(q10, .inr (9, [.ref qa, .ref qn, .ref qo, .ref qc, .int g4, .int g5]))]) hD hS hA [1] rfl
  refine va_calli (va_runV (As := [.int u]) (rest := []) ⟨hx, hb, hml, hown, hts⟩ (c_X10_isKind l dC dI _ q10 u g4 g5 qa qn qo qc) (cwV 1 hts hX11_under_X10_isKind_v62 rfl rfl rfl (by decide +kernel) ⟨Nat.le_of_ble_eq_true rfl, Nat.le_of_ble_eq_true rfl⟩) ⟨zPre.blind, va_recv hKc hPc (ci := 9) (q0 := 0) rfl rfl, zPre.go hZ hPc hKc hDc⟩ rfl rfl hl.1 rfl (lv_room (Nat.le_of_ble_eq_true rfl)) dX11_under_5 ⟨Nat.le_of_ble_eq_true rfl, Nat.le_of_ble_eq_true rfl⟩) hS (fun q _ h => hFc q h) hFc (fun r1 u9 t9 H1 locs ht hvm hw hB hz1 hk1 hS => ?_)
  obtain ⟨hP1, hK1, hD1⟩ := hB
  rw [ht] at hP1
  have hK1 := va_K.moved hvm.symm hK1
  obtain ⟨hP, hD⟩ := va_join (wr := [(h0, .inr (10, [.ref qt, .ref q10, .ref q0, .ref q7, .ref q3, .int x5, .int x6, .int x7, .int x8])), (qa, .inl (kA, 12, .inl fa))]) (w1 := [(q10, .inr (9, [.ref qa, .ref qn, .ref qo, .ref qc, .int g4, .int g5]))]) hP hD [1] [0, 2] rfl rfl (by decide) (by decide) hk1 hFc hP1 hD1
  have hK := hK.app hK1
  generalize H1 = H at hP hS ⊢
  have hP : va_P (dC, dI) vwCl [(h0, .inr (10, [.ref qt, .ref q10, .ref q0, .ref q7, .ref q3, .int x5, .int x6, .int x7, .int x8])), (qa, .inl (kA, 12, .inl fa)), (q10, .inr (9, [.ref qa, .ref qn, .ref qo, .ref qc, .int g4, .int g5]))] H := hP
  have hD : va_D A [(h0, .inr (10, [.ref qt, .ref q10, .ref q0, .ref q7, .ref q3, .int x5, .int x6, .int x7, .int x8])), (qa, .inl (kA, 12, .inl fa)), (q10, .inr (9, [.ref qa, .ref qn, .ref qo, .ref qc, .int g4, .int g5]))] := hD
  have hK : va_K (dC, dI) vwCl [(kA, .int)] s := hK
  refine lv_if_eq (tgt := 22) hx hb dX11_under_8 (by decide) (fun c2 => ?_) (fun c2 => ?_)
  ·
    exact j_X11_under_22 l dC dI h0 qt q10 q0 q7 q3 qa qn qo qc kA x5 x6 x7 x8 fa g4 g5 hx hb hr hml hown hts hlocks hZ hA hK  _ _ _ hP hD hS (lv_sub hl [] rfl)
  ·
    refine lv_aload_n hx hb dX11_under_11 rfl (lv_at hl 0 rfl) ?_
    refine va_get (D := (dC, dI)) (ci := 10) (v := .ref q10) (C := RX11) (T := TX11) (N := 9) hx hb hts i_X11_under_X11 hown hK hP 0 rfl rfl 1 (by decide) (hts (.fieldLink RX11 16 "StatementRules2" "told" "LStatementRules2$Told;") k_X11_under_fieldLink_RX11_16_SR_told_LSR_Told) (fun _ h9 => h9) rfl dX11_under_12 ?_
    refine lv_iload_n hx hb dX11_under_15 rfl (lv_at hl 2 rfl) ?_
    have hPc := hP.sub (ws' := [(q10, .inr (9, [.ref qa, .ref qn, .ref qo, .ref qc, .int g4, .int g5]))]) [2] rfl
    have hDc := hD.sub (ws' := [(q10, .inr (9, [.ref qa, .ref qn, .ref qo, .ref qc, .int g4, .int g5]))]) [2] (by decide) rfl
    have hKc := hK.sub (tys' := []) [] rfl
    have hFc := va_free (wc := [(q10, .inr (9, [.ref qa, .ref qn, .ref qo, .ref qc, .int g4, .int g5]))]) hD hS hA [2] rfl
    refine va_calli (va_runV (As := [.int v]) (rest := []) ⟨hx, hb, hml, hown, hts⟩ (c_X10_isKind l dC dI _ q10 v g4 g5 qa qn qo qc) (cwV 1 hts hX11_under_X10_isKind_v62 rfl rfl rfl (by decide +kernel) ⟨Nat.le_of_ble_eq_true rfl, Nat.le_of_ble_eq_true rfl⟩) ⟨zPre.blind, va_recv hKc hPc (ci := 9) (q0 := 0) rfl rfl, zPre.go hZ hPc hKc hDc⟩ rfl rfl hl.1 rfl (lv_room (Nat.le_of_ble_eq_true rfl)) dX11_under_16 ⟨Nat.le_of_ble_eq_true rfl, Nat.le_of_ble_eq_true rfl⟩) hS (fun q _ h => hFc q h) hFc (fun r3 u9 t9 H1 locs ht hvm hw hB hz1 hk1 hS => ?_)
    obtain ⟨hP1, hK1, hD1⟩ := hB
    rw [ht] at hP1
    have hK1 := va_K.moved hvm.symm hK1
    obtain ⟨hP, hD⟩ := va_join (wr := [(h0, .inr (10, [.ref qt, .ref q10, .ref q0, .ref q7, .ref q3, .int x5, .int x6, .int x7, .int x8])), (qa, .inl (kA, 12, .inl fa))]) (w1 := [(q10, .inr (9, [.ref qa, .ref qn, .ref qo, .ref qc, .int g4, .int g5]))]) hP hD [2] [0, 1] rfl rfl (by decide) (by decide) hk1 hFc hP1 hD1
    have hK := hK.app hK1
    generalize H1 = H at hP hS ⊢
    have hP : va_P (dC, dI) vwCl [(h0, .inr (10, [.ref qt, .ref q10, .ref q0, .ref q7, .ref q3, .int x5, .int x6, .int x7, .int x8])), (qa, .inl (kA, 12, .inl fa)), (q10, .inr (9, [.ref qa, .ref qn, .ref qo, .ref qc, .int g4, .int g5]))] H := hP
    have hD : va_D A [(h0, .inr (10, [.ref qt, .ref q10, .ref q0, .ref q7, .ref q3, .int x5, .int x6, .int x7, .int x8])), (qa, .inl (kA, 12, .inl fa)), (q10, .inr (9, [.ref qa, .ref qn, .ref qo, .ref qc, .int g4, .int g5]))] := hD
    have hK : va_K (dC, dI) vwCl [(kA, .int)] s := hK
    refine lv_if_ne (tgt := 24) hx hb dX11_under_19 (by decide) (fun c4 => ?_) (fun c4 => ?_)
    ·
      refine lv_aload_n hx hb dX11_under_24 rfl (lv_at hl 0 rfl) ?_
      refine va_get (D := (dC, dI)) (ci := 10) (v := .ref q10) (C := RX11) (T := TX11) (N := 9) hx hb hts i_X11_under_X11 hown hK hP 0 rfl rfl 1 (by decide) (hts (.fieldLink RX11 16 "StatementRules2" "told" "LStatementRules2$Told;") k_X11_under_fieldLink_RX11_16_SR_told_LSR_Told) (fun _ h9 => h9) rfl dX11_under_25 ?_
      refine lv_iload_n hx hb dX11_under_28 rfl (lv_at hl 1 rfl) ?_
      refine lv_iload_n hx hb dX11_under_29 rfl (lv_at hl 2 rfl) ?_
      have hPc := hP.sub (ws' := [(q10, .inr (9, [.ref qa, .ref qn, .ref qo, .ref qc, .int g4, .int g5])), (qa, .inl (kA, 12, .inl fa))]) [2, 1] rfl
      have hDc := hD.sub (ws' := [(q10, .inr (9, [.ref qa, .ref qn, .ref qo, .ref qc, .int g4, .int g5])), (qa, .inl (kA, 12, .inl fa))]) [2, 1] (by decide) rfl
      have hKc := hK.sub (tys' := [(kA, .int)]) [0] rfl
      have hFc := va_free (wc := [(q10, .inr (9, [.ref qa, .ref qn, .ref qo, .ref qc, .int g4, .int g5])), (qa, .inl (kA, 12, .inl fa))]) hD hS hA [2, 1] rfl
      refine va_calli (va_runV (As := [.int u, .int v]) (rest := []) ⟨hx, hb, hml, hown, hts⟩ (c_X10_isUnder l dC dI _ q10 u v g4 g5 qa qn qo qc kA fa) (cwV 2 hts hX11_under_X10_isUnder_v144 rfl rfl rfl (by decide +kernel) ⟨Nat.le_of_ble_eq_true rfl, Nat.le_of_ble_eq_true rfl⟩) ⟨zPre.blind, va_recv hKc hPc (ci := 9) (q0 := 0) rfl rfl, zPre.go hZ hPc hKc hDc⟩ rfl rfl hl.1 rfl (lv_room (Nat.le_of_ble_eq_true rfl)) dX11_under_30 ⟨Nat.le_of_ble_eq_true rfl, Nat.le_of_ble_eq_true rfl⟩) hS (fun q _ h => hFc q h) hFc (fun r5 u9 t9 H1 locs ht hvm hw hB hz1 hk1 hS => ?_)
      obtain ⟨hP1, hK1, hD1⟩ := hB
      rw [ht] at hP1
      have hK1 := va_K.moved hvm.symm hK1
      obtain ⟨hP, hD⟩ := va_join (wr := [(h0, .inr (10, [.ref qt, .ref q10, .ref q0, .ref q7, .ref q3, .int x5, .int x6, .int x7, .int x8]))]) (w1 := [(q10, .inr (9, [.ref qa, .ref qn, .ref qo, .ref qc, .int g4, .int g5])), (qa, .inl (kA, 12, .inl fa))]) hP hD [2, 1] [0] rfl rfl (by decide) (by decide) hk1 hFc hP1 hD1
      have hK := hK.app hK1
      generalize H1 = H at hP hS ⊢
      have hP : va_P (dC, dI) vwCl [(h0, .inr (10, [.ref qt, .ref q10, .ref q0, .ref q7, .ref q3, .int x5, .int x6, .int x7, .int x8])), (q10, .inr (9, [.ref qa, .ref qn, .ref qo, .ref qc, .int g4, .int g5])), (qa, .inl (kA, 12, .inl fa))] H := hP
      have hD : va_D A [(h0, .inr (10, [.ref qt, .ref q10, .ref q0, .ref q7, .ref q3, .int x5, .int x6, .int x7, .int x8])), (q10, .inr (9, [.ref qa, .ref qn, .ref qo, .ref qc, .int g4, .int g5])), (qa, .inl (kA, 12, .inl fa))] := hD
      have hK : va_K (dC, dI) vwCl [(kA, .int), (kA, .int)] s := hK
      have hK : va_K (dC, dI) vwCl [(kA, .int)] s := hK.sub [0] rfl
      refine lv_if_eq (tgt := 40) hx hb dX11_under_33 (by decide) (fun c6 => ?_) (fun c6 => ?_)
      ·
        refine lv_iconst (v := 0) hx hb dX11_under_40 (by decide) ?_
        have hP9 := hP.sub (ws' := [(h0, .inr (10, [.ref qt, .ref q10, .ref q0, .ref q7, .ref q3, .int x5, .int x6, .int x7, .int x8])), (q10, .inr (9, [.ref qa, .ref qn, .ref qo, .ref qc, .int g4, .int g5])), (qa, .inl (kA, 12, .inl fa))]) [0, 1, 2] rfl
        have hD9 := hD.sub (ws' := [(h0, .inr (10, [.ref qt, .ref q10, .ref q0, .ref q7, .ref q3, .int x5, .int x6, .int x7, .int x8])), (q10, .inr (9, [.ref qa, .ref qn, .ref qo, .ref qc, .int g4, .int g5])), (qa, .inl (kA, 12, .inl fa))]) [0, 1, 2] (by decide) rfl
        have hK9 := hK.sub (tys' := [(kA, .int)]) [0] rfl
        exact W.iret (v := 0) hx hb hr (fun t ht hW => ⟨⟨0, (), rfl, trivial, by rw [ht]; exact hP9, va_K.moved hW.alike hK9, hD9⟩, hS.F ht⟩) hS.2.2 dX11_under_41
      ·
        refine lv_iconst (v := 1) hx hb dX11_under_36 (by decide) ?_
        refine lv_goto (tgt := 41) hx hb dX11_under_37 (by decide) ?_
        have hP9 := hP.sub (ws' := [(h0, .inr (10, [.ref qt, .ref q10, .ref q0, .ref q7, .ref q3, .int x5, .int x6, .int x7, .int x8])), (q10, .inr (9, [.ref qa, .ref qn, .ref qo, .ref qc, .int g4, .int g5])), (qa, .inl (kA, 12, .inl fa))]) [0, 1, 2] rfl
        have hD9 := hD.sub (ws' := [(h0, .inr (10, [.ref qt, .ref q10, .ref q0, .ref q7, .ref q3, .int x5, .int x6, .int x7, .int x8])), (q10, .inr (9, [.ref qa, .ref qn, .ref qo, .ref qc, .int g4, .int g5])), (qa, .inl (kA, 12, .inl fa))]) [0, 1, 2] (by decide) rfl
        have hK9 := hK.sub (tys' := [(kA, .int)]) [0] rfl
        exact W.iret (v := 1) hx hb hr (fun t ht hW => ⟨⟨1, (), rfl, trivial, by rw [ht]; exact hP9, va_K.moved hW.alike hK9, hD9⟩, hS.F ht⟩) hS.2.2 dX11_under_41
    ·
      exact j_X11_under_22 l dC dI h0 qt q10 q0 q7 q3 qa qn qo qc kA x5 x6 x7 x8 fa g4 g5 hx hb hr hml hown hts hlocks hZ hA hK  _ _ _ hP hD hS (lv_sub hl [] rfl)
theorem k_X11_asserts_fieldLink_RX11_16_SR_told_LSR_Told : Cond.fieldLink RX11 16 "StatementRules2" "told" "LStatementRules2$Told;" ∈ wzX11_asserts := List.mem_cons_of_mem _ (List.mem_append_left _ (List.mem_of_getElem? (i := 0) rfl))
theorem i_X11_asserts_X11 : ∀ w ∈ wsX110, w ∈ wzX11_asserts := fun _ h => List.mem_cons_of_mem _ (List.mem_append_right _ (List.mem_append_left _ (h)))
theorem i_X11_asserts_X10 : ∀ w ∈ wsX100, w ∈ wzX11_asserts := fun _ h => List.mem_cons_of_mem _ (List.mem_append_right _ (List.mem_append_right _ (List.mem_append_left _ (h))))
set_option maxHeartbeats 4000000 in
set_option maxRecDepth 100000 in
theorem c_X11_asserts (l : Launch) (dC : Nat → ClassId) (dI : Nat → Nat → Nat) (sz : Nat) (h0 : Nat) (on : Int32) (x5 : Int32) (x6 : Int32) (x7 : Int32) (x8 : Int32) (qt : Nat) (q10 : Nat) (q0 : Nat) (q7 : Nat) (q3 : Nat) (g4 : Int32) (g5 : Int32) (qa : Nat) (qn : Nat) (qo : Nat) (qc : Nat) (h1 : narrow .boolean (.int on) = .int on) (h2 : fits .boolean (.int on) = true) : Met l yX11_asserts wzX11_asserts ({ frames := 1, cells := 0, slots := 0, locals := 60 }) (va_Pc [.ref h0, .int on] (zPre dC dI sz [(h0, .inr (10, [.ref qt, .ref q10, .ref q0, .ref q7, .ref q3, .int x5, .int x6, .int x7, .int x8])), (q10, .inr (9, [.ref qa, .ref qn, .ref qo, .ref qc, .int g4, .int g5]))] [])) (va_Qi (fun (r : Int32) (_ : Unit) => True) (fun (_ : Unit) (t : State) => ∃ (e5 : Int32), zPost dC dI (va_A [(h0, .inr (10, [.ref qt, .ref q10, .ref q0, .ref q7, .ref q3, .int x5, .int x6, .int x7, .int x8])), (q10, .inr (9, [.ref qa, .ref qn, .ref qo, .ref qc, .int g4, .int g5]))] sz) [(h0, .inr (10, [.ref qt, .ref q10, .ref q0, .ref q7, .ref q3, .int x5, .int x6, .int x7, .int x8])), (q10, .inr (9, [.ref qa, .ref qn, .ref qo, .ref qc, .int g4, .int e5]))] [] t) (va_A [(h0, .inr (10, [.ref qt, .ref q10, .ref q0, .ref q7, .ref q3, .int x5, .int x6, .int x7, .int x8])), (q10, .inr (9, [.ref qa, .ref qn, .ref qo, .ref qc, .int g4, .int g5]))] sz)) 0 0 (va_A [(h0, .inr (10, [.ref qt, .ref q10, .ref q0, .ref q7, .ref q3, .int x5, .int x6, .int x7, .int x8])), (q10, .inr (9, [.ref qa, .ref qn, .ref qo, .ref qc, .int g4, .int g5]))] sz) := by
  refine Met.ofW (cc := cX11_asserts) (maxL := 3) (ret := (some .int)) (by decide) rfl ?_
  intro p e s m args below meth c s₁ B hml hv
  obtain ⟨rfl, hsz, hZ, hP, hK, hD0⟩ := hv
  have hx := B.exec
  have hb := B.bytes
  have hr := B.returns
  have hts := atoms_spec (ws := wzX11_asserts) B.pre
  have hown : s.vm.findClass RX11 = some m.cls := findClass_of_methodNamed B.named
  have hlocks := B.notSynchronized
  subst hsz
  have hD := hD0.self (sz := s.heap.size)
  generalize hAe : va_A [(h0, .inr (10, [.ref qt, .ref q10, .ref q0, .ref q7, .ref q3, .int x5, .int x6, .int x7, .int x8])), (q10, .inr (9, [.ref qa, .ref qn, .ref qo, .ref qc, .int g4, .int g5]))] s.heap.size = A at hD ⊢
  have hA : ∀ q : Nat, s.heap.size ≤ q → A q := fun q h => by rw [← hAe]; exact Or.inr h
  have hS : va_S A s.heap s.heap [] := va_S.rf
  have hP : va_P (dC, dI) vwCl [(h0, .inr (10, [.ref qt, .ref q10, .ref q0, .ref q7, .ref q3, .int x5, .int x6, .int x7, .int x8])), (q10, .inr (9, [.ref qa, .ref qn, .ref qo, .ref qc, .int g4, .int g5]))] s.heap := hP
  have hl := lv_entry ([.ref h0, .int on]) (n := 3) (Nat.le_of_ble_eq_true rfl)
  rw [lg_entry_eq]
  generalize (lg_sl ([.ref h0, .int on]) ++ List.replicate (3 - (lg_sl ([.ref h0, .int on])).length) Slot.unset).toArray = ls at hl ⊢
  have hl : lv_has ls 3 [(0, .ref h0), (1, .int on)] := hl
  refine lv_aload_n hx hb dX11_asserts_0 rfl (lv_at hl 0 rfl) ?_
  refine va_get (D := (dC, dI)) (ci := 10) (v := .ref q10) (C := RX11) (T := TX11) (N := 9) hx hb hts i_X11_asserts_X11 hown hK hP 0 rfl rfl 1 (by decide) (hts (.fieldLink RX11 16 "StatementRules2" "told" "LStatementRules2$Told;") k_X11_asserts_fieldLink_RX11_16_SR_told_LSR_Told) (fun _ h9 => h9) rfl dX11_asserts_1 ?_
  refine va_getN (D := (dC, dI)) (ci := 9) (v := .int g5) (C := RX10) (T := TX10) (N := 6) hx hb hts i_X11_asserts_X10 hown hK hP 1 rfl rfl 5 (by decide) (va_Nw.use rfl (hZ.1 (.fieldLinkNest RX11 81 "StatementRules2$Told" "assertsOn" "Z" "StatementRules2") (by decide +kernel))) (fun _ h9 => h9) rfl dX11_asserts_4 ?_
  refine lv_if_eq (tgt := 14) hx hb dX11_asserts_7 (by decide) (fun c1 => ?_) (fun c1 => ?_)
  ·
    refine lv_iconst (v := 0) hx hb dX11_asserts_14 (by decide) ?_
    refine lv_istore_n (lv' := [(2, .int 0), (0, .ref h0), (1, .int on)]) hx hb dX11_asserts_15 rfl hl (by decide) rfl (fun ls hl => ?_)
    refine lv_aload_n hx hb dX11_asserts_16 rfl (lv_at hl 1 rfl) ?_
    refine va_get (D := (dC, dI)) (ci := 10) (v := .ref q10) (C := RX11) (T := TX11) (N := 9) hx hb hts i_X11_asserts_X11 hown hK hP 0 rfl rfl 1 (by decide) (hts (.fieldLink RX11 16 "StatementRules2" "told" "LStatementRules2$Told;") k_X11_asserts_fieldLink_RX11_16_SR_told_LSR_Told) (fun _ h9 => h9) rfl dX11_asserts_17 ?_
    refine lv_iload_n hx hb dX11_asserts_20 rfl (lv_at hl 2 rfl) ?_
    refine va_putN (D := (dC, dI)) (ci := 9) (v := .int on) (ty := .boolean) (C := RX10) (T := TX10) (N := 6) hx hb hts i_X11_asserts_X10 tyX10 tyX10_ok nmX10 hown hK hP hD hS 1 rfl rfl 5 (by decide) (va_Nw.use rfl (hZ.1 (.fieldLinkNest RX11 81 "StatementRules2$Told" "assertsOn" "Z" "StatementRules2") (by decide +kernel))) (fun _ h9 => h9) rfl (by decide +kernel) h1 h2 (Nat.le_of_ble_eq_true rfl) dX11_asserts_21 (fun H locs hP hD hS => ?_)
    have hP : va_P (dC, dI) vwCl [(h0, .inr (10, [.ref qt, .ref q10, .ref q0, .ref q7, .ref q3, .int x5, .int x6, .int x7, .int x8])), (q10, .inr (9, [.ref qa, .ref qn, .ref qo, .ref qc, .int g4, .int on]))] H := hP
    have hD : va_D A [(h0, .inr (10, [.ref qt, .ref q10, .ref q0, .ref q7, .ref q3, .int x5, .int x6, .int x7, .int x8])), (q10, .inr (9, [.ref qa, .ref qn, .ref qo, .ref qc, .int g4, .int on]))] := hD
    refine lv_iload_n hx hb dX11_asserts_24 rfl (lv_at hl 0 rfl) ?_
    have hP9 := hP.sub (ws' := [(h0, .inr (10, [.ref qt, .ref q10, .ref q0, .ref q7, .ref q3, .int x5, .int x6, .int x7, .int x8])), (q10, .inr (9, [.ref qa, .ref qn, .ref qo, .ref qc, .int g4, .int on]))]) [0, 1] rfl
    have hD9 := hD.sub (ws' := [(h0, .inr (10, [.ref qt, .ref q10, .ref q0, .ref q7, .ref q3, .int x5, .int x6, .int x7, .int x8])), (q10, .inr (9, [.ref qa, .ref qn, .ref qo, .ref qc, .int g4, .int on]))]) [0, 1] (by decide) rfl
    have hK9 := hK.sub (tys' := []) [] rfl
    exact W.iret (v := 0) hx hb hr (fun t ht hW => ⟨⟨0, (), rfl, trivial, on, by rw [ht]; exact hP9, va_K.moved hW.alike hK9, hD9⟩, hS.F ht⟩) hS.2.2 dX11_asserts_25
  ·
    refine lv_iconst (v := 1) hx hb dX11_asserts_10 (by decide) ?_
    refine lv_goto (tgt := 15) hx hb dX11_asserts_11 (by decide) ?_
    refine lv_istore_n (lv' := [(2, .int 1), (0, .ref h0), (1, .int on)]) hx hb dX11_asserts_15 rfl hl (by decide) rfl (fun ls hl => ?_)
    refine lv_aload_n hx hb dX11_asserts_16 rfl (lv_at hl 1 rfl) ?_
    refine va_get (D := (dC, dI)) (ci := 10) (v := .ref q10) (C := RX11) (T := TX11) (N := 9) hx hb hts i_X11_asserts_X11 hown hK hP 0 rfl rfl 1 (by decide) (hts (.fieldLink RX11 16 "StatementRules2" "told" "LStatementRules2$Told;") k_X11_asserts_fieldLink_RX11_16_SR_told_LSR_Told) (fun _ h9 => h9) rfl dX11_asserts_17 ?_
    refine lv_iload_n hx hb dX11_asserts_20 rfl (lv_at hl 2 rfl) ?_
    refine va_putN (D := (dC, dI)) (ci := 9) (v := .int on) (ty := .boolean) (C := RX10) (T := TX10) (N := 6) hx hb hts i_X11_asserts_X10 tyX10 tyX10_ok nmX10 hown hK hP hD hS 1 rfl rfl 5 (by decide) (va_Nw.use rfl (hZ.1 (.fieldLinkNest RX11 81 "StatementRules2$Told" "assertsOn" "Z" "StatementRules2") (by decide +kernel))) (fun _ h9 => h9) rfl (by decide +kernel) h1 h2 (Nat.le_of_ble_eq_true rfl) dX11_asserts_21 (fun H locs hP hD hS => ?_)
    have hP : va_P (dC, dI) vwCl [(h0, .inr (10, [.ref qt, .ref q10, .ref q0, .ref q7, .ref q3, .int x5, .int x6, .int x7, .int x8])), (q10, .inr (9, [.ref qa, .ref qn, .ref qo, .ref qc, .int g4, .int on]))] H := hP
    have hD : va_D A [(h0, .inr (10, [.ref qt, .ref q10, .ref q0, .ref q7, .ref q3, .int x5, .int x6, .int x7, .int x8])), (q10, .inr (9, [.ref qa, .ref qn, .ref qo, .ref qc, .int g4, .int on]))] := hD
    refine lv_iload_n hx hb dX11_asserts_24 rfl (lv_at hl 0 rfl) ?_
    have hP9 := hP.sub (ws' := [(h0, .inr (10, [.ref qt, .ref q10, .ref q0, .ref q7, .ref q3, .int x5, .int x6, .int x7, .int x8])), (q10, .inr (9, [.ref qa, .ref qn, .ref qo, .ref qc, .int g4, .int on]))]) [0, 1] rfl
    have hD9 := hD.sub (ws' := [(h0, .inr (10, [.ref qt, .ref q10, .ref q0, .ref q7, .ref q3, .int x5, .int x6, .int x7, .int x8])), (q10, .inr (9, [.ref qa, .ref qn, .ref qo, .ref qc, .int g4, .int on]))]) [0, 1] (by decide) rfl
    have hK9 := hK.sub (tys' := []) [] rfl
    exact W.iret (v := 1) hx hb hr (fun t ht hW => ⟨⟨1, (), rfl, trivial, on, by rw [ht]; exact hP9, va_K.moved hW.alike hK9, hD9⟩, hS.F ht⟩) hS.2.2 dX11_asserts_25
theorem k_X5_isLoop_fieldLink_RX5_9_SR_Open_sort_I : Cond.fieldLink RX5 9 "StatementRules2$Open" "sort" "I" ∈ wzX5_isLoop := List.mem_cons_of_mem _ (List.mem_append_left _ (List.mem_of_getElem? (i := 0) rfl))
theorem i_X5_isLoop_X5 : ∀ w ∈ wsX50, w ∈ wzX5_isLoop := fun _ h => List.mem_cons_of_mem _ (List.mem_append_right _ (List.mem_append_left _ (h)))
set_option maxHeartbeats 4000000 in
set_option maxRecDepth 100000 in
theorem j_X5_isLoop_40 {p : Program} {e : Env} {s : State} {m : MethodId} {args : Array Value} {below : List Frame} {meth : Method} {c : Code} {A : Nat → Prop} (l : Launch) (dC : Nat → ClassId) (dI : Nat → Nat → Nat) (h0 : Nat) (o0 : Int32) (o1 : Int32) (o2 : Int32) (o3 : Int32) (o4 : Int64) (o5 : Int32) (o6 : Int32) (o7 : Int32) (o8 : Int32) (o9 : Int32) (o10 : Int32) (o11 : Int32) (o12 : Int32) (o13 : Int32) (o14 : Int32) (o15 : Int32) (o16 : Int32) (hx : p.tables.exec = Jvm.exec) (hb : c.code = cX5_isLoop) (hr : meth.sig.returnType = (some .boolean)) (hml : c.maxLocals = 1) (hown : s.vm.findClass RX5 = some m.cls) (hts : ∀ w ∈ wzX5_isLoop, w.before args s = true) (hlocks : meth.locks = false) (hZ : zAMB s) (hA : ∀ q : Nat, s.heap.size ≤ q → A q) (hK : va_K (dC, dI) vwCl [] s) : ∀  (H : Heap) (locs : List Loc) (ls : Array Slot), va_P (dC, dI) vwCl [(h0, .inr (4, [.int o0, .int o1, .int o2, .int o3, .long o4, .int o5, .int o6, .int o7, .int o8, .int o9, .int o10, .int o11, .int o12, .int o13, .int o14, .int o15, .int o16]))] H → va_D A [(h0, .inr (4, [.int o0, .int o1, .int o2, .int o3, .long o4, .int o5, .int o6, .int o7, .int o8, .int o9, .int o10, .int o11, .int o12, .int o13, .int o14, .int o15, .int o16]))] → va_S A s.heap H locs → lv_has ls 1 [] → W p l e ({ frames := 1, cells := 0, slots := 0, locals := 60 }) s m args below meth c H locs 0 0 (MQ below (va_Qi (fun (r : Int32) (_ : Unit) => r = 0 ∨ r = 1) (fun (_ : Unit) (t : State) => zPost dC dI A [(h0, .inr (4, [.int o0, .int o1, .int o2, .int o3, .long o4, .int o5, .int o6, .int o7, .int o8, .int o9, .int o10, .int o11, .int o12, .int o13, .int o14, .int o15, .int o16]))] [] t) A) args s 0 0 A) (F0 m 40 ls []) := by
  intro  H locs ls hP hD hS hl
  refine lv_iconst (v := 1) hx hb dX5_isLoop_40 (by decide) ?_
  refine lv_goto (tgt := 45) hx hb dX5_isLoop_41 (by decide) ?_
  have hP9 := hP.sub (ws' := [(h0, .inr (4, [.int o0, .int o1, .int o2, .int o3, .long o4, .int o5, .int o6, .int o7, .int o8, .int o9, .int o10, .int o11, .int o12, .int o13, .int o14, .int o15, .int o16]))]) [0] rfl
  have hD9 := hD.sub (ws' := [(h0, .inr (4, [.int o0, .int o1, .int o2, .int o3, .long o4, .int o5, .int o6, .int o7, .int o8, .int o9, .int o10, .int o11, .int o12, .int o13, .int o14, .int o15, .int o16]))]) [0] (by decide) rfl
  have hK9 := hK.sub (tys' := []) [] rfl
  exact W.zret (v := 1) hx hb hr (rfl) (fun t ht hW => ⟨⟨1, (), rfl, (Or.inr rfl), by rw [ht]; exact hP9, va_K.moved hW.alike hK9, hD9⟩, hS.F ht⟩) hS.2.2 dX5_isLoop_45
set_option maxHeartbeats 4000000 in
set_option maxRecDepth 100000 in
theorem c_X5_isLoop (l : Launch) (dC : Nat → ClassId) (dI : Nat → Nat → Nat) (sz : Nat) (h0 : Nat) (o0 : Int32) (o1 : Int32) (o2 : Int32) (o3 : Int32) (o4 : Int64) (o5 : Int32) (o6 : Int32) (o7 : Int32) (o8 : Int32) (o9 : Int32) (o10 : Int32) (o11 : Int32) (o12 : Int32) (o13 : Int32) (o14 : Int32) (o15 : Int32) (o16 : Int32) : Met l yX5_isLoop wzX5_isLoop ({ frames := 1, cells := 0, slots := 0, locals := 60 }) (va_Pc [.ref h0] (zPre dC dI sz [(h0, .inr (4, [.int o0, .int o1, .int o2, .int o3, .long o4, .int o5, .int o6, .int o7, .int o8, .int o9, .int o10, .int o11, .int o12, .int o13, .int o14, .int o15, .int o16]))] [])) (va_Qi (fun (r : Int32) (_ : Unit) => r = 0 ∨ r = 1) (fun (_ : Unit) (t : State) => zPost dC dI (va_A [(h0, .inr (4, [.int o0, .int o1, .int o2, .int o3, .long o4, .int o5, .int o6, .int o7, .int o8, .int o9, .int o10, .int o11, .int o12, .int o13, .int o14, .int o15, .int o16]))] sz) [(h0, .inr (4, [.int o0, .int o1, .int o2, .int o3, .long o4, .int o5, .int o6, .int o7, .int o8, .int o9, .int o10, .int o11, .int o12, .int o13, .int o14, .int o15, .int o16]))] [] t) (va_A [(h0, .inr (4, [.int o0, .int o1, .int o2, .int o3, .long o4, .int o5, .int o6, .int o7, .int o8, .int o9, .int o10, .int o11, .int o12, .int o13, .int o14, .int o15, .int o16]))] sz)) 0 0 (va_A [(h0, .inr (4, [.int o0, .int o1, .int o2, .int o3, .long o4, .int o5, .int o6, .int o7, .int o8, .int o9, .int o10, .int o11, .int o12, .int o13, .int o14, .int o15, .int o16]))] sz) := by
  refine Met.ofW (cc := cX5_isLoop) (maxL := 1) (ret := (some .boolean)) (by decide) rfl ?_
  intro p e s m args below meth c s₁ B hml hv
  obtain ⟨rfl, hsz, hZ, hP, hK, hD0⟩ := hv
  have hx := B.exec
  have hb := B.bytes
  have hr := B.returns
  have hts := atoms_spec (ws := wzX5_isLoop) B.pre
  have hown : s.vm.findClass RX5 = some m.cls := findClass_of_methodNamed B.named
  have hlocks := B.notSynchronized
  subst hsz
  have hD := hD0.self (sz := s.heap.size)
  generalize hAe : va_A [(h0, .inr (4, [.int o0, .int o1, .int o2, .int o3, .long o4, .int o5, .int o6, .int o7, .int o8, .int o9, .int o10, .int o11, .int o12, .int o13, .int o14, .int o15, .int o16]))] s.heap.size = A at hD ⊢
  have hA : ∀ q : Nat, s.heap.size ≤ q → A q := fun q h => by rw [← hAe]; exact Or.inr h
  have hS : va_S A s.heap s.heap [] := va_S.rf
  have hP : va_P (dC, dI) vwCl [(h0, .inr (4, [.int o0, .int o1, .int o2, .int o3, .long o4, .int o5, .int o6, .int o7, .int o8, .int o9, .int o10, .int o11, .int o12, .int o13, .int o14, .int o15, .int o16]))] s.heap := hP
  have hl := lv_entry ([.ref h0]) (n := 1) (Nat.le_of_ble_eq_true rfl)
  rw [lg_entry_eq]
  generalize (lg_sl ([.ref h0]) ++ List.replicate (1 - (lg_sl ([.ref h0])).length) Slot.unset).toArray = ls at hl ⊢
  have hl : lv_has ls 1 [(0, .ref h0)] := hl
  refine lv_aload_n hx hb dX5_isLoop_0 rfl (lv_at hl 0 rfl) ?_
  refine va_get (D := (dC, dI)) (ci := 4) (v := .int o0) (C := RX5) (T := TX5) (N := 17) hx hb hts i_X5_isLoop_X5 hown hK hP 0 rfl rfl 0 (by decide) (hts (.fieldLink RX5 9 "StatementRules2$Open" "sort" "I") k_X5_isLoop_fieldLink_RX5_9_SR_Open_sort_I) (fun _ h9 => h9) rfl dX5_isLoop_1 ?_
  refine lv_sipush (v := 205) hx hb dX5_isLoop_4 (by decide) ?_
  refine lv_icmp_eq (tgt := 40) hx hb dX5_isLoop_7 (by decide) (fun c1 => ?_) (fun c1 => ?_)
  ·
    exact j_X5_isLoop_40 l dC dI h0  o0 o1 o2 o3 o4 o5 o6 o7 o8 o9 o10 o11 o12 o13 o14 o15 o16 hx hb hr hml hown hts hlocks hZ hA hK  _ _ _ hP hD hS (lv_sub hl [] rfl)
  ·
    refine lv_aload_n hx hb dX5_isLoop_10 rfl (lv_at hl 0 rfl) ?_
    refine va_get (D := (dC, dI)) (ci := 4) (v := .int o0) (C := RX5) (T := TX5) (N := 17) hx hb hts i_X5_isLoop_X5 hown hK hP 0 rfl rfl 0 (by decide) (hts (.fieldLink RX5 9 "StatementRules2$Open" "sort" "I") k_X5_isLoop_fieldLink_RX5_9_SR_Open_sort_I) (fun _ h9 => h9) rfl dX5_isLoop_11 ?_
    refine lv_sipush (v := 206) hx hb dX5_isLoop_14 (by decide) ?_
    refine lv_icmp_eq (tgt := 40) hx hb dX5_isLoop_17 (by decide) (fun c2 => ?_) (fun c2 => ?_)
    ·
      exact j_X5_isLoop_40 l dC dI h0  o0 o1 o2 o3 o4 o5 o6 o7 o8 o9 o10 o11 o12 o13 o14 o15 o16 hx hb hr hml hown hts hlocks hZ hA hK  _ _ _ hP hD hS (lv_sub hl [] rfl)
    ·
      refine lv_aload_n hx hb dX5_isLoop_20 rfl (lv_at hl 0 rfl) ?_
      refine va_get (D := (dC, dI)) (ci := 4) (v := .int o0) (C := RX5) (T := TX5) (N := 17) hx hb hts i_X5_isLoop_X5 hown hK hP 0 rfl rfl 0 (by decide) (hts (.fieldLink RX5 9 "StatementRules2$Open" "sort" "I") k_X5_isLoop_fieldLink_RX5_9_SR_Open_sort_I) (fun _ h9 => h9) rfl dX5_isLoop_21 ?_
      refine lv_sipush (v := 207) hx hb dX5_isLoop_24 (by decide) ?_
      refine lv_icmp_eq (tgt := 40) hx hb dX5_isLoop_27 (by decide) (fun c3 => ?_) (fun c3 => ?_)
      ·
        exact j_X5_isLoop_40 l dC dI h0  o0 o1 o2 o3 o4 o5 o6 o7 o8 o9 o10 o11 o12 o13 o14 o15 o16 hx hb hr hml hown hts hlocks hZ hA hK  _ _ _ hP hD hS (lv_sub hl [] rfl)
      ·
        refine lv_aload_n hx hb dX5_isLoop_30 rfl (lv_at hl 0 rfl) ?_
        refine va_get (D := (dC, dI)) (ci := 4) (v := .int o0) (C := RX5) (T := TX5) (N := 17) hx hb hts i_X5_isLoop_X5 hown hK hP 0 rfl rfl 0 (by decide) (hts (.fieldLink RX5 9 "StatementRules2$Open" "sort" "I") k_X5_isLoop_fieldLink_RX5_9_SR_Open_sort_I) (fun _ h9 => h9) rfl dX5_isLoop_31 ?_
        refine lv_sipush (v := 304) hx hb dX5_isLoop_34 (by decide) ?_
        refine lv_icmp_ne (tgt := 44) hx hb dX5_isLoop_37 (by decide) (fun c4 => ?_) (fun c4 => ?_)
        ·
          refine lv_iconst (v := 0) hx hb dX5_isLoop_44 (by decide) ?_
          have hP9 := hP.sub (ws' := [(h0, .inr (4, [.int o0, .int o1, .int o2, .int o3, .long o4, .int o5, .int o6, .int o7, .int o8, .int o9, .int o10, .int o11, .int o12, .int o13, .int o14, .int o15, .int o16]))]) [0] rfl
          have hD9 := hD.sub (ws' := [(h0, .inr (4, [.int o0, .int o1, .int o2, .int o3, .long o4, .int o5, .int o6, .int o7, .int o8, .int o9, .int o10, .int o11, .int o12, .int o13, .int o14, .int o15, .int o16]))]) [0] (by decide) rfl
          have hK9 := hK.sub (tys' := []) [] rfl
          exact W.zret (v := 0) hx hb hr (rfl) (fun t ht hW => ⟨⟨0, (), rfl, (Or.inl rfl), by rw [ht]; exact hP9, va_K.moved hW.alike hK9, hD9⟩, hS.F ht⟩) hS.2.2 dX5_isLoop_45
        ·
          exact j_X5_isLoop_40 l dC dI h0  o0 o1 o2 o3 o4 o5 o6 o7 o8 o9 o10 o11 o12 o13 o14 o15 o16 hx hb hr hml hown hts hlocks hZ hA hK  _ _ _ hP hD hS (lv_sub hl [] rfl)
theorem k_X5_hasOneBody_fieldLink_RX5_9_SR_Open_sort_I : Cond.fieldLink RX5 9 "StatementRules2$Open" "sort" "I" ∈ wzX5_hasOneBody := List.mem_cons_of_mem _ (List.mem_append_left _ (List.mem_of_getElem? (i := 0) rfl))
theorem i_X5_hasOneBody_X5 : ∀ w ∈ wsX50, w ∈ wzX5_hasOneBody := fun _ h => List.mem_cons_of_mem _ (List.mem_append_right _ (List.mem_append_left _ (h)))
set_option maxHeartbeats 4000000 in
set_option maxRecDepth 100000 in
theorem j_X5_hasOneBody_37 {p : Program} {e : Env} {s : State} {m : MethodId} {args : Array Value} {below : List Frame} {meth : Method} {c : Code} {A : Nat → Prop} (l : Launch) (dC : Nat → ClassId) (dI : Nat → Nat → Nat) (h0 : Nat) (o0 : Int32) (o1 : Int32) (o2 : Int32) (o3 : Int32) (o4 : Int64) (o5 : Int32) (o6 : Int32) (o7 : Int32) (o8 : Int32) (o9 : Int32) (o10 : Int32) (o11 : Int32) (o12 : Int32) (o13 : Int32) (o14 : Int32) (o15 : Int32) (o16 : Int32) (hx : p.tables.exec = Jvm.exec) (hb : c.code = cX5_hasOneBody) (hr : meth.sig.returnType = (some .boolean)) (hml : c.maxLocals = 1) (hown : s.vm.findClass RX5 = some m.cls) (hts : ∀ w ∈ wzX5_hasOneBody, w.before args s = true) (hlocks : meth.locks = false) (hZ : zAMB s) (hA : ∀ q : Nat, s.heap.size ≤ q → A q) (hK : va_K (dC, dI) vwCl [] s) : ∀  (H : Heap) (locs : List Loc) (ls : Array Slot), va_P (dC, dI) vwCl [(h0, .inr (4, [.int o0, .int o1, .int o2, .int o3, .long o4, .int o5, .int o6, .int o7, .int o8, .int o9, .int o10, .int o11, .int o12, .int o13, .int o14, .int o15, .int o16]))] H → va_D A [(h0, .inr (4, [.int o0, .int o1, .int o2, .int o3, .long o4, .int o5, .int o6, .int o7, .int o8, .int o9, .int o10, .int o11, .int o12, .int o13, .int o14, .int o15, .int o16]))] → va_S A s.heap H locs → lv_has ls 1 [] → W p l e ({ frames := 2, cells := 0, slots := 0, locals := 120 }) s m args below meth c H locs 0 0 (MQ below (va_Qi (fun (r : Int32) (_ : Unit) => r = 0 ∨ r = 1) (fun (_ : Unit) (t : State) => zPost dC dI A [(h0, .inr (4, [.int o0, .int o1, .int o2, .int o3, .long o4, .int o5, .int o6, .int o7, .int o8, .int o9, .int o10, .int o11, .int o12, .int o13, .int o14, .int o15, .int o16]))] [] t) A) args s 0 0 A) (F0 m 37 ls []) := by
  intro  H locs ls hP hD hS hl
  refine lv_iconst (v := 1) hx hb dX5_hasOneBody_37 (by decide) ?_
  refine lv_goto (tgt := 42) hx hb dX5_hasOneBody_38 (by decide) ?_
  have hP9 := hP.sub (ws' := [(h0, .inr (4, [.int o0, .int o1, .int o2, .int o3, .long o4, .int o5, .int o6, .int o7, .int o8, .int o9, .int o10, .int o11, .int o12, .int o13, .int o14, .int o15, .int o16]))]) [0] rfl
  have hD9 := hD.sub (ws' := [(h0, .inr (4, [.int o0, .int o1, .int o2, .int o3, .long o4, .int o5, .int o6, .int o7, .int o8, .int o9, .int o10, .int o11, .int o12, .int o13, .int o14, .int o15, .int o16]))]) [0] (by decide) rfl
  have hK9 := hK.sub (tys' := []) [] rfl
  exact W.zret (v := 1) hx hb hr (rfl) (fun t ht hW => ⟨⟨1, (), rfl, (Or.inr rfl), by rw [ht]; exact hP9, va_K.moved hW.alike hK9, hD9⟩, hS.F ht⟩) hS.2.2 dX5_hasOneBody_42
set_option maxHeartbeats 4000000 in
set_option maxRecDepth 100000 in
theorem c_X5_hasOneBody (l : Launch) (dC : Nat → ClassId) (dI : Nat → Nat → Nat) (sz : Nat) (h0 : Nat) (o0 : Int32) (o1 : Int32) (o2 : Int32) (o3 : Int32) (o4 : Int64) (o5 : Int32) (o6 : Int32) (o7 : Int32) (o8 : Int32) (o9 : Int32) (o10 : Int32) (o11 : Int32) (o12 : Int32) (o13 : Int32) (o14 : Int32) (o15 : Int32) (o16 : Int32) : Met l yX5_hasOneBody wzX5_hasOneBody ({ frames := 2, cells := 0, slots := 0, locals := 120 }) (va_Pc [.ref h0] (zPre dC dI sz [(h0, .inr (4, [.int o0, .int o1, .int o2, .int o3, .long o4, .int o5, .int o6, .int o7, .int o8, .int o9, .int o10, .int o11, .int o12, .int o13, .int o14, .int o15, .int o16]))] [])) (va_Qi (fun (r : Int32) (_ : Unit) => r = 0 ∨ r = 1) (fun (_ : Unit) (t : State) => zPost dC dI (va_A [(h0, .inr (4, [.int o0, .int o1, .int o2, .int o3, .long o4, .int o5, .int o6, .int o7, .int o8, .int o9, .int o10, .int o11, .int o12, .int o13, .int o14, .int o15, .int o16]))] sz) [(h0, .inr (4, [.int o0, .int o1, .int o2, .int o3, .long o4, .int o5, .int o6, .int o7, .int o8, .int o9, .int o10, .int o11, .int o12, .int o13, .int o14, .int o15, .int o16]))] [] t) (va_A [(h0, .inr (4, [.int o0, .int o1, .int o2, .int o3, .long o4, .int o5, .int o6, .int o7, .int o8, .int o9, .int o10, .int o11, .int o12, .int o13, .int o14, .int o15, .int o16]))] sz)) 0 0 (va_A [(h0, .inr (4, [.int o0, .int o1, .int o2, .int o3, .long o4, .int o5, .int o6, .int o7, .int o8, .int o9, .int o10, .int o11, .int o12, .int o13, .int o14, .int o15, .int o16]))] sz) := by
  refine Met.ofW (cc := cX5_hasOneBody) (maxL := 1) (ret := (some .boolean)) (by decide) rfl ?_
  intro p e s m args below meth c s₁ B hml hv
  obtain ⟨rfl, hsz, hZ, hP, hK, hD0⟩ := hv
  have hx := B.exec
  have hb := B.bytes
  have hr := B.returns
  have hts := atoms_spec (ws := wzX5_hasOneBody) B.pre
  have hown : s.vm.findClass RX5 = some m.cls := findClass_of_methodNamed B.named
  have hlocks := B.notSynchronized
  subst hsz
  have hD := hD0.self (sz := s.heap.size)
  generalize hAe : va_A [(h0, .inr (4, [.int o0, .int o1, .int o2, .int o3, .long o4, .int o5, .int o6, .int o7, .int o8, .int o9, .int o10, .int o11, .int o12, .int o13, .int o14, .int o15, .int o16]))] s.heap.size = A at hD ⊢
  have hA : ∀ q : Nat, s.heap.size ≤ q → A q := fun q h => by rw [← hAe]; exact Or.inr h
  have hS : va_S A s.heap s.heap [] := va_S.rf
  have hP : va_P (dC, dI) vwCl [(h0, .inr (4, [.int o0, .int o1, .int o2, .int o3, .long o4, .int o5, .int o6, .int o7, .int o8, .int o9, .int o10, .int o11, .int o12, .int o13, .int o14, .int o15, .int o16]))] s.heap := hP
  have hl := lv_entry ([.ref h0]) (n := 1) (Nat.le_of_ble_eq_true rfl)
  rw [lg_entry_eq]
  generalize (lg_sl ([.ref h0]) ++ List.replicate (1 - (lg_sl ([.ref h0])).length) Slot.unset).toArray = ls at hl ⊢
  have hl : lv_has ls 1 [(0, .ref h0)] := hl
  refine lv_aload_n hx hb dX5_hasOneBody_0 rfl (lv_at hl 0 rfl) ?_
  have hPc := hP.sub (ws' := [(h0, .inr (4, [.int o0, .int o1, .int o2, .int o3, .long o4, .int o5, .int o6, .int o7, .int o8, .int o9, .int o10, .int o11, .int o12, .int o13, .int o14, .int o15, .int o16]))]) [0] rfl
  have hDc := hD.sub (ws' := [(h0, .inr (4, [.int o0, .int o1, .int o2, .int o3, .long o4, .int o5, .int o6, .int o7, .int o8, .int o9, .int o10, .int o11, .int o12, .int o13, .int o14, .int o15, .int o16]))]) [0] (by decide) rfl
  have hKc := hK.sub (tys' := []) [] rfl
  have hFc := va_free (wc := [(h0, .inr (4, [.int o0, .int o1, .int o2, .int o3, .long o4, .int o5, .int o6, .int o7, .int o8, .int o9, .int o10, .int o11, .int o12, .int o13, .int o14, .int o15, .int o16]))]) hD hS hA [0] rfl
  refine va_calli (va_runV (As := []) (rest := []) ⟨hx, hb, hml, hown, hts⟩ (c_X5_isLoop l dC dI _ h0 o0 o1 o2 o3 o4 o5 o6 o7 o8 o9 o10 o11 o12 o13 o14 o15 o16) (cwV 0 hts hX5_hasOneBody_X5_isLoop_v15 rfl rfl rfl (by decide +kernel) ⟨Nat.le_of_ble_eq_true rfl, Nat.le_of_ble_eq_true rfl⟩) ⟨zPre.blind, va_recv hKc hPc (ci := 4) (q0 := 0) rfl rfl, zPre.go hZ hPc hKc hDc⟩ rfl rfl hl.1 rfl (lv_room (Nat.le_of_ble_eq_true rfl)) dX5_hasOneBody_1 ⟨Nat.le_of_ble_eq_true rfl, Nat.le_of_ble_eq_true rfl⟩) hS (fun q _ h => hFc q h) hFc (fun r1 u9 t9 H1 locs ht hvm hw hB hz1 hk1 hS => ?_)
  obtain ⟨hP1, hK1, hD1⟩ := hB
  rw [ht] at hP1
  have hK1 := va_K.moved hvm.symm hK1
  obtain ⟨hP, hD⟩ := va_join (wr := []) (w1 := [(h0, .inr (4, [.int o0, .int o1, .int o2, .int o3, .long o4, .int o5, .int o6, .int o7, .int o8, .int o9, .int o10, .int o11, .int o12, .int o13, .int o14, .int o15, .int o16]))]) hP hD [0] [] rfl rfl (by decide) (by decide) hk1 hFc hP1 hD1
  have hK := hK.app hK1
  generalize H1 = H at hP hS ⊢
  have hP : va_P (dC, dI) vwCl [(h0, .inr (4, [.int o0, .int o1, .int o2, .int o3, .long o4, .int o5, .int o6, .int o7, .int o8, .int o9, .int o10, .int o11, .int o12, .int o13, .int o14, .int o15, .int o16]))] H := hP
  have hD : va_D A [(h0, .inr (4, [.int o0, .int o1, .int o2, .int o3, .long o4, .int o5, .int o6, .int o7, .int o8, .int o9, .int o10, .int o11, .int o12, .int o13, .int o14, .int o15, .int o16]))] := hD
  have hK : va_K (dC, dI) vwCl [] s := hK
  refine lv_if_ne (tgt := 37) hx hb dX5_hasOneBody_4 (by decide) (fun c2 => ?_) (fun c2 => ?_)
  ·
    exact j_X5_hasOneBody_37 l dC dI h0  o0 o1 o2 o3 o4 o5 o6 o7 o8 o9 o10 o11 o12 o13 o14 o15 o16 hx hb hr hml hown hts hlocks hZ hA hK  _ _ _ hP hD hS (lv_sub hl [] rfl)
  ·
    refine lv_aload_n hx hb dX5_hasOneBody_7 rfl (lv_at hl 0 rfl) ?_
    refine va_get (D := (dC, dI)) (ci := 4) (v := .int o0) (C := RX5) (T := TX5) (N := 17) hx hb hts i_X5_hasOneBody_X5 hown hK hP 0 rfl rfl 0 (by decide) (hts (.fieldLink RX5 9 "StatementRules2$Open" "sort" "I") k_X5_hasOneBody_fieldLink_RX5_9_SR_Open_sort_I) (fun _ h9 => h9) rfl dX5_hasOneBody_8 ?_
    refine lv_sipush (v := 303) hx hb dX5_hasOneBody_11 (by decide) ?_
    refine lv_icmp_eq (tgt := 37) hx hb dX5_hasOneBody_14 (by decide) (fun c3 => ?_) (fun c3 => ?_)
    ·
      exact j_X5_hasOneBody_37 l dC dI h0  o0 o1 o2 o3 o4 o5 o6 o7 o8 o9 o10 o11 o12 o13 o14 o15 o16 hx hb hr hml hown hts hlocks hZ hA hK  _ _ _ hP hD hS (lv_sub hl [] rfl)
    ·
      refine lv_aload_n hx hb dX5_hasOneBody_17 rfl (lv_at hl 0 rfl) ?_
      refine va_get (D := (dC, dI)) (ci := 4) (v := .int o0) (C := RX5) (T := TX5) (N := 17) hx hb hts i_X5_hasOneBody_X5 hown hK hP 0 rfl rfl 0 (by decide) (hts (.fieldLink RX5 9 "StatementRules2$Open" "sort" "I") k_X5_hasOneBody_fieldLink_RX5_9_SR_Open_sort_I) (fun _ h9 => h9) rfl dX5_hasOneBody_18 ?_
      refine lv_sipush (v := 203) hx hb dX5_hasOneBody_21 (by decide) ?_
      refine lv_icmp_eq (tgt := 37) hx hb dX5_hasOneBody_24 (by decide) (fun c4 => ?_) (fun c4 => ?_)
      ·
        exact j_X5_hasOneBody_37 l dC dI h0  o0 o1 o2 o3 o4 o5 o6 o7 o8 o9 o10 o11 o12 o13 o14 o15 o16 hx hb hr hml hown hts hlocks hZ hA hK  _ _ _ hP hD hS (lv_sub hl [] rfl)
      ·
        refine lv_aload_n hx hb dX5_hasOneBody_27 rfl (lv_at hl 0 rfl) ?_
        refine va_get (D := (dC, dI)) (ci := 4) (v := .int o0) (C := RX5) (T := TX5) (N := 17) hx hb hts i_X5_hasOneBody_X5 hown hK hP 0 rfl rfl 0 (by decide) (hts (.fieldLink RX5 9 "StatementRules2$Open" "sort" "I") k_X5_hasOneBody_fieldLink_RX5_9_SR_Open_sort_I) (fun _ h9 => h9) rfl dX5_hasOneBody_28 ?_
        refine lv_sipush (v := 204) hx hb dX5_hasOneBody_31 (by decide) ?_
        refine lv_icmp_ne (tgt := 41) hx hb dX5_hasOneBody_34 (by decide) (fun c5 => ?_) (fun c5 => ?_)
        ·
          refine lv_iconst (v := 0) hx hb dX5_hasOneBody_41 (by decide) ?_
          have hP9 := hP.sub (ws' := [(h0, .inr (4, [.int o0, .int o1, .int o2, .int o3, .long o4, .int o5, .int o6, .int o7, .int o8, .int o9, .int o10, .int o11, .int o12, .int o13, .int o14, .int o15, .int o16]))]) [0] rfl
          have hD9 := hD.sub (ws' := [(h0, .inr (4, [.int o0, .int o1, .int o2, .int o3, .long o4, .int o5, .int o6, .int o7, .int o8, .int o9, .int o10, .int o11, .int o12, .int o13, .int o14, .int o15, .int o16]))]) [0] (by decide) rfl
          have hK9 := hK.sub (tys' := []) [] rfl
          exact W.zret (v := 0) hx hb hr (rfl) (fun t ht hW => ⟨⟨0, (), rfl, (Or.inl rfl), by rw [ht]; exact hP9, va_K.moved hW.alike hK9, hD9⟩, hS.F ht⟩) hS.2.2 dX5_hasOneBody_42
        ·
          exact j_X5_hasOneBody_37 l dC dI h0  o0 o1 o2 o3 o4 o5 o6 o7 o8 o9 o10 o11 o12 o13 o14 o15 o16 hx hb hr hml hown hts hlocks hZ hA hK  _ _ _ hP hD hS (lv_sub hl [] rfl)
