theorem k_X0_clear_fieldLink_RX0_27_SR_Code_size_I : Cond.fieldLink RX0 27 "StatementRules2$Code" "size" "I" ∈ wzX0_clear := List.mem_cons_of_mem _ (List.mem_append_left _ (List.mem_of_getElem? (i := 0) rfl))
theorem i_X0_clear_X0 : ∀ w ∈ wsX00, w ∈ wzX0_clear := fun _ h => List.mem_cons_of_mem _ (List.mem_append_right _ (List.mem_append_left _ (h)))
theorem k_X0_clear_fieldLink_RX0_31_SR_Code_targetCount_I : Cond.fieldLink RX0 31 "StatementRules2$Code" "targetCount" "I" ∈ wzX0_clear := List.mem_cons_of_mem _ (List.mem_append_left _ (List.mem_of_getElem? (i := 1) rfl))
theorem k_X0_clear_fieldLink_RX0_34_SR_Code_caseCount_I : Cond.fieldLink RX0 34 "StatementRules2$Code" "caseCount" "I" ∈ wzX0_clear := List.mem_cons_of_mem _ (List.mem_append_left _ (List.mem_of_getElem? (i := 2) rfl))
theorem k_X0_clear_fieldLink_RX0_37_SR_Code_cellCount_I : Cond.fieldLink RX0 37 "StatementRules2$Code" "cellCount" "I" ∈ wzX0_clear := List.mem_cons_of_mem _ (List.mem_append_left _ (List.mem_of_getElem? (i := 3) rfl))
theorem k_X0_clear_fieldLink_RX0_40_SR_Code_statements_I : Cond.fieldLink RX0 40 "StatementRules2$Code" "statements" "I" ∈ wzX0_clear := List.mem_cons_of_mem _ (List.mem_append_left _ (List.mem_of_getElem? (i := 4) rfl))
theorem k_X0_clear_fieldLink_RX0_43_SR_Code_toldNames_I : Cond.fieldLink RX0 43 "StatementRules2$Code" "toldNames" "I" ∈ wzX0_clear := List.mem_cons_of_mem _ (List.mem_append_left _ (List.mem_of_getElem? (i := 5) rfl))
theorem k_X0_clear_fieldLink_RX0_46_SR_Code_jumps_I : Cond.fieldLink RX0 46 "StatementRules2$Code" "jumps" "I" ∈ wzX0_clear := List.mem_cons_of_mem _ (List.mem_append_left _ (List.mem_of_getElem? (i := 6) rfl))
theorem k_X0_clear_fieldLink_RX0_49_SR_Code_endReached_Z : Cond.fieldLink RX0 49 "StatementRules2$Code" "endReached" "Z" ∈ wzX0_clear := List.mem_cons_of_mem _ (List.mem_append_left _ (List.mem_of_getElem? (i := 7) rfl))
set_option maxHeartbeats 4000000 in
set_option maxRecDepth 100000 in
theorem c_X0_clear (l : Launch) (dC : Nat → ClassId) (dI : Nat → Nat → Nat) (Q : CQ) (N : Nat) (σ : CS) (R : Unit × CS) (hf : f_X0_clear N σ = some R) : Met l yX0_clear wzX0_clear ({ frames := 1, cells := CS.hs R.2 - CS.hs σ, slots := 17 * (CS.hs R.2 - CS.hs σ), locals := 60 * 1 }) (va_Pc [.ref (Q.o 2)] (zPre dC dI (CS.hs σ) (cW Q σ) (cT Q))) (va_Qv (fun (_ : Unit) => True) (fun (_ : Unit) (t : State) => zPost dC dI (va_A (cW Q σ) (CS.hs σ)) (cW Q R.2) (cT Q) t ∧ t.heap.size = CS.hs R.2) (va_A (cW Q σ) (CS.hs σ))) (CS.hs R.2 - CS.hs σ) (17 * (CS.hs R.2 - CS.hs σ)) (va_A (cW Q σ) (CS.hs σ)) := by
  refine Met.ofW (cc := cX0_clear) (maxL := 1) (ret := none) (by decide) rfl ?_
  intro p e s m args below meth c s₁ B hml hv
  obtain ⟨rfl, hsz, hZ, hP, hK, hD0⟩ := hv
  have hx := B.exec
  have hb := B.bytes
  have hr := B.returns
  have hts := atoms_spec (ws := wzX0_clear) B.pre
  have hown : s.vm.findClass RX0 = some m.cls := findClass_of_methodNamed B.named
  have hlocks := B.notSynchronized
  have hD := hD0.self (sz := CS.hs σ)
  generalize hAe : va_A (cW Q σ) (CS.hs σ) = A at hD ⊢
  have hA : ∀ q : Nat, s.heap.size ≤ q → A q := fun q h => by rw [← hAe]; exact Or.inr (hsz ▸ h)
  have hC : CP dC dI Q A s.heap σ s.heap [] := ⟨hP, hD, va_S.rf, hsz⟩
  have h0 : CS.hs σ ≤ CS.hs σ := Nat.le_refl _
  have hl := lv_entry ([.ref (Q.o 2)]) (n := 1) (Nat.le_of_ble_eq_true rfl)
  rw [lg_entry_eq]
  generalize (lg_sl ([.ref (Q.o 2)]) ++ List.replicate (1 - (lg_sl ([.ref (Q.o 2)])).length) Slot.unset).toArray = ls at hl ⊢
  have hl : lv_has ls 1 [(0, .ref (Q.o 2))] := hl
  unfold f_X0_clear at hf
  refine W.widen (k := CS.hs σ - CS.hs σ) (n := 17 * (CS.hs σ - CS.hs σ)) (Nat.zero_le _) (Nat.zero_le _) ?_
  refine lv_aload_n hx hb dX0_clear_0 rfl (lv_at hl 0 rfl) ?_
  refine lv_iconst (v := 0) hx hb dX0_clear_1 (by decide) ?_
  refine cP_20 (v := 0) hx hb hts i_X0_clear_X0 hown hK hC (hts (.fieldLink RX0 27 "StatementRules2$Code" "size" "I") k_X0_clear_fieldLink_RX0_27_SR_Code_size_I) (fun _ q9 => q9) dX0_clear_2 (fun H locs hC => ?_)
  refine lv_aload_n hx hb dX0_clear_5 rfl (lv_at hl 0 rfl) ?_
  refine lv_iconst (v := 0) hx hb dX0_clear_6 (by decide) ?_
  refine cP_21 (v := 0) hx hb hts i_X0_clear_X0 hown hK hC (hts (.fieldLink RX0 31 "StatementRules2$Code" "targetCount" "I") k_X0_clear_fieldLink_RX0_31_SR_Code_targetCount_I) (fun _ q9 => q9) dX0_clear_7 (fun H locs hC => ?_)
  refine lv_aload_n hx hb dX0_clear_10 rfl (lv_at hl 0 rfl) ?_
  refine lv_iconst (v := 0) hx hb dX0_clear_11 (by decide) ?_
  refine cP_22 (v := 0) hx hb hts i_X0_clear_X0 hown hK hC (hts (.fieldLink RX0 34 "StatementRules2$Code" "caseCount" "I") k_X0_clear_fieldLink_RX0_34_SR_Code_caseCount_I) (fun _ q9 => q9) dX0_clear_12 (fun H locs hC => ?_)
  refine lv_aload_n hx hb dX0_clear_15 rfl (lv_at hl 0 rfl) ?_
  refine lv_iconst (v := 0) hx hb dX0_clear_16 (by decide) ?_
  refine cP_23 (v := 0) hx hb hts i_X0_clear_X0 hown hK hC (hts (.fieldLink RX0 37 "StatementRules2$Code" "cellCount" "I") k_X0_clear_fieldLink_RX0_37_SR_Code_cellCount_I) (fun _ q9 => q9) dX0_clear_17 (fun H locs hC => ?_)
  refine lv_aload_n hx hb dX0_clear_20 rfl (lv_at hl 0 rfl) ?_
  refine lv_iconst (v := 0) hx hb dX0_clear_21 (by decide) ?_
  refine cP_24 (v := 0) hx hb hts i_X0_clear_X0 hown hK hC (hts (.fieldLink RX0 40 "StatementRules2$Code" "statements" "I") k_X0_clear_fieldLink_RX0_40_SR_Code_statements_I) (fun _ q9 => q9) dX0_clear_22 (fun H locs hC => ?_)
  refine lv_aload_n hx hb dX0_clear_25 rfl (lv_at hl 0 rfl) ?_
  refine lv_iconst (v := 0) hx hb dX0_clear_26 (by decide) ?_
  refine cP_25 (v := 0) hx hb hts i_X0_clear_X0 hown hK hC (hts (.fieldLink RX0 43 "StatementRules2$Code" "toldNames" "I") k_X0_clear_fieldLink_RX0_43_SR_Code_toldNames_I) (fun _ q9 => q9) dX0_clear_27 (fun H locs hC => ?_)
  refine lv_aload_n hx hb dX0_clear_30 rfl (lv_at hl 0 rfl) ?_
  refine lv_iconst (v := 0) hx hb dX0_clear_31 (by decide) ?_
  refine cP_26 (v := 0) hx hb hts i_X0_clear_X0 hown hK hC (hts (.fieldLink RX0 46 "StatementRules2$Code" "jumps" "I") k_X0_clear_fieldLink_RX0_46_SR_Code_jumps_I) (fun _ q9 => q9) dX0_clear_32 (fun H locs hC => ?_)
  refine lv_aload_n hx hb dX0_clear_35 rfl (lv_at hl 0 rfl) ?_
  refine lv_iconst (v := 0) hx hb dX0_clear_36 (by decide) ?_
  refine cP_27 (v := 0) hx hb hts i_X0_clear_X0 hown hK hC (hts (.fieldLink RX0 49 "StatementRules2$Code" "endReached" "Z") k_X0_clear_fieldLink_RX0_49_SR_Code_endReached_Z) (fun _ q9 => q9) dX0_clear_37 (by decide) (fun H locs hC => ?_)
  obtain rfl := Option.some.inj hf
  exact W.vret hx hb hr (fun t ht hW => ⟨⟨(), rfl, trivial, ⟨by rw [ht]; exact hC.1, va_K.moved hW.alike hK, hC.2.1⟩, by rw [ht]; exact hC.2.2.2⟩, hC.2.2.1.F ht⟩) hC.2.2.1.2.2 dX0_clear_40
theorem k_X0_add_fieldLink_RX0_9_SR_Code_ops_I : Cond.fieldLink RX0 9 "StatementRules2$Code" "ops" "[I" ∈ wzX0_add := List.mem_cons_of_mem _ (List.mem_append_left _ (List.mem_of_getElem? (i := 0) rfl))
theorem i_X0_add_X0 : ∀ w ∈ wsX00, w ∈ wzX0_add := fun _ h => List.mem_cons_of_mem _ (List.mem_append_right _ (List.mem_append_left _ (h)))
theorem k_X0_add_fieldLink_RX0_27_SR_Code_size_I : Cond.fieldLink RX0 27 "StatementRules2$Code" "size" "I" ∈ wzX0_add := List.mem_cons_of_mem _ (List.mem_append_left _ (List.mem_of_getElem? (i := 1) rfl))
theorem k_X0_add_initialized_RX11 : Cond.initialized RX11 ∈ wzX0_add := List.mem_cons_of_mem _ (List.mem_append_left _ (List.mem_of_getElem? (i := 2) rfl))
theorem k_X0_add_static_yX11_put : Cond.static yX11_put ∈ wzX0_add := List.mem_cons_of_mem _ (List.mem_append_left _ (List.mem_of_getElem? (i := 3) rfl))
theorem k_X0_add_fieldLink_RX0_15_SR_Code_arguments_I : Cond.fieldLink RX0 15 "StatementRules2$Code" "arguments" "[I" ∈ wzX0_add := List.mem_cons_of_mem _ (List.mem_append_left _ (List.mem_of_getElem? (i := 4) rfl))
set_option maxHeartbeats 4000000 in
set_option maxRecDepth 100000 in
theorem c_X0_add (l : Launch) (dC : Nat → ClassId) (dI : Nat → Nat → Nat) (Q : CQ) (N : Nat) (σ : CS) (x1 : Int32) (x2 : Int32) (R : Unit × CS) (hf : f_X0_add N σ x1 x2 = some R) : Met l yX0_add wzX0_add ({ frames := 2, cells := CS.hs R.2 - CS.hs σ, slots := 17 * (CS.hs R.2 - CS.hs σ), locals := 60 * 2 }) (va_Pc [.ref (Q.o 2), .int x1, .int x2] (zPre dC dI (CS.hs σ) (cW Q σ) (cT Q))) (va_Qv (fun (_ : Unit) => True) (fun (_ : Unit) (t : State) => zPost dC dI (va_A (cW Q σ) (CS.hs σ)) (cW Q R.2) (cT Q) t ∧ t.heap.size = CS.hs R.2) (va_A (cW Q σ) (CS.hs σ))) (CS.hs R.2 - CS.hs σ) (17 * (CS.hs R.2 - CS.hs σ)) (va_A (cW Q σ) (CS.hs σ)) := by
  refine Met.ofW (cc := cX0_add) (maxL := 3) (ret := none) (by decide) rfl ?_
  intro p e s m args below meth c s₁ B hml hv
  obtain ⟨rfl, hsz, hZ, hP, hK, hD0⟩ := hv
  have hx := B.exec
  have hb := B.bytes
  have hr := B.returns
  have hts := atoms_spec (ws := wzX0_add) B.pre
  have hown : s.vm.findClass RX0 = some m.cls := findClass_of_methodNamed B.named
  have hlocks := B.notSynchronized
  have hD := hD0.self (sz := CS.hs σ)
  generalize hAe : va_A (cW Q σ) (CS.hs σ) = A at hD ⊢
  have hA : ∀ q : Nat, s.heap.size ≤ q → A q := fun q h => by rw [← hAe]; exact Or.inr (hsz ▸ h)
  have hC : CP dC dI Q A s.heap σ s.heap [] := ⟨hP, hD, va_S.rf, hsz⟩
  have h0 : CS.hs σ ≤ CS.hs σ := Nat.le_refl _
  have hl := lv_entry ([.ref (Q.o 2), .int x1, .int x2]) (n := 3) (Nat.le_of_ble_eq_true rfl)
  rw [lg_entry_eq]
  generalize (lg_sl ([.ref (Q.o 2), .int x1, .int x2]) ++ List.replicate (3 - (lg_sl ([.ref (Q.o 2), .int x1, .int x2])).length) Slot.unset).toArray = ls at hl ⊢
  have hl : lv_has ls 3 [(0, .ref (Q.o 2)), (1, .int x1), (2, .int x2)] := hl
  unfold f_X0_add at hf
  refine W.widen (k := CS.hs σ - CS.hs σ) (n := 17 * (CS.hs σ - CS.hs σ)) (Nat.zero_le _) (Nat.zero_le _) ?_
  refine lv_aload_n hx hb dX0_add_0 rfl (lv_at hl 0 rfl) ?_
  refine cG_15 hx hb hts i_X0_add_X0 hown hK hC (hts (.fieldLink RX0 9 "StatementRules2$Code" "ops" "[I") k_X0_add_fieldLink_RX0_9_SR_Code_ops_I) (fun _ q9 => q9) dX0_add_1 ?_
  refine lv_aload_n hx hb dX0_add_4 rfl (lv_at hl 0 rfl) ?_
  refine cG_20 (v := (σ.i 20)) hx hb hts i_X0_add_X0 hown hK hC (hts (.fieldLink RX0 27 "StatementRules2$Code" "size" "I") k_X0_add_fieldLink_RX0_27_SR_Code_size_I) (fun _ q9 => q9) dX0_add_5 rfl ?_
  refine lv_iload_n hx hb dX0_add_8 rfl (lv_at hl 1 rfl) ?_
  have he9 := (cArr_15 (Q := Q) (σ := σ))
  have hFc := cFree1 hC hA he9
  have hr9 : CS.hs σ ≤ CS.hs R.2 := Mono.go hf (mono_some (Nat.le_refl _))
  refine va_callv (va_runSN (As := [.ref (Q.q 15), .int (σ.i 20), .int x1]) (rest := []) ⟨hx, hb, hml, hown, hts⟩ (c_X11_put l dC dI _ (Q.q 15) (Q.c 0) 1200 (σ.a 15) (σ.i 20) x1 (by decide)) ⟨va_cnB 3 hts hX0_add_X11_put_n53 rfl rfl rfl (hZ.1 (.methodLinkNest RX0 53 yX11_put "StatementRules2") (by decide +kernel)) (hts (.initialized RX11) k_X0_add_initialized_RX11) (by decide +kernel) ⟨(show 1 + 1 ≤ 2 by omega), (show 8 + (3 + 11) + 60 * 1 ≤ 60 * 2 by omega)⟩, (hts (.static yX11_put) k_X0_add_static_yX11_put), trivial⟩ ⟨zPre.blind, zPre.go hZ (cOne hC.1 he9) (hK.sub (tys' := [(Q.c 0, .int)]) [0] rfl) (cOneD hC.2.1 he9)⟩ rfl rfl hl.1 rfl (lv_room (Nat.le_of_ble_eq_true rfl)) dX0_add_9 ⟨cAcc4 h0 hr9, cAcc5 h0 hr9⟩) hC.2.2.1 (fun q _ h => hFc q h) hFc (fun u9 t9 H1 locs ht hvm hw hB hz1 hk1 hS => ?_)
  obtain ⟨⟨hP1, hK1, hD1⟩, hsz1⟩ := hB
  rw [ht] at hP1 hsz1
  have hC := cBack (σ' := CS.putA σ 15 (gPut (σ.a 15) 1200 (σ.i 20) x1)) hC he9 cPutA_15 (cPutA_h _ _ _) hk1 hP1 hsz1 hS
  generalize H1 = H at hC ⊢
  refine lv_aload_n hx hb dX0_add_12 rfl (lv_at hl 0 rfl) ?_
  refine cG_16 hx hb hts i_X0_add_X0 hown hK hC (hts (.fieldLink RX0 15 "StatementRules2$Code" "arguments" "[I") k_X0_add_fieldLink_RX0_15_SR_Code_arguments_I) (fun _ q9 => q9) dX0_add_13 ?_
  refine lv_aload_n hx hb dX0_add_16 rfl (lv_at hl 0 rfl) ?_
  refine cG_20 (v := (σ.i 20)) hx hb hts i_X0_add_X0 hown hK hC (hts (.fieldLink RX0 27 "StatementRules2$Code" "size" "I") k_X0_add_fieldLink_RX0_27_SR_Code_size_I) (fun _ q9 => q9) dX0_add_17 rfl ?_
  refine lv_iload_n hx hb dX0_add_20 rfl (lv_at hl 2 rfl) ?_
  have he9 := (cArr_16 (Q := Q) (σ := CS.putA σ 15 (gPut (σ.a 15) 1200 (σ.i 20) x1)))
  have hFc := cFree1 hC hA he9
  have hr9 : CS.hs σ ≤ CS.hs R.2 := Mono.go hf (mono_some (Nat.le_refl _))
  refine va_callv (va_runSN (As := [.ref (Q.q 16), .int (σ.i 20), .int x2]) (rest := []) ⟨hx, hb, hml, hown, hts⟩ (c_X11_put l dC dI _ (Q.q 16) (Q.c 0) 1200 (CS.a (CS.putA σ 15 (gPut (σ.a 15) 1200 (σ.i 20) x1)) 16) (σ.i 20) x2 (by decide)) ⟨va_cnB 3 hts hX0_add_X11_put_n53 rfl rfl rfl (hZ.1 (.methodLinkNest RX0 53 yX11_put "StatementRules2") (by decide +kernel)) (hts (.initialized RX11) k_X0_add_initialized_RX11) (by decide +kernel) ⟨(show 1 + 1 ≤ 2 by omega), (show 8 + (3 + 11) + 60 * 1 ≤ 60 * 2 by omega)⟩, (hts (.static yX11_put) k_X0_add_static_yX11_put), trivial⟩ ⟨zPre.blind, zPre.go hZ (cOne hC.1 he9) (hK.sub (tys' := [(Q.c 0, .int)]) [0] rfl) (cOneD hC.2.1 he9)⟩ rfl rfl hl.1 rfl (lv_room (Nat.le_of_ble_eq_true rfl)) dX0_add_21 ⟨cAcc4 h0 hr9, cAcc5 h0 hr9⟩) hC.2.2.1 (fun q _ h => hFc q h) hFc (fun u9 t9 H1 locs ht hvm hw hB hz1 hk1 hS => ?_)
  obtain ⟨⟨hP1, hK1, hD1⟩, hsz1⟩ := hB
  rw [ht] at hP1 hsz1
  have hC := cBack (σ' := CS.putA (CS.putA σ 15 (gPut (σ.a 15) 1200 (σ.i 20) x1)) 16 (gPut (CS.a (CS.putA σ 15 (gPut (σ.a 15) 1200 (σ.i 20) x1)) 16) 1200 (σ.i 20) x2)) hC he9 cPutA_16 (cPutA_h _ _ _) hk1 hP1 hsz1 hS
  generalize H1 = H at hC ⊢
  refine lv_aload_n hx hb dX0_add_24 rfl (lv_at hl 0 rfl) ?_
  refine lv_dup hx hb dX0_add_25 rfl ?_
  refine cG_20 (v := (σ.i 20)) hx hb hts i_X0_add_X0 hown hK hC (hts (.fieldLink RX0 27 "StatementRules2$Code" "size" "I") k_X0_add_fieldLink_RX0_27_SR_Code_size_I) (fun _ q9 => q9) dX0_add_26 rfl ?_
  refine lv_iconst (v := 1) hx hb dX0_add_29 (by decide) ?_
  refine lv_iadd hx hb dX0_add_30 ?_
  refine cP_20 (v := ((σ.i 20) + 1)) hx hb hts i_X0_add_X0 hown hK hC (hts (.fieldLink RX0 27 "StatementRules2$Code" "size" "I") k_X0_add_fieldLink_RX0_27_SR_Code_size_I) (fun _ q9 => q9) dX0_add_31 (fun H locs hC => ?_)
  obtain rfl := Option.some.inj hf
  exact W.vret hx hb hr (fun t ht hW => ⟨⟨(), rfl, trivial, ⟨by rw [ht]; exact hC.1, va_K.moved hW.alike hK, hC.2.1⟩, by rw [ht]; exact hC.2.2.2⟩, hC.2.2.1.F ht⟩) hC.2.2.1.2.2 dX0_add_34
theorem k_X0_newTarget_fieldLink_RX0_18_SR_Code_targets_I : Cond.fieldLink RX0 18 "StatementRules2$Code" "targets" "[I" ∈ wzX0_newTarget := List.mem_cons_of_mem _ (List.mem_append_left _ (List.mem_of_getElem? (i := 0) rfl))
theorem i_X0_newTarget_X0 : ∀ w ∈ wsX00, w ∈ wzX0_newTarget := fun _ h => List.mem_cons_of_mem _ (List.mem_append_right _ (List.mem_append_left _ (h)))
theorem k_X0_newTarget_fieldLink_RX0_31_SR_Code_targetCount_I : Cond.fieldLink RX0 31 "StatementRules2$Code" "targetCount" "I" ∈ wzX0_newTarget := List.mem_cons_of_mem _ (List.mem_append_left _ (List.mem_of_getElem? (i := 1) rfl))
theorem k_X0_newTarget_initialized_RX11 : Cond.initialized RX11 ∈ wzX0_newTarget := List.mem_cons_of_mem _ (List.mem_append_left _ (List.mem_of_getElem? (i := 2) rfl))
theorem k_X0_newTarget_static_yX11_put : Cond.static yX11_put ∈ wzX0_newTarget := List.mem_cons_of_mem _ (List.mem_append_left _ (List.mem_of_getElem? (i := 3) rfl))
set_option maxHeartbeats 4000000 in
set_option maxRecDepth 100000 in
theorem c_X0_newTarget (l : Launch) (dC : Nat → ClassId) (dI : Nat → Nat → Nat) (Q : CQ) (N : Nat) (σ : CS) (R : Int32 × CS) (hf : f_X0_newTarget N σ = some R) : Met l yX0_newTarget wzX0_newTarget ({ frames := 2, cells := CS.hs R.2 - CS.hs σ, slots := 17 * (CS.hs R.2 - CS.hs σ), locals := 60 * 2 }) (va_Pc [.ref (Q.o 2)] (zPre dC dI (CS.hs σ) (cW Q σ) (cT Q))) (va_Qi (fun (r : Int32) (_ : Unit) => r = R.1) (fun (_ : Unit) (t : State) => zPost dC dI (va_A (cW Q σ) (CS.hs σ)) (cW Q R.2) (cT Q) t ∧ t.heap.size = CS.hs R.2) (va_A (cW Q σ) (CS.hs σ))) (CS.hs R.2 - CS.hs σ) (17 * (CS.hs R.2 - CS.hs σ)) (va_A (cW Q σ) (CS.hs σ)) := by
  refine Met.ofW (cc := cX0_newTarget) (maxL := 1) (ret := (some .int)) (by decide) rfl ?_
  intro p e s m args below meth c s₁ B hml hv
  obtain ⟨rfl, hsz, hZ, hP, hK, hD0⟩ := hv
  have hx := B.exec
  have hb := B.bytes
  have hr := B.returns
  have hts := atoms_spec (ws := wzX0_newTarget) B.pre
  have hown : s.vm.findClass RX0 = some m.cls := findClass_of_methodNamed B.named
  have hlocks := B.notSynchronized
  have hD := hD0.self (sz := CS.hs σ)
  generalize hAe : va_A (cW Q σ) (CS.hs σ) = A at hD ⊢
  have hA : ∀ q : Nat, s.heap.size ≤ q → A q := fun q h => by rw [← hAe]; exact Or.inr (hsz ▸ h)
  have hC : CP dC dI Q A s.heap σ s.heap [] := ⟨hP, hD, va_S.rf, hsz⟩
  have h0 : CS.hs σ ≤ CS.hs σ := Nat.le_refl _
  have hl := lv_entry ([.ref (Q.o 2)]) (n := 1) (Nat.le_of_ble_eq_true rfl)
  rw [lg_entry_eq]
  generalize (lg_sl ([.ref (Q.o 2)]) ++ List.replicate (1 - (lg_sl ([.ref (Q.o 2)])).length) Slot.unset).toArray = ls at hl ⊢
  have hl : lv_has ls 1 [(0, .ref (Q.o 2))] := hl
  unfold f_X0_newTarget at hf
  refine W.widen (k := CS.hs σ - CS.hs σ) (n := 17 * (CS.hs σ - CS.hs σ)) (Nat.zero_le _) (Nat.zero_le _) ?_
  refine lv_aload_n hx hb dX0_newTarget_0 rfl (lv_at hl 0 rfl) ?_
  refine cG_17 hx hb hts i_X0_newTarget_X0 hown hK hC (hts (.fieldLink RX0 18 "StatementRules2$Code" "targets" "[I") k_X0_newTarget_fieldLink_RX0_18_SR_Code_targets_I) (fun _ q9 => q9) dX0_newTarget_1 ?_
  refine lv_aload_n hx hb dX0_newTarget_4 rfl (lv_at hl 0 rfl) ?_
  refine cG_21 (v := (σ.i 21)) hx hb hts i_X0_newTarget_X0 hown hK hC (hts (.fieldLink RX0 31 "StatementRules2$Code" "targetCount" "I") k_X0_newTarget_fieldLink_RX0_31_SR_Code_targetCount_I) (fun _ q9 => q9) dX0_newTarget_5 rfl ?_
  refine lv_iconst (v := (-1)) hx hb dX0_newTarget_8 (by decide) ?_
  have he9 := (cArr_17 (Q := Q) (σ := σ))
  have hFc := cFree1 hC hA he9
  have hr9 : CS.hs σ ≤ CS.hs R.2 := Mono.go hf (mono_some (Nat.le_refl _))
  refine va_callv (va_runSN (As := [.ref (Q.q 17), .int (σ.i 21), .int (-1)]) (rest := []) ⟨hx, hb, hml, hown, hts⟩ (c_X11_put l dC dI _ (Q.q 17) (Q.c 0) 1024 (σ.a 17) (σ.i 21) (-1) (by decide)) ⟨va_cnB 3 hts hX0_newTarget_X11_put_n53 rfl rfl rfl (hZ.1 (.methodLinkNest RX0 53 yX11_put "StatementRules2") (by decide +kernel)) (hts (.initialized RX11) k_X0_newTarget_initialized_RX11) (by decide +kernel) ⟨(show 1 + 1 ≤ 2 by omega), (show 8 + (3 + 11) + 60 * 1 ≤ 60 * 2 by omega)⟩, (hts (.static yX11_put) k_X0_newTarget_static_yX11_put), trivial⟩ ⟨zPre.blind, zPre.go hZ (cOne hC.1 he9) (hK.sub (tys' := [(Q.c 0, .int)]) [0] rfl) (cOneD hC.2.1 he9)⟩ rfl rfl hl.1 rfl (lv_room (Nat.le_of_ble_eq_true rfl)) dX0_newTarget_9 ⟨cAcc4 h0 hr9, cAcc5 h0 hr9⟩) hC.2.2.1 (fun q _ h => hFc q h) hFc (fun u9 t9 H1 locs ht hvm hw hB hz1 hk1 hS => ?_)
  obtain ⟨⟨hP1, hK1, hD1⟩, hsz1⟩ := hB
  rw [ht] at hP1 hsz1
  have hC := cBack (σ' := CS.putA σ 17 (gPut (σ.a 17) 1024 (σ.i 21) (-1))) hC he9 cPutA_17 (cPutA_h _ _ _) hk1 hP1 hsz1 hS
  generalize H1 = H at hC ⊢
  refine lv_aload_n hx hb dX0_newTarget_12 rfl (lv_at hl 0 rfl) ?_
  refine lv_dup hx hb dX0_newTarget_13 rfl ?_
  refine cG_21 (v := (σ.i 21)) hx hb hts i_X0_newTarget_X0 hown hK hC (hts (.fieldLink RX0 31 "StatementRules2$Code" "targetCount" "I") k_X0_newTarget_fieldLink_RX0_31_SR_Code_targetCount_I) (fun _ q9 => q9) dX0_newTarget_14 rfl ?_
  refine lv_iconst (v := 1) hx hb dX0_newTarget_17 (by decide) ?_
  refine lv_iadd hx hb dX0_newTarget_18 ?_
  refine cP_21 (v := ((σ.i 21) + 1)) hx hb hts i_X0_newTarget_X0 hown hK hC (hts (.fieldLink RX0 31 "StatementRules2$Code" "targetCount" "I") k_X0_newTarget_fieldLink_RX0_31_SR_Code_targetCount_I) (fun _ q9 => q9) dX0_newTarget_19 (fun H locs hC => ?_)
  refine lv_aload_n hx hb dX0_newTarget_22 rfl (lv_at hl 0 rfl) ?_
  refine cG_21 (v := ((σ.i 21) + 1)) hx hb hts i_X0_newTarget_X0 hown hK hC (hts (.fieldLink RX0 31 "StatementRules2$Code" "targetCount" "I") k_X0_newTarget_fieldLink_RX0_31_SR_Code_targetCount_I) (fun _ q9 => q9) dX0_newTarget_23 rfl ?_
  refine lv_iconst (v := 1) hx hb dX0_newTarget_26 (by decide) ?_
  refine lv_isub hx hb dX0_newTarget_27 ?_
  obtain rfl := Option.some.inj hf
  exact W.iret (v := (((σ.i 21) + 1) - 1)) hx hb hr (fun t ht hW => ⟨⟨(((σ.i 21) + 1) - 1), (), rfl, rfl, ⟨by rw [ht]; exact hC.1, va_K.moved hW.alike hK, hC.2.1⟩, by rw [ht]; exact hC.2.2.2⟩, hC.2.2.1.F ht⟩) hC.2.2.1.2.2 dX0_newTarget_28
theorem k_X0_aim_fieldLink_RX0_18_SR_Code_targets_I : Cond.fieldLink RX0 18 "StatementRules2$Code" "targets" "[I" ∈ wzX0_aim := List.mem_cons_of_mem _ (List.mem_append_left _ (List.mem_of_getElem? (i := 0) rfl))
theorem i_X0_aim_X0 : ∀ w ∈ wsX00, w ∈ wzX0_aim := fun _ h => List.mem_cons_of_mem _ (List.mem_append_right _ (List.mem_append_left _ (h)))
theorem k_X0_aim_fieldLink_RX0_27_SR_Code_size_I : Cond.fieldLink RX0 27 "StatementRules2$Code" "size" "I" ∈ wzX0_aim := List.mem_cons_of_mem _ (List.mem_append_left _ (List.mem_of_getElem? (i := 1) rfl))
theorem k_X0_aim_initialized_RX11 : Cond.initialized RX11 ∈ wzX0_aim := List.mem_cons_of_mem _ (List.mem_append_left _ (List.mem_of_getElem? (i := 2) rfl))
theorem k_X0_aim_static_yX11_put : Cond.static yX11_put ∈ wzX0_aim := List.mem_cons_of_mem _ (List.mem_append_left _ (List.mem_of_getElem? (i := 3) rfl))
set_option maxHeartbeats 4000000 in
set_option maxRecDepth 100000 in
theorem c_X0_aim (l : Launch) (dC : Nat → ClassId) (dI : Nat → Nat → Nat) (Q : CQ) (N : Nat) (σ : CS) (x1 : Int32) (R : Unit × CS) (hf : f_X0_aim N σ x1 = some R) : Met l yX0_aim wzX0_aim ({ frames := 2, cells := CS.hs R.2 - CS.hs σ, slots := 17 * (CS.hs R.2 - CS.hs σ), locals := 60 * 2 }) (va_Pc [.ref (Q.o 2), .int x1] (zPre dC dI (CS.hs σ) (cW Q σ) (cT Q))) (va_Qv (fun (_ : Unit) => True) (fun (_ : Unit) (t : State) => zPost dC dI (va_A (cW Q σ) (CS.hs σ)) (cW Q R.2) (cT Q) t ∧ t.heap.size = CS.hs R.2) (va_A (cW Q σ) (CS.hs σ))) (CS.hs R.2 - CS.hs σ) (17 * (CS.hs R.2 - CS.hs σ)) (va_A (cW Q σ) (CS.hs σ)) := by
  refine Met.ofW (cc := cX0_aim) (maxL := 2) (ret := none) (by decide) rfl ?_
  intro p e s m args below meth c s₁ B hml hv
  obtain ⟨rfl, hsz, hZ, hP, hK, hD0⟩ := hv
  have hx := B.exec
  have hb := B.bytes
  have hr := B.returns
  have hts := atoms_spec (ws := wzX0_aim) B.pre
  have hown : s.vm.findClass RX0 = some m.cls := findClass_of_methodNamed B.named
  have hlocks := B.notSynchronized
  have hD := hD0.self (sz := CS.hs σ)
  generalize hAe : va_A (cW Q σ) (CS.hs σ) = A at hD ⊢
  have hA : ∀ q : Nat, s.heap.size ≤ q → A q := fun q h => by rw [← hAe]; exact Or.inr (hsz ▸ h)
  have hC : CP dC dI Q A s.heap σ s.heap [] := ⟨hP, hD, va_S.rf, hsz⟩
  have h0 : CS.hs σ ≤ CS.hs σ := Nat.le_refl _
  have hl := lv_entry ([.ref (Q.o 2), .int x1]) (n := 2) (Nat.le_of_ble_eq_true rfl)
  rw [lg_entry_eq]
  generalize (lg_sl ([.ref (Q.o 2), .int x1]) ++ List.replicate (2 - (lg_sl ([.ref (Q.o 2), .int x1])).length) Slot.unset).toArray = ls at hl ⊢
  have hl : lv_has ls 2 [(0, .ref (Q.o 2)), (1, .int x1)] := hl
  unfold f_X0_aim at hf
  refine W.widen (k := CS.hs σ - CS.hs σ) (n := 17 * (CS.hs σ - CS.hs σ)) (Nat.zero_le _) (Nat.zero_le _) ?_
  refine lv_aload_n hx hb dX0_aim_0 rfl (lv_at hl 0 rfl) ?_
  refine cG_17 hx hb hts i_X0_aim_X0 hown hK hC (hts (.fieldLink RX0 18 "StatementRules2$Code" "targets" "[I") k_X0_aim_fieldLink_RX0_18_SR_Code_targets_I) (fun _ q9 => q9) dX0_aim_1 ?_
  refine lv_iload_n hx hb dX0_aim_4 rfl (lv_at hl 1 rfl) ?_
  refine lv_aload_n hx hb dX0_aim_5 rfl (lv_at hl 0 rfl) ?_
  refine cG_20 (v := (σ.i 20)) hx hb hts i_X0_aim_X0 hown hK hC (hts (.fieldLink RX0 27 "StatementRules2$Code" "size" "I") k_X0_aim_fieldLink_RX0_27_SR_Code_size_I) (fun _ q9 => q9) dX0_aim_6 rfl ?_
  have he9 := (cArr_17 (Q := Q) (σ := σ))
  have hFc := cFree1 hC hA he9
  have hr9 : CS.hs σ ≤ CS.hs R.2 := Mono.go hf (mono_some (Nat.le_refl _))
  refine va_callv (va_runSN (As := [.ref (Q.q 17), .int x1, .int (σ.i 20)]) (rest := []) ⟨hx, hb, hml, hown, hts⟩ (c_X11_put l dC dI _ (Q.q 17) (Q.c 0) 1024 (σ.a 17) x1 (σ.i 20) (by decide)) ⟨va_cnB 3 hts hX0_aim_X11_put_n53 rfl rfl rfl (hZ.1 (.methodLinkNest RX0 53 yX11_put "StatementRules2") (by decide +kernel)) (hts (.initialized RX11) k_X0_aim_initialized_RX11) (by decide +kernel) ⟨(show 1 + 1 ≤ 2 by omega), (show 8 + (3 + 11) + 60 * 1 ≤ 60 * 2 by omega)⟩, (hts (.static yX11_put) k_X0_aim_static_yX11_put), trivial⟩ ⟨zPre.blind, zPre.go hZ (cOne hC.1 he9) (hK.sub (tys' := [(Q.c 0, .int)]) [0] rfl) (cOneD hC.2.1 he9)⟩ rfl rfl hl.1 rfl (lv_room (Nat.le_of_ble_eq_true rfl)) dX0_aim_9 ⟨cAcc4 h0 hr9, cAcc5 h0 hr9⟩) hC.2.2.1 (fun q _ h => hFc q h) hFc (fun u9 t9 H1 locs ht hvm hw hB hz1 hk1 hS => ?_)
  obtain ⟨⟨hP1, hK1, hD1⟩, hsz1⟩ := hB
  rw [ht] at hP1 hsz1
  have hC := cBack (σ' := CS.putA σ 17 (gPut (σ.a 17) 1024 x1 (σ.i 20))) hC he9 cPutA_17 (cPutA_h _ _ _) hk1 hP1 hsz1 hS
  generalize H1 = H at hC ⊢
  obtain rfl := Option.some.inj hf
  exact W.vret hx hb hr (fun t ht hW => ⟨⟨(), rfl, trivial, ⟨by rw [ht]; exact hC.1, va_K.moved hW.alike hK, hC.2.1⟩, by rw [ht]; exact hC.2.2.2⟩, hC.2.2.1.F ht⟩) hC.2.2.1.2.2 dX0_aim_12
theorem k_X0_newCells_fieldLink_RX0_37_SR_Code_cellCount_I : Cond.fieldLink RX0 37 "StatementRules2$Code" "cellCount" "I" ∈ wzX0_newCells := List.mem_cons_of_mem _ (List.mem_append_left _ (List.mem_of_getElem? (i := 0) rfl))
theorem i_X0_newCells_X0 : ∀ w ∈ wsX00, w ∈ wzX0_newCells := fun _ h => List.mem_cons_of_mem _ (List.mem_append_right _ (List.mem_append_left _ (h)))
set_option maxHeartbeats 4000000 in
set_option maxRecDepth 100000 in
theorem c_X0_newCells (l : Launch) (dC : Nat → ClassId) (dI : Nat → Nat → Nat) (Q : CQ) (N : Nat) (σ : CS) (x1 : Int32) (R : Int32 × CS) (hf : f_X0_newCells N σ x1 = some R) : Met l yX0_newCells wzX0_newCells ({ frames := 1, cells := CS.hs R.2 - CS.hs σ, slots := 17 * (CS.hs R.2 - CS.hs σ), locals := 60 * 1 }) (va_Pc [.ref (Q.o 2), .int x1] (zPre dC dI (CS.hs σ) (cW Q σ) (cT Q))) (va_Qi (fun (r : Int32) (_ : Unit) => r = R.1) (fun (_ : Unit) (t : State) => zPost dC dI (va_A (cW Q σ) (CS.hs σ)) (cW Q R.2) (cT Q) t ∧ t.heap.size = CS.hs R.2) (va_A (cW Q σ) (CS.hs σ))) (CS.hs R.2 - CS.hs σ) (17 * (CS.hs R.2 - CS.hs σ)) (va_A (cW Q σ) (CS.hs σ)) := by
  refine Met.ofW (cc := cX0_newCells) (maxL := 2) (ret := (some .int)) (by decide) rfl ?_
  intro p e s m args below meth c s₁ B hml hv
  obtain ⟨rfl, hsz, hZ, hP, hK, hD0⟩ := hv
  have hx := B.exec
  have hb := B.bytes
  have hr := B.returns
  have hts := atoms_spec (ws := wzX0_newCells) B.pre
  have hown : s.vm.findClass RX0 = some m.cls := findClass_of_methodNamed B.named
  have hlocks := B.notSynchronized
  have hD := hD0.self (sz := CS.hs σ)
  generalize hAe : va_A (cW Q σ) (CS.hs σ) = A at hD ⊢
  have hA : ∀ q : Nat, s.heap.size ≤ q → A q := fun q h => by rw [← hAe]; exact Or.inr (hsz ▸ h)
  have hC : CP dC dI Q A s.heap σ s.heap [] := ⟨hP, hD, va_S.rf, hsz⟩
  have h0 : CS.hs σ ≤ CS.hs σ := Nat.le_refl _
  have hl := lv_entry ([.ref (Q.o 2), .int x1]) (n := 2) (Nat.le_of_ble_eq_true rfl)
  rw [lg_entry_eq]
  generalize (lg_sl ([.ref (Q.o 2), .int x1]) ++ List.replicate (2 - (lg_sl ([.ref (Q.o 2), .int x1])).length) Slot.unset).toArray = ls at hl ⊢
  have hl : lv_has ls 2 [(0, .ref (Q.o 2)), (1, .int x1)] := hl
  unfold f_X0_newCells at hf
  refine W.widen (k := CS.hs σ - CS.hs σ) (n := 17 * (CS.hs σ - CS.hs σ)) (Nat.zero_le _) (Nat.zero_le _) ?_
  refine lv_aload_n hx hb dX0_newCells_0 rfl (lv_at hl 0 rfl) ?_
  refine lv_dup hx hb dX0_newCells_1 rfl ?_
  refine cG_23 (v := (σ.i 23)) hx hb hts i_X0_newCells_X0 hown hK hC (hts (.fieldLink RX0 37 "StatementRules2$Code" "cellCount" "I") k_X0_newCells_fieldLink_RX0_37_SR_Code_cellCount_I) (fun _ q9 => q9) dX0_newCells_2 rfl ?_
  refine lv_iload_n hx hb dX0_newCells_5 rfl (lv_at hl 1 rfl) ?_
  refine lv_iadd hx hb dX0_newCells_6 ?_
  refine cP_23 (v := ((σ.i 23) + x1)) hx hb hts i_X0_newCells_X0 hown hK hC (hts (.fieldLink RX0 37 "StatementRules2$Code" "cellCount" "I") k_X0_newCells_fieldLink_RX0_37_SR_Code_cellCount_I) (fun _ q9 => q9) dX0_newCells_7 (fun H locs hC => ?_)
  refine lv_aload_n hx hb dX0_newCells_10 rfl (lv_at hl 0 rfl) ?_
  refine cG_23 (v := ((σ.i 23) + x1)) hx hb hts i_X0_newCells_X0 hown hK hC (hts (.fieldLink RX0 37 "StatementRules2$Code" "cellCount" "I") k_X0_newCells_fieldLink_RX0_37_SR_Code_cellCount_I) (fun _ q9 => q9) dX0_newCells_11 rfl ?_
  refine lv_iload_n hx hb dX0_newCells_14 rfl (lv_at hl 1 rfl) ?_
  refine lv_isub hx hb dX0_newCells_15 ?_
  obtain rfl := Option.some.inj hf
  exact W.iret (v := (((σ.i 23) + x1) - x1)) hx hb hr (fun t ht hW => ⟨⟨(((σ.i 23) + x1) - x1), (), rfl, rfl, ⟨by rw [ht]; exact hC.1, va_K.moved hW.alike hK, hC.2.1⟩, by rw [ht]; exact hC.2.2.2⟩, hC.2.2.1.F ht⟩) hC.2.2.1.2.2 dX0_newCells_16
theorem k_X0_hasCase_fieldLink_RX0_34_SR_Code_caseCount_I : Cond.fieldLink RX0 34 "StatementRules2$Code" "caseCount" "I" ∈ wzX0_hasCase := List.mem_cons_of_mem _ (List.mem_append_left _ (List.mem_of_getElem? (i := 0) rfl))
theorem i_X0_hasCase_X0 : ∀ w ∈ wsX00, w ∈ wzX0_hasCase := fun _ h => List.mem_cons_of_mem _ (List.mem_append_right _ (List.mem_append_left _ (h)))
theorem k_X0_hasCase_fieldLink_RX0_21_SR_Code_caseValues_I : Cond.fieldLink RX0 21 "StatementRules2$Code" "caseValues" "[I" ∈ wzX0_hasCase := List.mem_cons_of_mem _ (List.mem_append_left _ (List.mem_of_getElem? (i := 1) rfl))
theorem k_X0_hasCase_initialized_RX11 : Cond.initialized RX11 ∈ wzX0_hasCase := List.mem_cons_of_mem _ (List.mem_append_left _ (List.mem_of_getElem? (i := 2) rfl))
theorem k_X0_hasCase_static_yX11_at : Cond.static yX11_at ∈ wzX0_hasCase := List.mem_cons_of_mem _ (List.mem_append_left _ (List.mem_of_getElem? (i := 3) rfl))
set_option maxHeartbeats 4000000 in
set_option maxRecDepth 100000 in
theorem j_X0_hasCase_2 {p : Program} {e : Env} {s : State} {m : MethodId} {args : Array Value} {below : List Frame} {meth : Method} {c : Code} {A : Nat → Prop} (l : Launch) (dC : Nat → ClassId) (dI : Nat → Nat → Nat) (Q : CQ) (N : Nat) (z9h : Nat) (R : Int32 × CS) (hx : p.tables.exec = Jvm.exec) (hb : c.code = cX0_hasCase) (hr : meth.sig.returnType = (some .boolean)) (hml : c.maxLocals = 4) (hown : s.vm.findClass RX0 = some m.cls) (hts : ∀ w ∈ wzX0_hasCase, w.before args s = true) (hlocks : meth.locks = false) (hZ : zAMB s) (hA : ∀ q : Nat, s.heap.size ≤ q → A q) (hK : va_K (dC, dI) vwCl (cT Q) s) : ∀ (n9 : Nat), ∀ (σ : CS) (x2 : Int32) (x3 : Int32) (H : Heap) (locs : List Loc) (ls : Array Slot), f_X0_hasCase_2 N n9 σ x2 x3 = some R → z9h ≤ CS.hs σ → CP dC dI Q A s.heap σ H locs → lv_has ls 4 [(0, .ref (Q.o 2)), (2, .int x2), (3, .int x3)] → W p l e ({ frames := 2, cells := CS.hs R.2 - z9h, slots := 17 * (CS.hs R.2 - z9h), locals := 60 * 2 }) s m args below meth c H locs (CS.hs σ - z9h) (17 * (CS.hs σ - z9h)) (MQ below (va_Qi (fun (r : Int32) (_ : Unit) => r = R.1) (fun (_ : Unit) (t : State) => zPost dC dI A (cW Q R.2) (cT Q) t ∧ t.heap.size = CS.hs R.2) A) args s (CS.hs R.2 - z9h) (17 * (CS.hs R.2 - z9h)) A) (F0 m 2 ls []) := by
  intro n9
  induction n9 with
  | zero => intro σ x2 x3 H locs ls hf; exact absurd hf (by intro q9; cases q9)
  | succ n9 ih =>
    intro σ x2 x3 H locs ls hf h0 hC hl
    replace hf : b_X0_hasCase_2 N (f_X0_hasCase_2 N n9) σ x2 x3 = some R := hf
    unfold b_X0_hasCase_2 at hf
    have hMK := fun (σ : CS) (x2 : Int32) (x3 : Int32) => m_X0_hasCase_2 N n9 σ x2 x3
    refine lv_iload_n hx hb dX0_hasCase_2 rfl (lv_at hl 2 rfl) ?_
    refine lv_aload_n hx hb dX0_hasCase_3 rfl (lv_at hl 0 rfl) ?_
    refine cG_22 (v := (σ.i 22)) hx hb hts i_X0_hasCase_X0 hown hK hC (hts (.fieldLink RX0 34 "StatementRules2$Code" "caseCount" "I") k_X0_hasCase_fieldLink_RX0_34_SR_Code_caseCount_I) (fun _ q9 => q9) dX0_hasCase_4 rfl ?_
    refine lv_icmp_ge (tgt := 30) hx hb dX0_hasCase_7 (by decide) (fun c1 => ?_) (fun c1 => ?_)
    ·
      replace hf := (if_pos c1).symm.trans hf
      refine lv_iconst (v := 0) hx hb dX0_hasCase_30 (by decide) ?_
      obtain rfl := Option.some.inj hf
      exact W.zret (v := 0) hx hb hr (rfl) (fun t ht hW => ⟨⟨0, (), rfl, rfl, ⟨by rw [ht]; exact hC.1, va_K.moved hW.alike hK, hC.2.1⟩, by rw [ht]; exact hC.2.2.2⟩, hC.2.2.1.F ht⟩) hC.2.2.1.2.2 dX0_hasCase_31
    ·
      replace hf := (if_neg c1).symm.trans hf
      refine lv_aload_n hx hb dX0_hasCase_10 rfl (lv_at hl 0 rfl) ?_
      refine cG_18 hx hb hts i_X0_hasCase_X0 hown hK hC (hts (.fieldLink RX0 21 "StatementRules2$Code" "caseValues" "[I") k_X0_hasCase_fieldLink_RX0_21_SR_Code_caseValues_I) (fun _ q9 => q9) dX0_hasCase_11 ?_
      refine lv_iload_n hx hb dX0_hasCase_14 rfl (lv_at hl 2 rfl) ?_
      have he9 := (cArr_18 (Q := Q) (σ := σ))
      have hFc := cFree1 hC hA he9
      have hr9 : CS.hs σ ≤ CS.hs R.2 := Mono.go hf (mono_ite (mono_some (Nat.le_refl _)) (hMK σ x2 (x3 + 1)))
      refine va_calli (va_runSN (As := [.ref (Q.q 18), .int x3]) (rest := []) ⟨hx, hb, hml, hown, hts⟩ (c_X11_at l dC dI _ (Q.q 18) (Q.c 0) 320 (σ.a 18) x3 (by decide)) ⟨va_cnB 2 hts hX0_hasCase_X11_at_n57 rfl rfl rfl (hZ.1 (.methodLinkNest RX0 57 yX11_at "StatementRules2") (by decide +kernel)) (hts (.initialized RX11) k_X0_hasCase_initialized_RX11) (by decide +kernel) ⟨(show 1 + 1 ≤ 2 by omega), (show 8 + (2 + 11) + 60 * 1 ≤ 60 * 2 by omega)⟩, (hts (.static yX11_at) k_X0_hasCase_static_yX11_at), trivial⟩ ⟨zPre.blind, zPre.go hZ (cOne hC.1 he9) (hK.sub (tys' := [(Q.c 0, .int)]) [0] rfl) (cOneD hC.2.1 he9)⟩ rfl rfl hl.1 rfl (lv_room (Nat.le_of_ble_eq_true rfl)) dX0_hasCase_15 ⟨cAcc4 h0 hr9, cAcc5 h0 hr9⟩) hC.2.2.1 (fun q _ h => hFc q h) hFc (fun r2 u9 t9 H1 locs ht hvm hw hB hz1 hk1 hS => ?_)
      obtain ⟨⟨hP1, hK1, hD1⟩, hsz1⟩ := hB
      rw [ht] at hP1 hsz1
      have hC := cBack (σ' := σ) hC he9 (cSelf he9) (Eq.refl (CS.hs σ)) hk1 hP1 hsz1 hS
      generalize H1 = H at hC ⊢
      obtain rfl : r2 = (gAt (σ.a 18) 320 x3) := hw
      refine lv_iload_n hx hb dX0_hasCase_18 rfl (lv_at hl 1 rfl) ?_
      refine lv_icmp_ne (tgt := 24) hx hb dX0_hasCase_19 (by decide) (fun c3 => ?_) (fun c3 => ?_)
      ·
        replace hf := (if_neg c3).symm.trans hf
        refine lv_iinc (v := (x3 + 1)) (lv' := [(3, .int (x3 + 1)), (0, .ref (Q.o 2)), (2, .int x2)]) hx hb dX0_hasCase_24 hl (k := 2) rfl rfl (by decide) rfl (fun ls hl => ?_)
        refine lv_goto (tgt := 2) hx hb dX0_hasCase_27 (by decide) ?_
        exact ih σ x2 (x3 + 1) _ _ _ hf h0 hC (lv_sub hl [1, 2, 0] rfl)
      ·
        replace hf := (if_pos c3).symm.trans hf
        refine lv_iconst (v := 1) hx hb dX0_hasCase_22 (by decide) ?_
        obtain rfl := Option.some.inj hf
        exact W.zret (v := 1) hx hb hr (rfl) (fun t ht hW => ⟨⟨1, (), rfl, rfl, ⟨by rw [ht]; exact hC.1, va_K.moved hW.alike hK, hC.2.1⟩, by rw [ht]; exact hC.2.2.2⟩, hC.2.2.1.F ht⟩) hC.2.2.1.2.2 dX0_hasCase_23
set_option maxHeartbeats 4000000 in
set_option maxRecDepth 100000 in
theorem c_X0_hasCase (l : Launch) (dC : Nat → ClassId) (dI : Nat → Nat → Nat) (Q : CQ) (N : Nat) (σ : CS) (x1 : Int32) (x2 : Int32) (R : Int32 × CS) (hf : f_X0_hasCase N σ x1 x2 = some R) : Met l yX0_hasCase wzX0_hasCase ({ frames := 2, cells := CS.hs R.2 - CS.hs σ, slots := 17 * (CS.hs R.2 - CS.hs σ), locals := 60 * 2 }) (va_Pc [.ref (Q.o 2), .int x1, .int x2] (zPre dC dI (CS.hs σ) (cW Q σ) (cT Q))) (va_Qi (fun (r : Int32) (_ : Unit) => r = R.1) (fun (_ : Unit) (t : State) => zPost dC dI (va_A (cW Q σ) (CS.hs σ)) (cW Q R.2) (cT Q) t ∧ t.heap.size = CS.hs R.2) (va_A (cW Q σ) (CS.hs σ))) (CS.hs R.2 - CS.hs σ) (17 * (CS.hs R.2 - CS.hs σ)) (va_A (cW Q σ) (CS.hs σ)) := by
  refine Met.ofW (cc := cX0_hasCase) (maxL := 4) (ret := (some .boolean)) (by decide) rfl ?_
  intro p e s m args below meth c s₁ B hml hv
  obtain ⟨rfl, hsz, hZ, hP, hK, hD0⟩ := hv
  have hx := B.exec
  have hb := B.bytes
  have hr := B.returns
  have hts := atoms_spec (ws := wzX0_hasCase) B.pre
  have hown : s.vm.findClass RX0 = some m.cls := findClass_of_methodNamed B.named
  have hlocks := B.notSynchronized
  have hD := hD0.self (sz := CS.hs σ)
  generalize hAe : va_A (cW Q σ) (CS.hs σ) = A at hD ⊢
  have hA : ∀ q : Nat, s.heap.size ≤ q → A q := fun q h => by rw [← hAe]; exact Or.inr (hsz ▸ h)
  have hC : CP dC dI Q A s.heap σ s.heap [] := ⟨hP, hD, va_S.rf, hsz⟩
  have h0 : CS.hs σ ≤ CS.hs σ := Nat.le_refl _
  have hl := lv_entry ([.ref (Q.o 2), .int x1, .int x2]) (n := 4) (Nat.le_of_ble_eq_true rfl)
  rw [lg_entry_eq]
  generalize (lg_sl ([.ref (Q.o 2), .int x1, .int x2]) ++ List.replicate (4 - (lg_sl ([.ref (Q.o 2), .int x1, .int x2])).length) Slot.unset).toArray = ls at hl ⊢
  have hl : lv_has ls 4 [(0, .ref (Q.o 2)), (1, .int x1), (2, .int x2)] := hl
  unfold f_X0_hasCase at hf
  refine W.widen (k := CS.hs σ - CS.hs σ) (n := 17 * (CS.hs σ - CS.hs σ)) (Nat.zero_le _) (Nat.zero_le _) ?_
  refine lv_iload_n hx hb dX0_hasCase_0 rfl (lv_at hl 1 rfl) ?_
  refine lv_istore_n (lv' := [(3, .int x1), (0, .ref (Q.o 2)), (1, .int x1), (2, .int x2)]) hx hb dX0_hasCase_1 rfl hl (by decide) rfl (fun ls hl => ?_)
  exact j_X0_hasCase_2 l dC dI Q N (CS.hs σ) R hx hb hr hml hown hts hlocks hZ hA hK N σ x2 x1 _ _ _ hf h0 hC (lv_sub hl [1, 3, 0] rfl)
theorem k_X0_addCase_fieldLink_RX0_21_SR_Code_caseValues_I : Cond.fieldLink RX0 21 "StatementRules2$Code" "caseValues" "[I" ∈ wzX0_addCase := List.mem_cons_of_mem _ (List.mem_append_left _ (List.mem_of_getElem? (i := 0) rfl))
theorem i_X0_addCase_X0 : ∀ w ∈ wsX00, w ∈ wzX0_addCase := fun _ h => List.mem_cons_of_mem _ (List.mem_append_right _ (List.mem_append_left _ (h)))
theorem k_X0_addCase_fieldLink_RX0_34_SR_Code_caseCount_I : Cond.fieldLink RX0 34 "StatementRules2$Code" "caseCount" "I" ∈ wzX0_addCase := List.mem_cons_of_mem _ (List.mem_append_left _ (List.mem_of_getElem? (i := 1) rfl))
theorem k_X0_addCase_initialized_RX11 : Cond.initialized RX11 ∈ wzX0_addCase := List.mem_cons_of_mem _ (List.mem_append_left _ (List.mem_of_getElem? (i := 2) rfl))
theorem k_X0_addCase_static_yX11_put : Cond.static yX11_put ∈ wzX0_addCase := List.mem_cons_of_mem _ (List.mem_append_left _ (List.mem_of_getElem? (i := 3) rfl))
theorem k_X0_addCase_fieldLink_RX0_24_SR_Code_caseTargets_I : Cond.fieldLink RX0 24 "StatementRules2$Code" "caseTargets" "[I" ∈ wzX0_addCase := List.mem_cons_of_mem _ (List.mem_append_left _ (List.mem_of_getElem? (i := 4) rfl))
set_option maxHeartbeats 4000000 in
set_option maxRecDepth 100000 in
theorem c_X0_addCase (l : Launch) (dC : Nat → ClassId) (dI : Nat → Nat → Nat) (Q : CQ) (N : Nat) (σ : CS) (x1 : Int32) (x2 : Int32) (R : Unit × CS) (hf : f_X0_addCase N σ x1 x2 = some R) : Met l yX0_addCase wzX0_addCase ({ frames := 2, cells := CS.hs R.2 - CS.hs σ, slots := 17 * (CS.hs R.2 - CS.hs σ), locals := 60 * 2 }) (va_Pc [.ref (Q.o 2), .int x1, .int x2] (zPre dC dI (CS.hs σ) (cW Q σ) (cT Q))) (va_Qv (fun (_ : Unit) => True) (fun (_ : Unit) (t : State) => zPost dC dI (va_A (cW Q σ) (CS.hs σ)) (cW Q R.2) (cT Q) t ∧ t.heap.size = CS.hs R.2) (va_A (cW Q σ) (CS.hs σ))) (CS.hs R.2 - CS.hs σ) (17 * (CS.hs R.2 - CS.hs σ)) (va_A (cW Q σ) (CS.hs σ)) := by
  refine Met.ofW (cc := cX0_addCase) (maxL := 3) (ret := none) (by decide) rfl ?_
  intro p e s m args below meth c s₁ B hml hv
  obtain ⟨rfl, hsz, hZ, hP, hK, hD0⟩ := hv
  have hx := B.exec
  have hb := B.bytes
  have hr := B.returns
  have hts := atoms_spec (ws := wzX0_addCase) B.pre
  have hown : s.vm.findClass RX0 = some m.cls := findClass_of_methodNamed B.named
  have hlocks := B.notSynchronized
  have hD := hD0.self (sz := CS.hs σ)
  generalize hAe : va_A (cW Q σ) (CS.hs σ) = A at hD ⊢
  have hA : ∀ q : Nat, s.heap.size ≤ q → A q := fun q h => by rw [← hAe]; exact Or.inr (hsz ▸ h)
  have hC : CP dC dI Q A s.heap σ s.heap [] := ⟨hP, hD, va_S.rf, hsz⟩
  have h0 : CS.hs σ ≤ CS.hs σ := Nat.le_refl _
  have hl := lv_entry ([.ref (Q.o 2), .int x1, .int x2]) (n := 3) (Nat.le_of_ble_eq_true rfl)
  rw [lg_entry_eq]
  generalize (lg_sl ([.ref (Q.o 2), .int x1, .int x2]) ++ List.replicate (3 - (lg_sl ([.ref (Q.o 2), .int x1, .int x2])).length) Slot.unset).toArray = ls at hl ⊢
  have hl : lv_has ls 3 [(0, .ref (Q.o 2)), (1, .int x1), (2, .int x2)] := hl
  unfold f_X0_addCase at hf
  refine W.widen (k := CS.hs σ - CS.hs σ) (n := 17 * (CS.hs σ - CS.hs σ)) (Nat.zero_le _) (Nat.zero_le _) ?_
  refine lv_aload_n hx hb dX0_addCase_0 rfl (lv_at hl 0 rfl) ?_
  refine cG_18 hx hb hts i_X0_addCase_X0 hown hK hC (hts (.fieldLink RX0 21 "StatementRules2$Code" "caseValues" "[I") k_X0_addCase_fieldLink_RX0_21_SR_Code_caseValues_I) (fun _ q9 => q9) dX0_addCase_1 ?_
  refine lv_aload_n hx hb dX0_addCase_4 rfl (lv_at hl 0 rfl) ?_
  refine cG_22 (v := (σ.i 22)) hx hb hts i_X0_addCase_X0 hown hK hC (hts (.fieldLink RX0 34 "StatementRules2$Code" "caseCount" "I") k_X0_addCase_fieldLink_RX0_34_SR_Code_caseCount_I) (fun _ q9 => q9) dX0_addCase_5 rfl ?_
  refine lv_iload_n hx hb dX0_addCase_8 rfl (lv_at hl 1 rfl) ?_
  have he9 := (cArr_18 (Q := Q) (σ := σ))
  have hFc := cFree1 hC hA he9
  have hr9 : CS.hs σ ≤ CS.hs R.2 := Mono.go hf (mono_some (Nat.le_refl _))
  refine va_callv (va_runSN (As := [.ref (Q.q 18), .int (σ.i 22), .int x1]) (rest := []) ⟨hx, hb, hml, hown, hts⟩ (c_X11_put l dC dI _ (Q.q 18) (Q.c 0) 320 (σ.a 18) (σ.i 22) x1 (by decide)) ⟨va_cnB 3 hts hX0_addCase_X11_put_n53 rfl rfl rfl (hZ.1 (.methodLinkNest RX0 53 yX11_put "StatementRules2") (by decide +kernel)) (hts (.initialized RX11) k_X0_addCase_initialized_RX11) (by decide +kernel) ⟨(show 1 + 1 ≤ 2 by omega), (show 8 + (3 + 11) + 60 * 1 ≤ 60 * 2 by omega)⟩, (hts (.static yX11_put) k_X0_addCase_static_yX11_put), trivial⟩ ⟨zPre.blind, zPre.go hZ (cOne hC.1 he9) (hK.sub (tys' := [(Q.c 0, .int)]) [0] rfl) (cOneD hC.2.1 he9)⟩ rfl rfl hl.1 rfl (lv_room (Nat.le_of_ble_eq_true rfl)) dX0_addCase_9 ⟨cAcc4 h0 hr9, cAcc5 h0 hr9⟩) hC.2.2.1 (fun q _ h => hFc q h) hFc (fun u9 t9 H1 locs ht hvm hw hB hz1 hk1 hS => ?_)
  obtain ⟨⟨hP1, hK1, hD1⟩, hsz1⟩ := hB
  rw [ht] at hP1 hsz1
  have hC := cBack (σ' := CS.putA σ 18 (gPut (σ.a 18) 320 (σ.i 22) x1)) hC he9 cPutA_18 (cPutA_h _ _ _) hk1 hP1 hsz1 hS
  generalize H1 = H at hC ⊢
  refine lv_aload_n hx hb dX0_addCase_12 rfl (lv_at hl 0 rfl) ?_
  refine cG_19 hx hb hts i_X0_addCase_X0 hown hK hC (hts (.fieldLink RX0 24 "StatementRules2$Code" "caseTargets" "[I") k_X0_addCase_fieldLink_RX0_24_SR_Code_caseTargets_I) (fun _ q9 => q9) dX0_addCase_13 ?_
  refine lv_aload_n hx hb dX0_addCase_16 rfl (lv_at hl 0 rfl) ?_
  refine cG_22 (v := (σ.i 22)) hx hb hts i_X0_addCase_X0 hown hK hC (hts (.fieldLink RX0 34 "StatementRules2$Code" "caseCount" "I") k_X0_addCase_fieldLink_RX0_34_SR_Code_caseCount_I) (fun _ q9 => q9) dX0_addCase_17 rfl ?_
  refine lv_iload_n hx hb dX0_addCase_20 rfl (lv_at hl 2 rfl) ?_
  have he9 := (cArr_19 (Q := Q) (σ := CS.putA σ 18 (gPut (σ.a 18) 320 (σ.i 22) x1)))
  have hFc := cFree1 hC hA he9
  have hr9 : CS.hs σ ≤ CS.hs R.2 := Mono.go hf (mono_some (Nat.le_refl _))
  refine va_callv (va_runSN (As := [.ref (Q.q 19), .int (σ.i 22), .int x2]) (rest := []) ⟨hx, hb, hml, hown, hts⟩ (c_X11_put l dC dI _ (Q.q 19) (Q.c 0) 320 (CS.a (CS.putA σ 18 (gPut (σ.a 18) 320 (σ.i 22) x1)) 19) (σ.i 22) x2 (by decide)) ⟨va_cnB 3 hts hX0_addCase_X11_put_n53 rfl rfl rfl (hZ.1 (.methodLinkNest RX0 53 yX11_put "StatementRules2") (by decide +kernel)) (hts (.initialized RX11) k_X0_addCase_initialized_RX11) (by decide +kernel) ⟨(show 1 + 1 ≤ 2 by omega), (show 8 + (3 + 11) + 60 * 1 ≤ 60 * 2 by omega)⟩, (hts (.static yX11_put) k_X0_addCase_static_yX11_put), trivial⟩ ⟨zPre.blind, zPre.go hZ (cOne hC.1 he9) (hK.sub (tys' := [(Q.c 0, .int)]) [0] rfl) (cOneD hC.2.1 he9)⟩ rfl rfl hl.1 rfl (lv_room (Nat.le_of_ble_eq_true rfl)) dX0_addCase_21 ⟨cAcc4 h0 hr9, cAcc5 h0 hr9⟩) hC.2.2.1 (fun q _ h => hFc q h) hFc (fun u9 t9 H1 locs ht hvm hw hB hz1 hk1 hS => ?_)
  obtain ⟨⟨hP1, hK1, hD1⟩, hsz1⟩ := hB
  rw [ht] at hP1 hsz1
  have hC := cBack (σ' := CS.putA (CS.putA σ 18 (gPut (σ.a 18) 320 (σ.i 22) x1)) 19 (gPut (CS.a (CS.putA σ 18 (gPut (σ.a 18) 320 (σ.i 22) x1)) 19) 320 (σ.i 22) x2)) hC he9 cPutA_19 (cPutA_h _ _ _) hk1 hP1 hsz1 hS
  generalize H1 = H at hC ⊢
  refine lv_aload_n hx hb dX0_addCase_24 rfl (lv_at hl 0 rfl) ?_
  refine lv_dup hx hb dX0_addCase_25 rfl ?_
  refine cG_22 (v := (σ.i 22)) hx hb hts i_X0_addCase_X0 hown hK hC (hts (.fieldLink RX0 34 "StatementRules2$Code" "caseCount" "I") k_X0_addCase_fieldLink_RX0_34_SR_Code_caseCount_I) (fun _ q9 => q9) dX0_addCase_26 rfl ?_
  refine lv_iconst (v := 1) hx hb dX0_addCase_29 (by decide) ?_
  refine lv_iadd hx hb dX0_addCase_30 ?_
  refine cP_22 (v := ((σ.i 22) + 1)) hx hb hts i_X0_addCase_X0 hown hK hC (hts (.fieldLink RX0 34 "StatementRules2$Code" "caseCount" "I") k_X0_addCase_fieldLink_RX0_34_SR_Code_caseCount_I) (fun _ q9 => q9) dX0_addCase_31 (fun H locs hC => ?_)
  obtain rfl := Option.some.inj hf
  exact W.vret hx hb hr (fun t ht hW => ⟨⟨(), rfl, trivial, ⟨by rw [ht]; exact hC.1, va_K.moved hW.alike hK, hC.2.1⟩, by rw [ht]; exact hC.2.2.2⟩, hC.2.2.1.F ht⟩) hC.2.2.1.2.2 dX0_addCase_34
theorem k_X0_addCases_fieldLink_RX0_34_SR_Code_caseCount_I : Cond.fieldLink RX0 34 "StatementRules2$Code" "caseCount" "I" ∈ wzX0_addCases := List.mem_cons_of_mem _ (List.mem_append_left _ (List.mem_of_getElem? (i := 0) rfl))
theorem i_X0_addCases_X0 : ∀ w ∈ wsX00, w ∈ wzX0_addCases := fun _ h => List.mem_cons_of_mem _ (List.mem_append_right _ (List.mem_append_left _ (h)))
theorem k_X0_addCases_fieldLink_RX0_21_SR_Code_caseValues_I : Cond.fieldLink RX0 21 "StatementRules2$Code" "caseValues" "[I" ∈ wzX0_addCases := List.mem_cons_of_mem _ (List.mem_append_left _ (List.mem_of_getElem? (i := 1) rfl))
theorem k_X0_addCases_initialized_RX11 : Cond.initialized RX11 ∈ wzX0_addCases := List.mem_cons_of_mem _ (List.mem_append_left _ (List.mem_of_getElem? (i := 2) rfl))
theorem k_X0_addCases_static_yX11_at : Cond.static yX11_at ∈ wzX0_addCases := List.mem_cons_of_mem _ (List.mem_append_left _ (List.mem_of_getElem? (i := 3) rfl))
theorem k_X0_addCases_fieldLink_RX0_24_SR_Code_caseTargets_I : Cond.fieldLink RX0 24 "StatementRules2$Code" "caseTargets" "[I" ∈ wzX0_addCases := List.mem_cons_of_mem _ (List.mem_append_left _ (List.mem_of_getElem? (i := 4) rfl))
set_option maxHeartbeats 4000000 in
set_option maxRecDepth 100000 in
theorem j_X0_addCases_2 {p : Program} {e : Env} {s : State} {m : MethodId} {args : Array Value} {below : List Frame} {meth : Method} {c : Code} {A : Nat → Prop} (l : Launch) (dC : Nat → ClassId) (dI : Nat → Nat → Nat) (Q : CQ) (N : Nat) (z9h : Nat) (R : Unit × CS) (hx : p.tables.exec = Jvm.exec) (hb : c.code = cX0_addCases) (hr : meth.sig.returnType = none) (hml : c.maxLocals = 4) (hown : s.vm.findClass RX0 = some m.cls) (hts : ∀ w ∈ wzX0_addCases, w.before args s = true) (hlocks : meth.locks = false) (hZ : zAMB s) (hA : ∀ q : Nat, s.heap.size ≤ q → A q) (hK : va_K (dC, dI) vwCl (cT Q) s) : ∀ (n9 : Nat), ∀ (σ : CS) (x1 : Int32) (x2 : Int32) (x3 : Int32) (H : Heap) (locs : List Loc) (ls : Array Slot), f_X0_addCases_2 N n9 σ x1 x2 x3 = some R → z9h ≤ CS.hs σ → CP dC dI Q A s.heap σ H locs → lv_has ls 4 [(0, .ref (Q.o 2)), (1, .int x1), (2, .int x2), (3, .int x3)] → W p l e ({ frames := 3, cells := CS.hs R.2 - z9h, slots := 17 * (CS.hs R.2 - z9h), locals := 60 * 3 }) s m args below meth c H locs (CS.hs σ - z9h) (17 * (CS.hs σ - z9h)) (MQ below (va_Qv (fun (_ : Unit) => True) (fun (_ : Unit) (t : State) => zPost dC dI A (cW Q R.2) (cT Q) t ∧ t.heap.size = CS.hs R.2) A) args s (CS.hs R.2 - z9h) (17 * (CS.hs R.2 - z9h)) A) (F0 m 2 ls []) := by
  intro n9
  induction n9 with
  | zero => intro σ x1 x2 x3 H locs ls hf; exact absurd hf (by intro q9; cases q9)
  | succ n9 ih =>
    intro σ x1 x2 x3 H locs ls hf h0 hC hl
    replace hf : b_X0_addCases_2 N (f_X0_addCases_2 N n9) σ x1 x2 x3 = some R := hf
    unfold b_X0_addCases_2 at hf
    have hMK := fun (σ : CS) (x1 : Int32) (x2 : Int32) (x3 : Int32) => m_X0_addCases_2 N n9 σ x1 x2 x3
    refine lv_iload_n hx hb dX0_addCases_2 rfl (lv_at hl 3 rfl) ?_
    refine lv_aload_n hx hb dX0_addCases_3 rfl (lv_at hl 0 rfl) ?_
    refine cG_22 (v := (σ.i 22)) hx hb hts i_X0_addCases_X0 hown hK hC (hts (.fieldLink RX0 34 "StatementRules2$Code" "caseCount" "I") k_X0_addCases_fieldLink_RX0_34_SR_Code_caseCount_I) (fun _ q9 => q9) dX0_addCases_4 rfl ?_
    refine lv_icmp_ge (tgt := 43) hx hb dX0_addCases_7 (by decide) (fun c1 => ?_) (fun c1 => ?_)
    ·
      replace hf := (if_pos c1).symm.trans hf
      refine lv_aload_n hx hb dX0_addCases_43 rfl (lv_at hl 0 rfl) ?_
      refine lv_iload_n hx hb dX0_addCases_44 rfl (lv_at hl 1 rfl) ?_
      refine cP_22 (v := x1) hx hb hts i_X0_addCases_X0 hown hK hC (hts (.fieldLink RX0 34 "StatementRules2$Code" "caseCount" "I") k_X0_addCases_fieldLink_RX0_34_SR_Code_caseCount_I) (fun _ q9 => q9) dX0_addCases_45 (fun H locs hC => ?_)
      refine lv_aload_n hx hb dX0_addCases_48 rfl (lv_at hl 0 rfl) ?_
      refine lv_bipush (v := 6) hx hb dX0_addCases_49 (by decide) ?_
      refine lv_iconst (v := 0) hx hb dX0_addCases_51 (by decide) ?_
      obtain ⟨p2, hcp2, hf⟩ := hf_bind hf
      have mo3 : CS.hs σ ≤ CS.hs p2.2 := Mono.go hcp2 (m_X0_add N (CS.setI σ 22 x1) 6 0)
      have hr9 : CS.hs p2.2 ≤ CS.hs R.2 := Mono.go hf (mono_bind (m_X0_add N p2.2 30 x2) (fun p6 => (mono_some (Nat.le_refl _))))
      have hFc := cFree hC hA
      refine va_callv (va_runV (As := [.int 6, .int 0]) (rest := []) ⟨hx, hb, hml, hown, hts⟩ (c_X0_add l dC dI Q N (CS.setI σ 22 x1) 6 0 p2 hcp2) (cwV 2 hts hX0_addCases_X0_add_v61 rfl rfl rfl (by decide +kernel) ⟨(show 2 + 1 ≤ 3 by omega), (show 8 + (3 + 11) + 60 * 2 ≤ 60 * 3 by omega)⟩) ⟨zPre.blind, va_recv hK hC.1 (ci := 0) (q0 := 2) rfl rfl, cPre_go hZ hK hC⟩ rfl rfl hl.1 rfl (lv_room (Nat.le_of_ble_eq_true rfl)) dX0_addCases_52 (cAcc h0 mo3 hr9)) hC.2.2.1 (fun q _ h => hFc q h) hFc (fun u9 t9 H1 locs ht hvm hw hB hz1 hk1 hS => ?_)
      obtain ⟨⟨hP, hK1, hD1⟩, hsz1⟩ := hB
      rw [ht] at hP hsz1
      have hC : CP dC dI Q A s.heap p2.2 H1 locs := ⟨hP, hD1.weaken (fun _ _ _ h => hFc _ h), hS, hsz1⟩
      generalize H1 = H at hC ⊢
      have h5 : z9h ≤ CS.hs p2.2 := Nat.le_trans h0 mo3
      refine W.widen (k := CS.hs p2.2 - z9h) (n := 17 * (CS.hs p2.2 - z9h)) (cAcc2 h0 mo3) (cAcc3 h0 mo3) ?_
      refine lv_aload_n hx hb dX0_addCases_55 rfl (lv_at hl 0 rfl) ?_
      refine lv_bipush (v := 30) hx hb dX0_addCases_56 (by decide) ?_
      refine lv_iload_n hx hb dX0_addCases_58 rfl (lv_at hl 2 rfl) ?_
      obtain ⟨p6, hcp6, hf⟩ := hf_bind hf
      have mo7 : CS.hs p2.2 ≤ CS.hs p6.2 := Mono.go hcp6 (m_X0_add N p2.2 30 x2)
      have hr9 : CS.hs p6.2 ≤ CS.hs R.2 := Mono.go hf (mono_some (Nat.le_refl _))
      have hFc := cFree hC hA
      refine va_callv (va_runV (As := [.int 30, .int x2]) (rest := []) ⟨hx, hb, hml, hown, hts⟩ (c_X0_add l dC dI Q N p2.2 30 x2 p6 hcp6) (cwV 2 hts hX0_addCases_X0_add_v61 rfl rfl rfl (by decide +kernel) ⟨(show 2 + 1 ≤ 3 by omega), (show 8 + (3 + 11) + 60 * 2 ≤ 60 * 3 by omega)⟩) ⟨zPre.blind, va_recv hK hC.1 (ci := 0) (q0 := 2) rfl rfl, cPre_go hZ hK hC⟩ rfl rfl hl.1 rfl (lv_room (Nat.le_of_ble_eq_true rfl)) dX0_addCases_59 (cAcc h5 mo7 hr9)) hC.2.2.1 (fun q _ h => hFc q h) hFc (fun u9 t9 H1 locs ht hvm hw hB hz1 hk1 hS => ?_)
      obtain ⟨⟨hP, hK1, hD1⟩, hsz1⟩ := hB
      rw [ht] at hP hsz1
      have hC : CP dC dI Q A s.heap p6.2 H1 locs := ⟨hP, hD1.weaken (fun _ _ _ h => hFc _ h), hS, hsz1⟩
      generalize H1 = H at hC ⊢
      have h9 : z9h ≤ CS.hs p6.2 := Nat.le_trans h5 mo7
      refine W.widen (k := CS.hs p6.2 - z9h) (n := 17 * (CS.hs p6.2 - z9h)) (cAcc2 h5 mo7) (cAcc3 h5 mo7) ?_
      obtain rfl := Option.some.inj hf
      exact W.vret hx hb hr (fun t ht hW => ⟨⟨(), rfl, trivial, ⟨by rw [ht]; exact hC.1, va_K.moved hW.alike hK, hC.2.1⟩, by rw [ht]; exact hC.2.2.2⟩, hC.2.2.1.F ht⟩) hC.2.2.1.2.2 dX0_addCases_62
    ·
      replace hf := (if_neg c1).symm.trans hf
      refine lv_aload_n hx hb dX0_addCases_10 rfl (lv_at hl 0 rfl) ?_
      refine lv_iconst (v := 0) hx hb dX0_addCases_11 (by decide) ?_
      refine lv_aload_n hx hb dX0_addCases_12 rfl (lv_at hl 0 rfl) ?_
      refine cG_18 hx hb hts i_X0_addCases_X0 hown hK hC (hts (.fieldLink RX0 21 "StatementRules2$Code" "caseValues" "[I") k_X0_addCases_fieldLink_RX0_21_SR_Code_caseValues_I) (fun _ q9 => q9) dX0_addCases_13 ?_
      refine lv_iload_n hx hb dX0_addCases_16 rfl (lv_at hl 3 rfl) ?_
      have he9 := (cArr_18 (Q := Q) (σ := σ))
      have hFc := cFree1 hC hA he9
      have hr9 : CS.hs σ ≤ CS.hs R.2 := Mono.go hf (mono_bind (m_X0_add N σ 0 (gAt (σ.a 18) 320 x3)) (fun p11 => (mono_bind (m_X0_add N p11.2 34 (gAt (p11.2.a 19) 320 x3)) (fun p16 => (hMK p16.2 x1 x2 (x3 + 1))))))
      refine va_calli (va_runSN (As := [.ref (Q.q 18), .int x3]) (rest := [.int 0, .ref (Q.o 2)]) ⟨hx, hb, hml, hown, hts⟩ (c_X11_at l dC dI _ (Q.q 18) (Q.c 0) 320 (σ.a 18) x3 (by decide)) ⟨va_cnB 2 hts hX0_addCases_X11_at_n57 rfl rfl rfl (hZ.1 (.methodLinkNest RX0 57 yX11_at "StatementRules2") (by decide +kernel)) (hts (.initialized RX11) k_X0_addCases_initialized_RX11) (by decide +kernel) ⟨(show 1 + 1 ≤ 3 by omega), (show 8 + (2 + 11) + 60 * 1 ≤ 60 * 3 by omega)⟩, (hts (.static yX11_at) k_X0_addCases_static_yX11_at), trivial⟩ ⟨zPre.blind, zPre.go hZ (cOne hC.1 he9) (hK.sub (tys' := [(Q.c 0, .int)]) [0] rfl) (cOneD hC.2.1 he9)⟩ rfl rfl hl.1 rfl (lv_room (Nat.le_of_ble_eq_true rfl)) dX0_addCases_17 ⟨cAcc4 h0 hr9, cAcc5 h0 hr9⟩) hC.2.2.1 (fun q _ h => hFc q h) hFc (fun r10 u9 t9 H1 locs ht hvm hw hB hz1 hk1 hS => ?_)
      obtain ⟨⟨hP1, hK1, hD1⟩, hsz1⟩ := hB
      rw [ht] at hP1 hsz1
      have hC := cBack (σ' := σ) hC he9 (cSelf he9) (Eq.refl (CS.hs σ)) hk1 hP1 hsz1 hS
      generalize H1 = H at hC ⊢
      obtain rfl : r10 = (gAt (σ.a 18) 320 x3) := hw
      obtain ⟨p11, hcp11, hf⟩ := hf_bind hf
      have mo12 : CS.hs σ ≤ CS.hs p11.2 := Mono.go hcp11 (m_X0_add N σ 0 (gAt (σ.a 18) 320 x3))
      have hr9 : CS.hs p11.2 ≤ CS.hs R.2 := Mono.go hf (mono_bind (m_X0_add N p11.2 34 (gAt (p11.2.a 19) 320 x3)) (fun p16 => (hMK p16.2 x1 x2 (x3 + 1))))
      have hFc := cFree hC hA
      refine va_callv (va_runV (As := [.int 0, .int (gAt (σ.a 18) 320 x3)]) (rest := []) ⟨hx, hb, hml, hown, hts⟩ (c_X0_add l dC dI Q N σ 0 (gAt (σ.a 18) 320 x3) p11 hcp11) (cwV 2 hts hX0_addCases_X0_add_v61 rfl rfl rfl (by decide +kernel) ⟨(show 2 + 1 ≤ 3 by omega), (show 8 + (3 + 11) + 60 * 2 ≤ 60 * 3 by omega)⟩) ⟨zPre.blind, va_recv hK hC.1 (ci := 0) (q0 := 2) rfl rfl, cPre_go hZ hK hC⟩ rfl rfl hl.1 rfl (lv_room (Nat.le_of_ble_eq_true rfl)) dX0_addCases_20 (cAcc h0 mo12 hr9)) hC.2.2.1 (fun q _ h => hFc q h) hFc (fun u9 t9 H1 locs ht hvm hw hB hz1 hk1 hS => ?_)
      obtain ⟨⟨hP, hK1, hD1⟩, hsz1⟩ := hB
      rw [ht] at hP hsz1
      have hC : CP dC dI Q A s.heap p11.2 H1 locs := ⟨hP, hD1.weaken (fun _ _ _ h => hFc _ h), hS, hsz1⟩
      generalize H1 = H at hC ⊢
      have h14 : z9h ≤ CS.hs p11.2 := Nat.le_trans h0 mo12
      refine W.widen (k := CS.hs p11.2 - z9h) (n := 17 * (CS.hs p11.2 - z9h)) (cAcc2 h0 mo12) (cAcc3 h0 mo12) ?_
      refine lv_aload_n hx hb dX0_addCases_23 rfl (lv_at hl 0 rfl) ?_
      refine lv_bipush (v := 34) hx hb dX0_addCases_24 (by decide) ?_
      refine lv_aload_n hx hb dX0_addCases_26 rfl (lv_at hl 0 rfl) ?_
      refine cG_19 hx hb hts i_X0_addCases_X0 hown hK hC (hts (.fieldLink RX0 24 "StatementRules2$Code" "caseTargets" "[I") k_X0_addCases_fieldLink_RX0_24_SR_Code_caseTargets_I) (fun _ q9 => q9) dX0_addCases_27 ?_
      refine lv_iload_n hx hb dX0_addCases_30 rfl (lv_at hl 3 rfl) ?_
      have he9 := (cArr_19 (Q := Q) (σ := p11.2))
      have hFc := cFree1 hC hA he9
      have hr9 : CS.hs p11.2 ≤ CS.hs R.2 := Mono.go hf (mono_bind (m_X0_add N p11.2 34 (gAt (p11.2.a 19) 320 x3)) (fun p16 => (hMK p16.2 x1 x2 (x3 + 1))))
      refine va_calli (va_runSN (As := [.ref (Q.q 19), .int x3]) (rest := [.int 34, .ref (Q.o 2)]) ⟨hx, hb, hml, hown, hts⟩ (c_X11_at l dC dI _ (Q.q 19) (Q.c 0) 320 (p11.2.a 19) x3 (by decide)) ⟨va_cnB 2 hts hX0_addCases_X11_at_n57 rfl rfl rfl (hZ.1 (.methodLinkNest RX0 57 yX11_at "StatementRules2") (by decide +kernel)) (hts (.initialized RX11) k_X0_addCases_initialized_RX11) (by decide +kernel) ⟨(show 1 + 1 ≤ 3 by omega), (show 8 + (2 + 11) + 60 * 1 ≤ 60 * 3 by omega)⟩, (hts (.static yX11_at) k_X0_addCases_static_yX11_at), trivial⟩ ⟨zPre.blind, zPre.go hZ (cOne hC.1 he9) (hK.sub (tys' := [(Q.c 0, .int)]) [0] rfl) (cOneD hC.2.1 he9)⟩ rfl rfl hl.1 rfl (lv_room (Nat.le_of_ble_eq_true rfl)) dX0_addCases_31 ⟨cAcc4 h14 hr9, cAcc5 h14 hr9⟩) hC.2.2.1 (fun q _ h => hFc q h) hFc (fun r15 u9 t9 H1 locs ht hvm hw hB hz1 hk1 hS => ?_)
      obtain ⟨⟨hP1, hK1, hD1⟩, hsz1⟩ := hB
      rw [ht] at hP1 hsz1
      have hC := cBack (σ' := p11.2) hC he9 (cSelf he9) (Eq.refl (CS.hs p11.2)) hk1 hP1 hsz1 hS
      generalize H1 = H at hC ⊢
      obtain rfl : r15 = (gAt (p11.2.a 19) 320 x3) := hw
      obtain ⟨p16, hcp16, hf⟩ := hf_bind hf
      have mo17 : CS.hs p11.2 ≤ CS.hs p16.2 := Mono.go hcp16 (m_X0_add N p11.2 34 (gAt (p11.2.a 19) 320 x3))
      have hr9 : CS.hs p16.2 ≤ CS.hs R.2 := Mono.go hf (hMK p16.2 x1 x2 (x3 + 1))
      have hFc := cFree hC hA
      refine va_callv (va_runV (As := [.int 34, .int (gAt (p11.2.a 19) 320 x3)]) (rest := []) ⟨hx, hb, hml, hown, hts⟩ (c_X0_add l dC dI Q N p11.2 34 (gAt (p11.2.a 19) 320 x3) p16 hcp16) (cwV 2 hts hX0_addCases_X0_add_v61 rfl rfl rfl (by decide +kernel) ⟨(show 2 + 1 ≤ 3 by omega), (show 8 + (3 + 11) + 60 * 2 ≤ 60 * 3 by omega)⟩) ⟨zPre.blind, va_recv hK hC.1 (ci := 0) (q0 := 2) rfl rfl, cPre_go hZ hK hC⟩ rfl rfl hl.1 rfl (lv_room (Nat.le_of_ble_eq_true rfl)) dX0_addCases_34 (cAcc h14 mo17 hr9)) hC.2.2.1 (fun q _ h => hFc q h) hFc (fun u9 t9 H1 locs ht hvm hw hB hz1 hk1 hS => ?_)
      obtain ⟨⟨hP, hK1, hD1⟩, hsz1⟩ := hB
      rw [ht] at hP hsz1
      have hC : CP dC dI Q A s.heap p16.2 H1 locs := ⟨hP, hD1.weaken (fun _ _ _ h => hFc _ h), hS, hsz1⟩
      generalize H1 = H at hC ⊢
      have h19 : z9h ≤ CS.hs p16.2 := Nat.le_trans h14 mo17
      refine W.widen (k := CS.hs p16.2 - z9h) (n := 17 * (CS.hs p16.2 - z9h)) (cAcc2 h14 mo17) (cAcc3 h14 mo17) ?_
      refine lv_iinc (v := (x3 + 1)) (lv' := [(3, .int (x3 + 1)), (0, .ref (Q.o 2)), (1, .int x1), (2, .int x2)]) hx hb dX0_addCases_37 hl (k := 3) rfl rfl (by decide) rfl (fun ls hl => ?_)
      refine lv_goto (tgt := 2) hx hb dX0_addCases_40 (by decide) ?_
      exact ih p16.2 x1 x2 (x3 + 1) _ _ _ hf h19 hC (lv_sub hl [1, 2, 3, 0] rfl)
set_option maxHeartbeats 4000000 in
set_option maxRecDepth 100000 in
theorem c_X0_addCases (l : Launch) (dC : Nat → ClassId) (dI : Nat → Nat → Nat) (Q : CQ) (N : Nat) (σ : CS) (x1 : Int32) (x2 : Int32) (R : Unit × CS) (hf : f_X0_addCases N σ x1 x2 = some R) : Met l yX0_addCases wzX0_addCases ({ frames := 3, cells := CS.hs R.2 - CS.hs σ, slots := 17 * (CS.hs R.2 - CS.hs σ), locals := 60 * 3 }) (va_Pc [.ref (Q.o 2), .int x1, .int x2] (zPre dC dI (CS.hs σ) (cW Q σ) (cT Q))) (va_Qv (fun (_ : Unit) => True) (fun (_ : Unit) (t : State) => zPost dC dI (va_A (cW Q σ) (CS.hs σ)) (cW Q R.2) (cT Q) t ∧ t.heap.size = CS.hs R.2) (va_A (cW Q σ) (CS.hs σ))) (CS.hs R.2 - CS.hs σ) (17 * (CS.hs R.2 - CS.hs σ)) (va_A (cW Q σ) (CS.hs σ)) := by
  refine Met.ofW (cc := cX0_addCases) (maxL := 4) (ret := none) (by decide) rfl ?_
  intro p e s m args below meth c s₁ B hml hv
  obtain ⟨rfl, hsz, hZ, hP, hK, hD0⟩ := hv
  have hx := B.exec
  have hb := B.bytes
  have hr := B.returns
  have hts := atoms_spec (ws := wzX0_addCases) B.pre
  have hown : s.vm.findClass RX0 = some m.cls := findClass_of_methodNamed B.named
  have hlocks := B.notSynchronized
  have hD := hD0.self (sz := CS.hs σ)
  generalize hAe : va_A (cW Q σ) (CS.hs σ) = A at hD ⊢
  have hA : ∀ q : Nat, s.heap.size ≤ q → A q := fun q h => by rw [← hAe]; exact Or.inr (hsz ▸ h)
  have hC : CP dC dI Q A s.heap σ s.heap [] := ⟨hP, hD, va_S.rf, hsz⟩
  have h0 : CS.hs σ ≤ CS.hs σ := Nat.le_refl _
  have hl := lv_entry ([.ref (Q.o 2), .int x1, .int x2]) (n := 4) (Nat.le_of_ble_eq_true rfl)
  rw [lg_entry_eq]
  generalize (lg_sl ([.ref (Q.o 2), .int x1, .int x2]) ++ List.replicate (4 - (lg_sl ([.ref (Q.o 2), .int x1, .int x2])).length) Slot.unset).toArray = ls at hl ⊢
  have hl : lv_has ls 4 [(0, .ref (Q.o 2)), (1, .int x1), (2, .int x2)] := hl
  unfold f_X0_addCases at hf
  refine W.widen (k := CS.hs σ - CS.hs σ) (n := 17 * (CS.hs σ - CS.hs σ)) (Nat.zero_le _) (Nat.zero_le _) ?_
  refine lv_iload_n hx hb dX0_addCases_0 rfl (lv_at hl 1 rfl) ?_
  refine lv_istore_n (lv' := [(3, .int x1), (0, .ref (Q.o 2)), (1, .int x1), (2, .int x2)]) hx hb dX0_addCases_1 rfl hl (by decide) rfl (fun ls hl => ?_)
  exact j_X0_addCases_2 l dC dI Q N (CS.hs σ) R hx hb hr hml hown hts hlocks hZ hA hK N σ x1 x2 x1 _ _ _ hf h0 hC (lv_sub hl [1, 2, 3, 0] rfl)
theorem k_X9_stop_fieldLink_RX9_31_SR_Tokens_length_I : Cond.fieldLink RX9 31 "StatementRules2$Tokens" "length" "I" ∈ wzX9_stop := List.mem_cons_of_mem _ (List.mem_append_left _ (List.mem_of_getElem? (i := 0) rfl))
theorem i_X9_stop_X9 : ∀ w ∈ wsX90, w ∈ wzX9_stop := fun _ h => List.mem_cons_of_mem _ (List.mem_append_right _ (List.mem_append_left _ (h)))
theorem k_X9_stop_fieldLink_RX9_34_SR_Tokens_next_I : Cond.fieldLink RX9 34 "StatementRules2$Tokens" "next" "I" ∈ wzX9_stop := List.mem_cons_of_mem _ (List.mem_append_left _ (List.mem_of_getElem? (i := 1) rfl))
theorem k_X9_stop_fieldLink_RX9_40_SR_Tokens_type_I : Cond.fieldLink RX9 40 "StatementRules2$Tokens" "type" "I" ∈ wzX9_stop := List.mem_cons_of_mem _ (List.mem_append_left _ (List.mem_of_getElem? (i := 2) rfl))
set_option maxHeartbeats 4000000 in
set_option maxRecDepth 100000 in
theorem c_X9_stop (l : Launch) (dC : Nat → ClassId) (dI : Nat → Nat → Nat) (Q : CQ) (N : Nat) (σ : CS) (R : Unit × CS) (hf : f_X9_stop N σ = some R) : Met l yX9_stop wzX9_stop ({ frames := 1, cells := CS.hs R.2 - CS.hs σ, slots := 17 * (CS.hs R.2 - CS.hs σ), locals := 60 * 1 }) (va_Pc [.ref (Q.o 4)] (zPre dC dI (CS.hs σ) (cW Q σ) (cT Q))) (va_Qv (fun (_ : Unit) => True) (fun (_ : Unit) (t : State) => zPost dC dI (va_A (cW Q σ) (CS.hs σ)) (cW Q R.2) (cT Q) t ∧ t.heap.size = CS.hs R.2) (va_A (cW Q σ) (CS.hs σ))) (CS.hs R.2 - CS.hs σ) (17 * (CS.hs R.2 - CS.hs σ)) (va_A (cW Q σ) (CS.hs σ)) := by
  refine Met.ofW (cc := cX9_stop) (maxL := 1) (ret := none) (by decide) rfl ?_
  intro p e s m args below meth c s₁ B hml hv
  obtain ⟨rfl, hsz, hZ, hP, hK, hD0⟩ := hv
  have hx := B.exec
  have hb := B.bytes
  have hr := B.returns
  have hts := atoms_spec (ws := wzX9_stop) B.pre
  have hown : s.vm.findClass RX9 = some m.cls := findClass_of_methodNamed B.named
  have hlocks := B.notSynchronized
  have hD := hD0.self (sz := CS.hs σ)
  generalize hAe : va_A (cW Q σ) (CS.hs σ) = A at hD ⊢
  have hA : ∀ q : Nat, s.heap.size ≤ q → A q := fun q h => by rw [← hAe]; exact Or.inr (hsz ▸ h)
  have hC : CP dC dI Q A s.heap σ s.heap [] := ⟨hP, hD, va_S.rf, hsz⟩
  have h0 : CS.hs σ ≤ CS.hs σ := Nat.le_refl _
  have hl := lv_entry ([.ref (Q.o 4)]) (n := 1) (Nat.le_of_ble_eq_true rfl)
  rw [lg_entry_eq]
  generalize (lg_sl ([.ref (Q.o 4)]) ++ List.replicate (1 - (lg_sl ([.ref (Q.o 4)])).length) Slot.unset).toArray = ls at hl ⊢
  have hl : lv_has ls 1 [(0, .ref (Q.o 4))] := hl
  unfold f_X9_stop at hf
  refine W.widen (k := CS.hs σ - CS.hs σ) (n := 17 * (CS.hs σ - CS.hs σ)) (Nat.zero_le _) (Nat.zero_le _) ?_
  refine lv_aload_n hx hb dX9_stop_0 rfl (lv_at hl 0 rfl) ?_
  refine lv_aload_n hx hb dX9_stop_1 rfl (lv_at hl 0 rfl) ?_
  refine cG_41 (v := (σ.i 41)) hx hb hts i_X9_stop_X9 hown hK hC (hts (.fieldLink RX9 31 "StatementRules2$Tokens" "length" "I") k_X9_stop_fieldLink_RX9_31_SR_Tokens_length_I) (fun _ q9 => q9) dX9_stop_2 rfl ?_
  refine cP_42 (v := (σ.i 41)) hx hb hts i_X9_stop_X9 hown hK hC (hts (.fieldLink RX9 34 "StatementRules2$Tokens" "next" "I") k_X9_stop_fieldLink_RX9_34_SR_Tokens_next_I) (fun _ q9 => q9) dX9_stop_5 (fun H locs hC => ?_)
  refine lv_aload_n hx hb dX9_stop_8 rfl (lv_at hl 0 rfl) ?_
  refine lv_iconst (v := 0) hx hb dX9_stop_9 (by decide) ?_
  refine cP_43 (v := 0) hx hb hts i_X9_stop_X9 hown hK hC (hts (.fieldLink RX9 40 "StatementRules2$Tokens" "type" "I") k_X9_stop_fieldLink_RX9_40_SR_Tokens_type_I) (fun _ q9 => q9) dX9_stop_10 (fun H locs hC => ?_)
  obtain rfl := Option.some.inj hf
  exact W.vret hx hb hr (fun t ht hW => ⟨⟨(), rfl, trivial, ⟨by rw [ht]; exact hC.1, va_K.moved hW.alike hK, hC.2.1⟩, by rw [ht]; exact hC.2.2.2⟩, hC.2.2.1.F ht⟩) hC.2.2.1.2.2 dX9_stop_13
theorem k_X1_fail_fieldLink_RX1_30_SR_Formulas_faultNumber_I : Cond.fieldLink RX1 30 "StatementRules2$Formulas" "faultNumber" "I" ∈ wzX1_fail := List.mem_cons_of_mem _ (List.mem_append_left _ (List.mem_of_getElem? (i := 0) rfl))
theorem i_X1_fail_X7 : ∀ w ∈ wsX70, w ∈ wzX1_fail := fun _ h => List.mem_cons_of_mem _ (List.mem_append_right _ (List.mem_append_left _ (h)))
theorem k_X1_fail_fieldLink_RX1_34_SR_Formulas_faultPlace_I : Cond.fieldLink RX1 34 "StatementRules2$Formulas" "faultPlace" "I" ∈ wzX1_fail := List.mem_cons_of_mem _ (List.mem_append_left _ (List.mem_of_getElem? (i := 1) rfl))
theorem k_X1_fail_fieldLink_RX1_18_SR_Formulas_tokens_LSR_Tokens : Cond.fieldLink RX1 18 "StatementRules2$Formulas" "tokens" "LStatementRules2$Tokens;" ∈ wzX1_fail := List.mem_cons_of_mem _ (List.mem_append_left _ (List.mem_of_getElem? (i := 2) rfl))
set_option maxHeartbeats 4000000 in
set_option maxRecDepth 100000 in
theorem c_X1_fail (l : Launch) (dC : Nat → ClassId) (dI : Nat → Nat → Nat) (Q : CQ) (N : Nat) (σ : CS) (x1 : Int32) (x2 : Int32) (R : Unit × CS) (hf : f_X1_fail N σ x1 x2 = some R) : Met l yX1_fail wzX1_fail ({ frames := 2, cells := CS.hs R.2 - CS.hs σ, slots := 17 * (CS.hs R.2 - CS.hs σ), locals := 60 * 2 }) (va_Pc [.ref (Q.o 3), .int x1, .int x2] (zPre dC dI (CS.hs σ) (cW Q σ) (cT Q))) (va_Qv (fun (_ : Unit) => True) (fun (_ : Unit) (t : State) => zPost dC dI (va_A (cW Q σ) (CS.hs σ)) (cW Q R.2) (cT Q) t ∧ t.heap.size = CS.hs R.2) (va_A (cW Q σ) (CS.hs σ))) (CS.hs R.2 - CS.hs σ) (17 * (CS.hs R.2 - CS.hs σ)) (va_A (cW Q σ) (CS.hs σ)) := by
  refine Met.ofW (cc := cX1_fail) (maxL := 3) (ret := none) (by decide) rfl ?_
  intro p e s m args below meth c s₁ B hml hv
  obtain ⟨rfl, hsz, hZ, hP, hK, hD0⟩ := hv
  have hx := B.exec
  have hb := B.bytes
  have hr := B.returns
  have hts := atoms_spec (ws := wzX1_fail) B.pre
  have hown : s.vm.findClass RX1 = some m.cls := findClass_of_methodNamed B.named
  have hlocks := B.notSynchronized
  have hD := hD0.self (sz := CS.hs σ)
  generalize hAe : va_A (cW Q σ) (CS.hs σ) = A at hD ⊢
  have hA : ∀ q : Nat, s.heap.size ≤ q → A q := fun q h => by rw [← hAe]; exact Or.inr (hsz ▸ h)
  have hC : CP dC dI Q A s.heap σ s.heap [] := ⟨hP, hD, va_S.rf, hsz⟩
  have h0 : CS.hs σ ≤ CS.hs σ := Nat.le_refl _
  have hl := lv_entry ([.ref (Q.o 3), .int x1, .int x2]) (n := 3) (Nat.le_of_ble_eq_true rfl)
  rw [lg_entry_eq]
  generalize (lg_sl ([.ref (Q.o 3), .int x1, .int x2]) ++ List.replicate (3 - (lg_sl ([.ref (Q.o 3), .int x1, .int x2])).length) Slot.unset).toArray = ls at hl ⊢
  have hl : lv_has ls 3 [(0, .ref (Q.o 3)), (1, .int x1), (2, .int x2)] := hl
  unfold f_X1_fail at hf
  refine W.widen (k := CS.hs σ - CS.hs σ) (n := 17 * (CS.hs σ - CS.hs σ)) (Nat.zero_le _) (Nat.zero_le _) ?_
  refine lv_aload_n hx hb dX1_fail_0 rfl (lv_at hl 0 rfl) ?_
  refine cG_32 (v := (σ.i 32)) hx hb hts i_X1_fail_X7 hown hK hC (hts (.fieldLink RX1 30 "StatementRules2$Formulas" "faultNumber" "I") k_X1_fail_fieldLink_RX1_30_SR_Formulas_faultNumber_I) (fun _ q9 => q9) dX1_fail_1 rfl ?_
  refine lv_if_ne (tgt := 24) hx hb dX1_fail_4 (by decide) (fun c1 => ?_) (fun c1 => ?_)
  ·
    replace hf := (if_neg c1).symm.trans hf
    obtain rfl := Option.some.inj hf
    exact W.vret hx hb hr (fun t ht hW => ⟨⟨(), rfl, trivial, ⟨by rw [ht]; exact hC.1, va_K.moved hW.alike hK, hC.2.1⟩, by rw [ht]; exact hC.2.2.2⟩, hC.2.2.1.F ht⟩) hC.2.2.1.2.2 dX1_fail_24
  ·
    replace hf := (if_pos c1).symm.trans hf
    refine lv_aload_n hx hb dX1_fail_7 rfl (lv_at hl 0 rfl) ?_
    refine lv_iload_n hx hb dX1_fail_8 rfl (lv_at hl 1 rfl) ?_
    refine cP_32 (v := x1) hx hb hts i_X1_fail_X7 hown hK hC (hts (.fieldLink RX1 30 "StatementRules2$Formulas" "faultNumber" "I") k_X1_fail_fieldLink_RX1_30_SR_Formulas_faultNumber_I) (fun _ q9 => q9) dX1_fail_9 (fun H locs hC => ?_)
    refine lv_aload_n hx hb dX1_fail_12 rfl (lv_at hl 0 rfl) ?_
    refine lv_iload_n hx hb dX1_fail_13 rfl (lv_at hl 2 rfl) ?_
    refine cP_33 (v := x2) hx hb hts i_X1_fail_X7 hown hK hC (hts (.fieldLink RX1 34 "StatementRules2$Formulas" "faultPlace" "I") k_X1_fail_fieldLink_RX1_34_SR_Formulas_faultPlace_I) (fun _ q9 => q9) dX1_fail_14 (fun H locs hC => ?_)
    refine lv_aload_n hx hb dX1_fail_17 rfl (lv_at hl 0 rfl) ?_
    refine cG_28 hx hb hts i_X1_fail_X7 hown hK hC (hts (.fieldLink RX1 18 "StatementRules2$Formulas" "tokens" "LStatementRules2$Tokens;") k_X1_fail_fieldLink_RX1_18_SR_Formulas_tokens_LSR_Tokens) (fun _ q9 => q9) dX1_fail_18 ?_
    obtain ⟨p2, hcp2, hf⟩ := hf_bind hf
    have mo3 : CS.hs σ ≤ CS.hs p2.2 := Mono.go hcp2 (m_X9_stop N (CS.setI (CS.setI σ 32 x1) 33 x2))
    have hr9 : CS.hs p2.2 ≤ CS.hs R.2 := Mono.go hf (mono_some (Nat.le_refl _))
    have hFc := cFree hC hA
    refine va_callv (va_runV (As := []) (rest := []) ⟨hx, hb, hml, hown, hts⟩ (c_X9_stop l dC dI Q N (CS.setI (CS.setI σ 32 x1) 33 x2) p2 hcp2) (cwV 0 hts hX1_fail_X9_stop_v37 rfl rfl rfl (by decide +kernel) ⟨(show 1 + 1 ≤ 2 by omega), (show 8 + (1 + 11) + 60 * 1 ≤ 60 * 2 by omega)⟩) ⟨zPre.blind, va_recv hK hC.1 (ci := 8) (q0 := 4) rfl rfl, cPre_go hZ hK hC⟩ rfl rfl hl.1 rfl (lv_room (Nat.le_of_ble_eq_true rfl)) dX1_fail_21 (cAcc h0 mo3 hr9)) hC.2.2.1 (fun q _ h => hFc q h) hFc (fun u9 t9 H1 locs ht hvm hw hB hz1 hk1 hS => ?_)
    obtain ⟨⟨hP, hK1, hD1⟩, hsz1⟩ := hB
    rw [ht] at hP hsz1
    have hC : CP dC dI Q A s.heap p2.2 H1 locs := ⟨hP, hD1.weaken (fun _ _ _ h => hFc _ h), hS, hsz1⟩
    generalize H1 = H at hC ⊢
    have h5 : (CS.hs σ) ≤ CS.hs p2.2 := Nat.le_trans h0 mo3
    refine W.widen (k := CS.hs p2.2 - (CS.hs σ)) (n := 17 * (CS.hs p2.2 - (CS.hs σ))) (cAcc2 h0 mo3) (cAcc3 h0 mo3) ?_
    obtain rfl := Option.some.inj hf
    exact W.vret hx hb hr (fun t ht hW => ⟨⟨(), rfl, trivial, ⟨by rw [ht]; exact hC.1, va_K.moved hW.alike hK, hC.2.1⟩, by rw [ht]; exact hC.2.2.2⟩, hC.2.2.1.F ht⟩) hC.2.2.1.2.2 dX1_fail_24
theorem k_X1_found_fieldLink_RX1_18_SR_Formulas_tokens_LSR_Tokens : Cond.fieldLink RX1 18 "StatementRules2$Formulas" "tokens" "LStatementRules2$Tokens;" ∈ wzX1_found := List.mem_cons_of_mem _ (List.mem_append_left _ (List.mem_of_getElem? (i := 0) rfl))
theorem i_X1_found_X7 : ∀ w ∈ wsX70, w ∈ wzX1_found := fun _ h => List.mem_cons_of_mem _ (List.mem_append_right _ (List.mem_append_left _ (h)))
theorem i_X1_found_X9 : ∀ w ∈ wsX90, w ∈ wzX1_found := fun _ h => List.mem_cons_of_mem _ (List.mem_append_right _ (List.mem_append_right _ (List.mem_append_left _ (h))))
set_option maxHeartbeats 4000000 in
set_option maxRecDepth 100000 in
theorem c_X1_found (l : Launch) (dC : Nat → ClassId) (dI : Nat → Nat → Nat) (Q : CQ) (N : Nat) (σ : CS) (x1 : Int32) (R : Int32 × CS) (hf : f_X1_found N σ x1 = some R) : Met l yX1_found wzX1_found ({ frames := 1, cells := CS.hs R.2 - CS.hs σ, slots := 17 * (CS.hs R.2 - CS.hs σ), locals := 60 * 1 }) (va_Pc [.ref (Q.o 3), .int x1] (zPre dC dI (CS.hs σ) (cW Q σ) (cT Q))) (va_Qi (fun (r : Int32) (_ : Unit) => r = R.1) (fun (_ : Unit) (t : State) => zPost dC dI (va_A (cW Q σ) (CS.hs σ)) (cW Q R.2) (cT Q) t ∧ t.heap.size = CS.hs R.2) (va_A (cW Q σ) (CS.hs σ))) (CS.hs R.2 - CS.hs σ) (17 * (CS.hs R.2 - CS.hs σ)) (va_A (cW Q σ) (CS.hs σ)) := by
  refine Met.ofW (cc := cX1_found) (maxL := 2) (ret := (some .boolean)) (by decide) rfl ?_
  intro p e s m args below meth c s₁ B hml hv
  obtain ⟨rfl, hsz, hZ, hP, hK, hD0⟩ := hv
  have hx := B.exec
  have hb := B.bytes
  have hr := B.returns
  have hts := atoms_spec (ws := wzX1_found) B.pre
  have hown : s.vm.findClass RX1 = some m.cls := findClass_of_methodNamed B.named
  have hlocks := B.notSynchronized
  have hD := hD0.self (sz := CS.hs σ)
  generalize hAe : va_A (cW Q σ) (CS.hs σ) = A at hD ⊢
  have hA : ∀ q : Nat, s.heap.size ≤ q → A q := fun q h => by rw [← hAe]; exact Or.inr (hsz ▸ h)
  have hC : CP dC dI Q A s.heap σ s.heap [] := ⟨hP, hD, va_S.rf, hsz⟩
  have h0 : CS.hs σ ≤ CS.hs σ := Nat.le_refl _
  have hl := lv_entry ([.ref (Q.o 3), .int x1]) (n := 2) (Nat.le_of_ble_eq_true rfl)
  rw [lg_entry_eq]
  generalize (lg_sl ([.ref (Q.o 3), .int x1]) ++ List.replicate (2 - (lg_sl ([.ref (Q.o 3), .int x1])).length) Slot.unset).toArray = ls at hl ⊢
  have hl : lv_has ls 2 [(0, .ref (Q.o 3)), (1, .int x1)] := hl
  unfold f_X1_found at hf
  refine W.widen (k := CS.hs σ - CS.hs σ) (n := 17 * (CS.hs σ - CS.hs σ)) (Nat.zero_le _) (Nat.zero_le _) ?_
  refine lv_aload_n hx hb dX1_found_0 rfl (lv_at hl 0 rfl) ?_
  refine cG_28 hx hb hts i_X1_found_X7 hown hK hC (hts (.fieldLink RX1 18 "StatementRules2$Formulas" "tokens" "LStatementRules2$Tokens;") k_X1_found_fieldLink_RX1_18_SR_Formulas_tokens_LSR_Tokens) (fun _ q9 => q9) dX1_found_1 ?_
  refine cGN_43 (v := (σ.i 43)) hx hb hts i_X1_found_X9 hown hK hC (va_Nw.use rfl (hZ.1 (.fieldLinkNest RX1 53 "StatementRules2$Tokens" "type" "I" "StatementRules2") (by decide +kernel))) (fun _ q9 => q9) dX1_found_4 rfl ?_
  refine lv_iload_n hx hb dX1_found_7 rfl (lv_at hl 1 rfl) ?_
  refine lv_icmp_ne (tgt := 15) hx hb dX1_found_8 (by decide) (fun c1 => ?_) (fun c1 => ?_)
  ·
    replace hf := (if_neg c1).symm.trans hf
    refine lv_iconst (v := 0) hx hb dX1_found_15 (by decide) ?_
    obtain rfl := Option.some.inj hf
    exact W.zret (v := 0) hx hb hr (rfl) (fun t ht hW => ⟨⟨0, (), rfl, rfl, ⟨by rw [ht]; exact hC.1, va_K.moved hW.alike hK, hC.2.1⟩, by rw [ht]; exact hC.2.2.2⟩, hC.2.2.1.F ht⟩) hC.2.2.1.2.2 dX1_found_16
  ·
    replace hf := (if_pos c1).symm.trans hf
    refine lv_iconst (v := 1) hx hb dX1_found_11 (by decide) ?_
    refine lv_goto (tgt := 16) hx hb dX1_found_12 (by decide) ?_
    obtain rfl := Option.some.inj hf
    exact W.zret (v := 1) hx hb hr (rfl) (fun t ht hW => ⟨⟨1, (), rfl, rfl, ⟨by rw [ht]; exact hC.1, va_K.moved hW.alike hK, hC.2.1⟩, by rw [ht]; exact hC.2.2.2⟩, hC.2.2.1.F ht⟩) hC.2.2.1.2.2 dX1_found_16
theorem k_X1_misplaced_fieldLink_RX1_18_SR_Formulas_tokens_LSR_Tokens : Cond.fieldLink RX1 18 "StatementRules2$Formulas" "tokens" "LStatementRules2$Tokens;" ∈ wzX1_misplaced := List.mem_cons_of_mem _ (List.mem_append_left _ (List.mem_of_getElem? (i := 0) rfl))
theorem i_X1_misplaced_X7 : ∀ w ∈ wsX70, w ∈ wzX1_misplaced := fun _ h => List.mem_cons_of_mem _ (List.mem_append_right _ (List.mem_append_left _ (h)))
theorem i_X1_misplaced_X9 : ∀ w ∈ wsX90, w ∈ wzX1_misplaced := fun _ h => List.mem_cons_of_mem _ (List.mem_append_right _ (List.mem_append_right _ (List.mem_append_left _ (h))))
set_option maxHeartbeats 4000000 in
set_option maxRecDepth 100000 in
theorem c_X1_misplaced (l : Launch) (dC : Nat → ClassId) (dI : Nat → Nat → Nat) (Q : CQ) (N : Nat) (σ : CS) (R : Unit × CS) (hf : f_X1_misplaced N σ = some R) : Met l yX1_misplaced wzX1_misplaced ({ frames := 3, cells := CS.hs R.2 - CS.hs σ, slots := 17 * (CS.hs R.2 - CS.hs σ), locals := 60 * 3 }) (va_Pc [.ref (Q.o 3)] (zPre dC dI (CS.hs σ) (cW Q σ) (cT Q))) (va_Qv (fun (_ : Unit) => True) (fun (_ : Unit) (t : State) => zPost dC dI (va_A (cW Q σ) (CS.hs σ)) (cW Q R.2) (cT Q) t ∧ t.heap.size = CS.hs R.2) (va_A (cW Q σ) (CS.hs σ))) (CS.hs R.2 - CS.hs σ) (17 * (CS.hs R.2 - CS.hs σ)) (va_A (cW Q σ) (CS.hs σ)) := by
  refine Met.ofW (cc := cX1_misplaced) (maxL := 1) (ret := none) (by decide) rfl ?_
  intro p e s m args below meth c s₁ B hml hv
  obtain ⟨rfl, hsz, hZ, hP, hK, hD0⟩ := hv
  have hx := B.exec
  have hb := B.bytes
  have hr := B.returns
  have hts := atoms_spec (ws := wzX1_misplaced) B.pre
  have hown : s.vm.findClass RX1 = some m.cls := findClass_of_methodNamed B.named
  have hlocks := B.notSynchronized
  have hD := hD0.self (sz := CS.hs σ)
  generalize hAe : va_A (cW Q σ) (CS.hs σ) = A at hD ⊢
  have hA : ∀ q : Nat, s.heap.size ≤ q → A q := fun q h => by rw [← hAe]; exact Or.inr (hsz ▸ h)
  have hC : CP dC dI Q A s.heap σ s.heap [] := ⟨hP, hD, va_S.rf, hsz⟩
  have h0 : CS.hs σ ≤ CS.hs σ := Nat.le_refl _
  have hl := lv_entry ([.ref (Q.o 3)]) (n := 1) (Nat.le_of_ble_eq_true rfl)
  rw [lg_entry_eq]
  generalize (lg_sl ([.ref (Q.o 3)]) ++ List.replicate (1 - (lg_sl ([.ref (Q.o 3)])).length) Slot.unset).toArray = ls at hl ⊢
  have hl : lv_has ls 1 [(0, .ref (Q.o 3))] := hl
  unfold f_X1_misplaced at hf
  refine W.widen (k := CS.hs σ - CS.hs σ) (n := 17 * (CS.hs σ - CS.hs σ)) (Nat.zero_le _) (Nat.zero_le _) ?_
  refine lv_aload_n hx hb dX1_misplaced_0 rfl (lv_at hl 0 rfl) ?_
  refine lv_aload_n hx hb dX1_misplaced_1 rfl (lv_at hl 0 rfl) ?_
  refine lv_bipush (v := 6) hx hb dX1_misplaced_2 (by decide) ?_
  obtain ⟨p1, hcp1, hf⟩ := hf_bind hf
  have mo2 : CS.hs σ ≤ CS.hs p1.2 := Mono.go hcp1 (m_X1_found N σ 6)
  have hr9 : CS.hs p1.2 ≤ CS.hs R.2 := Mono.go hf (mono_ite (mono_bind (m_X1_fail N p1.2 2 (p1.2.i 44)) (fun p6 => (mono_some (Nat.le_refl _)))) (mono_bind (m_X1_fail N p1.2 1 (p1.2.i 44)) (fun p10 => (mono_some (Nat.le_refl _)))))
  have hFc := cFree hC hA
  refine va_calli (va_runU (As := [.int 6]) (rest := [.ref (Q.o 3)]) ⟨hx, hb, hml, hown, hts⟩ (c_X1_found l dC dI Q N σ 6 p1 hcp1) (va_cwU 1 hts hX1_misplaced_X1_found_u42 rfl rfl rfl rfl (by decide +kernel) ⟨(show 1 + 1 ≤ 3 by omega), (show 8 + (2 + 11) + 60 * 1 ≤ 60 * 3 by omega)⟩) ⟨zPre.blind, va_recv hK hC.1 (ci := 6) (q0 := 3) rfl rfl, cPre_go hZ hK hC⟩ rfl rfl hl.1 rfl (lv_room (Nat.le_of_ble_eq_true rfl)) dX1_misplaced_4 (cAcc h0 mo2 hr9)) hC.2.2.1 (fun q _ h => hFc q h) hFc (fun r3 u9 t9 H1 locs ht hvm hw hB hz1 hk1 hS => ?_)
  obtain ⟨⟨hP, hK1, hD1⟩, hsz1⟩ := hB
  rw [ht] at hP hsz1
  have hC : CP dC dI Q A s.heap p1.2 H1 locs := ⟨hP, hD1.weaken (fun _ _ _ h => hFc _ h), hS, hsz1⟩
  generalize H1 = H at hC ⊢
  have h4 : (CS.hs σ) ≤ CS.hs p1.2 := Nat.le_trans h0 mo2
  refine W.widen (k := CS.hs p1.2 - (CS.hs σ)) (n := 17 * (CS.hs p1.2 - (CS.hs σ))) (cAcc2 h0 mo2) (cAcc3 h0 mo2) ?_
  obtain rfl : r3 = p1.1 := hw
  refine lv_if_eq (tgt := 14) hx hb dX1_misplaced_7 (by decide) (fun c5 => ?_) (fun c5 => ?_)
  ·
    replace hf := (if_pos c5).symm.trans hf
    refine lv_iconst (v := 2) hx hb dX1_misplaced_14 (by decide) ?_
    refine lv_aload_n hx hb dX1_misplaced_15 rfl (lv_at hl 0 rfl) ?_
    refine cG_28 hx hb hts i_X1_misplaced_X7 hown hK hC (hts (.fieldLink RX1 18 "StatementRules2$Formulas" "tokens" "LStatementRules2$Tokens;") k_X1_misplaced_fieldLink_RX1_18_SR_Formulas_tokens_LSR_Tokens) (fun _ q9 => q9) dX1_misplaced_16 ?_
    refine cGN_44 (v := (p1.2.i 44)) hx hb hts i_X1_misplaced_X9 hown hK hC (va_Nw.use rfl (hZ.1 (.fieldLinkNest RX1 46 "StatementRules2$Tokens" "place" "I" "StatementRules2") (by decide +kernel))) (fun _ q9 => q9) dX1_misplaced_19 rfl ?_
    obtain ⟨p6, hcp6, hf⟩ := hf_bind hf
    have mo7 : CS.hs p1.2 ≤ CS.hs p6.2 := Mono.go hcp6 (m_X1_fail N p1.2 2 (p1.2.i 44))
    have hr9 : CS.hs p6.2 ≤ CS.hs R.2 := Mono.go hf (mono_some (Nat.le_refl _))
    have hFc := cFree hC hA
    refine va_callv (va_runU (As := [.int 2, .int (p1.2.i 44)]) (rest := []) ⟨hx, hb, hml, hown, hts⟩ (c_X1_fail l dC dI Q N p1.2 2 (p1.2.i 44) p6 hcp6) (va_cwU 2 hts hX1_misplaced_X1_fail_u49 rfl rfl rfl rfl (by decide +kernel) ⟨(show 2 + 1 ≤ 3 by omega), (show 8 + (3 + 11) + 60 * 2 ≤ 60 * 3 by omega)⟩) ⟨zPre.blind, va_recv hK hC.1 (ci := 6) (q0 := 3) rfl rfl, cPre_go hZ hK hC⟩ rfl rfl hl.1 rfl (lv_room (Nat.le_of_ble_eq_true rfl)) dX1_misplaced_22 (cAcc h4 mo7 hr9)) hC.2.2.1 (fun q _ h => hFc q h) hFc (fun u9 t9 H1 locs ht hvm hw hB hz1 hk1 hS => ?_)
    obtain ⟨⟨hP, hK1, hD1⟩, hsz1⟩ := hB
    rw [ht] at hP hsz1
    have hC : CP dC dI Q A s.heap p6.2 H1 locs := ⟨hP, hD1.weaken (fun _ _ _ h => hFc _ h), hS, hsz1⟩
    generalize H1 = H at hC ⊢
    have h9 : (CS.hs σ) ≤ CS.hs p6.2 := Nat.le_trans h4 mo7
    refine W.widen (k := CS.hs p6.2 - (CS.hs σ)) (n := 17 * (CS.hs p6.2 - (CS.hs σ))) (cAcc2 h4 mo7) (cAcc3 h4 mo7) ?_
    obtain rfl := Option.some.inj hf
    exact W.vret hx hb hr (fun t ht hW => ⟨⟨(), rfl, trivial, ⟨by rw [ht]; exact hC.1, va_K.moved hW.alike hK, hC.2.1⟩, by rw [ht]; exact hC.2.2.2⟩, hC.2.2.1.F ht⟩) hC.2.2.1.2.2 dX1_misplaced_25
  ·
    replace hf := (if_neg c5).symm.trans hf
    refine lv_iconst (v := 1) hx hb dX1_misplaced_10 (by decide) ?_
    refine lv_goto (tgt := 15) hx hb dX1_misplaced_11 (by decide) ?_
    refine lv_aload_n hx hb dX1_misplaced_15 rfl (lv_at hl 0 rfl) ?_
    refine cG_28 hx hb hts i_X1_misplaced_X7 hown hK hC (hts (.fieldLink RX1 18 "StatementRules2$Formulas" "tokens" "LStatementRules2$Tokens;") k_X1_misplaced_fieldLink_RX1_18_SR_Formulas_tokens_LSR_Tokens) (fun _ q9 => q9) dX1_misplaced_16 ?_
    refine cGN_44 (v := (p1.2.i 44)) hx hb hts i_X1_misplaced_X9 hown hK hC (va_Nw.use rfl (hZ.1 (.fieldLinkNest RX1 46 "StatementRules2$Tokens" "place" "I" "StatementRules2") (by decide +kernel))) (fun _ q9 => q9) dX1_misplaced_19 rfl ?_
    obtain ⟨p10, hcp10, hf⟩ := hf_bind hf
    have mo11 : CS.hs p1.2 ≤ CS.hs p10.2 := Mono.go hcp10 (m_X1_fail N p1.2 1 (p1.2.i 44))
    have hr9 : CS.hs p10.2 ≤ CS.hs R.2 := Mono.go hf (mono_some (Nat.le_refl _))
    have hFc := cFree hC hA
    refine va_callv (va_runU (As := [.int 1, .int (p1.2.i 44)]) (rest := []) ⟨hx, hb, hml, hown, hts⟩ (c_X1_fail l dC dI Q N p1.2 1 (p1.2.i 44) p10 hcp10) (va_cwU 2 hts hX1_misplaced_X1_fail_u49 rfl rfl rfl rfl (by decide +kernel) ⟨(show 2 + 1 ≤ 3 by omega), (show 8 + (3 + 11) + 60 * 2 ≤ 60 * 3 by omega)⟩) ⟨zPre.blind, va_recv hK hC.1 (ci := 6) (q0 := 3) rfl rfl, cPre_go hZ hK hC⟩ rfl rfl hl.1 rfl (lv_room (Nat.le_of_ble_eq_true rfl)) dX1_misplaced_22 (cAcc h4 mo11 hr9)) hC.2.2.1 (fun q _ h => hFc q h) hFc (fun u9 t9 H1 locs ht hvm hw hB hz1 hk1 hS => ?_)
    obtain ⟨⟨hP, hK1, hD1⟩, hsz1⟩ := hB
    rw [ht] at hP hsz1
    have hC : CP dC dI Q A s.heap p10.2 H1 locs := ⟨hP, hD1.weaken (fun _ _ _ h => hFc _ h), hS, hsz1⟩
    generalize H1 = H at hC ⊢
    have h13 : (CS.hs σ) ≤ CS.hs p10.2 := Nat.le_trans h4 mo11
    refine W.widen (k := CS.hs p10.2 - (CS.hs σ)) (n := 17 * (CS.hs p10.2 - (CS.hs σ))) (cAcc2 h4 mo11) (cAcc3 h4 mo11) ?_
    obtain rfl := Option.some.inj hf
    exact W.vret hx hb hr (fun t ht hW => ⟨⟨(), rfl, trivial, ⟨by rw [ht]; exact hC.1, va_K.moved hW.alike hK, hC.2.1⟩, by rw [ht]; exact hC.2.2.2⟩, hC.2.2.1.F ht⟩) hC.2.2.1.2.2 dX1_misplaced_25
theorem k_X9_byteAt_fieldLink_RX9_31_SR_Tokens_length_I : Cond.fieldLink RX9 31 "StatementRules2$Tokens" "length" "I" ∈ wzX9_byteAt := List.mem_cons_of_mem _ (List.mem_append_left _ (List.mem_of_getElem? (i := 0) rfl))
theorem i_X9_byteAt_X9 : ∀ w ∈ wsX90, w ∈ wzX9_byteAt := fun _ h => List.mem_cons_of_mem _ (List.mem_append_right _ (List.mem_append_left _ (h)))
theorem k_X9_byteAt_fieldLink_RX9_15_SR_Tokens_tape_I : Cond.fieldLink RX9 15 "StatementRules2$Tokens" "tape" "[I" ∈ wzX9_byteAt := List.mem_cons_of_mem _ (List.mem_append_left _ (List.mem_of_getElem? (i := 1) rfl))
set_option maxHeartbeats 4000000 in
set_option maxRecDepth 100000 in
theorem j_X9_byteAt_30 {p : Program} {e : Env} {s : State} {m : MethodId} {args : Array Value} {below : List Frame} {meth : Method} {c : Code} {A : Nat → Prop} (l : Launch) (dC : Nat → ClassId) (dI : Nat → Nat → Nat) (Q : CQ) (N : Nat) (z9h : Nat) (R : Int32 × CS) (hx : p.tables.exec = Jvm.exec) (hb : c.code = cX9_byteAt) (hr : meth.sig.returnType = (some .int)) (hml : c.maxLocals = 2) (hown : s.vm.findClass RX9 = some m.cls) (hts : ∀ w ∈ wzX9_byteAt, w.before args s = true) (hlocks : meth.locks = false) (hZ : zAMB s) (hA : ∀ q : Nat, s.heap.size ≤ q → A q) (hK : va_K (dC, dI) vwCl (cT Q) s) : ∀ (σ : CS) (H : Heap) (locs : List Loc) (ls : Array Slot), f_X9_byteAt_30 N σ = some R → z9h ≤ CS.hs σ → CP dC dI Q A s.heap σ H locs → lv_has ls 2 [] → W p l e ({ frames := 1, cells := CS.hs R.2 - z9h, slots := 17 * (CS.hs R.2 - z9h), locals := 60 * 1 }) s m args below meth c H locs (CS.hs σ - z9h) (17 * (CS.hs σ - z9h)) (MQ below (va_Qi (fun (r : Int32) (_ : Unit) => r = R.1) (fun (_ : Unit) (t : State) => zPost dC dI A (cW Q R.2) (cT Q) t ∧ t.heap.size = CS.hs R.2) A) args s (CS.hs R.2 - z9h) (17 * (CS.hs R.2 - z9h)) A) (F0 m 30 ls []) := by
  intro σ  H locs ls hf h0 hC hl
  unfold f_X9_byteAt_30 at hf
  refine lv_iconst (v := (-1)) hx hb dX9_byteAt_30 (by decide) ?_
  obtain rfl := Option.some.inj hf
  exact W.iret (v := (-1)) hx hb hr (fun t ht hW => ⟨⟨(-1), (), rfl, rfl, ⟨by rw [ht]; exact hC.1, va_K.moved hW.alike hK, hC.2.1⟩, by rw [ht]; exact hC.2.2.2⟩, hC.2.2.1.F ht⟩) hC.2.2.1.2.2 dX9_byteAt_31
set_option maxHeartbeats 4000000 in
set_option maxRecDepth 100000 in
theorem c_X9_byteAt (l : Launch) (dC : Nat → ClassId) (dI : Nat → Nat → Nat) (Q : CQ) (N : Nat) (σ : CS) (x1 : Int32) (R : Int32 × CS) (hf : f_X9_byteAt N σ x1 = some R) : Met l yX9_byteAt wzX9_byteAt ({ frames := 1, cells := CS.hs R.2 - CS.hs σ, slots := 17 * (CS.hs R.2 - CS.hs σ), locals := 60 * 1 }) (va_Pc [.ref (Q.o 4), .int x1] (zPre dC dI (CS.hs σ) (cW Q σ) (cT Q))) (va_Qi (fun (r : Int32) (_ : Unit) => r = R.1) (fun (_ : Unit) (t : State) => zPost dC dI (va_A (cW Q σ) (CS.hs σ)) (cW Q R.2) (cT Q) t ∧ t.heap.size = CS.hs R.2) (va_A (cW Q σ) (CS.hs σ))) (CS.hs R.2 - CS.hs σ) (17 * (CS.hs R.2 - CS.hs σ)) (va_A (cW Q σ) (CS.hs σ)) := by
  refine Met.ofW (cc := cX9_byteAt) (maxL := 2) (ret := (some .int)) (by decide) rfl ?_
  intro p e s m args below meth c s₁ B hml hv
  obtain ⟨rfl, hsz, hZ, hP, hK, hD0⟩ := hv
  have hx := B.exec
  have hb := B.bytes
  have hr := B.returns
  have hts := atoms_spec (ws := wzX9_byteAt) B.pre
  have hown : s.vm.findClass RX9 = some m.cls := findClass_of_methodNamed B.named
  have hlocks := B.notSynchronized
  have hD := hD0.self (sz := CS.hs σ)
  generalize hAe : va_A (cW Q σ) (CS.hs σ) = A at hD ⊢
  have hA : ∀ q : Nat, s.heap.size ≤ q → A q := fun q h => by rw [← hAe]; exact Or.inr (hsz ▸ h)
  have hC : CP dC dI Q A s.heap σ s.heap [] := ⟨hP, hD, va_S.rf, hsz⟩
  have h0 : CS.hs σ ≤ CS.hs σ := Nat.le_refl _
  have hl := lv_entry ([.ref (Q.o 4), .int x1]) (n := 2) (Nat.le_of_ble_eq_true rfl)
  rw [lg_entry_eq]
  generalize (lg_sl ([.ref (Q.o 4), .int x1]) ++ List.replicate (2 - (lg_sl ([.ref (Q.o 4), .int x1])).length) Slot.unset).toArray = ls at hl ⊢
  have hl : lv_has ls 2 [(0, .ref (Q.o 4)), (1, .int x1)] := hl
  unfold f_X9_byteAt at hf
  refine W.widen (k := CS.hs σ - CS.hs σ) (n := 17 * (CS.hs σ - CS.hs σ)) (Nat.zero_le _) (Nat.zero_le _) ?_
  refine lv_iload_n hx hb dX9_byteAt_0 rfl (lv_at hl 1 rfl) ?_
  refine lv_if_lt (tgt := 30) hx hb dX9_byteAt_1 (by decide) (fun c1 => ?_) (fun c1 => ?_)
  ·
    replace hf := (if_pos c1).symm.trans hf
    exact j_X9_byteAt_30 l dC dI Q N (CS.hs σ) R hx hb hr hml hown hts hlocks hZ hA hK σ _ _ _ hf h0 hC (lv_sub hl [] rfl)
  ·
    replace hf := (if_neg c1).symm.trans hf
    refine lv_iload_n hx hb dX9_byteAt_4 rfl (lv_at hl 1 rfl) ?_
    refine lv_aload_n hx hb dX9_byteAt_5 rfl (lv_at hl 0 rfl) ?_
    refine cG_41 (v := (σ.i 41)) hx hb hts i_X9_byteAt_X9 hown hK hC (hts (.fieldLink RX9 31 "StatementRules2$Tokens" "length" "I") k_X9_byteAt_fieldLink_RX9_31_SR_Tokens_length_I) (fun _ q9 => q9) dX9_byteAt_6 rfl ?_
    refine lv_icmp_ge (tgt := 30) hx hb dX9_byteAt_9 (by decide) (fun c2 => ?_) (fun c2 => ?_)
    ·
      replace hf := (if_pos c2).symm.trans hf
      exact j_X9_byteAt_30 l dC dI Q N (CS.hs σ) R hx hb hr hml hown hts hlocks hZ hA hK σ _ _ _ hf h0 hC (lv_sub hl [] rfl)
    ·
      replace hf := (if_neg c2).symm.trans hf
      refine lv_iload_n hx hb dX9_byteAt_12 rfl (lv_at hl 1 rfl) ?_
      refine lv_aload_n hx hb dX9_byteAt_13 rfl (lv_at hl 0 rfl) ?_
      refine cG_39 hx hb hts i_X9_byteAt_X9 hown hK hC (hts (.fieldLink RX9 15 "StatementRules2$Tokens" "tape" "[I") k_X9_byteAt_fieldLink_RX9_15_SR_Tokens_tape_I) (fun _ q9 => q9) dX9_byteAt_14 ?_
      refine va_alen (v := 900) hx hb hK hC.1 8 0 rfl rfl rfl dX9_byteAt_17 ?_
      refine lv_icmp_ge (tgt := 30) hx hb dX9_byteAt_18 (by decide) (fun c3 => ?_) (fun c3 => ?_)
      ·
        replace hf := (if_pos c3).symm.trans hf
        exact j_X9_byteAt_30 l dC dI Q N (CS.hs σ) R hx hb hr hml hown hts hlocks hZ hA hK σ _ _ _ hf h0 hC (lv_sub hl [] rfl)
      ·
        replace hf := (if_neg c3).symm.trans hf
        refine lv_aload_n hx hb dX9_byteAt_21 rfl (lv_at hl 0 rfl) ?_
        refine cG_39 hx hb hts i_X9_byteAt_X9 hown hK hC (hts (.fieldLink RX9 15 "StatementRules2$Tokens" "tape" "[I") k_X9_byteAt_fieldLink_RX9_15_SR_Tokens_tape_I) (fun _ q9 => q9) dX9_byteAt_22 ?_
        refine lv_iload_n hx hb dX9_byteAt_25 rfl (lv_at hl 1 rfl) ?_
        obtain ⟨b4, hf⟩ := hf_ite hf
        refine cL_0 (v := ((σ.a 0) ((x1 : Int32).toNatClampNeg))) hx hb hK hC b4 dX9_byteAt_26 rfl ?_
        refine lv_goto (tgt := 31) hx hb dX9_byteAt_27 (by decide) ?_
        obtain rfl := Option.some.inj hf
        exact W.iret (v := ((σ.a 0) ((x1 : Int32).toNatClampNeg))) hx hb hr (fun t ht hW => ⟨⟨((σ.a 0) ((x1 : Int32).toNatClampNeg)), (), rfl, rfl, ⟨by rw [ht]; exact hC.1, va_K.moved hW.alike hK, hC.2.1⟩, by rw [ht]; exact hC.2.2.2⟩, hC.2.2.1.F ht⟩) hC.2.2.1.2.2 dX9_byteAt_31
set_option maxHeartbeats 4000000 in
set_option maxRecDepth 100000 in
theorem j_X9_isDigit_16 {p : Program} {e : Env} {s : State} {m : MethodId} {args : Array Value} {below : List Frame} {meth : Method} {c : Code} {A : Nat → Prop} (l : Launch) (dC : Nat → ClassId) (dI : Nat → Nat → Nat) (Q : CQ) (N : Nat) (z9h : Nat) (R : Int32 × CS) (hx : p.tables.exec = Jvm.exec) (hb : c.code = cX9_isDigit) (hr : meth.sig.returnType = (some .boolean)) (hml : c.maxLocals = 1) (hown : s.vm.findClass RX9 = some m.cls) (hts : ∀ w ∈ wzX9_isDigit, w.before args s = true) (hlocks : meth.locks = false) (hZ : zAMB s) (hA : ∀ q : Nat, s.heap.size ≤ q → A q) (hK : va_K (dC, dI) vwCl (cT Q) s) : ∀ (σ : CS) (H : Heap) (locs : List Loc) (ls : Array Slot), f_X9_isDigit_16 N σ = some R → z9h ≤ CS.hs σ → CP dC dI Q A s.heap σ H locs → lv_has ls 1 [] → W p l e ({ frames := 1, cells := CS.hs R.2 - z9h, slots := 17 * (CS.hs R.2 - z9h), locals := 60 * 1 }) s m args below meth c H locs (CS.hs σ - z9h) (17 * (CS.hs σ - z9h)) (MQ below (va_Qi (fun (r : Int32) (_ : Unit) => r = R.1) (fun (_ : Unit) (t : State) => zPost dC dI A (cW Q R.2) (cT Q) t ∧ t.heap.size = CS.hs R.2) A) args s (CS.hs R.2 - z9h) (17 * (CS.hs R.2 - z9h)) A) (F0 m 16 ls []) := by
  intro σ  H locs ls hf h0 hC hl
  unfold f_X9_isDigit_16 at hf
  refine lv_iconst (v := 0) hx hb dX9_isDigit_16 (by decide) ?_
  obtain rfl := Option.some.inj hf
  exact W.zret (v := 0) hx hb hr (rfl) (fun t ht hW => ⟨⟨0, (), rfl, rfl, ⟨by rw [ht]; exact hC.1, va_K.moved hW.alike hK, hC.2.1⟩, by rw [ht]; exact hC.2.2.2⟩, hC.2.2.1.F ht⟩) hC.2.2.1.2.2 dX9_isDigit_17
set_option maxHeartbeats 4000000 in
set_option maxRecDepth 100000 in
theorem c_X9_isDigit (l : Launch) (dC : Nat → ClassId) (dI : Nat → Nat → Nat) (Q : CQ) (N : Nat) (σ : CS) (x0 : Int32) (R : Int32 × CS) (hf : f_X9_isDigit N σ x0 = some R) : Met l yX9_isDigit wzX9_isDigit ({ frames := 1, cells := CS.hs R.2 - CS.hs σ, slots := 17 * (CS.hs R.2 - CS.hs σ), locals := 60 * 1 }) (va_Pc [.int x0] (zPre dC dI (CS.hs σ) (cW Q σ) (cT Q))) (va_Qi (fun (r : Int32) (_ : Unit) => r = R.1) (fun (_ : Unit) (t : State) => zPost dC dI (va_A (cW Q σ) (CS.hs σ)) (cW Q R.2) (cT Q) t ∧ t.heap.size = CS.hs R.2) (va_A (cW Q σ) (CS.hs σ))) (CS.hs R.2 - CS.hs σ) (17 * (CS.hs R.2 - CS.hs σ)) (va_A (cW Q σ) (CS.hs σ)) := by
  refine Met.ofW (cc := cX9_isDigit) (maxL := 1) (ret := (some .boolean)) (by decide) rfl ?_
  intro p e s m args below meth c s₁ B hml hv
  obtain ⟨rfl, hsz, hZ, hP, hK, hD0⟩ := hv
  have hx := B.exec
  have hb := B.bytes
  have hr := B.returns
  have hts := atoms_spec (ws := wzX9_isDigit) B.pre
  have hown : s.vm.findClass RX9 = some m.cls := findClass_of_methodNamed B.named
  have hlocks := B.notSynchronized
  have hD := hD0.self (sz := CS.hs σ)
  generalize hAe : va_A (cW Q σ) (CS.hs σ) = A at hD ⊢
  have hA : ∀ q : Nat, s.heap.size ≤ q → A q := fun q h => by rw [← hAe]; exact Or.inr (hsz ▸ h)
  have hC : CP dC dI Q A s.heap σ s.heap [] := ⟨hP, hD, va_S.rf, hsz⟩
  have h0 : CS.hs σ ≤ CS.hs σ := Nat.le_refl _
  have hl := lv_entry ([.int x0]) (n := 1) (Nat.le_of_ble_eq_true rfl)
  rw [lg_entry_eq]
  generalize (lg_sl ([.int x0]) ++ List.replicate (1 - (lg_sl ([.int x0])).length) Slot.unset).toArray = ls at hl ⊢
  have hl : lv_has ls 1 [(0, .int x0)] := hl
  unfold f_X9_isDigit at hf
  refine W.widen (k := CS.hs σ - CS.hs σ) (n := 17 * (CS.hs σ - CS.hs σ)) (Nat.zero_le _) (Nat.zero_le _) ?_
  refine lv_iload_n hx hb dX9_isDigit_0 rfl (lv_at hl 0 rfl) ?_
  refine lv_bipush (v := 48) hx hb dX9_isDigit_1 (by decide) ?_
  refine lv_icmp_lt (tgt := 16) hx hb dX9_isDigit_3 (by decide) (fun c1 => ?_) (fun c1 => ?_)
  ·
    replace hf := (if_pos c1).symm.trans hf
    exact j_X9_isDigit_16 l dC dI Q N (CS.hs σ) R hx hb hr hml hown hts hlocks hZ hA hK σ _ _ _ hf h0 hC (lv_sub hl [] rfl)
  ·
    replace hf := (if_neg c1).symm.trans hf
    refine lv_iload_n hx hb dX9_isDigit_6 rfl (lv_at hl 0 rfl) ?_
    refine lv_bipush (v := 57) hx hb dX9_isDigit_7 (by decide) ?_
    refine lv_icmp_gt (tgt := 16) hx hb dX9_isDigit_9 (by decide) (fun c2 => ?_) (fun c2 => ?_)
    ·
      replace hf := (if_pos c2).symm.trans hf
      exact j_X9_isDigit_16 l dC dI Q N (CS.hs σ) R hx hb hr hml hown hts hlocks hZ hA hK σ _ _ _ hf h0 hC (lv_sub hl [] rfl)
    ·
      replace hf := (if_neg c2).symm.trans hf
      refine lv_iconst (v := 1) hx hb dX9_isDigit_12 (by decide) ?_
      refine lv_goto (tgt := 17) hx hb dX9_isDigit_13 (by decide) ?_
      obtain rfl := Option.some.inj hf
      exact W.zret (v := 1) hx hb hr (rfl) (fun t ht hW => ⟨⟨1, (), rfl, rfl, ⟨by rw [ht]; exact hC.1, va_K.moved hW.alike hK, hC.2.1⟩, by rw [ht]; exact hC.2.2.2⟩, hC.2.2.1.F ht⟩) hC.2.2.1.2.2 dX9_isDigit_17
