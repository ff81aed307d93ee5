theorem k_X4_cellOf_fieldLink_RX4_13_SR_Names_cells_I : Cond.fieldLink RX4 13 "StatementRules2$Names" "cells" "[I" ∈ wzX4_cellOf := List.mem_cons_of_mem _ (List.mem_append_left _ (List.mem_of_getElem? (i := 0) rfl))
theorem i_X4_cellOf_X4 : ∀ w ∈ wsX40, w ∈ wzX4_cellOf := fun _ h => List.mem_cons_of_mem _ (List.mem_append_right _ (List.mem_append_left _ (h)))
theorem k_X4_cellOf_initialized_RX11 : Cond.initialized RX11 ∈ wzX4_cellOf := List.mem_cons_of_mem _ (List.mem_append_left _ (List.mem_of_getElem? (i := 1) rfl))
theorem k_X4_cellOf_static_yX11_at : Cond.static yX11_at ∈ wzX4_cellOf := List.mem_cons_of_mem _ (List.mem_append_left _ (List.mem_of_getElem? (i := 2) rfl))
set_option maxHeartbeats 4000000 in
set_option maxRecDepth 100000 in
theorem c_X4_cellOf (l : Launch) (dC : Nat → ClassId) (dI : Nat → Nat → Nat) (Q : CQ) (N : Nat) (σ : CS) (x1 : Int32) (R : Int32 × CS) (hf : f_X4_cellOf N σ x1 = some R) : Met l yX4_cellOf wzX4_cellOf ({ frames := 2, cells := CS.hs R.2 - CS.hs σ, slots := 17 * (CS.hs R.2 - CS.hs σ), locals := 60 * 2 }) (va_Pc [.ref (Q.o 5), .int x1] (zPre dC dI (CS.hs σ) (cW Q σ) (cT Q))) (va_Qi (fun (r : Int32) (_ : Unit) => r = R.1) (fun (_ : Unit) (t : State) => zPost dC dI (va_A (cW Q σ) (CS.hs σ)) (cW Q R.2) (cT Q) t ∧ t.heap.size = CS.hs R.2) (va_A (cW Q σ) (CS.hs σ))) (CS.hs R.2 - CS.hs σ) (17 * (CS.hs R.2 - CS.hs σ)) (va_A (cW Q σ) (CS.hs σ)) := by
  refine Met.ofW (cc := cX4_cellOf) (maxL := 2) (ret := (some .int)) (by decide) rfl ?_
  intro p e s m args below meth c s₁ B hml hv
  obtain ⟨rfl, hsz, hZ, hP, hK, hD0⟩ := hv
  have hx := B.exec
  have hb := B.bytes
  have hr := B.returns
  have hts := atoms_spec (ws := wzX4_cellOf) B.pre
  have hown : s.vm.findClass RX4 = some m.cls := findClass_of_methodNamed B.named
  have hlocks := B.notSynchronized
  have hD := hD0.self (sz := CS.hs σ)
  generalize hAe : va_A (cW Q σ) (CS.hs σ) = A at hD ⊢
  have hA : ∀ q : Nat, s.heap.size ≤ q → A q := fun q h => by rw [← hAe]; exact Or.inr (hsz ▸ h)
  have hC : CP dC dI Q A s.heap σ s.heap [] := ⟨hP, hD, va_S.rf, hsz⟩
  have h0 : CS.hs σ ≤ CS.hs σ := Nat.le_refl _
  have hl := lv_entry ([.ref (Q.o 5), .int x1]) (n := 2) (Nat.le_of_ble_eq_true rfl)
  rw [lg_entry_eq]
  generalize (lg_sl ([.ref (Q.o 5), .int x1]) ++ List.replicate (2 - (lg_sl ([.ref (Q.o 5), .int x1])).length) Slot.unset).toArray = ls at hl ⊢
  have hl : lv_has ls 2 [(0, .ref (Q.o 5)), (1, .int x1)] := hl
  unfold f_X4_cellOf at hf
  refine W.widen (k := CS.hs σ - CS.hs σ) (n := 17 * (CS.hs σ - CS.hs σ)) (Nat.zero_le _) (Nat.zero_le _) ?_
  refine lv_aload_n hx hb dX4_cellOf_0 rfl (lv_at hl 0 rfl) ?_
  refine cG_48 hx hb hts i_X4_cellOf_X4 hown hK hC (hts (.fieldLink RX4 13 "StatementRules2$Names" "cells" "[I") k_X4_cellOf_fieldLink_RX4_13_SR_Names_cells_I) (fun _ q9 => q9) dX4_cellOf_1 ?_
  refine lv_iload_n hx hb dX4_cellOf_4 rfl (lv_at hl 1 rfl) ?_
  have he9 := (show (cW Q σ)[20]? = some (Q.q 48, .inl (Q.c 0, 128, .inl (σ.a 48))) from rfl)
  have hFc := cFree1 hC hA he9
  have hr9 : CS.hs σ ≤ CS.hs R.2 := Mono.go hf (mono_some (Nat.le_refl _))
  refine va_calli (va_runSN (As := [.ref (Q.q 48), .int x1]) (rest := []) ⟨hx, hb, hml, hown, hts⟩ (c_X11_at l dC dI _ (Q.q 48) (Q.c 0) 128 (σ.a 48) x1 (by decide)) ⟨va_cnB 2 hts hX4_cellOf_X11_at_n24 rfl rfl rfl (hZ.1 (.methodLinkNest RX4 24 yX11_at "StatementRules2") (by decide +kernel)) (hts (.initialized RX11) k_X4_cellOf_initialized_RX11) (by decide +kernel) ⟨(show 1 + 1 ≤ 2 by omega), (show 8 + (2 + 11) + 60 * 1 ≤ 60 * 2 by omega)⟩, (hts (.static yX11_at) k_X4_cellOf_static_yX11_at), trivial⟩ ⟨zPre.blind, zPre.go hZ (cOne hC.1 he9) (hK.sub (tys' := [(Q.c 0, .int)]) [0] rfl) (cOneD hC.2.1 he9)⟩ rfl rfl hl.1 rfl (lv_room (Nat.le_of_ble_eq_true rfl)) dX4_cellOf_5 ⟨cAcc4 h0 hr9, cAcc5 h0 hr9⟩) hC.2.2.1 (fun q _ h => hFc q h) hFc (fun r1 u9 t9 H1 locs ht hvm hw hB hz1 hk1 hS => ?_)
  obtain ⟨⟨hP1, hK1, hD1⟩, hsz1⟩ := hB
  rw [ht] at hP1 hsz1
  have hC := cBack (σ' := σ) hC he9 (cSelf he9) rfl hk1 hP1 hsz1 hS
  generalize H1 = H at hC ⊢
  obtain rfl : r1 = (gAt (σ.a 48) 128 x1) := hw
  obtain rfl := Option.some.inj hf
  exact W.iret (v := (gAt (σ.a 48) 128 x1)) hx hb hr (fun t ht hW => ⟨⟨(gAt (σ.a 48) 128 x1), (), rfl, rfl, ⟨by rw [ht]; exact hC.1, va_K.moved hW.alike hK, hC.2.1⟩, by rw [ht]; exact hC.2.2.2⟩, hC.2.2.1.F ht⟩) hC.2.2.1.2.2 dX4_cellOf_8
theorem k_X1_loadName_fieldLink_RX1_12_SR_Formulas_names_LSR_Names : Cond.fieldLink RX1 12 "StatementRules2$Formulas" "names" "LStatementRules2$Names;" ∈ wzX1_loadName := List.mem_cons_of_mem _ (List.mem_append_left _ (List.mem_of_getElem? (i := 0) rfl))
theorem i_X1_loadName_X7 : ∀ w ∈ wsX70, w ∈ wzX1_loadName := fun _ h => List.mem_cons_of_mem _ (List.mem_append_right _ (List.mem_append_left _ (h)))
theorem k_X1_loadName_fieldLink_RX1_18_SR_Formulas_tokens_LSR_Tokens : Cond.fieldLink RX1 18 "StatementRules2$Formulas" "tokens" "LStatementRules2$Tokens;" ∈ wzX1_loadName := List.mem_cons_of_mem _ (List.mem_append_left _ (List.mem_of_getElem? (i := 1) rfl))
theorem i_X1_loadName_X9 : ∀ w ∈ wsX90, w ∈ wzX1_loadName := fun _ h => List.mem_cons_of_mem _ (List.mem_append_right _ (List.mem_append_right _ (List.mem_append_left _ (h))))
theorem k_X1_loadName_fieldLink_RX1_22_SR_Formulas_code_LSR_Code : Cond.fieldLink RX1 22 "StatementRules2$Formulas" "code" "LStatementRules2$Code;" ∈ wzX1_loadName := List.mem_cons_of_mem _ (List.mem_append_left _ (List.mem_of_getElem? (i := 2) rfl))
set_option maxHeartbeats 4000000 in
set_option maxRecDepth 100000 in
theorem c_X1_loadName (l : Launch) (dC : Nat → ClassId) (dI : Nat → Nat → Nat) (Q : CQ) (N : Nat) (σ : CS) (R : Unit × CS) (hf : f_X1_loadName N σ = some R) : Met l yX1_loadName wzX1_loadName ({ frames := 4, cells := CS.hs R.2 - CS.hs σ, slots := 17 * (CS.hs R.2 - CS.hs σ), locals := 60 * 4 }) (va_Pc [.ref (Q.o 3)] (zPre dC dI (CS.hs σ) (cW Q σ) (cT Q))) (va_Qv (fun (_ : Unit) => True) (fun (_ : Unit) (t : State) => zPost dC dI (va_A (cW Q σ) (CS.hs σ)) (cW Q R.2) (cT Q) t ∧ t.heap.size = CS.hs R.2) (va_A (cW Q σ) (CS.hs σ))) (CS.hs R.2 - CS.hs σ) (17 * (CS.hs R.2 - CS.hs σ)) (va_A (cW Q σ) (CS.hs σ)) := by
  refine Met.ofW (cc := cX1_loadName) (maxL := 2) (ret := none) (by decide) rfl ?_
  intro p e s m args below meth c s₁ B hml hv
  obtain ⟨rfl, hsz, hZ, hP, hK, hD0⟩ := hv
  have hx := B.exec
  have hb := B.bytes
  have hr := B.returns
  have hts := atoms_spec (ws := wzX1_loadName) B.pre
  have hown : s.vm.findClass RX1 = some m.cls := findClass_of_methodNamed B.named
  have hlocks := B.notSynchronized
  have hD := hD0.self (sz := CS.hs σ)
  generalize hAe : va_A (cW Q σ) (CS.hs σ) = A at hD ⊢
  have hA : ∀ q : Nat, s.heap.size ≤ q → A q := fun q h => by rw [← hAe]; exact Or.inr (hsz ▸ h)
  have hC : CP dC dI Q A s.heap σ s.heap [] := ⟨hP, hD, va_S.rf, hsz⟩
  have h0 : CS.hs σ ≤ CS.hs σ := Nat.le_refl _
  have hl := lv_entry ([.ref (Q.o 3)]) (n := 2) (Nat.le_of_ble_eq_true rfl)
  rw [lg_entry_eq]
  generalize (lg_sl ([.ref (Q.o 3)]) ++ List.replicate (2 - (lg_sl ([.ref (Q.o 3)])).length) Slot.unset).toArray = ls at hl ⊢
  have hl : lv_has ls 2 [(0, .ref (Q.o 3))] := hl
  unfold f_X1_loadName at hf
  refine W.widen (k := CS.hs σ - CS.hs σ) (n := 17 * (CS.hs σ - CS.hs σ)) (Nat.zero_le _) (Nat.zero_le _) ?_
  refine lv_aload_n hx hb dX1_loadName_0 rfl (lv_at hl 0 rfl) ?_
  refine cG_31 hx hb hts i_X1_loadName_X7 hown hK hC (hts (.fieldLink RX1 12 "StatementRules2$Formulas" "names" "LStatementRules2$Names;") k_X1_loadName_fieldLink_RX1_12_SR_Formulas_names_LSR_Names) (fun _ q9 => q9) dX1_loadName_1 ?_
  refine lv_aload_n hx hb dX1_loadName_4 rfl (lv_at hl 0 rfl) ?_
  refine cG_28 hx hb hts i_X1_loadName_X7 hown hK hC (hts (.fieldLink RX1 18 "StatementRules2$Formulas" "tokens" "LStatementRules2$Tokens;") k_X1_loadName_fieldLink_RX1_18_SR_Formulas_tokens_LSR_Tokens) (fun _ q9 => q9) dX1_loadName_5 ?_
  refine cGN_46 (v := σ.l) hx hb hts i_X1_loadName_X9 hown hK hC (va_Nw.use rfl (hZ.1 (.fieldLinkNest RX1 98 "StatementRules2$Tokens" "name" "J" "StatementRules2") (by decide +kernel))) (fun _ q9 => q9) dX1_loadName_8 rfl ?_
  obtain ⟨p1, hcp1, hf⟩ := hf_bind hf
  have hm2 : CS.hs σ ≤ CS.hs p1.2 := Mono.go hcp1 (m_X4_find N σ σ.l)
  have hr9 : CS.hs p1.2 ≤ CS.hs R.2 := Mono.go hf (mono_ite (mono_bind (m_X4_cellOf N p1.2 p1.1) (fun p6 => (mono_bind (m_X0_add N p6.2 1 p6.1) (fun p10 => (mono_bind (m_X9_advance N p10.2) (fun p14 => (mono_some (Nat.le_refl _)))))))) (mono_bind (m_X1_fail N p1.2 3 (p1.2.i 44)) (fun p18 => (mono_some (Nat.le_refl _)))))
  have hFc := cFree hC hA
  refine va_calli (va_runV (As := [.long σ.l]) (rest := []) ⟨hx, hb, hml, hown, hts⟩ (c_X4_find l dC dI Q N σ σ.l p1 hcp1) (cwV 1 hts hX1_loadName_X4_find_v102 rfl rfl rfl (by decide +kernel) ⟨(show 1 + 1 ≤ 4 by omega), (show 8 + (4 + 11) + 60 * 1 ≤ 60 * 4 by omega)⟩) ⟨zPre.blind, va_recv hK hC.1 (ci := 3) (q0 := 5) rfl rfl, cPre_go hZ hK hC⟩ rfl rfl hl.1 rfl (lv_room (Nat.le_of_ble_eq_true rfl)) dX1_loadName_11 (cAcc h0 hm2 hr9)) hC.2.2.1 (fun q _ h => hFc q h) hFc (fun r3 u9 t9 H1 locs ht hvm hw hB hz1 hk1 hS => ?_)
  obtain ⟨⟨hP, hK1, hD1⟩, hsz1⟩ := hB
  rw [ht] at hP hsz1
  have hC : CP dC dI Q A s.heap p1.2 H1 locs := ⟨hP, hD1.weaken (fun _ _ _ h => hFc _ h), hS, hsz1⟩
  generalize H1 = H at hC ⊢
  have h4 : (CS.hs σ) ≤ CS.hs p1.2 := Nat.le_trans h0 hm2
  refine W.widen (k := CS.hs p1.2 - (CS.hs σ)) (n := 17 * (CS.hs p1.2 - (CS.hs σ))) (cAcc2 h0 hm2) (cAcc3 h0 hm2) ?_
  obtain rfl : r3 = p1.1 := hw
  refine lv_istore_n (lv' := [(1, .int p1.1), (0, .ref (Q.o 3))]) hx hb dX1_loadName_14 rfl hl (by decide) rfl (fun ls hl => ?_)
  refine lv_iload_n hx hb dX1_loadName_15 rfl (lv_at hl 0 rfl) ?_
  refine lv_if_ge (tgt := 32) hx hb dX1_loadName_16 (by decide) (fun c5 => ?_) (fun c5 => ?_)
  ·
    replace hf := (if_pos c5).symm.trans hf
    refine lv_aload_n hx hb dX1_loadName_32 rfl (lv_at hl 1 rfl) ?_
    refine cG_29 hx hb hts i_X1_loadName_X7 hown hK hC (hts (.fieldLink RX1 22 "StatementRules2$Formulas" "code" "LStatementRules2$Code;") k_X1_loadName_fieldLink_RX1_22_SR_Formulas_code_LSR_Code) (fun _ q9 => q9) dX1_loadName_33 ?_
    refine lv_iconst (v := 1) hx hb dX1_loadName_36 (by decide) ?_
    refine lv_aload_n hx hb dX1_loadName_37 rfl (lv_at hl 1 rfl) ?_
    refine cG_31 hx hb hts i_X1_loadName_X7 hown hK hC (hts (.fieldLink RX1 12 "StatementRules2$Formulas" "names" "LStatementRules2$Names;") k_X1_loadName_fieldLink_RX1_12_SR_Formulas_names_LSR_Names) (fun _ q9 => q9) dX1_loadName_38 ?_
    refine lv_iload_n hx hb dX1_loadName_41 rfl (lv_at hl 0 rfl) ?_
    obtain ⟨p6, hcp6, hf⟩ := hf_bind hf
    have hm7 : CS.hs p1.2 ≤ CS.hs p6.2 := Mono.go hcp6 (m_X4_cellOf N p1.2 p1.1)
    have hr9 : CS.hs p6.2 ≤ CS.hs R.2 := Mono.go hf (mono_bind (m_X0_add N p6.2 1 p6.1) (fun p10 => (mono_bind (m_X9_advance N p10.2) (fun p14 => (mono_some (Nat.le_refl _))))))
    have hFc := cFree hC hA
    refine va_calli (va_runV (As := [.int p1.1]) (rest := [.int 1, .ref (Q.o 2)]) ⟨hx, hb, hml, hown, hts⟩ (c_X4_cellOf l dC dI Q N p1.2 p1.1 p6 hcp6) (cwV 1 hts hX1_loadName_X4_cellOf_v106 rfl rfl rfl (by decide +kernel) ⟨(show 2 + 1 ≤ 4 by omega), (show 8 + (2 + 11) + 60 * 2 ≤ 60 * 4 by omega)⟩) ⟨zPre.blind, va_recv hK hC.1 (ci := 3) (q0 := 5) rfl rfl, cPre_go hZ hK hC⟩ rfl rfl hl.1 rfl (lv_room (Nat.le_of_ble_eq_true rfl)) dX1_loadName_42 (cAcc h4 hm7 hr9)) hC.2.2.1 (fun q _ h => hFc q h) hFc (fun r8 u9 t9 H1 locs ht hvm hw hB hz1 hk1 hS => ?_)
    obtain ⟨⟨hP, hK1, hD1⟩, hsz1⟩ := hB
    rw [ht] at hP hsz1
    have hC : CP dC dI Q A s.heap p6.2 H1 locs := ⟨hP, hD1.weaken (fun _ _ _ h => hFc _ h), hS, hsz1⟩
    generalize H1 = H at hC ⊢
    have h9 : (CS.hs σ) ≤ CS.hs p6.2 := Nat.le_trans h4 hm7
    refine W.widen (k := CS.hs p6.2 - (CS.hs σ)) (n := 17 * (CS.hs p6.2 - (CS.hs σ))) (cAcc2 h4 hm7) (cAcc3 h4 hm7) ?_
    obtain rfl : r8 = p6.1 := hw
    obtain ⟨p10, hcp10, hf⟩ := hf_bind hf
    have hm11 : CS.hs p6.2 ≤ CS.hs p10.2 := Mono.go hcp10 (m_X0_add N p6.2 1 p6.1)
    have hr9 : CS.hs p10.2 ≤ CS.hs R.2 := Mono.go hf (mono_bind (m_X9_advance N p10.2) (fun p14 => (mono_some (Nat.le_refl _))))
    have hFc := cFree hC hA
    refine va_callv (va_runV (As := [.int 1, .int p6.1]) (rest := []) ⟨hx, hb, hml, hown, hts⟩ (c_X0_add l dC dI Q N p6.2 1 p6.1 p10 hcp10) (cwV 2 hts hX1_loadName_X0_add_v68 rfl rfl rfl (by decide +kernel) ⟨(show 2 + 1 ≤ 4 by omega), (show 8 + (3 + 11) + 60 * 2 ≤ 60 * 4 by omega)⟩) ⟨zPre.blind, va_recv hK hC.1 (ci := 0) (q0 := 2) rfl rfl, cPre_go hZ hK hC⟩ rfl rfl hl.1 rfl (lv_room (Nat.le_of_ble_eq_true rfl)) dX1_loadName_45 (cAcc h9 hm11 hr9)) hC.2.2.1 (fun q _ h => hFc q h) hFc (fun u9 t9 H1 locs ht hvm hw hB hz1 hk1 hS => ?_)
    obtain ⟨⟨hP, hK1, hD1⟩, hsz1⟩ := hB
    rw [ht] at hP hsz1
    have hC : CP dC dI Q A s.heap p10.2 H1 locs := ⟨hP, hD1.weaken (fun _ _ _ h => hFc _ h), hS, hsz1⟩
    generalize H1 = H at hC ⊢
    have h13 : (CS.hs σ) ≤ CS.hs p10.2 := Nat.le_trans h9 hm11
    refine W.widen (k := CS.hs p10.2 - (CS.hs σ)) (n := 17 * (CS.hs p10.2 - (CS.hs σ))) (cAcc2 h9 hm11) (cAcc3 h9 hm11) ?_
    refine lv_aload_n hx hb dX1_loadName_48 rfl (lv_at hl 1 rfl) ?_
    refine cG_28 hx hb hts i_X1_loadName_X7 hown hK hC (hts (.fieldLink RX1 18 "StatementRules2$Formulas" "tokens" "LStatementRules2$Tokens;") k_X1_loadName_fieldLink_RX1_18_SR_Formulas_tokens_LSR_Tokens) (fun _ q9 => q9) dX1_loadName_49 ?_
    obtain ⟨p14, hcp14, hf⟩ := hf_bind hf
    have hm15 : CS.hs p10.2 ≤ CS.hs p14.2 := Mono.go hcp14 (m_X9_advance N p10.2)
    have hr9 : CS.hs p14.2 ≤ CS.hs R.2 := Mono.go hf (mono_some (Nat.le_refl _))
    have hFc := cFree hC hA
    refine va_callv (va_runV (As := []) (rest := []) ⟨hx, hb, hml, hown, hts⟩ (c_X9_advance l dC dI Q N p10.2 p14 hcp14) (cwV 0 hts hX1_loadName_X9_advance_v56 rfl rfl rfl (by decide +kernel) ⟨(show 3 + 1 ≤ 4 by omega), (show 8 + (2 + 11) + 60 * 3 ≤ 60 * 4 by omega)⟩) ⟨zPre.blind, va_recv hK hC.1 (ci := 8) (q0 := 4) rfl rfl, cPre_go hZ hK hC⟩ rfl rfl hl.1 rfl (lv_room (Nat.le_of_ble_eq_true rfl)) dX1_loadName_52 (cAcc h13 hm15 hr9)) hC.2.2.1 (fun q _ h => hFc q h) hFc (fun u9 t9 H1 locs ht hvm hw hB hz1 hk1 hS => ?_)
    obtain ⟨⟨hP, hK1, hD1⟩, hsz1⟩ := hB
    rw [ht] at hP hsz1
    have hC : CP dC dI Q A s.heap p14.2 H1 locs := ⟨hP, hD1.weaken (fun _ _ _ h => hFc _ h), hS, hsz1⟩
    generalize H1 = H at hC ⊢
    have h17 : (CS.hs σ) ≤ CS.hs p14.2 := Nat.le_trans h13 hm15
    refine W.widen (k := CS.hs p14.2 - (CS.hs σ)) (n := 17 * (CS.hs p14.2 - (CS.hs σ))) (cAcc2 h13 hm15) (cAcc3 h13 hm15) ?_
    obtain rfl := Option.some.inj hf
    exact W.vret hx hb hr (fun t ht hW => ⟨⟨(), rfl, trivial, ⟨by rw [ht]; exact hC.1, va_K.moved hW.alike hK, hC.2.1⟩, by rw [ht]; exact hC.2.2.2⟩, hC.2.2.1.F ht⟩) hC.2.2.1.2.2 dX1_loadName_55
  ·
    replace hf := (if_neg c5).symm.trans hf
    refine lv_aload_n hx hb dX1_loadName_19 rfl (lv_at hl 1 rfl) ?_
    refine lv_iconst (v := 3) hx hb dX1_loadName_20 (by decide) ?_
    refine lv_aload_n hx hb dX1_loadName_21 rfl (lv_at hl 1 rfl) ?_
    refine cG_28 hx hb hts i_X1_loadName_X7 hown hK hC (hts (.fieldLink RX1 18 "StatementRules2$Formulas" "tokens" "LStatementRules2$Tokens;") k_X1_loadName_fieldLink_RX1_18_SR_Formulas_tokens_LSR_Tokens) (fun _ q9 => q9) dX1_loadName_22 ?_
    refine cGN_44 (v := (p1.2.i 44)) hx hb hts i_X1_loadName_X9 hown hK hC (va_Nw.use rfl (hZ.1 (.fieldLinkNest RX1 46 "StatementRules2$Tokens" "place" "I" "StatementRules2") (by decide +kernel))) (fun _ q9 => q9) dX1_loadName_25 rfl ?_
    obtain ⟨p18, hcp18, hf⟩ := hf_bind hf
    have hm19 : CS.hs p1.2 ≤ CS.hs p18.2 := Mono.go hcp18 (m_X1_fail N p1.2 3 (p1.2.i 44))
    have hr9 : CS.hs p18.2 ≤ CS.hs R.2 := Mono.go hf (mono_some (Nat.le_refl _))
    have hFc := cFree hC hA
    refine va_callv (va_runU (As := [.int 3, .int (p1.2.i 44)]) (rest := []) ⟨hx, hb, hml, hown, hts⟩ (c_X1_fail l dC dI Q N p1.2 3 (p1.2.i 44) p18 hcp18) (va_cwU 2 hts hX1_loadName_X1_fail_u49 rfl rfl rfl rfl (by decide +kernel) ⟨(show 2 + 1 ≤ 4 by omega), (show 8 + (3 + 11) + 60 * 2 ≤ 60 * 4 by omega)⟩) ⟨zPre.blind, va_recv hK hC.1 (ci := 6) (q0 := 3) rfl rfl, cPre_go hZ hK hC⟩ rfl rfl hl.1 rfl (lv_room (Nat.le_of_ble_eq_true rfl)) dX1_loadName_28 (cAcc h4 hm19 hr9)) hC.2.2.1 (fun q _ h => hFc q h) hFc (fun u9 t9 H1 locs ht hvm hw hB hz1 hk1 hS => ?_)
    obtain ⟨⟨hP, hK1, hD1⟩, hsz1⟩ := hB
    rw [ht] at hP hsz1
    have hC : CP dC dI Q A s.heap p18.2 H1 locs := ⟨hP, hD1.weaken (fun _ _ _ h => hFc _ h), hS, hsz1⟩
    generalize H1 = H at hC ⊢
    have h21 : (CS.hs σ) ≤ CS.hs p18.2 := Nat.le_trans h4 hm19
    refine W.widen (k := CS.hs p18.2 - (CS.hs σ)) (n := 17 * (CS.hs p18.2 - (CS.hs σ))) (cAcc2 h4 hm19) (cAcc3 h4 hm19) ?_
    obtain rfl := Option.some.inj hf
    exact W.vret hx hb hr (fun t ht hW => ⟨⟨(), rfl, trivial, ⟨by rw [ht]; exact hC.1, va_K.moved hW.alike hK, hC.2.1⟩, by rw [ht]; exact hC.2.2.2⟩, hC.2.2.1.F ht⟩) hC.2.2.1.2.2 dX1_loadName_31
theorem k_X1_caseNumber_fieldLink_RX1_18_SR_Formulas_tokens_LSR_Tokens : Cond.fieldLink RX1 18 "StatementRules2$Formulas" "tokens" "LStatementRules2$Tokens;" ∈ wzX1_caseNumber := List.mem_cons_of_mem _ (List.mem_append_left _ (List.mem_of_getElem? (i := 0) rfl))
theorem i_X1_caseNumber_X7 : ∀ w ∈ wsX70, w ∈ wzX1_caseNumber := fun _ h => List.mem_cons_of_mem _ (List.mem_append_right _ (List.mem_append_left _ (h)))
theorem i_X1_caseNumber_X9 : ∀ w ∈ wsX90, w ∈ wzX1_caseNumber := fun _ h => List.mem_cons_of_mem _ (List.mem_append_right _ (List.mem_append_right _ (List.mem_append_left _ (h))))
theorem k_X1_caseNumber_fieldLink_RX1_22_SR_Formulas_code_LSR_Code : Cond.fieldLink RX1 22 "StatementRules2$Formulas" "code" "LStatementRules2$Code;" ∈ wzX1_caseNumber := List.mem_cons_of_mem _ (List.mem_append_left _ (List.mem_of_getElem? (i := 1) rfl))
set_option maxHeartbeats 4000000 in
set_option maxRecDepth 100000 in
theorem j_X1_caseNumber_44 {p : Program} {e : Env} {s : State} {m : MethodId} {args : Array Value} {below : List Frame} {meth : Method} {c : Code} {A : Nat → Prop} (l : Launch) (dC : Nat → ClassId) (dI : Nat → Nat → Nat) (Q : CQ) (N : Nat) (z9h : Nat) (R : Unit × CS) (hx : p.tables.exec = Jvm.exec) (hb : c.code = cX1_caseNumber) (hr : meth.sig.returnType = none) (hml : c.maxLocals = 5) (hown : s.vm.findClass RX1 = some m.cls) (hts : ∀ w ∈ wzX1_caseNumber, w.before args s = true) (hlocks : meth.locks = false) (hZ : zAMB s) (hA : ∀ q : Nat, s.heap.size ≤ q → A q) (hK : va_K (dC, dI) vwCl (cT Q) s) : ∀ (σ : CS) (x1 : Int32) (x2 : Int32) (x4 : Int32) (H : Heap) (locs : List Loc) (ls : Array Slot), f_X1_caseNumber_44 N σ x1 x2 x4 = some R → z9h ≤ CS.hs σ → CP dC dI Q A s.heap σ H locs → lv_has ls 5 [(0, .ref (Q.o 3)), (1, .int x1), (2, .int x2), (4, .int x4)] → W p l e ({ frames := 5, cells := CS.hs R.2 - z9h, slots := 17 * (CS.hs R.2 - z9h), locals := 60 * 5 }) s m args below meth c H locs (CS.hs σ - z9h) (17 * (CS.hs σ - z9h)) (MQ below (va_Qv (fun (_ : Unit) => True) (fun (_ : Unit) (t : State) => zPost dC dI A (cW Q R.2) (cT Q) t ∧ t.heap.size = CS.hs R.2) A) args s (CS.hs R.2 - z9h) (17 * (CS.hs R.2 - z9h)) A) (F0 m 44 ls []) := by
  intro σ x1 x2 x4 H locs ls hf h0 hC hl
  unfold f_X1_caseNumber_44 at hf
  refine lv_aload_n hx hb dX1_caseNumber_44 rfl (lv_at hl 0 rfl) ?_
  refine cG_29 hx hb hts i_X1_caseNumber_X7 hown hK hC (hts (.fieldLink RX1 22 "StatementRules2$Formulas" "code" "LStatementRules2$Code;") k_X1_caseNumber_fieldLink_RX1_22_SR_Formulas_code_LSR_Code) (fun _ q9 => q9) dX1_caseNumber_45 ?_
  refine lv_iload_n hx hb dX1_caseNumber_48 rfl (lv_at hl 1 rfl) ?_
  refine lv_iload hx hb dX1_caseNumber_49 (lv_at hl 3 rfl) ?_
  obtain ⟨p11, hcp11, hf⟩ := hf_bind hf
  have hm12 : CS.hs σ ≤ CS.hs p11.2 := Mono.go hcp11 (m_X0_hasCase N σ x1 x4)
  have hr9 : CS.hs p11.2 ≤ CS.hs R.2 := Mono.go hf (mono_ite (mono_bind (m_X0_addCase N p11.2 x4 x2) (fun p16 => (mono_bind (m_X9_advance N p16.2) (fun p20 => (mono_some (Nat.le_refl _)))))) (mono_bind (m_X1_fail N p11.2 4 (p11.2.i 44)) (fun p24 => (mono_some (Nat.le_refl _)))))
  have hFc := cFree hC hA
  refine va_calli (va_runV (As := [.int x1, .int x4]) (rest := []) ⟨hx, hb, hml, hown, hts⟩ (c_X0_hasCase l dC dI Q N σ x1 x4 p11 hcp11) (cwV 2 hts hX1_caseNumber_X0_hasCase_v139 rfl rfl rfl (by decide +kernel) ⟨(show 2 + 1 ≤ 5 by omega), (show 8 + (4 + 11) + 60 * 2 ≤ 60 * 5 by omega)⟩) ⟨zPre.blind, va_recv hK hC.1 (ci := 0) (q0 := 2) rfl rfl, cPre_go hZ hK hC⟩ rfl rfl hl.1 rfl (lv_room (Nat.le_of_ble_eq_true rfl)) dX1_caseNumber_51 (cAcc h0 hm12 hr9)) hC.2.2.1 (fun q _ h => hFc q h) hFc (fun r13 u9 t9 H1 locs ht hvm hw hB hz1 hk1 hS => ?_)
  obtain ⟨⟨hP, hK1, hD1⟩, hsz1⟩ := hB
  rw [ht] at hP hsz1
  have hC : CP dC dI Q A s.heap p11.2 H1 locs := ⟨hP, hD1.weaken (fun _ _ _ h => hFc _ h), hS, hsz1⟩
  generalize H1 = H at hC ⊢
  have h14 : z9h ≤ CS.hs p11.2 := Nat.le_trans h0 hm12
  refine W.widen (k := CS.hs p11.2 - z9h) (n := 17 * (CS.hs p11.2 - z9h)) (cAcc2 h0 hm12) (cAcc3 h0 hm12) ?_
  obtain rfl : r13 = p11.1 := hw
  refine lv_if_eq (tgt := 70) hx hb dX1_caseNumber_54 (by decide) (fun c15 => ?_) (fun c15 => ?_)
  ·
    replace hf := (if_pos c15).symm.trans hf
    refine lv_aload_n hx hb dX1_caseNumber_70 rfl (lv_at hl 0 rfl) ?_
    refine cG_29 hx hb hts i_X1_caseNumber_X7 hown hK hC (hts (.fieldLink RX1 22 "StatementRules2$Formulas" "code" "LStatementRules2$Code;") k_X1_caseNumber_fieldLink_RX1_22_SR_Formulas_code_LSR_Code) (fun _ q9 => q9) dX1_caseNumber_71 ?_
    refine lv_iload hx hb dX1_caseNumber_74 (lv_at hl 3 rfl) ?_
    refine lv_iload_n hx hb dX1_caseNumber_76 rfl (lv_at hl 2 rfl) ?_
    obtain ⟨p16, hcp16, hf⟩ := hf_bind hf
    have hm17 : CS.hs p11.2 ≤ CS.hs p16.2 := Mono.go hcp16 (m_X0_addCase N p11.2 x4 x2)
    have hr9 : CS.hs p16.2 ≤ CS.hs R.2 := Mono.go hf (mono_bind (m_X9_advance N p16.2) (fun p20 => (mono_some (Nat.le_refl _))))
    have hFc := cFree hC hA
    refine va_callv (va_runV (As := [.int x4, .int x2]) (rest := []) ⟨hx, hb, hml, hown, hts⟩ (c_X0_addCase l dC dI Q N p11.2 x4 x2 p16 hcp16) (cwV 2 hts hX1_caseNumber_X0_addCase_v143 rfl rfl rfl (by decide +kernel) ⟨(show 2 + 1 ≤ 5 by omega), (show 8 + (3 + 11) + 60 * 2 ≤ 60 * 5 by omega)⟩) ⟨zPre.blind, va_recv hK hC.1 (ci := 0) (q0 := 2) rfl rfl, cPre_go hZ hK hC⟩ rfl rfl hl.1 rfl (lv_room (Nat.le_of_ble_eq_true rfl)) dX1_caseNumber_77 (cAcc h14 hm17 hr9)) hC.2.2.1 (fun q _ h => hFc q h) hFc (fun u9 t9 H1 locs ht hvm hw hB hz1 hk1 hS => ?_)
    obtain ⟨⟨hP, hK1, hD1⟩, hsz1⟩ := hB
    rw [ht] at hP hsz1
    have hC : CP dC dI Q A s.heap p16.2 H1 locs := ⟨hP, hD1.weaken (fun _ _ _ h => hFc _ h), hS, hsz1⟩
    generalize H1 = H at hC ⊢
    have h19 : z9h ≤ CS.hs p16.2 := Nat.le_trans h14 hm17
    refine W.widen (k := CS.hs p16.2 - z9h) (n := 17 * (CS.hs p16.2 - z9h)) (cAcc2 h14 hm17) (cAcc3 h14 hm17) ?_
    refine lv_aload_n hx hb dX1_caseNumber_80 rfl (lv_at hl 0 rfl) ?_
    refine cG_28 hx hb hts i_X1_caseNumber_X7 hown hK hC (hts (.fieldLink RX1 18 "StatementRules2$Formulas" "tokens" "LStatementRules2$Tokens;") k_X1_caseNumber_fieldLink_RX1_18_SR_Formulas_tokens_LSR_Tokens) (fun _ q9 => q9) dX1_caseNumber_81 ?_
    obtain ⟨p20, hcp20, hf⟩ := hf_bind hf
    have hm21 : CS.hs p16.2 ≤ CS.hs p20.2 := Mono.go hcp20 (m_X9_advance N p16.2)
    have hr9 : CS.hs p20.2 ≤ CS.hs R.2 := Mono.go hf (mono_some (Nat.le_refl _))
    have hFc := cFree hC hA
    refine va_callv (va_runV (As := []) (rest := []) ⟨hx, hb, hml, hown, hts⟩ (c_X9_advance l dC dI Q N p16.2 p20 hcp20) (cwV 0 hts hX1_caseNumber_X9_advance_v56 rfl rfl rfl (by decide +kernel) ⟨(show 3 + 1 ≤ 5 by omega), (show 8 + (2 + 11) + 60 * 3 ≤ 60 * 5 by omega)⟩) ⟨zPre.blind, va_recv hK hC.1 (ci := 8) (q0 := 4) rfl rfl, cPre_go hZ hK hC⟩ rfl rfl hl.1 rfl (lv_room (Nat.le_of_ble_eq_true rfl)) dX1_caseNumber_84 (cAcc h19 hm21 hr9)) hC.2.2.1 (fun q _ h => hFc q h) hFc (fun u9 t9 H1 locs ht hvm hw hB hz1 hk1 hS => ?_)
    obtain ⟨⟨hP, hK1, hD1⟩, hsz1⟩ := hB
    rw [ht] at hP hsz1
    have hC : CP dC dI Q A s.heap p20.2 H1 locs := ⟨hP, hD1.weaken (fun _ _ _ h => hFc _ h), hS, hsz1⟩
    generalize H1 = H at hC ⊢
    have h23 : z9h ≤ CS.hs p20.2 := Nat.le_trans h19 hm21
    refine W.widen (k := CS.hs p20.2 - z9h) (n := 17 * (CS.hs p20.2 - z9h)) (cAcc2 h19 hm21) (cAcc3 h19 hm21) ?_
    obtain rfl := Option.some.inj hf
    exact W.vret hx hb hr (fun t ht hW => ⟨⟨(), rfl, trivial, ⟨by rw [ht]; exact hC.1, va_K.moved hW.alike hK, hC.2.1⟩, by rw [ht]; exact hC.2.2.2⟩, hC.2.2.1.F ht⟩) hC.2.2.1.2.2 dX1_caseNumber_87
  ·
    replace hf := (if_neg c15).symm.trans hf
    refine lv_aload_n hx hb dX1_caseNumber_57 rfl (lv_at hl 0 rfl) ?_
    refine lv_iconst (v := 4) hx hb dX1_caseNumber_58 (by decide) ?_
    refine lv_aload_n hx hb dX1_caseNumber_59 rfl (lv_at hl 0 rfl) ?_
    refine cG_28 hx hb hts i_X1_caseNumber_X7 hown hK hC (hts (.fieldLink RX1 18 "StatementRules2$Formulas" "tokens" "LStatementRules2$Tokens;") k_X1_caseNumber_fieldLink_RX1_18_SR_Formulas_tokens_LSR_Tokens) (fun _ q9 => q9) dX1_caseNumber_60 ?_
    refine cGN_44 (v := (p11.2.i 44)) hx hb hts i_X1_caseNumber_X9 hown hK hC (va_Nw.use rfl (hZ.1 (.fieldLinkNest RX1 46 "StatementRules2$Tokens" "place" "I" "StatementRules2") (by decide +kernel))) (fun _ q9 => q9) dX1_caseNumber_63 rfl ?_
    obtain ⟨p24, hcp24, hf⟩ := hf_bind hf
    have hm25 : CS.hs p11.2 ≤ CS.hs p24.2 := Mono.go hcp24 (m_X1_fail N p11.2 4 (p11.2.i 44))
    have hr9 : CS.hs p24.2 ≤ CS.hs R.2 := Mono.go hf (mono_some (Nat.le_refl _))
    have hFc := cFree hC hA
    refine va_callv (va_runU (As := [.int 4, .int (p11.2.i 44)]) (rest := []) ⟨hx, hb, hml, hown, hts⟩ (c_X1_fail l dC dI Q N p11.2 4 (p11.2.i 44) p24 hcp24) (va_cwU 2 hts hX1_caseNumber_X1_fail_u49 rfl rfl rfl rfl (by decide +kernel) ⟨(show 2 + 1 ≤ 5 by omega), (show 8 + (3 + 11) + 60 * 2 ≤ 60 * 5 by omega)⟩) ⟨zPre.blind, va_recv hK hC.1 (ci := 6) (q0 := 3) rfl rfl, cPre_go hZ hK hC⟩ rfl rfl hl.1 rfl (lv_room (Nat.le_of_ble_eq_true rfl)) dX1_caseNumber_66 (cAcc h14 hm25 hr9)) hC.2.2.1 (fun q _ h => hFc q h) hFc (fun u9 t9 H1 locs ht hvm hw hB hz1 hk1 hS => ?_)
    obtain ⟨⟨hP, hK1, hD1⟩, hsz1⟩ := hB
    rw [ht] at hP hsz1
    have hC : CP dC dI Q A s.heap p24.2 H1 locs := ⟨hP, hD1.weaken (fun _ _ _ h => hFc _ h), hS, hsz1⟩
    generalize H1 = H at hC ⊢
    have h27 : z9h ≤ CS.hs p24.2 := Nat.le_trans h14 hm25
    refine W.widen (k := CS.hs p24.2 - z9h) (n := 17 * (CS.hs p24.2 - z9h)) (cAcc2 h14 hm25) (cAcc3 h14 hm25) ?_
    obtain rfl := Option.some.inj hf
    exact W.vret hx hb hr (fun t ht hW => ⟨⟨(), rfl, trivial, ⟨by rw [ht]; exact hC.1, va_K.moved hW.alike hK, hC.2.1⟩, by rw [ht]; exact hC.2.2.2⟩, hC.2.2.1.F ht⟩) hC.2.2.1.2.2 dX1_caseNumber_69
set_option maxHeartbeats 4000000 in
set_option maxRecDepth 100000 in
theorem c_X1_caseNumber (l : Launch) (dC : Nat → ClassId) (dI : Nat → Nat → Nat) (Q : CQ) (N : Nat) (σ : CS) (x1 : Int32) (x2 : Int32) (R : Unit × CS) (hf : f_X1_caseNumber N σ x1 x2 = some R) : Met l yX1_caseNumber wzX1_caseNumber ({ frames := 5, cells := CS.hs R.2 - CS.hs σ, slots := 17 * (CS.hs R.2 - CS.hs σ), locals := 60 * 5 }) (va_Pc [.ref (Q.o 3), .int x1, .int x2] (zPre dC dI (CS.hs σ) (cW Q σ) (cT Q))) (va_Qv (fun (_ : Unit) => True) (fun (_ : Unit) (t : State) => zPost dC dI (va_A (cW Q σ) (CS.hs σ)) (cW Q R.2) (cT Q) t ∧ t.heap.size = CS.hs R.2) (va_A (cW Q σ) (CS.hs σ))) (CS.hs R.2 - CS.hs σ) (17 * (CS.hs R.2 - CS.hs σ)) (va_A (cW Q σ) (CS.hs σ)) := by
  refine Met.ofW (cc := cX1_caseNumber) (maxL := 5) (ret := none) (by decide) rfl ?_
  intro p e s m args below meth c s₁ B hml hv
  obtain ⟨rfl, hsz, hZ, hP, hK, hD0⟩ := hv
  have hx := B.exec
  have hb := B.bytes
  have hr := B.returns
  have hts := atoms_spec (ws := wzX1_caseNumber) B.pre
  have hown : s.vm.findClass RX1 = some m.cls := findClass_of_methodNamed B.named
  have hlocks := B.notSynchronized
  have hD := hD0.self (sz := CS.hs σ)
  generalize hAe : va_A (cW Q σ) (CS.hs σ) = A at hD ⊢
  have hA : ∀ q : Nat, s.heap.size ≤ q → A q := fun q h => by rw [← hAe]; exact Or.inr (hsz ▸ h)
  have hC : CP dC dI Q A s.heap σ s.heap [] := ⟨hP, hD, va_S.rf, hsz⟩
  have h0 : CS.hs σ ≤ CS.hs σ := Nat.le_refl _
  have hl := lv_entry ([.ref (Q.o 3), .int x1, .int x2]) (n := 5) (Nat.le_of_ble_eq_true rfl)
  rw [lg_entry_eq]
  generalize (lg_sl ([.ref (Q.o 3), .int x1, .int x2]) ++ List.replicate (5 - (lg_sl ([.ref (Q.o 3), .int x1, .int x2])).length) Slot.unset).toArray = ls at hl ⊢
  have hl : lv_has ls 5 [(0, .ref (Q.o 3)), (1, .int x1), (2, .int x2)] := hl
  unfold f_X1_caseNumber at hf
  refine W.widen (k := CS.hs σ - CS.hs σ) (n := 17 * (CS.hs σ - CS.hs σ)) (Nat.zero_le _) (Nat.zero_le _) ?_
  refine lv_aload_n hx hb dX1_caseNumber_0 rfl (lv_at hl 0 rfl) ?_
  refine lv_bipush (v := 45) hx hb dX1_caseNumber_1 (by decide) ?_
  obtain ⟨p1, hcp1, hf⟩ := hf_bind hf
  have hm2 : CS.hs σ ≤ CS.hs p1.2 := Mono.go hcp1 (m_X1_skip N σ 45)
  have hr9 : CS.hs p1.2 ≤ CS.hs R.2 := Mono.go hf (mono_bind (m_X1_found N p1.2 1) (fun p5 => (mono_ite (mono_bind (m_X1_misplaced N p5.2) (fun p28 => (mono_some (Nat.le_refl _)))) (mono_ite (m_X1_caseNumber_44 N p5.2 x1 x2 (p5.2.i 45)) (m_X1_caseNumber_44 N p5.2 x1 x2 (-(p5.2.i 45)))))))
  have hFc := cFree hC hA
  refine va_calli (va_runU (As := [.int 45]) (rest := []) ⟨hx, hb, hml, hown, hts⟩ (c_X1_skip l dC dI Q N σ 45 p1 hcp1) (va_cwU 1 hts hX1_caseNumber_X1_skip_u130 rfl rfl rfl rfl (by decide +kernel) ⟨(show 4 + 1 ≤ 5 by omega), (show 8 + (3 + 11) + 60 * 4 ≤ 60 * 5 by omega)⟩) ⟨zPre.blind, va_recv hK hC.1 (ci := 6) (q0 := 3) rfl rfl, cPre_go hZ hK hC⟩ rfl rfl hl.1 rfl (lv_room (Nat.le_of_ble_eq_true rfl)) dX1_caseNumber_3 (cAcc h0 hm2 hr9)) hC.2.2.1 (fun q _ h => hFc q h) hFc (fun r3 u9 t9 H1 locs ht hvm hw hB hz1 hk1 hS => ?_)
  obtain ⟨⟨hP, hK1, hD1⟩, hsz1⟩ := hB
  rw [ht] at hP hsz1
  have hC : CP dC dI Q A s.heap p1.2 H1 locs := ⟨hP, hD1.weaken (fun _ _ _ h => hFc _ h), hS, hsz1⟩
  generalize H1 = H at hC ⊢
  have h4 : (CS.hs σ) ≤ CS.hs p1.2 := Nat.le_trans h0 hm2
  refine W.widen (k := CS.hs p1.2 - (CS.hs σ)) (n := 17 * (CS.hs p1.2 - (CS.hs σ))) (cAcc2 h0 hm2) (cAcc3 h0 hm2) ?_
  obtain rfl : r3 = p1.1 := hw
  refine lv_istore_n (lv' := [(3, .int p1.1), (0, .ref (Q.o 3)), (1, .int x1), (2, .int x2)]) hx hb dX1_caseNumber_6 rfl hl (by decide) rfl (fun ls hl => ?_)
  refine lv_aload_n hx hb dX1_caseNumber_7 rfl (lv_at hl 1 rfl) ?_
  refine lv_iconst (v := 1) hx hb dX1_caseNumber_8 (by decide) ?_
  obtain ⟨p5, hcp5, hf⟩ := hf_bind hf
  have hm6 : CS.hs p1.2 ≤ CS.hs p5.2 := Mono.go hcp5 (m_X1_found N p1.2 1)
  have hr9 : CS.hs p5.2 ≤ CS.hs R.2 := Mono.go hf (mono_ite (mono_bind (m_X1_misplaced N p5.2) (fun p28 => (mono_some (Nat.le_refl _)))) (mono_ite (m_X1_caseNumber_44 N p5.2 x1 x2 (p5.2.i 45)) (m_X1_caseNumber_44 N p5.2 x1 x2 (-(p5.2.i 45)))))
  have hFc := cFree hC hA
  refine va_calli (va_runU (As := [.int 1]) (rest := []) ⟨hx, hb, hml, hown, hts⟩ (c_X1_found l dC dI Q N p1.2 1 p5 hcp5) (va_cwU 1 hts hX1_caseNumber_X1_found_u42 rfl rfl rfl rfl (by decide +kernel) ⟨(show 1 + 1 ≤ 5 by omega), (show 8 + (2 + 11) + 60 * 1 ≤ 60 * 5 by omega)⟩) ⟨zPre.blind, va_recv hK hC.1 (ci := 6) (q0 := 3) rfl rfl, cPre_go hZ hK hC⟩ rfl rfl hl.1 rfl (lv_room (Nat.le_of_ble_eq_true rfl)) dX1_caseNumber_9 (cAcc h4 hm6 hr9)) hC.2.2.1 (fun q _ h => hFc q h) hFc (fun r7 u9 t9 H1 locs ht hvm hw hB hz1 hk1 hS => ?_)
  obtain ⟨⟨hP, hK1, hD1⟩, hsz1⟩ := hB
  rw [ht] at hP hsz1
  have hC : CP dC dI Q A s.heap p5.2 H1 locs := ⟨hP, hD1.weaken (fun _ _ _ h => hFc _ h), hS, hsz1⟩
  generalize H1 = H at hC ⊢
  have h8 : (CS.hs σ) ≤ CS.hs p5.2 := Nat.le_trans h4 hm6
  refine W.widen (k := CS.hs p5.2 - (CS.hs σ)) (n := 17 * (CS.hs p5.2 - (CS.hs σ))) (cAcc2 h4 hm6) (cAcc3 h4 hm6) ?_
  obtain rfl : r7 = p5.1 := hw
  refine lv_if_ne (tgt := 20) hx hb dX1_caseNumber_12 (by decide) (fun c9 => ?_) (fun c9 => ?_)
  ·
    replace hf := (if_neg c9).symm.trans hf
    refine lv_iload_n hx hb dX1_caseNumber_20 rfl (lv_at hl 0 rfl) ?_
    refine lv_if_eq (tgt := 35) hx hb dX1_caseNumber_21 (by decide) (fun c10 => ?_) (fun c10 => ?_)
    ·
      replace hf := (if_pos c10).symm.trans hf
      refine lv_aload_n hx hb dX1_caseNumber_35 rfl (lv_at hl 1 rfl) ?_
      refine cG_28 hx hb hts i_X1_caseNumber_X7 hown hK hC (hts (.fieldLink RX1 18 "StatementRules2$Formulas" "tokens" "LStatementRules2$Tokens;") k_X1_caseNumber_fieldLink_RX1_18_SR_Formulas_tokens_LSR_Tokens) (fun _ q9 => q9) dX1_caseNumber_36 ?_
      refine cGN_45 (v := (p5.2.i 45)) hx hb hts i_X1_caseNumber_X9 hown hK hC (va_Nw.use rfl (hZ.1 (.fieldLinkNest RX1 76 "StatementRules2$Tokens" "value" "I" "StatementRules2") (by decide +kernel))) (fun _ q9 => q9) dX1_caseNumber_39 rfl ?_
      refine lv_istore (lv' := [(4, .int (p5.2.i 45)), (3, .int p1.1), (0, .ref (Q.o 3)), (1, .int x1), (2, .int x2)]) hx hb dX1_caseNumber_42 hl (by decide) rfl (fun ls hl => ?_)
      exact j_X1_caseNumber_44 l dC dI Q N (CS.hs σ) R hx hb hr hml hown hts hlocks hZ hA hK p5.2 x1 x2 (p5.2.i 45) _ _ _ hf h8 hC (lv_sub hl [2, 3, 4, 0] rfl)
    ·
      replace hf := (if_neg c10).symm.trans hf
      refine lv_aload_n hx hb dX1_caseNumber_24 rfl (lv_at hl 1 rfl) ?_
      refine cG_28 hx hb hts i_X1_caseNumber_X7 hown hK hC (hts (.fieldLink RX1 18 "StatementRules2$Formulas" "tokens" "LStatementRules2$Tokens;") k_X1_caseNumber_fieldLink_RX1_18_SR_Formulas_tokens_LSR_Tokens) (fun _ q9 => q9) dX1_caseNumber_25 ?_
      refine cGN_45 (v := (p5.2.i 45)) hx hb hts i_X1_caseNumber_X9 hown hK hC (va_Nw.use rfl (hZ.1 (.fieldLinkNest RX1 76 "StatementRules2$Tokens" "value" "I" "StatementRules2") (by decide +kernel))) (fun _ q9 => q9) dX1_caseNumber_28 rfl ?_
      refine lv_ineg hx hb dX1_caseNumber_31 ?_
      refine lv_goto (tgt := 42) hx hb dX1_caseNumber_32 (by decide) ?_
      refine lv_istore (lv' := [(4, .int (-(p5.2.i 45))), (3, .int p1.1), (0, .ref (Q.o 3)), (1, .int x1), (2, .int x2)]) hx hb dX1_caseNumber_42 hl (by decide) rfl (fun ls hl => ?_)
      exact j_X1_caseNumber_44 l dC dI Q N (CS.hs σ) R hx hb hr hml hown hts hlocks hZ hA hK p5.2 x1 x2 (-(p5.2.i 45)) _ _ _ hf h8 hC (lv_sub hl [2, 3, 4, 0] rfl)
  ·
    replace hf := (if_pos c9).symm.trans hf
    refine lv_aload_n hx hb dX1_caseNumber_15 rfl (lv_at hl 1 rfl) ?_
    obtain ⟨p28, hcp28, hf⟩ := hf_bind hf
    have hm29 : CS.hs p5.2 ≤ CS.hs p28.2 := Mono.go hcp28 (m_X1_misplaced N p5.2)
    have hr9 : CS.hs p28.2 ≤ CS.hs R.2 := Mono.go hf (mono_some (Nat.le_refl _))
    have hFc := cFree hC hA
    refine va_callv (va_runU (As := []) (rest := []) ⟨hx, hb, hml, hown, hts⟩ (c_X1_misplaced l dC dI Q N p5.2 p28 hcp28) (va_cwU 0 hts hX1_caseNumber_X1_misplaced_u59 rfl rfl rfl rfl (by decide +kernel) ⟨(show 3 + 1 ≤ 5 by omega), (show 8 + (1 + 11) + 60 * 3 ≤ 60 * 5 by omega)⟩) ⟨zPre.blind, va_recv hK hC.1 (ci := 6) (q0 := 3) rfl rfl, cPre_go hZ hK hC⟩ rfl rfl hl.1 rfl (lv_room (Nat.le_of_ble_eq_true rfl)) dX1_caseNumber_16 (cAcc h8 hm29 hr9)) hC.2.2.1 (fun q _ h => hFc q h) hFc (fun u9 t9 H1 locs ht hvm hw hB hz1 hk1 hS => ?_)
    obtain ⟨⟨hP, hK1, hD1⟩, hsz1⟩ := hB
    rw [ht] at hP hsz1
    have hC : CP dC dI Q A s.heap p28.2 H1 locs := ⟨hP, hD1.weaken (fun _ _ _ h => hFc _ h), hS, hsz1⟩
    generalize H1 = H at hC ⊢
    have h31 : (CS.hs σ) ≤ CS.hs p28.2 := Nat.le_trans h8 hm29
    refine W.widen (k := CS.hs p28.2 - (CS.hs σ)) (n := 17 * (CS.hs p28.2 - (CS.hs σ))) (cAcc2 h8 hm29) (cAcc3 h8 hm29) ?_
    obtain rfl := Option.some.inj hf
    exact W.vret hx hb hr (fun t ht hW => ⟨⟨(), rfl, trivial, ⟨by rw [ht]; exact hC.1, va_K.moved hW.alike hK, hC.2.1⟩, by rw [ht]; exact hC.2.2.2⟩, hC.2.2.1.F ht⟩) hC.2.2.1.2.2 dX1_caseNumber_19
set_option maxHeartbeats 4000000 in
set_option maxRecDepth 100000 in
theorem c_X1_comparing (l : Launch) (dC : Nat → ClassId) (dI : Nat → Nat → Nat) (Q : CQ) (N : Nat) (σ : CS) (x0 : Int32) (R : Int32 × CS) (hf : f_X1_comparing N σ x0 = some R) : Met l yX1_comparing wzX1_comparing ({ frames := 1, cells := CS.hs R.2 - CS.hs σ, slots := 17 * (CS.hs R.2 - CS.hs σ), locals := 60 * 1 }) (va_Pc [.int x0] (zPre dC dI (CS.hs σ) (cW Q σ) (cT Q))) (va_Qi (fun (r : Int32) (_ : Unit) => r = R.1) (fun (_ : Unit) (t : State) => zPost dC dI (va_A (cW Q σ) (CS.hs σ)) (cW Q R.2) (cT Q) t ∧ t.heap.size = CS.hs R.2) (va_A (cW Q σ) (CS.hs σ))) (CS.hs R.2 - CS.hs σ) (17 * (CS.hs R.2 - CS.hs σ)) (va_A (cW Q σ) (CS.hs σ)) := by
  refine Met.ofW (cc := cX1_comparing) (maxL := 1) (ret := (some .int)) (by decide) rfl ?_
  intro p e s m args below meth c s₁ B hml hv
  obtain ⟨rfl, hsz, hZ, hP, hK, hD0⟩ := hv
  have hx := B.exec
  have hb := B.bytes
  have hr := B.returns
  have hts := atoms_spec (ws := wzX1_comparing) B.pre
  have hown : s.vm.findClass RX1 = some m.cls := findClass_of_methodNamed B.named
  have hlocks := B.notSynchronized
  have hD := hD0.self (sz := CS.hs σ)
  generalize hAe : va_A (cW Q σ) (CS.hs σ) = A at hD ⊢
  have hA : ∀ q : Nat, s.heap.size ≤ q → A q := fun q h => by rw [← hAe]; exact Or.inr (hsz ▸ h)
  have hC : CP dC dI Q A s.heap σ s.heap [] := ⟨hP, hD, va_S.rf, hsz⟩
  have h0 : CS.hs σ ≤ CS.hs σ := Nat.le_refl _
  have hl := lv_entry ([.int x0]) (n := 1) (Nat.le_of_ble_eq_true rfl)
  rw [lg_entry_eq]
  generalize (lg_sl ([.int x0]) ++ List.replicate (1 - (lg_sl ([.int x0])).length) Slot.unset).toArray = ls at hl ⊢
  have hl : lv_has ls 1 [(0, .int x0)] := hl
  unfold f_X1_comparing at hf
  refine W.widen (k := CS.hs σ - CS.hs σ) (n := 17 * (CS.hs σ - CS.hs σ)) (Nat.zero_le _) (Nat.zero_le _) ?_
  refine lv_iload_n hx hb dX1_comparing_0 rfl (lv_at hl 0 rfl) ?_
  by_cases c1 : x0 = 60
  ·
    replace hf := (if_pos c1).symm.trans hf
    refine lv_lookup (off := 59) (tgt := 60) hx hb dX1_comparing_1 (by decide) (by rw [c1]; decide) (by decide) ?_
    refine lv_bipush (v := 12) hx hb dX1_comparing_60 (by decide) ?_
    obtain rfl := Option.some.inj hf
    exact W.iret (v := 12) hx hb hr (fun t ht hW => ⟨⟨12, (), rfl, rfl, ⟨by rw [ht]; exact hC.1, va_K.moved hW.alike hK, hC.2.1⟩, by rw [ht]; exact hC.2.2.2⟩, hC.2.2.1.F ht⟩) hC.2.2.1.2.2 dX1_comparing_62
  replace hf := (if_neg c1).symm.trans hf
  by_cases c2 : x0 = 62
  ·
    replace hf := (if_pos c2).symm.trans hf
    refine lv_lookup (off := 65) (tgt := 66) hx hb dX1_comparing_1 (by decide) (by rw [c2]; decide) (by decide) ?_
    refine lv_bipush (v := 14) hx hb dX1_comparing_66 (by decide) ?_
    obtain rfl := Option.some.inj hf
    exact W.iret (v := 14) hx hb hr (fun t ht hW => ⟨⟨14, (), rfl, rfl, ⟨by rw [ht]; exact hC.1, va_K.moved hW.alike hK, hC.2.1⟩, by rw [ht]; exact hC.2.2.2⟩, hC.2.2.1.F ht⟩) hC.2.2.1.2.2 dX1_comparing_68
  replace hf := (if_neg c2).symm.trans hf
  by_cases c3 : x0 = 128
  ·
    replace hf := (if_pos c3).symm.trans hf
    refine lv_lookup (off := 62) (tgt := 63) hx hb dX1_comparing_1 (by decide) (by rw [c3]; decide) (by decide) ?_
    refine lv_bipush (v := 13) hx hb dX1_comparing_63 (by decide) ?_
    obtain rfl := Option.some.inj hf
    exact W.iret (v := 13) hx hb hr (fun t ht hW => ⟨⟨13, (), rfl, rfl, ⟨by rw [ht]; exact hC.1, va_K.moved hW.alike hK, hC.2.1⟩, by rw [ht]; exact hC.2.2.2⟩, hC.2.2.1.F ht⟩) hC.2.2.1.2.2 dX1_comparing_65
  replace hf := (if_neg c3).symm.trans hf
  by_cases c4 : x0 = 129
  ·
    replace hf := (if_pos c4).symm.trans hf
    refine lv_lookup (off := 68) (tgt := 69) hx hb dX1_comparing_1 (by decide) (by rw [c4]; decide) (by decide) ?_
    refine lv_bipush (v := 15) hx hb dX1_comparing_69 (by decide) ?_
    obtain rfl := Option.some.inj hf
    exact W.iret (v := 15) hx hb hr (fun t ht hW => ⟨⟨15, (), rfl, rfl, ⟨by rw [ht]; exact hC.1, va_K.moved hW.alike hK, hC.2.1⟩, by rw [ht]; exact hC.2.2.2⟩, hC.2.2.1.F ht⟩) hC.2.2.1.2.2 dX1_comparing_71
  replace hf := (if_neg c4).symm.trans hf
  by_cases c5 : x0 = 130
  ·
    replace hf := (if_pos c5).symm.trans hf
    refine lv_lookup (off := 71) (tgt := 72) hx hb dX1_comparing_1 (by decide) (by rw [c5]; decide) (by decide) ?_
    refine lv_bipush (v := 16) hx hb dX1_comparing_72 (by decide) ?_
    obtain rfl := Option.some.inj hf
    exact W.iret (v := 16) hx hb hr (fun t ht hW => ⟨⟨16, (), rfl, rfl, ⟨by rw [ht]; exact hC.1, va_K.moved hW.alike hK, hC.2.1⟩, by rw [ht]; exact hC.2.2.2⟩, hC.2.2.1.F ht⟩) hC.2.2.1.2.2 dX1_comparing_74
  replace hf := (if_neg c5).symm.trans hf
  by_cases c6 : x0 = 131
  ·
    replace hf := (if_pos c6).symm.trans hf
    refine lv_lookup (off := 74) (tgt := 75) hx hb dX1_comparing_1 (by decide) (by rw [c6]; decide) (by decide) ?_
    refine lv_bipush (v := 17) hx hb dX1_comparing_75 (by decide) ?_
    obtain rfl := Option.some.inj hf
    exact W.iret (v := 17) hx hb hr (fun t ht hW => ⟨⟨17, (), rfl, rfl, ⟨by rw [ht]; exact hC.1, va_K.moved hW.alike hK, hC.2.1⟩, by rw [ht]; exact hC.2.2.2⟩, hC.2.2.1.F ht⟩) hC.2.2.1.2.2 dX1_comparing_77
  replace hf := (if_neg c6).symm.trans hf
  refine lv_lookup (off := 77) (tgt := 78) hx hb dX1_comparing_1 (by decide) (by show Op.lookupswitch.offset [(60, 59), (62, 65), (128, 62), (129, 68), (130, 71), (131, 74)] 77 (x0 : Int32).toInt = 77; rw [lv_osw (k := 60) (a := 60) c1 (by decide), lv_osw (k := 62) (a := 62) c2 (by decide), lv_osw (k := 128) (a := 128) c3 (by decide), lv_osw (k := 129) (a := 129) c4 (by decide), lv_osw (k := 130) (a := 130) c5 (by decide), lv_osw (k := 131) (a := 131) c6 (by decide)]; rfl) (by decide) ?_
  refine lv_iconst (v := (-1)) hx hb dX1_comparing_78 (by decide) ?_
  obtain rfl := Option.some.inj hf
  exact W.iret (v := (-1)) hx hb hr (fun t ht hW => ⟨⟨(-1), (), rfl, rfl, ⟨by rw [ht]; exact hC.1, va_K.moved hW.alike hK, hC.2.1⟩, by rw [ht]; exact hC.2.2.2⟩, hC.2.2.1.F ht⟩) hC.2.2.1.2.2 dX1_comparing_79
theorem k_X2_init_methodLink_RX2_1_objectInit : Cond.methodLink RX2 1 objectInit ∈ wzX2_init := List.mem_cons_of_mem _ (List.mem_append_left _ (List.mem_of_getElem? (i := 0) rfl))
theorem k_X2_init_instanceMethod_objectInit : Cond.instanceMethod objectInit ∈ wzX2_init := List.mem_cons_of_mem _ (List.mem_append_left _ (List.mem_of_getElem? (i := 1) rfl))
theorem k_X2_init_code_objectInit_0xb1_1_none : Cond.code objectInit ⟨#[0xb1]⟩ 1 none ∈ wzX2_init := List.mem_cons_of_mem _ (List.mem_append_left _ (List.mem_of_getElem? (i := 2) rfl))
set_option maxHeartbeats 4000000 in
set_option maxRecDepth 100000 in
theorem c_X2_init (l : Launch) (dC : Nat → ClassId) (dI : Nat → Nat → Nat) (Q : CQ) (N : Nat) (σ : CS) (x0 : Nat) (R : Unit × CS) (hf : f_X2_init N σ x0 = some R) : Met l yX2_init wzX2_init ({ frames := 1, cells := CS.hs R.2 - CS.hs σ, slots := 17 * (CS.hs R.2 - CS.hs σ), locals := 60 * 1 }) (va_Pc [.ref x0] (zPre dC dI (CS.hs σ) (cW Q σ) (cT Q))) (va_Qv (fun (_ : Unit) => True) (fun (_ : Unit) (t : State) => zPost dC dI (va_A (cW Q σ) (CS.hs σ)) (cW Q R.2) (cT Q) t ∧ t.heap.size = CS.hs R.2) (va_A (cW Q σ) (CS.hs σ))) (CS.hs R.2 - CS.hs σ) (17 * (CS.hs R.2 - CS.hs σ)) (va_A (cW Q σ) (CS.hs σ)) := by
  refine Met.ofW (cc := cX2_init) (maxL := 1) (ret := none) (by decide) rfl ?_
  intro p e s m args below meth c s₁ B hml hv
  obtain ⟨rfl, hsz, hZ, hP, hK, hD0⟩ := hv
  have hx := B.exec
  have hb := B.bytes
  have hr := B.returns
  have hts := atoms_spec (ws := wzX2_init) B.pre
  have hown : s.vm.findClass RX2 = some m.cls := findClass_of_methodNamed B.named
  have hlocks := B.notSynchronized
  have hin : meth.name = "<init>" := (name_of_methodNamed B.named B.method).1
  have hD := hD0.self (sz := CS.hs σ)
  generalize hAe : va_A (cW Q σ) (CS.hs σ) = A at hD ⊢
  have hA : ∀ q : Nat, s.heap.size ≤ q → A q := fun q h => by rw [← hAe]; exact Or.inr (hsz ▸ h)
  have hC : CP dC dI Q A s.heap σ s.heap [] := ⟨hP, hD, va_S.rf, hsz⟩
  have h0 : CS.hs σ ≤ CS.hs σ := Nat.le_refl _
  have hl := lv_entry ([.ref x0]) (n := 1) (Nat.le_of_ble_eq_true rfl)
  rw [lg_entry_eq]
  generalize (lg_sl ([.ref x0]) ++ List.replicate (1 - (lg_sl ([.ref x0])).length) Slot.unset).toArray = ls at hl ⊢
  have hl : lv_has ls 1 [(0, .ref x0)] := hl
  unfold f_X2_init at hf
  refine W.widen (k := CS.hs σ - CS.hs σ) (n := 17 * (CS.hs σ - CS.hs σ)) (Nat.zero_le _) (Nat.zero_le _) ?_
  refine lv_aload_n hx hb dX2_init_0 rfl (lv_at hl 0 rfl) ?_
  refine W.objInit hx hb hown (hts (.methodLink RX2 1 objectInit) k_X2_init_methodLink_RX2_1_objectInit) (hts (.instanceMethod objectInit) k_X2_init_instanceMethod_objectInit) (hts (.code objectInit ⟨#[0xb1]⟩ 1 none) k_X2_init_code_objectInit_0xb1_1_none) rfl (by rw [hml]; exact hl.1) rfl dX2_init_1 (Nat.le_of_ble_eq_true rfl) (Nat.le_of_ble_eq_true rfl) ?_
  refine W.eq (g2 := F0 m 4 ls []) rfl ?_
  obtain rfl := Option.some.inj hf
  exact W.vret hx hb hr (fun t ht hW => ⟨⟨(), rfl, trivial, ⟨by rw [ht]; exact hC.1, va_K.moved hW.alike hK, hC.2.1⟩, by rw [ht]; exact hC.2.2.2⟩, hC.2.2.1.F ht⟩) hC.2.2.1.2.2 dX2_init_4
theorem k_X3_push_fieldLink_RX3_15_SR_Machine_values_I : Cond.fieldLink RX3 15 "StatementRules2$Machine" "values" "[I" ∈ wzX3_push := List.mem_cons_of_mem _ (List.mem_append_left _ (List.mem_of_getElem? (i := 0) rfl))
theorem i_X3_push_X3 : ∀ w ∈ wsX30, w ∈ wzX3_push := fun _ h => List.mem_cons_of_mem _ (List.mem_append_right _ (List.mem_append_left _ (h)))
theorem k_X3_push_fieldLink_RX3_54_SR_Machine_height_I : Cond.fieldLink RX3 54 "StatementRules2$Machine" "height" "I" ∈ wzX3_push := List.mem_cons_of_mem _ (List.mem_append_left _ (List.mem_of_getElem? (i := 1) rfl))
theorem k_X3_push_initialized_RX11 : Cond.initialized RX11 ∈ wzX3_push := List.mem_cons_of_mem _ (List.mem_append_left _ (List.mem_of_getElem? (i := 2) rfl))
theorem k_X3_push_static_yX11_put : Cond.static yX11_put ∈ wzX3_push := List.mem_cons_of_mem _ (List.mem_append_left _ (List.mem_of_getElem? (i := 3) rfl))
set_option maxHeartbeats 4000000 in
set_option maxRecDepth 100000 in
theorem c_X3_push (l : Launch) (dC : Nat → ClassId) (dI : Nat → Nat → Nat) (Q : CQ) (N : Nat) (σ : CS) (x1 : Int32) (R : Unit × CS) (hf : f_X3_push N σ x1 = some R) : Met l yX3_push wzX3_push ({ frames := 2, cells := CS.hs R.2 - CS.hs σ, slots := 17 * (CS.hs R.2 - CS.hs σ), locals := 60 * 2 }) (va_Pc [.ref (Q.o 7), .int x1] (zPre dC dI (CS.hs σ) (cW Q σ) (cT Q))) (va_Qv (fun (_ : Unit) => True) (fun (_ : Unit) (t : State) => zPost dC dI (va_A (cW Q σ) (CS.hs σ)) (cW Q R.2) (cT Q) t ∧ t.heap.size = CS.hs R.2) (va_A (cW Q σ) (CS.hs σ))) (CS.hs R.2 - CS.hs σ) (17 * (CS.hs R.2 - CS.hs σ)) (va_A (cW Q σ) (CS.hs σ)) := by
  refine Met.ofW (cc := cX3_push) (maxL := 2) (ret := none) (by decide) rfl ?_
  intro p e s m args below meth c s₁ B hml hv
  obtain ⟨rfl, hsz, hZ, hP, hK, hD0⟩ := hv
  have hx := B.exec
  have hb := B.bytes
  have hr := B.returns
  have hts := atoms_spec (ws := wzX3_push) B.pre
  have hown : s.vm.findClass RX3 = some m.cls := findClass_of_methodNamed B.named
  have hlocks := B.notSynchronized
  have hD := hD0.self (sz := CS.hs σ)
  generalize hAe : va_A (cW Q σ) (CS.hs σ) = A at hD ⊢
  have hA : ∀ q : Nat, s.heap.size ≤ q → A q := fun q h => by rw [← hAe]; exact Or.inr (hsz ▸ h)
  have hC : CP dC dI Q A s.heap σ s.heap [] := ⟨hP, hD, va_S.rf, hsz⟩
  have h0 : CS.hs σ ≤ CS.hs σ := Nat.le_refl _
  have hl := lv_entry ([.ref (Q.o 7), .int x1]) (n := 2) (Nat.le_of_ble_eq_true rfl)
  rw [lg_entry_eq]
  generalize (lg_sl ([.ref (Q.o 7), .int x1]) ++ List.replicate (2 - (lg_sl ([.ref (Q.o 7), .int x1])).length) Slot.unset).toArray = ls at hl ⊢
  have hl : lv_has ls 2 [(0, .ref (Q.o 7)), (1, .int x1)] := hl
  unfold f_X3_push at hf
  refine W.widen (k := CS.hs σ - CS.hs σ) (n := 17 * (CS.hs σ - CS.hs σ)) (Nat.zero_le _) (Nat.zero_le _) ?_
  refine lv_aload_n hx hb dX3_push_0 rfl (lv_at hl 0 rfl) ?_
  refine cG_60 hx hb hts i_X3_push_X3 hown hK hC (hts (.fieldLink RX3 15 "StatementRules2$Machine" "values" "[I") k_X3_push_fieldLink_RX3_15_SR_Machine_values_I) (fun _ q9 => q9) dX3_push_1 ?_
  refine lv_aload_n hx hb dX3_push_4 rfl (lv_at hl 0 rfl) ?_
  refine cG_65 (v := (σ.i 65)) hx hb hts i_X3_push_X3 hown hK hC (hts (.fieldLink RX3 54 "StatementRules2$Machine" "height" "I") k_X3_push_fieldLink_RX3_54_SR_Machine_height_I) (fun _ q9 => q9) dX3_push_5 rfl ?_
  refine lv_iload_n hx hb dX3_push_8 rfl (lv_at hl 1 rfl) ?_
  have he9 := (show (cW Q σ)[25]? = some (Q.q 60, .inl (Q.c 0, 600, .inl (σ.a 60))) from rfl)
  have hFc := cFree1 hC hA he9
  have hr9 : CS.hs σ ≤ CS.hs R.2 := Mono.go hf (mono_some (Nat.le_refl _))
  refine va_callv (va_runSN (As := [.ref (Q.q 60), .int (σ.i 65), .int x1]) (rest := []) ⟨hx, hb, hml, hown, hts⟩ (c_X11_put l dC dI _ (Q.q 60) (Q.c 0) 600 (σ.a 60) (σ.i 65) x1 (by decide)) ⟨va_cnB 3 hts hX3_push_X11_put_n50 rfl rfl rfl (hZ.1 (.methodLinkNest RX3 50 yX11_put "StatementRules2") (by decide +kernel)) (hts (.initialized RX11) k_X3_push_initialized_RX11) (by decide +kernel) ⟨(show 1 + 1 ≤ 2 by omega), (show 8 + (3 + 11) + 60 * 1 ≤ 60 * 2 by omega)⟩, (hts (.static yX11_put) k_X3_push_static_yX11_put), trivial⟩ ⟨zPre.blind, zPre.go hZ (cOne hC.1 he9) (hK.sub (tys' := [(Q.c 0, .int)]) [0] rfl) (cOneD hC.2.1 he9)⟩ rfl rfl hl.1 rfl (lv_room (Nat.le_of_ble_eq_true rfl)) dX3_push_9 ⟨cAcc4 h0 hr9, cAcc5 h0 hr9⟩) hC.2.2.1 (fun q _ h => hFc q h) hFc (fun u9 t9 H1 locs ht hvm hw hB hz1 hk1 hS => ?_)
  obtain ⟨⟨hP1, hK1, hD1⟩, hsz1⟩ := hB
  rw [ht] at hP1 hsz1
  have hC := cBack (σ' := CS.putA σ 60 (gPut (σ.a 60) 600 (σ.i 65) x1)) hC he9 rfl rfl hk1 hP1 hsz1 hS
  generalize H1 = H at hC ⊢
  refine lv_aload_n hx hb dX3_push_12 rfl (lv_at hl 0 rfl) ?_
  refine lv_dup hx hb dX3_push_13 rfl ?_
  refine cG_65 (v := (σ.i 65)) hx hb hts i_X3_push_X3 hown hK hC (hts (.fieldLink RX3 54 "StatementRules2$Machine" "height" "I") k_X3_push_fieldLink_RX3_54_SR_Machine_height_I) (fun _ q9 => q9) dX3_push_14 rfl ?_
  refine lv_iconst (v := 1) hx hb dX3_push_17 (by decide) ?_
  refine lv_iadd hx hb dX3_push_18 ?_
  refine cP_65 (v := ((σ.i 65) + 1)) hx hb hts i_X3_push_X3 hown hK hC (hts (.fieldLink RX3 54 "StatementRules2$Machine" "height" "I") k_X3_push_fieldLink_RX3_54_SR_Machine_height_I) (fun _ q9 => q9) dX3_push_19 (fun H locs hC => ?_)
  obtain rfl := Option.some.inj hf
  exact W.vret hx hb hr (fun t ht hW => ⟨⟨(), rfl, trivial, ⟨by rw [ht]; exact hC.1, va_K.moved hW.alike hK, hC.2.1⟩, by rw [ht]; exact hC.2.2.2⟩, hC.2.2.1.F ht⟩) hC.2.2.1.2.2 dX3_push_22
theorem k_X3_pop_fieldLink_RX3_54_SR_Machine_height_I : Cond.fieldLink RX3 54 "StatementRules2$Machine" "height" "I" ∈ wzX3_pop := List.mem_cons_of_mem _ (List.mem_append_left _ (List.mem_of_getElem? (i := 0) rfl))
theorem i_X3_pop_X3 : ∀ w ∈ wsX30, w ∈ wzX3_pop := fun _ h => List.mem_cons_of_mem _ (List.mem_append_right _ (List.mem_append_left _ (h)))
theorem k_X3_pop_fieldLink_RX3_15_SR_Machine_values_I : Cond.fieldLink RX3 15 "StatementRules2$Machine" "values" "[I" ∈ wzX3_pop := List.mem_cons_of_mem _ (List.mem_append_left _ (List.mem_of_getElem? (i := 1) rfl))
theorem k_X3_pop_initialized_RX11 : Cond.initialized RX11 ∈ wzX3_pop := List.mem_cons_of_mem _ (List.mem_append_left _ (List.mem_of_getElem? (i := 2) rfl))
theorem k_X3_pop_static_yX11_at : Cond.static yX11_at ∈ wzX3_pop := List.mem_cons_of_mem _ (List.mem_append_left _ (List.mem_of_getElem? (i := 3) rfl))
set_option maxHeartbeats 4000000 in
set_option maxRecDepth 100000 in
theorem c_X3_pop (l : Launch) (dC : Nat → ClassId) (dI : Nat → Nat → Nat) (Q : CQ) (N : Nat) (σ : CS) (R : Int32 × CS) (hf : f_X3_pop N σ = some R) : Met l yX3_pop wzX3_pop ({ frames := 2, cells := CS.hs R.2 - CS.hs σ, slots := 17 * (CS.hs R.2 - CS.hs σ), locals := 60 * 2 }) (va_Pc [.ref (Q.o 7)] (zPre dC dI (CS.hs σ) (cW Q σ) (cT Q))) (va_Qi (fun (r : Int32) (_ : Unit) => r = R.1) (fun (_ : Unit) (t : State) => zPost dC dI (va_A (cW Q σ) (CS.hs σ)) (cW Q R.2) (cT Q) t ∧ t.heap.size = CS.hs R.2) (va_A (cW Q σ) (CS.hs σ))) (CS.hs R.2 - CS.hs σ) (17 * (CS.hs R.2 - CS.hs σ)) (va_A (cW Q σ) (CS.hs σ)) := by
  refine Met.ofW (cc := cX3_pop) (maxL := 1) (ret := (some .int)) (by decide) rfl ?_
  intro p e s m args below meth c s₁ B hml hv
  obtain ⟨rfl, hsz, hZ, hP, hK, hD0⟩ := hv
  have hx := B.exec
  have hb := B.bytes
  have hr := B.returns
  have hts := atoms_spec (ws := wzX3_pop) B.pre
  have hown : s.vm.findClass RX3 = some m.cls := findClass_of_methodNamed B.named
  have hlocks := B.notSynchronized
  have hD := hD0.self (sz := CS.hs σ)
  generalize hAe : va_A (cW Q σ) (CS.hs σ) = A at hD ⊢
  have hA : ∀ q : Nat, s.heap.size ≤ q → A q := fun q h => by rw [← hAe]; exact Or.inr (hsz ▸ h)
  have hC : CP dC dI Q A s.heap σ s.heap [] := ⟨hP, hD, va_S.rf, hsz⟩
  have h0 : CS.hs σ ≤ CS.hs σ := Nat.le_refl _
  have hl := lv_entry ([.ref (Q.o 7)]) (n := 1) (Nat.le_of_ble_eq_true rfl)
  rw [lg_entry_eq]
  generalize (lg_sl ([.ref (Q.o 7)]) ++ List.replicate (1 - (lg_sl ([.ref (Q.o 7)])).length) Slot.unset).toArray = ls at hl ⊢
  have hl : lv_has ls 1 [(0, .ref (Q.o 7))] := hl
  unfold f_X3_pop at hf
  refine W.widen (k := CS.hs σ - CS.hs σ) (n := 17 * (CS.hs σ - CS.hs σ)) (Nat.zero_le _) (Nat.zero_le _) ?_
  refine lv_aload_n hx hb dX3_pop_0 rfl (lv_at hl 0 rfl) ?_
  refine lv_dup hx hb dX3_pop_1 rfl ?_
  refine cG_65 (v := (σ.i 65)) hx hb hts i_X3_pop_X3 hown hK hC (hts (.fieldLink RX3 54 "StatementRules2$Machine" "height" "I") k_X3_pop_fieldLink_RX3_54_SR_Machine_height_I) (fun _ q9 => q9) dX3_pop_2 rfl ?_
  refine lv_iconst (v := 1) hx hb dX3_pop_5 (by decide) ?_
  refine lv_isub hx hb dX3_pop_6 ?_
  refine cP_65 (v := ((σ.i 65) - 1)) hx hb hts i_X3_pop_X3 hown hK hC (hts (.fieldLink RX3 54 "StatementRules2$Machine" "height" "I") k_X3_pop_fieldLink_RX3_54_SR_Machine_height_I) (fun _ q9 => q9) dX3_pop_7 (fun H locs hC => ?_)
  refine lv_aload_n hx hb dX3_pop_10 rfl (lv_at hl 0 rfl) ?_
  refine cG_60 hx hb hts i_X3_pop_X3 hown hK hC (hts (.fieldLink RX3 15 "StatementRules2$Machine" "values" "[I") k_X3_pop_fieldLink_RX3_15_SR_Machine_values_I) (fun _ q9 => q9) dX3_pop_11 ?_
  refine lv_aload_n hx hb dX3_pop_14 rfl (lv_at hl 0 rfl) ?_
  refine cG_65 (v := ((σ.i 65) - 1)) hx hb hts i_X3_pop_X3 hown hK hC (hts (.fieldLink RX3 54 "StatementRules2$Machine" "height" "I") k_X3_pop_fieldLink_RX3_54_SR_Machine_height_I) (fun _ q9 => q9) dX3_pop_15 rfl ?_
  have he9 := (show (cW Q (CS.setI σ 65 ((σ.i 65) - 1)))[25]? = some (Q.q 60, .inl (Q.c 0, 600, .inl (σ.a 60))) from rfl)
  have hFc := cFree1 hC hA he9
  have hr9 : CS.hs σ ≤ CS.hs R.2 := Mono.go hf (mono_some (Nat.le_refl _))
  refine va_calli (va_runSN (As := [.ref (Q.q 60), .int ((σ.i 65) - 1)]) (rest := []) ⟨hx, hb, hml, hown, hts⟩ (c_X11_at l dC dI _ (Q.q 60) (Q.c 0) 600 (σ.a 60) ((σ.i 65) - 1) (by decide)) ⟨va_cnB 2 hts hX3_pop_X11_at_n111 rfl rfl rfl (hZ.1 (.methodLinkNest RX3 111 yX11_at "StatementRules2") (by decide +kernel)) (hts (.initialized RX11) k_X3_pop_initialized_RX11) (by decide +kernel) ⟨(show 1 + 1 ≤ 2 by omega), (show 8 + (2 + 11) + 60 * 1 ≤ 60 * 2 by omega)⟩, (hts (.static yX11_at) k_X3_pop_static_yX11_at), trivial⟩ ⟨zPre.blind, zPre.go hZ (cOne hC.1 he9) (hK.sub (tys' := [(Q.c 0, .int)]) [0] rfl) (cOneD hC.2.1 he9)⟩ rfl rfl hl.1 rfl (lv_room (Nat.le_of_ble_eq_true rfl)) dX3_pop_18 ⟨cAcc4 h0 hr9, cAcc5 h0 hr9⟩) hC.2.2.1 (fun q _ h => hFc q h) hFc (fun r1 u9 t9 H1 locs ht hvm hw hB hz1 hk1 hS => ?_)
  obtain ⟨⟨hP1, hK1, hD1⟩, hsz1⟩ := hB
  rw [ht] at hP1 hsz1
  have hC := cBack (σ' := CS.setI σ 65 ((σ.i 65) - 1)) hC he9 (cSelf he9) rfl hk1 hP1 hsz1 hS
  generalize H1 = H at hC ⊢
  obtain rfl : r1 = (gAt (σ.a 60) 600 ((σ.i 65) - 1)) := hw
  obtain rfl := Option.some.inj hf
  exact W.iret (v := (gAt (σ.a 60) 600 ((σ.i 65) - 1))) hx hb hr (fun t ht hW => ⟨⟨(gAt (σ.a 60) 600 ((σ.i 65) - 1)), (), rfl, rfl, ⟨by rw [ht]; exact hC.1, va_K.moved hW.alike hK, hC.2.1⟩, by rw [ht]; exact hC.2.2.2⟩, hC.2.2.1.F ht⟩) hC.2.2.1.2.2 dX3_pop_21
theorem k_X3_move_fieldLink_RX3_9_SR_Machine_cells_I : Cond.fieldLink RX3 9 "StatementRules2$Machine" "cells" "[I" ∈ wzX3_move := List.mem_cons_of_mem _ (List.mem_append_left _ (List.mem_of_getElem? (i := 0) rfl))
theorem i_X3_move_X3 : ∀ w ∈ wsX30, w ∈ wzX3_move := fun _ h => List.mem_cons_of_mem _ (List.mem_append_right _ (List.mem_append_left _ (h)))
theorem k_X3_move_initialized_RX11 : Cond.initialized RX11 ∈ wzX3_move := List.mem_cons_of_mem _ (List.mem_append_left _ (List.mem_of_getElem? (i := 1) rfl))
theorem k_X3_move_static_yX11_at : Cond.static yX11_at ∈ wzX3_move := List.mem_cons_of_mem _ (List.mem_append_left _ (List.mem_of_getElem? (i := 2) rfl))
theorem k_X3_move_static_yX11_put : Cond.static yX11_put ∈ wzX3_move := List.mem_cons_of_mem _ (List.mem_append_left _ (List.mem_of_getElem? (i := 3) rfl))
set_option maxHeartbeats 4000000 in
set_option maxRecDepth 100000 in
theorem c_X3_move (l : Launch) (dC : Nat → ClassId) (dI : Nat → Nat → Nat) (Q : CQ) (N : Nat) (σ : CS) (x1 : Int32) (x2 : Int32) (R : Unit × CS) (hf : f_X3_move N σ x1 x2 = some R) : Met l yX3_move wzX3_move ({ frames := 3, cells := CS.hs R.2 - CS.hs σ, slots := 17 * (CS.hs R.2 - CS.hs σ), locals := 60 * 3 }) (va_Pc [.ref (Q.o 7), .int x1, .int x2] (zPre dC dI (CS.hs σ) (cW Q σ) (cT Q))) (va_Qv (fun (_ : Unit) => True) (fun (_ : Unit) (t : State) => zPost dC dI (va_A (cW Q σ) (CS.hs σ)) (cW Q R.2) (cT Q) t ∧ t.heap.size = CS.hs R.2) (va_A (cW Q σ) (CS.hs σ))) (CS.hs R.2 - CS.hs σ) (17 * (CS.hs R.2 - CS.hs σ)) (va_A (cW Q σ) (CS.hs σ)) := by
  refine Met.ofW (cc := cX3_move) (maxL := 3) (ret := none) (by decide) rfl ?_
  intro p e s m args below meth c s₁ B hml hv
  obtain ⟨rfl, hsz, hZ, hP, hK, hD0⟩ := hv
  have hx := B.exec
  have hb := B.bytes
  have hr := B.returns
  have hts := atoms_spec (ws := wzX3_move) B.pre
  have hown : s.vm.findClass RX3 = some m.cls := findClass_of_methodNamed B.named
  have hlocks := B.notSynchronized
  have hD := hD0.self (sz := CS.hs σ)
  generalize hAe : va_A (cW Q σ) (CS.hs σ) = A at hD ⊢
  have hA : ∀ q : Nat, s.heap.size ≤ q → A q := fun q h => by rw [← hAe]; exact Or.inr (hsz ▸ h)
  have hC : CP dC dI Q A s.heap σ s.heap [] := ⟨hP, hD, va_S.rf, hsz⟩
  have h0 : CS.hs σ ≤ CS.hs σ := Nat.le_refl _
  have hl := lv_entry ([.ref (Q.o 7), .int x1, .int x2]) (n := 3) (Nat.le_of_ble_eq_true rfl)
  rw [lg_entry_eq]
  generalize (lg_sl ([.ref (Q.o 7), .int x1, .int x2]) ++ List.replicate (3 - (lg_sl ([.ref (Q.o 7), .int x1, .int x2])).length) Slot.unset).toArray = ls at hl ⊢
  have hl : lv_has ls 3 [(0, .ref (Q.o 7)), (1, .int x1), (2, .int x2)] := hl
  unfold f_X3_move at hf
  refine W.widen (k := CS.hs σ - CS.hs σ) (n := 17 * (CS.hs σ - CS.hs σ)) (Nat.zero_le _) (Nat.zero_le _) ?_
  refine lv_iload_n hx hb dX3_move_0 rfl (lv_at hl 1 rfl) ?_
  by_cases c1 : x1 = 0
  ·
    replace hf := (if_pos c1).symm.trans hf
    refine lv_tableIn (off := 39) (tgt := 40) hx hb dX3_move_1 (by rw [c1]; decide) (by rw [c1]; decide) (by rw [c1]; decide) (by decide) ?_
    refine lv_aload_n hx hb dX3_move_40 rfl (lv_at hl 0 rfl) ?_
    refine lv_iload_n hx hb dX3_move_41 rfl (lv_at hl 2 rfl) ?_
    obtain ⟨p2, hcp2, hf⟩ := hf_bind hf
    have hm3 : CS.hs σ ≤ CS.hs p2.2 := Mono.go hcp2 (m_X3_push N σ x2)
    have hr9 : CS.hs p2.2 ≤ CS.hs R.2 := Mono.go hf (mono_some (Nat.le_refl _))
    have hFc := cFree hC hA
    refine va_callv (va_runV (As := [.int x2]) (rest := []) ⟨hx, hb, hml, hown, hts⟩ (c_X3_push l dC dI Q N σ x2 p2 hcp2) (cwV 1 hts hX3_move_X3_push_v135 rfl rfl rfl (by decide +kernel) ⟨(show 2 + 1 ≤ 3 by omega), (show 8 + (2 + 11) + 60 * 2 ≤ 60 * 3 by omega)⟩) ⟨zPre.blind, va_recv hK hC.1 (ci := 2) (q0 := 7) rfl rfl, cPre_go hZ hK hC⟩ rfl rfl hl.1 rfl (lv_room (Nat.le_of_ble_eq_true rfl)) dX3_move_42 (cAcc h0 hm3 hr9)) hC.2.2.1 (fun q _ h => hFc q h) hFc (fun u9 t9 H1 locs ht hvm hw hB hz1 hk1 hS => ?_)
    obtain ⟨⟨hP, hK1, hD1⟩, hsz1⟩ := hB
    rw [ht] at hP hsz1
    have hC : CP dC dI Q A s.heap p2.2 H1 locs := ⟨hP, hD1.weaken (fun _ _ _ h => hFc _ h), hS, hsz1⟩
    generalize H1 = H at hC ⊢
    have h5 : (CS.hs σ) ≤ CS.hs p2.2 := Nat.le_trans h0 hm3
    refine W.widen (k := CS.hs p2.2 - (CS.hs σ)) (n := 17 * (CS.hs p2.2 - (CS.hs σ))) (cAcc2 h0 hm3) (cAcc3 h0 hm3) ?_
    refine lv_goto (tgt := 129) hx hb dX3_move_45 (by decide) ?_
    obtain rfl := Option.some.inj hf
    exact W.vret hx hb hr (fun t ht hW => ⟨⟨(), rfl, trivial, ⟨by rw [ht]; exact hC.1, va_K.moved hW.alike hK, hC.2.1⟩, by rw [ht]; exact hC.2.2.2⟩, hC.2.2.1.F ht⟩) hC.2.2.1.2.2 dX3_move_129
  replace hf := (if_neg c1).symm.trans hf
  by_cases c6 : x1 = 1
  ·
    replace hf := (if_pos c6).symm.trans hf
    refine lv_tableIn (off := 47) (tgt := 48) hx hb dX3_move_1 (by rw [c6]; decide) (by rw [c6]; decide) (by rw [c6]; decide) (by decide) ?_
    refine lv_aload_n hx hb dX3_move_48 rfl (lv_at hl 0 rfl) ?_
    refine lv_aload_n hx hb dX3_move_49 rfl (lv_at hl 0 rfl) ?_
    refine cG_59 hx hb hts i_X3_move_X3 hown hK hC (hts (.fieldLink RX3 9 "StatementRules2$Machine" "cells" "[I") k_X3_move_fieldLink_RX3_9_SR_Machine_cells_I) (fun _ q9 => q9) dX3_move_50 ?_
    refine lv_iload_n hx hb dX3_move_53 rfl (lv_at hl 2 rfl) ?_
    have he9 := (show (cW Q σ)[24]? = some (Q.q 59, .inl (Q.c 0, 720, .inl (σ.a 59))) from rfl)
    have hFc := cFree1 hC hA he9
    have hr9 : CS.hs σ ≤ CS.hs R.2 := Mono.go hf (mono_bind (m_X3_push N σ (gAt (σ.a 59) 720 x2)) (fun p8 => (mono_some (Nat.le_refl _))))
    refine va_calli (va_runSN (As := [.ref (Q.q 59), .int x2]) (rest := [.ref (Q.o 7)]) ⟨hx, hb, hml, hown, hts⟩ (c_X11_at l dC dI _ (Q.q 59) (Q.c 0) 720 (σ.a 59) x2 (by decide)) ⟨va_cnB 2 hts hX3_move_X11_at_n111 rfl rfl rfl (hZ.1 (.methodLinkNest RX3 111 yX11_at "StatementRules2") (by decide +kernel)) (hts (.initialized RX11) k_X3_move_initialized_RX11) (by decide +kernel) ⟨(show 1 + 1 ≤ 3 by omega), (show 8 + (2 + 11) + 60 * 1 ≤ 60 * 3 by omega)⟩, (hts (.static yX11_at) k_X3_move_static_yX11_at), trivial⟩ ⟨zPre.blind, zPre.go hZ (cOne hC.1 he9) (hK.sub (tys' := [(Q.c 0, .int)]) [0] rfl) (cOneD hC.2.1 he9)⟩ rfl rfl hl.1 rfl (lv_room (Nat.le_of_ble_eq_true rfl)) dX3_move_54 ⟨cAcc4 h0 hr9, cAcc5 h0 hr9⟩) hC.2.2.1 (fun q _ h => hFc q h) hFc (fun r7 u9 t9 H1 locs ht hvm hw hB hz1 hk1 hS => ?_)
    obtain ⟨⟨hP1, hK1, hD1⟩, hsz1⟩ := hB
    rw [ht] at hP1 hsz1
    have hC := cBack (σ' := σ) hC he9 (cSelf he9) rfl hk1 hP1 hsz1 hS
    generalize H1 = H at hC ⊢
    obtain rfl : r7 = (gAt (σ.a 59) 720 x2) := hw
    obtain ⟨p8, hcp8, hf⟩ := hf_bind hf
    have hm9 : CS.hs σ ≤ CS.hs p8.2 := Mono.go hcp8 (m_X3_push N σ (gAt (σ.a 59) 720 x2))
    have hr9 : CS.hs p8.2 ≤ CS.hs R.2 := Mono.go hf (mono_some (Nat.le_refl _))
    have hFc := cFree hC hA
    refine va_callv (va_runV (As := [.int (gAt (σ.a 59) 720 x2)]) (rest := []) ⟨hx, hb, hml, hown, hts⟩ (c_X3_push l dC dI Q N σ (gAt (σ.a 59) 720 x2) p8 hcp8) (cwV 1 hts hX3_move_X3_push_v135 rfl rfl rfl (by decide +kernel) ⟨(show 2 + 1 ≤ 3 by omega), (show 8 + (2 + 11) + 60 * 2 ≤ 60 * 3 by omega)⟩) ⟨zPre.blind, va_recv hK hC.1 (ci := 2) (q0 := 7) rfl rfl, cPre_go hZ hK hC⟩ rfl rfl hl.1 rfl (lv_room (Nat.le_of_ble_eq_true rfl)) dX3_move_57 (cAcc h0 hm9 hr9)) hC.2.2.1 (fun q _ h => hFc q h) hFc (fun u9 t9 H1 locs ht hvm hw hB hz1 hk1 hS => ?_)
    obtain ⟨⟨hP, hK1, hD1⟩, hsz1⟩ := hB
    rw [ht] at hP hsz1
    have hC : CP dC dI Q A s.heap p8.2 H1 locs := ⟨hP, hD1.weaken (fun _ _ _ h => hFc _ h), hS, hsz1⟩
    generalize H1 = H at hC ⊢
    have h11 : (CS.hs σ) ≤ CS.hs p8.2 := Nat.le_trans h0 hm9
    refine W.widen (k := CS.hs p8.2 - (CS.hs σ)) (n := 17 * (CS.hs p8.2 - (CS.hs σ))) (cAcc2 h0 hm9) (cAcc3 h0 hm9) ?_
    refine lv_goto (tgt := 129) hx hb dX3_move_60 (by decide) ?_
    obtain rfl := Option.some.inj hf
    exact W.vret hx hb hr (fun t ht hW => ⟨⟨(), rfl, trivial, ⟨by rw [ht]; exact hC.1, va_K.moved hW.alike hK, hC.2.1⟩, by rw [ht]; exact hC.2.2.2⟩, hC.2.2.1.F ht⟩) hC.2.2.1.2.2 dX3_move_129
  replace hf := (if_neg c6).symm.trans hf
  by_cases c12 : x1 = 2
  ·
    replace hf := (if_pos c12).symm.trans hf
    refine lv_tableIn (off := 62) (tgt := 63) hx hb dX3_move_1 (by rw [c12]; decide) (by rw [c12]; decide) (by rw [c12]; decide) (by decide) ?_
    refine lv_aload_n hx hb dX3_move_63 rfl (lv_at hl 0 rfl) ?_
    refine cG_59 hx hb hts i_X3_move_X3 hown hK hC (hts (.fieldLink RX3 9 "StatementRules2$Machine" "cells" "[I") k_X3_move_fieldLink_RX3_9_SR_Machine_cells_I) (fun _ q9 => q9) dX3_move_64 ?_
    refine lv_iload_n hx hb dX3_move_67 rfl (lv_at hl 2 rfl) ?_
    refine lv_aload_n hx hb dX3_move_68 rfl (lv_at hl 0 rfl) ?_
    obtain ⟨p13, hcp13, hf⟩ := hf_bind hf
    have hm14 : CS.hs σ ≤ CS.hs p13.2 := Mono.go hcp13 (m_X3_pop N σ)
    have hr9 : CS.hs p13.2 ≤ CS.hs R.2 := Mono.go hf (mono_some (Nat.le_refl _))
    have hFc := cFree hC hA
    refine va_calli (va_runV (As := []) (rest := [.int x2, .ref (Q.q 59)]) ⟨hx, hb, hml, hown, hts⟩ (c_X3_pop l dC dI Q N σ p13 hcp13) (cwV 0 hts hX3_move_X3_pop_v138 rfl rfl rfl (by decide +kernel) ⟨(show 2 + 1 ≤ 3 by omega), (show 8 + (1 + 11) + 60 * 2 ≤ 60 * 3 by omega)⟩) ⟨zPre.blind, va_recv hK hC.1 (ci := 2) (q0 := 7) rfl rfl, cPre_go hZ hK hC⟩ rfl rfl hl.1 rfl (lv_room (Nat.le_of_ble_eq_true rfl)) dX3_move_69 (cAcc h0 hm14 hr9)) hC.2.2.1 (fun q _ h => hFc q h) hFc (fun r15 u9 t9 H1 locs ht hvm hw hB hz1 hk1 hS => ?_)
    obtain ⟨⟨hP, hK1, hD1⟩, hsz1⟩ := hB
    rw [ht] at hP hsz1
    have hC : CP dC dI Q A s.heap p13.2 H1 locs := ⟨hP, hD1.weaken (fun _ _ _ h => hFc _ h), hS, hsz1⟩
    generalize H1 = H at hC ⊢
    have h16 : (CS.hs σ) ≤ CS.hs p13.2 := Nat.le_trans h0 hm14
    refine W.widen (k := CS.hs p13.2 - (CS.hs σ)) (n := 17 * (CS.hs p13.2 - (CS.hs σ))) (cAcc2 h0 hm14) (cAcc3 h0 hm14) ?_
    obtain rfl : r15 = p13.1 := hw
    have he9 := (show (cW Q p13.2)[24]? = some (Q.q 59, .inl (Q.c 0, 720, .inl (p13.2.a 59))) from rfl)
    have hFc := cFree1 hC hA he9
    have hr9 : CS.hs p13.2 ≤ CS.hs R.2 := Mono.go hf (mono_some (Nat.le_refl _))
    refine va_callv (va_runSN (As := [.ref (Q.q 59), .int x2, .int p13.1]) (rest := []) ⟨hx, hb, hml, hown, hts⟩ (c_X11_put l dC dI _ (Q.q 59) (Q.c 0) 720 (p13.2.a 59) x2 p13.1 (by decide)) ⟨va_cnB 3 hts hX3_move_X11_put_n50 rfl rfl rfl (hZ.1 (.methodLinkNest RX3 50 yX11_put "StatementRules2") (by decide +kernel)) (hts (.initialized RX11) k_X3_move_initialized_RX11) (by decide +kernel) ⟨(show 1 + 1 ≤ 3 by omega), (show 8 + (3 + 11) + 60 * 1 ≤ 60 * 3 by omega)⟩, (hts (.static yX11_put) k_X3_move_static_yX11_put), trivial⟩ ⟨zPre.blind, zPre.go hZ (cOne hC.1 he9) (hK.sub (tys' := [(Q.c 0, .int)]) [0] rfl) (cOneD hC.2.1 he9)⟩ rfl rfl hl.1 rfl (lv_room (Nat.le_of_ble_eq_true rfl)) dX3_move_72 ⟨cAcc4 h16 hr9, cAcc5 h16 hr9⟩) hC.2.2.1 (fun q _ h => hFc q h) hFc (fun u9 t9 H1 locs ht hvm hw hB hz1 hk1 hS => ?_)
    obtain ⟨⟨hP1, hK1, hD1⟩, hsz1⟩ := hB
    rw [ht] at hP1 hsz1
    have hC := cBack (σ' := CS.putA p13.2 59 (gPut (p13.2.a 59) 720 x2 p13.1)) hC he9 rfl rfl hk1 hP1 hsz1 hS
    generalize H1 = H at hC ⊢
    refine lv_goto (tgt := 129) hx hb dX3_move_75 (by decide) ?_
    obtain rfl := Option.some.inj hf
    exact W.vret hx hb hr (fun t ht hW => ⟨⟨(), rfl, trivial, ⟨by rw [ht]; exact hC.1, va_K.moved hW.alike hK, hC.2.1⟩, by rw [ht]; exact hC.2.2.2⟩, hC.2.2.1.F ht⟩) hC.2.2.1.2.2 dX3_move_129
  replace hf := (if_neg c12).symm.trans hf
  by_cases c17 : x1 = 3
  ·
    replace hf := (if_pos c17).symm.trans hf
    refine lv_tableIn (off := 77) (tgt := 78) hx hb dX3_move_1 (by rw [c17]; decide) (by rw [c17]; decide) (by rw [c17]; decide) (by decide) ?_
    refine lv_aload_n hx hb dX3_move_78 rfl (lv_at hl 0 rfl) ?_
    refine cG_59 hx hb hts i_X3_move_X3 hown hK hC (hts (.fieldLink RX3 9 "StatementRules2$Machine" "cells" "[I") k_X3_move_fieldLink_RX3_9_SR_Machine_cells_I) (fun _ q9 => q9) dX3_move_79 ?_
    refine lv_iload_n hx hb dX3_move_82 rfl (lv_at hl 2 rfl) ?_
    refine lv_aload_n hx hb dX3_move_83 rfl (lv_at hl 0 rfl) ?_
    refine cG_59 hx hb hts i_X3_move_X3 hown hK hC (hts (.fieldLink RX3 9 "StatementRules2$Machine" "cells" "[I") k_X3_move_fieldLink_RX3_9_SR_Machine_cells_I) (fun _ q9 => q9) dX3_move_84 ?_
    refine lv_iload_n hx hb dX3_move_87 rfl (lv_at hl 2 rfl) ?_
    have he9 := (show (cW Q σ)[24]? = some (Q.q 59, .inl (Q.c 0, 720, .inl (σ.a 59))) from rfl)
    have hFc := cFree1 hC hA he9
    have hr9 : CS.hs σ ≤ CS.hs R.2 := Mono.go hf (mono_some (Nat.le_refl _))
    refine va_calli (va_runSN (As := [.ref (Q.q 59), .int x2]) (rest := [.int x2, .ref (Q.q 59)]) ⟨hx, hb, hml, hown, hts⟩ (c_X11_at l dC dI _ (Q.q 59) (Q.c 0) 720 (σ.a 59) x2 (by decide)) ⟨va_cnB 2 hts hX3_move_X11_at_n111 rfl rfl rfl (hZ.1 (.methodLinkNest RX3 111 yX11_at "StatementRules2") (by decide +kernel)) (hts (.initialized RX11) k_X3_move_initialized_RX11) (by decide +kernel) ⟨(show 1 + 1 ≤ 3 by omega), (show 8 + (2 + 11) + 60 * 1 ≤ 60 * 3 by omega)⟩, (hts (.static yX11_at) k_X3_move_static_yX11_at), trivial⟩ ⟨zPre.blind, zPre.go hZ (cOne hC.1 he9) (hK.sub (tys' := [(Q.c 0, .int)]) [0] rfl) (cOneD hC.2.1 he9)⟩ rfl rfl hl.1 rfl (lv_room (Nat.le_of_ble_eq_true rfl)) dX3_move_88 ⟨cAcc4 h0 hr9, cAcc5 h0 hr9⟩) hC.2.2.1 (fun q _ h => hFc q h) hFc (fun r18 u9 t9 H1 locs ht hvm hw hB hz1 hk1 hS => ?_)
    obtain ⟨⟨hP1, hK1, hD1⟩, hsz1⟩ := hB
    rw [ht] at hP1 hsz1
    have hC := cBack (σ' := σ) hC he9 (cSelf he9) rfl hk1 hP1 hsz1 hS
    generalize H1 = H at hC ⊢
    obtain rfl : r18 = (gAt (σ.a 59) 720 x2) := hw
    refine lv_iconst (v := 1) hx hb dX3_move_91 (by decide) ?_
    refine lv_iadd hx hb dX3_move_92 ?_
    have he9 := (show (cW Q σ)[24]? = some (Q.q 59, .inl (Q.c 0, 720, .inl (σ.a 59))) from rfl)
    have hFc := cFree1 hC hA he9
    have hr9 : CS.hs σ ≤ CS.hs R.2 := Mono.go hf (mono_some (Nat.le_refl _))
    refine va_callv (va_runSN (As := [.ref (Q.q 59), .int x2, .int ((gAt (σ.a 59) 720 x2) + 1)]) (rest := []) ⟨hx, hb, hml, hown, hts⟩ (c_X11_put l dC dI _ (Q.q 59) (Q.c 0) 720 (σ.a 59) x2 ((gAt (σ.a 59) 720 x2) + 1) (by decide)) ⟨va_cnB 3 hts hX3_move_X11_put_n50 rfl rfl rfl (hZ.1 (.methodLinkNest RX3 50 yX11_put "StatementRules2") (by decide +kernel)) (hts (.initialized RX11) k_X3_move_initialized_RX11) (by decide +kernel) ⟨(show 1 + 1 ≤ 3 by omega), (show 8 + (3 + 11) + 60 * 1 ≤ 60 * 3 by omega)⟩, (hts (.static yX11_put) k_X3_move_static_yX11_put), trivial⟩ ⟨zPre.blind, zPre.go hZ (cOne hC.1 he9) (hK.sub (tys' := [(Q.c 0, .int)]) [0] rfl) (cOneD hC.2.1 he9)⟩ rfl rfl hl.1 rfl (lv_room (Nat.le_of_ble_eq_true rfl)) dX3_move_93 ⟨cAcc4 h0 hr9, cAcc5 h0 hr9⟩) hC.2.2.1 (fun q _ h => hFc q h) hFc (fun u9 t9 H1 locs ht hvm hw hB hz1 hk1 hS => ?_)
    obtain ⟨⟨hP1, hK1, hD1⟩, hsz1⟩ := hB
    rw [ht] at hP1 hsz1
    have hC := cBack (σ' := CS.putA σ 59 (gPut (σ.a 59) 720 x2 ((gAt (σ.a 59) 720 x2) + 1))) hC he9 rfl rfl hk1 hP1 hsz1 hS
    generalize H1 = H at hC ⊢
    refine lv_goto (tgt := 129) hx hb dX3_move_96 (by decide) ?_
    obtain rfl := Option.some.inj hf
    exact W.vret hx hb hr (fun t ht hW => ⟨⟨(), rfl, trivial, ⟨by rw [ht]; exact hC.1, va_K.moved hW.alike hK, hC.2.1⟩, by rw [ht]; exact hC.2.2.2⟩, hC.2.2.1.F ht⟩) hC.2.2.1.2.2 dX3_move_129
  replace hf := (if_neg c17).symm.trans hf
  by_cases c19 : x1 = 4
  ·
    replace hf := (if_pos c19).symm.trans hf
    refine lv_tableIn (off := 98) (tgt := 99) hx hb dX3_move_1 (by rw [c19]; decide) (by rw [c19]; decide) (by rw [c19]; decide) (by decide) ?_
    refine lv_aload_n hx hb dX3_move_99 rfl (lv_at hl 0 rfl) ?_
    refine lv_aload_n hx hb dX3_move_100 rfl (lv_at hl 0 rfl) ?_
    obtain ⟨p20, hcp20, hf⟩ := hf_bind hf
    have hm21 : CS.hs σ ≤ CS.hs p20.2 := Mono.go hcp20 (m_X3_pop N σ)
    have hr9 : CS.hs p20.2 ≤ CS.hs R.2 := Mono.go hf (mono_bind (m_X3_push N p20.2 (-p20.1)) (fun p24 => (mono_some (Nat.le_refl _))))
    have hFc := cFree hC hA
    refine va_calli (va_runV (As := []) (rest := [.ref (Q.o 7)]) ⟨hx, hb, hml, hown, hts⟩ (c_X3_pop l dC dI Q N σ p20 hcp20) (cwV 0 hts hX3_move_X3_pop_v138 rfl rfl rfl (by decide +kernel) ⟨(show 2 + 1 ≤ 3 by omega), (show 8 + (1 + 11) + 60 * 2 ≤ 60 * 3 by omega)⟩) ⟨zPre.blind, va_recv hK hC.1 (ci := 2) (q0 := 7) rfl rfl, cPre_go hZ hK hC⟩ rfl rfl hl.1 rfl (lv_room (Nat.le_of_ble_eq_true rfl)) dX3_move_101 (cAcc h0 hm21 hr9)) hC.2.2.1 (fun q _ h => hFc q h) hFc (fun r22 u9 t9 H1 locs ht hvm hw hB hz1 hk1 hS => ?_)
    obtain ⟨⟨hP, hK1, hD1⟩, hsz1⟩ := hB
    rw [ht] at hP hsz1
    have hC : CP dC dI Q A s.heap p20.2 H1 locs := ⟨hP, hD1.weaken (fun _ _ _ h => hFc _ h), hS, hsz1⟩
    generalize H1 = H at hC ⊢
    have h23 : (CS.hs σ) ≤ CS.hs p20.2 := Nat.le_trans h0 hm21
    refine W.widen (k := CS.hs p20.2 - (CS.hs σ)) (n := 17 * (CS.hs p20.2 - (CS.hs σ))) (cAcc2 h0 hm21) (cAcc3 h0 hm21) ?_
    obtain rfl : r22 = p20.1 := hw
    refine lv_ineg hx hb dX3_move_104 ?_
    obtain ⟨p24, hcp24, hf⟩ := hf_bind hf
    have hm25 : CS.hs p20.2 ≤ CS.hs p24.2 := Mono.go hcp24 (m_X3_push N p20.2 (-p20.1))
    have hr9 : CS.hs p24.2 ≤ CS.hs R.2 := Mono.go hf (mono_some (Nat.le_refl _))
    have hFc := cFree hC hA
    refine va_callv (va_runV (As := [.int (-p20.1)]) (rest := []) ⟨hx, hb, hml, hown, hts⟩ (c_X3_push l dC dI Q N p20.2 (-p20.1) p24 hcp24) (cwV 1 hts hX3_move_X3_push_v135 rfl rfl rfl (by decide +kernel) ⟨(show 2 + 1 ≤ 3 by omega), (show 8 + (2 + 11) + 60 * 2 ≤ 60 * 3 by omega)⟩) ⟨zPre.blind, va_recv hK hC.1 (ci := 2) (q0 := 7) rfl rfl, cPre_go hZ hK hC⟩ rfl rfl hl.1 rfl (lv_room (Nat.le_of_ble_eq_true rfl)) dX3_move_105 (cAcc h23 hm25 hr9)) hC.2.2.1 (fun q _ h => hFc q h) hFc (fun u9 t9 H1 locs ht hvm hw hB hz1 hk1 hS => ?_)
    obtain ⟨⟨hP, hK1, hD1⟩, hsz1⟩ := hB
    rw [ht] at hP hsz1
    have hC : CP dC dI Q A s.heap p24.2 H1 locs := ⟨hP, hD1.weaken (fun _ _ _ h => hFc _ h), hS, hsz1⟩
    generalize H1 = H at hC ⊢
    have h27 : (CS.hs σ) ≤ CS.hs p24.2 := Nat.le_trans h23 hm25
    refine W.widen (k := CS.hs p24.2 - (CS.hs σ)) (n := 17 * (CS.hs p24.2 - (CS.hs σ))) (cAcc2 h23 hm25) (cAcc3 h23 hm25) ?_
    refine lv_goto (tgt := 129) hx hb dX3_move_108 (by decide) ?_
    obtain rfl := Option.some.inj hf
    exact W.vret hx hb hr (fun t ht hW => ⟨⟨(), rfl, trivial, ⟨by rw [ht]; exact hC.1, va_K.moved hW.alike hK, hC.2.1⟩, by rw [ht]; exact hC.2.2.2⟩, hC.2.2.1.F ht⟩) hC.2.2.1.2.2 dX3_move_129
  replace hf := (if_neg c19).symm.trans hf
  by_cases c28 : x1 = 5
  ·
    replace hf := (if_pos c28).symm.trans hf
    refine lv_tableIn (off := 110) (tgt := 111) hx hb dX3_move_1 (by rw [c28]; decide) (by rw [c28]; decide) (by rw [c28]; decide) (by decide) ?_
    refine lv_aload_n hx hb dX3_move_111 rfl (lv_at hl 0 rfl) ?_
    refine lv_iconst (v := 1) hx hb dX3_move_112 (by decide) ?_
    refine lv_aload_n hx hb dX3_move_113 rfl (lv_at hl 0 rfl) ?_
    obtain ⟨p29, hcp29, hf⟩ := hf_bind hf
    have hm30 : CS.hs σ ≤ CS.hs p29.2 := Mono.go hcp29 (m_X3_pop N σ)
    have hr9 : CS.hs p29.2 ≤ CS.hs R.2 := Mono.go hf (mono_bind (m_X3_push N p29.2 (1 - p29.1)) (fun p33 => (mono_some (Nat.le_refl _))))
    have hFc := cFree hC hA
    refine va_calli (va_runV (As := []) (rest := [.int 1, .ref (Q.o 7)]) ⟨hx, hb, hml, hown, hts⟩ (c_X3_pop l dC dI Q N σ p29 hcp29) (cwV 0 hts hX3_move_X3_pop_v138 rfl rfl rfl (by decide +kernel) ⟨(show 2 + 1 ≤ 3 by omega), (show 8 + (1 + 11) + 60 * 2 ≤ 60 * 3 by omega)⟩) ⟨zPre.blind, va_recv hK hC.1 (ci := 2) (q0 := 7) rfl rfl, cPre_go hZ hK hC⟩ rfl rfl hl.1 rfl (lv_room (Nat.le_of_ble_eq_true rfl)) dX3_move_114 (cAcc h0 hm30 hr9)) hC.2.2.1 (fun q _ h => hFc q h) hFc (fun r31 u9 t9 H1 locs ht hvm hw hB hz1 hk1 hS => ?_)
    obtain ⟨⟨hP, hK1, hD1⟩, hsz1⟩ := hB
    rw [ht] at hP hsz1
    have hC : CP dC dI Q A s.heap p29.2 H1 locs := ⟨hP, hD1.weaken (fun _ _ _ h => hFc _ h), hS, hsz1⟩
    generalize H1 = H at hC ⊢
    have h32 : (CS.hs σ) ≤ CS.hs p29.2 := Nat.le_trans h0 hm30
    refine W.widen (k := CS.hs p29.2 - (CS.hs σ)) (n := 17 * (CS.hs p29.2 - (CS.hs σ))) (cAcc2 h0 hm30) (cAcc3 h0 hm30) ?_
    obtain rfl : r31 = p29.1 := hw
    refine lv_isub hx hb dX3_move_117 ?_
    obtain ⟨p33, hcp33, hf⟩ := hf_bind hf
    have hm34 : CS.hs p29.2 ≤ CS.hs p33.2 := Mono.go hcp33 (m_X3_push N p29.2 (1 - p29.1))
    have hr9 : CS.hs p33.2 ≤ CS.hs R.2 := Mono.go hf (mono_some (Nat.le_refl _))
    have hFc := cFree hC hA
    refine va_callv (va_runV (As := [.int (1 - p29.1)]) (rest := []) ⟨hx, hb, hml, hown, hts⟩ (c_X3_push l dC dI Q N p29.2 (1 - p29.1) p33 hcp33) (cwV 1 hts hX3_move_X3_push_v135 rfl rfl rfl (by decide +kernel) ⟨(show 2 + 1 ≤ 3 by omega), (show 8 + (2 + 11) + 60 * 2 ≤ 60 * 3 by omega)⟩) ⟨zPre.blind, va_recv hK hC.1 (ci := 2) (q0 := 7) rfl rfl, cPre_go hZ hK hC⟩ rfl rfl hl.1 rfl (lv_room (Nat.le_of_ble_eq_true rfl)) dX3_move_118 (cAcc h32 hm34 hr9)) hC.2.2.1 (fun q _ h => hFc q h) hFc (fun u9 t9 H1 locs ht hvm hw hB hz1 hk1 hS => ?_)
    obtain ⟨⟨hP, hK1, hD1⟩, hsz1⟩ := hB
    rw [ht] at hP hsz1
    have hC : CP dC dI Q A s.heap p33.2 H1 locs := ⟨hP, hD1.weaken (fun _ _ _ h => hFc _ h), hS, hsz1⟩
    generalize H1 = H at hC ⊢
    have h36 : (CS.hs σ) ≤ CS.hs p33.2 := Nat.le_trans h32 hm34
    refine W.widen (k := CS.hs p33.2 - (CS.hs σ)) (n := 17 * (CS.hs p33.2 - (CS.hs σ))) (cAcc2 h32 hm34) (cAcc3 h32 hm34) ?_
    refine lv_goto (tgt := 129) hx hb dX3_move_121 (by decide) ?_
    obtain rfl := Option.some.inj hf
    exact W.vret hx hb hr (fun t ht hW => ⟨⟨(), rfl, trivial, ⟨by rw [ht]; exact hC.1, va_K.moved hW.alike hK, hC.2.1⟩, by rw [ht]; exact hC.2.2.2⟩, hC.2.2.1.F ht⟩) hC.2.2.1.2.2 dX3_move_129
  replace hf := (if_neg c28).symm.trans hf
  refine lv_tableOut (tgt := 124) hx hb dX3_move_1 (by have := z_ton (a := 0) c1 (by decide); have := z_ton (a := 1) c6 (by decide); have := z_ton (a := 2) c12 (by decide); have := z_ton (a := 3) c17 (by decide); have := z_ton (a := 4) c19 (by decide); have := z_ton (a := 5) c28 (by decide); omega) (by decide) ?_
  refine lv_aload_n hx hb dX3_move_124 rfl (lv_at hl 0 rfl) ?_
  obtain ⟨p37, hcp37, hf⟩ := hf_bind hf
  have hm38 : CS.hs σ ≤ CS.hs p37.2 := Mono.go hcp37 (m_X3_pop N σ)
  have hr9 : CS.hs p37.2 ≤ CS.hs R.2 := Mono.go hf (mono_some (Nat.le_refl _))
  have hFc := cFree hC hA
  refine va_calli (va_runV (As := []) (rest := []) ⟨hx, hb, hml, hown, hts⟩ (c_X3_pop l dC dI Q N σ p37 hcp37) (cwV 0 hts hX3_move_X3_pop_v138 rfl rfl rfl (by decide +kernel) ⟨(show 2 + 1 ≤ 3 by omega), (show 8 + (1 + 11) + 60 * 2 ≤ 60 * 3 by omega)⟩) ⟨zPre.blind, va_recv hK hC.1 (ci := 2) (q0 := 7) rfl rfl, cPre_go hZ hK hC⟩ rfl rfl hl.1 rfl (lv_room (Nat.le_of_ble_eq_true rfl)) dX3_move_125 (cAcc h0 hm38 hr9)) hC.2.2.1 (fun q _ h => hFc q h) hFc (fun r39 u9 t9 H1 locs ht hvm hw hB hz1 hk1 hS => ?_)
  obtain ⟨⟨hP, hK1, hD1⟩, hsz1⟩ := hB
  rw [ht] at hP hsz1
  have hC : CP dC dI Q A s.heap p37.2 H1 locs := ⟨hP, hD1.weaken (fun _ _ _ h => hFc _ h), hS, hsz1⟩
  generalize H1 = H at hC ⊢
  have h40 : (CS.hs σ) ≤ CS.hs p37.2 := Nat.le_trans h0 hm38
  refine W.widen (k := CS.hs p37.2 - (CS.hs σ)) (n := 17 * (CS.hs p37.2 - (CS.hs σ))) (cAcc2 h0 hm38) (cAcc3 h0 hm38) ?_
  obtain rfl : r39 = p37.1 := hw
  refine lv_pop hx hb dX3_move_128 rfl ?_
  obtain rfl := Option.some.inj hf
  exact W.vret hx hb hr (fun t ht hW => ⟨⟨(), rfl, trivial, ⟨by rw [ht]; exact hC.1, va_K.moved hW.alike hK, hC.2.1⟩, by rw [ht]; exact hC.2.2.2⟩, hC.2.2.1.F ht⟩) hC.2.2.1.2.2 dX3_move_129
set_option maxHeartbeats 4000000 in
set_option maxRecDepth 100000 in
theorem c_X3_compares (l : Launch) (dC : Nat → ClassId) (dI : Nat → Nat → Nat) (Q : CQ) (N : Nat) (σ : CS) (x0 : Int32) (x1 : Int32) (x2 : Int32) (R : Int32 × CS) (hf : f_X3_compares N σ x0 x1 x2 = some R) : Met l yX3_compares wzX3_compares ({ frames := 1, cells := CS.hs R.2 - CS.hs σ, slots := 17 * (CS.hs R.2 - CS.hs σ), locals := 60 * 1 }) (va_Pc [.int x0, .int x1, .int x2] (zPre dC dI (CS.hs σ) (cW Q σ) (cT Q))) (va_Qi (fun (r : Int32) (_ : Unit) => r = R.1) (fun (_ : Unit) (t : State) => zPost dC dI (va_A (cW Q σ) (CS.hs σ)) (cW Q R.2) (cT Q) t ∧ t.heap.size = CS.hs R.2) (va_A (cW Q σ) (CS.hs σ))) (CS.hs R.2 - CS.hs σ) (17 * (CS.hs R.2 - CS.hs σ)) (va_A (cW Q σ) (CS.hs σ)) := by
  refine Met.ofW (cc := cX3_compares) (maxL := 3) (ret := (some .boolean)) (by decide) rfl ?_
  intro p e s m args below meth c s₁ B hml hv
  obtain ⟨rfl, hsz, hZ, hP, hK, hD0⟩ := hv
  have hx := B.exec
  have hb := B.bytes
  have hr := B.returns
  have hts := atoms_spec (ws := wzX3_compares) B.pre
  have hown : s.vm.findClass RX3 = some m.cls := findClass_of_methodNamed B.named
  have hlocks := B.notSynchronized
  have hD := hD0.self (sz := CS.hs σ)
  generalize hAe : va_A (cW Q σ) (CS.hs σ) = A at hD ⊢
  have hA : ∀ q : Nat, s.heap.size ≤ q → A q := fun q h => by rw [← hAe]; exact Or.inr (hsz ▸ h)
  have hC : CP dC dI Q A s.heap σ s.heap [] := ⟨hP, hD, va_S.rf, hsz⟩
  have h0 : CS.hs σ ≤ CS.hs σ := Nat.le_refl _
  have hl := lv_entry ([.int x0, .int x1, .int x2]) (n := 3) (Nat.le_of_ble_eq_true rfl)
  rw [lg_entry_eq]
  generalize (lg_sl ([.int x0, .int x1, .int x2]) ++ List.replicate (3 - (lg_sl ([.int x0, .int x1, .int x2])).length) Slot.unset).toArray = ls at hl ⊢
  have hl : lv_has ls 3 [(0, .int x0), (1, .int x1), (2, .int x2)] := hl
  unfold f_X3_compares at hf
  refine W.widen (k := CS.hs σ - CS.hs σ) (n := 17 * (CS.hs σ - CS.hs σ)) (Nat.zero_le _) (Nat.zero_le _) ?_
  refine lv_iload_n hx hb dX3_compares_0 rfl (lv_at hl 0 rfl) ?_
  by_cases c1 : x0 = 12
  ·
    replace hf := (if_pos c1).symm.trans hf
    refine lv_tableIn (off := 35) (tgt := 36) hx hb dX3_compares_1 (by rw [c1]; decide) (by rw [c1]; decide) (by rw [c1]; decide) (by decide) ?_
    refine lv_iload_n hx hb dX3_compares_36 rfl (lv_at hl 1 rfl) ?_
    refine lv_iload_n hx hb dX3_compares_37 rfl (lv_at hl 2 rfl) ?_
    refine lv_icmp_ge (tgt := 45) hx hb dX3_compares_38 (by decide) (fun c2 => ?_) (fun c2 => ?_)
    ·
      replace hf := (if_pos c2).symm.trans hf
      refine lv_iconst (v := 0) hx hb dX3_compares_45 (by decide) ?_
      obtain rfl := Option.some.inj hf
      exact W.zret (v := 0) hx hb hr (rfl) (fun t ht hW => ⟨⟨0, (), rfl, rfl, ⟨by rw [ht]; exact hC.1, va_K.moved hW.alike hK, hC.2.1⟩, by rw [ht]; exact hC.2.2.2⟩, hC.2.2.1.F ht⟩) hC.2.2.1.2.2 dX3_compares_46
    ·
      replace hf := (if_neg c2).symm.trans hf
      refine lv_iconst (v := 1) hx hb dX3_compares_41 (by decide) ?_
      refine lv_goto (tgt := 46) hx hb dX3_compares_42 (by decide) ?_
      obtain rfl := Option.some.inj hf
      exact W.zret (v := 1) hx hb hr (rfl) (fun t ht hW => ⟨⟨1, (), rfl, rfl, ⟨by rw [ht]; exact hC.1, va_K.moved hW.alike hK, hC.2.1⟩, by rw [ht]; exact hC.2.2.2⟩, hC.2.2.1.F ht⟩) hC.2.2.1.2.2 dX3_compares_46
  replace hf := (if_neg c1).symm.trans hf
  by_cases c3 : x0 = 13
  ·
    replace hf := (if_pos c3).symm.trans hf
    refine lv_tableIn (off := 46) (tgt := 47) hx hb dX3_compares_1 (by rw [c3]; decide) (by rw [c3]; decide) (by rw [c3]; decide) (by decide) ?_
    refine lv_iload_n hx hb dX3_compares_47 rfl (lv_at hl 1 rfl) ?_
    refine lv_iload_n hx hb dX3_compares_48 rfl (lv_at hl 2 rfl) ?_
    refine lv_icmp_gt (tgt := 56) hx hb dX3_compares_49 (by decide) (fun c4 => ?_) (fun c4 => ?_)
    ·
      replace hf := (if_pos c4).symm.trans hf
      refine lv_iconst (v := 0) hx hb dX3_compares_56 (by decide) ?_
      obtain rfl := Option.some.inj hf
      exact W.zret (v := 0) hx hb hr (rfl) (fun t ht hW => ⟨⟨0, (), rfl, rfl, ⟨by rw [ht]; exact hC.1, va_K.moved hW.alike hK, hC.2.1⟩, by rw [ht]; exact hC.2.2.2⟩, hC.2.2.1.F ht⟩) hC.2.2.1.2.2 dX3_compares_57
    ·
      replace hf := (if_neg c4).symm.trans hf
      refine lv_iconst (v := 1) hx hb dX3_compares_52 (by decide) ?_
      refine lv_goto (tgt := 57) hx hb dX3_compares_53 (by decide) ?_
      obtain rfl := Option.some.inj hf
      exact W.zret (v := 1) hx hb hr (rfl) (fun t ht hW => ⟨⟨1, (), rfl, rfl, ⟨by rw [ht]; exact hC.1, va_K.moved hW.alike hK, hC.2.1⟩, by rw [ht]; exact hC.2.2.2⟩, hC.2.2.1.F ht⟩) hC.2.2.1.2.2 dX3_compares_57
  replace hf := (if_neg c3).symm.trans hf
  by_cases c5 : x0 = 14
  ·
    replace hf := (if_pos c5).symm.trans hf
    refine lv_tableIn (off := 57) (tgt := 58) hx hb dX3_compares_1 (by rw [c5]; decide) (by rw [c5]; decide) (by rw [c5]; decide) (by decide) ?_
    refine lv_iload_n hx hb dX3_compares_58 rfl (lv_at hl 1 rfl) ?_
    refine lv_iload_n hx hb dX3_compares_59 rfl (lv_at hl 2 rfl) ?_
    refine lv_icmp_le (tgt := 67) hx hb dX3_compares_60 (by decide) (fun c6 => ?_) (fun c6 => ?_)
    ·
      replace hf := (if_pos c6).symm.trans hf
      refine lv_iconst (v := 0) hx hb dX3_compares_67 (by decide) ?_
      obtain rfl := Option.some.inj hf
      exact W.zret (v := 0) hx hb hr (rfl) (fun t ht hW => ⟨⟨0, (), rfl, rfl, ⟨by rw [ht]; exact hC.1, va_K.moved hW.alike hK, hC.2.1⟩, by rw [ht]; exact hC.2.2.2⟩, hC.2.2.1.F ht⟩) hC.2.2.1.2.2 dX3_compares_68
    ·
      replace hf := (if_neg c6).symm.trans hf
      refine lv_iconst (v := 1) hx hb dX3_compares_63 (by decide) ?_
      refine lv_goto (tgt := 68) hx hb dX3_compares_64 (by decide) ?_
      obtain rfl := Option.some.inj hf
      exact W.zret (v := 1) hx hb hr (rfl) (fun t ht hW => ⟨⟨1, (), rfl, rfl, ⟨by rw [ht]; exact hC.1, va_K.moved hW.alike hK, hC.2.1⟩, by rw [ht]; exact hC.2.2.2⟩, hC.2.2.1.F ht⟩) hC.2.2.1.2.2 dX3_compares_68
  replace hf := (if_neg c5).symm.trans hf
  by_cases c7 : x0 = 15
  ·
    replace hf := (if_pos c7).symm.trans hf
    refine lv_tableIn (off := 68) (tgt := 69) hx hb dX3_compares_1 (by rw [c7]; decide) (by rw [c7]; decide) (by rw [c7]; decide) (by decide) ?_
    refine lv_iload_n hx hb dX3_compares_69 rfl (lv_at hl 1 rfl) ?_
    refine lv_iload_n hx hb dX3_compares_70 rfl (lv_at hl 2 rfl) ?_
    refine lv_icmp_lt (tgt := 78) hx hb dX3_compares_71 (by decide) (fun c8 => ?_) (fun c8 => ?_)
    ·
      replace hf := (if_pos c8).symm.trans hf
      refine lv_iconst (v := 0) hx hb dX3_compares_78 (by decide) ?_
      obtain rfl := Option.some.inj hf
      exact W.zret (v := 0) hx hb hr (rfl) (fun t ht hW => ⟨⟨0, (), rfl, rfl, ⟨by rw [ht]; exact hC.1, va_K.moved hW.alike hK, hC.2.1⟩, by rw [ht]; exact hC.2.2.2⟩, hC.2.2.1.F ht⟩) hC.2.2.1.2.2 dX3_compares_79
    ·
      replace hf := (if_neg c8).symm.trans hf
      refine lv_iconst (v := 1) hx hb dX3_compares_74 (by decide) ?_
      refine lv_goto (tgt := 79) hx hb dX3_compares_75 (by decide) ?_
      obtain rfl := Option.some.inj hf
      exact W.zret (v := 1) hx hb hr (rfl) (fun t ht hW => ⟨⟨1, (), rfl, rfl, ⟨by rw [ht]; exact hC.1, va_K.moved hW.alike hK, hC.2.1⟩, by rw [ht]; exact hC.2.2.2⟩, hC.2.2.1.F ht⟩) hC.2.2.1.2.2 dX3_compares_79
  replace hf := (if_neg c7).symm.trans hf
  by_cases c9 : x0 = 16
  ·
    replace hf := (if_pos c9).symm.trans hf
    refine lv_tableIn (off := 79) (tgt := 80) hx hb dX3_compares_1 (by rw [c9]; decide) (by rw [c9]; decide) (by rw [c9]; decide) (by decide) ?_
    refine lv_iload_n hx hb dX3_compares_80 rfl (lv_at hl 1 rfl) ?_
    refine lv_iload_n hx hb dX3_compares_81 rfl (lv_at hl 2 rfl) ?_
    refine lv_icmp_ne (tgt := 89) hx hb dX3_compares_82 (by decide) (fun c10 => ?_) (fun c10 => ?_)
    ·
      replace hf := (if_neg c10).symm.trans hf
      refine lv_iconst (v := 0) hx hb dX3_compares_89 (by decide) ?_
      obtain rfl := Option.some.inj hf
      exact W.zret (v := 0) hx hb hr (rfl) (fun t ht hW => ⟨⟨0, (), rfl, rfl, ⟨by rw [ht]; exact hC.1, va_K.moved hW.alike hK, hC.2.1⟩, by rw [ht]; exact hC.2.2.2⟩, hC.2.2.1.F ht⟩) hC.2.2.1.2.2 dX3_compares_90
    ·
      replace hf := (if_pos c10).symm.trans hf
      refine lv_iconst (v := 1) hx hb dX3_compares_85 (by decide) ?_
      refine lv_goto (tgt := 90) hx hb dX3_compares_86 (by decide) ?_
      obtain rfl := Option.some.inj hf
      exact W.zret (v := 1) hx hb hr (rfl) (fun t ht hW => ⟨⟨1, (), rfl, rfl, ⟨by rw [ht]; exact hC.1, va_K.moved hW.alike hK, hC.2.1⟩, by rw [ht]; exact hC.2.2.2⟩, hC.2.2.1.F ht⟩) hC.2.2.1.2.2 dX3_compares_90
  replace hf := (if_neg c9).symm.trans hf
  refine lv_tableOut (tgt := 91) hx hb dX3_compares_1 (by have := z_ton (a := 12) c1 (by decide); have := z_ton (a := 13) c3 (by decide); have := z_ton (a := 14) c5 (by decide); have := z_ton (a := 15) c7 (by decide); have := z_ton (a := 16) c9 (by decide); omega) (by decide) ?_
  refine lv_iload_n hx hb dX3_compares_91 rfl (lv_at hl 1 rfl) ?_
  refine lv_iload_n hx hb dX3_compares_92 rfl (lv_at hl 2 rfl) ?_
  refine lv_icmp_eq (tgt := 100) hx hb dX3_compares_93 (by decide) (fun c11 => ?_) (fun c11 => ?_)
  ·
    replace hf := (if_pos c11).symm.trans hf
    refine lv_iconst (v := 0) hx hb dX3_compares_100 (by decide) ?_
    obtain rfl := Option.some.inj hf
    exact W.zret (v := 0) hx hb hr (rfl) (fun t ht hW => ⟨⟨0, (), rfl, rfl, ⟨by rw [ht]; exact hC.1, va_K.moved hW.alike hK, hC.2.1⟩, by rw [ht]; exact hC.2.2.2⟩, hC.2.2.1.F ht⟩) hC.2.2.1.2.2 dX3_compares_101
  ·
    replace hf := (if_neg c11).symm.trans hf
    refine lv_iconst (v := 1) hx hb dX3_compares_96 (by decide) ?_
    refine lv_goto (tgt := 101) hx hb dX3_compares_97 (by decide) ?_
    obtain rfl := Option.some.inj hf
    exact W.zret (v := 1) hx hb hr (rfl) (fun t ht hW => ⟨⟨1, (), rfl, rfl, ⟨by rw [ht]; exact hC.1, va_K.moved hW.alike hK, hC.2.1⟩, by rw [ht]; exact hC.2.2.2⟩, hC.2.2.1.F ht⟩) hC.2.2.1.2.2 dX3_compares_101
theorem k_X8_init_methodLink_RX8_3_objectInit : Cond.methodLink RX8 3 objectInit ∈ wzX8_init := List.mem_cons_of_mem _ (List.mem_append_left _ (List.mem_of_getElem? (i := 0) rfl))
theorem k_X8_init_instanceMethod_objectInit : Cond.instanceMethod objectInit ∈ wzX8_init := List.mem_cons_of_mem _ (List.mem_append_left _ (List.mem_of_getElem? (i := 1) rfl))
theorem k_X8_init_code_objectInit_0xb1_1_none : Cond.code objectInit ⟨#[0xb1]⟩ 1 none ∈ wzX8_init := List.mem_cons_of_mem _ (List.mem_append_left _ (List.mem_of_getElem? (i := 2) rfl))
theorem k_X8_init_arrayClass_int : Cond.arrayClass .int ∈ wzX8_init := List.mem_cons_of_mem _ (List.mem_append_left _ (List.mem_of_getElem? (i := 3) rfl))
theorem i_X8_init_X8 : ∀ w ∈ wsX80, w ∈ wzX8_init := fun _ h => List.mem_cons_of_mem _ (List.mem_append_right _ (List.mem_append_left _ (h)))
theorem k_X8_init_fieldLink_RX8_9_SR_Thrown_kinds_I : Cond.fieldLink RX8 9 "StatementRules2$Thrown" "kinds" "[I" ∈ wzX8_init := List.mem_cons_of_mem _ (List.mem_append_left _ (List.mem_of_getElem? (i := 4) rfl))
theorem k_X8_init_fieldLink_RX8_15_SR_Thrown_numbers_I : Cond.fieldLink RX8 15 "StatementRules2$Thrown" "numbers" "[I" ∈ wzX8_init := List.mem_cons_of_mem _ (List.mem_append_left _ (List.mem_of_getElem? (i := 5) rfl))
set_option maxHeartbeats 4000000 in
set_option maxRecDepth 100000 in
theorem c_X8_init (l : Launch) (dC : Nat → ClassId) (dI : Nat → Nat → Nat) (Q : CQ) (N : Nat) (σ : CS) (x0 : Nat) (R : Unit × CS) (hf : f_X8_init N σ x0 = some R) : Met l yX8_init wzX8_init ({ frames := 1, cells := CS.hs R.2 - CS.hs σ, slots := 17 * (CS.hs R.2 - CS.hs σ), locals := 60 * 1 }) (va_Pc [.ref x0] (zPre dC dI (CS.hs σ) (cW Q σ) (cT Q))) (va_Qv (fun (_ : Unit) => True) (fun (_ : Unit) (t : State) => zPost dC dI (va_A (cW Q σ) (CS.hs σ)) (cW Q R.2) (cT Q) t ∧ t.heap.size = CS.hs R.2) (va_A (cW Q σ) (CS.hs σ))) (CS.hs R.2 - CS.hs σ) (17 * (CS.hs R.2 - CS.hs σ)) (va_A (cW Q σ) (CS.hs σ)) := by
  refine Met.ofW (cc := cX8_init) (maxL := 1) (ret := none) (by decide) rfl ?_
  intro p e s m args below meth c s₁ B hml hv
  obtain ⟨rfl, hsz, hZ, hP, hK, hD0⟩ := hv
  have hx := B.exec
  have hb := B.bytes
  have hr := B.returns
  have hts := atoms_spec (ws := wzX8_init) B.pre
  have hown : s.vm.findClass RX8 = some m.cls := findClass_of_methodNamed B.named
  have hlocks := B.notSynchronized
  have hin : meth.name = "<init>" := (name_of_methodNamed B.named B.method).1
  have hD := hD0.self (sz := CS.hs σ)
  generalize hAe : va_A (cW Q σ) (CS.hs σ) = A at hD ⊢
  have hA : ∀ q : Nat, s.heap.size ≤ q → A q := fun q h => by rw [← hAe]; exact Or.inr (hsz ▸ h)
  have hC : CP dC dI Q A s.heap σ s.heap [] := ⟨hP, hD, va_S.rf, hsz⟩
  have h0 : CS.hs σ ≤ CS.hs σ := Nat.le_refl _
  have hl := lv_entry ([.ref x0]) (n := 1) (Nat.le_of_ble_eq_true rfl)
  rw [lg_entry_eq]
  generalize (lg_sl ([.ref x0]) ++ List.replicate (1 - (lg_sl ([.ref x0])).length) Slot.unset).toArray = ls at hl ⊢
  have hl : lv_has ls 1 [(0, .ref x0)] := hl
  unfold f_X8_init at hf
  refine W.widen (k := CS.hs σ - CS.hs σ) (n := 17 * (CS.hs σ - CS.hs σ)) (Nat.zero_le _) (Nat.zero_le _) ?_
  refine lv_aload_n hx hb dX8_init_0 rfl (lv_at hl 0 rfl) ?_
  refine W.objInit hx hb hown (hts (.methodLink RX8 3 objectInit) k_X8_init_methodLink_RX8_3_objectInit) (hts (.instanceMethod objectInit) k_X8_init_instanceMethod_objectInit) (hts (.code objectInit ⟨#[0xb1]⟩ 1 none) k_X8_init_code_objectInit_0xb1_1_none) rfl (by rw [hml]; exact hl.1) rfl dX8_init_1 (Nat.le_of_ble_eq_true rfl) (Nat.le_of_ble_eq_true rfl) ?_
  refine W.eq (g2 := F0 m 4 ls []) rfl ?_
  refine lv_aload_n hx hb dX8_init_4 rfl (lv_at hl 0 rfl) ?_
  refine lv_bipush (v := 8) hx hb dX8_init_5 (by decide) ?_
  have hn9 : CS.hs σ + 1 ≤ CS.hs R.2 := Mono.go hf (mono_ite (mono_ite (mono_le (Nat.le_succ _) (mono_ite (mono_ite (mono_some (Nat.le_refl _)) mono_none) mono_none)) mono_none) mono_none)
  refine cNew_a hx hb (hts (.arrayClass .int) k_X8_init_arrayClass_int) hK hC hA (cN1 h0 hn9) (cN2 (by decide) h0 hn9) dX8_init_7 (fun H hC => ?_)
  have h1 : (CS.hs σ) ≤ CS.hs σ + 1 := Nat.le_succ_of_le h0
  refine W.widen (k := (CS.hs σ + 1) - (CS.hs σ)) (n := 17 * ((CS.hs σ + 1) - (CS.hs σ))) (cN3 h0) (cN4 (by decide) h0) ?_
  obtain ⟨b2, hf⟩ := hf_ite hf
  obtain ⟨b3, hf⟩ := hf_ite hf
  refine cK0 hx hb hts i_X8_init_X8 hown hK hC hin (hts (.fieldLink RX8 9 "StatementRules2$Thrown" "kinds" "[I") k_X8_init_fieldLink_RX8_9_SR_Thrown_kinds_I) dX8_init_9 b2 b3 (fun H locs hC => ?_)
  refine lv_aload_n hx hb dX8_init_12 rfl (lv_at hl 0 rfl) ?_
  refine lv_bipush (v := 8) hx hb dX8_init_13 (by decide) ?_
  have hn9 : (CS.hs σ + 1) + 1 ≤ CS.hs R.2 := Mono.go hf (mono_ite (mono_ite (mono_some (Nat.le_refl _)) mono_none) mono_none)
  refine cNew_a hx hb (hts (.arrayClass .int) k_X8_init_arrayClass_int) hK hC hA (cN1 h1 hn9) (cN2 (by decide) h1 hn9) dX8_init_15 (fun H hC => ?_)
  have h4 : (CS.hs σ) ≤ (CS.hs σ + 1) + 1 := Nat.le_succ_of_le h1
  refine W.widen (k := ((CS.hs σ + 1) + 1) - (CS.hs σ)) (n := 17 * (((CS.hs σ + 1) + 1) - (CS.hs σ))) (cN3 h1) (cN4 (by decide) h1) ?_
  obtain ⟨b5, hf⟩ := hf_ite hf
  obtain ⟨b6, hf⟩ := hf_ite hf
  refine cK1 hx hb hts i_X8_init_X8 hown hK hC hin (hts (.fieldLink RX8 15 "StatementRules2$Thrown" "numbers" "[I") k_X8_init_fieldLink_RX8_15_SR_Thrown_numbers_I) dX8_init_17 b5 b6 (fun H locs hC => ?_)
  obtain rfl := Option.some.inj hf
  exact W.vret hx hb hr (fun t ht hW => ⟨⟨(), rfl, trivial, ⟨by rw [ht]; exact hC.1, va_K.moved hW.alike hK, hC.2.1⟩, by rw [ht]; exact hC.2.2.2⟩, hC.2.2.1.F ht⟩) hC.2.2.1.2.2 dX8_init_20
