theorem k_X3_goIf_fieldLink_RX3_40_SR_Machine_code_LSR_Code : Cond.fieldLink RX3 40 "StatementRules2$Machine" "code" "LStatementRules2$Code;" ∈ wzX3_goIf := List.mem_cons_of_mem _ (List.mem_append_left _ (List.mem_of_getElem? (i := 0) rfl))
theorem i_X3_goIf_X3 : ∀ w ∈ wsX30, w ∈ wzX3_goIf := fun _ h => List.mem_cons_of_mem _ (List.mem_append_right _ (List.mem_append_left _ (h)))
theorem i_X3_goIf_X0 : ∀ w ∈ wsX00, w ∈ wzX3_goIf := fun _ h => List.mem_cons_of_mem _ (List.mem_append_right _ (List.mem_append_right _ (List.mem_append_left _ (h))))
theorem k_X3_goIf_initialized_RX11 : Cond.initialized RX11 ∈ wzX3_goIf := List.mem_cons_of_mem _ (List.mem_append_left _ (List.mem_of_getElem? (i := 1) rfl))
theorem k_X3_goIf_static_yX11_at : Cond.static yX11_at ∈ wzX3_goIf := List.mem_cons_of_mem _ (List.mem_append_left _ (List.mem_of_getElem? (i := 2) rfl))
theorem k_X3_goIf_fieldLink_RX3_57_SR_Machine_place_I : Cond.fieldLink RX3 57 "StatementRules2$Machine" "place" "I" ∈ wzX3_goIf := List.mem_cons_of_mem _ (List.mem_append_left _ (List.mem_of_getElem? (i := 3) rfl))
set_option maxHeartbeats 4000000 in
set_option maxRecDepth 100000 in
theorem c_X3_goIf (l : Launch) (dC : Nat → ClassId) (dI : Nat → Nat → Nat) (Q : CQ) (N : Nat) (σ : CS) (x1 : Int32) (x2 : Int32) (R : Unit × CS) (hf : f_X3_goIf N σ x1 x2 = some R) : Met l yX3_goIf wzX3_goIf ({ frames := 2, cells := CS.hs R.2 - CS.hs σ, slots := 17 * (CS.hs R.2 - CS.hs σ), locals := 60 * 2 }) (va_Pc [.ref (Q.o 7), .int x1, .int x2] (zPre dC dI (CS.hs σ) (cW Q σ) (cT Q))) (va_Qv (fun (_ : Unit) => True) (fun (_ : Unit) (t : State) => zPost dC dI (va_A (cW Q σ) (CS.hs σ)) (cW Q R.2) (cT Q) t ∧ t.heap.size = CS.hs R.2) (va_A (cW Q σ) (CS.hs σ))) (CS.hs R.2 - CS.hs σ) (17 * (CS.hs R.2 - CS.hs σ)) (va_A (cW Q σ) (CS.hs σ)) := by
  refine Met.ofW (cc := cX3_goIf) (maxL := 3) (ret := none) (by decide) rfl ?_
  intro p e s m args below meth c s₁ B hml hv
  obtain ⟨rfl, hsz, hZ, hP, hK, hD0⟩ := hv
  have hx := B.exec
  have hb := B.bytes
  have hr := B.returns
  have hts := atoms_spec (ws := wzX3_goIf) B.pre
  have hown : s.vm.findClass RX3 = some m.cls := findClass_of_methodNamed B.named
  have hlocks := B.notSynchronized
  have hD := hD0.self (sz := CS.hs σ)
  generalize hAe : va_A (cW Q σ) (CS.hs σ) = A at hD ⊢
  have hA : ∀ q : Nat, s.heap.size ≤ q → A q := fun q h => by rw [← hAe]; exact Or.inr (hsz ▸ h)
  have hC : CP dC dI Q A s.heap σ s.heap [] := ⟨hP, hD, va_S.rf, hsz⟩
  have h0 : CS.hs σ ≤ CS.hs σ := Nat.le_refl _
  have hl := lv_entry ([.ref (Q.o 7), .int x1, .int x2]) (n := 3) (Nat.le_of_ble_eq_true rfl)
  rw [lg_entry_eq]
  generalize (lg_sl ([.ref (Q.o 7), .int x1, .int x2]) ++ List.replicate (3 - (lg_sl ([.ref (Q.o 7), .int x1, .int x2])).length) Slot.unset).toArray = ls at hl ⊢
  have hl : lv_has ls 3 [(0, .ref (Q.o 7)), (1, .int x1), (2, .int x2)] := hl
  unfold f_X3_goIf at hf
  refine W.widen (k := CS.hs σ - CS.hs σ) (n := 17 * (CS.hs σ - CS.hs σ)) (Nat.zero_le _) (Nat.zero_le _) ?_
  refine lv_iload_n hx hb dX3_goIf_0 rfl (lv_at hl 1 rfl) ?_
  refine lv_if_eq (tgt := 19) hx hb dX3_goIf_1 (by decide) (fun c1 => ?_) (fun c1 => ?_)
  ·
    replace hf := (if_pos c1).symm.trans hf
    obtain rfl := Option.some.inj hf
    exact W.vret hx hb hr (fun t ht hW => ⟨⟨(), rfl, trivial, ⟨by rw [ht]; exact hC.1, va_K.moved hW.alike hK, hC.2.1⟩, by rw [ht]; exact hC.2.2.2⟩, hC.2.2.1.F ht⟩) hC.2.2.1.2.2 dX3_goIf_19
  ·
    replace hf := (if_neg c1).symm.trans hf
    refine lv_aload_n hx hb dX3_goIf_4 rfl (lv_at hl 0 rfl) ?_
    refine lv_aload_n hx hb dX3_goIf_5 rfl (lv_at hl 0 rfl) ?_
    refine cG_58 hx hb hts i_X3_goIf_X3 hown hK hC (hts (.fieldLink RX3 40 "StatementRules2$Machine" "code" "LStatementRules2$Code;") k_X3_goIf_fieldLink_RX3_40_SR_Machine_code_LSR_Code) (fun _ q9 => q9) dX3_goIf_6 ?_
    refine cGN_17 hx hb hts i_X3_goIf_X0 hown hK hC (va_Nw.use rfl (hZ.1 (.fieldLinkNest RX3 153 "StatementRules2$Code" "targets" "[I" "StatementRules2") (by decide +kernel))) (fun _ q9 => q9) dX3_goIf_9 ?_
    refine lv_iload_n hx hb dX3_goIf_12 rfl (lv_at hl 2 rfl) ?_
    have he9 := (cArr_17 (Q := Q) (σ := σ))
    have hFc := cFree1 hC hA he9
    have hr9 : CS.hs σ ≤ CS.hs R.2 := Mono.go hf (mono_some (Nat.le_refl _))
    refine va_calli (va_runSN (As := [.ref (Q.q 17), .int x2]) (rest := [.ref (Q.o 7)]) ⟨hx, hb, hml, hown, hts⟩ (c_X11_at l dC dI _ (Q.q 17) (Q.c 0) 1024 (σ.a 17) x2 (by decide)) ⟨va_cnB 2 hts hX3_goIf_X11_at_n111 rfl rfl rfl (hZ.1 (.methodLinkNest RX3 111 yX11_at "StatementRules2") (by decide +kernel)) (hts (.initialized RX11) k_X3_goIf_initialized_RX11) (by decide +kernel) ⟨(show 1 + 1 ≤ 2 by omega), (show 8 + (2 + 11) + 60 * 1 ≤ 60 * 2 by omega)⟩, (hts (.static yX11_at) k_X3_goIf_static_yX11_at), trivial⟩ ⟨zPre.blind, zPre.go hZ (cOne hC.1 he9) (hK.sub (tys' := [(Q.c 0, .int)]) [0] rfl) (cOneD hC.2.1 he9)⟩ rfl rfl hl.1 rfl (lv_room (Nat.le_of_ble_eq_true rfl)) dX3_goIf_13 ⟨cAcc4 h0 hr9, cAcc5 h0 hr9⟩) hC.2.2.1 (fun q _ h => hFc q h) hFc (fun r2 u9 t9 H1 locs ht hvm hw hB hz1 hk1 hS => ?_)
    obtain ⟨⟨hP1, hK1, hD1⟩, hsz1⟩ := hB
    rw [ht] at hP1 hsz1
    have hC := cBack (σ' := σ) hC he9 (cSelf he9) (Eq.refl (CS.hs σ)) hk1 hP1 hsz1 hS
    generalize H1 = H at hC ⊢
    obtain rfl : r2 = (gAt (σ.a 17) 1024 x2) := hw
    refine cP_66 (v := (gAt (σ.a 17) 1024 x2)) hx hb hts i_X3_goIf_X3 hown hK hC (hts (.fieldLink RX3 57 "StatementRules2$Machine" "place" "I") k_X3_goIf_fieldLink_RX3_57_SR_Machine_place_I) (fun _ q9 => q9) dX3_goIf_16 (fun H locs hC => ?_)
    obtain rfl := Option.some.inj hf
    exact W.vret hx hb hr (fun t ht hW => ⟨⟨(), rfl, trivial, ⟨by rw [ht]; exact hC.1, va_K.moved hW.alike hK, hC.2.1⟩, by rw [ht]; exact hC.2.2.2⟩, hC.2.2.1.F ht⟩) hC.2.2.1.2.2 dX3_goIf_19
theorem k_X3_keep_fieldLink_RX3_15_SR_Machine_values_I : Cond.fieldLink RX3 15 "StatementRules2$Machine" "values" "[I" ∈ wzX3_keep := List.mem_cons_of_mem _ (List.mem_append_left _ (List.mem_of_getElem? (i := 0) rfl))
theorem i_X3_keep_X3 : ∀ w ∈ wsX30, w ∈ wzX3_keep := fun _ h => List.mem_cons_of_mem _ (List.mem_append_right _ (List.mem_append_left _ (h)))
theorem k_X3_keep_fieldLink_RX3_54_SR_Machine_height_I : Cond.fieldLink RX3 54 "StatementRules2$Machine" "height" "I" ∈ wzX3_keep := List.mem_cons_of_mem _ (List.mem_append_left _ (List.mem_of_getElem? (i := 1) rfl))
theorem k_X3_keep_initialized_RX11 : Cond.initialized RX11 ∈ wzX3_keep := List.mem_cons_of_mem _ (List.mem_append_left _ (List.mem_of_getElem? (i := 2) rfl))
theorem k_X3_keep_static_yX11_at : Cond.static yX11_at ∈ wzX3_keep := List.mem_cons_of_mem _ (List.mem_append_left _ (List.mem_of_getElem? (i := 3) rfl))
theorem k_X3_keep_fieldLink_RX3_40_SR_Machine_code_LSR_Code : Cond.fieldLink RX3 40 "StatementRules2$Machine" "code" "LStatementRules2$Code;" ∈ wzX3_keep := List.mem_cons_of_mem _ (List.mem_append_left _ (List.mem_of_getElem? (i := 4) rfl))
theorem i_X3_keep_X0 : ∀ w ∈ wsX00, w ∈ wzX3_keep := fun _ h => List.mem_cons_of_mem _ (List.mem_append_right _ (List.mem_append_right _ (List.mem_append_left _ (h))))
theorem k_X3_keep_fieldLink_RX3_57_SR_Machine_place_I : Cond.fieldLink RX3 57 "StatementRules2$Machine" "place" "I" ∈ wzX3_keep := List.mem_cons_of_mem _ (List.mem_append_left _ (List.mem_of_getElem? (i := 5) rfl))
set_option maxHeartbeats 4000000 in
set_option maxRecDepth 100000 in
theorem j_X3_keep_22 {p : Program} {e : Env} {s : State} {m : MethodId} {args : Array Value} {below : List Frame} {meth : Method} {c : Code} {A : Nat → Prop} (l : Launch) (dC : Nat → ClassId) (dI : Nat → Nat → Nat) (Q : CQ) (N : Nat) (z9h : Nat) (R : Unit × CS) (hx : p.tables.exec = Jvm.exec) (hb : c.code = cX3_keep) (hr : meth.sig.returnType = none) (hml : c.maxLocals = 4) (hown : s.vm.findClass RX3 = some m.cls) (hts : ∀ w ∈ wzX3_keep, w.before args s = true) (hlocks : meth.locks = false) (hZ : zAMB s) (hA : ∀ q : Nat, s.heap.size ≤ q → A q) (hK : va_K (dC, dI) vwCl (cT Q) s) : ∀ (σ : CS) (x1 : Int32) (x2 : Int32) (x3 : Int32) (H : Heap) (locs : List Loc) (ls : Array Slot), f_X3_keep_22 N σ x1 x2 x3 = some R → z9h ≤ CS.hs σ → CP dC dI Q A s.heap σ H locs → lv_has ls 4 [(0, .ref (Q.o 7)), (1, .int x1), (2, .int x2), (3, .int x3)] → W p l e ({ frames := 3, cells := CS.hs R.2 - z9h, slots := 17 * (CS.hs R.2 - z9h), locals := 60 * 3 }) s m args below meth c H locs (CS.hs σ - z9h) (17 * (CS.hs σ - z9h)) (MQ below (va_Qv (fun (_ : Unit) => True) (fun (_ : Unit) (t : State) => zPost dC dI A (cW Q R.2) (cT Q) t ∧ t.heap.size = CS.hs R.2) A) args s (CS.hs R.2 - z9h) (17 * (CS.hs R.2 - z9h)) A) (F0 m 22 ls []) := by
  intro σ x1 x2 x3 H locs ls hf h0 hC hl
  unfold f_X3_keep_22 at hf
  refine lv_iload_n hx hb dX3_keep_22 rfl (lv_at hl 3 rfl) ?_
  refine lv_iload_n hx hb dX3_keep_23 rfl (lv_at hl 1 rfl) ?_
  refine lv_icmp_ne (tgt := 45) hx hb dX3_keep_24 (by decide) (fun c3 => ?_) (fun c3 => ?_)
  ·
    replace hf := (if_neg c3).symm.trans hf
    refine lv_aload_n hx hb dX3_keep_45 rfl (lv_at hl 0 rfl) ?_
    obtain ⟨p4, hcp4, hf⟩ := hf_bind hf
    have mo5 : CS.hs σ ≤ CS.hs p4.2 := Mono.go hcp4 (m_X3_pop N σ)
    have hr9 : CS.hs p4.2 ≤ CS.hs R.2 := Mono.go hf (mono_some (Nat.le_refl _))
    have hFc := cFree hC hA
    refine va_calli (va_runV (As := []) (rest := []) ⟨hx, hb, hml, hown, hts⟩ (c_X3_pop l dC dI Q N σ p4 hcp4) (cwV 0 hts hX3_keep_X3_pop_v138 rfl rfl rfl (by decide +kernel) ⟨(show 2 + 1 ≤ 3 by omega), (show 8 + (1 + 11) + 60 * 2 ≤ 60 * 3 by omega)⟩) ⟨zPre.blind, va_recv hK hC.1 (ci := 2) (q0 := 7) rfl rfl, cPre_go hZ hK hC⟩ rfl rfl hl.1 rfl (lv_room (Nat.le_of_ble_eq_true rfl)) dX3_keep_46 (cAcc h0 mo5 hr9)) hC.2.2.1 (fun q _ h => hFc q h) hFc (fun r6 u9 t9 H1 locs ht hvm hw hB hz1 hk1 hS => ?_)
    obtain ⟨⟨hP, hK1, hD1⟩, hsz1⟩ := hB
    rw [ht] at hP hsz1
    have hC : CP dC dI Q A s.heap p4.2 H1 locs := ⟨hP, hD1.weaken (fun _ _ _ h => hFc _ h), hS, hsz1⟩
    generalize H1 = H at hC ⊢
    have h7 : z9h ≤ CS.hs p4.2 := Nat.le_trans h0 mo5
    refine W.widen (k := CS.hs p4.2 - z9h) (n := 17 * (CS.hs p4.2 - z9h)) (cAcc2 h0 mo5) (cAcc3 h0 mo5) ?_
    obtain rfl : r6 = p4.1 := hw
    refine lv_pop hx hb dX3_keep_49 rfl ?_
    obtain rfl := Option.some.inj hf
    exact W.vret hx hb hr (fun t ht hW => ⟨⟨(), rfl, trivial, ⟨by rw [ht]; exact hC.1, va_K.moved hW.alike hK, hC.2.1⟩, by rw [ht]; exact hC.2.2.2⟩, hC.2.2.1.F ht⟩) hC.2.2.1.2.2 dX3_keep_50
  ·
    replace hf := (if_pos c3).symm.trans hf
    refine lv_aload_n hx hb dX3_keep_27 rfl (lv_at hl 0 rfl) ?_
    refine lv_aload_n hx hb dX3_keep_28 rfl (lv_at hl 0 rfl) ?_
    refine cG_58 hx hb hts i_X3_keep_X3 hown hK hC (hts (.fieldLink RX3 40 "StatementRules2$Machine" "code" "LStatementRules2$Code;") k_X3_keep_fieldLink_RX3_40_SR_Machine_code_LSR_Code) (fun _ q9 => q9) dX3_keep_29 ?_
    refine cGN_17 hx hb hts i_X3_keep_X0 hown hK hC (va_Nw.use rfl (hZ.1 (.fieldLinkNest RX3 153 "StatementRules2$Code" "targets" "[I" "StatementRules2") (by decide +kernel))) (fun _ q9 => q9) dX3_keep_32 ?_
    refine lv_iload_n hx hb dX3_keep_35 rfl (lv_at hl 2 rfl) ?_
    have he9 := (cArr_17 (Q := Q) (σ := σ))
    have hFc := cFree1 hC hA he9
    have hr9 : CS.hs σ ≤ CS.hs R.2 := Mono.go hf (mono_some (Nat.le_refl _))
    refine va_calli (va_runSN (As := [.ref (Q.q 17), .int x2]) (rest := [.ref (Q.o 7)]) ⟨hx, hb, hml, hown, hts⟩ (c_X11_at l dC dI _ (Q.q 17) (Q.c 0) 1024 (σ.a 17) x2 (by decide)) ⟨va_cnB 2 hts hX3_keep_X11_at_n111 rfl rfl rfl (hZ.1 (.methodLinkNest RX3 111 yX11_at "StatementRules2") (by decide +kernel)) (hts (.initialized RX11) k_X3_keep_initialized_RX11) (by decide +kernel) ⟨(show 1 + 1 ≤ 3 by omega), (show 8 + (2 + 11) + 60 * 1 ≤ 60 * 3 by omega)⟩, (hts (.static yX11_at) k_X3_keep_static_yX11_at), trivial⟩ ⟨zPre.blind, zPre.go hZ (cOne hC.1 he9) (hK.sub (tys' := [(Q.c 0, .int)]) [0] rfl) (cOneD hC.2.1 he9)⟩ rfl rfl hl.1 rfl (lv_room (Nat.le_of_ble_eq_true rfl)) dX3_keep_36 ⟨cAcc4 h0 hr9, cAcc5 h0 hr9⟩) hC.2.2.1 (fun q _ h => hFc q h) hFc (fun r8 u9 t9 H1 locs ht hvm hw hB hz1 hk1 hS => ?_)
    obtain ⟨⟨hP1, hK1, hD1⟩, hsz1⟩ := hB
    rw [ht] at hP1 hsz1
    have hC := cBack (σ' := σ) hC he9 (cSelf he9) (Eq.refl (CS.hs σ)) hk1 hP1 hsz1 hS
    generalize H1 = H at hC ⊢
    obtain rfl : r8 = (gAt (σ.a 17) 1024 x2) := hw
    refine cP_66 (v := (gAt (σ.a 17) 1024 x2)) hx hb hts i_X3_keep_X3 hown hK hC (hts (.fieldLink RX3 57 "StatementRules2$Machine" "place" "I") k_X3_keep_fieldLink_RX3_57_SR_Machine_place_I) (fun _ q9 => q9) dX3_keep_39 (fun H locs hC => ?_)
    refine lv_goto (tgt := 50) hx hb dX3_keep_42 (by decide) ?_
    obtain rfl := Option.some.inj hf
    exact W.vret hx hb hr (fun t ht hW => ⟨⟨(), rfl, trivial, ⟨by rw [ht]; exact hC.1, va_K.moved hW.alike hK, hC.2.1⟩, by rw [ht]; exact hC.2.2.2⟩, hC.2.2.1.F ht⟩) hC.2.2.1.2.2 dX3_keep_50
set_option maxHeartbeats 4000000 in
set_option maxRecDepth 100000 in
theorem c_X3_keep (l : Launch) (dC : Nat → ClassId) (dI : Nat → Nat → Nat) (Q : CQ) (N : Nat) (σ : CS) (x1 : Int32) (x2 : Int32) (R : Unit × CS) (hf : f_X3_keep N σ x1 x2 = some R) : Met l yX3_keep wzX3_keep ({ frames := 3, cells := CS.hs R.2 - CS.hs σ, slots := 17 * (CS.hs R.2 - CS.hs σ), locals := 60 * 3 }) (va_Pc [.ref (Q.o 7), .int x1, .int x2] (zPre dC dI (CS.hs σ) (cW Q σ) (cT Q))) (va_Qv (fun (_ : Unit) => True) (fun (_ : Unit) (t : State) => zPost dC dI (va_A (cW Q σ) (CS.hs σ)) (cW Q R.2) (cT Q) t ∧ t.heap.size = CS.hs R.2) (va_A (cW Q σ) (CS.hs σ))) (CS.hs R.2 - CS.hs σ) (17 * (CS.hs R.2 - CS.hs σ)) (va_A (cW Q σ) (CS.hs σ)) := by
  refine Met.ofW (cc := cX3_keep) (maxL := 4) (ret := none) (by decide) rfl ?_
  intro p e s m args below meth c s₁ B hml hv
  obtain ⟨rfl, hsz, hZ, hP, hK, hD0⟩ := hv
  have hx := B.exec
  have hb := B.bytes
  have hr := B.returns
  have hts := atoms_spec (ws := wzX3_keep) B.pre
  have hown : s.vm.findClass RX3 = some m.cls := findClass_of_methodNamed B.named
  have hlocks := B.notSynchronized
  have hD := hD0.self (sz := CS.hs σ)
  generalize hAe : va_A (cW Q σ) (CS.hs σ) = A at hD ⊢
  have hA : ∀ q : Nat, s.heap.size ≤ q → A q := fun q h => by rw [← hAe]; exact Or.inr (hsz ▸ h)
  have hC : CP dC dI Q A s.heap σ s.heap [] := ⟨hP, hD, va_S.rf, hsz⟩
  have h0 : CS.hs σ ≤ CS.hs σ := Nat.le_refl _
  have hl := lv_entry ([.ref (Q.o 7), .int x1, .int x2]) (n := 4) (Nat.le_of_ble_eq_true rfl)
  rw [lg_entry_eq]
  generalize (lg_sl ([.ref (Q.o 7), .int x1, .int x2]) ++ List.replicate (4 - (lg_sl ([.ref (Q.o 7), .int x1, .int x2])).length) Slot.unset).toArray = ls at hl ⊢
  have hl : lv_has ls 4 [(0, .ref (Q.o 7)), (1, .int x1), (2, .int x2)] := hl
  unfold f_X3_keep at hf
  refine W.widen (k := CS.hs σ - CS.hs σ) (n := 17 * (CS.hs σ - CS.hs σ)) (Nat.zero_le _) (Nat.zero_le _) ?_
  refine lv_aload_n hx hb dX3_keep_0 rfl (lv_at hl 0 rfl) ?_
  refine cG_60 hx hb hts i_X3_keep_X3 hown hK hC (hts (.fieldLink RX3 15 "StatementRules2$Machine" "values" "[I") k_X3_keep_fieldLink_RX3_15_SR_Machine_values_I) (fun _ q9 => q9) dX3_keep_1 ?_
  refine lv_aload_n hx hb dX3_keep_4 rfl (lv_at hl 0 rfl) ?_
  refine cG_65 (v := (σ.i 65)) hx hb hts i_X3_keep_X3 hown hK hC (hts (.fieldLink RX3 54 "StatementRules2$Machine" "height" "I") k_X3_keep_fieldLink_RX3_54_SR_Machine_height_I) (fun _ q9 => q9) dX3_keep_5 rfl ?_
  refine lv_iconst (v := 1) hx hb dX3_keep_8 (by decide) ?_
  refine lv_isub hx hb dX3_keep_9 ?_
  have he9 := (cArr_60 (Q := Q) (σ := σ))
  have hFc := cFree1 hC hA he9
  have hr9 : CS.hs σ ≤ CS.hs R.2 := Mono.go hf (mono_ite (m_X3_keep_22 N σ x1 x2 0) (m_X3_keep_22 N σ x1 x2 1))
  refine va_calli (va_runSN (As := [.ref (Q.q 60), .int ((σ.i 65) - 1)]) (rest := []) ⟨hx, hb, hml, hown, hts⟩ (c_X11_at l dC dI _ (Q.q 60) (Q.c 0) 600 (σ.a 60) ((σ.i 65) - 1) (by decide)) ⟨va_cnB 2 hts hX3_keep_X11_at_n111 rfl rfl rfl (hZ.1 (.methodLinkNest RX3 111 yX11_at "StatementRules2") (by decide +kernel)) (hts (.initialized RX11) k_X3_keep_initialized_RX11) (by decide +kernel) ⟨(show 1 + 1 ≤ 3 by omega), (show 8 + (2 + 11) + 60 * 1 ≤ 60 * 3 by omega)⟩, (hts (.static yX11_at) k_X3_keep_static_yX11_at), trivial⟩ ⟨zPre.blind, zPre.go hZ (cOne hC.1 he9) (hK.sub (tys' := [(Q.c 0, .int)]) [0] rfl) (cOneD hC.2.1 he9)⟩ rfl rfl hl.1 rfl (lv_room (Nat.le_of_ble_eq_true rfl)) dX3_keep_10 ⟨cAcc4 h0 hr9, cAcc5 h0 hr9⟩) hC.2.2.1 (fun q _ h => hFc q h) hFc (fun r1 u9 t9 H1 locs ht hvm hw hB hz1 hk1 hS => ?_)
  obtain ⟨⟨hP1, hK1, hD1⟩, hsz1⟩ := hB
  rw [ht] at hP1 hsz1
  have hC := cBack (σ' := σ) hC he9 (cSelf he9) (Eq.refl (CS.hs σ)) hk1 hP1 hsz1 hS
  generalize H1 = H at hC ⊢
  obtain rfl : r1 = (gAt (σ.a 60) 600 ((σ.i 65) - 1)) := hw
  refine lv_if_eq (tgt := 20) hx hb dX3_keep_13 (by decide) (fun c2 => ?_) (fun c2 => ?_)
  ·
    replace hf := (if_pos c2).symm.trans hf
    refine lv_iconst (v := 0) hx hb dX3_keep_20 (by decide) ?_
    refine lv_istore_n (lv' := [(3, .int 0), (0, .ref (Q.o 7)), (1, .int x1), (2, .int x2)]) hx hb dX3_keep_21 rfl hl (by decide) rfl (fun ls hl => ?_)
    exact j_X3_keep_22 l dC dI Q N (CS.hs σ) R hx hb hr hml hown hts hlocks hZ hA hK σ x1 x2 0 _ _ _ hf h0 hC (lv_sub hl [1, 2, 3, 0] rfl)
  ·
    replace hf := (if_neg c2).symm.trans hf
    refine lv_iconst (v := 1) hx hb dX3_keep_16 (by decide) ?_
    refine lv_goto (tgt := 21) hx hb dX3_keep_17 (by decide) ?_
    refine lv_istore_n (lv' := [(3, .int 1), (0, .ref (Q.o 7)), (1, .int x1), (2, .int x2)]) hx hb dX3_keep_21 rfl hl (by decide) rfl (fun ls hl => ?_)
    exact j_X3_keep_22 l dC dI Q N (CS.hs σ) R hx hb hr hml hown hts hlocks hZ hA hK σ x1 x2 1 _ _ _ hf h0 hC (lv_sub hl [1, 2, 3, 0] rfl)
theorem k_X3_compareCase_fieldLink_RX3_15_SR_Machine_values_I : Cond.fieldLink RX3 15 "StatementRules2$Machine" "values" "[I" ∈ wzX3_compareCase := List.mem_cons_of_mem _ (List.mem_append_left _ (List.mem_of_getElem? (i := 0) rfl))
theorem i_X3_compareCase_X3 : ∀ w ∈ wsX30, w ∈ wzX3_compareCase := fun _ h => List.mem_cons_of_mem _ (List.mem_append_right _ (List.mem_append_left _ (h)))
theorem k_X3_compareCase_fieldLink_RX3_54_SR_Machine_height_I : Cond.fieldLink RX3 54 "StatementRules2$Machine" "height" "I" ∈ wzX3_compareCase := List.mem_cons_of_mem _ (List.mem_append_left _ (List.mem_of_getElem? (i := 1) rfl))
theorem k_X3_compareCase_initialized_RX11 : Cond.initialized RX11 ∈ wzX3_compareCase := List.mem_cons_of_mem _ (List.mem_append_left _ (List.mem_of_getElem? (i := 2) rfl))
theorem k_X3_compareCase_static_yX11_at : Cond.static yX11_at ∈ wzX3_compareCase := List.mem_cons_of_mem _ (List.mem_append_left _ (List.mem_of_getElem? (i := 3) rfl))
theorem k_X3_compareCase_fieldLink_RX3_40_SR_Machine_code_LSR_Code : Cond.fieldLink RX3 40 "StatementRules2$Machine" "code" "LStatementRules2$Code;" ∈ wzX3_compareCase := List.mem_cons_of_mem _ (List.mem_append_left _ (List.mem_of_getElem? (i := 4) rfl))
theorem i_X3_compareCase_X0 : ∀ w ∈ wsX00, w ∈ wzX3_compareCase := fun _ h => List.mem_cons_of_mem _ (List.mem_append_right _ (List.mem_append_right _ (List.mem_append_left _ (h))))
theorem k_X3_compareCase_fieldLink_RX3_57_SR_Machine_place_I : Cond.fieldLink RX3 57 "StatementRules2$Machine" "place" "I" ∈ wzX3_compareCase := List.mem_cons_of_mem _ (List.mem_append_left _ (List.mem_of_getElem? (i := 5) rfl))
set_option maxHeartbeats 4000000 in
set_option maxRecDepth 100000 in
theorem c_X3_compareCase (l : Launch) (dC : Nat → ClassId) (dI : Nat → Nat → Nat) (Q : CQ) (N : Nat) (σ : CS) (x1 : Int32) (R : Unit × CS) (hf : f_X3_compareCase N σ x1 = some R) : Met l yX3_compareCase wzX3_compareCase ({ frames := 3, cells := CS.hs R.2 - CS.hs σ, slots := 17 * (CS.hs R.2 - CS.hs σ), locals := 60 * 3 }) (va_Pc [.ref (Q.o 7), .int x1] (zPre dC dI (CS.hs σ) (cW Q σ) (cT Q))) (va_Qv (fun (_ : Unit) => True) (fun (_ : Unit) (t : State) => zPost dC dI (va_A (cW Q σ) (CS.hs σ)) (cW Q R.2) (cT Q) t ∧ t.heap.size = CS.hs R.2) (va_A (cW Q σ) (CS.hs σ))) (CS.hs R.2 - CS.hs σ) (17 * (CS.hs R.2 - CS.hs σ)) (va_A (cW Q σ) (CS.hs σ)) := by
  refine Met.ofW (cc := cX3_compareCase) (maxL := 3) (ret := none) (by decide) rfl ?_
  intro p e s m args below meth c s₁ B hml hv
  obtain ⟨rfl, hsz, hZ, hP, hK, hD0⟩ := hv
  have hx := B.exec
  have hb := B.bytes
  have hr := B.returns
  have hts := atoms_spec (ws := wzX3_compareCase) B.pre
  have hown : s.vm.findClass RX3 = some m.cls := findClass_of_methodNamed B.named
  have hlocks := B.notSynchronized
  have hD := hD0.self (sz := CS.hs σ)
  generalize hAe : va_A (cW Q σ) (CS.hs σ) = A at hD ⊢
  have hA : ∀ q : Nat, s.heap.size ≤ q → A q := fun q h => by rw [← hAe]; exact Or.inr (hsz ▸ h)
  have hC : CP dC dI Q A s.heap σ s.heap [] := ⟨hP, hD, va_S.rf, hsz⟩
  have h0 : CS.hs σ ≤ CS.hs σ := Nat.le_refl _
  have hl := lv_entry ([.ref (Q.o 7), .int x1]) (n := 3) (Nat.le_of_ble_eq_true rfl)
  rw [lg_entry_eq]
  generalize (lg_sl ([.ref (Q.o 7), .int x1]) ++ List.replicate (3 - (lg_sl ([.ref (Q.o 7), .int x1])).length) Slot.unset).toArray = ls at hl ⊢
  have hl : lv_has ls 3 [(0, .ref (Q.o 7)), (1, .int x1)] := hl
  unfold f_X3_compareCase at hf
  refine W.widen (k := CS.hs σ - CS.hs σ) (n := 17 * (CS.hs σ - CS.hs σ)) (Nat.zero_le _) (Nat.zero_le _) ?_
  refine lv_aload_n hx hb dX3_compareCase_0 rfl (lv_at hl 0 rfl) ?_
  obtain ⟨p1, hcp1, hf⟩ := hf_bind hf
  have mo2 : CS.hs σ ≤ CS.hs p1.2 := Mono.go hcp1 (m_X3_pop N σ)
  have hr9 : CS.hs p1.2 ≤ CS.hs R.2 := Mono.go hf (mono_ite (mono_bind (m_X3_pop N p1.2) (fun p7 => (mono_some (Nat.le_refl _)))) (mono_some (Nat.le_refl _)))
  have hFc := cFree hC hA
  refine va_calli (va_runV (As := []) (rest := []) ⟨hx, hb, hml, hown, hts⟩ (c_X3_pop l dC dI Q N σ p1 hcp1) (cwV 0 hts hX3_compareCase_X3_pop_v138 rfl rfl rfl (by decide +kernel) ⟨(show 2 + 1 ≤ 3 by omega), (show 8 + (1 + 11) + 60 * 2 ≤ 60 * 3 by omega)⟩) ⟨zPre.blind, va_recv hK hC.1 (ci := 2) (q0 := 7) rfl rfl, cPre_go hZ hK hC⟩ rfl rfl hl.1 rfl (lv_room (Nat.le_of_ble_eq_true rfl)) dX3_compareCase_1 (cAcc h0 mo2 hr9)) hC.2.2.1 (fun q _ h => hFc q h) hFc (fun r3 u9 t9 H1 locs ht hvm hw hB hz1 hk1 hS => ?_)
  obtain ⟨⟨hP, hK1, hD1⟩, hsz1⟩ := hB
  rw [ht] at hP hsz1
  have hC : CP dC dI Q A s.heap p1.2 H1 locs := ⟨hP, hD1.weaken (fun _ _ _ h => hFc _ h), hS, hsz1⟩
  generalize H1 = H at hC ⊢
  have h4 : (CS.hs σ) ≤ CS.hs p1.2 := Nat.le_trans h0 mo2
  refine W.widen (k := CS.hs p1.2 - (CS.hs σ)) (n := 17 * (CS.hs p1.2 - (CS.hs σ))) (cAcc2 h0 mo2) (cAcc3 h0 mo2) ?_
  obtain rfl : r3 = p1.1 := hw
  refine lv_istore_n (lv' := [(2, .int p1.1), (0, .ref (Q.o 7)), (1, .int x1)]) hx hb dX3_compareCase_4 rfl hl (by decide) rfl (fun ls hl => ?_)
  refine lv_aload_n hx hb dX3_compareCase_5 rfl (lv_at hl 1 rfl) ?_
  refine cG_60 hx hb hts i_X3_compareCase_X3 hown hK hC (hts (.fieldLink RX3 15 "StatementRules2$Machine" "values" "[I") k_X3_compareCase_fieldLink_RX3_15_SR_Machine_values_I) (fun _ q9 => q9) dX3_compareCase_6 ?_
  refine lv_aload_n hx hb dX3_compareCase_9 rfl (lv_at hl 1 rfl) ?_
  refine cG_65 (v := (p1.2.i 65)) hx hb hts i_X3_compareCase_X3 hown hK hC (hts (.fieldLink RX3 54 "StatementRules2$Machine" "height" "I") k_X3_compareCase_fieldLink_RX3_54_SR_Machine_height_I) (fun _ q9 => q9) dX3_compareCase_10 rfl ?_
  refine lv_iconst (v := 1) hx hb dX3_compareCase_13 (by decide) ?_
  refine lv_isub hx hb dX3_compareCase_14 ?_
  have he9 := (cArr_60 (Q := Q) (σ := p1.2))
  have hFc := cFree1 hC hA he9
  have hr9 : CS.hs p1.2 ≤ CS.hs R.2 := Mono.go hf (mono_ite (mono_bind (m_X3_pop N p1.2) (fun p7 => (mono_some (Nat.le_refl _)))) (mono_some (Nat.le_refl _)))
  refine va_calli (va_runSN (As := [.ref (Q.q 60), .int ((p1.2.i 65) - 1)]) (rest := []) ⟨hx, hb, hml, hown, hts⟩ (c_X11_at l dC dI _ (Q.q 60) (Q.c 0) 600 (p1.2.a 60) ((p1.2.i 65) - 1) (by decide)) ⟨va_cnB 2 hts hX3_compareCase_X11_at_n111 rfl rfl rfl (hZ.1 (.methodLinkNest RX3 111 yX11_at "StatementRules2") (by decide +kernel)) (hts (.initialized RX11) k_X3_compareCase_initialized_RX11) (by decide +kernel) ⟨(show 1 + 1 ≤ 3 by omega), (show 8 + (2 + 11) + 60 * 1 ≤ 60 * 3 by omega)⟩, (hts (.static yX11_at) k_X3_compareCase_static_yX11_at), trivial⟩ ⟨zPre.blind, zPre.go hZ (cOne hC.1 he9) (hK.sub (tys' := [(Q.c 0, .int)]) [0] rfl) (cOneD hC.2.1 he9)⟩ rfl rfl hl.1 rfl (lv_room (Nat.le_of_ble_eq_true rfl)) dX3_compareCase_15 ⟨cAcc4 h4 hr9, cAcc5 h4 hr9⟩) hC.2.2.1 (fun q _ h => hFc q h) hFc (fun r5 u9 t9 H1 locs ht hvm hw hB hz1 hk1 hS => ?_)
  obtain ⟨⟨hP1, hK1, hD1⟩, hsz1⟩ := hB
  rw [ht] at hP1 hsz1
  have hC := cBack (σ' := p1.2) hC he9 (cSelf he9) (Eq.refl (CS.hs p1.2)) hk1 hP1 hsz1 hS
  generalize H1 = H at hC ⊢
  obtain rfl : r5 = (gAt (p1.2.a 60) 600 ((p1.2.i 65) - 1)) := hw
  refine lv_iload_n hx hb dX3_compareCase_18 rfl (lv_at hl 0 rfl) ?_
  refine lv_icmp_ne (tgt := 42) hx hb dX3_compareCase_19 (by decide) (fun c6 => ?_) (fun c6 => ?_)
  ·
    replace hf := (if_neg c6).symm.trans hf
    obtain rfl := Option.some.inj hf
    exact W.vret hx hb hr (fun t ht hW => ⟨⟨(), rfl, trivial, ⟨by rw [ht]; exact hC.1, va_K.moved hW.alike hK, hC.2.1⟩, by rw [ht]; exact hC.2.2.2⟩, hC.2.2.1.F ht⟩) hC.2.2.1.2.2 dX3_compareCase_42
  ·
    replace hf := (if_pos c6).symm.trans hf
    refine lv_aload_n hx hb dX3_compareCase_22 rfl (lv_at hl 1 rfl) ?_
    obtain ⟨p7, hcp7, hf⟩ := hf_bind hf
    have mo8 : CS.hs p1.2 ≤ CS.hs p7.2 := Mono.go hcp7 (m_X3_pop N p1.2)
    have hr9 : CS.hs p7.2 ≤ CS.hs R.2 := Mono.go hf (mono_some (Nat.le_refl _))
    have hFc := cFree hC hA
    refine va_calli (va_runV (As := []) (rest := []) ⟨hx, hb, hml, hown, hts⟩ (c_X3_pop l dC dI Q N p1.2 p7 hcp7) (cwV 0 hts hX3_compareCase_X3_pop_v138 rfl rfl rfl (by decide +kernel) ⟨(show 2 + 1 ≤ 3 by omega), (show 8 + (1 + 11) + 60 * 2 ≤ 60 * 3 by omega)⟩) ⟨zPre.blind, va_recv hK hC.1 (ci := 2) (q0 := 7) rfl rfl, cPre_go hZ hK hC⟩ rfl rfl hl.1 rfl (lv_room (Nat.le_of_ble_eq_true rfl)) dX3_compareCase_23 (cAcc h4 mo8 hr9)) hC.2.2.1 (fun q _ h => hFc q h) hFc (fun r9 u9 t9 H1 locs ht hvm hw hB hz1 hk1 hS => ?_)
    obtain ⟨⟨hP, hK1, hD1⟩, hsz1⟩ := hB
    rw [ht] at hP hsz1
    have hC : CP dC dI Q A s.heap p7.2 H1 locs := ⟨hP, hD1.weaken (fun _ _ _ h => hFc _ h), hS, hsz1⟩
    generalize H1 = H at hC ⊢
    have h10 : (CS.hs σ) ≤ CS.hs p7.2 := Nat.le_trans h4 mo8
    refine W.widen (k := CS.hs p7.2 - (CS.hs σ)) (n := 17 * (CS.hs p7.2 - (CS.hs σ))) (cAcc2 h4 mo8) (cAcc3 h4 mo8) ?_
    obtain rfl : r9 = p7.1 := hw
    refine lv_pop hx hb dX3_compareCase_26 rfl ?_
    refine lv_aload_n hx hb dX3_compareCase_27 rfl (lv_at hl 1 rfl) ?_
    refine lv_aload_n hx hb dX3_compareCase_28 rfl (lv_at hl 1 rfl) ?_
    refine cG_58 hx hb hts i_X3_compareCase_X3 hown hK hC (hts (.fieldLink RX3 40 "StatementRules2$Machine" "code" "LStatementRules2$Code;") k_X3_compareCase_fieldLink_RX3_40_SR_Machine_code_LSR_Code) (fun _ q9 => q9) dX3_compareCase_29 ?_
    refine cGN_17 hx hb hts i_X3_compareCase_X0 hown hK hC (va_Nw.use rfl (hZ.1 (.fieldLinkNest RX3 153 "StatementRules2$Code" "targets" "[I" "StatementRules2") (by decide +kernel))) (fun _ q9 => q9) dX3_compareCase_32 ?_
    refine lv_iload_n hx hb dX3_compareCase_35 rfl (lv_at hl 2 rfl) ?_
    have he9 := (cArr_17 (Q := Q) (σ := p7.2))
    have hFc := cFree1 hC hA he9
    have hr9 : CS.hs p7.2 ≤ CS.hs R.2 := Mono.go hf (mono_some (Nat.le_refl _))
    refine va_calli (va_runSN (As := [.ref (Q.q 17), .int x1]) (rest := [.ref (Q.o 7)]) ⟨hx, hb, hml, hown, hts⟩ (c_X11_at l dC dI _ (Q.q 17) (Q.c 0) 1024 (p7.2.a 17) x1 (by decide)) ⟨va_cnB 2 hts hX3_compareCase_X11_at_n111 rfl rfl rfl (hZ.1 (.methodLinkNest RX3 111 yX11_at "StatementRules2") (by decide +kernel)) (hts (.initialized RX11) k_X3_compareCase_initialized_RX11) (by decide +kernel) ⟨(show 1 + 1 ≤ 3 by omega), (show 8 + (2 + 11) + 60 * 1 ≤ 60 * 3 by omega)⟩, (hts (.static yX11_at) k_X3_compareCase_static_yX11_at), trivial⟩ ⟨zPre.blind, zPre.go hZ (cOne hC.1 he9) (hK.sub (tys' := [(Q.c 0, .int)]) [0] rfl) (cOneD hC.2.1 he9)⟩ rfl rfl hl.1 rfl (lv_room (Nat.le_of_ble_eq_true rfl)) dX3_compareCase_36 ⟨cAcc4 h10 hr9, cAcc5 h10 hr9⟩) hC.2.2.1 (fun q _ h => hFc q h) hFc (fun r11 u9 t9 H1 locs ht hvm hw hB hz1 hk1 hS => ?_)
    obtain ⟨⟨hP1, hK1, hD1⟩, hsz1⟩ := hB
    rw [ht] at hP1 hsz1
    have hC := cBack (σ' := p7.2) hC he9 (cSelf he9) (Eq.refl (CS.hs p7.2)) hk1 hP1 hsz1 hS
    generalize H1 = H at hC ⊢
    obtain rfl : r11 = (gAt (p7.2.a 17) 1024 x1) := hw
    refine cP_66 (v := (gAt (p7.2.a 17) 1024 x1)) hx hb hts i_X3_compareCase_X3 hown hK hC (hts (.fieldLink RX3 57 "StatementRules2$Machine" "place" "I") k_X3_compareCase_fieldLink_RX3_57_SR_Machine_place_I) (fun _ q9 => q9) dX3_compareCase_39 (fun H locs hC => ?_)
    obtain rfl := Option.some.inj hf
    exact W.vret hx hb hr (fun t ht hW => ⟨⟨(), rfl, trivial, ⟨by rw [ht]; exact hC.1, va_K.moved hW.alike hK, hC.2.1⟩, by rw [ht]; exact hC.2.2.2⟩, hC.2.2.1.F ht⟩) hC.2.2.1.2.2 dX3_compareCase_42
theorem k_X3_fillRow_fieldLink_RX3_9_SR_Machine_cells_I : Cond.fieldLink RX3 9 "StatementRules2$Machine" "cells" "[I" ∈ wzX3_fillRow := List.mem_cons_of_mem _ (List.mem_append_left _ (List.mem_of_getElem? (i := 0) rfl))
theorem i_X3_fillRow_X3 : ∀ w ∈ wsX30, w ∈ wzX3_fillRow := fun _ h => List.mem_cons_of_mem _ (List.mem_append_right _ (List.mem_append_left _ (h)))
theorem k_X3_fillRow_initialized_RX11 : Cond.initialized RX11 ∈ wzX3_fillRow := List.mem_cons_of_mem _ (List.mem_append_left _ (List.mem_of_getElem? (i := 1) rfl))
theorem k_X3_fillRow_static_yX11_put : Cond.static yX11_put ∈ wzX3_fillRow := List.mem_cons_of_mem _ (List.mem_append_left _ (List.mem_of_getElem? (i := 2) rfl))
set_option maxHeartbeats 4000000 in
set_option maxRecDepth 100000 in
theorem j_X3_fillRow_29 {p : Program} {e : Env} {s : State} {m : MethodId} {args : Array Value} {below : List Frame} {meth : Method} {c : Code} {A : Nat → Prop} (l : Launch) (dC : Nat → ClassId) (dI : Nat → Nat → Nat) (Q : CQ) (N : Nat) (z9h : Nat) (R : Unit × CS) (hx : p.tables.exec = Jvm.exec) (hb : c.code = cX3_fillRow) (hr : meth.sig.returnType = none) (hml : c.maxLocals = 4) (hown : s.vm.findClass RX3 = some m.cls) (hts : ∀ w ∈ wzX3_fillRow, w.before args s = true) (hlocks : meth.locks = false) (hZ : zAMB s) (hA : ∀ q : Nat, s.heap.size ≤ q → A q) (hK : va_K (dC, dI) vwCl (cT Q) s) : ∀ (n9 : Nat), ∀ (σ : CS) (x1 : Int32) (x3 : Int32) (H : Heap) (locs : List Loc) (ls : Array Slot), f_X3_fillRow_29 N n9 σ x1 x3 = some R → z9h ≤ CS.hs σ → CP dC dI Q A s.heap σ H locs → lv_has ls 4 [(0, .ref (Q.o 7)), (1, .int x1), (3, .int x3)] → W p l e ({ frames := 3, cells := CS.hs R.2 - z9h, slots := 17 * (CS.hs R.2 - z9h), locals := 60 * 3 }) s m args below meth c H locs (CS.hs σ - z9h) (17 * (CS.hs σ - z9h)) (MQ below (va_Qv (fun (_ : Unit) => True) (fun (_ : Unit) (t : State) => zPost dC dI A (cW Q R.2) (cT Q) t ∧ t.heap.size = CS.hs R.2) A) args s (CS.hs R.2 - z9h) (17 * (CS.hs R.2 - z9h)) A) (F0 m 29 ls []) := by
  intro n9
  induction n9 with
  | zero => intro σ x1 x3 H locs ls hf; exact absurd hf (by intro q9; cases q9)
  | succ n9 ih =>
    intro σ x1 x3 H locs ls hf h0 hC hl
    replace hf : b_X3_fillRow_29 N (f_X3_fillRow_29 N n9) σ x1 x3 = some R := hf
    unfold b_X3_fillRow_29 at hf
    have hMK := fun (σ : CS) (x1 : Int32) (x3 : Int32) => m_X3_fillRow_29 N n9 σ x1 x3
    refine lv_iload_n hx hb dX3_fillRow_29 rfl (lv_at hl 2 rfl) ?_
    refine lv_if_lt (tgt := 55) hx hb dX3_fillRow_30 (by decide) (fun c5 => ?_) (fun c5 => ?_)
    ·
      replace hf := (if_pos c5).symm.trans hf
      obtain rfl := Option.some.inj hf
      exact W.vret hx hb hr (fun t ht hW => ⟨⟨(), rfl, trivial, ⟨by rw [ht]; exact hC.1, va_K.moved hW.alike hK, hC.2.1⟩, by rw [ht]; exact hC.2.2.2⟩, hC.2.2.1.F ht⟩) hC.2.2.1.2.2 dX3_fillRow_55
    ·
      replace hf := (if_neg c5).symm.trans hf
      refine lv_aload_n hx hb dX3_fillRow_33 rfl (lv_at hl 0 rfl) ?_
      refine cG_59 hx hb hts i_X3_fillRow_X3 hown hK hC (hts (.fieldLink RX3 9 "StatementRules2$Machine" "cells" "[I") k_X3_fillRow_fieldLink_RX3_9_SR_Machine_cells_I) (fun _ q9 => q9) dX3_fillRow_34 ?_
      refine lv_iload_n hx hb dX3_fillRow_37 rfl (lv_at hl 1 rfl) ?_
      refine lv_iconst (v := 2) hx hb dX3_fillRow_38 (by decide) ?_
      refine lv_iadd hx hb dX3_fillRow_39 ?_
      refine lv_iload_n hx hb dX3_fillRow_40 rfl (lv_at hl 2 rfl) ?_
      refine lv_iadd hx hb dX3_fillRow_41 ?_
      refine lv_aload_n hx hb dX3_fillRow_42 rfl (lv_at hl 0 rfl) ?_
      obtain ⟨p6, hcp6, hf⟩ := hf_bind hf
      have mo7 : CS.hs σ ≤ CS.hs p6.2 := Mono.go hcp6 (m_X3_pop N σ)
      have hr9 : CS.hs p6.2 ≤ CS.hs R.2 := Mono.go hf (hMK (CS.putA p6.2 59 (gPut (p6.2.a 59) 720 ((x1 + 2) + x3) p6.1)) x1 (x3 + (-1)))
      have hFc := cFree hC hA
      refine va_calli (va_runV (As := []) (rest := [.int ((x1 + 2) + x3), .ref (Q.q 59)]) ⟨hx, hb, hml, hown, hts⟩ (c_X3_pop l dC dI Q N σ p6 hcp6) (cwV 0 hts hX3_fillRow_X3_pop_v138 rfl rfl rfl (by decide +kernel) ⟨(show 2 + 1 ≤ 3 by omega), (show 8 + (1 + 11) + 60 * 2 ≤ 60 * 3 by omega)⟩) ⟨zPre.blind, va_recv hK hC.1 (ci := 2) (q0 := 7) rfl rfl, cPre_go hZ hK hC⟩ rfl rfl hl.1 rfl (lv_room (Nat.le_of_ble_eq_true rfl)) dX3_fillRow_43 (cAcc h0 mo7 hr9)) hC.2.2.1 (fun q _ h => hFc q h) hFc (fun r8 u9 t9 H1 locs ht hvm hw hB hz1 hk1 hS => ?_)
      obtain ⟨⟨hP, hK1, hD1⟩, hsz1⟩ := hB
      rw [ht] at hP hsz1
      have hC : CP dC dI Q A s.heap p6.2 H1 locs := ⟨hP, hD1.weaken (fun _ _ _ h => hFc _ h), hS, hsz1⟩
      generalize H1 = H at hC ⊢
      have h9 : z9h ≤ CS.hs p6.2 := Nat.le_trans h0 mo7
      refine W.widen (k := CS.hs p6.2 - z9h) (n := 17 * (CS.hs p6.2 - z9h)) (cAcc2 h0 mo7) (cAcc3 h0 mo7) ?_
      obtain rfl : r8 = p6.1 := hw
      have he9 := (cArr_59 (Q := Q) (σ := p6.2))
      have hFc := cFree1 hC hA he9
      have hr9 : CS.hs p6.2 ≤ CS.hs R.2 := Mono.go hf (hMK (CS.putA p6.2 59 (gPut (p6.2.a 59) 720 ((x1 + 2) + x3) p6.1)) x1 (x3 + (-1)))
      refine va_callv (va_runSN (As := [.ref (Q.q 59), .int ((x1 + 2) + x3), .int p6.1]) (rest := []) ⟨hx, hb, hml, hown, hts⟩ (c_X11_put l dC dI _ (Q.q 59) (Q.c 0) 720 (p6.2.a 59) ((x1 + 2) + x3) p6.1 (by decide)) ⟨va_cnB 3 hts hX3_fillRow_X11_put_n50 rfl rfl rfl (hZ.1 (.methodLinkNest RX3 50 yX11_put "StatementRules2") (by decide +kernel)) (hts (.initialized RX11) k_X3_fillRow_initialized_RX11) (by decide +kernel) ⟨(show 1 + 1 ≤ 3 by omega), (show 8 + (3 + 11) + 60 * 1 ≤ 60 * 3 by omega)⟩, (hts (.static yX11_put) k_X3_fillRow_static_yX11_put), trivial⟩ ⟨zPre.blind, zPre.go hZ (cOne hC.1 he9) (hK.sub (tys' := [(Q.c 0, .int)]) [0] rfl) (cOneD hC.2.1 he9)⟩ rfl rfl hl.1 rfl (lv_room (Nat.le_of_ble_eq_true rfl)) dX3_fillRow_46 ⟨cAcc4 h9 hr9, cAcc5 h9 hr9⟩) hC.2.2.1 (fun q _ h => hFc q h) hFc (fun u9 t9 H1 locs ht hvm hw hB hz1 hk1 hS => ?_)
      obtain ⟨⟨hP1, hK1, hD1⟩, hsz1⟩ := hB
      rw [ht] at hP1 hsz1
      have hC := cBack (σ' := CS.putA p6.2 59 (gPut (p6.2.a 59) 720 ((x1 + 2) + x3) p6.1)) hC he9 cPutA_59 (cPutA_h _ _ _) hk1 hP1 hsz1 hS
      generalize H1 = H at hC ⊢
      refine lv_iinc (v := (x3 + (-1))) (lv' := [(3, .int (x3 + (-1))), (0, .ref (Q.o 7)), (1, .int x1)]) hx hb dX3_fillRow_49 hl (k := 2) rfl rfl (by decide) rfl (fun ls hl => ?_)
      refine lv_goto (tgt := 29) hx hb dX3_fillRow_52 (by decide) ?_
      exact ih (CS.putA p6.2 59 (gPut (p6.2.a 59) 720 ((x1 + 2) + x3) p6.1)) x1 (x3 + (-1)) _ _ _ hf h9 hC (lv_sub hl [1, 2, 0] rfl)
set_option maxHeartbeats 4000000 in
set_option maxRecDepth 100000 in
theorem c_X3_fillRow (l : Launch) (dC : Nat → ClassId) (dI : Nat → Nat → Nat) (Q : CQ) (N : Nat) (σ : CS) (x1 : Int32) (R : Unit × CS) (hf : f_X3_fillRow N σ x1 = some R) : Met l yX3_fillRow wzX3_fillRow ({ frames := 3, cells := CS.hs R.2 - CS.hs σ, slots := 17 * (CS.hs R.2 - CS.hs σ), locals := 60 * 3 }) (va_Pc [.ref (Q.o 7), .int x1] (zPre dC dI (CS.hs σ) (cW Q σ) (cT Q))) (va_Qv (fun (_ : Unit) => True) (fun (_ : Unit) (t : State) => zPost dC dI (va_A (cW Q σ) (CS.hs σ)) (cW Q R.2) (cT Q) t ∧ t.heap.size = CS.hs R.2) (va_A (cW Q σ) (CS.hs σ))) (CS.hs R.2 - CS.hs σ) (17 * (CS.hs R.2 - CS.hs σ)) (va_A (cW Q σ) (CS.hs σ)) := by
  refine Met.ofW (cc := cX3_fillRow) (maxL := 4) (ret := none) (by decide) rfl ?_
  intro p e s m args below meth c s₁ B hml hv
  obtain ⟨rfl, hsz, hZ, hP, hK, hD0⟩ := hv
  have hx := B.exec
  have hb := B.bytes
  have hr := B.returns
  have hts := atoms_spec (ws := wzX3_fillRow) B.pre
  have hown : s.vm.findClass RX3 = some m.cls := findClass_of_methodNamed B.named
  have hlocks := B.notSynchronized
  have hD := hD0.self (sz := CS.hs σ)
  generalize hAe : va_A (cW Q σ) (CS.hs σ) = A at hD ⊢
  have hA : ∀ q : Nat, s.heap.size ≤ q → A q := fun q h => by rw [← hAe]; exact Or.inr (hsz ▸ h)
  have hC : CP dC dI Q A s.heap σ s.heap [] := ⟨hP, hD, va_S.rf, hsz⟩
  have h0 : CS.hs σ ≤ CS.hs σ := Nat.le_refl _
  have hl := lv_entry ([.ref (Q.o 7), .int x1]) (n := 4) (Nat.le_of_ble_eq_true rfl)
  rw [lg_entry_eq]
  generalize (lg_sl ([.ref (Q.o 7), .int x1]) ++ List.replicate (4 - (lg_sl ([.ref (Q.o 7), .int x1])).length) Slot.unset).toArray = ls at hl ⊢
  have hl : lv_has ls 4 [(0, .ref (Q.o 7)), (1, .int x1)] := hl
  unfold f_X3_fillRow at hf
  refine W.widen (k := CS.hs σ - CS.hs σ) (n := 17 * (CS.hs σ - CS.hs σ)) (Nat.zero_le _) (Nat.zero_le _) ?_
  refine lv_aload_n hx hb dX3_fillRow_0 rfl (lv_at hl 0 rfl) ?_
  obtain ⟨p1, hcp1, hf⟩ := hf_bind hf
  have mo2 : CS.hs σ ≤ CS.hs p1.2 := Mono.go hcp1 (m_X3_pop N σ)
  have hr9 : CS.hs p1.2 ≤ CS.hs R.2 := Mono.go hf (m_X3_fillRow_29 N N (CS.putA (CS.putA p1.2 59 (gPut (p1.2.a 59) 720 x1 0)) 59 (gPut (CS.a (CS.putA p1.2 59 (gPut (p1.2.a 59) 720 x1 0)) 59) 720 (x1 + 1) p1.1)) x1 (p1.1 - 1))
  have hFc := cFree hC hA
  refine va_calli (va_runV (As := []) (rest := []) ⟨hx, hb, hml, hown, hts⟩ (c_X3_pop l dC dI Q N σ p1 hcp1) (cwV 0 hts hX3_fillRow_X3_pop_v138 rfl rfl rfl (by decide +kernel) ⟨(show 2 + 1 ≤ 3 by omega), (show 8 + (1 + 11) + 60 * 2 ≤ 60 * 3 by omega)⟩) ⟨zPre.blind, va_recv hK hC.1 (ci := 2) (q0 := 7) rfl rfl, cPre_go hZ hK hC⟩ rfl rfl hl.1 rfl (lv_room (Nat.le_of_ble_eq_true rfl)) dX3_fillRow_1 (cAcc h0 mo2 hr9)) hC.2.2.1 (fun q _ h => hFc q h) hFc (fun r3 u9 t9 H1 locs ht hvm hw hB hz1 hk1 hS => ?_)
  obtain ⟨⟨hP, hK1, hD1⟩, hsz1⟩ := hB
  rw [ht] at hP hsz1
  have hC : CP dC dI Q A s.heap p1.2 H1 locs := ⟨hP, hD1.weaken (fun _ _ _ h => hFc _ h), hS, hsz1⟩
  generalize H1 = H at hC ⊢
  have h4 : (CS.hs σ) ≤ CS.hs p1.2 := Nat.le_trans h0 mo2
  refine W.widen (k := CS.hs p1.2 - (CS.hs σ)) (n := 17 * (CS.hs p1.2 - (CS.hs σ))) (cAcc2 h0 mo2) (cAcc3 h0 mo2) ?_
  obtain rfl : r3 = p1.1 := hw
  refine lv_istore_n (lv' := [(2, .int p1.1), (0, .ref (Q.o 7)), (1, .int x1)]) hx hb dX3_fillRow_4 rfl hl (by decide) rfl (fun ls hl => ?_)
  refine lv_aload_n hx hb dX3_fillRow_5 rfl (lv_at hl 1 rfl) ?_
  refine cG_59 hx hb hts i_X3_fillRow_X3 hown hK hC (hts (.fieldLink RX3 9 "StatementRules2$Machine" "cells" "[I") k_X3_fillRow_fieldLink_RX3_9_SR_Machine_cells_I) (fun _ q9 => q9) dX3_fillRow_6 ?_
  refine lv_iload_n hx hb dX3_fillRow_9 rfl (lv_at hl 2 rfl) ?_
  refine lv_iconst (v := 0) hx hb dX3_fillRow_10 (by decide) ?_
  have he9 := (cArr_59 (Q := Q) (σ := p1.2))
  have hFc := cFree1 hC hA he9
  have hr9 : CS.hs p1.2 ≤ CS.hs R.2 := Mono.go hf (m_X3_fillRow_29 N N (CS.putA (CS.putA p1.2 59 (gPut (p1.2.a 59) 720 x1 0)) 59 (gPut (CS.a (CS.putA p1.2 59 (gPut (p1.2.a 59) 720 x1 0)) 59) 720 (x1 + 1) p1.1)) x1 (p1.1 - 1))
  refine va_callv (va_runSN (As := [.ref (Q.q 59), .int x1, .int 0]) (rest := []) ⟨hx, hb, hml, hown, hts⟩ (c_X11_put l dC dI _ (Q.q 59) (Q.c 0) 720 (p1.2.a 59) x1 0 (by decide)) ⟨va_cnB 3 hts hX3_fillRow_X11_put_n50 rfl rfl rfl (hZ.1 (.methodLinkNest RX3 50 yX11_put "StatementRules2") (by decide +kernel)) (hts (.initialized RX11) k_X3_fillRow_initialized_RX11) (by decide +kernel) ⟨(show 1 + 1 ≤ 3 by omega), (show 8 + (3 + 11) + 60 * 1 ≤ 60 * 3 by omega)⟩, (hts (.static yX11_put) k_X3_fillRow_static_yX11_put), trivial⟩ ⟨zPre.blind, zPre.go hZ (cOne hC.1 he9) (hK.sub (tys' := [(Q.c 0, .int)]) [0] rfl) (cOneD hC.2.1 he9)⟩ rfl rfl hl.1 rfl (lv_room (Nat.le_of_ble_eq_true rfl)) dX3_fillRow_11 ⟨cAcc4 h4 hr9, cAcc5 h4 hr9⟩) hC.2.2.1 (fun q _ h => hFc q h) hFc (fun u9 t9 H1 locs ht hvm hw hB hz1 hk1 hS => ?_)
  obtain ⟨⟨hP1, hK1, hD1⟩, hsz1⟩ := hB
  rw [ht] at hP1 hsz1
  have hC := cBack (σ' := CS.putA p1.2 59 (gPut (p1.2.a 59) 720 x1 0)) hC he9 cPutA_59 (cPutA_h _ _ _) hk1 hP1 hsz1 hS
  generalize H1 = H at hC ⊢
  refine lv_aload_n hx hb dX3_fillRow_14 rfl (lv_at hl 1 rfl) ?_
  refine cG_59 hx hb hts i_X3_fillRow_X3 hown hK hC (hts (.fieldLink RX3 9 "StatementRules2$Machine" "cells" "[I") k_X3_fillRow_fieldLink_RX3_9_SR_Machine_cells_I) (fun _ q9 => q9) dX3_fillRow_15 ?_
  refine lv_iload_n hx hb dX3_fillRow_18 rfl (lv_at hl 2 rfl) ?_
  refine lv_iconst (v := 1) hx hb dX3_fillRow_19 (by decide) ?_
  refine lv_iadd hx hb dX3_fillRow_20 ?_
  refine lv_iload_n hx hb dX3_fillRow_21 rfl (lv_at hl 0 rfl) ?_
  have he9 := (cArr_59 (Q := Q) (σ := CS.putA p1.2 59 (gPut (p1.2.a 59) 720 x1 0)))
  have hFc := cFree1 hC hA he9
  have hr9 : CS.hs p1.2 ≤ CS.hs R.2 := Mono.go hf (m_X3_fillRow_29 N N (CS.putA (CS.putA p1.2 59 (gPut (p1.2.a 59) 720 x1 0)) 59 (gPut (CS.a (CS.putA p1.2 59 (gPut (p1.2.a 59) 720 x1 0)) 59) 720 (x1 + 1) p1.1)) x1 (p1.1 - 1))
  refine va_callv (va_runSN (As := [.ref (Q.q 59), .int (x1 + 1), .int p1.1]) (rest := []) ⟨hx, hb, hml, hown, hts⟩ (c_X11_put l dC dI _ (Q.q 59) (Q.c 0) 720 (CS.a (CS.putA p1.2 59 (gPut (p1.2.a 59) 720 x1 0)) 59) (x1 + 1) p1.1 (by decide)) ⟨va_cnB 3 hts hX3_fillRow_X11_put_n50 rfl rfl rfl (hZ.1 (.methodLinkNest RX3 50 yX11_put "StatementRules2") (by decide +kernel)) (hts (.initialized RX11) k_X3_fillRow_initialized_RX11) (by decide +kernel) ⟨(show 1 + 1 ≤ 3 by omega), (show 8 + (3 + 11) + 60 * 1 ≤ 60 * 3 by omega)⟩, (hts (.static yX11_put) k_X3_fillRow_static_yX11_put), trivial⟩ ⟨zPre.blind, zPre.go hZ (cOne hC.1 he9) (hK.sub (tys' := [(Q.c 0, .int)]) [0] rfl) (cOneD hC.2.1 he9)⟩ rfl rfl hl.1 rfl (lv_room (Nat.le_of_ble_eq_true rfl)) dX3_fillRow_22 ⟨cAcc4 h4 hr9, cAcc5 h4 hr9⟩) hC.2.2.1 (fun q _ h => hFc q h) hFc (fun u9 t9 H1 locs ht hvm hw hB hz1 hk1 hS => ?_)
  obtain ⟨⟨hP1, hK1, hD1⟩, hsz1⟩ := hB
  rw [ht] at hP1 hsz1
  have hC := cBack (σ' := CS.putA (CS.putA p1.2 59 (gPut (p1.2.a 59) 720 x1 0)) 59 (gPut (CS.a (CS.putA p1.2 59 (gPut (p1.2.a 59) 720 x1 0)) 59) 720 (x1 + 1) p1.1)) hC he9 cPutA_59 (cPutA_h _ _ _) hk1 hP1 hsz1 hS
  generalize H1 = H at hC ⊢
  refine lv_iload_n hx hb dX3_fillRow_25 rfl (lv_at hl 0 rfl) ?_
  refine lv_iconst (v := 1) hx hb dX3_fillRow_26 (by decide) ?_
  refine lv_isub hx hb dX3_fillRow_27 ?_
  refine lv_istore_n (lv' := [(3, .int (p1.1 - 1)), (2, .int p1.1), (0, .ref (Q.o 7)), (1, .int x1)]) hx hb dX3_fillRow_28 rfl hl (by decide) rfl (fun ls hl => ?_)
  exact j_X3_fillRow_29 l dC dI Q N (CS.hs σ) R hx hb hr hml hown hts hlocks hZ hA hK N (CS.putA (CS.putA p1.2 59 (gPut (p1.2.a 59) 720 x1 0)) 59 (gPut (CS.a (CS.putA p1.2 59 (gPut (p1.2.a 59) 720 x1 0)) 59) 720 (x1 + 1) p1.1)) x1 (p1.1 - 1) _ _ _ hf h4 hC (lv_sub hl [2, 3, 0] rfl)
theorem k_X3_steer_fieldLink_RX3_40_SR_Machine_code_LSR_Code : Cond.fieldLink RX3 40 "StatementRules2$Machine" "code" "LStatementRules2$Code;" ∈ wzX3_steer := List.mem_cons_of_mem _ (List.mem_append_left _ (List.mem_of_getElem? (i := 0) rfl))
theorem i_X3_steer_X3 : ∀ w ∈ wsX30, w ∈ wzX3_steer := fun _ h => List.mem_cons_of_mem _ (List.mem_append_right _ (List.mem_append_left _ (h)))
theorem i_X3_steer_X0 : ∀ w ∈ wsX00, w ∈ wzX3_steer := fun _ h => List.mem_cons_of_mem _ (List.mem_append_right _ (List.mem_append_right _ (List.mem_append_left _ (h))))
theorem k_X3_steer_initialized_RX11 : Cond.initialized RX11 ∈ wzX3_steer := List.mem_cons_of_mem _ (List.mem_append_left _ (List.mem_of_getElem? (i := 1) rfl))
theorem k_X3_steer_static_yX11_at : Cond.static yX11_at ∈ wzX3_steer := List.mem_cons_of_mem _ (List.mem_append_left _ (List.mem_of_getElem? (i := 2) rfl))
theorem k_X3_steer_fieldLink_RX3_57_SR_Machine_place_I : Cond.fieldLink RX3 57 "StatementRules2$Machine" "place" "I" ∈ wzX3_steer := List.mem_cons_of_mem _ (List.mem_append_left _ (List.mem_of_getElem? (i := 3) rfl))
theorem k_X3_steer_fieldLink_RX3_36_SR_Machine_told_LSR_Told : Cond.fieldLink RX3 36 "StatementRules2$Machine" "told" "LStatementRules2$Told;" ∈ wzX3_steer := List.mem_cons_of_mem _ (List.mem_append_left _ (List.mem_of_getElem? (i := 4) rfl))
theorem i_X3_steer_X10 : ∀ w ∈ wsX100, w ∈ wzX3_steer := fun _ h => List.mem_cons_of_mem _ (List.mem_append_right _ (List.mem_append_right _ (List.mem_append_right _ (List.mem_append_left _ (h)))))
theorem k_X3_steer_fieldLink_RX3_9_SR_Machine_cells_I : Cond.fieldLink RX3 9 "StatementRules2$Machine" "cells" "[I" ∈ wzX3_steer := List.mem_cons_of_mem _ (List.mem_append_left _ (List.mem_of_getElem? (i := 5) rfl))
theorem k_X3_steer_static_yX11_put : Cond.static yX11_put ∈ wzX3_steer := List.mem_cons_of_mem _ (List.mem_append_left _ (List.mem_of_getElem? (i := 6) rfl))
set_option maxHeartbeats 4000000 in
set_option maxRecDepth 100000 in
theorem j_X3_steer_83 {p : Program} {e : Env} {s : State} {m : MethodId} {args : Array Value} {below : List Frame} {meth : Method} {c : Code} {A : Nat → Prop} (l : Launch) (dC : Nat → ClassId) (dI : Nat → Nat → Nat) (Q : CQ) (N : Nat) (z9h : Nat) (R : Unit × CS) (hx : p.tables.exec = Jvm.exec) (hb : c.code = cX3_steer) (hr : meth.sig.returnType = none) (hml : c.maxLocals = 3) (hown : s.vm.findClass RX3 = some m.cls) (hts : ∀ w ∈ wzX3_steer, w.before args s = true) (hlocks : meth.locks = false) (hZ : zAMB s) (hA : ∀ q : Nat, s.heap.size ≤ q → A q) (hK : va_K (dC, dI) vwCl (cT Q) s) : ∀ (σ : CS) (H : Heap) (locs : List Loc) (ls : Array Slot), f_X3_steer_83 N σ = some R → z9h ≤ CS.hs σ → CP dC dI Q A s.heap σ H locs → lv_has ls 3 [] → W p l e ({ frames := 4, cells := CS.hs R.2 - z9h, slots := 17 * (CS.hs R.2 - z9h), locals := 60 * 4 }) s m args below meth c H locs (CS.hs σ - z9h) (17 * (CS.hs σ - z9h)) (MQ below (va_Qv (fun (_ : Unit) => True) (fun (_ : Unit) (t : State) => zPost dC dI A (cW Q R.2) (cT Q) t ∧ t.heap.size = CS.hs R.2) A) args s (CS.hs R.2 - z9h) (17 * (CS.hs R.2 - z9h)) A) (F0 m 83 ls []) := by
  intro σ  H locs ls hf h0 hC hl
  unfold f_X3_steer_83 at hf
  refine lv_goto (tgt := 218) hx hb dX3_steer_83 (by decide) ?_
  obtain rfl := Option.some.inj hf
  exact W.vret hx hb hr (fun t ht hW => ⟨⟨(), rfl, trivial, ⟨by rw [ht]; exact hC.1, va_K.moved hW.alike hK, hC.2.1⟩, by rw [ht]; exact hC.2.2.2⟩, hC.2.2.1.F ht⟩) hC.2.2.1.2.2 dX3_steer_218
set_option maxHeartbeats 4000000 in
set_option maxRecDepth 100000 in
theorem j_X3_steer_102 {p : Program} {e : Env} {s : State} {m : MethodId} {args : Array Value} {below : List Frame} {meth : Method} {c : Code} {A : Nat → Prop} (l : Launch) (dC : Nat → ClassId) (dI : Nat → Nat → Nat) (Q : CQ) (N : Nat) (z9h : Nat) (R : Unit × CS) (hx : p.tables.exec = Jvm.exec) (hb : c.code = cX3_steer) (hr : meth.sig.returnType = none) (hml : c.maxLocals = 3) (hown : s.vm.findClass RX3 = some m.cls) (hts : ∀ w ∈ wzX3_steer, w.before args s = true) (hlocks : meth.locks = false) (hZ : zAMB s) (hA : ∀ q : Nat, s.heap.size ≤ q → A q) (hK : va_K (dC, dI) vwCl (cT Q) s) : ∀ (σ : CS) (H : Heap) (locs : List Loc) (ls : Array Slot), f_X3_steer_102 N σ = some R → z9h ≤ CS.hs σ → CP dC dI Q A s.heap σ H locs → lv_has ls 3 [] → W p l e ({ frames := 4, cells := CS.hs R.2 - z9h, slots := 17 * (CS.hs R.2 - z9h), locals := 60 * 4 }) s m args below meth c H locs (CS.hs σ - z9h) (17 * (CS.hs σ - z9h)) (MQ below (va_Qv (fun (_ : Unit) => True) (fun (_ : Unit) (t : State) => zPost dC dI A (cW Q R.2) (cT Q) t ∧ t.heap.size = CS.hs R.2) A) args s (CS.hs R.2 - z9h) (17 * (CS.hs R.2 - z9h)) A) (F0 m 102 ls []) := by
  intro σ  H locs ls hf h0 hC hl
  unfold f_X3_steer_102 at hf
  refine lv_goto (tgt := 218) hx hb dX3_steer_102 (by decide) ?_
  obtain rfl := Option.some.inj hf
  exact W.vret hx hb hr (fun t ht hW => ⟨⟨(), rfl, trivial, ⟨by rw [ht]; exact hC.1, va_K.moved hW.alike hK, hC.2.1⟩, by rw [ht]; exact hC.2.2.2⟩, hC.2.2.1.F ht⟩) hC.2.2.1.2.2 dX3_steer_218
set_option maxHeartbeats 4000000 in
set_option maxRecDepth 100000 in
theorem j_X3_steer_133 {p : Program} {e : Env} {s : State} {m : MethodId} {args : Array Value} {below : List Frame} {meth : Method} {c : Code} {A : Nat → Prop} (l : Launch) (dC : Nat → ClassId) (dI : Nat → Nat → Nat) (Q : CQ) (N : Nat) (z9h : Nat) (R : Unit × CS) (hx : p.tables.exec = Jvm.exec) (hb : c.code = cX3_steer) (hr : meth.sig.returnType = none) (hml : c.maxLocals = 3) (hown : s.vm.findClass RX3 = some m.cls) (hts : ∀ w ∈ wzX3_steer, w.before args s = true) (hlocks : meth.locks = false) (hZ : zAMB s) (hA : ∀ q : Nat, s.heap.size ≤ q → A q) (hK : va_K (dC, dI) vwCl (cT Q) s) : ∀ (σ : CS) (H : Heap) (locs : List Loc) (ls : Array Slot), f_X3_steer_133 N σ = some R → z9h ≤ CS.hs σ → CP dC dI Q A s.heap σ H locs → lv_has ls 3 [] → W p l e ({ frames := 4, cells := CS.hs R.2 - z9h, slots := 17 * (CS.hs R.2 - z9h), locals := 60 * 4 }) s m args below meth c H locs (CS.hs σ - z9h) (17 * (CS.hs σ - z9h)) (MQ below (va_Qv (fun (_ : Unit) => True) (fun (_ : Unit) (t : State) => zPost dC dI A (cW Q R.2) (cT Q) t ∧ t.heap.size = CS.hs R.2) A) args s (CS.hs R.2 - z9h) (17 * (CS.hs R.2 - z9h)) A) (F0 m 133 ls []) := by
  intro σ  H locs ls hf h0 hC hl
  unfold f_X3_steer_133 at hf
  refine lv_goto (tgt := 218) hx hb dX3_steer_133 (by decide) ?_
  obtain rfl := Option.some.inj hf
  exact W.vret hx hb hr (fun t ht hW => ⟨⟨(), rfl, trivial, ⟨by rw [ht]; exact hC.1, va_K.moved hW.alike hK, hC.2.1⟩, by rw [ht]; exact hC.2.2.2⟩, hC.2.2.1.F ht⟩) hC.2.2.1.2.2 dX3_steer_218
set_option maxHeartbeats 4000000 in
set_option maxRecDepth 100000 in
theorem j_X3_steer_174 {p : Program} {e : Env} {s : State} {m : MethodId} {args : Array Value} {below : List Frame} {meth : Method} {c : Code} {A : Nat → Prop} (l : Launch) (dC : Nat → ClassId) (dI : Nat → Nat → Nat) (Q : CQ) (N : Nat) (z9h : Nat) (R : Unit × CS) (hx : p.tables.exec = Jvm.exec) (hb : c.code = cX3_steer) (hr : meth.sig.returnType = none) (hml : c.maxLocals = 3) (hown : s.vm.findClass RX3 = some m.cls) (hts : ∀ w ∈ wzX3_steer, w.before args s = true) (hlocks : meth.locks = false) (hZ : zAMB s) (hA : ∀ q : Nat, s.heap.size ≤ q → A q) (hK : va_K (dC, dI) vwCl (cT Q) s) : ∀ (σ : CS) (H : Heap) (locs : List Loc) (ls : Array Slot), f_X3_steer_174 N σ = some R → z9h ≤ CS.hs σ → CP dC dI Q A s.heap σ H locs → lv_has ls 3 [] → W p l e ({ frames := 4, cells := CS.hs R.2 - z9h, slots := 17 * (CS.hs R.2 - z9h), locals := 60 * 4 }) s m args below meth c H locs (CS.hs σ - z9h) (17 * (CS.hs σ - z9h)) (MQ below (va_Qv (fun (_ : Unit) => True) (fun (_ : Unit) (t : State) => zPost dC dI A (cW Q R.2) (cT Q) t ∧ t.heap.size = CS.hs R.2) A) args s (CS.hs R.2 - z9h) (17 * (CS.hs R.2 - z9h)) A) (F0 m 174 ls []) := by
  intro σ  H locs ls hf h0 hC hl
  unfold f_X3_steer_174 at hf
  refine lv_goto (tgt := 218) hx hb dX3_steer_174 (by decide) ?_
  obtain rfl := Option.some.inj hf
  exact W.vret hx hb hr (fun t ht hW => ⟨⟨(), rfl, trivial, ⟨by rw [ht]; exact hC.1, va_K.moved hW.alike hK, hC.2.1⟩, by rw [ht]; exact hC.2.2.2⟩, hC.2.2.1.F ht⟩) hC.2.2.1.2.2 dX3_steer_218
set_option maxHeartbeats 4000000 in
set_option maxRecDepth 100000 in
theorem c_X3_steer (l : Launch) (dC : Nat → ClassId) (dI : Nat → Nat → Nat) (Q : CQ) (N : Nat) (σ : CS) (x1 : Int32) (x2 : Int32) (R : Unit × CS) (hf : f_X3_steer N σ x1 x2 = some R) : Met l yX3_steer wzX3_steer ({ frames := 4, cells := CS.hs R.2 - CS.hs σ, slots := 17 * (CS.hs R.2 - CS.hs σ), locals := 60 * 4 }) (va_Pc [.ref (Q.o 7), .int x1, .int x2] (zPre dC dI (CS.hs σ) (cW Q σ) (cT Q))) (va_Qv (fun (_ : Unit) => True) (fun (_ : Unit) (t : State) => zPost dC dI (va_A (cW Q σ) (CS.hs σ)) (cW Q R.2) (cT Q) t ∧ t.heap.size = CS.hs R.2) (va_A (cW Q σ) (CS.hs σ))) (CS.hs R.2 - CS.hs σ) (17 * (CS.hs R.2 - CS.hs σ)) (va_A (cW Q σ) (CS.hs σ)) := by
  refine Met.ofW (cc := cX3_steer) (maxL := 3) (ret := none) (by decide) rfl ?_
  intro p e s m args below meth c s₁ B hml hv
  obtain ⟨rfl, hsz, hZ, hP, hK, hD0⟩ := hv
  have hx := B.exec
  have hb := B.bytes
  have hr := B.returns
  have hts := atoms_spec (ws := wzX3_steer) B.pre
  have hown : s.vm.findClass RX3 = some m.cls := findClass_of_methodNamed B.named
  have hlocks := B.notSynchronized
  have hD := hD0.self (sz := CS.hs σ)
  generalize hAe : va_A (cW Q σ) (CS.hs σ) = A at hD ⊢
  have hA : ∀ q : Nat, s.heap.size ≤ q → A q := fun q h => by rw [← hAe]; exact Or.inr (hsz ▸ h)
  have hC : CP dC dI Q A s.heap σ s.heap [] := ⟨hP, hD, va_S.rf, hsz⟩
  have h0 : CS.hs σ ≤ CS.hs σ := Nat.le_refl _
  have hl := lv_entry ([.ref (Q.o 7), .int x1, .int x2]) (n := 3) (Nat.le_of_ble_eq_true rfl)
  rw [lg_entry_eq]
  generalize (lg_sl ([.ref (Q.o 7), .int x1, .int x2]) ++ List.replicate (3 - (lg_sl ([.ref (Q.o 7), .int x1, .int x2])).length) Slot.unset).toArray = ls at hl ⊢
  have hl : lv_has ls 3 [(0, .ref (Q.o 7)), (1, .int x1), (2, .int x2)] := hl
  unfold f_X3_steer at hf
  refine W.widen (k := CS.hs σ - CS.hs σ) (n := 17 * (CS.hs σ - CS.hs σ)) (Nat.zero_le _) (Nat.zero_le _) ?_
  refine lv_iload_n hx hb dX3_steer_0 rfl (lv_at hl 1 rfl) ?_
  by_cases c1 : x1 = 30
  ·
    replace hf := (if_pos c1).symm.trans hf
    refine lv_tableIn (off := 47) (tgt := 48) hx hb dX3_steer_1 (by rw [c1]; decide) (by rw [c1]; decide) (by rw [c1]; decide) (by decide) ?_
    refine lv_aload_n hx hb dX3_steer_48 rfl (lv_at hl 0 rfl) ?_
    refine lv_aload_n hx hb dX3_steer_49 rfl (lv_at hl 0 rfl) ?_
    refine cG_58 hx hb hts i_X3_steer_X3 hown hK hC (hts (.fieldLink RX3 40 "StatementRules2$Machine" "code" "LStatementRules2$Code;") k_X3_steer_fieldLink_RX3_40_SR_Machine_code_LSR_Code) (fun _ q9 => q9) dX3_steer_50 ?_
    refine cGN_17 hx hb hts i_X3_steer_X0 hown hK hC (va_Nw.use rfl (hZ.1 (.fieldLinkNest RX3 153 "StatementRules2$Code" "targets" "[I" "StatementRules2") (by decide +kernel))) (fun _ q9 => q9) dX3_steer_53 ?_
    refine lv_iload_n hx hb dX3_steer_56 rfl (lv_at hl 2 rfl) ?_
    have he9 := (cArr_17 (Q := Q) (σ := σ))
    have hFc := cFree1 hC hA he9
    have hr9 : CS.hs σ ≤ CS.hs R.2 := Mono.go hf (mono_some (Nat.le_refl _))
    refine va_calli (va_runSN (As := [.ref (Q.q 17), .int x2]) (rest := [.ref (Q.o 7)]) ⟨hx, hb, hml, hown, hts⟩ (c_X11_at l dC dI _ (Q.q 17) (Q.c 0) 1024 (σ.a 17) x2 (by decide)) ⟨va_cnB 2 hts hX3_steer_X11_at_n111 rfl rfl rfl (hZ.1 (.methodLinkNest RX3 111 yX11_at "StatementRules2") (by decide +kernel)) (hts (.initialized RX11) k_X3_steer_initialized_RX11) (by decide +kernel) ⟨(show 1 + 1 ≤ 4 by omega), (show 8 + (2 + 11) + 60 * 1 ≤ 60 * 4 by omega)⟩, (hts (.static yX11_at) k_X3_steer_static_yX11_at), trivial⟩ ⟨zPre.blind, zPre.go hZ (cOne hC.1 he9) (hK.sub (tys' := [(Q.c 0, .int)]) [0] rfl) (cOneD hC.2.1 he9)⟩ rfl rfl hl.1 rfl (lv_room (Nat.le_of_ble_eq_true rfl)) dX3_steer_57 ⟨cAcc4 h0 hr9, cAcc5 h0 hr9⟩) hC.2.2.1 (fun q _ h => hFc q h) hFc (fun r2 u9 t9 H1 locs ht hvm hw hB hz1 hk1 hS => ?_)
    obtain ⟨⟨hP1, hK1, hD1⟩, hsz1⟩ := hB
    rw [ht] at hP1 hsz1
    have hC := cBack (σ' := σ) hC he9 (cSelf he9) (Eq.refl (CS.hs σ)) hk1 hP1 hsz1 hS
    generalize H1 = H at hC ⊢
    obtain rfl : r2 = (gAt (σ.a 17) 1024 x2) := hw
    refine cP_66 (v := (gAt (σ.a 17) 1024 x2)) hx hb hts i_X3_steer_X3 hown hK hC (hts (.fieldLink RX3 57 "StatementRules2$Machine" "place" "I") k_X3_steer_fieldLink_RX3_57_SR_Machine_place_I) (fun _ q9 => q9) dX3_steer_60 (fun H locs hC => ?_)
    refine lv_goto (tgt := 218) hx hb dX3_steer_63 (by decide) ?_
    obtain rfl := Option.some.inj hf
    exact W.vret hx hb hr (fun t ht hW => ⟨⟨(), rfl, trivial, ⟨by rw [ht]; exact hC.1, va_K.moved hW.alike hK, hC.2.1⟩, by rw [ht]; exact hC.2.2.2⟩, hC.2.2.1.F ht⟩) hC.2.2.1.2.2 dX3_steer_218
  replace hf := (if_neg c1).symm.trans hf
  by_cases c3 : x1 = 31
  ·
    replace hf := (if_pos c3).symm.trans hf
    refine lv_tableIn (off := 65) (tgt := 66) hx hb dX3_steer_1 (by rw [c3]; decide) (by rw [c3]; decide) (by rw [c3]; decide) (by decide) ?_
    refine lv_aload_n hx hb dX3_steer_66 rfl (lv_at hl 0 rfl) ?_
    refine lv_aload_n hx hb dX3_steer_67 rfl (lv_at hl 0 rfl) ?_
    obtain ⟨p4, hcp4, hf⟩ := hf_bind hf
    have mo5 : CS.hs σ ≤ CS.hs p4.2 := Mono.go hcp4 (m_X3_pop N σ)
    have hr9 : CS.hs p4.2 ≤ CS.hs R.2 := Mono.go hf (mono_ite (mono_bind (m_X3_goIf N p4.2 1 x2) (fun p13 => (m_X3_steer_83 N p13.2))) (mono_bind (m_X3_goIf N p4.2 0 x2) (fun p9 => (m_X3_steer_83 N p9.2))))
    have hFc := cFree hC hA
    refine va_calli (va_runV (As := []) (rest := [.ref (Q.o 7)]) ⟨hx, hb, hml, hown, hts⟩ (c_X3_pop l dC dI Q N σ p4 hcp4) (cwV 0 hts hX3_steer_X3_pop_v138 rfl rfl rfl (by decide +kernel) ⟨(show 2 + 1 ≤ 4 by omega), (show 8 + (1 + 11) + 60 * 2 ≤ 60 * 4 by omega)⟩) ⟨zPre.blind, va_recv hK hC.1 (ci := 2) (q0 := 7) rfl rfl, cPre_go hZ hK hC⟩ rfl rfl hl.1 rfl (lv_room (Nat.le_of_ble_eq_true rfl)) dX3_steer_68 (cAcc h0 mo5 hr9)) hC.2.2.1 (fun q _ h => hFc q h) hFc (fun r6 u9 t9 H1 locs ht hvm hw hB hz1 hk1 hS => ?_)
    obtain ⟨⟨hP, hK1, hD1⟩, hsz1⟩ := hB
    rw [ht] at hP hsz1
    have hC : CP dC dI Q A s.heap p4.2 H1 locs := ⟨hP, hD1.weaken (fun _ _ _ h => hFc _ h), hS, hsz1⟩
    generalize H1 = H at hC ⊢
    have h7 : (CS.hs σ) ≤ CS.hs p4.2 := Nat.le_trans h0 mo5
    refine W.widen (k := CS.hs p4.2 - (CS.hs σ)) (n := 17 * (CS.hs p4.2 - (CS.hs σ))) (cAcc2 h0 mo5) (cAcc3 h0 mo5) ?_
    obtain rfl : r6 = p4.1 := hw
    refine lv_if_ne (tgt := 78) hx hb dX3_steer_71 (by decide) (fun c8 => ?_) (fun c8 => ?_)
    ·
      replace hf := (if_neg c8).symm.trans hf
      refine lv_iconst (v := 0) hx hb dX3_steer_78 (by decide) ?_
      refine lv_iload_n hx hb dX3_steer_79 rfl (lv_at hl 2 rfl) ?_
      obtain ⟨p9, hcp9, hf⟩ := hf_bind hf
      have mo10 : CS.hs p4.2 ≤ CS.hs p9.2 := Mono.go hcp9 (m_X3_goIf N p4.2 0 x2)
      have hr9 : CS.hs p9.2 ≤ CS.hs R.2 := Mono.go hf (m_X3_steer_83 N p9.2)
      have hFc := cFree hC hA
      refine va_callv (va_runV (As := [.int 0, .int x2]) (rest := []) ⟨hx, hb, hml, hown, hts⟩ (c_X3_goIf l dC dI Q N p4.2 0 x2 p9 hcp9) (cwV 2 hts hX3_steer_X3_goIf_v156 rfl rfl rfl (by decide +kernel) ⟨(show 2 + 1 ≤ 4 by omega), (show 8 + (3 + 11) + 60 * 2 ≤ 60 * 4 by omega)⟩) ⟨zPre.blind, va_recv hK hC.1 (ci := 2) (q0 := 7) rfl rfl, cPre_go hZ hK hC⟩ rfl rfl hl.1 rfl (lv_room (Nat.le_of_ble_eq_true rfl)) dX3_steer_80 (cAcc h7 mo10 hr9)) hC.2.2.1 (fun q _ h => hFc q h) hFc (fun u9 t9 H1 locs ht hvm hw hB hz1 hk1 hS => ?_)
      obtain ⟨⟨hP, hK1, hD1⟩, hsz1⟩ := hB
      rw [ht] at hP hsz1
      have hC : CP dC dI Q A s.heap p9.2 H1 locs := ⟨hP, hD1.weaken (fun _ _ _ h => hFc _ h), hS, hsz1⟩
      generalize H1 = H at hC ⊢
      have h12 : (CS.hs σ) ≤ CS.hs p9.2 := Nat.le_trans h7 mo10
      refine W.widen (k := CS.hs p9.2 - (CS.hs σ)) (n := 17 * (CS.hs p9.2 - (CS.hs σ))) (cAcc2 h7 mo10) (cAcc3 h7 mo10) ?_
      exact j_X3_steer_83 l dC dI Q N (CS.hs σ) R hx hb hr hml hown hts hlocks hZ hA hK p9.2 _ _ _ hf h12 hC (lv_sub hl [] rfl)
    ·
      replace hf := (if_pos c8).symm.trans hf
      refine lv_iconst (v := 1) hx hb dX3_steer_74 (by decide) ?_
      refine lv_goto (tgt := 79) hx hb dX3_steer_75 (by decide) ?_
      refine lv_iload_n hx hb dX3_steer_79 rfl (lv_at hl 2 rfl) ?_
      obtain ⟨p13, hcp13, hf⟩ := hf_bind hf
      have mo14 : CS.hs p4.2 ≤ CS.hs p13.2 := Mono.go hcp13 (m_X3_goIf N p4.2 1 x2)
      have hr9 : CS.hs p13.2 ≤ CS.hs R.2 := Mono.go hf (m_X3_steer_83 N p13.2)
      have hFc := cFree hC hA
      refine va_callv (va_runV (As := [.int 1, .int x2]) (rest := []) ⟨hx, hb, hml, hown, hts⟩ (c_X3_goIf l dC dI Q N p4.2 1 x2 p13 hcp13) (cwV 2 hts hX3_steer_X3_goIf_v156 rfl rfl rfl (by decide +kernel) ⟨(show 2 + 1 ≤ 4 by omega), (show 8 + (3 + 11) + 60 * 2 ≤ 60 * 4 by omega)⟩) ⟨zPre.blind, va_recv hK hC.1 (ci := 2) (q0 := 7) rfl rfl, cPre_go hZ hK hC⟩ rfl rfl hl.1 rfl (lv_room (Nat.le_of_ble_eq_true rfl)) dX3_steer_80 (cAcc h7 mo14 hr9)) hC.2.2.1 (fun q _ h => hFc q h) hFc (fun u9 t9 H1 locs ht hvm hw hB hz1 hk1 hS => ?_)
      obtain ⟨⟨hP, hK1, hD1⟩, hsz1⟩ := hB
      rw [ht] at hP hsz1
      have hC : CP dC dI Q A s.heap p13.2 H1 locs := ⟨hP, hD1.weaken (fun _ _ _ h => hFc _ h), hS, hsz1⟩
      generalize H1 = H at hC ⊢
      have h16 : (CS.hs σ) ≤ CS.hs p13.2 := Nat.le_trans h7 mo14
      refine W.widen (k := CS.hs p13.2 - (CS.hs σ)) (n := 17 * (CS.hs p13.2 - (CS.hs σ))) (cAcc2 h7 mo14) (cAcc3 h7 mo14) ?_
      exact j_X3_steer_83 l dC dI Q N (CS.hs σ) R hx hb hr hml hown hts hlocks hZ hA hK p13.2 _ _ _ hf h16 hC (lv_sub hl [] rfl)
  replace hf := (if_neg c3).symm.trans hf
  by_cases c17 : x1 = 32
  ·
    replace hf := (if_pos c17).symm.trans hf
    refine lv_tableIn (off := 85) (tgt := 86) hx hb dX3_steer_1 (by rw [c17]; decide) (by rw [c17]; decide) (by rw [c17]; decide) (by decide) ?_
    refine lv_aload_n hx hb dX3_steer_86 rfl (lv_at hl 0 rfl) ?_
    refine lv_iload_n hx hb dX3_steer_87 rfl (lv_at hl 1 rfl) ?_
    refine lv_bipush (v := 33) hx hb dX3_steer_88 (by decide) ?_
    refine lv_icmp_ne (tgt := 97) hx hb dX3_steer_90 (by decide) (fun c18 => ?_) (fun c18 => ?_)
    ·
      replace hf := (if_neg c18).symm.trans hf
      refine lv_iconst (v := 0) hx hb dX3_steer_97 (by decide) ?_
      refine lv_iload_n hx hb dX3_steer_98 rfl (lv_at hl 2 rfl) ?_
      obtain ⟨p19, hcp19, hf⟩ := hf_bind hf
      have mo20 : CS.hs σ ≤ CS.hs p19.2 := Mono.go hcp19 (m_X3_keep N σ 0 x2)
      have hr9 : CS.hs p19.2 ≤ CS.hs R.2 := Mono.go hf (m_X3_steer_102 N p19.2)
      have hFc := cFree hC hA
      refine va_callv (va_runV (As := [.int 0, .int x2]) (rest := []) ⟨hx, hb, hml, hown, hts⟩ (c_X3_keep l dC dI Q N σ 0 x2 p19 hcp19) (cwV 2 hts hX3_steer_X3_keep_v160 rfl rfl rfl (by decide +kernel) ⟨(show 3 + 1 ≤ 4 by omega), (show 8 + (4 + 11) + 60 * 3 ≤ 60 * 4 by omega)⟩) ⟨zPre.blind, va_recv hK hC.1 (ci := 2) (q0 := 7) rfl rfl, cPre_go hZ hK hC⟩ rfl rfl hl.1 rfl (lv_room (Nat.le_of_ble_eq_true rfl)) dX3_steer_99 (cAcc h0 mo20 hr9)) hC.2.2.1 (fun q _ h => hFc q h) hFc (fun u9 t9 H1 locs ht hvm hw hB hz1 hk1 hS => ?_)
      obtain ⟨⟨hP, hK1, hD1⟩, hsz1⟩ := hB
      rw [ht] at hP hsz1
      have hC : CP dC dI Q A s.heap p19.2 H1 locs := ⟨hP, hD1.weaken (fun _ _ _ h => hFc _ h), hS, hsz1⟩
      generalize H1 = H at hC ⊢
      have h22 : (CS.hs σ) ≤ CS.hs p19.2 := Nat.le_trans h0 mo20
      refine W.widen (k := CS.hs p19.2 - (CS.hs σ)) (n := 17 * (CS.hs p19.2 - (CS.hs σ))) (cAcc2 h0 mo20) (cAcc3 h0 mo20) ?_
      exact j_X3_steer_102 l dC dI Q N (CS.hs σ) R hx hb hr hml hown hts hlocks hZ hA hK p19.2 _ _ _ hf h22 hC (lv_sub hl [] rfl)
    ·
      replace hf := (if_pos c18).symm.trans hf
      refine lv_iconst (v := 1) hx hb dX3_steer_93 (by decide) ?_
      refine lv_goto (tgt := 98) hx hb dX3_steer_94 (by decide) ?_
      refine lv_iload_n hx hb dX3_steer_98 rfl (lv_at hl 2 rfl) ?_
      obtain ⟨p23, hcp23, hf⟩ := hf_bind hf
      have mo24 : CS.hs σ ≤ CS.hs p23.2 := Mono.go hcp23 (m_X3_keep N σ 1 x2)
      have hr9 : CS.hs p23.2 ≤ CS.hs R.2 := Mono.go hf (m_X3_steer_102 N p23.2)
      have hFc := cFree hC hA
      refine va_callv (va_runV (As := [.int 1, .int x2]) (rest := []) ⟨hx, hb, hml, hown, hts⟩ (c_X3_keep l dC dI Q N σ 1 x2 p23 hcp23) (cwV 2 hts hX3_steer_X3_keep_v160 rfl rfl rfl (by decide +kernel) ⟨(show 3 + 1 ≤ 4 by omega), (show 8 + (4 + 11) + 60 * 3 ≤ 60 * 4 by omega)⟩) ⟨zPre.blind, va_recv hK hC.1 (ci := 2) (q0 := 7) rfl rfl, cPre_go hZ hK hC⟩ rfl rfl hl.1 rfl (lv_room (Nat.le_of_ble_eq_true rfl)) dX3_steer_99 (cAcc h0 mo24 hr9)) hC.2.2.1 (fun q _ h => hFc q h) hFc (fun u9 t9 H1 locs ht hvm hw hB hz1 hk1 hS => ?_)
      obtain ⟨⟨hP, hK1, hD1⟩, hsz1⟩ := hB
      rw [ht] at hP hsz1
      have hC : CP dC dI Q A s.heap p23.2 H1 locs := ⟨hP, hD1.weaken (fun _ _ _ h => hFc _ h), hS, hsz1⟩
      generalize H1 = H at hC ⊢
      have h26 : (CS.hs σ) ≤ CS.hs p23.2 := Nat.le_trans h0 mo24
      refine W.widen (k := CS.hs p23.2 - (CS.hs σ)) (n := 17 * (CS.hs p23.2 - (CS.hs σ))) (cAcc2 h0 mo24) (cAcc3 h0 mo24) ?_
      exact j_X3_steer_102 l dC dI Q N (CS.hs σ) R hx hb hr hml hown hts hlocks hZ hA hK p23.2 _ _ _ hf h26 hC (lv_sub hl [] rfl)
  replace hf := (if_neg c17).symm.trans hf
  by_cases c27 : x1 = 33
  ·
    replace hf := (if_pos c27).symm.trans hf
    refine lv_tableIn (off := 85) (tgt := 86) hx hb dX3_steer_1 (by rw [c27]; decide) (by rw [c27]; decide) (by rw [c27]; decide) (by decide) ?_
    refine lv_aload_n hx hb dX3_steer_86 rfl (lv_at hl 0 rfl) ?_
    refine lv_iload_n hx hb dX3_steer_87 rfl (lv_at hl 1 rfl) ?_
    refine lv_bipush (v := 33) hx hb dX3_steer_88 (by decide) ?_
    refine lv_icmp_ne (tgt := 97) hx hb dX3_steer_90 (by decide) (fun c9 => absurd c27 c9) (fun _ => ?_)
    refine lv_iconst (v := 1) hx hb dX3_steer_93 (by decide) ?_
    refine lv_goto (tgt := 98) hx hb dX3_steer_94 (by decide) ?_
    refine lv_iload_n hx hb dX3_steer_98 rfl (lv_at hl 2 rfl) ?_
    obtain ⟨p28, hcp28, hf⟩ := hf_bind hf
    have mo29 : CS.hs σ ≤ CS.hs p28.2 := Mono.go hcp28 (m_X3_keep N σ 1 x2)
    have hr9 : CS.hs p28.2 ≤ CS.hs R.2 := Mono.go hf (m_X3_steer_102 N p28.2)
    have hFc := cFree hC hA
    refine va_callv (va_runV (As := [.int 1, .int x2]) (rest := []) ⟨hx, hb, hml, hown, hts⟩ (c_X3_keep l dC dI Q N σ 1 x2 p28 hcp28) (cwV 2 hts hX3_steer_X3_keep_v160 rfl rfl rfl (by decide +kernel) ⟨(show 3 + 1 ≤ 4 by omega), (show 8 + (4 + 11) + 60 * 3 ≤ 60 * 4 by omega)⟩) ⟨zPre.blind, va_recv hK hC.1 (ci := 2) (q0 := 7) rfl rfl, cPre_go hZ hK hC⟩ rfl rfl hl.1 rfl (lv_room (Nat.le_of_ble_eq_true rfl)) dX3_steer_99 (cAcc h0 mo29 hr9)) hC.2.2.1 (fun q _ h => hFc q h) hFc (fun u9 t9 H1 locs ht hvm hw hB hz1 hk1 hS => ?_)
    obtain ⟨⟨hP, hK1, hD1⟩, hsz1⟩ := hB
    rw [ht] at hP hsz1
    have hC : CP dC dI Q A s.heap p28.2 H1 locs := ⟨hP, hD1.weaken (fun _ _ _ h => hFc _ h), hS, hsz1⟩
    generalize H1 = H at hC ⊢
    have h31 : (CS.hs σ) ≤ CS.hs p28.2 := Nat.le_trans h0 mo29
    refine W.widen (k := CS.hs p28.2 - (CS.hs σ)) (n := 17 * (CS.hs p28.2 - (CS.hs σ))) (cAcc2 h0 mo29) (cAcc3 h0 mo29) ?_
    exact j_X3_steer_102 l dC dI Q N (CS.hs σ) R hx hb hr hml hown hts hlocks hZ hA hK p28.2 _ _ _ hf h31 hC (lv_sub hl [] rfl)
  replace hf := (if_neg c27).symm.trans hf
  by_cases c32 : x1 = 34
  ·
    replace hf := (if_pos c32).symm.trans hf
    refine lv_tableIn (off := 104) (tgt := 105) hx hb dX3_steer_1 (by rw [c32]; decide) (by rw [c32]; decide) (by rw [c32]; decide) (by decide) ?_
    refine lv_aload_n hx hb dX3_steer_105 rfl (lv_at hl 0 rfl) ?_
    refine lv_iload_n hx hb dX3_steer_106 rfl (lv_at hl 2 rfl) ?_
    obtain ⟨p33, hcp33, hf⟩ := hf_bind hf
    have mo34 : CS.hs σ ≤ CS.hs p33.2 := Mono.go hcp33 (m_X3_compareCase N σ x2)
    have hr9 : CS.hs p33.2 ≤ CS.hs R.2 := Mono.go hf (mono_some (Nat.le_refl _))
    have hFc := cFree hC hA
    refine va_callv (va_runV (As := [.int x2]) (rest := []) ⟨hx, hb, hml, hown, hts⟩ (c_X3_compareCase l dC dI Q N σ x2 p33 hcp33) (cwV 1 hts hX3_steer_X3_compareCase_v163 rfl rfl rfl (by decide +kernel) ⟨(show 3 + 1 ≤ 4 by omega), (show 8 + (3 + 11) + 60 * 3 ≤ 60 * 4 by omega)⟩) ⟨zPre.blind, va_recv hK hC.1 (ci := 2) (q0 := 7) rfl rfl, cPre_go hZ hK hC⟩ rfl rfl hl.1 rfl (lv_room (Nat.le_of_ble_eq_true rfl)) dX3_steer_107 (cAcc h0 mo34 hr9)) hC.2.2.1 (fun q _ h => hFc q h) hFc (fun u9 t9 H1 locs ht hvm hw hB hz1 hk1 hS => ?_)
    obtain ⟨⟨hP, hK1, hD1⟩, hsz1⟩ := hB
    rw [ht] at hP hsz1
    have hC : CP dC dI Q A s.heap p33.2 H1 locs := ⟨hP, hD1.weaken (fun _ _ _ h => hFc _ h), hS, hsz1⟩
    generalize H1 = H at hC ⊢
    have h36 : (CS.hs σ) ≤ CS.hs p33.2 := Nat.le_trans h0 mo34
    refine W.widen (k := CS.hs p33.2 - (CS.hs σ)) (n := 17 * (CS.hs p33.2 - (CS.hs σ))) (cAcc2 h0 mo34) (cAcc3 h0 mo34) ?_
    refine lv_goto (tgt := 218) hx hb dX3_steer_110 (by decide) ?_
    obtain rfl := Option.some.inj hf
    exact W.vret hx hb hr (fun t ht hW => ⟨⟨(), rfl, trivial, ⟨by rw [ht]; exact hC.1, va_K.moved hW.alike hK, hC.2.1⟩, by rw [ht]; exact hC.2.2.2⟩, hC.2.2.1.F ht⟩) hC.2.2.1.2.2 dX3_steer_218
  replace hf := (if_neg c32).symm.trans hf
  by_cases c37 : x1 = 35
  ·
    replace hf := (if_pos c37).symm.trans hf
    refine lv_tableIn (off := 112) (tgt := 113) hx hb dX3_steer_1 (by rw [c37]; decide) (by rw [c37]; decide) (by rw [c37]; decide) (by decide) ?_
    refine lv_aload_n hx hb dX3_steer_113 rfl (lv_at hl 0 rfl) ?_
    refine lv_aload_n hx hb dX3_steer_114 rfl (lv_at hl 0 rfl) ?_
    refine cG_57 hx hb hts i_X3_steer_X3 hown hK hC (hts (.fieldLink RX3 36 "StatementRules2$Machine" "told" "LStatementRules2$Told;") k_X3_steer_fieldLink_RX3_36_SR_Machine_told_LSR_Told) (fun _ q9 => q9) dX3_steer_115 ?_
    refine cGN_14 (v := (σ.i 14)) hx hb hts i_X3_steer_X10 hown hK hC (va_Nw.use rfl (hZ.1 (.fieldLinkNest RX3 166 "StatementRules2$Told" "assertsOn" "Z" "StatementRules2") (by decide +kernel))) (fun _ q9 => q9) dX3_steer_118 rfl ?_
    refine lv_if_ne (tgt := 128) hx hb dX3_steer_121 (by decide) (fun c38 => ?_) (fun c38 => ?_)
    ·
      replace hf := (if_neg c38).symm.trans hf
      refine lv_iconst (v := 0) hx hb dX3_steer_128 (by decide) ?_
      refine lv_iload_n hx hb dX3_steer_129 rfl (lv_at hl 2 rfl) ?_
      obtain ⟨p39, hcp39, hf⟩ := hf_bind hf
      have mo40 : CS.hs σ ≤ CS.hs p39.2 := Mono.go hcp39 (m_X3_goIf N σ 0 x2)
      have hr9 : CS.hs p39.2 ≤ CS.hs R.2 := Mono.go hf (m_X3_steer_133 N p39.2)
      have hFc := cFree hC hA
      refine va_callv (va_runV (As := [.int 0, .int x2]) (rest := []) ⟨hx, hb, hml, hown, hts⟩ (c_X3_goIf l dC dI Q N σ 0 x2 p39 hcp39) (cwV 2 hts hX3_steer_X3_goIf_v156 rfl rfl rfl (by decide +kernel) ⟨(show 2 + 1 ≤ 4 by omega), (show 8 + (3 + 11) + 60 * 2 ≤ 60 * 4 by omega)⟩) ⟨zPre.blind, va_recv hK hC.1 (ci := 2) (q0 := 7) rfl rfl, cPre_go hZ hK hC⟩ rfl rfl hl.1 rfl (lv_room (Nat.le_of_ble_eq_true rfl)) dX3_steer_130 (cAcc h0 mo40 hr9)) hC.2.2.1 (fun q _ h => hFc q h) hFc (fun u9 t9 H1 locs ht hvm hw hB hz1 hk1 hS => ?_)
      obtain ⟨⟨hP, hK1, hD1⟩, hsz1⟩ := hB
      rw [ht] at hP hsz1
      have hC : CP dC dI Q A s.heap p39.2 H1 locs := ⟨hP, hD1.weaken (fun _ _ _ h => hFc _ h), hS, hsz1⟩
      generalize H1 = H at hC ⊢
      have h42 : (CS.hs σ) ≤ CS.hs p39.2 := Nat.le_trans h0 mo40
      refine W.widen (k := CS.hs p39.2 - (CS.hs σ)) (n := 17 * (CS.hs p39.2 - (CS.hs σ))) (cAcc2 h0 mo40) (cAcc3 h0 mo40) ?_
      exact j_X3_steer_133 l dC dI Q N (CS.hs σ) R hx hb hr hml hown hts hlocks hZ hA hK p39.2 _ _ _ hf h42 hC (lv_sub hl [] rfl)
    ·
      replace hf := (if_pos c38).symm.trans hf
      refine lv_iconst (v := 1) hx hb dX3_steer_124 (by decide) ?_
      refine lv_goto (tgt := 129) hx hb dX3_steer_125 (by decide) ?_
      refine lv_iload_n hx hb dX3_steer_129 rfl (lv_at hl 2 rfl) ?_
      obtain ⟨p43, hcp43, hf⟩ := hf_bind hf
      have mo44 : CS.hs σ ≤ CS.hs p43.2 := Mono.go hcp43 (m_X3_goIf N σ 1 x2)
      have hr9 : CS.hs p43.2 ≤ CS.hs R.2 := Mono.go hf (m_X3_steer_133 N p43.2)
      have hFc := cFree hC hA
      refine va_callv (va_runV (As := [.int 1, .int x2]) (rest := []) ⟨hx, hb, hml, hown, hts⟩ (c_X3_goIf l dC dI Q N σ 1 x2 p43 hcp43) (cwV 2 hts hX3_steer_X3_goIf_v156 rfl rfl rfl (by decide +kernel) ⟨(show 2 + 1 ≤ 4 by omega), (show 8 + (3 + 11) + 60 * 2 ≤ 60 * 4 by omega)⟩) ⟨zPre.blind, va_recv hK hC.1 (ci := 2) (q0 := 7) rfl rfl, cPre_go hZ hK hC⟩ rfl rfl hl.1 rfl (lv_room (Nat.le_of_ble_eq_true rfl)) dX3_steer_130 (cAcc h0 mo44 hr9)) hC.2.2.1 (fun q _ h => hFc q h) hFc (fun u9 t9 H1 locs ht hvm hw hB hz1 hk1 hS => ?_)
      obtain ⟨⟨hP, hK1, hD1⟩, hsz1⟩ := hB
      rw [ht] at hP hsz1
      have hC : CP dC dI Q A s.heap p43.2 H1 locs := ⟨hP, hD1.weaken (fun _ _ _ h => hFc _ h), hS, hsz1⟩
      generalize H1 = H at hC ⊢
      have h46 : (CS.hs σ) ≤ CS.hs p43.2 := Nat.le_trans h0 mo44
      refine W.widen (k := CS.hs p43.2 - (CS.hs σ)) (n := 17 * (CS.hs p43.2 - (CS.hs σ))) (cAcc2 h0 mo44) (cAcc3 h0 mo44) ?_
      exact j_X3_steer_133 l dC dI Q N (CS.hs σ) R hx hb hr hml hown hts hlocks hZ hA hK p43.2 _ _ _ hf h46 hC (lv_sub hl [] rfl)
  replace hf := (if_neg c37).symm.trans hf
  by_cases c47 : x1 = 36
  ·
    replace hf := (if_pos c47).symm.trans hf
    refine lv_tableIn (off := 135) (tgt := 136) hx hb dX3_steer_1 (by rw [c47]; decide) (by rw [c47]; decide) (by rw [c47]; decide) (by decide) ?_
    refine lv_aload_n hx hb dX3_steer_136 rfl (lv_at hl 0 rfl) ?_
    refine lv_iload_n hx hb dX3_steer_137 rfl (lv_at hl 2 rfl) ?_
    obtain ⟨p48, hcp48, hf⟩ := hf_bind hf
    have mo49 : CS.hs σ ≤ CS.hs p48.2 := Mono.go hcp48 (m_X3_fillRow N σ x2)
    have hr9 : CS.hs p48.2 ≤ CS.hs R.2 := Mono.go hf (mono_some (Nat.le_refl _))
    have hFc := cFree hC hA
    refine va_callv (va_runV (As := [.int x2]) (rest := []) ⟨hx, hb, hml, hown, hts⟩ (c_X3_fillRow l dC dI Q N σ x2 p48 hcp48) (cwV 1 hts hX3_steer_X3_fillRow_v172 rfl rfl rfl (by decide +kernel) ⟨(show 3 + 1 ≤ 4 by omega), (show 8 + (4 + 11) + 60 * 3 ≤ 60 * 4 by omega)⟩) ⟨zPre.blind, va_recv hK hC.1 (ci := 2) (q0 := 7) rfl rfl, cPre_go hZ hK hC⟩ rfl rfl hl.1 rfl (lv_room (Nat.le_of_ble_eq_true rfl)) dX3_steer_138 (cAcc h0 mo49 hr9)) hC.2.2.1 (fun q _ h => hFc q h) hFc (fun u9 t9 H1 locs ht hvm hw hB hz1 hk1 hS => ?_)
    obtain ⟨⟨hP, hK1, hD1⟩, hsz1⟩ := hB
    rw [ht] at hP hsz1
    have hC : CP dC dI Q A s.heap p48.2 H1 locs := ⟨hP, hD1.weaken (fun _ _ _ h => hFc _ h), hS, hsz1⟩
    generalize H1 = H at hC ⊢
    have h51 : (CS.hs σ) ≤ CS.hs p48.2 := Nat.le_trans h0 mo49
    refine W.widen (k := CS.hs p48.2 - (CS.hs σ)) (n := 17 * (CS.hs p48.2 - (CS.hs σ))) (cAcc2 h0 mo49) (cAcc3 h0 mo49) ?_
    refine lv_goto (tgt := 218) hx hb dX3_steer_141 (by decide) ?_
    obtain rfl := Option.some.inj hf
    exact W.vret hx hb hr (fun t ht hW => ⟨⟨(), rfl, trivial, ⟨by rw [ht]; exact hC.1, va_K.moved hW.alike hK, hC.2.1⟩, by rw [ht]; exact hC.2.2.2⟩, hC.2.2.1.F ht⟩) hC.2.2.1.2.2 dX3_steer_218
  replace hf := (if_neg c47).symm.trans hf
  by_cases c52 : x1 = 37
  ·
    replace hf := (if_pos c52).symm.trans hf
    refine lv_tableIn (off := 143) (tgt := 144) hx hb dX3_steer_1 (by rw [c52]; decide) (by rw [c52]; decide) (by rw [c52]; decide) (by decide) ?_
    refine lv_aload_n hx hb dX3_steer_144 rfl (lv_at hl 0 rfl) ?_
    refine lv_aload_n hx hb dX3_steer_145 rfl (lv_at hl 0 rfl) ?_
    refine cG_59 hx hb hts i_X3_steer_X3 hown hK hC (hts (.fieldLink RX3 9 "StatementRules2$Machine" "cells" "[I") k_X3_steer_fieldLink_RX3_9_SR_Machine_cells_I) (fun _ q9 => q9) dX3_steer_146 ?_
    refine lv_iload_n hx hb dX3_steer_149 rfl (lv_at hl 2 rfl) ?_
    have he9 := (cArr_59 (Q := Q) (σ := σ))
    have hFc := cFree1 hC hA he9
    have hr9 : CS.hs σ ≤ CS.hs R.2 := Mono.go hf (mono_ite (mono_bind (m_X3_push N σ 0) (fun p56 => (m_X3_steer_174 N p56.2))) (mono_bind (m_X3_push N σ 1) (fun p60 => (m_X3_steer_174 N p60.2))))
    refine va_calli (va_runSN (As := [.ref (Q.q 59), .int x2]) (rest := [.ref (Q.o 7)]) ⟨hx, hb, hml, hown, hts⟩ (c_X11_at l dC dI _ (Q.q 59) (Q.c 0) 720 (σ.a 59) x2 (by decide)) ⟨va_cnB 2 hts hX3_steer_X11_at_n111 rfl rfl rfl (hZ.1 (.methodLinkNest RX3 111 yX11_at "StatementRules2") (by decide +kernel)) (hts (.initialized RX11) k_X3_steer_initialized_RX11) (by decide +kernel) ⟨(show 1 + 1 ≤ 4 by omega), (show 8 + (2 + 11) + 60 * 1 ≤ 60 * 4 by omega)⟩, (hts (.static yX11_at) k_X3_steer_static_yX11_at), trivial⟩ ⟨zPre.blind, zPre.go hZ (cOne hC.1 he9) (hK.sub (tys' := [(Q.c 0, .int)]) [0] rfl) (cOneD hC.2.1 he9)⟩ rfl rfl hl.1 rfl (lv_room (Nat.le_of_ble_eq_true rfl)) dX3_steer_150 ⟨cAcc4 h0 hr9, cAcc5 h0 hr9⟩) hC.2.2.1 (fun q _ h => hFc q h) hFc (fun r53 u9 t9 H1 locs ht hvm hw hB hz1 hk1 hS => ?_)
    obtain ⟨⟨hP1, hK1, hD1⟩, hsz1⟩ := hB
    rw [ht] at hP1 hsz1
    have hC := cBack (σ' := σ) hC he9 (cSelf he9) (Eq.refl (CS.hs σ)) hk1 hP1 hsz1 hS
    generalize H1 = H at hC ⊢
    obtain rfl : r53 = (gAt (σ.a 59) 720 x2) := hw
    refine lv_aload_n hx hb dX3_steer_153 rfl (lv_at hl 0 rfl) ?_
    refine cG_59 hx hb hts i_X3_steer_X3 hown hK hC (hts (.fieldLink RX3 9 "StatementRules2$Machine" "cells" "[I") k_X3_steer_fieldLink_RX3_9_SR_Machine_cells_I) (fun _ q9 => q9) dX3_steer_154 ?_
    refine lv_iload_n hx hb dX3_steer_157 rfl (lv_at hl 2 rfl) ?_
    refine lv_iconst (v := 1) hx hb dX3_steer_158 (by decide) ?_
    refine lv_iadd hx hb dX3_steer_159 ?_
    have he9 := (cArr_59 (Q := Q) (σ := σ))
    have hFc := cFree1 hC hA he9
    have hr9 : CS.hs σ ≤ CS.hs R.2 := Mono.go hf (mono_ite (mono_bind (m_X3_push N σ 0) (fun p56 => (m_X3_steer_174 N p56.2))) (mono_bind (m_X3_push N σ 1) (fun p60 => (m_X3_steer_174 N p60.2))))
    refine va_calli (va_runSN (As := [.ref (Q.q 59), .int (x2 + 1)]) (rest := [.int (gAt (σ.a 59) 720 x2), .ref (Q.o 7)]) ⟨hx, hb, hml, hown, hts⟩ (c_X11_at l dC dI _ (Q.q 59) (Q.c 0) 720 (σ.a 59) (x2 + 1) (by decide)) ⟨va_cnB 2 hts hX3_steer_X11_at_n111 rfl rfl rfl (hZ.1 (.methodLinkNest RX3 111 yX11_at "StatementRules2") (by decide +kernel)) (hts (.initialized RX11) k_X3_steer_initialized_RX11) (by decide +kernel) ⟨(show 1 + 1 ≤ 4 by omega), (show 8 + (2 + 11) + 60 * 1 ≤ 60 * 4 by omega)⟩, (hts (.static yX11_at) k_X3_steer_static_yX11_at), trivial⟩ ⟨zPre.blind, zPre.go hZ (cOne hC.1 he9) (hK.sub (tys' := [(Q.c 0, .int)]) [0] rfl) (cOneD hC.2.1 he9)⟩ rfl rfl hl.1 rfl (lv_room (Nat.le_of_ble_eq_true rfl)) dX3_steer_160 ⟨cAcc4 h0 hr9, cAcc5 h0 hr9⟩) hC.2.2.1 (fun q _ h => hFc q h) hFc (fun r54 u9 t9 H1 locs ht hvm hw hB hz1 hk1 hS => ?_)
    obtain ⟨⟨hP1, hK1, hD1⟩, hsz1⟩ := hB
    rw [ht] at hP1 hsz1
    have hC := cBack (σ' := σ) hC he9 (cSelf he9) (Eq.refl (CS.hs σ)) hk1 hP1 hsz1 hS
    generalize H1 = H at hC ⊢
    obtain rfl : r54 = (gAt (σ.a 59) 720 (x2 + 1)) := hw
    refine lv_icmp_ge (tgt := 170) hx hb dX3_steer_163 (by decide) (fun c55 => ?_) (fun c55 => ?_)
    ·
      replace hf := (if_pos c55).symm.trans hf
      refine lv_iconst (v := 0) hx hb dX3_steer_170 (by decide) ?_
      obtain ⟨p56, hcp56, hf⟩ := hf_bind hf
      have mo57 : CS.hs σ ≤ CS.hs p56.2 := Mono.go hcp56 (m_X3_push N σ 0)
      have hr9 : CS.hs p56.2 ≤ CS.hs R.2 := Mono.go hf (m_X3_steer_174 N p56.2)
      have hFc := cFree hC hA
      refine va_callv (va_runV (As := [.int 0]) (rest := []) ⟨hx, hb, hml, hown, hts⟩ (c_X3_push l dC dI Q N σ 0 p56 hcp56) (cwV 1 hts hX3_steer_X3_push_v135 rfl rfl rfl (by decide +kernel) ⟨(show 2 + 1 ≤ 4 by omega), (show 8 + (2 + 11) + 60 * 2 ≤ 60 * 4 by omega)⟩) ⟨zPre.blind, va_recv hK hC.1 (ci := 2) (q0 := 7) rfl rfl, cPre_go hZ hK hC⟩ rfl rfl hl.1 rfl (lv_room (Nat.le_of_ble_eq_true rfl)) dX3_steer_171 (cAcc h0 mo57 hr9)) hC.2.2.1 (fun q _ h => hFc q h) hFc (fun u9 t9 H1 locs ht hvm hw hB hz1 hk1 hS => ?_)
      obtain ⟨⟨hP, hK1, hD1⟩, hsz1⟩ := hB
      rw [ht] at hP hsz1
      have hC : CP dC dI Q A s.heap p56.2 H1 locs := ⟨hP, hD1.weaken (fun _ _ _ h => hFc _ h), hS, hsz1⟩
      generalize H1 = H at hC ⊢
      have h59 : (CS.hs σ) ≤ CS.hs p56.2 := Nat.le_trans h0 mo57
      refine W.widen (k := CS.hs p56.2 - (CS.hs σ)) (n := 17 * (CS.hs p56.2 - (CS.hs σ))) (cAcc2 h0 mo57) (cAcc3 h0 mo57) ?_
      exact j_X3_steer_174 l dC dI Q N (CS.hs σ) R hx hb hr hml hown hts hlocks hZ hA hK p56.2 _ _ _ hf h59 hC (lv_sub hl [] rfl)
    ·
      replace hf := (if_neg c55).symm.trans hf
      refine lv_iconst (v := 1) hx hb dX3_steer_166 (by decide) ?_
      refine lv_goto (tgt := 171) hx hb dX3_steer_167 (by decide) ?_
      obtain ⟨p60, hcp60, hf⟩ := hf_bind hf
      have mo61 : CS.hs σ ≤ CS.hs p60.2 := Mono.go hcp60 (m_X3_push N σ 1)
      have hr9 : CS.hs p60.2 ≤ CS.hs R.2 := Mono.go hf (m_X3_steer_174 N p60.2)
      have hFc := cFree hC hA
      refine va_callv (va_runV (As := [.int 1]) (rest := []) ⟨hx, hb, hml, hown, hts⟩ (c_X3_push l dC dI Q N σ 1 p60 hcp60) (cwV 1 hts hX3_steer_X3_push_v135 rfl rfl rfl (by decide +kernel) ⟨(show 2 + 1 ≤ 4 by omega), (show 8 + (2 + 11) + 60 * 2 ≤ 60 * 4 by omega)⟩) ⟨zPre.blind, va_recv hK hC.1 (ci := 2) (q0 := 7) rfl rfl, cPre_go hZ hK hC⟩ rfl rfl hl.1 rfl (lv_room (Nat.le_of_ble_eq_true rfl)) dX3_steer_171 (cAcc h0 mo61 hr9)) hC.2.2.1 (fun q _ h => hFc q h) hFc (fun u9 t9 H1 locs ht hvm hw hB hz1 hk1 hS => ?_)
      obtain ⟨⟨hP, hK1, hD1⟩, hsz1⟩ := hB
      rw [ht] at hP hsz1
      have hC : CP dC dI Q A s.heap p60.2 H1 locs := ⟨hP, hD1.weaken (fun _ _ _ h => hFc _ h), hS, hsz1⟩
      generalize H1 = H at hC ⊢
      have h63 : (CS.hs σ) ≤ CS.hs p60.2 := Nat.le_trans h0 mo61
      refine W.widen (k := CS.hs p60.2 - (CS.hs σ)) (n := 17 * (CS.hs p60.2 - (CS.hs σ))) (cAcc2 h0 mo61) (cAcc3 h0 mo61) ?_
      exact j_X3_steer_174 l dC dI Q N (CS.hs σ) R hx hb hr hml hown hts hlocks hZ hA hK p60.2 _ _ _ hf h63 hC (lv_sub hl [] rfl)
  replace hf := (if_neg c52).symm.trans hf
  refine lv_tableOut (tgt := 177) hx hb dX3_steer_1 (by have := z_ton (a := 30) c1 (by decide); have := z_ton (a := 31) c3 (by decide); have := z_ton (a := 32) c17 (by decide); have := z_ton (a := 33) c27 (by decide); have := z_ton (a := 34) c32 (by decide); have := z_ton (a := 35) c37 (by decide); have := z_ton (a := 36) c47 (by decide); have := z_ton (a := 37) c52 (by decide); omega) (by decide) ?_
  refine lv_aload_n hx hb dX3_steer_177 rfl (lv_at hl 0 rfl) ?_
  refine lv_aload_n hx hb dX3_steer_178 rfl (lv_at hl 0 rfl) ?_
  refine cG_59 hx hb hts i_X3_steer_X3 hown hK hC (hts (.fieldLink RX3 9 "StatementRules2$Machine" "cells" "[I") k_X3_steer_fieldLink_RX3_9_SR_Machine_cells_I) (fun _ q9 => q9) dX3_steer_179 ?_
  refine lv_iload_n hx hb dX3_steer_182 rfl (lv_at hl 2 rfl) ?_
  refine lv_iconst (v := 2) hx hb dX3_steer_183 (by decide) ?_
  refine lv_iadd hx hb dX3_steer_184 ?_
  refine lv_aload_n hx hb dX3_steer_185 rfl (lv_at hl 0 rfl) ?_
  refine cG_59 hx hb hts i_X3_steer_X3 hown hK hC (hts (.fieldLink RX3 9 "StatementRules2$Machine" "cells" "[I") k_X3_steer_fieldLink_RX3_9_SR_Machine_cells_I) (fun _ q9 => q9) dX3_steer_186 ?_
  refine lv_iload_n hx hb dX3_steer_189 rfl (lv_at hl 2 rfl) ?_
  have he9 := (cArr_59 (Q := Q) (σ := σ))
  have hFc := cFree1 hC hA he9
  have hr9 : CS.hs σ ≤ CS.hs R.2 := Mono.go hf (mono_bind (m_X3_push N σ (gAt (σ.a 59) 720 ((x2 + 2) + (gAt (σ.a 59) 720 x2)))) (fun p66 => (mono_some (Nat.le_refl _))))
  refine va_calli (va_runSN (As := [.ref (Q.q 59), .int x2]) (rest := [.int (x2 + 2), .ref (Q.q 59), .ref (Q.o 7)]) ⟨hx, hb, hml, hown, hts⟩ (c_X11_at l dC dI _ (Q.q 59) (Q.c 0) 720 (σ.a 59) x2 (by decide)) ⟨va_cnB 2 hts hX3_steer_X11_at_n111 rfl rfl rfl (hZ.1 (.methodLinkNest RX3 111 yX11_at "StatementRules2") (by decide +kernel)) (hts (.initialized RX11) k_X3_steer_initialized_RX11) (by decide +kernel) ⟨(show 1 + 1 ≤ 4 by omega), (show 8 + (2 + 11) + 60 * 1 ≤ 60 * 4 by omega)⟩, (hts (.static yX11_at) k_X3_steer_static_yX11_at), trivial⟩ ⟨zPre.blind, zPre.go hZ (cOne hC.1 he9) (hK.sub (tys' := [(Q.c 0, .int)]) [0] rfl) (cOneD hC.2.1 he9)⟩ rfl rfl hl.1 rfl (lv_room (Nat.le_of_ble_eq_true rfl)) dX3_steer_190 ⟨cAcc4 h0 hr9, cAcc5 h0 hr9⟩) hC.2.2.1 (fun q _ h => hFc q h) hFc (fun r64 u9 t9 H1 locs ht hvm hw hB hz1 hk1 hS => ?_)
  obtain ⟨⟨hP1, hK1, hD1⟩, hsz1⟩ := hB
  rw [ht] at hP1 hsz1
  have hC := cBack (σ' := σ) hC he9 (cSelf he9) (Eq.refl (CS.hs σ)) hk1 hP1 hsz1 hS
  generalize H1 = H at hC ⊢
  obtain rfl : r64 = (gAt (σ.a 59) 720 x2) := hw
  refine lv_iadd hx hb dX3_steer_193 ?_
  have he9 := (cArr_59 (Q := Q) (σ := σ))
  have hFc := cFree1 hC hA he9
  have hr9 : CS.hs σ ≤ CS.hs R.2 := Mono.go hf (mono_bind (m_X3_push N σ (gAt (σ.a 59) 720 ((x2 + 2) + (gAt (σ.a 59) 720 x2)))) (fun p66 => (mono_some (Nat.le_refl _))))
  refine va_calli (va_runSN (As := [.ref (Q.q 59), .int ((x2 + 2) + (gAt (σ.a 59) 720 x2))]) (rest := [.ref (Q.o 7)]) ⟨hx, hb, hml, hown, hts⟩ (c_X11_at l dC dI _ (Q.q 59) (Q.c 0) 720 (σ.a 59) ((x2 + 2) + (gAt (σ.a 59) 720 x2)) (by decide)) ⟨va_cnB 2 hts hX3_steer_X11_at_n111 rfl rfl rfl (hZ.1 (.methodLinkNest RX3 111 yX11_at "StatementRules2") (by decide +kernel)) (hts (.initialized RX11) k_X3_steer_initialized_RX11) (by decide +kernel) ⟨(show 1 + 1 ≤ 4 by omega), (show 8 + (2 + 11) + 60 * 1 ≤ 60 * 4 by omega)⟩, (hts (.static yX11_at) k_X3_steer_static_yX11_at), trivial⟩ ⟨zPre.blind, zPre.go hZ (cOne hC.1 he9) (hK.sub (tys' := [(Q.c 0, .int)]) [0] rfl) (cOneD hC.2.1 he9)⟩ rfl rfl hl.1 rfl (lv_room (Nat.le_of_ble_eq_true rfl)) dX3_steer_194 ⟨cAcc4 h0 hr9, cAcc5 h0 hr9⟩) hC.2.2.1 (fun q _ h => hFc q h) hFc (fun r65 u9 t9 H1 locs ht hvm hw hB hz1 hk1 hS => ?_)
  obtain ⟨⟨hP1, hK1, hD1⟩, hsz1⟩ := hB
  rw [ht] at hP1 hsz1
  have hC := cBack (σ' := σ) hC he9 (cSelf he9) (Eq.refl (CS.hs σ)) hk1 hP1 hsz1 hS
  generalize H1 = H at hC ⊢
  obtain rfl : r65 = (gAt (σ.a 59) 720 ((x2 + 2) + (gAt (σ.a 59) 720 x2))) := hw
  obtain ⟨p66, hcp66, hf⟩ := hf_bind hf
  have mo67 : CS.hs σ ≤ CS.hs p66.2 := Mono.go hcp66 (m_X3_push N σ (gAt (σ.a 59) 720 ((x2 + 2) + (gAt (σ.a 59) 720 x2))))
  have hr9 : CS.hs p66.2 ≤ CS.hs R.2 := Mono.go hf (mono_some (Nat.le_refl _))
  have hFc := cFree hC hA
  refine va_callv (va_runV (As := [.int (gAt (σ.a 59) 720 ((x2 + 2) + (gAt (σ.a 59) 720 x2)))]) (rest := []) ⟨hx, hb, hml, hown, hts⟩ (c_X3_push l dC dI Q N σ (gAt (σ.a 59) 720 ((x2 + 2) + (gAt (σ.a 59) 720 x2))) p66 hcp66) (cwV 1 hts hX3_steer_X3_push_v135 rfl rfl rfl (by decide +kernel) ⟨(show 2 + 1 ≤ 4 by omega), (show 8 + (2 + 11) + 60 * 2 ≤ 60 * 4 by omega)⟩) ⟨zPre.blind, va_recv hK hC.1 (ci := 2) (q0 := 7) rfl rfl, cPre_go hZ hK hC⟩ rfl rfl hl.1 rfl (lv_room (Nat.le_of_ble_eq_true rfl)) dX3_steer_197 (cAcc h0 mo67 hr9)) hC.2.2.1 (fun q _ h => hFc q h) hFc (fun u9 t9 H1 locs ht hvm hw hB hz1 hk1 hS => ?_)
  obtain ⟨⟨hP, hK1, hD1⟩, hsz1⟩ := hB
  rw [ht] at hP hsz1
  have hC : CP dC dI Q A s.heap p66.2 H1 locs := ⟨hP, hD1.weaken (fun _ _ _ h => hFc _ h), hS, hsz1⟩
  generalize H1 = H at hC ⊢
  have h69 : (CS.hs σ) ≤ CS.hs p66.2 := Nat.le_trans h0 mo67
  refine W.widen (k := CS.hs p66.2 - (CS.hs σ)) (n := 17 * (CS.hs p66.2 - (CS.hs σ))) (cAcc2 h0 mo67) (cAcc3 h0 mo67) ?_
  refine lv_aload_n hx hb dX3_steer_200 rfl (lv_at hl 0 rfl) ?_
  refine cG_59 hx hb hts i_X3_steer_X3 hown hK hC (hts (.fieldLink RX3 9 "StatementRules2$Machine" "cells" "[I") k_X3_steer_fieldLink_RX3_9_SR_Machine_cells_I) (fun _ q9 => q9) dX3_steer_201 ?_
  refine lv_iload_n hx hb dX3_steer_204 rfl (lv_at hl 2 rfl) ?_
  refine lv_aload_n hx hb dX3_steer_205 rfl (lv_at hl 0 rfl) ?_
  refine cG_59 hx hb hts i_X3_steer_X3 hown hK hC (hts (.fieldLink RX3 9 "StatementRules2$Machine" "cells" "[I") k_X3_steer_fieldLink_RX3_9_SR_Machine_cells_I) (fun _ q9 => q9) dX3_steer_206 ?_
  refine lv_iload_n hx hb dX3_steer_209 rfl (lv_at hl 2 rfl) ?_
  have he9 := (cArr_59 (Q := Q) (σ := p66.2))
  have hFc := cFree1 hC hA he9
  have hr9 : CS.hs p66.2 ≤ CS.hs R.2 := Mono.go hf (mono_some (Nat.le_refl _))
  refine va_calli (va_runSN (As := [.ref (Q.q 59), .int x2]) (rest := [.int x2, .ref (Q.q 59)]) ⟨hx, hb, hml, hown, hts⟩ (c_X11_at l dC dI _ (Q.q 59) (Q.c 0) 720 (p66.2.a 59) x2 (by decide)) ⟨va_cnB 2 hts hX3_steer_X11_at_n111 rfl rfl rfl (hZ.1 (.methodLinkNest RX3 111 yX11_at "StatementRules2") (by decide +kernel)) (hts (.initialized RX11) k_X3_steer_initialized_RX11) (by decide +kernel) ⟨(show 1 + 1 ≤ 4 by omega), (show 8 + (2 + 11) + 60 * 1 ≤ 60 * 4 by omega)⟩, (hts (.static yX11_at) k_X3_steer_static_yX11_at), trivial⟩ ⟨zPre.blind, zPre.go hZ (cOne hC.1 he9) (hK.sub (tys' := [(Q.c 0, .int)]) [0] rfl) (cOneD hC.2.1 he9)⟩ rfl rfl hl.1 rfl (lv_room (Nat.le_of_ble_eq_true rfl)) dX3_steer_210 ⟨cAcc4 h69 hr9, cAcc5 h69 hr9⟩) hC.2.2.1 (fun q _ h => hFc q h) hFc (fun r70 u9 t9 H1 locs ht hvm hw hB hz1 hk1 hS => ?_)
  obtain ⟨⟨hP1, hK1, hD1⟩, hsz1⟩ := hB
  rw [ht] at hP1 hsz1
  have hC := cBack (σ' := p66.2) hC he9 (cSelf he9) (Eq.refl (CS.hs p66.2)) hk1 hP1 hsz1 hS
  generalize H1 = H at hC ⊢
  obtain rfl : r70 = (gAt (p66.2.a 59) 720 x2) := hw
  refine lv_iconst (v := 1) hx hb dX3_steer_213 (by decide) ?_
  refine lv_iadd hx hb dX3_steer_214 ?_
  have he9 := (cArr_59 (Q := Q) (σ := p66.2))
  have hFc := cFree1 hC hA he9
  have hr9 : CS.hs p66.2 ≤ CS.hs R.2 := Mono.go hf (mono_some (Nat.le_refl _))
  refine va_callv (va_runSN (As := [.ref (Q.q 59), .int x2, .int ((gAt (p66.2.a 59) 720 x2) + 1)]) (rest := []) ⟨hx, hb, hml, hown, hts⟩ (c_X11_put l dC dI _ (Q.q 59) (Q.c 0) 720 (p66.2.a 59) x2 ((gAt (p66.2.a 59) 720 x2) + 1) (by decide)) ⟨va_cnB 3 hts hX3_steer_X11_put_n50 rfl rfl rfl (hZ.1 (.methodLinkNest RX3 50 yX11_put "StatementRules2") (by decide +kernel)) (hts (.initialized RX11) k_X3_steer_initialized_RX11) (by decide +kernel) ⟨(show 1 + 1 ≤ 4 by omega), (show 8 + (3 + 11) + 60 * 1 ≤ 60 * 4 by omega)⟩, (hts (.static yX11_put) k_X3_steer_static_yX11_put), trivial⟩ ⟨zPre.blind, zPre.go hZ (cOne hC.1 he9) (hK.sub (tys' := [(Q.c 0, .int)]) [0] rfl) (cOneD hC.2.1 he9)⟩ rfl rfl hl.1 rfl (lv_room (Nat.le_of_ble_eq_true rfl)) dX3_steer_215 ⟨cAcc4 h69 hr9, cAcc5 h69 hr9⟩) hC.2.2.1 (fun q _ h => hFc q h) hFc (fun u9 t9 H1 locs ht hvm hw hB hz1 hk1 hS => ?_)
  obtain ⟨⟨hP1, hK1, hD1⟩, hsz1⟩ := hB
  rw [ht] at hP1 hsz1
  have hC := cBack (σ' := CS.putA p66.2 59 (gPut (p66.2.a 59) 720 x2 ((gAt (p66.2.a 59) 720 x2) + 1))) hC he9 cPutA_59 (cPutA_h _ _ _) hk1 hP1 hsz1 hS
  generalize H1 = H at hC ⊢
  obtain rfl := Option.some.inj hf
  exact W.vret hx hb hr (fun t ht hW => ⟨⟨(), rfl, trivial, ⟨by rw [ht]; exact hC.1, va_K.moved hW.alike hK, hC.2.1⟩, by rw [ht]; exact hC.2.2.2⟩, hC.2.2.1.F ht⟩) hC.2.2.1.2.2 dX3_steer_218
theorem k_X3_step_fieldLink_RX3_69_SR_Machine_steps_I : Cond.fieldLink RX3 69 "StatementRules2$Machine" "steps" "I" ∈ wzX3_step := List.mem_cons_of_mem _ (List.mem_append_left _ (List.mem_of_getElem? (i := 0) rfl))
theorem i_X3_step_X3 : ∀ w ∈ wsX30, w ∈ wzX3_step := fun _ h => List.mem_cons_of_mem _ (List.mem_append_right _ (List.mem_append_left _ (h)))
theorem k_X3_step_fieldLink_RX3_85_SR_Machine_outcome_I : Cond.fieldLink RX3 85 "StatementRules2$Machine" "outcome" "I" ∈ wzX3_step := List.mem_cons_of_mem _ (List.mem_append_left _ (List.mem_of_getElem? (i := 1) rfl))
set_option maxHeartbeats 4000000 in
set_option maxRecDepth 100000 in
theorem c_X3_step (l : Launch) (dC : Nat → ClassId) (dI : Nat → Nat → Nat) (Q : CQ) (N : Nat) (σ : CS) (R : Unit × CS) (hf : f_X3_step N σ = some R) : Met l yX3_step wzX3_step ({ frames := 1, cells := CS.hs R.2 - CS.hs σ, slots := 17 * (CS.hs R.2 - CS.hs σ), locals := 60 * 1 }) (va_Pc [.ref (Q.o 7)] (zPre dC dI (CS.hs σ) (cW Q σ) (cT Q))) (va_Qv (fun (_ : Unit) => True) (fun (_ : Unit) (t : State) => zPost dC dI (va_A (cW Q σ) (CS.hs σ)) (cW Q R.2) (cT Q) t ∧ t.heap.size = CS.hs R.2) (va_A (cW Q σ) (CS.hs σ))) (CS.hs R.2 - CS.hs σ) (17 * (CS.hs R.2 - CS.hs σ)) (va_A (cW Q σ) (CS.hs σ)) := by
  refine Met.ofW (cc := cX3_step) (maxL := 1) (ret := none) (by decide) rfl ?_
  intro p e s m args below meth c s₁ B hml hv
  obtain ⟨rfl, hsz, hZ, hP, hK, hD0⟩ := hv
  have hx := B.exec
  have hb := B.bytes
  have hr := B.returns
  have hts := atoms_spec (ws := wzX3_step) B.pre
  have hown : s.vm.findClass RX3 = some m.cls := findClass_of_methodNamed B.named
  have hlocks := B.notSynchronized
  have hD := hD0.self (sz := CS.hs σ)
  generalize hAe : va_A (cW Q σ) (CS.hs σ) = A at hD ⊢
  have hA : ∀ q : Nat, s.heap.size ≤ q → A q := fun q h => by rw [← hAe]; exact Or.inr (hsz ▸ h)
  have hC : CP dC dI Q A s.heap σ s.heap [] := ⟨hP, hD, va_S.rf, hsz⟩
  have h0 : CS.hs σ ≤ CS.hs σ := Nat.le_refl _
  have hl := lv_entry ([.ref (Q.o 7)]) (n := 1) (Nat.le_of_ble_eq_true rfl)
  rw [lg_entry_eq]
  generalize (lg_sl ([.ref (Q.o 7)]) ++ List.replicate (1 - (lg_sl ([.ref (Q.o 7)])).length) Slot.unset).toArray = ls at hl ⊢
  have hl : lv_has ls 1 [(0, .ref (Q.o 7))] := hl
  unfold f_X3_step at hf
  refine W.widen (k := CS.hs σ - CS.hs σ) (n := 17 * (CS.hs σ - CS.hs σ)) (Nat.zero_le _) (Nat.zero_le _) ?_
  refine lv_aload_n hx hb dX3_step_0 rfl (lv_at hl 0 rfl) ?_
  refine cG_70 (v := (σ.i 70)) hx hb hts i_X3_step_X3 hown hK hC (hts (.fieldLink RX3 69 "StatementRules2$Machine" "steps" "I") k_X3_step_fieldLink_RX3_69_SR_Machine_steps_I) (fun _ q9 => q9) dX3_step_1 rfl ?_
  refine lv_sipush (v := 1000) hx hb dX3_step_4 (by decide) ?_
  refine lv_icmp_lt (tgt := 18) hx hb dX3_step_7 (by decide) (fun c1 => ?_) (fun c1 => ?_)
  ·
    replace hf := (if_pos c1).symm.trans hf
    refine lv_aload_n hx hb dX3_step_18 rfl (lv_at hl 0 rfl) ?_
    refine lv_dup hx hb dX3_step_19 rfl ?_
    refine cG_70 (v := (σ.i 70)) hx hb hts i_X3_step_X3 hown hK hC (hts (.fieldLink RX3 69 "StatementRules2$Machine" "steps" "I") k_X3_step_fieldLink_RX3_69_SR_Machine_steps_I) (fun _ q9 => q9) dX3_step_20 rfl ?_
    refine lv_iconst (v := 1) hx hb dX3_step_23 (by decide) ?_
    refine lv_iadd hx hb dX3_step_24 ?_
    refine cP_70 (v := ((σ.i 70) + 1)) hx hb hts i_X3_step_X3 hown hK hC (hts (.fieldLink RX3 69 "StatementRules2$Machine" "steps" "I") k_X3_step_fieldLink_RX3_69_SR_Machine_steps_I) (fun _ q9 => q9) dX3_step_25 (fun H locs hC => ?_)
    obtain rfl := Option.some.inj hf
    exact W.vret hx hb hr (fun t ht hW => ⟨⟨(), rfl, trivial, ⟨by rw [ht]; exact hC.1, va_K.moved hW.alike hK, hC.2.1⟩, by rw [ht]; exact hC.2.2.2⟩, hC.2.2.1.F ht⟩) hC.2.2.1.2.2 dX3_step_28
  ·
    replace hf := (if_neg c1).symm.trans hf
    refine lv_aload_n hx hb dX3_step_10 rfl (lv_at hl 0 rfl) ?_
    refine lv_iconst (v := 3) hx hb dX3_step_11 (by decide) ?_
    refine cP_72 (v := 3) hx hb hts i_X3_step_X3 hown hK hC (hts (.fieldLink RX3 85 "StatementRules2$Machine" "outcome" "I") k_X3_step_fieldLink_RX3_85_SR_Machine_outcome_I) (fun _ q9 => q9) dX3_step_12 (fun H locs hC => ?_)
    refine lv_goto (tgt := 28) hx hb dX3_step_15 (by decide) ?_
    obtain rfl := Option.some.inj hf
    exact W.vret hx hb hr (fun t ht hW => ⟨⟨(), rfl, trivial, ⟨by rw [ht]; exact hC.1, va_K.moved hW.alike hK, hC.2.1⟩, by rw [ht]; exact hC.2.2.2⟩, hC.2.2.1.F ht⟩) hC.2.2.1.2.2 dX3_step_28
