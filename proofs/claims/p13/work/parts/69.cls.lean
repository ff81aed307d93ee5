theorem k_X4_frameOf_fieldLink_RX4_17_SR_Names_frames_I : Cond.fieldLink RX4 17 "StatementRules2$Names" "frames" "[I" ∈ wzX4_frameOf := List.mem_cons_of_mem _ (List.mem_append_left _ (List.mem_of_getElem? (i := 0) rfl))
theorem i_X4_frameOf_X4 : ∀ w ∈ wsX40, w ∈ wzX4_frameOf := fun _ h => List.mem_cons_of_mem _ (List.mem_append_right _ (List.mem_append_left _ (h)))
theorem k_X4_frameOf_initialized_RX11 : Cond.initialized RX11 ∈ wzX4_frameOf := List.mem_cons_of_mem _ (List.mem_append_left _ (List.mem_of_getElem? (i := 1) rfl))
theorem k_X4_frameOf_static_yX11_at : Cond.static yX11_at ∈ wzX4_frameOf := List.mem_cons_of_mem _ (List.mem_append_left _ (List.mem_of_getElem? (i := 2) rfl))
set_option maxHeartbeats 4000000 in
set_option maxRecDepth 100000 in
theorem c_X4_frameOf (l : Launch) (dC : Nat → ClassId) (dI : Nat → Nat → Nat) (Q : CQ) (N : Nat) (σ : CS) (x1 : Int32) (R : Int32 × CS) (hf : f_X4_frameOf N σ x1 = some R) : Met l yX4_frameOf wzX4_frameOf ({ frames := 2, cells := CS.hs R.2 - CS.hs σ, slots := 17 * (CS.hs R.2 - CS.hs σ), locals := 60 * 2 }) (va_Pc [.ref (Q.o 5), .int x1] (zPre dC dI (CS.hs σ) (cW Q σ) (cT Q))) (va_Qi (fun (r : Int32) (_ : Unit) => r = R.1) (fun (_ : Unit) (t : State) => zPost dC dI (va_A (cW Q σ) (CS.hs σ)) (cW Q R.2) (cT Q) t ∧ t.heap.size = CS.hs R.2) (va_A (cW Q σ) (CS.hs σ))) (CS.hs R.2 - CS.hs σ) (17 * (CS.hs R.2 - CS.hs σ)) (va_A (cW Q σ) (CS.hs σ)) := by
  refine Met.ofW (cc := cX4_frameOf) (maxL := 2) (ret := (some .int)) (by decide) rfl ?_
  intro p e s m args below meth c s₁ B hml hv
  obtain ⟨rfl, hsz, hZ, hP, hK, hD0⟩ := hv
  have hx := B.exec
  have hb := B.bytes
  have hr := B.returns
  have hts := atoms_spec (ws := wzX4_frameOf) B.pre
  have hown : s.vm.findClass RX4 = some m.cls := findClass_of_methodNamed B.named
  have hlocks := B.notSynchronized
  have hD := hD0.self (sz := CS.hs σ)
  generalize hAe : va_A (cW Q σ) (CS.hs σ) = A at hD ⊢
  have hA : ∀ q : Nat, s.heap.size ≤ q → A q := fun q h => by rw [← hAe]; exact Or.inr (hsz ▸ h)
  have hC : CP dC dI Q A s.heap σ s.heap [] := ⟨hP, hD, va_S.rf, hsz⟩
  have h0 : CS.hs σ ≤ CS.hs σ := Nat.le_refl _
  have hl := lv_entry ([.ref (Q.o 5), .int x1]) (n := 2) (Nat.le_of_ble_eq_true rfl)
  rw [lg_entry_eq]
  generalize (lg_sl ([.ref (Q.o 5), .int x1]) ++ List.replicate (2 - (lg_sl ([.ref (Q.o 5), .int x1])).length) Slot.unset).toArray = ls at hl ⊢
  have hl : lv_has ls 2 [(0, .ref (Q.o 5)), (1, .int x1)] := hl
  unfold f_X4_frameOf at hf
  refine W.widen (k := CS.hs σ - CS.hs σ) (n := 17 * (CS.hs σ - CS.hs σ)) (Nat.zero_le _) (Nat.zero_le _) ?_
  refine lv_aload_n hx hb dX4_frameOf_0 rfl (lv_at hl 0 rfl) ?_
  refine cG_49 hx hb hts i_X4_frameOf_X4 hown hK hC (hts (.fieldLink RX4 17 "StatementRules2$Names" "frames" "[I") k_X4_frameOf_fieldLink_RX4_17_SR_Names_frames_I) (fun _ q9 => q9) dX4_frameOf_1 ?_
  refine lv_iload_n hx hb dX4_frameOf_4 rfl (lv_at hl 1 rfl) ?_
  have he9 := (cArr_49 (Q := Q) (σ := σ))
  have hFc := cFree1 hC hA he9
  have hr9 : CS.hs σ ≤ CS.hs R.2 := Mono.go hf (mono_some (Nat.le_refl _))
  refine va_calli (va_runSN (As := [.ref (Q.q 49), .int x1]) (rest := []) ⟨hx, hb, hml, hown, hts⟩ (c_X11_at l dC dI _ (Q.q 49) (Q.c 0) 128 (σ.a 49) x1 (by decide)) ⟨va_cnB 2 hts hX4_frameOf_X11_at_n24 rfl rfl rfl (hZ.1 (.methodLinkNest RX4 24 yX11_at "StatementRules2") (by decide +kernel)) (hts (.initialized RX11) k_X4_frameOf_initialized_RX11) (by decide +kernel) ⟨(show 1 + 1 ≤ 2 by omega), (show 8 + (2 + 11) + 60 * 1 ≤ 60 * 2 by omega)⟩, (hts (.static yX11_at) k_X4_frameOf_static_yX11_at), trivial⟩ ⟨zPre.blind, zPre.go hZ (cOne hC.1 he9) (hK.sub (tys' := [(Q.c 0, .int)]) [0] rfl) (cOneD hC.2.1 he9)⟩ rfl rfl hl.1 rfl (lv_room (Nat.le_of_ble_eq_true rfl)) dX4_frameOf_5 ⟨cAcc4 h0 hr9, cAcc5 h0 hr9⟩) hC.2.2.1 (fun q _ h => hFc q h) hFc (fun r1 u9 t9 H1 locs ht hvm hw hB hz1 hk1 hS => ?_)
  obtain ⟨⟨hP1, hK1, hD1⟩, hsz1⟩ := hB
  rw [ht] at hP1 hsz1
  have hC := cBack (σ' := σ) hC he9 (cSelf he9) (Eq.refl (CS.hs σ)) hk1 hP1 hsz1 hS
  generalize H1 = H at hC ⊢
  obtain rfl : r1 = (gAt (σ.a 49) 128 x1) := hw
  obtain rfl := Option.some.inj hf
  exact W.iret (v := (gAt (σ.a 49) 128 x1)) hx hb hr (fun t ht hW => ⟨⟨(gAt (σ.a 49) 128 x1), (), rfl, rfl, ⟨by rw [ht]; exact hC.1, va_K.moved hW.alike hK, hC.2.1⟩, by rw [ht]; exact hC.2.2.2⟩, hC.2.2.1.F ht⟩) hC.2.2.1.2.2 dX4_frameOf_8
theorem k_X7_throwOne_fieldLink_RX7_71_SR_Statements_tokens_LSR_Tokens : Cond.fieldLink RX7 71 "StatementRules2$Statements" "tokens" "LStatementRules2$Tokens;" ∈ wzX7_throwOne := List.mem_cons_of_mem _ (List.mem_append_right _ (List.mem_append_right _ (List.mem_append_right _ (List.mem_append_right _ (List.mem_append_right _ (List.mem_append_right _ (List.mem_append_right _ (List.mem_append_right _ (List.mem_append_right _ (List.mem_append_right _ (List.mem_append_right _ (List.mem_append_right _ (List.mem_append_right _ (List.mem_append_right _ (List.mem_append_right _ (List.mem_append_right _ (List.mem_append_right _ (List.mem_append_right _ (List.mem_append_right _ (List.mem_append_right _ (List.mem_append_right _ (List.mem_append_right _ (List.mem_append_right _ (List.mem_append_right _ (List.mem_append_right _ (List.mem_append_right _ (List.mem_append_right _ (List.mem_append_right _ (List.mem_append_right _ (List.mem_append_right _ (List.mem_append_right _ (List.mem_append_right _ (List.mem_append_right _ (List.mem_append_left _ (List.mem_of_getElem? (i := 0) rfl)))))))))))))))))))))))))))))))))))
theorem k_X7_throwOne_sameField_SR_Statements_SR_Formulas_tokens_LSR_Tokens : Cond.sameField "StatementRules2$Statements" "StatementRules2$Formulas" "tokens" "LStatementRules2$Tokens;" ∈ wzX7_throwOne := List.mem_cons_of_mem _ (List.mem_append_right _ (List.mem_append_right _ (List.mem_append_right _ (List.mem_append_right _ (List.mem_append_right _ (List.mem_append_right _ (List.mem_append_right _ (List.mem_append_right _ (List.mem_append_right _ (List.mem_append_right _ (List.mem_append_right _ (List.mem_append_right _ (List.mem_append_right _ (List.mem_append_right _ (List.mem_append_right _ (List.mem_append_right _ (List.mem_append_right _ (List.mem_append_right _ (List.mem_append_right _ (List.mem_append_right _ (List.mem_append_right _ (List.mem_append_right _ (List.mem_append_right _ (List.mem_append_right _ (List.mem_append_right _ (List.mem_append_right _ (List.mem_append_right _ (List.mem_append_right _ (List.mem_append_right _ (List.mem_append_right _ (List.mem_append_right _ (List.mem_append_right _ (List.mem_append_right _ (List.mem_append_left _ (List.mem_of_getElem? (i := 1) rfl)))))))))))))))))))))))))))))))))))
theorem i_X7_throwOne_X7 : ∀ w ∈ wsX70, w ∈ wzX7_throwOne := fun _ h => List.mem_cons_of_mem _ (List.mem_append_right _ (List.mem_append_right _ (List.mem_append_right _ (List.mem_append_right _ (List.mem_append_right _ (List.mem_append_right _ (List.mem_append_right _ (List.mem_append_right _ (List.mem_append_right _ (List.mem_append_right _ (List.mem_append_right _ (List.mem_append_right _ (List.mem_append_right _ (List.mem_append_right _ (List.mem_append_right _ (List.mem_append_right _ (List.mem_append_right _ (List.mem_append_right _ (List.mem_append_right _ (List.mem_append_right _ (List.mem_append_right _ (List.mem_append_right _ (List.mem_append_right _ (List.mem_append_right _ (List.mem_append_right _ (List.mem_append_right _ (List.mem_append_right _ (List.mem_append_right _ (List.mem_append_right _ (List.mem_append_right _ (List.mem_append_right _ (List.mem_append_right _ (List.mem_append_right _ (List.mem_append_right _ (List.mem_append_right _ (List.mem_append_right _ (List.mem_append_left _ (h))))))))))))))))))))))))))))))))))))))
theorem k_X7_throwOne_fieldLink_RX7_61_SR_Statements_alive_Z : Cond.fieldLink RX7 61 "StatementRules2$Statements" "alive" "Z" ∈ wzX7_throwOne := List.mem_cons_of_mem _ (List.mem_append_right _ (List.mem_append_right _ (List.mem_append_right _ (List.mem_append_right _ (List.mem_append_right _ (List.mem_append_right _ (List.mem_append_right _ (List.mem_append_right _ (List.mem_append_right _ (List.mem_append_right _ (List.mem_append_right _ (List.mem_append_right _ (List.mem_append_right _ (List.mem_append_right _ (List.mem_append_right _ (List.mem_append_right _ (List.mem_append_right _ (List.mem_append_right _ (List.mem_append_right _ (List.mem_append_right _ (List.mem_append_right _ (List.mem_append_right _ (List.mem_append_right _ (List.mem_append_right _ (List.mem_append_right _ (List.mem_append_right _ (List.mem_append_right _ (List.mem_append_right _ (List.mem_append_right _ (List.mem_append_right _ (List.mem_append_right _ (List.mem_append_right _ (List.mem_append_right _ (List.mem_append_left _ (List.mem_of_getElem? (i := 2) rfl)))))))))))))))))))))))))))))))))))
theorem k_X7_throwOne_fieldLink_RX7_29_SR_Statements_names_LSR_Names : Cond.fieldLink RX7 29 "StatementRules2$Statements" "names" "LStatementRules2$Names;" ∈ wzX7_throwOne := List.mem_cons_of_mem _ (List.mem_append_right _ (List.mem_append_right _ (List.mem_append_right _ (List.mem_append_right _ (List.mem_append_right _ (List.mem_append_right _ (List.mem_append_right _ (List.mem_append_right _ (List.mem_append_right _ (List.mem_append_right _ (List.mem_append_right _ (List.mem_append_right _ (List.mem_append_right _ (List.mem_append_right _ (List.mem_append_right _ (List.mem_append_right _ (List.mem_append_right _ (List.mem_append_right _ (List.mem_append_right _ (List.mem_append_right _ (List.mem_append_right _ (List.mem_append_right _ (List.mem_append_right _ (List.mem_append_right _ (List.mem_append_right _ (List.mem_append_right _ (List.mem_append_right _ (List.mem_append_right _ (List.mem_append_right _ (List.mem_append_right _ (List.mem_append_right _ (List.mem_append_right _ (List.mem_append_right _ (List.mem_append_left _ (List.mem_of_getElem? (i := 3) rfl)))))))))))))))))))))))))))))))))))
theorem k_X7_throwOne_sameField_SR_Statements_SR_Formulas_names_LSR_Names : Cond.sameField "StatementRules2$Statements" "StatementRules2$Formulas" "names" "LStatementRules2$Names;" ∈ wzX7_throwOne := List.mem_cons_of_mem _ (List.mem_append_right _ (List.mem_append_right _ (List.mem_append_right _ (List.mem_append_right _ (List.mem_append_right _ (List.mem_append_right _ (List.mem_append_right _ (List.mem_append_right _ (List.mem_append_right _ (List.mem_append_right _ (List.mem_append_right _ (List.mem_append_right _ (List.mem_append_right _ (List.mem_append_right _ (List.mem_append_right _ (List.mem_append_right _ (List.mem_append_right _ (List.mem_append_right _ (List.mem_append_right _ (List.mem_append_right _ (List.mem_append_right _ (List.mem_append_right _ (List.mem_append_right _ (List.mem_append_right _ (List.mem_append_right _ (List.mem_append_right _ (List.mem_append_right _ (List.mem_append_right _ (List.mem_append_right _ (List.mem_append_right _ (List.mem_append_right _ (List.mem_append_right _ (List.mem_append_right _ (List.mem_append_left _ (List.mem_of_getElem? (i := 4) rfl)))))))))))))))))))))))))))))))))))
theorem i_X7_throwOne_X9 : ∀ w ∈ wsX90, w ∈ wzX7_throwOne := fun _ h => List.mem_cons_of_mem _ (List.mem_append_right _ (List.mem_append_right _ (List.mem_append_right _ (List.mem_append_right _ (List.mem_append_right _ (List.mem_append_right _ (List.mem_append_right _ (List.mem_append_right _ (List.mem_append_right _ (List.mem_append_right _ (List.mem_append_right _ (List.mem_append_right _ (List.mem_append_right _ (List.mem_append_right _ (List.mem_append_right _ (List.mem_append_right _ (List.mem_append_right _ (List.mem_append_right _ (List.mem_append_right _ (List.mem_append_right _ (List.mem_append_right _ (List.mem_append_right _ (List.mem_append_right _ (List.mem_append_right _ (List.mem_append_right _ (List.mem_append_right _ (List.mem_append_right _ (List.mem_append_right _ (List.mem_append_right _ (List.mem_append_right _ (List.mem_append_right _ (List.mem_append_right _ (List.mem_append_right _ (List.mem_append_right _ (List.mem_append_right _ (List.mem_append_right _ (List.mem_append_right _ (List.mem_append_left _ (h)))))))))))))))))))))))))))))))))))))))
theorem k_X7_throwOne_fieldLink_RX7_20_SR_Statements_code_LSR_Code : Cond.fieldLink RX7 20 "StatementRules2$Statements" "code" "LStatementRules2$Code;" ∈ wzX7_throwOne := List.mem_cons_of_mem _ (List.mem_append_right _ (List.mem_append_right _ (List.mem_append_right _ (List.mem_append_right _ (List.mem_append_right _ (List.mem_append_right _ (List.mem_append_right _ (List.mem_append_right _ (List.mem_append_right _ (List.mem_append_right _ (List.mem_append_right _ (List.mem_append_right _ (List.mem_append_right _ (List.mem_append_right _ (List.mem_append_right _ (List.mem_append_right _ (List.mem_append_right _ (List.mem_append_right _ (List.mem_append_right _ (List.mem_append_right _ (List.mem_append_right _ (List.mem_append_right _ (List.mem_append_right _ (List.mem_append_right _ (List.mem_append_right _ (List.mem_append_right _ (List.mem_append_right _ (List.mem_append_right _ (List.mem_append_right _ (List.mem_append_right _ (List.mem_append_right _ (List.mem_append_right _ (List.mem_append_right _ (List.mem_append_left _ (List.mem_of_getElem? (i := 5) rfl)))))))))))))))))))))))))))))))))))
theorem k_X7_throwOne_sameField_SR_Statements_SR_Formulas_code_LSR_Code : Cond.sameField "StatementRules2$Statements" "StatementRules2$Formulas" "code" "LStatementRules2$Code;" ∈ wzX7_throwOne := List.mem_cons_of_mem _ (List.mem_append_right _ (List.mem_append_right _ (List.mem_append_right _ (List.mem_append_right _ (List.mem_append_right _ (List.mem_append_right _ (List.mem_append_right _ (List.mem_append_right _ (List.mem_append_right _ (List.mem_append_right _ (List.mem_append_right _ (List.mem_append_right _ (List.mem_append_right _ (List.mem_append_right _ (List.mem_append_right _ (List.mem_append_right _ (List.mem_append_right _ (List.mem_append_right _ (List.mem_append_right _ (List.mem_append_right _ (List.mem_append_right _ (List.mem_append_right _ (List.mem_append_right _ (List.mem_append_right _ (List.mem_append_right _ (List.mem_append_right _ (List.mem_append_right _ (List.mem_append_right _ (List.mem_append_right _ (List.mem_append_right _ (List.mem_append_right _ (List.mem_append_right _ (List.mem_append_right _ (List.mem_append_left _ (List.mem_of_getElem? (i := 6) rfl)))))))))))))))))))))))))))))))))))
theorem k_X7_throwOne_fieldLink_RX7_300_SR_Statements_told_LSR_Told : Cond.fieldLink RX7 300 "StatementRules2$Statements" "told" "LStatementRules2$Told;" ∈ wzX7_throwOne := List.mem_cons_of_mem _ (List.mem_append_right _ (List.mem_append_right _ (List.mem_append_right _ (List.mem_append_right _ (List.mem_append_right _ (List.mem_append_right _ (List.mem_append_right _ (List.mem_append_right _ (List.mem_append_right _ (List.mem_append_right _ (List.mem_append_right _ (List.mem_append_right _ (List.mem_append_right _ (List.mem_append_right _ (List.mem_append_right _ (List.mem_append_right _ (List.mem_append_right _ (List.mem_append_right _ (List.mem_append_right _ (List.mem_append_right _ (List.mem_append_right _ (List.mem_append_right _ (List.mem_append_right _ (List.mem_append_right _ (List.mem_append_right _ (List.mem_append_right _ (List.mem_append_right _ (List.mem_append_right _ (List.mem_append_right _ (List.mem_append_right _ (List.mem_append_right _ (List.mem_append_right _ (List.mem_append_right _ (List.mem_append_left _ (List.mem_of_getElem? (i := 7) rfl)))))))))))))))))))))))))))))))))))
theorem k_X7_throwOne_sameField_SR_Statements_SR_Formulas_told_LSR_Told : Cond.sameField "StatementRules2$Statements" "StatementRules2$Formulas" "told" "LStatementRules2$Told;" ∈ wzX7_throwOne := List.mem_cons_of_mem _ (List.mem_append_right _ (List.mem_append_right _ (List.mem_append_right _ (List.mem_append_right _ (List.mem_append_right _ (List.mem_append_right _ (List.mem_append_right _ (List.mem_append_right _ (List.mem_append_right _ (List.mem_append_right _ (List.mem_append_right _ (List.mem_append_right _ (List.mem_append_right _ (List.mem_append_right _ (List.mem_append_right _ (List.mem_append_right _ (List.mem_append_right _ (List.mem_append_right _ (List.mem_append_right _ (List.mem_append_right _ (List.mem_append_right _ (List.mem_append_right _ (List.mem_append_right _ (List.mem_append_right _ (List.mem_append_right _ (List.mem_append_right _ (List.mem_append_right _ (List.mem_append_right _ (List.mem_append_right _ (List.mem_append_right _ (List.mem_append_right _ (List.mem_append_right _ (List.mem_append_right _ (List.mem_append_left _ (List.mem_of_getElem? (i := 8) rfl)))))))))))))))))))))))))))))))))))
set_option maxHeartbeats 4000000 in
set_option maxRecDepth 100000 in
theorem j_X7_throwOne_152 {p : Program} {e : Env} {s : State} {m : MethodId} {args : Array Value} {below : List Frame} {meth : Method} {c : Code} {A : Nat → Prop} (l : Launch) (dC : Nat → ClassId) (dI : Nat → Nat → Nat) (Q : CQ) (N : Nat) (d : Nat) (E1 : CS → Option (Unit × CS)) (E2 : CS → Option (Int32 × CS)) (hE1 : cMF l dC dI Q d E1) (hE2 : cMO l dC dI Q d E2) (hm1 : ∀ σ, Mono (CS.hs σ) (E1 σ)) (hm2 : ∀ σ, Mono (CS.hs σ) (E2 σ)) (z9h : Nat) (R : Unit × CS) (hx : p.tables.exec = Jvm.exec) (hb : c.code = cX7_throwOne) (hr : meth.sig.returnType = none) (hml : c.maxLocals = 2) (hown : s.vm.findClass RX7 = some m.cls) (hts : ∀ w ∈ wzX7_throwOne, w.before args s = true) (hlocks : meth.locks = false) (hZ : zAMB s) (hA : ∀ q : Nat, s.heap.size ≤ q → A q) (hK : va_K (dC, dI) vwCl (cT Q) s) : ∀ (σ : CS) (H : Heap) (locs : List Loc) (ls : Array Slot), f_X7_throwOne_152 N E1 E2 σ = some R → z9h ≤ CS.hs σ → CP dC dI Q A s.heap σ H locs → lv_has ls 2 [(0, .ref (Q.o 3))] → W p l e ({ frames := (13 + 40 * d), cells := CS.hs R.2 - z9h, slots := 17 * (CS.hs R.2 - z9h), locals := 60 * (13 + 40 * d) }) s m args below meth c H locs (CS.hs σ - z9h) (17 * (CS.hs σ - z9h)) (MQ below (va_Qv (fun (_ : Unit) => True) (fun (_ : Unit) (t : State) => zPost dC dI A (cW Q R.2) (cT Q) t ∧ t.heap.size = CS.hs R.2) A) args s (CS.hs R.2 - z9h) (17 * (CS.hs R.2 - z9h)) A) (F0 m 152 ls []) := by
  intro σ  H locs ls hf h0 hC hl
  unfold f_X7_throwOne_152 at hf
  refine lv_aload_n hx hb dX7_throwOne_152 rfl (lv_at hl 0 rfl) ?_
  refine lv_bipush (v := 59) hx hb dX7_throwOne_153 (by decide) ?_
  obtain ⟨p19, hcp19, hf⟩ := hf_bind hf
  have mo20 : CS.hs σ ≤ CS.hs p19.2 := Mono.go hcp19 (m_X1_expect N σ 59)
  have hr9 : CS.hs p19.2 ≤ CS.hs R.2 := Mono.go hf (mono_some (Nat.le_refl _))
  have hFc := cFree hC hA
  refine va_callv (va_runU (As := [.int 59]) (rest := []) ⟨hx, hb, hml, hown, hts⟩ (c_X1_expect l dC dI Q N σ 59 p19 hcp19) (va_cwU 1 hts hX7_throwOne_X1_expect_u155 rfl rfl rfl rfl (by decide +kernel) ⟨(show 4 + 1 ≤ (13 + 40 * d) by omega), (show 8 + (2 + 11) + 60 * 4 ≤ 60 * (13 + 40 * d) by omega)⟩) ⟨zPre.blind, va_recv hK hC.1 (ci := 6) (q0 := 3) rfl rfl, cPre_go hZ hK hC⟩ rfl rfl hl.1 rfl (lv_room (Nat.le_of_ble_eq_true rfl)) dX7_throwOne_155 (cAcc h0 mo20 hr9)) hC.2.2.1 (fun q _ h => hFc q h) hFc (fun u9 t9 H1 locs ht hvm hw hB hz1 hk1 hS => ?_)
  obtain ⟨⟨hP, hK1, hD1⟩, hsz1⟩ := hB
  rw [ht] at hP hsz1
  have hC : CP dC dI Q A s.heap p19.2 H1 locs := ⟨hP, hD1.weaken (fun _ _ _ h => hFc _ h), hS, hsz1⟩
  generalize H1 = H at hC ⊢
  have h22 : z9h ≤ CS.hs p19.2 := Nat.le_trans h0 mo20
  refine W.widen (k := CS.hs p19.2 - z9h) (n := 17 * (CS.hs p19.2 - z9h)) (cAcc2 h0 mo20) (cAcc3 h0 mo20) ?_
  refine lv_aload_n hx hb dX7_throwOne_158 rfl (lv_at hl 0 rfl) ?_
  refine lv_iconst (v := 0) hx hb dX7_throwOne_159 (by decide) ?_
  refine cP_36 (v := 0) hx hb hts i_X7_throwOne_X7 hown hK hC (hts (.fieldLink RX7 61 "StatementRules2$Statements" "alive" "Z") k_X7_throwOne_fieldLink_RX7_61_SR_Statements_alive_Z) (fun _ q9 => q9) dX7_throwOne_160 (by decide) (fun H locs hC => ?_)
  obtain rfl := Option.some.inj hf
  exact W.vret hx hb hr (fun t ht hW => ⟨⟨(), rfl, trivial, ⟨by rw [ht]; exact hC.1, va_K.moved hW.alike hK, hC.2.1⟩, by rw [ht]; exact hC.2.2.2⟩, hC.2.2.1.F ht⟩) hC.2.2.1.2.2 dX7_throwOne_163
set_option maxHeartbeats 4000000 in
set_option maxRecDepth 100000 in
theorem j_X7_throwOne_108 {p : Program} {e : Env} {s : State} {m : MethodId} {args : Array Value} {below : List Frame} {meth : Method} {c : Code} {A : Nat → Prop} (l : Launch) (dC : Nat → ClassId) (dI : Nat → Nat → Nat) (Q : CQ) (N : Nat) (d : Nat) (E1 : CS → Option (Unit × CS)) (E2 : CS → Option (Int32 × CS)) (hE1 : cMF l dC dI Q d E1) (hE2 : cMO l dC dI Q d E2) (hm1 : ∀ σ, Mono (CS.hs σ) (E1 σ)) (hm2 : ∀ σ, Mono (CS.hs σ) (E2 σ)) (z9h : Nat) (R : Unit × CS) (hx : p.tables.exec = Jvm.exec) (hb : c.code = cX7_throwOne) (hr : meth.sig.returnType = none) (hml : c.maxLocals = 2) (hown : s.vm.findClass RX7 = some m.cls) (hts : ∀ w ∈ wzX7_throwOne, w.before args s = true) (hlocks : meth.locks = false) (hZ : zAMB s) (hA : ∀ q : Nat, s.heap.size ≤ q → A q) (hK : va_K (dC, dI) vwCl (cT Q) s) : ∀ (σ : CS) (H : Heap) (locs : List Loc) (ls : Array Slot), f_X7_throwOne_108 N E1 E2 σ = some R → z9h ≤ CS.hs σ → CP dC dI Q A s.heap σ H locs → lv_has ls 2 [(0, .ref (Q.o 3))] → W p l e ({ frames := (13 + 40 * d), cells := CS.hs R.2 - z9h, slots := 17 * (CS.hs R.2 - z9h), locals := 60 * (13 + 40 * d) }) s m args below meth c H locs (CS.hs σ - z9h) (17 * (CS.hs σ - z9h)) (MQ below (va_Qv (fun (_ : Unit) => True) (fun (_ : Unit) (t : State) => zPost dC dI A (cW Q R.2) (cT Q) t ∧ t.heap.size = CS.hs R.2) A) args s (CS.hs R.2 - z9h) (17 * (CS.hs R.2 - z9h)) A) (F0 m 108 ls []) := by
  intro σ  H locs ls hf h0 hC hl
  unfold f_X7_throwOne_108 at hf
  refine lv_aload_n hx hb dX7_throwOne_108 rfl (lv_at hl 0 rfl) ?_
  refine lv_iconst (v := 3) hx hb dX7_throwOne_109 (by decide) ?_
  refine lv_aload_n hx hb dX7_throwOne_110 rfl (lv_at hl 0 rfl) ?_
  refine cG_28 hx hb hts i_X7_throwOne_X7 hown hK hC (hts (.fieldLink RX7 71 "StatementRules2$Statements" "tokens" "LStatementRules2$Tokens;") k_X7_throwOne_fieldLink_RX7_71_SR_Statements_tokens_LSR_Tokens) (fun x9 q9 => u_same (hts (.sameField "StatementRules2$Statements" "StatementRules2$Formulas" "tokens" "LStatementRules2$Tokens;") k_X7_throwOne_sameField_SR_Statements_SR_Formulas_tokens_LSR_Tokens) x9 q9) dX7_throwOne_111 ?_
  refine cGN_44 (v := (σ.i 44)) hx hb hts i_X7_throwOne_X9 hown hK hC (va_Nw.use rfl (hZ.1 (.fieldLinkNest RX7 143 "StatementRules2$Tokens" "place" "I" "StatementRules2") (by decide +kernel))) (fun _ q9 => q9) dX7_throwOne_114 rfl ?_
  obtain ⟨p28, hcp28, hf⟩ := hf_bind hf
  have mo29 : CS.hs σ ≤ CS.hs p28.2 := Mono.go hcp28 (m_X1_fail N σ 3 (σ.i 44))
  have hr9 : CS.hs p28.2 ≤ CS.hs R.2 := Mono.go hf (mono_some (Nat.le_refl _))
  have hFc := cFree hC hA
  refine va_callv (va_runU (As := [.int 3, .int (σ.i 44)]) (rest := []) ⟨hx, hb, hml, hown, hts⟩ (c_X1_fail l dC dI Q N σ 3 (σ.i 44) p28 hcp28) (va_cwU 2 hts hX7_throwOne_X1_fail_u88 rfl rfl rfl rfl (by decide +kernel) ⟨(show 2 + 1 ≤ (13 + 40 * d) by omega), (show 8 + (3 + 11) + 60 * 2 ≤ 60 * (13 + 40 * d) by omega)⟩) ⟨zPre.blind, va_recv hK hC.1 (ci := 6) (q0 := 3) rfl rfl, cPre_go hZ hK hC⟩ rfl rfl hl.1 rfl (lv_room (Nat.le_of_ble_eq_true rfl)) dX7_throwOne_117 (cAcc h0 mo29 hr9)) hC.2.2.1 (fun q _ h => hFc q h) hFc (fun u9 t9 H1 locs ht hvm hw hB hz1 hk1 hS => ?_)
  obtain ⟨⟨hP, hK1, hD1⟩, hsz1⟩ := hB
  rw [ht] at hP hsz1
  have hC : CP dC dI Q A s.heap p28.2 H1 locs := ⟨hP, hD1.weaken (fun _ _ _ h => hFc _ h), hS, hsz1⟩
  generalize H1 = H at hC ⊢
  have h31 : z9h ≤ CS.hs p28.2 := Nat.le_trans h0 mo29
  refine W.widen (k := CS.hs p28.2 - z9h) (n := 17 * (CS.hs p28.2 - z9h)) (cAcc2 h0 mo29) (cAcc3 h0 mo29) ?_
  obtain rfl := Option.some.inj hf
  exact W.vret hx hb hr (fun t ht hW => ⟨⟨(), rfl, trivial, ⟨by rw [ht]; exact hC.1, va_K.moved hW.alike hK, hC.2.1⟩, by rw [ht]; exact hC.2.2.2⟩, hC.2.2.1.F ht⟩) hC.2.2.1.2.2 dX7_throwOne_120
set_option maxHeartbeats 4000000 in
set_option maxRecDepth 100000 in
theorem j_X7_throwOne_46 {p : Program} {e : Env} {s : State} {m : MethodId} {args : Array Value} {below : List Frame} {meth : Method} {c : Code} {A : Nat → Prop} (l : Launch) (dC : Nat → ClassId) (dI : Nat → Nat → Nat) (Q : CQ) (N : Nat) (d : Nat) (E1 : CS → Option (Unit × CS)) (E2 : CS → Option (Int32 × CS)) (hE1 : cMF l dC dI Q d E1) (hE2 : cMO l dC dI Q d E2) (hm1 : ∀ σ, Mono (CS.hs σ) (E1 σ)) (hm2 : ∀ σ, Mono (CS.hs σ) (E2 σ)) (z9h : Nat) (R : Unit × CS) (hx : p.tables.exec = Jvm.exec) (hb : c.code = cX7_throwOne) (hr : meth.sig.returnType = none) (hml : c.maxLocals = 2) (hown : s.vm.findClass RX7 = some m.cls) (hts : ∀ w ∈ wzX7_throwOne, w.before args s = true) (hlocks : meth.locks = false) (hZ : zAMB s) (hA : ∀ q : Nat, s.heap.size ≤ q → A q) (hK : va_K (dC, dI) vwCl (cT Q) s) : ∀ (σ : CS) (x1 : Int32) (H : Heap) (locs : List Loc) (ls : Array Slot), f_X7_throwOne_46 N E1 E2 σ x1 = some R → z9h ≤ CS.hs σ → CP dC dI Q A s.heap σ H locs → lv_has ls 2 [(0, .ref (Q.o 3)), (1, .int x1)] → W p l e ({ frames := (13 + 40 * d), cells := CS.hs R.2 - z9h, slots := 17 * (CS.hs R.2 - z9h), locals := 60 * (13 + 40 * d) }) s m args below meth c H locs (CS.hs σ - z9h) (17 * (CS.hs σ - z9h)) (MQ below (va_Qv (fun (_ : Unit) => True) (fun (_ : Unit) (t : State) => zPost dC dI A (cW Q R.2) (cT Q) t ∧ t.heap.size = CS.hs R.2) A) args s (CS.hs R.2 - z9h) (17 * (CS.hs R.2 - z9h)) A) (F0 m 46 ls []) := by
  intro σ x1 H locs ls hf h0 hC hl
  unfold f_X7_throwOne_46 at hf
  refine lv_aload_n hx hb dX7_throwOne_46 rfl (lv_at hl 0 rfl) ?_
  refine cG_28 hx hb hts i_X7_throwOne_X7 hown hK hC (hts (.fieldLink RX7 71 "StatementRules2$Statements" "tokens" "LStatementRules2$Tokens;") k_X7_throwOne_fieldLink_RX7_71_SR_Statements_tokens_LSR_Tokens) (fun x9 q9 => u_same (hts (.sameField "StatementRules2$Statements" "StatementRules2$Formulas" "tokens" "LStatementRules2$Tokens;") k_X7_throwOne_sameField_SR_Statements_SR_Formulas_tokens_LSR_Tokens) x9 q9) dX7_throwOne_47 ?_
  obtain ⟨p54, hcp54, hf⟩ := hf_bind hf
  have mo55 : CS.hs σ ≤ CS.hs p54.2 := Mono.go hcp54 (m_X9_advance N σ)
  have hr9 : CS.hs p54.2 ≤ CS.hs R.2 := Mono.go hf (mono_bind (m_X1_expression N E1 E2 hm1 hm2 p54.2) (fun p58 => (mono_bind (m_X0_add N p58.2 63 x1) (fun p62 => (m_X7_throwOne_152 N E1 E2 hm1 hm2 p62.2)))))
  have hFc := cFree hC hA
  refine va_callv (va_runV (As := []) (rest := []) ⟨hx, hb, hml, hown, hts⟩ (c_X9_advance l dC dI Q N σ p54 hcp54) (cwV 0 hts hX7_throwOne_X9_advance_v146 rfl rfl rfl (by decide +kernel) ⟨(show 3 + 1 ≤ (13 + 40 * d) by omega), (show 8 + (2 + 11) + 60 * 3 ≤ 60 * (13 + 40 * d) by omega)⟩) ⟨zPre.blind, va_recv hK hC.1 (ci := 8) (q0 := 4) rfl rfl, cPre_go hZ hK hC⟩ rfl rfl hl.1 rfl (lv_room (Nat.le_of_ble_eq_true rfl)) dX7_throwOne_50 (cAcc h0 mo55 hr9)) hC.2.2.1 (fun q _ h => hFc q h) hFc (fun u9 t9 H1 locs ht hvm hw hB hz1 hk1 hS => ?_)
  obtain ⟨⟨hP, hK1, hD1⟩, hsz1⟩ := hB
  rw [ht] at hP hsz1
  have hC : CP dC dI Q A s.heap p54.2 H1 locs := ⟨hP, hD1.weaken (fun _ _ _ h => hFc _ h), hS, hsz1⟩
  generalize H1 = H at hC ⊢
  have h57 : z9h ≤ CS.hs p54.2 := Nat.le_trans h0 mo55
  refine W.widen (k := CS.hs p54.2 - z9h) (n := 17 * (CS.hs p54.2 - z9h)) (cAcc2 h0 mo55) (cAcc3 h0 mo55) ?_
  refine lv_aload_n hx hb dX7_throwOne_53 rfl (lv_at hl 0 rfl) ?_
  obtain ⟨p58, hcp58, hf⟩ := hf_bind hf
  have mo59 : CS.hs p54.2 ≤ CS.hs p58.2 := Mono.go hcp58 (m_X1_expression N E1 E2 hm1 hm2 p54.2)
  have hr9 : CS.hs p58.2 ≤ CS.hs R.2 := Mono.go hf (mono_bind (m_X0_add N p58.2 63 x1) (fun p62 => (m_X7_throwOne_152 N E1 E2 hm1 hm2 p62.2)))
  have hFc := cFree hC hA
  refine va_callv (va_runU (As := []) (rest := []) ⟨hx, hb, hml, hown, hts⟩ (c_X1_expression l dC dI Q N d E1 E2 hE1 hE2 hm1 hm2 p54.2 p58 hcp58) (va_cwU 0 hts hX7_throwOne_X1_expression_u211 rfl rfl rfl rfl (by decide +kernel) ⟨(show (12 + 40 * d) + 1 ≤ (13 + 40 * d) by omega), (show 8 + (3 + 11) + 60 * (12 + 40 * d) ≤ 60 * (13 + 40 * d) by omega)⟩) ⟨zPre.blind, va_recv hK hC.1 (ci := 6) (q0 := 3) rfl rfl, cPre_go hZ hK hC⟩ rfl rfl hl.1 rfl (lv_room (Nat.le_of_ble_eq_true rfl)) dX7_throwOne_54 (cAcc h57 mo59 hr9)) hC.2.2.1 (fun q _ h => hFc q h) hFc (fun u9 t9 H1 locs ht hvm hw hB hz1 hk1 hS => ?_)
  obtain ⟨⟨hP, hK1, hD1⟩, hsz1⟩ := hB
  rw [ht] at hP hsz1
  have hC : CP dC dI Q A s.heap p58.2 H1 locs := ⟨hP, hD1.weaken (fun _ _ _ h => hFc _ h), hS, hsz1⟩
  generalize H1 = H at hC ⊢
  have h61 : z9h ≤ CS.hs p58.2 := Nat.le_trans h57 mo59
  refine W.widen (k := CS.hs p58.2 - z9h) (n := 17 * (CS.hs p58.2 - z9h)) (cAcc2 h57 mo59) (cAcc3 h57 mo59) ?_
  refine lv_aload_n hx hb dX7_throwOne_57 rfl (lv_at hl 0 rfl) ?_
  refine cG_29 hx hb hts i_X7_throwOne_X7 hown hK hC (hts (.fieldLink RX7 20 "StatementRules2$Statements" "code" "LStatementRules2$Code;") k_X7_throwOne_fieldLink_RX7_20_SR_Statements_code_LSR_Code) (fun x9 q9 => u_same (hts (.sameField "StatementRules2$Statements" "StatementRules2$Formulas" "code" "LStatementRules2$Code;") k_X7_throwOne_sameField_SR_Statements_SR_Formulas_code_LSR_Code) x9 q9) dX7_throwOne_58 ?_
  refine lv_bipush (v := 63) hx hb dX7_throwOne_61 (by decide) ?_
  refine lv_iload_n hx hb dX7_throwOne_63 rfl (lv_at hl 1 rfl) ?_
  obtain ⟨p62, hcp62, hf⟩ := hf_bind hf
  have mo63 : CS.hs p58.2 ≤ CS.hs p62.2 := Mono.go hcp62 (m_X0_add N p58.2 63 x1)
  have hr9 : CS.hs p62.2 ≤ CS.hs R.2 := Mono.go hf (m_X7_throwOne_152 N E1 E2 hm1 hm2 p62.2)
  have hFc := cFree hC hA
  refine va_callv (va_runV (As := [.int 63, .int x1]) (rest := []) ⟨hx, hb, hml, hown, hts⟩ (c_X0_add l dC dI Q N p58.2 63 x1 p62 hcp62) (cwV 2 hts hX7_throwOne_X0_add_v176 rfl rfl rfl (by decide +kernel) ⟨(show 2 + 1 ≤ (13 + 40 * d) by omega), (show 8 + (3 + 11) + 60 * 2 ≤ 60 * (13 + 40 * d) by omega)⟩) ⟨zPre.blind, va_recv hK hC.1 (ci := 0) (q0 := 2) rfl rfl, cPre_go hZ hK hC⟩ rfl rfl hl.1 rfl (lv_room (Nat.le_of_ble_eq_true rfl)) dX7_throwOne_64 (cAcc h61 mo63 hr9)) hC.2.2.1 (fun q _ h => hFc q h) hFc (fun u9 t9 H1 locs ht hvm hw hB hz1 hk1 hS => ?_)
  obtain ⟨⟨hP, hK1, hD1⟩, hsz1⟩ := hB
  rw [ht] at hP hsz1
  have hC : CP dC dI Q A s.heap p62.2 H1 locs := ⟨hP, hD1.weaken (fun _ _ _ h => hFc _ h), hS, hsz1⟩
  generalize H1 = H at hC ⊢
  have h65 : z9h ≤ CS.hs p62.2 := Nat.le_trans h61 mo63
  refine W.widen (k := CS.hs p62.2 - z9h) (n := 17 * (CS.hs p62.2 - z9h)) (cAcc2 h61 mo63) (cAcc3 h61 mo63) ?_
  refine lv_goto (tgt := 152) hx hb dX7_throwOne_67 (by decide) ?_
  exact j_X7_throwOne_152 l dC dI Q N d E1 E2 hE1 hE2 hm1 hm2 z9h R hx hb hr hml hown hts hlocks hZ hA hK p62.2 _ _ _ hf h65 hC (lv_sub hl [0] rfl)
set_option maxHeartbeats 4000000 in
set_option maxRecDepth 100000 in
theorem c_X7_throwOne (l : Launch) (dC : Nat → ClassId) (dI : Nat → Nat → Nat) (Q : CQ) (N : Nat) (d : Nat) (E1 : CS → Option (Unit × CS)) (E2 : CS → Option (Int32 × CS)) (hE1 : cMF l dC dI Q d E1) (hE2 : cMO l dC dI Q d E2) (hm1 : ∀ σ, Mono (CS.hs σ) (E1 σ)) (hm2 : ∀ σ, Mono (CS.hs σ) (E2 σ)) (σ : CS) (R : Unit × CS) (hf : f_X7_throwOne N E1 E2 σ = some R) : Met l yX7_throwOne wzX7_throwOne ({ frames := (13 + 40 * d), cells := CS.hs R.2 - CS.hs σ, slots := 17 * (CS.hs R.2 - CS.hs σ), locals := 60 * (13 + 40 * d) }) (va_Pc [.ref (Q.o 3)] (zPre dC dI (CS.hs σ) (cW Q σ) (cT Q))) (va_Qv (fun (_ : Unit) => True) (fun (_ : Unit) (t : State) => zPost dC dI (va_A (cW Q σ) (CS.hs σ)) (cW Q R.2) (cT Q) t ∧ t.heap.size = CS.hs R.2) (va_A (cW Q σ) (CS.hs σ))) (CS.hs R.2 - CS.hs σ) (17 * (CS.hs R.2 - CS.hs σ)) (va_A (cW Q σ) (CS.hs σ)) := by
  refine Met.ofW (cc := cX7_throwOne) (maxL := 2) (ret := none) (by decide) rfl ?_
  intro p e s m args below meth c s₁ B hml hv
  obtain ⟨rfl, hsz, hZ, hP, hK, hD0⟩ := hv
  have hx := B.exec
  have hb := B.bytes
  have hr := B.returns
  have hts := atoms_spec (ws := wzX7_throwOne) B.pre
  have hown : s.vm.findClass RX7 = some m.cls := findClass_of_methodNamed B.named
  have hlocks := B.notSynchronized
  have hD := hD0.self (sz := CS.hs σ)
  generalize hAe : va_A (cW Q σ) (CS.hs σ) = A at hD ⊢
  have hA : ∀ q : Nat, s.heap.size ≤ q → A q := fun q h => by rw [← hAe]; exact Or.inr (hsz ▸ h)
  have hC : CP dC dI Q A s.heap σ s.heap [] := ⟨hP, hD, va_S.rf, hsz⟩
  have h0 : CS.hs σ ≤ CS.hs σ := Nat.le_refl _
  have hl := lv_entry ([.ref (Q.o 3)]) (n := 2) (Nat.le_of_ble_eq_true rfl)
  rw [lg_entry_eq]
  generalize (lg_sl ([.ref (Q.o 3)]) ++ List.replicate (2 - (lg_sl ([.ref (Q.o 3)])).length) Slot.unset).toArray = ls at hl ⊢
  have hl : lv_has ls 2 [(0, .ref (Q.o 3))] := hl
  unfold f_X7_throwOne at hf
  refine W.widen (k := CS.hs σ - CS.hs σ) (n := 17 * (CS.hs σ - CS.hs σ)) (Nat.zero_le _) (Nat.zero_le _) ?_
  refine lv_aload_n hx hb dX7_throwOne_0 rfl (lv_at hl 0 rfl) ?_
  refine cG_28 hx hb hts i_X7_throwOne_X7 hown hK hC (hts (.fieldLink RX7 71 "StatementRules2$Statements" "tokens" "LStatementRules2$Tokens;") k_X7_throwOne_fieldLink_RX7_71_SR_Statements_tokens_LSR_Tokens) (fun x9 q9 => u_same (hts (.sameField "StatementRules2$Statements" "StatementRules2$Formulas" "tokens" "LStatementRules2$Tokens;") k_X7_throwOne_sameField_SR_Statements_SR_Formulas_tokens_LSR_Tokens) x9 q9) dX7_throwOne_1 ?_
  obtain ⟨p1, hcp1, hf⟩ := hf_bind hf
  have mo2 : CS.hs σ ≤ CS.hs p1.2 := Mono.go hcp1 (m_X9_advance N σ)
  have hr9 : CS.hs p1.2 ≤ CS.hs R.2 := Mono.go hf (mono_bind (m_X1_found N p1.2 5) (fun p5 => (mono_ite (mono_bind (m_X1_found N p5.2 2) (fun p10 => (mono_ite (mono_bind (m_X1_misplaced N p10.2) (fun p15 => (m_X7_throwOne_152 N E1 E2 hm1 hm2 p15.2))) (mono_bind (m_X4_find N p10.2 p10.2.l) (fun p23 => (mono_ite (m_X7_throwOne_108 N E1 E2 hm1 hm2 p23.2) (mono_bind (m_X4_isCaught N p23.2 p23.1) (fun p32 => (mono_ite (m_X7_throwOne_108 N E1 E2 hm1 hm2 p32.2) (mono_bind (m_X4_frameOf N p32.2 p23.1) (fun p37 => (mono_bind (m_X0_add N p37.2 64 p37.1) (fun p41 => (mono_bind (m_X9_advance N p41.2) (fun p45 => (m_X7_throwOne_152 N E1 E2 hm1 hm2 p45.2)))))))))))))))) (mono_bind (m_X10_isKind N p5.2 (p5.2.i 45)) (fun p49 => (mono_ite (mono_bind (m_X1_fail N p49.2 3 (p49.2.i 44)) (fun p66 => (m_X7_throwOne_46 N E1 E2 hm1 hm2 p66.2 (p5.2.i 45)))) (m_X7_throwOne_46 N E1 E2 hm1 hm2 p49.2 (p5.2.i 45))))))))
  have hFc := cFree hC hA
  refine va_callv (va_runV (As := []) (rest := []) ⟨hx, hb, hml, hown, hts⟩ (c_X9_advance l dC dI Q N σ p1 hcp1) (cwV 0 hts hX7_throwOne_X9_advance_v146 rfl rfl rfl (by decide +kernel) ⟨(show 3 + 1 ≤ (13 + 40 * d) by omega), (show 8 + (2 + 11) + 60 * 3 ≤ 60 * (13 + 40 * d) by omega)⟩) ⟨zPre.blind, va_recv hK hC.1 (ci := 8) (q0 := 4) rfl rfl, cPre_go hZ hK hC⟩ rfl rfl hl.1 rfl (lv_room (Nat.le_of_ble_eq_true rfl)) dX7_throwOne_4 (cAcc h0 mo2 hr9)) hC.2.2.1 (fun q _ h => hFc q h) hFc (fun u9 t9 H1 locs ht hvm hw hB hz1 hk1 hS => ?_)
  obtain ⟨⟨hP, hK1, hD1⟩, hsz1⟩ := hB
  rw [ht] at hP hsz1
  have hC : CP dC dI Q A s.heap p1.2 H1 locs := ⟨hP, hD1.weaken (fun _ _ _ h => hFc _ h), hS, hsz1⟩
  generalize H1 = H at hC ⊢
  have h4 : (CS.hs σ) ≤ CS.hs p1.2 := Nat.le_trans h0 mo2
  refine W.widen (k := CS.hs p1.2 - (CS.hs σ)) (n := 17 * (CS.hs p1.2 - (CS.hs σ))) (cAcc2 h0 mo2) (cAcc3 h0 mo2) ?_
  refine lv_aload_n hx hb dX7_throwOne_7 rfl (lv_at hl 0 rfl) ?_
  refine lv_iconst (v := 5) hx hb dX7_throwOne_8 (by decide) ?_
  obtain ⟨p5, hcp5, hf⟩ := hf_bind hf
  have mo6 : CS.hs p1.2 ≤ CS.hs p5.2 := Mono.go hcp5 (m_X1_found N p1.2 5)
  have hr9 : CS.hs p5.2 ≤ CS.hs R.2 := Mono.go hf (mono_ite (mono_bind (m_X1_found N p5.2 2) (fun p10 => (mono_ite (mono_bind (m_X1_misplaced N p10.2) (fun p15 => (m_X7_throwOne_152 N E1 E2 hm1 hm2 p15.2))) (mono_bind (m_X4_find N p10.2 p10.2.l) (fun p23 => (mono_ite (m_X7_throwOne_108 N E1 E2 hm1 hm2 p23.2) (mono_bind (m_X4_isCaught N p23.2 p23.1) (fun p32 => (mono_ite (m_X7_throwOne_108 N E1 E2 hm1 hm2 p32.2) (mono_bind (m_X4_frameOf N p32.2 p23.1) (fun p37 => (mono_bind (m_X0_add N p37.2 64 p37.1) (fun p41 => (mono_bind (m_X9_advance N p41.2) (fun p45 => (m_X7_throwOne_152 N E1 E2 hm1 hm2 p45.2)))))))))))))))) (mono_bind (m_X10_isKind N p5.2 (p5.2.i 45)) (fun p49 => (mono_ite (mono_bind (m_X1_fail N p49.2 3 (p49.2.i 44)) (fun p66 => (m_X7_throwOne_46 N E1 E2 hm1 hm2 p66.2 (p5.2.i 45)))) (m_X7_throwOne_46 N E1 E2 hm1 hm2 p49.2 (p5.2.i 45))))))
  have hFc := cFree hC hA
  refine va_calli (va_runU (As := [.int 5]) (rest := []) ⟨hx, hb, hml, hown, hts⟩ (c_X1_found l dC dI Q N p1.2 5 p5 hcp5) (va_cwU 1 hts hX7_throwOne_X1_found_u110 rfl rfl rfl rfl (by decide +kernel) ⟨(show 1 + 1 ≤ (13 + 40 * d) by omega), (show 8 + (2 + 11) + 60 * 1 ≤ 60 * (13 + 40 * d) by omega)⟩) ⟨zPre.blind, va_recv hK hC.1 (ci := 6) (q0 := 3) rfl rfl, cPre_go hZ hK hC⟩ rfl rfl hl.1 rfl (lv_room (Nat.le_of_ble_eq_true rfl)) dX7_throwOne_9 (cAcc h4 mo6 hr9)) hC.2.2.1 (fun q _ h => hFc q h) hFc (fun r7 u9 t9 H1 locs ht hvm hw hB hz1 hk1 hS => ?_)
  obtain ⟨⟨hP, hK1, hD1⟩, hsz1⟩ := hB
  rw [ht] at hP hsz1
  have hC : CP dC dI Q A s.heap p5.2 H1 locs := ⟨hP, hD1.weaken (fun _ _ _ h => hFc _ h), hS, hsz1⟩
  generalize H1 = H at hC ⊢
  have h8 : (CS.hs σ) ≤ CS.hs p5.2 := Nat.le_trans h4 mo6
  refine W.widen (k := CS.hs p5.2 - (CS.hs σ)) (n := 17 * (CS.hs p5.2 - (CS.hs σ))) (cAcc2 h4 mo6) (cAcc3 h4 mo6) ?_
  obtain rfl : r7 = p5.1 := hw
  refine lv_if_eq (tgt := 70) hx hb dX7_throwOne_12 (by decide) (fun c9 => ?_) (fun c9 => ?_)
  ·
    replace hf := (if_pos c9).symm.trans hf
    refine lv_aload_n hx hb dX7_throwOne_70 rfl (lv_at hl 0 rfl) ?_
    refine lv_iconst (v := 2) hx hb dX7_throwOne_71 (by decide) ?_
    obtain ⟨p10, hcp10, hf⟩ := hf_bind hf
    have mo11 : CS.hs p5.2 ≤ CS.hs p10.2 := Mono.go hcp10 (m_X1_found N p5.2 2)
    have hr9 : CS.hs p10.2 ≤ CS.hs R.2 := Mono.go hf (mono_ite (mono_bind (m_X1_misplaced N p10.2) (fun p15 => (m_X7_throwOne_152 N E1 E2 hm1 hm2 p15.2))) (mono_bind (m_X4_find N p10.2 p10.2.l) (fun p23 => (mono_ite (m_X7_throwOne_108 N E1 E2 hm1 hm2 p23.2) (mono_bind (m_X4_isCaught N p23.2 p23.1) (fun p32 => (mono_ite (m_X7_throwOne_108 N E1 E2 hm1 hm2 p32.2) (mono_bind (m_X4_frameOf N p32.2 p23.1) (fun p37 => (mono_bind (m_X0_add N p37.2 64 p37.1) (fun p41 => (mono_bind (m_X9_advance N p41.2) (fun p45 => (m_X7_throwOne_152 N E1 E2 hm1 hm2 p45.2))))))))))))))
    have hFc := cFree hC hA
    refine va_calli (va_runU (As := [.int 2]) (rest := []) ⟨hx, hb, hml, hown, hts⟩ (c_X1_found l dC dI Q N p5.2 2 p10 hcp10) (va_cwU 1 hts hX7_throwOne_X1_found_u110 rfl rfl rfl rfl (by decide +kernel) ⟨(show 1 + 1 ≤ (13 + 40 * d) by omega), (show 8 + (2 + 11) + 60 * 1 ≤ 60 * (13 + 40 * d) by omega)⟩) ⟨zPre.blind, va_recv hK hC.1 (ci := 6) (q0 := 3) rfl rfl, cPre_go hZ hK hC⟩ rfl rfl hl.1 rfl (lv_room (Nat.le_of_ble_eq_true rfl)) dX7_throwOne_72 (cAcc h8 mo11 hr9)) hC.2.2.1 (fun q _ h => hFc q h) hFc (fun r12 u9 t9 H1 locs ht hvm hw hB hz1 hk1 hS => ?_)
    obtain ⟨⟨hP, hK1, hD1⟩, hsz1⟩ := hB
    rw [ht] at hP hsz1
    have hC : CP dC dI Q A s.heap p10.2 H1 locs := ⟨hP, hD1.weaken (fun _ _ _ h => hFc _ h), hS, hsz1⟩
    generalize H1 = H at hC ⊢
    have h13 : (CS.hs σ) ≤ CS.hs p10.2 := Nat.le_trans h8 mo11
    refine W.widen (k := CS.hs p10.2 - (CS.hs σ)) (n := 17 * (CS.hs p10.2 - (CS.hs σ))) (cAcc2 h8 mo11) (cAcc3 h8 mo11) ?_
    obtain rfl : r12 = p10.1 := hw
    refine lv_if_eq (tgt := 148) hx hb dX7_throwOne_75 (by decide) (fun c14 => ?_) (fun c14 => ?_)
    ·
      replace hf := (if_pos c14).symm.trans hf
      refine lv_aload_n hx hb dX7_throwOne_148 rfl (lv_at hl 0 rfl) ?_
      obtain ⟨p15, hcp15, hf⟩ := hf_bind hf
      have mo16 : CS.hs p10.2 ≤ CS.hs p15.2 := Mono.go hcp15 (m_X1_misplaced N p10.2)
      have hr9 : CS.hs p15.2 ≤ CS.hs R.2 := Mono.go hf (m_X7_throwOne_152 N E1 E2 hm1 hm2 p15.2)
      have hFc := cFree hC hA
      refine va_callv (va_runU (As := []) (rest := []) ⟨hx, hb, hml, hown, hts⟩ (c_X1_misplaced l dC dI Q N p10.2 p15 hcp15) (va_cwU 0 hts hX7_throwOne_X1_misplaced_u161 rfl rfl rfl rfl (by decide +kernel) ⟨(show 3 + 1 ≤ (13 + 40 * d) by omega), (show 8 + (1 + 11) + 60 * 3 ≤ 60 * (13 + 40 * d) by omega)⟩) ⟨zPre.blind, va_recv hK hC.1 (ci := 6) (q0 := 3) rfl rfl, cPre_go hZ hK hC⟩ rfl rfl hl.1 rfl (lv_room (Nat.le_of_ble_eq_true rfl)) dX7_throwOne_149 (cAcc h13 mo16 hr9)) hC.2.2.1 (fun q _ h => hFc q h) hFc (fun u9 t9 H1 locs ht hvm hw hB hz1 hk1 hS => ?_)
      obtain ⟨⟨hP, hK1, hD1⟩, hsz1⟩ := hB
      rw [ht] at hP hsz1
      have hC : CP dC dI Q A s.heap p15.2 H1 locs := ⟨hP, hD1.weaken (fun _ _ _ h => hFc _ h), hS, hsz1⟩
      generalize H1 = H at hC ⊢
      have h18 : (CS.hs σ) ≤ CS.hs p15.2 := Nat.le_trans h13 mo16
      refine W.widen (k := CS.hs p15.2 - (CS.hs σ)) (n := 17 * (CS.hs p15.2 - (CS.hs σ))) (cAcc2 h13 mo16) (cAcc3 h13 mo16) ?_
      exact j_X7_throwOne_152 l dC dI Q N d E1 E2 hE1 hE2 hm1 hm2 (CS.hs σ) R hx hb hr hml hown hts hlocks hZ hA hK p15.2 _ _ _ hf h18 hC (lv_sub hl [0] rfl)
    ·
      replace hf := (if_neg c14).symm.trans hf
      refine lv_aload_n hx hb dX7_throwOne_78 rfl (lv_at hl 0 rfl) ?_
      refine cG_31 hx hb hts i_X7_throwOne_X7 hown hK hC (hts (.fieldLink RX7 29 "StatementRules2$Statements" "names" "LStatementRules2$Names;") k_X7_throwOne_fieldLink_RX7_29_SR_Statements_names_LSR_Names) (fun x9 q9 => u_same (hts (.sameField "StatementRules2$Statements" "StatementRules2$Formulas" "names" "LStatementRules2$Names;") k_X7_throwOne_sameField_SR_Statements_SR_Formulas_names_LSR_Names) x9 q9) dX7_throwOne_79 ?_
      refine lv_aload_n hx hb dX7_throwOne_82 rfl (lv_at hl 0 rfl) ?_
      refine cG_28 hx hb hts i_X7_throwOne_X7 hown hK hC (hts (.fieldLink RX7 71 "StatementRules2$Statements" "tokens" "LStatementRules2$Tokens;") k_X7_throwOne_fieldLink_RX7_71_SR_Statements_tokens_LSR_Tokens) (fun x9 q9 => u_same (hts (.sameField "StatementRules2$Statements" "StatementRules2$Formulas" "tokens" "LStatementRules2$Tokens;") k_X7_throwOne_sameField_SR_Statements_SR_Formulas_tokens_LSR_Tokens) x9 q9) dX7_throwOne_83 ?_
      refine cGN_46 (v := p10.2.l) hx hb hts i_X7_throwOne_X9 hown hK hC (va_Nw.use rfl (hZ.1 (.fieldLinkNest RX7 181 "StatementRules2$Tokens" "name" "J" "StatementRules2") (by decide +kernel))) (fun _ q9 => q9) dX7_throwOne_86 rfl ?_
      obtain ⟨p23, hcp23, hf⟩ := hf_bind hf
      have mo24 : CS.hs p10.2 ≤ CS.hs p23.2 := Mono.go hcp23 (m_X4_find N p10.2 p10.2.l)
      have hr9 : CS.hs p23.2 ≤ CS.hs R.2 := Mono.go hf (mono_ite (m_X7_throwOne_108 N E1 E2 hm1 hm2 p23.2) (mono_bind (m_X4_isCaught N p23.2 p23.1) (fun p32 => (mono_ite (m_X7_throwOne_108 N E1 E2 hm1 hm2 p32.2) (mono_bind (m_X4_frameOf N p32.2 p23.1) (fun p37 => (mono_bind (m_X0_add N p37.2 64 p37.1) (fun p41 => (mono_bind (m_X9_advance N p41.2) (fun p45 => (m_X7_throwOne_152 N E1 E2 hm1 hm2 p45.2)))))))))))
      have hFc := cFree hC hA
      refine va_calli (va_runV (As := [.long p10.2.l]) (rest := []) ⟨hx, hb, hml, hown, hts⟩ (c_X4_find l dC dI Q N p10.2 p10.2.l p23 hcp23) (cwV 1 hts hX7_throwOne_X4_find_v199 rfl rfl rfl (by decide +kernel) ⟨(show 1 + 1 ≤ (13 + 40 * d) by omega), (show 8 + (4 + 11) + 60 * 1 ≤ 60 * (13 + 40 * d) by omega)⟩) ⟨zPre.blind, va_recv hK hC.1 (ci := 3) (q0 := 5) rfl rfl, cPre_go hZ hK hC⟩ rfl rfl hl.1 rfl (lv_room (Nat.le_of_ble_eq_true rfl)) dX7_throwOne_89 (cAcc h13 mo24 hr9)) hC.2.2.1 (fun q _ h => hFc q h) hFc (fun r25 u9 t9 H1 locs ht hvm hw hB hz1 hk1 hS => ?_)
      obtain ⟨⟨hP, hK1, hD1⟩, hsz1⟩ := hB
      rw [ht] at hP hsz1
      have hC : CP dC dI Q A s.heap p23.2 H1 locs := ⟨hP, hD1.weaken (fun _ _ _ h => hFc _ h), hS, hsz1⟩
      generalize H1 = H at hC ⊢
      have h26 : (CS.hs σ) ≤ CS.hs p23.2 := Nat.le_trans h13 mo24
      refine W.widen (k := CS.hs p23.2 - (CS.hs σ)) (n := 17 * (CS.hs p23.2 - (CS.hs σ))) (cAcc2 h13 mo24) (cAcc3 h13 mo24) ?_
      obtain rfl : r25 = p23.1 := hw
      refine lv_istore_n (lv' := [(1, .int p23.1), (0, .ref (Q.o 3))]) hx hb dX7_throwOne_92 rfl hl (by decide) rfl (fun ls hl => ?_)
      refine lv_iload_n hx hb dX7_throwOne_93 rfl (lv_at hl 0 rfl) ?_
      refine lv_if_lt (tgt := 108) hx hb dX7_throwOne_94 (by decide) (fun c27 => ?_) (fun c27 => ?_)
      ·
        replace hf := (if_pos c27).symm.trans hf
        exact j_X7_throwOne_108 l dC dI Q N d E1 E2 hE1 hE2 hm1 hm2 (CS.hs σ) R hx hb hr hml hown hts hlocks hZ hA hK p23.2 _ _ _ hf h26 hC (lv_sub hl [1] rfl)
      ·
        replace hf := (if_neg c27).symm.trans hf
        refine lv_aload_n hx hb dX7_throwOne_97 rfl (lv_at hl 1 rfl) ?_
        refine cG_31 hx hb hts i_X7_throwOne_X7 hown hK hC (hts (.fieldLink RX7 29 "StatementRules2$Statements" "names" "LStatementRules2$Names;") k_X7_throwOne_fieldLink_RX7_29_SR_Statements_names_LSR_Names) (fun x9 q9 => u_same (hts (.sameField "StatementRules2$Statements" "StatementRules2$Formulas" "names" "LStatementRules2$Names;") k_X7_throwOne_sameField_SR_Statements_SR_Formulas_names_LSR_Names) x9 q9) dX7_throwOne_98 ?_
        refine lv_iload_n hx hb dX7_throwOne_101 rfl (lv_at hl 0 rfl) ?_
        obtain ⟨p32, hcp32, hf⟩ := hf_bind hf
        have mo33 : CS.hs p23.2 ≤ CS.hs p32.2 := Mono.go hcp32 (m_X4_isCaught N p23.2 p23.1)
        have hr9 : CS.hs p32.2 ≤ CS.hs R.2 := Mono.go hf (mono_ite (m_X7_throwOne_108 N E1 E2 hm1 hm2 p32.2) (mono_bind (m_X4_frameOf N p32.2 p23.1) (fun p37 => (mono_bind (m_X0_add N p37.2 64 p37.1) (fun p41 => (mono_bind (m_X9_advance N p41.2) (fun p45 => (m_X7_throwOne_152 N E1 E2 hm1 hm2 p45.2))))))))
        have hFc := cFree hC hA
        refine va_calli (va_runV (As := [.int p23.1]) (rest := []) ⟨hx, hb, hml, hown, hts⟩ (c_X4_isCaught l dC dI Q N p23.2 p23.1 p32 hcp32) (cwV 1 hts hX7_throwOne_X4_isCaught_v202 rfl rfl rfl (by decide +kernel) ⟨(show 2 + 1 ≤ (13 + 40 * d) by omega), (show 8 + (2 + 11) + 60 * 2 ≤ 60 * (13 + 40 * d) by omega)⟩) ⟨zPre.blind, va_recv hK hC.1 (ci := 3) (q0 := 5) rfl rfl, cPre_go hZ hK hC⟩ rfl rfl hl.1 rfl (lv_room (Nat.le_of_ble_eq_true rfl)) dX7_throwOne_102 (cAcc h26 mo33 hr9)) hC.2.2.1 (fun q _ h => hFc q h) hFc (fun r34 u9 t9 H1 locs ht hvm hw hB hz1 hk1 hS => ?_)
        obtain ⟨⟨hP, hK1, hD1⟩, hsz1⟩ := hB
        rw [ht] at hP hsz1
        have hC : CP dC dI Q A s.heap p32.2 H1 locs := ⟨hP, hD1.weaken (fun _ _ _ h => hFc _ h), hS, hsz1⟩
        generalize H1 = H at hC ⊢
        have h35 : (CS.hs σ) ≤ CS.hs p32.2 := Nat.le_trans h26 mo33
        refine W.widen (k := CS.hs p32.2 - (CS.hs σ)) (n := 17 * (CS.hs p32.2 - (CS.hs σ))) (cAcc2 h26 mo33) (cAcc3 h26 mo33) ?_
        obtain rfl : r34 = p32.1 := hw
        refine lv_if_ne (tgt := 121) hx hb dX7_throwOne_105 (by decide) (fun c36 => ?_) (fun c36 => ?_)
        ·
          replace hf := (if_neg c36).symm.trans hf
          refine lv_aload_n hx hb dX7_throwOne_121 rfl (lv_at hl 1 rfl) ?_
          refine cG_29 hx hb hts i_X7_throwOne_X7 hown hK hC (hts (.fieldLink RX7 20 "StatementRules2$Statements" "code" "LStatementRules2$Code;") k_X7_throwOne_fieldLink_RX7_20_SR_Statements_code_LSR_Code) (fun x9 q9 => u_same (hts (.sameField "StatementRules2$Statements" "StatementRules2$Formulas" "code" "LStatementRules2$Code;") k_X7_throwOne_sameField_SR_Statements_SR_Formulas_code_LSR_Code) x9 q9) dX7_throwOne_122 ?_
          refine lv_bipush (v := 64) hx hb dX7_throwOne_125 (by decide) ?_
          refine lv_aload_n hx hb dX7_throwOne_127 rfl (lv_at hl 1 rfl) ?_
          refine cG_31 hx hb hts i_X7_throwOne_X7 hown hK hC (hts (.fieldLink RX7 29 "StatementRules2$Statements" "names" "LStatementRules2$Names;") k_X7_throwOne_fieldLink_RX7_29_SR_Statements_names_LSR_Names) (fun x9 q9 => u_same (hts (.sameField "StatementRules2$Statements" "StatementRules2$Formulas" "names" "LStatementRules2$Names;") k_X7_throwOne_sameField_SR_Statements_SR_Formulas_names_LSR_Names) x9 q9) dX7_throwOne_128 ?_
          refine lv_iload_n hx hb dX7_throwOne_131 rfl (lv_at hl 0 rfl) ?_
          obtain ⟨p37, hcp37, hf⟩ := hf_bind hf
          have mo38 : CS.hs p32.2 ≤ CS.hs p37.2 := Mono.go hcp37 (m_X4_frameOf N p32.2 p23.1)
          have hr9 : CS.hs p37.2 ≤ CS.hs R.2 := Mono.go hf (mono_bind (m_X0_add N p37.2 64 p37.1) (fun p41 => (mono_bind (m_X9_advance N p41.2) (fun p45 => (m_X7_throwOne_152 N E1 E2 hm1 hm2 p45.2)))))
          have hFc := cFree hC hA
          refine va_calli (va_runV (As := [.int p23.1]) (rest := [.int 64, .ref (Q.o 2)]) ⟨hx, hb, hml, hown, hts⟩ (c_X4_frameOf l dC dI Q N p32.2 p23.1 p37 hcp37) (cwV 1 hts hX7_throwOne_X4_frameOf_v309 rfl rfl rfl (by decide +kernel) ⟨(show 2 + 1 ≤ (13 + 40 * d) by omega), (show 8 + (2 + 11) + 60 * 2 ≤ 60 * (13 + 40 * d) by omega)⟩) ⟨zPre.blind, va_recv hK hC.1 (ci := 3) (q0 := 5) rfl rfl, cPre_go hZ hK hC⟩ rfl rfl hl.1 rfl (lv_room (Nat.le_of_ble_eq_true rfl)) dX7_throwOne_132 (cAcc h35 mo38 hr9)) hC.2.2.1 (fun q _ h => hFc q h) hFc (fun r39 u9 t9 H1 locs ht hvm hw hB hz1 hk1 hS => ?_)
          obtain ⟨⟨hP, hK1, hD1⟩, hsz1⟩ := hB
          rw [ht] at hP hsz1
          have hC : CP dC dI Q A s.heap p37.2 H1 locs := ⟨hP, hD1.weaken (fun _ _ _ h => hFc _ h), hS, hsz1⟩
          generalize H1 = H at hC ⊢
          have h40 : (CS.hs σ) ≤ CS.hs p37.2 := Nat.le_trans h35 mo38
          refine W.widen (k := CS.hs p37.2 - (CS.hs σ)) (n := 17 * (CS.hs p37.2 - (CS.hs σ))) (cAcc2 h35 mo38) (cAcc3 h35 mo38) ?_
          obtain rfl : r39 = p37.1 := hw
          obtain ⟨p41, hcp41, hf⟩ := hf_bind hf
          have mo42 : CS.hs p37.2 ≤ CS.hs p41.2 := Mono.go hcp41 (m_X0_add N p37.2 64 p37.1)
          have hr9 : CS.hs p41.2 ≤ CS.hs R.2 := Mono.go hf (mono_bind (m_X9_advance N p41.2) (fun p45 => (m_X7_throwOne_152 N E1 E2 hm1 hm2 p45.2)))
          have hFc := cFree hC hA
          refine va_callv (va_runV (As := [.int 64, .int p37.1]) (rest := []) ⟨hx, hb, hml, hown, hts⟩ (c_X0_add l dC dI Q N p37.2 64 p37.1 p41 hcp41) (cwV 2 hts hX7_throwOne_X0_add_v176 rfl rfl rfl (by decide +kernel) ⟨(show 2 + 1 ≤ (13 + 40 * d) by omega), (show 8 + (3 + 11) + 60 * 2 ≤ 60 * (13 + 40 * d) by omega)⟩) ⟨zPre.blind, va_recv hK hC.1 (ci := 0) (q0 := 2) rfl rfl, cPre_go hZ hK hC⟩ rfl rfl hl.1 rfl (lv_room (Nat.le_of_ble_eq_true rfl)) dX7_throwOne_135 (cAcc h40 mo42 hr9)) hC.2.2.1 (fun q _ h => hFc q h) hFc (fun u9 t9 H1 locs ht hvm hw hB hz1 hk1 hS => ?_)
          obtain ⟨⟨hP, hK1, hD1⟩, hsz1⟩ := hB
          rw [ht] at hP hsz1
          have hC : CP dC dI Q A s.heap p41.2 H1 locs := ⟨hP, hD1.weaken (fun _ _ _ h => hFc _ h), hS, hsz1⟩
          generalize H1 = H at hC ⊢
          have h44 : (CS.hs σ) ≤ CS.hs p41.2 := Nat.le_trans h40 mo42
          refine W.widen (k := CS.hs p41.2 - (CS.hs σ)) (n := 17 * (CS.hs p41.2 - (CS.hs σ))) (cAcc2 h40 mo42) (cAcc3 h40 mo42) ?_
          refine lv_aload_n hx hb dX7_throwOne_138 rfl (lv_at hl 1 rfl) ?_
          refine cG_28 hx hb hts i_X7_throwOne_X7 hown hK hC (hts (.fieldLink RX7 71 "StatementRules2$Statements" "tokens" "LStatementRules2$Tokens;") k_X7_throwOne_fieldLink_RX7_71_SR_Statements_tokens_LSR_Tokens) (fun x9 q9 => u_same (hts (.sameField "StatementRules2$Statements" "StatementRules2$Formulas" "tokens" "LStatementRules2$Tokens;") k_X7_throwOne_sameField_SR_Statements_SR_Formulas_tokens_LSR_Tokens) x9 q9) dX7_throwOne_139 ?_
          obtain ⟨p45, hcp45, hf⟩ := hf_bind hf
          have mo46 : CS.hs p41.2 ≤ CS.hs p45.2 := Mono.go hcp45 (m_X9_advance N p41.2)
          have hr9 : CS.hs p45.2 ≤ CS.hs R.2 := Mono.go hf (m_X7_throwOne_152 N E1 E2 hm1 hm2 p45.2)
          have hFc := cFree hC hA
          refine va_callv (va_runV (As := []) (rest := []) ⟨hx, hb, hml, hown, hts⟩ (c_X9_advance l dC dI Q N p41.2 p45 hcp45) (cwV 0 hts hX7_throwOne_X9_advance_v146 rfl rfl rfl (by decide +kernel) ⟨(show 3 + 1 ≤ (13 + 40 * d) by omega), (show 8 + (2 + 11) + 60 * 3 ≤ 60 * (13 + 40 * d) by omega)⟩) ⟨zPre.blind, va_recv hK hC.1 (ci := 8) (q0 := 4) rfl rfl, cPre_go hZ hK hC⟩ rfl rfl hl.1 rfl (lv_room (Nat.le_of_ble_eq_true rfl)) dX7_throwOne_142 (cAcc h44 mo46 hr9)) hC.2.2.1 (fun q _ h => hFc q h) hFc (fun u9 t9 H1 locs ht hvm hw hB hz1 hk1 hS => ?_)
          obtain ⟨⟨hP, hK1, hD1⟩, hsz1⟩ := hB
          rw [ht] at hP hsz1
          have hC : CP dC dI Q A s.heap p45.2 H1 locs := ⟨hP, hD1.weaken (fun _ _ _ h => hFc _ h), hS, hsz1⟩
          generalize H1 = H at hC ⊢
          have h48 : (CS.hs σ) ≤ CS.hs p45.2 := Nat.le_trans h44 mo46
          refine W.widen (k := CS.hs p45.2 - (CS.hs σ)) (n := 17 * (CS.hs p45.2 - (CS.hs σ))) (cAcc2 h44 mo46) (cAcc3 h44 mo46) ?_
          refine lv_goto (tgt := 152) hx hb dX7_throwOne_145 (by decide) ?_
          exact j_X7_throwOne_152 l dC dI Q N d E1 E2 hE1 hE2 hm1 hm2 (CS.hs σ) R hx hb hr hml hown hts hlocks hZ hA hK p45.2 _ _ _ hf h48 hC (lv_sub hl [1] rfl)
        ·
          replace hf := (if_pos c36).symm.trans hf
          exact j_X7_throwOne_108 l dC dI Q N d E1 E2 hE1 hE2 hm1 hm2 (CS.hs σ) R hx hb hr hml hown hts hlocks hZ hA hK p32.2 _ _ _ hf h35 hC (lv_sub hl [1] rfl)
  ·
    replace hf := (if_neg c9).symm.trans hf
    refine lv_aload_n hx hb dX7_throwOne_15 rfl (lv_at hl 0 rfl) ?_
    refine cG_28 hx hb hts i_X7_throwOne_X7 hown hK hC (hts (.fieldLink RX7 71 "StatementRules2$Statements" "tokens" "LStatementRules2$Tokens;") k_X7_throwOne_fieldLink_RX7_71_SR_Statements_tokens_LSR_Tokens) (fun x9 q9 => u_same (hts (.sameField "StatementRules2$Statements" "StatementRules2$Formulas" "tokens" "LStatementRules2$Tokens;") k_X7_throwOne_sameField_SR_Statements_SR_Formulas_tokens_LSR_Tokens) x9 q9) dX7_throwOne_16 ?_
    refine cGN_45 (v := (p5.2.i 45)) hx hb hts i_X7_throwOne_X9 hown hK hC (va_Nw.use rfl (hZ.1 (.fieldLinkNest RX7 297 "StatementRules2$Tokens" "value" "I" "StatementRules2") (by decide +kernel))) (fun _ q9 => q9) dX7_throwOne_19 rfl ?_
    refine lv_istore_n (lv' := [(1, .int (p5.2.i 45)), (0, .ref (Q.o 3))]) hx hb dX7_throwOne_22 rfl hl (by decide) rfl (fun ls hl => ?_)
    refine lv_aload_n hx hb dX7_throwOne_23 rfl (lv_at hl 1 rfl) ?_
    refine cG_30 hx hb hts i_X7_throwOne_X7 hown hK hC (hts (.fieldLink RX7 300 "StatementRules2$Statements" "told" "LStatementRules2$Told;") k_X7_throwOne_fieldLink_RX7_300_SR_Statements_told_LSR_Told) (fun x9 q9 => u_same (hts (.sameField "StatementRules2$Statements" "StatementRules2$Formulas" "told" "LStatementRules2$Told;") k_X7_throwOne_sameField_SR_Statements_SR_Formulas_told_LSR_Told) x9 q9) dX7_throwOne_24 ?_
    refine lv_iload_n hx hb dX7_throwOne_27 rfl (lv_at hl 0 rfl) ?_
    obtain ⟨p49, hcp49, hf⟩ := hf_bind hf
    have mo50 : CS.hs p5.2 ≤ CS.hs p49.2 := Mono.go hcp49 (m_X10_isKind N p5.2 (p5.2.i 45))
    have hr9 : CS.hs p49.2 ≤ CS.hs R.2 := Mono.go hf (mono_ite (mono_bind (m_X1_fail N p49.2 3 (p49.2.i 44)) (fun p66 => (m_X7_throwOne_46 N E1 E2 hm1 hm2 p66.2 (p5.2.i 45)))) (m_X7_throwOne_46 N E1 E2 hm1 hm2 p49.2 (p5.2.i 45)))
    have hFc := cFree hC hA
    refine va_calli (va_runV (As := [.int (p5.2.i 45)]) (rest := []) ⟨hx, hb, hml, hown, hts⟩ (c_X10_isKind l dC dI Q N p5.2 (p5.2.i 45) p49 hcp49) (cwV 1 hts hX7_throwOne_X10_isKind_v304 rfl rfl rfl (by decide +kernel) ⟨(show 1 + 1 ≤ (13 + 40 * d) by omega), (show 8 + (2 + 11) + 60 * 1 ≤ 60 * (13 + 40 * d) by omega)⟩) ⟨zPre.blind, va_recv hK hC.1 (ci := 9) (q0 := 1) rfl rfl, cPre_go hZ hK hC⟩ rfl rfl hl.1 rfl (lv_room (Nat.le_of_ble_eq_true rfl)) dX7_throwOne_28 (cAcc h8 mo50 hr9)) hC.2.2.1 (fun q _ h => hFc q h) hFc (fun r51 u9 t9 H1 locs ht hvm hw hB hz1 hk1 hS => ?_)
    obtain ⟨⟨hP, hK1, hD1⟩, hsz1⟩ := hB
    rw [ht] at hP hsz1
    have hC : CP dC dI Q A s.heap p49.2 H1 locs := ⟨hP, hD1.weaken (fun _ _ _ h => hFc _ h), hS, hsz1⟩
    generalize H1 = H at hC ⊢
    have h52 : (CS.hs σ) ≤ CS.hs p49.2 := Nat.le_trans h8 mo50
    refine W.widen (k := CS.hs p49.2 - (CS.hs σ)) (n := 17 * (CS.hs p49.2 - (CS.hs σ))) (cAcc2 h8 mo50) (cAcc3 h8 mo50) ?_
    obtain rfl : r51 = p49.1 := hw
    refine lv_if_ne (tgt := 46) hx hb dX7_throwOne_31 (by decide) (fun c53 => ?_) (fun c53 => ?_)
    ·
      replace hf := (if_neg c53).symm.trans hf
      exact j_X7_throwOne_46 l dC dI Q N d E1 E2 hE1 hE2 hm1 hm2 (CS.hs σ) R hx hb hr hml hown hts hlocks hZ hA hK p49.2 (p5.2.i 45) _ _ _ hf h52 hC (lv_sub hl [1, 0] rfl)
    ·
      replace hf := (if_pos c53).symm.trans hf
      refine lv_aload_n hx hb dX7_throwOne_34 rfl (lv_at hl 1 rfl) ?_
      refine lv_iconst (v := 3) hx hb dX7_throwOne_35 (by decide) ?_
      refine lv_aload_n hx hb dX7_throwOne_36 rfl (lv_at hl 1 rfl) ?_
      refine cG_28 hx hb hts i_X7_throwOne_X7 hown hK hC (hts (.fieldLink RX7 71 "StatementRules2$Statements" "tokens" "LStatementRules2$Tokens;") k_X7_throwOne_fieldLink_RX7_71_SR_Statements_tokens_LSR_Tokens) (fun x9 q9 => u_same (hts (.sameField "StatementRules2$Statements" "StatementRules2$Formulas" "tokens" "LStatementRules2$Tokens;") k_X7_throwOne_sameField_SR_Statements_SR_Formulas_tokens_LSR_Tokens) x9 q9) dX7_throwOne_37 ?_
      refine cGN_44 (v := (p49.2.i 44)) hx hb hts i_X7_throwOne_X9 hown hK hC (va_Nw.use rfl (hZ.1 (.fieldLinkNest RX7 143 "StatementRules2$Tokens" "place" "I" "StatementRules2") (by decide +kernel))) (fun _ q9 => q9) dX7_throwOne_40 rfl ?_
      obtain ⟨p66, hcp66, hf⟩ := hf_bind hf
      have mo67 : CS.hs p49.2 ≤ CS.hs p66.2 := Mono.go hcp66 (m_X1_fail N p49.2 3 (p49.2.i 44))
      have hr9 : CS.hs p66.2 ≤ CS.hs R.2 := Mono.go hf (m_X7_throwOne_46 N E1 E2 hm1 hm2 p66.2 (p5.2.i 45))
      have hFc := cFree hC hA
      refine va_callv (va_runU (As := [.int 3, .int (p49.2.i 44)]) (rest := []) ⟨hx, hb, hml, hown, hts⟩ (c_X1_fail l dC dI Q N p49.2 3 (p49.2.i 44) p66 hcp66) (va_cwU 2 hts hX7_throwOne_X1_fail_u88 rfl rfl rfl rfl (by decide +kernel) ⟨(show 2 + 1 ≤ (13 + 40 * d) by omega), (show 8 + (3 + 11) + 60 * 2 ≤ 60 * (13 + 40 * d) by omega)⟩) ⟨zPre.blind, va_recv hK hC.1 (ci := 6) (q0 := 3) rfl rfl, cPre_go hZ hK hC⟩ rfl rfl hl.1 rfl (lv_room (Nat.le_of_ble_eq_true rfl)) dX7_throwOne_43 (cAcc h52 mo67 hr9)) hC.2.2.1 (fun q _ h => hFc q h) hFc (fun u9 t9 H1 locs ht hvm hw hB hz1 hk1 hS => ?_)
      obtain ⟨⟨hP, hK1, hD1⟩, hsz1⟩ := hB
      rw [ht] at hP hsz1
      have hC : CP dC dI Q A s.heap p66.2 H1 locs := ⟨hP, hD1.weaken (fun _ _ _ h => hFc _ h), hS, hsz1⟩
      generalize H1 = H at hC ⊢
      have h69 : (CS.hs σ) ≤ CS.hs p66.2 := Nat.le_trans h52 mo67
      refine W.widen (k := CS.hs p66.2 - (CS.hs σ)) (n := 17 * (CS.hs p66.2 - (CS.hs σ))) (cAcc2 h52 mo67) (cAcc3 h52 mo67) ?_
      exact j_X7_throwOne_46 l dC dI Q N d E1 E2 hE1 hE2 hm1 hm2 (CS.hs σ) R hx hb hr hml hown hts hlocks hZ hA hK p66.2 (p5.2.i 45) _ _ _ hf h69 hC (lv_sub hl [1, 0] rfl)
theorem k_X7_claim_fieldLink_RX7_20_SR_Statements_code_LSR_Code : Cond.fieldLink RX7 20 "StatementRules2$Statements" "code" "LStatementRules2$Code;" ∈ wzX7_claim := List.mem_cons_of_mem _ (List.mem_append_right _ (List.mem_append_right _ (List.mem_append_right _ (List.mem_append_right _ (List.mem_append_right _ (List.mem_append_right _ (List.mem_append_right _ (List.mem_append_right _ (List.mem_append_right _ (List.mem_append_right _ (List.mem_append_right _ (List.mem_append_right _ (List.mem_append_right _ (List.mem_append_right _ (List.mem_append_right _ (List.mem_append_right _ (List.mem_append_right _ (List.mem_append_right _ (List.mem_append_right _ (List.mem_append_left _ (List.mem_of_getElem? (i := 0) rfl)))))))))))))))))))))
theorem k_X7_claim_sameField_SR_Statements_SR_Formulas_code_LSR_Code : Cond.sameField "StatementRules2$Statements" "StatementRules2$Formulas" "code" "LStatementRules2$Code;" ∈ wzX7_claim := List.mem_cons_of_mem _ (List.mem_append_right _ (List.mem_append_right _ (List.mem_append_right _ (List.mem_append_right _ (List.mem_append_right _ (List.mem_append_right _ (List.mem_append_right _ (List.mem_append_right _ (List.mem_append_right _ (List.mem_append_right _ (List.mem_append_right _ (List.mem_append_right _ (List.mem_append_right _ (List.mem_append_right _ (List.mem_append_right _ (List.mem_append_right _ (List.mem_append_right _ (List.mem_append_right _ (List.mem_append_right _ (List.mem_append_left _ (List.mem_of_getElem? (i := 1) rfl)))))))))))))))))))))
theorem i_X7_claim_X7 : ∀ w ∈ wsX70, w ∈ wzX7_claim := fun _ h => List.mem_cons_of_mem _ (List.mem_append_right _ (List.mem_append_right _ (List.mem_append_right _ (List.mem_append_right _ (List.mem_append_right _ (List.mem_append_right _ (List.mem_append_right _ (List.mem_append_right _ (List.mem_append_right _ (List.mem_append_right _ (List.mem_append_right _ (List.mem_append_right _ (List.mem_append_right _ (List.mem_append_right _ (List.mem_append_right _ (List.mem_append_right _ (List.mem_append_right _ (List.mem_append_right _ (List.mem_append_right _ (List.mem_append_right _ (List.mem_append_right _ (List.mem_append_right _ (List.mem_append_right _ (List.mem_append_right _ (List.mem_append_right _ (List.mem_append_right _ (List.mem_append_right _ (List.mem_append_right _ (List.mem_append_right _ (List.mem_append_right _ (List.mem_append_right _ (List.mem_append_right _ (List.mem_append_right _ (List.mem_append_right _ (List.mem_append_right _ (List.mem_append_right _ (List.mem_append_left _ (h))))))))))))))))))))))))))))))))))))))
theorem k_X7_claim_fieldLink_RX7_71_SR_Statements_tokens_LSR_Tokens : Cond.fieldLink RX7 71 "StatementRules2$Statements" "tokens" "LStatementRules2$Tokens;" ∈ wzX7_claim := List.mem_cons_of_mem _ (List.mem_append_right _ (List.mem_append_right _ (List.mem_append_right _ (List.mem_append_right _ (List.mem_append_right _ (List.mem_append_right _ (List.mem_append_right _ (List.mem_append_right _ (List.mem_append_right _ (List.mem_append_right _ (List.mem_append_right _ (List.mem_append_right _ (List.mem_append_right _ (List.mem_append_right _ (List.mem_append_right _ (List.mem_append_right _ (List.mem_append_right _ (List.mem_append_right _ (List.mem_append_right _ (List.mem_append_left _ (List.mem_of_getElem? (i := 2) rfl)))))))))))))))))))))
theorem k_X7_claim_sameField_SR_Statements_SR_Formulas_tokens_LSR_Tokens : Cond.sameField "StatementRules2$Statements" "StatementRules2$Formulas" "tokens" "LStatementRules2$Tokens;" ∈ wzX7_claim := List.mem_cons_of_mem _ (List.mem_append_right _ (List.mem_append_right _ (List.mem_append_right _ (List.mem_append_right _ (List.mem_append_right _ (List.mem_append_right _ (List.mem_append_right _ (List.mem_append_right _ (List.mem_append_right _ (List.mem_append_right _ (List.mem_append_right _ (List.mem_append_right _ (List.mem_append_right _ (List.mem_append_right _ (List.mem_append_right _ (List.mem_append_right _ (List.mem_append_right _ (List.mem_append_right _ (List.mem_append_right _ (List.mem_append_left _ (List.mem_of_getElem? (i := 3) rfl)))))))))))))))))))))
set_option maxHeartbeats 4000000 in
set_option maxRecDepth 100000 in
theorem j_X7_claim_74 {p : Program} {e : Env} {s : State} {m : MethodId} {args : Array Value} {below : List Frame} {meth : Method} {c : Code} {A : Nat → Prop} (l : Launch) (dC : Nat → ClassId) (dI : Nat → Nat → Nat) (Q : CQ) (N : Nat) (d : Nat) (E1 : CS → Option (Unit × CS)) (E2 : CS → Option (Int32 × CS)) (hE1 : cMF l dC dI Q d E1) (hE2 : cMO l dC dI Q d E2) (hm1 : ∀ σ, Mono (CS.hs σ) (E1 σ)) (hm2 : ∀ σ, Mono (CS.hs σ) (E2 σ)) (z9h : Nat) (R : Unit × CS) (hx : p.tables.exec = Jvm.exec) (hb : c.code = cX7_claim) (hr : meth.sig.returnType = none) (hml : c.maxLocals = 2) (hown : s.vm.findClass RX7 = some m.cls) (hts : ∀ w ∈ wzX7_claim, w.before args s = true) (hlocks : meth.locks = false) (hZ : zAMB s) (hA : ∀ q : Nat, s.heap.size ≤ q → A q) (hK : va_K (dC, dI) vwCl (cT Q) s) : ∀ (σ : CS) (x1 : Int32) (H : Heap) (locs : List Loc) (ls : Array Slot), f_X7_claim_74 N E1 E2 σ x1 = some R → z9h ≤ CS.hs σ → CP dC dI Q A s.heap σ H locs → lv_has ls 2 [(0, .ref (Q.o 3)), (1, .int x1)] → W p l e ({ frames := (13 + 40 * d), cells := CS.hs R.2 - z9h, slots := 17 * (CS.hs R.2 - z9h), locals := 60 * (13 + 40 * d) }) s m args below meth c H locs (CS.hs σ - z9h) (17 * (CS.hs σ - z9h)) (MQ below (va_Qv (fun (_ : Unit) => True) (fun (_ : Unit) (t : State) => zPost dC dI A (cW Q R.2) (cT Q) t ∧ t.heap.size = CS.hs R.2) A) args s (CS.hs R.2 - z9h) (17 * (CS.hs R.2 - z9h)) A) (F0 m 74 ls []) := by
  intro σ x1 H locs ls hf h0 hC hl
  unfold f_X7_claim_74 at hf
  refine lv_aload_n hx hb dX7_claim_74 rfl (lv_at hl 0 rfl) ?_
  refine cG_29 hx hb hts i_X7_claim_X7 hown hK hC (hts (.fieldLink RX7 20 "StatementRules2$Statements" "code" "LStatementRules2$Code;") k_X7_claim_fieldLink_RX7_20_SR_Statements_code_LSR_Code) (fun x9 q9 => u_same (hts (.sameField "StatementRules2$Statements" "StatementRules2$Formulas" "code" "LStatementRules2$Code;") k_X7_claim_sameField_SR_Statements_SR_Formulas_code_LSR_Code) x9 q9) dX7_claim_75 ?_
  refine lv_bipush (v := 63) hx hb dX7_claim_78 (by decide) ?_
  refine lv_iconst (v := 3) hx hb dX7_claim_80 (by decide) ?_
  obtain ⟨p34, hcp34, hf⟩ := hf_bind hf
  have mo35 : CS.hs σ ≤ CS.hs p34.2 := Mono.go hcp34 (m_X0_add N σ 63 3)
  have hr9 : CS.hs p34.2 ≤ CS.hs R.2 := Mono.go hf (mono_bind (m_X0_aim N p34.2 x1) (fun p38 => (mono_bind (m_X1_expect N p38.2 59) (fun p42 => (mono_some (Nat.le_refl _))))))
  have hFc := cFree hC hA
  refine va_callv (va_runV (As := [.int 63, .int 3]) (rest := []) ⟨hx, hb, hml, hown, hts⟩ (c_X0_add l dC dI Q N σ 63 3 p34 hcp34) (cwV 2 hts hX7_claim_X0_add_v176 rfl rfl rfl (by decide +kernel) ⟨(show 2 + 1 ≤ (13 + 40 * d) by omega), (show 8 + (3 + 11) + 60 * 2 ≤ 60 * (13 + 40 * d) by omega)⟩) ⟨zPre.blind, va_recv hK hC.1 (ci := 0) (q0 := 2) rfl rfl, cPre_go hZ hK hC⟩ rfl rfl hl.1 rfl (lv_room (Nat.le_of_ble_eq_true rfl)) dX7_claim_81 (cAcc h0 mo35 hr9)) hC.2.2.1 (fun q _ h => hFc q h) hFc (fun u9 t9 H1 locs ht hvm hw hB hz1 hk1 hS => ?_)
  obtain ⟨⟨hP, hK1, hD1⟩, hsz1⟩ := hB
  rw [ht] at hP hsz1
  have hC : CP dC dI Q A s.heap p34.2 H1 locs := ⟨hP, hD1.weaken (fun _ _ _ h => hFc _ h), hS, hsz1⟩
  generalize H1 = H at hC ⊢
  have h37 : z9h ≤ CS.hs p34.2 := Nat.le_trans h0 mo35
  refine W.widen (k := CS.hs p34.2 - z9h) (n := 17 * (CS.hs p34.2 - z9h)) (cAcc2 h0 mo35) (cAcc3 h0 mo35) ?_
  refine lv_aload_n hx hb dX7_claim_84 rfl (lv_at hl 0 rfl) ?_
  refine cG_29 hx hb hts i_X7_claim_X7 hown hK hC (hts (.fieldLink RX7 20 "StatementRules2$Statements" "code" "LStatementRules2$Code;") k_X7_claim_fieldLink_RX7_20_SR_Statements_code_LSR_Code) (fun x9 q9 => u_same (hts (.sameField "StatementRules2$Statements" "StatementRules2$Formulas" "code" "LStatementRules2$Code;") k_X7_claim_sameField_SR_Statements_SR_Formulas_code_LSR_Code) x9 q9) dX7_claim_85 ?_
  refine lv_iload_n hx hb dX7_claim_88 rfl (lv_at hl 1 rfl) ?_
  obtain ⟨p38, hcp38, hf⟩ := hf_bind hf
  have mo39 : CS.hs p34.2 ≤ CS.hs p38.2 := Mono.go hcp38 (m_X0_aim N p34.2 x1)
  have hr9 : CS.hs p38.2 ≤ CS.hs R.2 := Mono.go hf (mono_bind (m_X1_expect N p38.2 59) (fun p42 => (mono_some (Nat.le_refl _))))
  have hFc := cFree hC hA
  refine va_callv (va_runV (As := [.int x1]) (rest := []) ⟨hx, hb, hml, hown, hts⟩ (c_X0_aim l dC dI Q N p34.2 x1 p38 hcp38) (cwV 1 hts hX7_claim_X0_aim_v158 rfl rfl rfl (by decide +kernel) ⟨(show 2 + 1 ≤ (13 + 40 * d) by omega), (show 8 + (2 + 11) + 60 * 2 ≤ 60 * (13 + 40 * d) by omega)⟩) ⟨zPre.blind, va_recv hK hC.1 (ci := 0) (q0 := 2) rfl rfl, cPre_go hZ hK hC⟩ rfl rfl hl.1 rfl (lv_room (Nat.le_of_ble_eq_true rfl)) dX7_claim_89 (cAcc h37 mo39 hr9)) hC.2.2.1 (fun q _ h => hFc q h) hFc (fun u9 t9 H1 locs ht hvm hw hB hz1 hk1 hS => ?_)
  obtain ⟨⟨hP, hK1, hD1⟩, hsz1⟩ := hB
  rw [ht] at hP hsz1
  have hC : CP dC dI Q A s.heap p38.2 H1 locs := ⟨hP, hD1.weaken (fun _ _ _ h => hFc _ h), hS, hsz1⟩
  generalize H1 = H at hC ⊢
  have h41 : z9h ≤ CS.hs p38.2 := Nat.le_trans h37 mo39
  refine W.widen (k := CS.hs p38.2 - z9h) (n := 17 * (CS.hs p38.2 - z9h)) (cAcc2 h37 mo39) (cAcc3 h37 mo39) ?_
  refine lv_aload_n hx hb dX7_claim_92 rfl (lv_at hl 0 rfl) ?_
  refine lv_bipush (v := 59) hx hb dX7_claim_93 (by decide) ?_
  obtain ⟨p42, hcp42, hf⟩ := hf_bind hf
  have mo43 : CS.hs p38.2 ≤ CS.hs p42.2 := Mono.go hcp42 (m_X1_expect N p38.2 59)
  have hr9 : CS.hs p42.2 ≤ CS.hs R.2 := Mono.go hf (mono_some (Nat.le_refl _))
  have hFc := cFree hC hA
  refine va_callv (va_runU (As := [.int 59]) (rest := []) ⟨hx, hb, hml, hown, hts⟩ (c_X1_expect l dC dI Q N p38.2 59 p42 hcp42) (va_cwU 1 hts hX7_claim_X1_expect_u155 rfl rfl rfl rfl (by decide +kernel) ⟨(show 4 + 1 ≤ (13 + 40 * d) by omega), (show 8 + (2 + 11) + 60 * 4 ≤ 60 * (13 + 40 * d) by omega)⟩) ⟨zPre.blind, va_recv hK hC.1 (ci := 6) (q0 := 3) rfl rfl, cPre_go hZ hK hC⟩ rfl rfl hl.1 rfl (lv_room (Nat.le_of_ble_eq_true rfl)) dX7_claim_95 (cAcc h41 mo43 hr9)) hC.2.2.1 (fun q _ h => hFc q h) hFc (fun u9 t9 H1 locs ht hvm hw hB hz1 hk1 hS => ?_)
  obtain ⟨⟨hP, hK1, hD1⟩, hsz1⟩ := hB
  rw [ht] at hP hsz1
  have hC : CP dC dI Q A s.heap p42.2 H1 locs := ⟨hP, hD1.weaken (fun _ _ _ h => hFc _ h), hS, hsz1⟩
  generalize H1 = H at hC ⊢
  have h45 : z9h ≤ CS.hs p42.2 := Nat.le_trans h41 mo43
  refine W.widen (k := CS.hs p42.2 - z9h) (n := 17 * (CS.hs p42.2 - z9h)) (cAcc2 h41 mo43) (cAcc3 h41 mo43) ?_
  obtain rfl := Option.some.inj hf
  exact W.vret hx hb hr (fun t ht hW => ⟨⟨(), rfl, trivial, ⟨by rw [ht]; exact hC.1, va_K.moved hW.alike hK, hC.2.1⟩, by rw [ht]; exact hC.2.2.2⟩, hC.2.2.1.F ht⟩) hC.2.2.1.2.2 dX7_claim_98
set_option maxHeartbeats 4000000 in
set_option maxRecDepth 100000 in
theorem c_X7_claim (l : Launch) (dC : Nat → ClassId) (dI : Nat → Nat → Nat) (Q : CQ) (N : Nat) (d : Nat) (E1 : CS → Option (Unit × CS)) (E2 : CS → Option (Int32 × CS)) (hE1 : cMF l dC dI Q d E1) (hE2 : cMO l dC dI Q d E2) (hm1 : ∀ σ, Mono (CS.hs σ) (E1 σ)) (hm2 : ∀ σ, Mono (CS.hs σ) (E2 σ)) (σ : CS) (R : Unit × CS) (hf : f_X7_claim N E1 E2 σ = some R) : Met l yX7_claim wzX7_claim ({ frames := (13 + 40 * d), cells := CS.hs R.2 - CS.hs σ, slots := 17 * (CS.hs R.2 - CS.hs σ), locals := 60 * (13 + 40 * d) }) (va_Pc [.ref (Q.o 3)] (zPre dC dI (CS.hs σ) (cW Q σ) (cT Q))) (va_Qv (fun (_ : Unit) => True) (fun (_ : Unit) (t : State) => zPost dC dI (va_A (cW Q σ) (CS.hs σ)) (cW Q R.2) (cT Q) t ∧ t.heap.size = CS.hs R.2) (va_A (cW Q σ) (CS.hs σ))) (CS.hs R.2 - CS.hs σ) (17 * (CS.hs R.2 - CS.hs σ)) (va_A (cW Q σ) (CS.hs σ)) := by
  refine Met.ofW (cc := cX7_claim) (maxL := 2) (ret := none) (by decide) rfl ?_
  intro p e s m args below meth c s₁ B hml hv
  obtain ⟨rfl, hsz, hZ, hP, hK, hD0⟩ := hv
  have hx := B.exec
  have hb := B.bytes
  have hr := B.returns
  have hts := atoms_spec (ws := wzX7_claim) B.pre
  have hown : s.vm.findClass RX7 = some m.cls := findClass_of_methodNamed B.named
  have hlocks := B.notSynchronized
  have hD := hD0.self (sz := CS.hs σ)
  generalize hAe : va_A (cW Q σ) (CS.hs σ) = A at hD ⊢
  have hA : ∀ q : Nat, s.heap.size ≤ q → A q := fun q h => by rw [← hAe]; exact Or.inr (hsz ▸ h)
  have hC : CP dC dI Q A s.heap σ s.heap [] := ⟨hP, hD, va_S.rf, hsz⟩
  have h0 : CS.hs σ ≤ CS.hs σ := Nat.le_refl _
  have hl := lv_entry ([.ref (Q.o 3)]) (n := 2) (Nat.le_of_ble_eq_true rfl)
  rw [lg_entry_eq]
  generalize (lg_sl ([.ref (Q.o 3)]) ++ List.replicate (2 - (lg_sl ([.ref (Q.o 3)])).length) Slot.unset).toArray = ls at hl ⊢
  have hl : lv_has ls 2 [(0, .ref (Q.o 3))] := hl
  unfold f_X7_claim at hf
  refine W.widen (k := CS.hs σ - CS.hs σ) (n := 17 * (CS.hs σ - CS.hs σ)) (Nat.zero_le _) (Nat.zero_le _) ?_
  refine lv_aload_n hx hb dX7_claim_0 rfl (lv_at hl 0 rfl) ?_
  refine cG_29 hx hb hts i_X7_claim_X7 hown hK hC (hts (.fieldLink RX7 20 "StatementRules2$Statements" "code" "LStatementRules2$Code;") k_X7_claim_fieldLink_RX7_20_SR_Statements_code_LSR_Code) (fun x9 q9 => u_same (hts (.sameField "StatementRules2$Statements" "StatementRules2$Formulas" "code" "LStatementRules2$Code;") k_X7_claim_sameField_SR_Statements_SR_Formulas_code_LSR_Code) x9 q9) dX7_claim_1 ?_
  obtain ⟨p1, hcp1, hf⟩ := hf_bind hf
  have mo2 : CS.hs σ ≤ CS.hs p1.2 := Mono.go hcp1 (m_X0_newTarget N σ)
  have hr9 : CS.hs p1.2 ≤ CS.hs R.2 := Mono.go hf (mono_bind (m_X9_advance N p1.2) (fun p5 => (mono_bind (m_X0_add N p5.2 35 p1.1) (fun p9 => (mono_bind (m_X1_condition N E1 E2 hm1 hm2 p9.2) (fun p13 => (mono_bind (m_X0_add N p13.2 5 0) (fun p17 => (mono_bind (m_X0_add N p17.2 31 p1.1) (fun p21 => (mono_bind (m_X1_skip N p21.2 58) (fun p25 => (mono_ite (mono_bind (m_X0_add N p25.2 0 0) (fun p30 => (m_X7_claim_74 N E1 E2 hm1 hm2 p30.2 p1.1))) (mono_bind (m_X1_expression N E1 E2 hm1 hm2 p25.2) (fun p46 => (m_X7_claim_74 N E1 E2 hm1 hm2 p46.2 p1.1))))))))))))))))
  have hFc := cFree hC hA
  refine va_calli (va_runV (As := []) (rest := []) ⟨hx, hb, hml, hown, hts⟩ (c_X0_newTarget l dC dI Q N σ p1 hcp1) (cwV 0 hts hX7_claim_X0_newTarget_v136 rfl rfl rfl (by decide +kernel) ⟨(show 2 + 1 ≤ (13 + 40 * d) by omega), (show 8 + (1 + 11) + 60 * 2 ≤ 60 * (13 + 40 * d) by omega)⟩) ⟨zPre.blind, va_recv hK hC.1 (ci := 0) (q0 := 2) rfl rfl, cPre_go hZ hK hC⟩ rfl rfl hl.1 rfl (lv_room (Nat.le_of_ble_eq_true rfl)) dX7_claim_4 (cAcc h0 mo2 hr9)) hC.2.2.1 (fun q _ h => hFc q h) hFc (fun r3 u9 t9 H1 locs ht hvm hw hB hz1 hk1 hS => ?_)
  obtain ⟨⟨hP, hK1, hD1⟩, hsz1⟩ := hB
  rw [ht] at hP hsz1
  have hC : CP dC dI Q A s.heap p1.2 H1 locs := ⟨hP, hD1.weaken (fun _ _ _ h => hFc _ h), hS, hsz1⟩
  generalize H1 = H at hC ⊢
  have h4 : (CS.hs σ) ≤ CS.hs p1.2 := Nat.le_trans h0 mo2
  refine W.widen (k := CS.hs p1.2 - (CS.hs σ)) (n := 17 * (CS.hs p1.2 - (CS.hs σ))) (cAcc2 h0 mo2) (cAcc3 h0 mo2) ?_
  obtain rfl : r3 = p1.1 := hw
  refine lv_istore_n (lv' := [(1, .int p1.1), (0, .ref (Q.o 3))]) hx hb dX7_claim_7 rfl hl (by decide) rfl (fun ls hl => ?_)
  refine lv_aload_n hx hb dX7_claim_8 rfl (lv_at hl 1 rfl) ?_
  refine cG_28 hx hb hts i_X7_claim_X7 hown hK hC (hts (.fieldLink RX7 71 "StatementRules2$Statements" "tokens" "LStatementRules2$Tokens;") k_X7_claim_fieldLink_RX7_71_SR_Statements_tokens_LSR_Tokens) (fun x9 q9 => u_same (hts (.sameField "StatementRules2$Statements" "StatementRules2$Formulas" "tokens" "LStatementRules2$Tokens;") k_X7_claim_sameField_SR_Statements_SR_Formulas_tokens_LSR_Tokens) x9 q9) dX7_claim_9 ?_
  obtain ⟨p5, hcp5, hf⟩ := hf_bind hf
  have mo6 : CS.hs p1.2 ≤ CS.hs p5.2 := Mono.go hcp5 (m_X9_advance N p1.2)
  have hr9 : CS.hs p5.2 ≤ CS.hs R.2 := Mono.go hf (mono_bind (m_X0_add N p5.2 35 p1.1) (fun p9 => (mono_bind (m_X1_condition N E1 E2 hm1 hm2 p9.2) (fun p13 => (mono_bind (m_X0_add N p13.2 5 0) (fun p17 => (mono_bind (m_X0_add N p17.2 31 p1.1) (fun p21 => (mono_bind (m_X1_skip N p21.2 58) (fun p25 => (mono_ite (mono_bind (m_X0_add N p25.2 0 0) (fun p30 => (m_X7_claim_74 N E1 E2 hm1 hm2 p30.2 p1.1))) (mono_bind (m_X1_expression N E1 E2 hm1 hm2 p25.2) (fun p46 => (m_X7_claim_74 N E1 E2 hm1 hm2 p46.2 p1.1))))))))))))))
  have hFc := cFree hC hA
  refine va_callv (va_runV (As := []) (rest := []) ⟨hx, hb, hml, hown, hts⟩ (c_X9_advance l dC dI Q N p1.2 p5 hcp5) (cwV 0 hts hX7_claim_X9_advance_v146 rfl rfl rfl (by decide +kernel) ⟨(show 3 + 1 ≤ (13 + 40 * d) by omega), (show 8 + (2 + 11) + 60 * 3 ≤ 60 * (13 + 40 * d) by omega)⟩) ⟨zPre.blind, va_recv hK hC.1 (ci := 8) (q0 := 4) rfl rfl, cPre_go hZ hK hC⟩ rfl rfl hl.1 rfl (lv_room (Nat.le_of_ble_eq_true rfl)) dX7_claim_12 (cAcc h4 mo6 hr9)) hC.2.2.1 (fun q _ h => hFc q h) hFc (fun u9 t9 H1 locs ht hvm hw hB hz1 hk1 hS => ?_)
  obtain ⟨⟨hP, hK1, hD1⟩, hsz1⟩ := hB
  rw [ht] at hP hsz1
  have hC : CP dC dI Q A s.heap p5.2 H1 locs := ⟨hP, hD1.weaken (fun _ _ _ h => hFc _ h), hS, hsz1⟩
  generalize H1 = H at hC ⊢
  have h8 : (CS.hs σ) ≤ CS.hs p5.2 := Nat.le_trans h4 mo6
  refine W.widen (k := CS.hs p5.2 - (CS.hs σ)) (n := 17 * (CS.hs p5.2 - (CS.hs σ))) (cAcc2 h4 mo6) (cAcc3 h4 mo6) ?_
  refine lv_aload_n hx hb dX7_claim_15 rfl (lv_at hl 1 rfl) ?_
  refine cG_29 hx hb hts i_X7_claim_X7 hown hK hC (hts (.fieldLink RX7 20 "StatementRules2$Statements" "code" "LStatementRules2$Code;") k_X7_claim_fieldLink_RX7_20_SR_Statements_code_LSR_Code) (fun x9 q9 => u_same (hts (.sameField "StatementRules2$Statements" "StatementRules2$Formulas" "code" "LStatementRules2$Code;") k_X7_claim_sameField_SR_Statements_SR_Formulas_code_LSR_Code) x9 q9) dX7_claim_16 ?_
  refine lv_bipush (v := 35) hx hb dX7_claim_19 (by decide) ?_
  refine lv_iload_n hx hb dX7_claim_21 rfl (lv_at hl 0 rfl) ?_
  obtain ⟨p9, hcp9, hf⟩ := hf_bind hf
  have mo10 : CS.hs p5.2 ≤ CS.hs p9.2 := Mono.go hcp9 (m_X0_add N p5.2 35 p1.1)
  have hr9 : CS.hs p9.2 ≤ CS.hs R.2 := Mono.go hf (mono_bind (m_X1_condition N E1 E2 hm1 hm2 p9.2) (fun p13 => (mono_bind (m_X0_add N p13.2 5 0) (fun p17 => (mono_bind (m_X0_add N p17.2 31 p1.1) (fun p21 => (mono_bind (m_X1_skip N p21.2 58) (fun p25 => (mono_ite (mono_bind (m_X0_add N p25.2 0 0) (fun p30 => (m_X7_claim_74 N E1 E2 hm1 hm2 p30.2 p1.1))) (mono_bind (m_X1_expression N E1 E2 hm1 hm2 p25.2) (fun p46 => (m_X7_claim_74 N E1 E2 hm1 hm2 p46.2 p1.1))))))))))))
  have hFc := cFree hC hA
  refine va_callv (va_runV (As := [.int 35, .int p1.1]) (rest := []) ⟨hx, hb, hml, hown, hts⟩ (c_X0_add l dC dI Q N p5.2 35 p1.1 p9 hcp9) (cwV 2 hts hX7_claim_X0_add_v176 rfl rfl rfl (by decide +kernel) ⟨(show 2 + 1 ≤ (13 + 40 * d) by omega), (show 8 + (3 + 11) + 60 * 2 ≤ 60 * (13 + 40 * d) by omega)⟩) ⟨zPre.blind, va_recv hK hC.1 (ci := 0) (q0 := 2) rfl rfl, cPre_go hZ hK hC⟩ rfl rfl hl.1 rfl (lv_room (Nat.le_of_ble_eq_true rfl)) dX7_claim_22 (cAcc h8 mo10 hr9)) hC.2.2.1 (fun q _ h => hFc q h) hFc (fun u9 t9 H1 locs ht hvm hw hB hz1 hk1 hS => ?_)
  obtain ⟨⟨hP, hK1, hD1⟩, hsz1⟩ := hB
  rw [ht] at hP hsz1
  have hC : CP dC dI Q A s.heap p9.2 H1 locs := ⟨hP, hD1.weaken (fun _ _ _ h => hFc _ h), hS, hsz1⟩
  generalize H1 = H at hC ⊢
  have h12 : (CS.hs σ) ≤ CS.hs p9.2 := Nat.le_trans h8 mo10
  refine W.widen (k := CS.hs p9.2 - (CS.hs σ)) (n := 17 * (CS.hs p9.2 - (CS.hs σ))) (cAcc2 h8 mo10) (cAcc3 h8 mo10) ?_
  refine lv_aload_n hx hb dX7_claim_25 rfl (lv_at hl 1 rfl) ?_
  obtain ⟨p13, hcp13, hf⟩ := hf_bind hf
  have mo14 : CS.hs p9.2 ≤ CS.hs p13.2 := Mono.go hcp13 (m_X1_condition N E1 E2 hm1 hm2 p9.2)
  have hr9 : CS.hs p13.2 ≤ CS.hs R.2 := Mono.go hf (mono_bind (m_X0_add N p13.2 5 0) (fun p17 => (mono_bind (m_X0_add N p17.2 31 p1.1) (fun p21 => (mono_bind (m_X1_skip N p21.2 58) (fun p25 => (mono_ite (mono_bind (m_X0_add N p25.2 0 0) (fun p30 => (m_X7_claim_74 N E1 E2 hm1 hm2 p30.2 p1.1))) (mono_bind (m_X1_expression N E1 E2 hm1 hm2 p25.2) (fun p46 => (m_X7_claim_74 N E1 E2 hm1 hm2 p46.2 p1.1))))))))))
  have hFc := cFree hC hA
  refine va_calli (va_runU (As := []) (rest := []) ⟨hx, hb, hml, hown, hts⟩ (c_X1_condition l dC dI Q N d E1 E2 hE1 hE2 hm1 hm2 p9.2 p13 hcp13) (va_cwU 0 hts hX7_claim_X1_condition_u312 rfl rfl rfl rfl (by decide +kernel) ⟨(show (12 + 40 * d) + 1 ≤ (13 + 40 * d) by omega), (show 8 + (4 + 11) + 60 * (12 + 40 * d) ≤ 60 * (13 + 40 * d) by omega)⟩) ⟨zPre.blind, va_recv hK hC.1 (ci := 6) (q0 := 3) rfl rfl, cPre_go hZ hK hC⟩ rfl rfl hl.1 rfl (lv_room (Nat.le_of_ble_eq_true rfl)) dX7_claim_26 (cAcc h12 mo14 hr9)) hC.2.2.1 (fun q _ h => hFc q h) hFc (fun r15 u9 t9 H1 locs ht hvm hw hB hz1 hk1 hS => ?_)
  obtain ⟨⟨hP, hK1, hD1⟩, hsz1⟩ := hB
  rw [ht] at hP hsz1
  have hC : CP dC dI Q A s.heap p13.2 H1 locs := ⟨hP, hD1.weaken (fun _ _ _ h => hFc _ h), hS, hsz1⟩
  generalize H1 = H at hC ⊢
  have h16 : (CS.hs σ) ≤ CS.hs p13.2 := Nat.le_trans h12 mo14
  refine W.widen (k := CS.hs p13.2 - (CS.hs σ)) (n := 17 * (CS.hs p13.2 - (CS.hs σ))) (cAcc2 h12 mo14) (cAcc3 h12 mo14) ?_
  obtain rfl : r15 = p13.1 := hw
  refine lv_pop hx hb dX7_claim_29 rfl ?_
  refine lv_aload_n hx hb dX7_claim_30 rfl (lv_at hl 1 rfl) ?_
  refine cG_29 hx hb hts i_X7_claim_X7 hown hK hC (hts (.fieldLink RX7 20 "StatementRules2$Statements" "code" "LStatementRules2$Code;") k_X7_claim_fieldLink_RX7_20_SR_Statements_code_LSR_Code) (fun x9 q9 => u_same (hts (.sameField "StatementRules2$Statements" "StatementRules2$Formulas" "code" "LStatementRules2$Code;") k_X7_claim_sameField_SR_Statements_SR_Formulas_code_LSR_Code) x9 q9) dX7_claim_31 ?_
  refine lv_iconst (v := 5) hx hb dX7_claim_34 (by decide) ?_
  refine lv_iconst (v := 0) hx hb dX7_claim_35 (by decide) ?_
  obtain ⟨p17, hcp17, hf⟩ := hf_bind hf
  have mo18 : CS.hs p13.2 ≤ CS.hs p17.2 := Mono.go hcp17 (m_X0_add N p13.2 5 0)
  have hr9 : CS.hs p17.2 ≤ CS.hs R.2 := Mono.go hf (mono_bind (m_X0_add N p17.2 31 p1.1) (fun p21 => (mono_bind (m_X1_skip N p21.2 58) (fun p25 => (mono_ite (mono_bind (m_X0_add N p25.2 0 0) (fun p30 => (m_X7_claim_74 N E1 E2 hm1 hm2 p30.2 p1.1))) (mono_bind (m_X1_expression N E1 E2 hm1 hm2 p25.2) (fun p46 => (m_X7_claim_74 N E1 E2 hm1 hm2 p46.2 p1.1))))))))
  have hFc := cFree hC hA
  refine va_callv (va_runV (As := [.int 5, .int 0]) (rest := []) ⟨hx, hb, hml, hown, hts⟩ (c_X0_add l dC dI Q N p13.2 5 0 p17 hcp17) (cwV 2 hts hX7_claim_X0_add_v176 rfl rfl rfl (by decide +kernel) ⟨(show 2 + 1 ≤ (13 + 40 * d) by omega), (show 8 + (3 + 11) + 60 * 2 ≤ 60 * (13 + 40 * d) by omega)⟩) ⟨zPre.blind, va_recv hK hC.1 (ci := 0) (q0 := 2) rfl rfl, cPre_go hZ hK hC⟩ rfl rfl hl.1 rfl (lv_room (Nat.le_of_ble_eq_true rfl)) dX7_claim_36 (cAcc h16 mo18 hr9)) hC.2.2.1 (fun q _ h => hFc q h) hFc (fun u9 t9 H1 locs ht hvm hw hB hz1 hk1 hS => ?_)
  obtain ⟨⟨hP, hK1, hD1⟩, hsz1⟩ := hB
  rw [ht] at hP hsz1
  have hC : CP dC dI Q A s.heap p17.2 H1 locs := ⟨hP, hD1.weaken (fun _ _ _ h => hFc _ h), hS, hsz1⟩
  generalize H1 = H at hC ⊢
  have h20 : (CS.hs σ) ≤ CS.hs p17.2 := Nat.le_trans h16 mo18
  refine W.widen (k := CS.hs p17.2 - (CS.hs σ)) (n := 17 * (CS.hs p17.2 - (CS.hs σ))) (cAcc2 h16 mo18) (cAcc3 h16 mo18) ?_
  refine lv_aload_n hx hb dX7_claim_39 rfl (lv_at hl 1 rfl) ?_
  refine cG_29 hx hb hts i_X7_claim_X7 hown hK hC (hts (.fieldLink RX7 20 "StatementRules2$Statements" "code" "LStatementRules2$Code;") k_X7_claim_fieldLink_RX7_20_SR_Statements_code_LSR_Code) (fun x9 q9 => u_same (hts (.sameField "StatementRules2$Statements" "StatementRules2$Formulas" "code" "LStatementRules2$Code;") k_X7_claim_sameField_SR_Statements_SR_Formulas_code_LSR_Code) x9 q9) dX7_claim_40 ?_
  refine lv_bipush (v := 31) hx hb dX7_claim_43 (by decide) ?_
  refine lv_iload_n hx hb dX7_claim_45 rfl (lv_at hl 0 rfl) ?_
  obtain ⟨p21, hcp21, hf⟩ := hf_bind hf
  have mo22 : CS.hs p17.2 ≤ CS.hs p21.2 := Mono.go hcp21 (m_X0_add N p17.2 31 p1.1)
  have hr9 : CS.hs p21.2 ≤ CS.hs R.2 := Mono.go hf (mono_bind (m_X1_skip N p21.2 58) (fun p25 => (mono_ite (mono_bind (m_X0_add N p25.2 0 0) (fun p30 => (m_X7_claim_74 N E1 E2 hm1 hm2 p30.2 p1.1))) (mono_bind (m_X1_expression N E1 E2 hm1 hm2 p25.2) (fun p46 => (m_X7_claim_74 N E1 E2 hm1 hm2 p46.2 p1.1))))))
  have hFc := cFree hC hA
  refine va_callv (va_runV (As := [.int 31, .int p1.1]) (rest := []) ⟨hx, hb, hml, hown, hts⟩ (c_X0_add l dC dI Q N p17.2 31 p1.1 p21 hcp21) (cwV 2 hts hX7_claim_X0_add_v176 rfl rfl rfl (by decide +kernel) ⟨(show 2 + 1 ≤ (13 + 40 * d) by omega), (show 8 + (3 + 11) + 60 * 2 ≤ 60 * (13 + 40 * d) by omega)⟩) ⟨zPre.blind, va_recv hK hC.1 (ci := 0) (q0 := 2) rfl rfl, cPre_go hZ hK hC⟩ rfl rfl hl.1 rfl (lv_room (Nat.le_of_ble_eq_true rfl)) dX7_claim_46 (cAcc h20 mo22 hr9)) hC.2.2.1 (fun q _ h => hFc q h) hFc (fun u9 t9 H1 locs ht hvm hw hB hz1 hk1 hS => ?_)
  obtain ⟨⟨hP, hK1, hD1⟩, hsz1⟩ := hB
  rw [ht] at hP hsz1
  have hC : CP dC dI Q A s.heap p21.2 H1 locs := ⟨hP, hD1.weaken (fun _ _ _ h => hFc _ h), hS, hsz1⟩
  generalize H1 = H at hC ⊢
  have h24 : (CS.hs σ) ≤ CS.hs p21.2 := Nat.le_trans h20 mo22
  refine W.widen (k := CS.hs p21.2 - (CS.hs σ)) (n := 17 * (CS.hs p21.2 - (CS.hs σ))) (cAcc2 h20 mo22) (cAcc3 h20 mo22) ?_
  refine lv_aload_n hx hb dX7_claim_49 rfl (lv_at hl 1 rfl) ?_
  refine lv_bipush (v := 58) hx hb dX7_claim_50 (by decide) ?_
  obtain ⟨p25, hcp25, hf⟩ := hf_bind hf
  have mo26 : CS.hs p21.2 ≤ CS.hs p25.2 := Mono.go hcp25 (m_X1_skip N p21.2 58)
  have hr9 : CS.hs p25.2 ≤ CS.hs R.2 := Mono.go hf (mono_ite (mono_bind (m_X0_add N p25.2 0 0) (fun p30 => (m_X7_claim_74 N E1 E2 hm1 hm2 p30.2 p1.1))) (mono_bind (m_X1_expression N E1 E2 hm1 hm2 p25.2) (fun p46 => (m_X7_claim_74 N E1 E2 hm1 hm2 p46.2 p1.1))))
  have hFc := cFree hC hA
  refine va_calli (va_runU (As := [.int 58]) (rest := []) ⟨hx, hb, hml, hown, hts⟩ (c_X1_skip l dC dI Q N p21.2 58 p25 hcp25) (va_cwU 1 hts hX7_claim_X1_skip_u205 rfl rfl rfl rfl (by decide +kernel) ⟨(show 4 + 1 ≤ (13 + 40 * d) by omega), (show 8 + (3 + 11) + 60 * 4 ≤ 60 * (13 + 40 * d) by omega)⟩) ⟨zPre.blind, va_recv hK hC.1 (ci := 6) (q0 := 3) rfl rfl, cPre_go hZ hK hC⟩ rfl rfl hl.1 rfl (lv_room (Nat.le_of_ble_eq_true rfl)) dX7_claim_52 (cAcc h24 mo26 hr9)) hC.2.2.1 (fun q _ h => hFc q h) hFc (fun r27 u9 t9 H1 locs ht hvm hw hB hz1 hk1 hS => ?_)
  obtain ⟨⟨hP, hK1, hD1⟩, hsz1⟩ := hB
  rw [ht] at hP hsz1
  have hC : CP dC dI Q A s.heap p25.2 H1 locs := ⟨hP, hD1.weaken (fun _ _ _ h => hFc _ h), hS, hsz1⟩
  generalize H1 = H at hC ⊢
  have h28 : (CS.hs σ) ≤ CS.hs p25.2 := Nat.le_trans h24 mo26
  refine W.widen (k := CS.hs p25.2 - (CS.hs σ)) (n := 17 * (CS.hs p25.2 - (CS.hs σ))) (cAcc2 h24 mo26) (cAcc3 h24 mo26) ?_
  obtain rfl : r27 = p25.1 := hw
  refine lv_if_eq (tgt := 65) hx hb dX7_claim_55 (by decide) (fun c29 => ?_) (fun c29 => ?_)
  ·
    replace hf := (if_pos c29).symm.trans hf
    refine lv_aload_n hx hb dX7_claim_65 rfl (lv_at hl 1 rfl) ?_
    refine cG_29 hx hb hts i_X7_claim_X7 hown hK hC (hts (.fieldLink RX7 20 "StatementRules2$Statements" "code" "LStatementRules2$Code;") k_X7_claim_fieldLink_RX7_20_SR_Statements_code_LSR_Code) (fun x9 q9 => u_same (hts (.sameField "StatementRules2$Statements" "StatementRules2$Formulas" "code" "LStatementRules2$Code;") k_X7_claim_sameField_SR_Statements_SR_Formulas_code_LSR_Code) x9 q9) dX7_claim_66 ?_
    refine lv_iconst (v := 0) hx hb dX7_claim_69 (by decide) ?_
    refine lv_iconst (v := 0) hx hb dX7_claim_70 (by decide) ?_
    obtain ⟨p30, hcp30, hf⟩ := hf_bind hf
    have mo31 : CS.hs p25.2 ≤ CS.hs p30.2 := Mono.go hcp30 (m_X0_add N p25.2 0 0)
    have hr9 : CS.hs p30.2 ≤ CS.hs R.2 := Mono.go hf (m_X7_claim_74 N E1 E2 hm1 hm2 p30.2 p1.1)
    have hFc := cFree hC hA
    refine va_callv (va_runV (As := [.int 0, .int 0]) (rest := []) ⟨hx, hb, hml, hown, hts⟩ (c_X0_add l dC dI Q N p25.2 0 0 p30 hcp30) (cwV 2 hts hX7_claim_X0_add_v176 rfl rfl rfl (by decide +kernel) ⟨(show 2 + 1 ≤ (13 + 40 * d) by omega), (show 8 + (3 + 11) + 60 * 2 ≤ 60 * (13 + 40 * d) by omega)⟩) ⟨zPre.blind, va_recv hK hC.1 (ci := 0) (q0 := 2) rfl rfl, cPre_go hZ hK hC⟩ rfl rfl hl.1 rfl (lv_room (Nat.le_of_ble_eq_true rfl)) dX7_claim_71 (cAcc h28 mo31 hr9)) hC.2.2.1 (fun q _ h => hFc q h) hFc (fun u9 t9 H1 locs ht hvm hw hB hz1 hk1 hS => ?_)
    obtain ⟨⟨hP, hK1, hD1⟩, hsz1⟩ := hB
    rw [ht] at hP hsz1
    have hC : CP dC dI Q A s.heap p30.2 H1 locs := ⟨hP, hD1.weaken (fun _ _ _ h => hFc _ h), hS, hsz1⟩
    generalize H1 = H at hC ⊢
    have h33 : (CS.hs σ) ≤ CS.hs p30.2 := Nat.le_trans h28 mo31
    refine W.widen (k := CS.hs p30.2 - (CS.hs σ)) (n := 17 * (CS.hs p30.2 - (CS.hs σ))) (cAcc2 h28 mo31) (cAcc3 h28 mo31) ?_
    exact j_X7_claim_74 l dC dI Q N d E1 E2 hE1 hE2 hm1 hm2 (CS.hs σ) R hx hb hr hml hown hts hlocks hZ hA hK p30.2 p1.1 _ _ _ hf h33 hC (lv_sub hl [1, 0] rfl)
  ·
    replace hf := (if_neg c29).symm.trans hf
    refine lv_aload_n hx hb dX7_claim_58 rfl (lv_at hl 1 rfl) ?_
    obtain ⟨p46, hcp46, hf⟩ := hf_bind hf
    have mo47 : CS.hs p25.2 ≤ CS.hs p46.2 := Mono.go hcp46 (m_X1_expression N E1 E2 hm1 hm2 p25.2)
    have hr9 : CS.hs p46.2 ≤ CS.hs R.2 := Mono.go hf (m_X7_claim_74 N E1 E2 hm1 hm2 p46.2 p1.1)
    have hFc := cFree hC hA
    refine va_callv (va_runU (As := []) (rest := []) ⟨hx, hb, hml, hown, hts⟩ (c_X1_expression l dC dI Q N d E1 E2 hE1 hE2 hm1 hm2 p25.2 p46 hcp46) (va_cwU 0 hts hX7_claim_X1_expression_u211 rfl rfl rfl rfl (by decide +kernel) ⟨(show (12 + 40 * d) + 1 ≤ (13 + 40 * d) by omega), (show 8 + (3 + 11) + 60 * (12 + 40 * d) ≤ 60 * (13 + 40 * d) by omega)⟩) ⟨zPre.blind, va_recv hK hC.1 (ci := 6) (q0 := 3) rfl rfl, cPre_go hZ hK hC⟩ rfl rfl hl.1 rfl (lv_room (Nat.le_of_ble_eq_true rfl)) dX7_claim_59 (cAcc h28 mo47 hr9)) hC.2.2.1 (fun q _ h => hFc q h) hFc (fun u9 t9 H1 locs ht hvm hw hB hz1 hk1 hS => ?_)
    obtain ⟨⟨hP, hK1, hD1⟩, hsz1⟩ := hB
    rw [ht] at hP hsz1
    have hC : CP dC dI Q A s.heap p46.2 H1 locs := ⟨hP, hD1.weaken (fun _ _ _ h => hFc _ h), hS, hsz1⟩
    generalize H1 = H at hC ⊢
    have h49 : (CS.hs σ) ≤ CS.hs p46.2 := Nat.le_trans h28 mo47
    refine W.widen (k := CS.hs p46.2 - (CS.hs σ)) (n := 17 * (CS.hs p46.2 - (CS.hs σ))) (cAcc2 h28 mo47) (cAcc3 h28 mo47) ?_
    refine lv_goto (tgt := 74) hx hb dX7_claim_62 (by decide) ?_
    exact j_X7_claim_74 l dC dI Q N d E1 E2 hE1 hE2 hm1 hm2 (CS.hs σ) R hx hb hr hml hown hts hlocks hZ hA hK p46.2 p1.1 _ _ _ hf h49 hC (lv_sub hl [1, 0] rfl)
theorem k_X7_beginIf_fieldLink_RX7_20_SR_Statements_code_LSR_Code : Cond.fieldLink RX7 20 "StatementRules2$Statements" "code" "LStatementRules2$Code;" ∈ wzX7_beginIf := List.mem_cons_of_mem _ (List.mem_append_right _ (List.mem_append_right _ (List.mem_append_right _ (List.mem_append_right _ (List.mem_append_right _ (List.mem_append_right _ (List.mem_append_right _ (List.mem_append_right _ (List.mem_append_right _ (List.mem_append_right _ (List.mem_append_right _ (List.mem_append_right _ (List.mem_append_right _ (List.mem_append_left _ (List.mem_of_getElem? (i := 0) rfl)))))))))))))))
theorem k_X7_beginIf_sameField_SR_Statements_SR_Formulas_code_LSR_Code : Cond.sameField "StatementRules2$Statements" "StatementRules2$Formulas" "code" "LStatementRules2$Code;" ∈ wzX7_beginIf := List.mem_cons_of_mem _ (List.mem_append_right _ (List.mem_append_right _ (List.mem_append_right _ (List.mem_append_right _ (List.mem_append_right _ (List.mem_append_right _ (List.mem_append_right _ (List.mem_append_right _ (List.mem_append_right _ (List.mem_append_right _ (List.mem_append_right _ (List.mem_append_right _ (List.mem_append_right _ (List.mem_append_left _ (List.mem_of_getElem? (i := 1) rfl)))))))))))))))
theorem i_X7_beginIf_X7 : ∀ w ∈ wsX70, w ∈ wzX7_beginIf := fun _ h => List.mem_cons_of_mem _ (List.mem_append_right _ (List.mem_append_right _ (List.mem_append_right _ (List.mem_append_right _ (List.mem_append_right _ (List.mem_append_right _ (List.mem_append_right _ (List.mem_append_right _ (List.mem_append_right _ (List.mem_append_right _ (List.mem_append_right _ (List.mem_append_right _ (List.mem_append_right _ (List.mem_append_right _ (List.mem_append_right _ (List.mem_append_right _ (List.mem_append_right _ (List.mem_append_right _ (List.mem_append_right _ (List.mem_append_right _ (List.mem_append_right _ (List.mem_append_right _ (List.mem_append_right _ (List.mem_append_right _ (List.mem_append_right _ (List.mem_append_right _ (List.mem_append_right _ (List.mem_append_right _ (List.mem_append_right _ (List.mem_append_right _ (List.mem_append_right _ (List.mem_append_right _ (List.mem_append_right _ (List.mem_append_right _ (List.mem_append_right _ (List.mem_append_right _ (List.mem_append_left _ (h))))))))))))))))))))))))))))))))))))))
theorem k_X7_beginIf_fieldLink_RX7_71_SR_Statements_tokens_LSR_Tokens : Cond.fieldLink RX7 71 "StatementRules2$Statements" "tokens" "LStatementRules2$Tokens;" ∈ wzX7_beginIf := List.mem_cons_of_mem _ (List.mem_append_right _ (List.mem_append_right _ (List.mem_append_right _ (List.mem_append_right _ (List.mem_append_right _ (List.mem_append_right _ (List.mem_append_right _ (List.mem_append_right _ (List.mem_append_right _ (List.mem_append_right _ (List.mem_append_right _ (List.mem_append_right _ (List.mem_append_right _ (List.mem_append_left _ (List.mem_of_getElem? (i := 2) rfl)))))))))))))))
theorem k_X7_beginIf_sameField_SR_Statements_SR_Formulas_tokens_LSR_Tokens : Cond.sameField "StatementRules2$Statements" "StatementRules2$Formulas" "tokens" "LStatementRules2$Tokens;" ∈ wzX7_beginIf := List.mem_cons_of_mem _ (List.mem_append_right _ (List.mem_append_right _ (List.mem_append_right _ (List.mem_append_right _ (List.mem_append_right _ (List.mem_append_right _ (List.mem_append_right _ (List.mem_append_right _ (List.mem_append_right _ (List.mem_append_right _ (List.mem_append_right _ (List.mem_append_right _ (List.mem_append_right _ (List.mem_append_left _ (List.mem_of_getElem? (i := 3) rfl)))))))))))))))
theorem k_X7_beginIf_fieldLink_RX7_14_SR_Statements_opens_LSR_Opens : Cond.fieldLink RX7 14 "StatementRules2$Statements" "opens" "LStatementRules2$Opens;" ∈ wzX7_beginIf := List.mem_cons_of_mem _ (List.mem_append_right _ (List.mem_append_right _ (List.mem_append_right _ (List.mem_append_right _ (List.mem_append_right _ (List.mem_append_right _ (List.mem_append_right _ (List.mem_append_right _ (List.mem_append_right _ (List.mem_append_right _ (List.mem_append_right _ (List.mem_append_right _ (List.mem_append_right _ (List.mem_append_left _ (List.mem_of_getElem? (i := 4) rfl)))))))))))))))
theorem k_X7_beginIf_fieldLink_RX7_68_SR_Statements_depth_I : Cond.fieldLink RX7 68 "StatementRules2$Statements" "depth" "I" ∈ wzX7_beginIf := List.mem_cons_of_mem _ (List.mem_append_right _ (List.mem_append_right _ (List.mem_append_right _ (List.mem_append_right _ (List.mem_append_right _ (List.mem_append_right _ (List.mem_append_right _ (List.mem_append_right _ (List.mem_append_right _ (List.mem_append_right _ (List.mem_append_right _ (List.mem_append_right _ (List.mem_append_right _ (List.mem_append_left _ (List.mem_of_getElem? (i := 5) rfl)))))))))))))))
theorem k_X7_beginIf_fieldLink_RX7_29_SR_Statements_names_LSR_Names : Cond.fieldLink RX7 29 "StatementRules2$Statements" "names" "LStatementRules2$Names;" ∈ wzX7_beginIf := List.mem_cons_of_mem _ (List.mem_append_right _ (List.mem_append_right _ (List.mem_append_right _ (List.mem_append_right _ (List.mem_append_right _ (List.mem_append_right _ (List.mem_append_right _ (List.mem_append_right _ (List.mem_append_right _ (List.mem_append_right _ (List.mem_append_right _ (List.mem_append_right _ (List.mem_append_right _ (List.mem_append_left _ (List.mem_of_getElem? (i := 6) rfl)))))))))))))))
theorem k_X7_beginIf_sameField_SR_Statements_SR_Formulas_names_LSR_Names : Cond.sameField "StatementRules2$Statements" "StatementRules2$Formulas" "names" "LStatementRules2$Names;" ∈ wzX7_beginIf := List.mem_cons_of_mem _ (List.mem_append_right _ (List.mem_append_right _ (List.mem_append_right _ (List.mem_append_right _ (List.mem_append_right _ (List.mem_append_right _ (List.mem_append_right _ (List.mem_append_right _ (List.mem_append_right _ (List.mem_append_right _ (List.mem_append_right _ (List.mem_append_right _ (List.mem_append_right _ (List.mem_append_left _ (List.mem_of_getElem? (i := 7) rfl)))))))))))))))
theorem i_X7_beginIf_X4 : ∀ w ∈ wsX40, w ∈ wzX7_beginIf := fun _ h => List.mem_cons_of_mem _ (List.mem_append_right _ (List.mem_append_right _ (List.mem_append_right _ (List.mem_append_right _ (List.mem_append_right _ (List.mem_append_right _ (List.mem_append_right _ (List.mem_append_right _ (List.mem_append_right _ (List.mem_append_right _ (List.mem_append_right _ (List.mem_append_right _ (List.mem_append_right _ (List.mem_append_right _ (List.mem_append_right _ (List.mem_append_right _ (List.mem_append_right _ (List.mem_append_right _ (List.mem_append_right _ (List.mem_append_right _ (List.mem_append_right _ (List.mem_append_right _ (List.mem_append_right _ (List.mem_append_right _ (List.mem_append_right _ (List.mem_append_right _ (List.mem_append_right _ (List.mem_append_right _ (List.mem_append_right _ (List.mem_append_right _ (List.mem_append_right _ (List.mem_append_right _ (List.mem_append_right _ (List.mem_append_right _ (List.mem_append_right _ (List.mem_append_right _ (List.mem_append_right _ (List.mem_append_right _ (List.mem_append_right _ (List.mem_append_right _ (List.mem_append_left _ (h))))))))))))))))))))))))))))))))))))))))))
theorem i_X7_beginIf_X5 : ∀ w ∈ wsX50, w ∈ wzX7_beginIf := fun _ h => List.mem_cons_of_mem _ (List.mem_append_right _ (List.mem_append_right _ (List.mem_append_right _ (List.mem_append_right _ (List.mem_append_right _ (List.mem_append_right _ (List.mem_append_right _ (List.mem_append_right _ (List.mem_append_right _ (List.mem_append_right _ (List.mem_append_right _ (List.mem_append_right _ (List.mem_append_right _ (List.mem_append_right _ (List.mem_append_right _ (List.mem_append_right _ (List.mem_append_right _ (List.mem_append_right _ (List.mem_append_right _ (List.mem_append_right _ (List.mem_append_right _ (List.mem_append_right _ (List.mem_append_right _ (List.mem_append_right _ (List.mem_append_right _ (List.mem_append_right _ (List.mem_append_right _ (List.mem_append_right _ (List.mem_append_right _ (List.mem_append_right _ (List.mem_append_right _ (List.mem_append_right _ (List.mem_append_right _ (List.mem_append_right _ (List.mem_append_right _ (List.mem_append_right _ (List.mem_append_right _ (List.mem_append_right _ (List.mem_append_right _ (List.mem_append_right _ (List.mem_append_right _ (List.mem_append_left _ (h)))))))))))))))))))))))))))))))))))))))))))
set_option maxHeartbeats 4000000 in
set_option maxRecDepth 100000 in
theorem c_X7_beginIf (l : Launch) (dC : Nat → ClassId) (dI : Nat → Nat → Nat) (Q : CQ) (N : Nat) (d : Nat) (E1 : CS → Option (Unit × CS)) (E2 : CS → Option (Int32 × CS)) (hE1 : cMF l dC dI Q d E1) (hE2 : cMO l dC dI Q d E2) (hm1 : ∀ σ, Mono (CS.hs σ) (E1 σ)) (hm2 : ∀ σ, Mono (CS.hs σ) (E2 σ)) (σ : CS) (R : Unit × CS) (hf : f_X7_beginIf N E1 E2 σ = some R) : Met l yX7_beginIf wzX7_beginIf ({ frames := (14 + 40 * d), cells := CS.hs R.2 - CS.hs σ, slots := 17 * (CS.hs R.2 - CS.hs σ), locals := 60 * (14 + 40 * d) }) (va_Pc [.ref (Q.o 3)] (zPre dC dI (CS.hs σ) (cW Q σ) (cT Q))) (va_Qv (fun (_ : Unit) => True) (fun (_ : Unit) (t : State) => zPost dC dI (va_A (cW Q σ) (CS.hs σ)) (cW Q R.2) (cT Q) t ∧ t.heap.size = CS.hs R.2) (va_A (cW Q σ) (CS.hs σ))) (CS.hs R.2 - CS.hs σ) (17 * (CS.hs R.2 - CS.hs σ)) (va_A (cW Q σ) (CS.hs σ)) := by
  refine Met.ofW (cc := cX7_beginIf) (maxL := 2) (ret := none) (by decide) rfl ?_
  intro p e s m args below meth c s₁ B hml hv
  obtain ⟨rfl, hsz, hZ, hP, hK, hD0⟩ := hv
  have hx := B.exec
  have hb := B.bytes
  have hr := B.returns
  have hts := atoms_spec (ws := wzX7_beginIf) B.pre
  have hown : s.vm.findClass RX7 = some m.cls := findClass_of_methodNamed B.named
  have hlocks := B.notSynchronized
  have hD := hD0.self (sz := CS.hs σ)
  generalize hAe : va_A (cW Q σ) (CS.hs σ) = A at hD ⊢
  have hA : ∀ q : Nat, s.heap.size ≤ q → A q := fun q h => by rw [← hAe]; exact Or.inr (hsz ▸ h)
  have hC : CP dC dI Q A s.heap σ s.heap [] := ⟨hP, hD, va_S.rf, hsz⟩
  have h0 : CS.hs σ ≤ CS.hs σ := Nat.le_refl _
  have hl := lv_entry ([.ref (Q.o 3)]) (n := 2) (Nat.le_of_ble_eq_true rfl)
  rw [lg_entry_eq]
  generalize (lg_sl ([.ref (Q.o 3)]) ++ List.replicate (2 - (lg_sl ([.ref (Q.o 3)])).length) Slot.unset).toArray = ls at hl ⊢
  have hl : lv_has ls 2 [(0, .ref (Q.o 3))] := hl
  unfold f_X7_beginIf at hf
  refine W.widen (k := CS.hs σ - CS.hs σ) (n := 17 * (CS.hs σ - CS.hs σ)) (Nat.zero_le _) (Nat.zero_le _) ?_
  refine lv_aload_n hx hb dX7_beginIf_0 rfl (lv_at hl 0 rfl) ?_
  refine cG_29 hx hb hts i_X7_beginIf_X7 hown hK hC (hts (.fieldLink RX7 20 "StatementRules2$Statements" "code" "LStatementRules2$Code;") k_X7_beginIf_fieldLink_RX7_20_SR_Statements_code_LSR_Code) (fun x9 q9 => u_same (hts (.sameField "StatementRules2$Statements" "StatementRules2$Formulas" "code" "LStatementRules2$Code;") k_X7_beginIf_sameField_SR_Statements_SR_Formulas_code_LSR_Code) x9 q9) dX7_beginIf_1 ?_
  obtain ⟨p1, hcp1, hf⟩ := hf_bind hf
  have mo2 : CS.hs σ ≤ CS.hs p1.2 := Mono.go hcp1 (m_X0_newTarget N σ)
  have hr9 : CS.hs p1.2 ≤ CS.hs R.2 := Mono.go hf (mono_bind (m_X9_advance N p1.2) (fun p5 => (mono_bind (m_X7_conditionInside N E1 E2 hm1 hm2 p5.2) (fun p9 => (mono_bind (m_X0_add N p9.2 31 p1.1) (fun p13 => (mono_bind (m_X6_push N p13.2 203 (p13.2.i 38) (p13.2.i 50)) (fun p17 => (mono_oc mono_none (fun a22 => (mono_ite (mono_some (Nat.le_refl _)) mono_none)))))))))))
  have hFc := cFree hC hA
  refine va_calli (va_runV (As := []) (rest := []) ⟨hx, hb, hml, hown, hts⟩ (c_X0_newTarget l dC dI Q N σ p1 hcp1) (cwV 0 hts hX7_beginIf_X0_newTarget_v136 rfl rfl rfl (by decide +kernel) ⟨(show 2 + 1 ≤ (14 + 40 * d) by omega), (show 8 + (1 + 11) + 60 * 2 ≤ 60 * (14 + 40 * d) by omega)⟩) ⟨zPre.blind, va_recv hK hC.1 (ci := 0) (q0 := 2) rfl rfl, cPre_go hZ hK hC⟩ rfl rfl hl.1 rfl (lv_room (Nat.le_of_ble_eq_true rfl)) dX7_beginIf_4 (cAcc h0 mo2 hr9)) hC.2.2.1 (fun q _ h => hFc q h) hFc (fun r3 u9 t9 H1 locs ht hvm hw hB hz1 hk1 hS => ?_)
  obtain ⟨⟨hP, hK1, hD1⟩, hsz1⟩ := hB
  rw [ht] at hP hsz1
  have hC : CP dC dI Q A s.heap p1.2 H1 locs := ⟨hP, hD1.weaken (fun _ _ _ h => hFc _ h), hS, hsz1⟩
  generalize H1 = H at hC ⊢
  have h4 : (CS.hs σ) ≤ CS.hs p1.2 := Nat.le_trans h0 mo2
  refine W.widen (k := CS.hs p1.2 - (CS.hs σ)) (n := 17 * (CS.hs p1.2 - (CS.hs σ))) (cAcc2 h0 mo2) (cAcc3 h0 mo2) ?_
  obtain rfl : r3 = p1.1 := hw
  refine lv_istore_n (lv' := [(1, .int p1.1), (0, .ref (Q.o 3))]) hx hb dX7_beginIf_7 rfl hl (by decide) rfl (fun ls hl => ?_)
  refine lv_aload_n hx hb dX7_beginIf_8 rfl (lv_at hl 1 rfl) ?_
  refine cG_28 hx hb hts i_X7_beginIf_X7 hown hK hC (hts (.fieldLink RX7 71 "StatementRules2$Statements" "tokens" "LStatementRules2$Tokens;") k_X7_beginIf_fieldLink_RX7_71_SR_Statements_tokens_LSR_Tokens) (fun x9 q9 => u_same (hts (.sameField "StatementRules2$Statements" "StatementRules2$Formulas" "tokens" "LStatementRules2$Tokens;") k_X7_beginIf_sameField_SR_Statements_SR_Formulas_tokens_LSR_Tokens) x9 q9) dX7_beginIf_9 ?_
  obtain ⟨p5, hcp5, hf⟩ := hf_bind hf
  have mo6 : CS.hs p1.2 ≤ CS.hs p5.2 := Mono.go hcp5 (m_X9_advance N p1.2)
  have hr9 : CS.hs p5.2 ≤ CS.hs R.2 := Mono.go hf (mono_bind (m_X7_conditionInside N E1 E2 hm1 hm2 p5.2) (fun p9 => (mono_bind (m_X0_add N p9.2 31 p1.1) (fun p13 => (mono_bind (m_X6_push N p13.2 203 (p13.2.i 38) (p13.2.i 50)) (fun p17 => (mono_oc mono_none (fun a22 => (mono_ite (mono_some (Nat.le_refl _)) mono_none)))))))))
  have hFc := cFree hC hA
  refine va_callv (va_runV (As := []) (rest := []) ⟨hx, hb, hml, hown, hts⟩ (c_X9_advance l dC dI Q N p1.2 p5 hcp5) (cwV 0 hts hX7_beginIf_X9_advance_v146 rfl rfl rfl (by decide +kernel) ⟨(show 3 + 1 ≤ (14 + 40 * d) by omega), (show 8 + (2 + 11) + 60 * 3 ≤ 60 * (14 + 40 * d) by omega)⟩) ⟨zPre.blind, va_recv hK hC.1 (ci := 8) (q0 := 4) rfl rfl, cPre_go hZ hK hC⟩ rfl rfl hl.1 rfl (lv_room (Nat.le_of_ble_eq_true rfl)) dX7_beginIf_12 (cAcc h4 mo6 hr9)) hC.2.2.1 (fun q _ h => hFc q h) hFc (fun u9 t9 H1 locs ht hvm hw hB hz1 hk1 hS => ?_)
  obtain ⟨⟨hP, hK1, hD1⟩, hsz1⟩ := hB
  rw [ht] at hP hsz1
  have hC : CP dC dI Q A s.heap p5.2 H1 locs := ⟨hP, hD1.weaken (fun _ _ _ h => hFc _ h), hS, hsz1⟩
  generalize H1 = H at hC ⊢
  have h8 : (CS.hs σ) ≤ CS.hs p5.2 := Nat.le_trans h4 mo6
  refine W.widen (k := CS.hs p5.2 - (CS.hs σ)) (n := 17 * (CS.hs p5.2 - (CS.hs σ))) (cAcc2 h4 mo6) (cAcc3 h4 mo6) ?_
  refine lv_aload_n hx hb dX7_beginIf_15 rfl (lv_at hl 1 rfl) ?_
  obtain ⟨p9, hcp9, hf⟩ := hf_bind hf
  have mo10 : CS.hs p5.2 ≤ CS.hs p9.2 := Mono.go hcp9 (m_X7_conditionInside N E1 E2 hm1 hm2 p5.2)
  have hr9 : CS.hs p9.2 ≤ CS.hs R.2 := Mono.go hf (mono_bind (m_X0_add N p9.2 31 p1.1) (fun p13 => (mono_bind (m_X6_push N p13.2 203 (p13.2.i 38) (p13.2.i 50)) (fun p17 => (mono_oc mono_none (fun a22 => (mono_ite (mono_some (Nat.le_refl _)) mono_none)))))))
  have hFc := cFree hC hA
  refine va_calli (va_runV (As := []) (rest := []) ⟨hx, hb, hml, hown, hts⟩ (c_X7_conditionInside l dC dI Q N d E1 E2 hE1 hE2 hm1 hm2 p5.2 p9 hcp9) (cwV 0 hts hX7_beginIf_X7_conditionInside_v315 rfl rfl rfl (by decide +kernel) ⟨(show (13 + 40 * d) + 1 ≤ (14 + 40 * d) by omega), (show 8 + (2 + 11) + 60 * (13 + 40 * d) ≤ 60 * (14 + 40 * d) by omega)⟩) ⟨zPre.blind, va_recv hK hC.1 (ci := 6) (q0 := 3) rfl rfl, cPre_go hZ hK hC⟩ rfl rfl hl.1 rfl (lv_room (Nat.le_of_ble_eq_true rfl)) dX7_beginIf_16 (cAcc h8 mo10 hr9)) hC.2.2.1 (fun q _ h => hFc q h) hFc (fun r11 u9 t9 H1 locs ht hvm hw hB hz1 hk1 hS => ?_)
  obtain ⟨⟨hP, hK1, hD1⟩, hsz1⟩ := hB
  rw [ht] at hP hsz1
  have hC : CP dC dI Q A s.heap p9.2 H1 locs := ⟨hP, hD1.weaken (fun _ _ _ h => hFc _ h), hS, hsz1⟩
  generalize H1 = H at hC ⊢
  have h12 : (CS.hs σ) ≤ CS.hs p9.2 := Nat.le_trans h8 mo10
  refine W.widen (k := CS.hs p9.2 - (CS.hs σ)) (n := 17 * (CS.hs p9.2 - (CS.hs σ))) (cAcc2 h8 mo10) (cAcc3 h8 mo10) ?_
  obtain rfl : r11 = p9.1 := hw
  refine lv_pop hx hb dX7_beginIf_19 rfl ?_
  refine lv_aload_n hx hb dX7_beginIf_20 rfl (lv_at hl 1 rfl) ?_
  refine cG_29 hx hb hts i_X7_beginIf_X7 hown hK hC (hts (.fieldLink RX7 20 "StatementRules2$Statements" "code" "LStatementRules2$Code;") k_X7_beginIf_fieldLink_RX7_20_SR_Statements_code_LSR_Code) (fun x9 q9 => u_same (hts (.sameField "StatementRules2$Statements" "StatementRules2$Formulas" "code" "LStatementRules2$Code;") k_X7_beginIf_sameField_SR_Statements_SR_Formulas_code_LSR_Code) x9 q9) dX7_beginIf_21 ?_
  refine lv_bipush (v := 31) hx hb dX7_beginIf_24 (by decide) ?_
  refine lv_iload_n hx hb dX7_beginIf_26 rfl (lv_at hl 0 rfl) ?_
  obtain ⟨p13, hcp13, hf⟩ := hf_bind hf
  have mo14 : CS.hs p9.2 ≤ CS.hs p13.2 := Mono.go hcp13 (m_X0_add N p9.2 31 p1.1)
  have hr9 : CS.hs p13.2 ≤ CS.hs R.2 := Mono.go hf (mono_bind (m_X6_push N p13.2 203 (p13.2.i 38) (p13.2.i 50)) (fun p17 => (mono_oc mono_none (fun a22 => (mono_ite (mono_some (Nat.le_refl _)) mono_none)))))
  have hFc := cFree hC hA
  refine va_callv (va_runV (As := [.int 31, .int p1.1]) (rest := []) ⟨hx, hb, hml, hown, hts⟩ (c_X0_add l dC dI Q N p9.2 31 p1.1 p13 hcp13) (cwV 2 hts hX7_beginIf_X0_add_v176 rfl rfl rfl (by decide +kernel) ⟨(show 2 + 1 ≤ (14 + 40 * d) by omega), (show 8 + (3 + 11) + 60 * 2 ≤ 60 * (14 + 40 * d) by omega)⟩) ⟨zPre.blind, va_recv hK hC.1 (ci := 0) (q0 := 2) rfl rfl, cPre_go hZ hK hC⟩ rfl rfl hl.1 rfl (lv_room (Nat.le_of_ble_eq_true rfl)) dX7_beginIf_27 (cAcc h12 mo14 hr9)) hC.2.2.1 (fun q _ h => hFc q h) hFc (fun u9 t9 H1 locs ht hvm hw hB hz1 hk1 hS => ?_)
  obtain ⟨⟨hP, hK1, hD1⟩, hsz1⟩ := hB
  rw [ht] at hP hsz1
  have hC : CP dC dI Q A s.heap p13.2 H1 locs := ⟨hP, hD1.weaken (fun _ _ _ h => hFc _ h), hS, hsz1⟩
  generalize H1 = H at hC ⊢
  have h16 : (CS.hs σ) ≤ CS.hs p13.2 := Nat.le_trans h12 mo14
  refine W.widen (k := CS.hs p13.2 - (CS.hs σ)) (n := 17 * (CS.hs p13.2 - (CS.hs σ))) (cAcc2 h12 mo14) (cAcc3 h12 mo14) ?_
  refine lv_aload_n hx hb dX7_beginIf_30 rfl (lv_at hl 1 rfl) ?_
  refine cG_35 hx hb hts i_X7_beginIf_X7 hown hK hC (hts (.fieldLink RX7 14 "StatementRules2$Statements" "opens" "LStatementRules2$Opens;") k_X7_beginIf_fieldLink_RX7_14_SR_Statements_opens_LSR_Opens) (fun _ q9 => q9) dX7_beginIf_31 ?_
  refine lv_sipush (v := 203) hx hb dX7_beginIf_34 (by decide) ?_
  refine lv_aload_n hx hb dX7_beginIf_37 rfl (lv_at hl 1 rfl) ?_
  refine cG_38 (v := (p13.2.i 38)) hx hb hts i_X7_beginIf_X7 hown hK hC (hts (.fieldLink RX7 68 "StatementRules2$Statements" "depth" "I") k_X7_beginIf_fieldLink_RX7_68_SR_Statements_depth_I) (fun _ q9 => q9) dX7_beginIf_38 rfl ?_
  refine lv_aload_n hx hb dX7_beginIf_41 rfl (lv_at hl 1 rfl) ?_
  refine cG_31 hx hb hts i_X7_beginIf_X7 hown hK hC (hts (.fieldLink RX7 29 "StatementRules2$Statements" "names" "LStatementRules2$Names;") k_X7_beginIf_fieldLink_RX7_29_SR_Statements_names_LSR_Names) (fun x9 q9 => u_same (hts (.sameField "StatementRules2$Statements" "StatementRules2$Formulas" "names" "LStatementRules2$Names;") k_X7_beginIf_sameField_SR_Statements_SR_Formulas_names_LSR_Names) x9 q9) dX7_beginIf_42 ?_
  refine cGN_50 (v := (p13.2.i 50)) hx hb hts i_X7_beginIf_X4 hown hK hC (va_Nw.use rfl (hZ.1 (.fieldLinkNest RX7 33 "StatementRules2$Names" "count" "I" "StatementRules2") (by decide +kernel))) (fun _ q9 => q9) dX7_beginIf_45 rfl ?_
  obtain ⟨p17, hcp17, hf⟩ := hf_bind hf
  have mo18 : CS.hs p13.2 ≤ CS.hs p17.2 := Mono.go hcp17 (m_X6_push N p13.2 203 (p13.2.i 38) (p13.2.i 50))
  have hr9 : CS.hs p17.2 ≤ CS.hs R.2 := Mono.go hf (mono_oc mono_none (fun a22 => (mono_ite (mono_some (Nat.le_refl _)) mono_none)))
  have hFc := cFree hC hA
  refine va_callq (va_runV (As := [.int 203, .int (p13.2.i 38), .int (p13.2.i 50)]) (rest := []) ⟨hx, hb, hml, hown, hts⟩ (c_X6_push l dC dI Q N p13.2 203 (p13.2.i 38) (p13.2.i 50) p17 hcp17) (cwV 3 hts hX7_beginIf_X6_push_v81 rfl rfl rfl (by decide +kernel) ⟨(show 2 + 1 ≤ (14 + 40 * d) by omega), (show 8 + (6 + 11) + 60 * 2 ≤ 60 * (14 + 40 * d) by omega)⟩) ⟨zPre.blind, va_recv hK hC.1 (ci := 5) (q0 := 6) rfl rfl, cPre_go hZ hK hC⟩ rfl rfl hl.1 rfl (lv_room (Nat.le_of_ble_eq_true rfl)) dX7_beginIf_48 (cAcc h16 mo18 hr9)) hC.2.2.1 (fun q _ h => hFc q h) hFc (fun r19 u9 t9 H1 locs ht hvm hw hB hz1 hk1 hS => ?_)
  obtain ⟨⟨hP, hK1, hD1⟩, hsz1⟩ := hB
  rw [ht] at hP hsz1
  have hC : CP dC dI Q A s.heap p17.2 H1 locs := ⟨hP, hD1.weaken (fun _ _ _ h => hFc _ h), hS, hsz1⟩
  generalize H1 = H at hC ⊢
  have h20 : (CS.hs σ) ≤ CS.hs p17.2 := Nat.le_trans h16 mo18
  refine W.widen (k := CS.hs p17.2 - (CS.hs σ)) (n := 17 * (CS.hs p17.2 - (CS.hs σ))) (cAcc2 h16 mo18) (cAcc3 h16 mo18) ?_
  obtain rfl : r19 = p17.1 := hw
  rcases hf_oc hf with ⟨q21, hf⟩ | ⟨a22, q21, hf⟩
  ·
    refine W.eq (congrArg (fun v9 => F0 m 51 ls (va_rf v9 :: [])) q21) ?_
    refine W.eq (g2 := F0 m 51 ls (.null :: [])) rfl ?_
    refine lv_iload_n hx hb dX7_beginIf_51 rfl (lv_at hl 0 rfl) ?_
    cases hf
  ·
    refine W.eq (congrArg (fun v9 => F0 m 51 ls (va_rf v9 :: [])) q21) ?_
    refine W.eq (g2 := F0 m 51 ls (.ref a22 :: [])) rfl ?_
    refine lv_iload_n hx hb dX7_beginIf_51 rfl (lv_at hl 0 rfl) ?_
    obtain ⟨b23, hf⟩ := hf_ite hf
    refine pPN_X5_10 (v := p1.1) hx hb hts i_X7_beginIf_X5 hown hK hC (va_Nw.use rfl (hZ.1 (.fieldLinkNest RX7 284 "StatementRules2$Open" "next" "I" "StatementRules2") (by decide +kernel))) (fun _ q9 => q9) dX7_beginIf_52 b23 (fun H locs hC => ?_)
    obtain rfl := Option.some.inj hf
    exact W.vret hx hb hr (fun t ht hW => ⟨⟨(), rfl, trivial, ⟨by rw [ht]; exact hC.1, va_K.moved hW.alike hK, hC.2.1⟩, by rw [ht]; exact hC.2.2.2⟩, hC.2.2.1.F ht⟩) hC.2.2.1.2.2 dX7_beginIf_55
