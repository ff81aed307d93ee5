section
theorem k_X7_notReached_fieldLink_RX7_65_SR_Statements_unreached_I : Cond.fieldLink RX7 65 "StatementRules2$Statements" "unreached" "I" ∈ wzX7_notReached := List.mem_cons_of_mem _ (List.mem_append_left _ (List.mem_of_getElem? (i := 0) rfl))
theorem i_X7_notReached_X7 : ∀ w ∈ wsX70, w ∈ wzX7_notReached := fun _ h => List.mem_cons_of_mem _ (List.mem_append_right _ (List.mem_append_left _ (h)))
set_option maxHeartbeats 4000000 in
set_option maxRecDepth 100000 in
theorem c_X7_notReached (l : Launch) (dC : Nat → ClassId) (dI : Nat → Nat → Nat) (Q : CQ) (N : Nat) (σ : CS) (x1 : Int32) (R : Unit × CS) (hf : f_X7_notReached N σ x1 = some R) : Met l yX7_notReached wzX7_notReached ({ frames := 1, cells := CS.hs R.2 - CS.hs σ, slots := 17 * (CS.hs R.2 - CS.hs σ), locals := 60 * 1 }) (va_Pc [.ref (Q.o 3), .int x1] (zPre dC dI (CS.hs σ) (cW Q σ) (cT Q))) (va_Qv (fun (_ : Unit) => True) (fun (_ : Unit) (t : State) => zPost dC dI (va_A (cW Q σ) (CS.hs σ)) (cW Q R.2) (cT Q) t ∧ t.heap.size = CS.hs R.2) (va_A (cW Q σ) (CS.hs σ))) (CS.hs R.2 - CS.hs σ) (17 * (CS.hs R.2 - CS.hs σ)) (va_A (cW Q σ) (CS.hs σ)) := by
  refine Met.ofW (cc := cX7_notReached) (maxL := 2) (ret := none) (by decide) rfl ?_
  intro p e s m args below meth c s₁ B hml hv
  obtain ⟨rfl, hsz, hZ, hP, hK, hD0⟩ := hv
  have hx := B.exec
  have hb := B.bytes
  have hr := B.returns
  have hts := atoms_spec (ws := wzX7_notReached) B.pre
  have hown : s.vm.findClass RX7 = some m.cls := findClass_of_methodNamed B.named
  have hlocks := B.notSynchronized
  have hD := hD0.self (sz := CS.hs σ)
  generalize hAe : va_A (cW Q σ) (CS.hs σ) = A at hD ⊢
  have hA : ∀ q : Nat, s.heap.size ≤ q → A q := fun q h => by rw [← hAe]; exact Or.inr (hsz ▸ h)
  have hC : CP dC dI Q A s.heap σ s.heap [] := ⟨hP, hD, va_S.rf, hsz⟩
  have h0 : CS.hs σ ≤ CS.hs σ := Nat.le_refl _
  have hl := lv_entry ([.ref (Q.o 3), .int x1]) (n := 2) (Nat.le_of_ble_eq_true rfl)
  rw [lg_entry_eq]
  generalize (lg_sl ([.ref (Q.o 3), .int x1]) ++ List.replicate (2 - (lg_sl ([.ref (Q.o 3), .int x1])).length) Slot.unset).toArray = ls at hl ⊢
  have hl : lv_has ls 2 [(0, .ref (Q.o 3)), (1, .int x1)] := hl
  unfold f_X7_notReached at hf
  refine W.widen (k := CS.hs σ - CS.hs σ) (n := 17 * (CS.hs σ - CS.hs σ)) (Nat.zero_le _) (Nat.zero_le _) ?_
  refine lv_aload_n hx hb dX7_notReached_0 rfl (lv_at hl 0 rfl) ?_
  refine cG_37 (v := (σ.i 37)) hx hb hts i_X7_notReached_X7 hown hK hC (hts (.fieldLink RX7 65 "StatementRules2$Statements" "unreached" "I") k_X7_notReached_fieldLink_RX7_65_SR_Statements_unreached_I) (fun _ q9 => q9) dX7_notReached_1 rfl ?_
  refine lv_if_ge (tgt := 12) hx hb dX7_notReached_4 (by decide) (fun c1 => ?_) (fun c1 => ?_)
  ·
    replace hf := (if_pos c1).symm.trans hf
    obtain rfl := Option.some.inj hf
    exact W.vret hx hb hr (fun t ht hW => ⟨⟨(), rfl, trivial, ⟨by rw [ht]; exact hC.1, va_K.moved hW.alike hK, hC.2.1⟩, by rw [ht]; exact hC.2.2.2⟩, hC.2.2.1.F ht⟩) hC.2.2.1.2.2 dX7_notReached_12
  ·
    replace hf := (if_neg c1).symm.trans hf
    refine lv_aload_n hx hb dX7_notReached_7 rfl (lv_at hl 0 rfl) ?_
    refine lv_iload_n hx hb dX7_notReached_8 rfl (lv_at hl 1 rfl) ?_
    refine cP_37 (v := x1) hx hb hts i_X7_notReached_X7 hown hK hC (hts (.fieldLink RX7 65 "StatementRules2$Statements" "unreached" "I") k_X7_notReached_fieldLink_RX7_65_SR_Statements_unreached_I) (fun _ q9 => q9) dX7_notReached_9 (fun H locs hC => ?_)
    obtain rfl := Option.some.inj hf
    exact W.vret hx hb hr (fun t ht hW => ⟨⟨(), rfl, trivial, ⟨by rw [ht]; exact hC.1, va_K.moved hW.alike hK, hC.2.1⟩, by rw [ht]; exact hC.2.2.2⟩, hC.2.2.1.F ht⟩) hC.2.2.1.2.2 dX7_notReached_12
theorem k_X4_isCaught_fieldLink_RX4_17_SR_Names_frames_I : Cond.fieldLink RX4 17 "StatementRules2$Names" "frames" "[I" ∈ wzX4_isCaught := List.mem_cons_of_mem _ (List.mem_append_left _ (List.mem_of_getElem? (i := 0) rfl))
theorem i_X4_isCaught_X4 : ∀ w ∈ wsX40, w ∈ wzX4_isCaught := fun _ h => List.mem_cons_of_mem _ (List.mem_append_right _ (List.mem_append_left _ (h)))
theorem k_X4_isCaught_initialized_RX11 : Cond.initialized RX11 ∈ wzX4_isCaught := List.mem_cons_of_mem _ (List.mem_append_left _ (List.mem_of_getElem? (i := 1) rfl))
theorem k_X4_isCaught_static_yX11_at : Cond.static yX11_at ∈ wzX4_isCaught := List.mem_cons_of_mem _ (List.mem_append_left _ (List.mem_of_getElem? (i := 2) rfl))
set_option maxHeartbeats 4000000 in
set_option maxRecDepth 100000 in
theorem c_X4_isCaught (l : Launch) (dC : Nat → ClassId) (dI : Nat → Nat → Nat) (Q : CQ) (N : Nat) (σ : CS) (x1 : Int32) (R : Int32 × CS) (hf : f_X4_isCaught N σ x1 = some R) : Met l yX4_isCaught wzX4_isCaught ({ frames := 2, cells := CS.hs R.2 - CS.hs σ, slots := 17 * (CS.hs R.2 - CS.hs σ), locals := 60 * 2 }) (va_Pc [.ref (Q.o 5), .int x1] (zPre dC dI (CS.hs σ) (cW Q σ) (cT Q))) (va_Qi (fun (r : Int32) (_ : Unit) => r = R.1) (fun (_ : Unit) (t : State) => zPost dC dI (va_A (cW Q σ) (CS.hs σ)) (cW Q R.2) (cT Q) t ∧ t.heap.size = CS.hs R.2) (va_A (cW Q σ) (CS.hs σ))) (CS.hs R.2 - CS.hs σ) (17 * (CS.hs R.2 - CS.hs σ)) (va_A (cW Q σ) (CS.hs σ)) := by
  refine Met.ofW (cc := cX4_isCaught) (maxL := 2) (ret := (some .boolean)) (by decide) rfl ?_
  intro p e s m args below meth c s₁ B hml hv
  obtain ⟨rfl, hsz, hZ, hP, hK, hD0⟩ := hv
  have hx := B.exec
  have hb := B.bytes
  have hr := B.returns
  have hts := atoms_spec (ws := wzX4_isCaught) B.pre
  have hown : s.vm.findClass RX4 = some m.cls := findClass_of_methodNamed B.named
  have hlocks := B.notSynchronized
  have hD := hD0.self (sz := CS.hs σ)
  generalize hAe : va_A (cW Q σ) (CS.hs σ) = A at hD ⊢
  have hA : ∀ q : Nat, s.heap.size ≤ q → A q := fun q h => by rw [← hAe]; exact Or.inr (hsz ▸ h)
  have hC : CP dC dI Q A s.heap σ s.heap [] := ⟨hP, hD, va_S.rf, hsz⟩
  have h0 : CS.hs σ ≤ CS.hs σ := Nat.le_refl _
  have hl := lv_entry ([.ref (Q.o 5), .int x1]) (n := 2) (Nat.le_of_ble_eq_true rfl)
  rw [lg_entry_eq]
  generalize (lg_sl ([.ref (Q.o 5), .int x1]) ++ List.replicate (2 - (lg_sl ([.ref (Q.o 5), .int x1])).length) Slot.unset).toArray = ls at hl ⊢
  have hl : lv_has ls 2 [(0, .ref (Q.o 5)), (1, .int x1)] := hl
  unfold f_X4_isCaught at hf
  refine W.widen (k := CS.hs σ - CS.hs σ) (n := 17 * (CS.hs σ - CS.hs σ)) (Nat.zero_le _) (Nat.zero_le _) ?_
  refine lv_aload_n hx hb dX4_isCaught_0 rfl (lv_at hl 0 rfl) ?_
  refine cG_49 hx hb hts i_X4_isCaught_X4 hown hK hC (hts (.fieldLink RX4 17 "StatementRules2$Names" "frames" "[I") k_X4_isCaught_fieldLink_RX4_17_SR_Names_frames_I) (fun _ q9 => q9) dX4_isCaught_1 ?_
  refine lv_iload_n hx hb dX4_isCaught_4 rfl (lv_at hl 1 rfl) ?_
  have he9 := (cArr_49 (Q := Q) (σ := σ))
  have hFc := cFree1 hC hA he9
  have hr9 : CS.hs σ ≤ CS.hs R.2 := Mono.go hf (mono_ite (mono_some (Nat.le_refl _)) (mono_some (Nat.le_refl _)))
  refine va_calli (va_runSN (As := [.ref (Q.q 49), .int x1]) (rest := []) ⟨hx, hb, hml, hown, hts⟩ (c_X11_at l dC dI _ (Q.q 49) (Q.c 0) 128 (σ.a 49) x1 (by decide)) ⟨va_cnB 2 hts hX4_isCaught_X11_at_n24 rfl rfl rfl (hZ.1 (.methodLinkNest RX4 24 yX11_at "StatementRules2") (by decide +kernel)) (hts (.initialized RX11) k_X4_isCaught_initialized_RX11) (by decide +kernel) ⟨(show 1 + 1 ≤ 2 by omega), (show 8 + (2 + 11) + 60 * 1 ≤ 60 * 2 by omega)⟩, (hts (.static yX11_at) k_X4_isCaught_static_yX11_at), trivial⟩ ⟨zPre.blind, zPre.go hZ (cOne hC.1 he9) (hK.sub (tys' := [(Q.c 0, .int)]) [0] rfl) (cOneD hC.2.1 he9)⟩ rfl rfl hl.1 rfl (lv_room (Nat.le_of_ble_eq_true rfl)) dX4_isCaught_5 ⟨cAcc4 h0 hr9, cAcc5 h0 hr9⟩) hC.2.2.1 (fun q _ h => hFc q h) hFc (fun r1 u9 t9 H1 locs ht hvm hw hB hz1 hk1 hS => ?_)
  obtain ⟨⟨hP1, hK1, hD1⟩, hsz1⟩ := hB
  rw [ht] at hP1 hsz1
  have hC := cBack (σ' := σ) hC he9 (cSelf he9) (Eq.refl (CS.hs σ)) hk1 hP1 hsz1 hS
  generalize H1 = H at hC ⊢
  obtain rfl : r1 = (gAt (σ.a 49) 128 x1) := hw
  refine lv_if_lt (tgt := 15) hx hb dX4_isCaught_8 (by decide) (fun c2 => ?_) (fun c2 => ?_)
  ·
    replace hf := (if_pos c2).symm.trans hf
    refine lv_iconst (v := 0) hx hb dX4_isCaught_15 (by decide) ?_
    obtain rfl := Option.some.inj hf
    exact W.zret (v := 0) hx hb hr (rfl) (fun t ht hW => ⟨⟨0, (), rfl, rfl, ⟨by rw [ht]; exact hC.1, va_K.moved hW.alike hK, hC.2.1⟩, by rw [ht]; exact hC.2.2.2⟩, hC.2.2.1.F ht⟩) hC.2.2.1.2.2 dX4_isCaught_16
  ·
    replace hf := (if_neg c2).symm.trans hf
    refine lv_iconst (v := 1) hx hb dX4_isCaught_11 (by decide) ?_
    refine lv_goto (tgt := 16) hx hb dX4_isCaught_12 (by decide) ?_
    obtain rfl := Option.some.inj hf
    exact W.zret (v := 1) hx hb hr (rfl) (fun t ht hW => ⟨⟨1, (), rfl, rfl, ⟨by rw [ht]; exact hC.1, va_K.moved hW.alike hK, hC.2.1⟩, by rw [ht]; exact hC.2.2.2⟩, hC.2.2.1.F ht⟩) hC.2.2.1.2.2 dX4_isCaught_16
theorem k_X7_change_fieldLink_RX7_29_SR_Statements_names_LSR_Names : Cond.fieldLink RX7 29 "StatementRules2$Statements" "names" "LStatementRules2$Names;" ∈ wzX7_change := List.mem_cons_of_mem _ (List.mem_append_right _ (List.mem_append_right _ (List.mem_append_right _ (List.mem_append_right _ (List.mem_append_right _ (List.mem_append_right _ (List.mem_append_right _ (List.mem_append_right _ (List.mem_append_right _ (List.mem_append_right _ (List.mem_append_right _ (List.mem_append_right _ (List.mem_append_right _ (List.mem_append_right _ (List.mem_append_right _ (List.mem_append_right _ (List.mem_append_right _ (List.mem_append_left _ (List.mem_of_getElem? (i := 0) rfl)))))))))))))))))))
theorem k_X7_change_sameField_SR_Statements_SR_Formulas_names_LSR_Names : Cond.sameField "StatementRules2$Statements" "StatementRules2$Formulas" "names" "LStatementRules2$Names;" ∈ wzX7_change := List.mem_cons_of_mem _ (List.mem_append_right _ (List.mem_append_right _ (List.mem_append_right _ (List.mem_append_right _ (List.mem_append_right _ (List.mem_append_right _ (List.mem_append_right _ (List.mem_append_right _ (List.mem_append_right _ (List.mem_append_right _ (List.mem_append_right _ (List.mem_append_right _ (List.mem_append_right _ (List.mem_append_right _ (List.mem_append_right _ (List.mem_append_right _ (List.mem_append_right _ (List.mem_append_left _ (List.mem_of_getElem? (i := 1) rfl)))))))))))))))))))
theorem i_X7_change_X7 : ∀ w ∈ wsX70, w ∈ wzX7_change := fun _ h => List.mem_cons_of_mem _ (List.mem_append_right _ (List.mem_append_right _ (List.mem_append_right _ (List.mem_append_right _ (List.mem_append_right _ (List.mem_append_right _ (List.mem_append_right _ (List.mem_append_right _ (List.mem_append_right _ (List.mem_append_right _ (List.mem_append_right _ (List.mem_append_right _ (List.mem_append_right _ (List.mem_append_right _ (List.mem_append_right _ (List.mem_append_right _ (List.mem_append_right _ (List.mem_append_right _ (List.mem_append_right _ (List.mem_append_right _ (List.mem_append_right _ (List.mem_append_right _ (List.mem_append_right _ (List.mem_append_right _ (List.mem_append_right _ (List.mem_append_right _ (List.mem_append_right _ (List.mem_append_right _ (List.mem_append_right _ (List.mem_append_right _ (List.mem_append_right _ (List.mem_append_right _ (List.mem_append_right _ (List.mem_append_right _ (List.mem_append_right _ (List.mem_append_right _ (List.mem_append_left _ (h))))))))))))))))))))))))))))))))))))))
theorem k_X7_change_fieldLink_RX7_71_SR_Statements_tokens_LSR_Tokens : Cond.fieldLink RX7 71 "StatementRules2$Statements" "tokens" "LStatementRules2$Tokens;" ∈ wzX7_change := List.mem_cons_of_mem _ (List.mem_append_right _ (List.mem_append_right _ (List.mem_append_right _ (List.mem_append_right _ (List.mem_append_right _ (List.mem_append_right _ (List.mem_append_right _ (List.mem_append_right _ (List.mem_append_right _ (List.mem_append_right _ (List.mem_append_right _ (List.mem_append_right _ (List.mem_append_right _ (List.mem_append_right _ (List.mem_append_right _ (List.mem_append_right _ (List.mem_append_right _ (List.mem_append_left _ (List.mem_of_getElem? (i := 2) rfl)))))))))))))))))))
theorem k_X7_change_sameField_SR_Statements_SR_Formulas_tokens_LSR_Tokens : Cond.sameField "StatementRules2$Statements" "StatementRules2$Formulas" "tokens" "LStatementRules2$Tokens;" ∈ wzX7_change := List.mem_cons_of_mem _ (List.mem_append_right _ (List.mem_append_right _ (List.mem_append_right _ (List.mem_append_right _ (List.mem_append_right _ (List.mem_append_right _ (List.mem_append_right _ (List.mem_append_right _ (List.mem_append_right _ (List.mem_append_right _ (List.mem_append_right _ (List.mem_append_right _ (List.mem_append_right _ (List.mem_append_right _ (List.mem_append_right _ (List.mem_append_right _ (List.mem_append_right _ (List.mem_append_left _ (List.mem_of_getElem? (i := 3) rfl)))))))))))))))))))
theorem k_X7_change_fieldLink_RX7_20_SR_Statements_code_LSR_Code : Cond.fieldLink RX7 20 "StatementRules2$Statements" "code" "LStatementRules2$Code;" ∈ wzX7_change := List.mem_cons_of_mem _ (List.mem_append_right _ (List.mem_append_right _ (List.mem_append_right _ (List.mem_append_right _ (List.mem_append_right _ (List.mem_append_right _ (List.mem_append_right _ (List.mem_append_right _ (List.mem_append_right _ (List.mem_append_right _ (List.mem_append_right _ (List.mem_append_right _ (List.mem_append_right _ (List.mem_append_right _ (List.mem_append_right _ (List.mem_append_right _ (List.mem_append_right _ (List.mem_append_left _ (List.mem_of_getElem? (i := 4) rfl)))))))))))))))))))
theorem k_X7_change_sameField_SR_Statements_SR_Formulas_code_LSR_Code : Cond.sameField "StatementRules2$Statements" "StatementRules2$Formulas" "code" "LStatementRules2$Code;" ∈ wzX7_change := List.mem_cons_of_mem _ (List.mem_append_right _ (List.mem_append_right _ (List.mem_append_right _ (List.mem_append_right _ (List.mem_append_right _ (List.mem_append_right _ (List.mem_append_right _ (List.mem_append_right _ (List.mem_append_right _ (List.mem_append_right _ (List.mem_append_right _ (List.mem_append_right _ (List.mem_append_right _ (List.mem_append_right _ (List.mem_append_right _ (List.mem_append_right _ (List.mem_append_right _ (List.mem_append_left _ (List.mem_of_getElem? (i := 5) rfl)))))))))))))))))))
set_option maxHeartbeats 4000000 in
set_option maxRecDepth 100000 in
theorem j_X7_change_63 {p : Program} {e : Env} {s : State} {m : MethodId} {args : Array Value} {below : List Frame} {meth : Method} {c : Code} {A : Nat → Prop} (l : Launch) (dC : Nat → ClassId) (dI : Nat → Nat → Nat) (Q : CQ) (N : Nat) (d : Nat) (E1 : CS → Option (Unit × CS)) (E2 : CS → Option (Int32 × CS)) (hE1 : cMF l dC dI Q d E1) (hE2 : cMO l dC dI Q d E2) (hm1 : ∀ σ, Mono (CS.hs σ) (E1 σ)) (hm2 : ∀ σ, Mono (CS.hs σ) (E2 σ)) (z9h : Nat) (R : Unit × CS) (hx : p.tables.exec = Jvm.exec) (hb : c.code = cX7_change) (hr : meth.sig.returnType = none) (hml : c.maxLocals = 7) (hown : s.vm.findClass RX7 = some m.cls) (hts : ∀ w ∈ wzX7_change, w.before args s = true) (hlocks : meth.locks = false) (hZ : zAMB s) (hA : ∀ q : Nat, s.heap.size ≤ q → A q) (hK : va_K (dC, dI) vwCl (cT Q) s) : ∀ (σ : CS) (x3 : Int32) (H : Heap) (locs : List Loc) (ls : Array Slot), f_X7_change_63 N E1 E2 σ x3 = some R → z9h ≤ CS.hs σ → CP dC dI Q A s.heap σ H locs → lv_has ls 7 [(0, .ref (Q.o 3)), (3, .int x3)] → W p l e ({ frames := (13 + 40 * d), cells := CS.hs R.2 - z9h, slots := 17 * (CS.hs R.2 - z9h), locals := 60 * (13 + 40 * d) }) s m args below meth c H locs (CS.hs σ - z9h) (17 * (CS.hs σ - z9h)) (MQ below (va_Qv (fun (_ : Unit) => True) (fun (_ : Unit) (t : State) => zPost dC dI A (cW Q R.2) (cT Q) t ∧ t.heap.size = CS.hs R.2) A) args s (CS.hs R.2 - z9h) (17 * (CS.hs R.2 - z9h)) A) (F0 m 63 ls []) := by
  intro σ x3 H locs ls hf h0 hC hl
  unfold f_X7_change_63 at hf
  refine lv_aload_n hx hb dX7_change_63 rfl (lv_at hl 0 rfl) ?_
  refine lv_iconst (v := 3) hx hb dX7_change_64 (by decide) ?_
  refine lv_iload_n hx hb dX7_change_65 rfl (lv_at hl 1 rfl) ?_
  obtain ⟨p11, hcp11, hf⟩ := hf_bind hf
  have mo12 : CS.hs σ ≤ CS.hs p11.2 := Mono.go hcp11 (m_X1_fail N σ 3 x3)
  have hr9 : CS.hs p11.2 ≤ CS.hs R.2 := Mono.go hf (mono_some (Nat.le_refl _))
  have hFc := cFree hC hA
  refine va_callv (va_runU (As := [.int 3, .int x3]) (rest := []) ⟨hx, hb, hml, hown, hts⟩ (c_X1_fail l dC dI Q N σ 3 x3 p11 hcp11) (va_cwU 2 hts hX7_change_X1_fail_u88 rfl rfl rfl rfl (by decide +kernel) ⟨(show 2 + 1 ≤ (13 + 40 * d) by omega), (show 8 + (3 + 11) + 60 * 2 ≤ 60 * (13 + 40 * d) by omega)⟩) ⟨zPre.blind, va_recv hK hC.1 (ci := 6) (q0 := 3) rfl rfl, cPre_go hZ hK hC⟩ rfl rfl hl.1 rfl (lv_room (Nat.le_of_ble_eq_true rfl)) dX7_change_66 (cAcc h0 mo12 hr9)) hC.2.2.1 (fun q _ h => hFc q h) hFc (fun u9 t9 H1 locs ht hvm hw hB hz1 hk1 hS => ?_)
  obtain ⟨⟨hP, hK1, hD1⟩, hsz1⟩ := hB
  rw [ht] at hP hsz1
  have hC : CP dC dI Q A s.heap p11.2 H1 locs := ⟨hP, hD1.weaken (fun _ _ _ h => hFc _ h), hS, hsz1⟩
  generalize H1 = H at hC ⊢
  have h14 : z9h ≤ CS.hs p11.2 := Nat.le_trans h0 mo12
  refine W.widen (k := CS.hs p11.2 - z9h) (n := 17 * (CS.hs p11.2 - z9h)) (cAcc2 h0 mo12) (cAcc3 h0 mo12) ?_
  refine lv_goto (tgt := 142) hx hb dX7_change_69 (by decide) ?_
  obtain rfl := Option.some.inj hf
  exact W.vret hx hb hr (fun t ht hW => ⟨⟨(), rfl, trivial, ⟨by rw [ht]; exact hC.1, va_K.moved hW.alike hK, hC.2.1⟩, by rw [ht]; exact hC.2.2.2⟩, hC.2.2.1.F ht⟩) hC.2.2.1.2.2 dX7_change_142
set_option maxHeartbeats 4000000 in
set_option maxRecDepth 100000 in
theorem j_X7_change_72 {p : Program} {e : Env} {s : State} {m : MethodId} {args : Array Value} {below : List Frame} {meth : Method} {c : Code} {A : Nat → Prop} (l : Launch) (dC : Nat → ClassId) (dI : Nat → Nat → Nat) (Q : CQ) (N : Nat) (d : Nat) (E1 : CS → Option (Unit × CS)) (E2 : CS → Option (Int32 × CS)) (hE1 : cMF l dC dI Q d E1) (hE2 : cMO l dC dI Q d E2) (hm1 : ∀ σ, Mono (CS.hs σ) (E1 σ)) (hm2 : ∀ σ, Mono (CS.hs σ) (E2 σ)) (z9h : Nat) (R : Unit × CS) (hx : p.tables.exec = Jvm.exec) (hb : c.code = cX7_change) (hr : meth.sig.returnType = none) (hml : c.maxLocals = 7) (hown : s.vm.findClass RX7 = some m.cls) (hts : ∀ w ∈ wzX7_change, w.before args s = true) (hlocks : meth.locks = false) (hZ : zAMB s) (hA : ∀ q : Nat, s.heap.size ≤ q → A q) (hK : va_K (dC, dI) vwCl (cT Q) s) : ∀ (σ : CS) (x5 : Int32) (x6 : Int32) (H : Heap) (locs : List Loc) (ls : Array Slot), f_X7_change_72 N E1 E2 σ x5 x6 = some R → z9h ≤ CS.hs σ → CP dC dI Q A s.heap σ H locs → lv_has ls 7 [(0, .ref (Q.o 3)), (5, .int x5), (6, .int x6)] → W p l e ({ frames := (13 + 40 * d), cells := CS.hs R.2 - z9h, slots := 17 * (CS.hs R.2 - z9h), locals := 60 * (13 + 40 * d) }) s m args below meth c H locs (CS.hs σ - z9h) (17 * (CS.hs σ - z9h)) (MQ below (va_Qv (fun (_ : Unit) => True) (fun (_ : Unit) (t : State) => zPost dC dI A (cW Q R.2) (cT Q) t ∧ t.heap.size = CS.hs R.2) A) args s (CS.hs R.2 - z9h) (17 * (CS.hs R.2 - z9h)) A) (F0 m 72 ls []) := by
  intro σ x5 x6 H locs ls hf h0 hC hl
  unfold f_X7_change_72 at hf
  refine lv_iload hx hb dX7_change_72 (lv_at hl 2 rfl) ?_
  refine lv_if_ne (tgt := 84) hx hb dX7_change_74 (by decide) (fun c16 => ?_) (fun c16 => ?_)
  ·
    replace hf := (if_neg c16).symm.trans hf
    refine lv_aload_n hx hb dX7_change_84 rfl (lv_at hl 0 rfl) ?_
    refine lv_sipush (v := 135) hx hb dX7_change_85 (by decide) ?_
    obtain ⟨p17, hcp17, hf⟩ := hf_bind hf
    have mo18 : CS.hs σ ≤ CS.hs p17.2 := Mono.go hcp17 (m_X1_skip N σ 135)
    have hr9 : CS.hs p17.2 ≤ CS.hs R.2 := Mono.go hf (mono_ite (mono_bind (m_X9_advance N p17.2) (fun p22 => (mono_bind (m_X1_expression N E1 E2 hm1 hm2 p22.2) (fun p26 => (mono_bind (m_X4_cellOf N p26.2 x5) (fun p30 => (mono_bind (m_X0_add N p30.2 2 p30.1) (fun p34 => (mono_some (Nat.le_refl _)))))))))) (mono_bind (m_X4_cellOf N p17.2 x5) (fun p38 => (mono_bind (m_X0_add N p38.2 3 p38.1) (fun p42 => (mono_some (Nat.le_refl _)))))))
    have hFc := cFree hC hA
    refine va_calli (va_runU (As := [.int 135]) (rest := []) ⟨hx, hb, hml, hown, hts⟩ (c_X1_skip l dC dI Q N σ 135 p17 hcp17) (va_cwU 1 hts hX7_change_X1_skip_u205 rfl rfl rfl rfl (by decide +kernel) ⟨(show 4 + 1 ≤ (13 + 40 * d) by omega), (show 8 + (3 + 11) + 60 * 4 ≤ 60 * (13 + 40 * d) by omega)⟩) ⟨zPre.blind, va_recv hK hC.1 (ci := 6) (q0 := 3) rfl rfl, cPre_go hZ hK hC⟩ rfl rfl hl.1 rfl (lv_room (Nat.le_of_ble_eq_true rfl)) dX7_change_88 (cAcc h0 mo18 hr9)) hC.2.2.1 (fun q _ h => hFc q h) hFc (fun r19 u9 t9 H1 locs ht hvm hw hB hz1 hk1 hS => ?_)
    obtain ⟨⟨hP, hK1, hD1⟩, hsz1⟩ := hB
    rw [ht] at hP hsz1
    have hC : CP dC dI Q A s.heap p17.2 H1 locs := ⟨hP, hD1.weaken (fun _ _ _ h => hFc _ h), hS, hsz1⟩
    generalize H1 = H at hC ⊢
    have h20 : z9h ≤ CS.hs p17.2 := Nat.le_trans h0 mo18
    refine W.widen (k := CS.hs p17.2 - z9h) (n := 17 * (CS.hs p17.2 - z9h)) (cAcc2 h0 mo18) (cAcc3 h0 mo18) ?_
    obtain rfl : r19 = p17.1 := hw
    refine lv_if_eq (tgt := 114) hx hb dX7_change_91 (by decide) (fun c21 => ?_) (fun c21 => ?_)
    ·
      replace hf := (if_pos c21).symm.trans hf
      refine lv_aload_n hx hb dX7_change_114 rfl (lv_at hl 0 rfl) ?_
      refine cG_28 hx hb hts i_X7_change_X7 hown hK hC (hts (.fieldLink RX7 71 "StatementRules2$Statements" "tokens" "LStatementRules2$Tokens;") k_X7_change_fieldLink_RX7_71_SR_Statements_tokens_LSR_Tokens) (fun x9 q9 => u_same (hts (.sameField "StatementRules2$Statements" "StatementRules2$Formulas" "tokens" "LStatementRules2$Tokens;") k_X7_change_sameField_SR_Statements_SR_Formulas_tokens_LSR_Tokens) x9 q9) dX7_change_115 ?_
      obtain ⟨p22, hcp22, hf⟩ := hf_bind hf
      have mo23 : CS.hs p17.2 ≤ CS.hs p22.2 := Mono.go hcp22 (m_X9_advance N p17.2)
      have hr9 : CS.hs p22.2 ≤ CS.hs R.2 := Mono.go hf (mono_bind (m_X1_expression N E1 E2 hm1 hm2 p22.2) (fun p26 => (mono_bind (m_X4_cellOf N p26.2 x5) (fun p30 => (mono_bind (m_X0_add N p30.2 2 p30.1) (fun p34 => (mono_some (Nat.le_refl _))))))))
      have hFc := cFree hC hA
      refine va_callv (va_runV (As := []) (rest := []) ⟨hx, hb, hml, hown, hts⟩ (c_X9_advance l dC dI Q N p17.2 p22 hcp22) (cwV 0 hts hX7_change_X9_advance_v146 rfl rfl rfl (by decide +kernel) ⟨(show 3 + 1 ≤ (13 + 40 * d) by omega), (show 8 + (2 + 11) + 60 * 3 ≤ 60 * (13 + 40 * d) by omega)⟩) ⟨zPre.blind, va_recv hK hC.1 (ci := 8) (q0 := 4) rfl rfl, cPre_go hZ hK hC⟩ rfl rfl hl.1 rfl (lv_room (Nat.le_of_ble_eq_true rfl)) dX7_change_118 (cAcc h20 mo23 hr9)) hC.2.2.1 (fun q _ h => hFc q h) hFc (fun u9 t9 H1 locs ht hvm hw hB hz1 hk1 hS => ?_)
      obtain ⟨⟨hP, hK1, hD1⟩, hsz1⟩ := hB
      rw [ht] at hP hsz1
      have hC : CP dC dI Q A s.heap p22.2 H1 locs := ⟨hP, hD1.weaken (fun _ _ _ h => hFc _ h), hS, hsz1⟩
      generalize H1 = H at hC ⊢
      have h25 : z9h ≤ CS.hs p22.2 := Nat.le_trans h20 mo23
      refine W.widen (k := CS.hs p22.2 - z9h) (n := 17 * (CS.hs p22.2 - z9h)) (cAcc2 h20 mo23) (cAcc3 h20 mo23) ?_
      refine lv_aload_n hx hb dX7_change_121 rfl (lv_at hl 0 rfl) ?_
      obtain ⟨p26, hcp26, hf⟩ := hf_bind hf
      have mo27 : CS.hs p22.2 ≤ CS.hs p26.2 := Mono.go hcp26 (m_X1_expression N E1 E2 hm1 hm2 p22.2)
      have hr9 : CS.hs p26.2 ≤ CS.hs R.2 := Mono.go hf (mono_bind (m_X4_cellOf N p26.2 x5) (fun p30 => (mono_bind (m_X0_add N p30.2 2 p30.1) (fun p34 => (mono_some (Nat.le_refl _))))))
      have hFc := cFree hC hA
      refine va_callv (va_runU (As := []) (rest := []) ⟨hx, hb, hml, hown, hts⟩ (c_X1_expression l dC dI Q N d E1 E2 hE1 hE2 hm1 hm2 p22.2 p26 hcp26) (va_cwU 0 hts hX7_change_X1_expression_u211 rfl rfl rfl rfl (by decide +kernel) ⟨(show (12 + 40 * d) + 1 ≤ (13 + 40 * d) by omega), (show 8 + (3 + 11) + 60 * (12 + 40 * d) ≤ 60 * (13 + 40 * d) by omega)⟩) ⟨zPre.blind, va_recv hK hC.1 (ci := 6) (q0 := 3) rfl rfl, cPre_go hZ hK hC⟩ rfl rfl hl.1 rfl (lv_room (Nat.le_of_ble_eq_true rfl)) dX7_change_122 (cAcc h25 mo27 hr9)) hC.2.2.1 (fun q _ h => hFc q h) hFc (fun u9 t9 H1 locs ht hvm hw hB hz1 hk1 hS => ?_)
      obtain ⟨⟨hP, hK1, hD1⟩, hsz1⟩ := hB
      rw [ht] at hP hsz1
      have hC : CP dC dI Q A s.heap p26.2 H1 locs := ⟨hP, hD1.weaken (fun _ _ _ h => hFc _ h), hS, hsz1⟩
      generalize H1 = H at hC ⊢
      have h29 : z9h ≤ CS.hs p26.2 := Nat.le_trans h25 mo27
      refine W.widen (k := CS.hs p26.2 - z9h) (n := 17 * (CS.hs p26.2 - z9h)) (cAcc2 h25 mo27) (cAcc3 h25 mo27) ?_
      refine lv_aload_n hx hb dX7_change_125 rfl (lv_at hl 0 rfl) ?_
      refine cG_29 hx hb hts i_X7_change_X7 hown hK hC (hts (.fieldLink RX7 20 "StatementRules2$Statements" "code" "LStatementRules2$Code;") k_X7_change_fieldLink_RX7_20_SR_Statements_code_LSR_Code) (fun x9 q9 => u_same (hts (.sameField "StatementRules2$Statements" "StatementRules2$Formulas" "code" "LStatementRules2$Code;") k_X7_change_sameField_SR_Statements_SR_Formulas_code_LSR_Code) x9 q9) dX7_change_126 ?_
      refine lv_iconst (v := 2) hx hb dX7_change_129 (by decide) ?_
      refine lv_aload_n hx hb dX7_change_130 rfl (lv_at hl 0 rfl) ?_
      refine cG_31 hx hb hts i_X7_change_X7 hown hK hC (hts (.fieldLink RX7 29 "StatementRules2$Statements" "names" "LStatementRules2$Names;") k_X7_change_fieldLink_RX7_29_SR_Statements_names_LSR_Names) (fun x9 q9 => u_same (hts (.sameField "StatementRules2$Statements" "StatementRules2$Formulas" "names" "LStatementRules2$Names;") k_X7_change_sameField_SR_Statements_SR_Formulas_names_LSR_Names) x9 q9) dX7_change_131 ?_
      refine lv_iload hx hb dX7_change_134 (lv_at hl 1 rfl) ?_
      obtain ⟨p30, hcp30, hf⟩ := hf_bind hf
      have mo31 : CS.hs p26.2 ≤ CS.hs p30.2 := Mono.go hcp30 (m_X4_cellOf N p26.2 x5)
      have hr9 : CS.hs p30.2 ≤ CS.hs R.2 := Mono.go hf (mono_bind (m_X0_add N p30.2 2 p30.1) (fun p34 => (mono_some (Nat.le_refl _))))
      have hFc := cFree hC hA
      refine va_calli (va_runV (As := [.int x5]) (rest := [.int 2, .ref (Q.o 2)]) ⟨hx, hb, hml, hown, hts⟩ (c_X4_cellOf l dC dI Q N p26.2 x5 p30 hcp30) (cwV 1 hts hX7_change_X4_cellOf_v208 rfl rfl rfl (by decide +kernel) ⟨(show 2 + 1 ≤ (13 + 40 * d) by omega), (show 8 + (2 + 11) + 60 * 2 ≤ 60 * (13 + 40 * d) by omega)⟩) ⟨zPre.blind, va_recv hK hC.1 (ci := 3) (q0 := 5) rfl rfl, cPre_go hZ hK hC⟩ rfl rfl hl.1 rfl (lv_room (Nat.le_of_ble_eq_true rfl)) dX7_change_136 (cAcc h29 mo31 hr9)) hC.2.2.1 (fun q _ h => hFc q h) hFc (fun r32 u9 t9 H1 locs ht hvm hw hB hz1 hk1 hS => ?_)
      obtain ⟨⟨hP, hK1, hD1⟩, hsz1⟩ := hB
      rw [ht] at hP hsz1
      have hC : CP dC dI Q A s.heap p30.2 H1 locs := ⟨hP, hD1.weaken (fun _ _ _ h => hFc _ h), hS, hsz1⟩
      generalize H1 = H at hC ⊢
      have h33 : z9h ≤ CS.hs p30.2 := Nat.le_trans h29 mo31
      refine W.widen (k := CS.hs p30.2 - z9h) (n := 17 * (CS.hs p30.2 - z9h)) (cAcc2 h29 mo31) (cAcc3 h29 mo31) ?_
      obtain rfl : r32 = p30.1 := hw
      obtain ⟨p34, hcp34, hf⟩ := hf_bind hf
      have mo35 : CS.hs p30.2 ≤ CS.hs p34.2 := Mono.go hcp34 (m_X0_add N p30.2 2 p30.1)
      have hr9 : CS.hs p34.2 ≤ CS.hs R.2 := Mono.go hf (mono_some (Nat.le_refl _))
      have hFc := cFree hC hA
      refine va_callv (va_runV (As := [.int 2, .int p30.1]) (rest := []) ⟨hx, hb, hml, hown, hts⟩ (c_X0_add l dC dI Q N p30.2 2 p30.1 p34 hcp34) (cwV 2 hts hX7_change_X0_add_v176 rfl rfl rfl (by decide +kernel) ⟨(show 2 + 1 ≤ (13 + 40 * d) by omega), (show 8 + (3 + 11) + 60 * 2 ≤ 60 * (13 + 40 * d) by omega)⟩) ⟨zPre.blind, va_recv hK hC.1 (ci := 0) (q0 := 2) rfl rfl, cPre_go hZ hK hC⟩ rfl rfl hl.1 rfl (lv_room (Nat.le_of_ble_eq_true rfl)) dX7_change_139 (cAcc h33 mo35 hr9)) hC.2.2.1 (fun q _ h => hFc q h) hFc (fun u9 t9 H1 locs ht hvm hw hB hz1 hk1 hS => ?_)
      obtain ⟨⟨hP, hK1, hD1⟩, hsz1⟩ := hB
      rw [ht] at hP hsz1
      have hC : CP dC dI Q A s.heap p34.2 H1 locs := ⟨hP, hD1.weaken (fun _ _ _ h => hFc _ h), hS, hsz1⟩
      generalize H1 = H at hC ⊢
      have h37 : z9h ≤ CS.hs p34.2 := Nat.le_trans h33 mo35
      refine W.widen (k := CS.hs p34.2 - z9h) (n := 17 * (CS.hs p34.2 - z9h)) (cAcc2 h33 mo35) (cAcc3 h33 mo35) ?_
      obtain rfl := Option.some.inj hf
      exact W.vret hx hb hr (fun t ht hW => ⟨⟨(), rfl, trivial, ⟨by rw [ht]; exact hC.1, va_K.moved hW.alike hK, hC.2.1⟩, by rw [ht]; exact hC.2.2.2⟩, hC.2.2.1.F ht⟩) hC.2.2.1.2.2 dX7_change_142
    ·
      replace hf := (if_neg c21).symm.trans hf
      refine lv_aload_n hx hb dX7_change_94 rfl (lv_at hl 0 rfl) ?_
      refine cG_29 hx hb hts i_X7_change_X7 hown hK hC (hts (.fieldLink RX7 20 "StatementRules2$Statements" "code" "LStatementRules2$Code;") k_X7_change_fieldLink_RX7_20_SR_Statements_code_LSR_Code) (fun x9 q9 => u_same (hts (.sameField "StatementRules2$Statements" "StatementRules2$Formulas" "code" "LStatementRules2$Code;") k_X7_change_sameField_SR_Statements_SR_Formulas_code_LSR_Code) x9 q9) dX7_change_95 ?_
      refine lv_iconst (v := 3) hx hb dX7_change_98 (by decide) ?_
      refine lv_aload_n hx hb dX7_change_99 rfl (lv_at hl 0 rfl) ?_
      refine cG_31 hx hb hts i_X7_change_X7 hown hK hC (hts (.fieldLink RX7 29 "StatementRules2$Statements" "names" "LStatementRules2$Names;") k_X7_change_fieldLink_RX7_29_SR_Statements_names_LSR_Names) (fun x9 q9 => u_same (hts (.sameField "StatementRules2$Statements" "StatementRules2$Formulas" "names" "LStatementRules2$Names;") k_X7_change_sameField_SR_Statements_SR_Formulas_names_LSR_Names) x9 q9) dX7_change_100 ?_
      refine lv_iload hx hb dX7_change_103 (lv_at hl 1 rfl) ?_
      obtain ⟨p38, hcp38, hf⟩ := hf_bind hf
      have mo39 : CS.hs p17.2 ≤ CS.hs p38.2 := Mono.go hcp38 (m_X4_cellOf N p17.2 x5)
      have hr9 : CS.hs p38.2 ≤ CS.hs R.2 := Mono.go hf (mono_bind (m_X0_add N p38.2 3 p38.1) (fun p42 => (mono_some (Nat.le_refl _))))
      have hFc := cFree hC hA
      refine va_calli (va_runV (As := [.int x5]) (rest := [.int 3, .ref (Q.o 2)]) ⟨hx, hb, hml, hown, hts⟩ (c_X4_cellOf l dC dI Q N p17.2 x5 p38 hcp38) (cwV 1 hts hX7_change_X4_cellOf_v208 rfl rfl rfl (by decide +kernel) ⟨(show 2 + 1 ≤ (13 + 40 * d) by omega), (show 8 + (2 + 11) + 60 * 2 ≤ 60 * (13 + 40 * d) by omega)⟩) ⟨zPre.blind, va_recv hK hC.1 (ci := 3) (q0 := 5) rfl rfl, cPre_go hZ hK hC⟩ rfl rfl hl.1 rfl (lv_room (Nat.le_of_ble_eq_true rfl)) dX7_change_105 (cAcc h20 mo39 hr9)) hC.2.2.1 (fun q _ h => hFc q h) hFc (fun r40 u9 t9 H1 locs ht hvm hw hB hz1 hk1 hS => ?_)
      obtain ⟨⟨hP, hK1, hD1⟩, hsz1⟩ := hB
      rw [ht] at hP hsz1
      have hC : CP dC dI Q A s.heap p38.2 H1 locs := ⟨hP, hD1.weaken (fun _ _ _ h => hFc _ h), hS, hsz1⟩
      generalize H1 = H at hC ⊢
      have h41 : z9h ≤ CS.hs p38.2 := Nat.le_trans h20 mo39
      refine W.widen (k := CS.hs p38.2 - z9h) (n := 17 * (CS.hs p38.2 - z9h)) (cAcc2 h20 mo39) (cAcc3 h20 mo39) ?_
      obtain rfl : r40 = p38.1 := hw
      obtain ⟨p42, hcp42, hf⟩ := hf_bind hf
      have mo43 : CS.hs p38.2 ≤ CS.hs p42.2 := Mono.go hcp42 (m_X0_add N p38.2 3 p38.1)
      have hr9 : CS.hs p42.2 ≤ CS.hs R.2 := Mono.go hf (mono_some (Nat.le_refl _))
      have hFc := cFree hC hA
      refine va_callv (va_runV (As := [.int 3, .int p38.1]) (rest := []) ⟨hx, hb, hml, hown, hts⟩ (c_X0_add l dC dI Q N p38.2 3 p38.1 p42 hcp42) (cwV 2 hts hX7_change_X0_add_v176 rfl rfl rfl (by decide +kernel) ⟨(show 2 + 1 ≤ (13 + 40 * d) by omega), (show 8 + (3 + 11) + 60 * 2 ≤ 60 * (13 + 40 * d) by omega)⟩) ⟨zPre.blind, va_recv hK hC.1 (ci := 0) (q0 := 2) rfl rfl, cPre_go hZ hK hC⟩ rfl rfl hl.1 rfl (lv_room (Nat.le_of_ble_eq_true rfl)) dX7_change_108 (cAcc h41 mo43 hr9)) hC.2.2.1 (fun q _ h => hFc q h) hFc (fun u9 t9 H1 locs ht hvm hw hB hz1 hk1 hS => ?_)
      obtain ⟨⟨hP, hK1, hD1⟩, hsz1⟩ := hB
      rw [ht] at hP hsz1
      have hC : CP dC dI Q A s.heap p42.2 H1 locs := ⟨hP, hD1.weaken (fun _ _ _ h => hFc _ h), hS, hsz1⟩
      generalize H1 = H at hC ⊢
      have h45 : z9h ≤ CS.hs p42.2 := Nat.le_trans h41 mo43
      refine W.widen (k := CS.hs p42.2 - z9h) (n := 17 * (CS.hs p42.2 - z9h)) (cAcc2 h41 mo43) (cAcc3 h41 mo43) ?_
      refine lv_goto (tgt := 142) hx hb dX7_change_111 (by decide) ?_
      obtain rfl := Option.some.inj hf
      exact W.vret hx hb hr (fun t ht hW => ⟨⟨(), rfl, trivial, ⟨by rw [ht]; exact hC.1, va_K.moved hW.alike hK, hC.2.1⟩, by rw [ht]; exact hC.2.2.2⟩, hC.2.2.1.F ht⟩) hC.2.2.1.2.2 dX7_change_142
  ·
    replace hf := (if_pos c16).symm.trans hf
    refine lv_aload_n hx hb dX7_change_77 rfl (lv_at hl 0 rfl) ?_
    obtain ⟨p46, hcp46, hf⟩ := hf_bind hf
    have mo47 : CS.hs σ ≤ CS.hs p46.2 := Mono.go hcp46 (m_X1_misplaced N σ)
    have hr9 : CS.hs p46.2 ≤ CS.hs R.2 := Mono.go hf (mono_some (Nat.le_refl _))
    have hFc := cFree hC hA
    refine va_callv (va_runU (As := []) (rest := []) ⟨hx, hb, hml, hown, hts⟩ (c_X1_misplaced l dC dI Q N σ p46 hcp46) (va_cwU 0 hts hX7_change_X1_misplaced_u161 rfl rfl rfl rfl (by decide +kernel) ⟨(show 3 + 1 ≤ (13 + 40 * d) by omega), (show 8 + (1 + 11) + 60 * 3 ≤ 60 * (13 + 40 * d) by omega)⟩) ⟨zPre.blind, va_recv hK hC.1 (ci := 6) (q0 := 3) rfl rfl, cPre_go hZ hK hC⟩ rfl rfl hl.1 rfl (lv_room (Nat.le_of_ble_eq_true rfl)) dX7_change_78 (cAcc h0 mo47 hr9)) hC.2.2.1 (fun q _ h => hFc q h) hFc (fun u9 t9 H1 locs ht hvm hw hB hz1 hk1 hS => ?_)
    obtain ⟨⟨hP, hK1, hD1⟩, hsz1⟩ := hB
    rw [ht] at hP hsz1
    have hC : CP dC dI Q A s.heap p46.2 H1 locs := ⟨hP, hD1.weaken (fun _ _ _ h => hFc _ h), hS, hsz1⟩
    generalize H1 = H at hC ⊢
    have h49 : z9h ≤ CS.hs p46.2 := Nat.le_trans h0 mo47
    refine W.widen (k := CS.hs p46.2 - z9h) (n := 17 * (CS.hs p46.2 - z9h)) (cAcc2 h0 mo47) (cAcc3 h0 mo47) ?_
    refine lv_goto (tgt := 142) hx hb dX7_change_81 (by decide) ?_
    obtain rfl := Option.some.inj hf
    exact W.vret hx hb hr (fun t ht hW => ⟨⟨(), rfl, trivial, ⟨by rw [ht]; exact hC.1, va_K.moved hW.alike hK, hC.2.1⟩, by rw [ht]; exact hC.2.2.2⟩, hC.2.2.1.F ht⟩) hC.2.2.1.2.2 dX7_change_142
set_option maxHeartbeats 4000000 in
set_option maxRecDepth 100000 in
theorem j_X7_change_41 {p : Program} {e : Env} {s : State} {m : MethodId} {args : Array Value} {below : List Frame} {meth : Method} {c : Code} {A : Nat → Prop} (l : Launch) (dC : Nat → ClassId) (dI : Nat → Nat → Nat) (Q : CQ) (N : Nat) (d : Nat) (E1 : CS → Option (Unit × CS)) (E2 : CS → Option (Int32 × CS)) (hE1 : cMF l dC dI Q d E1) (hE2 : cMO l dC dI Q d E2) (hm1 : ∀ σ, Mono (CS.hs σ) (E1 σ)) (hm2 : ∀ σ, Mono (CS.hs σ) (E2 σ)) (z9h : Nat) (R : Unit × CS) (hx : p.tables.exec = Jvm.exec) (hb : c.code = cX7_change) (hr : meth.sig.returnType = none) (hml : c.maxLocals = 7) (hown : s.vm.findClass RX7 = some m.cls) (hts : ∀ w ∈ wzX7_change, w.before args s = true) (hlocks : meth.locks = false) (hZ : zAMB s) (hA : ∀ q : Nat, s.heap.size ≤ q → A q) (hK : va_K (dC, dI) vwCl (cT Q) s) : ∀ (σ : CS) (x3 : Int32) (x5 : Int32) (x6 : Int32) (H : Heap) (locs : List Loc) (ls : Array Slot), f_X7_change_41 N E1 E2 σ x3 x5 x6 = some R → z9h ≤ CS.hs σ → CP dC dI Q A s.heap σ H locs → lv_has ls 7 [(0, .ref (Q.o 3)), (3, .int x3), (5, .int x5), (6, .int x6)] → W p l e ({ frames := (13 + 40 * d), cells := CS.hs R.2 - z9h, slots := 17 * (CS.hs R.2 - z9h), locals := 60 * (13 + 40 * d) }) s m args below meth c H locs (CS.hs σ - z9h) (17 * (CS.hs σ - z9h)) (MQ below (va_Qv (fun (_ : Unit) => True) (fun (_ : Unit) (t : State) => zPost dC dI A (cW Q R.2) (cT Q) t ∧ t.heap.size = CS.hs R.2) A) args s (CS.hs R.2 - z9h) (17 * (CS.hs R.2 - z9h)) A) (F0 m 41 ls []) := by
  intro σ x3 x5 x6 H locs ls hf h0 hC hl
  unfold f_X7_change_41 at hf
  refine lv_iload hx hb dX7_change_41 (lv_at hl 2 rfl) ?_
  refine lv_if_lt (tgt := 63) hx hb dX7_change_43 (by decide) (fun c10 => ?_) (fun c10 => ?_)
  ·
    replace hf := (if_pos c10).symm.trans hf
    exact j_X7_change_63 l dC dI Q N d E1 E2 hE1 hE2 hm1 hm2 z9h R hx hb hr hml hown hts hlocks hZ hA hK σ x3 _ _ _ hf h0 hC (lv_sub hl [0, 1] rfl)
  ·
    replace hf := (if_neg c10).symm.trans hf
    refine lv_iload hx hb dX7_change_46 (lv_at hl 3 rfl) ?_
    refine lv_if_eq (tgt := 72) hx hb dX7_change_48 (by decide) (fun c15 => ?_) (fun c15 => ?_)
    ·
      replace hf := (if_pos c15).symm.trans hf
      exact j_X7_change_72 l dC dI Q N d E1 E2 hE1 hE2 hm1 hm2 z9h R hx hb hr hml hown hts hlocks hZ hA hK σ x5 x6 _ _ _ hf h0 hC (lv_sub hl [0, 2, 3] rfl)
    ·
      replace hf := (if_neg c15).symm.trans hf
      refine lv_aload_n hx hb dX7_change_51 rfl (lv_at hl 0 rfl) ?_
      refine cG_31 hx hb hts i_X7_change_X7 hown hK hC (hts (.fieldLink RX7 29 "StatementRules2$Statements" "names" "LStatementRules2$Names;") k_X7_change_fieldLink_RX7_29_SR_Statements_names_LSR_Names) (fun x9 q9 => u_same (hts (.sameField "StatementRules2$Statements" "StatementRules2$Formulas" "names" "LStatementRules2$Names;") k_X7_change_sameField_SR_Statements_SR_Formulas_names_LSR_Names) x9 q9) dX7_change_52 ?_
      refine lv_iload hx hb dX7_change_55 (lv_at hl 2 rfl) ?_
      obtain ⟨p50, hcp50, hf⟩ := hf_bind hf
      have mo51 : CS.hs σ ≤ CS.hs p50.2 := Mono.go hcp50 (m_X4_isCaught N σ x5)
      have hr9 : CS.hs p50.2 ≤ CS.hs R.2 := Mono.go hf (mono_ite (m_X7_change_72 N E1 E2 hm1 hm2 p50.2 x5 x6) (m_X7_change_63 N E1 E2 hm1 hm2 p50.2 x3))
      have hFc := cFree hC hA
      refine va_calli (va_runV (As := [.int x5]) (rest := []) ⟨hx, hb, hml, hown, hts⟩ (c_X4_isCaught l dC dI Q N σ x5 p50 hcp50) (cwV 1 hts hX7_change_X4_isCaught_v202 rfl rfl rfl (by decide +kernel) ⟨(show 2 + 1 ≤ (13 + 40 * d) by omega), (show 8 + (2 + 11) + 60 * 2 ≤ 60 * (13 + 40 * d) by omega)⟩) ⟨zPre.blind, va_recv hK hC.1 (ci := 3) (q0 := 5) rfl rfl, cPre_go hZ hK hC⟩ rfl rfl hl.1 rfl (lv_room (Nat.le_of_ble_eq_true rfl)) dX7_change_57 (cAcc h0 mo51 hr9)) hC.2.2.1 (fun q _ h => hFc q h) hFc (fun r52 u9 t9 H1 locs ht hvm hw hB hz1 hk1 hS => ?_)
      obtain ⟨⟨hP, hK1, hD1⟩, hsz1⟩ := hB
      rw [ht] at hP hsz1
      have hC : CP dC dI Q A s.heap p50.2 H1 locs := ⟨hP, hD1.weaken (fun _ _ _ h => hFc _ h), hS, hsz1⟩
      generalize H1 = H at hC ⊢
      have h53 : z9h ≤ CS.hs p50.2 := Nat.le_trans h0 mo51
      refine W.widen (k := CS.hs p50.2 - z9h) (n := 17 * (CS.hs p50.2 - z9h)) (cAcc2 h0 mo51) (cAcc3 h0 mo51) ?_
      obtain rfl : r52 = p50.1 := hw
      refine lv_if_eq (tgt := 72) hx hb dX7_change_60 (by decide) (fun c54 => ?_) (fun c54 => ?_)
      ·
        replace hf := (if_pos c54).symm.trans hf
        exact j_X7_change_72 l dC dI Q N d E1 E2 hE1 hE2 hm1 hm2 z9h R hx hb hr hml hown hts hlocks hZ hA hK p50.2 x5 x6 _ _ _ hf h53 hC (lv_sub hl [0, 2, 3] rfl)
      ·
        replace hf := (if_neg c54).symm.trans hf
        exact j_X7_change_63 l dC dI Q N d E1 E2 hE1 hE2 hm1 hm2 z9h R hx hb hr hml hown hts hlocks hZ hA hK p50.2 x3 _ _ _ hf h53 hC (lv_sub hl [0, 1] rfl)
set_option maxHeartbeats 4000000 in
set_option maxRecDepth 100000 in
theorem j_X7_change_34 {p : Program} {e : Env} {s : State} {m : MethodId} {args : Array Value} {below : List Frame} {meth : Method} {c : Code} {A : Nat → Prop} (l : Launch) (dC : Nat → ClassId) (dI : Nat → Nat → Nat) (Q : CQ) (N : Nat) (d : Nat) (E1 : CS → Option (Unit × CS)) (E2 : CS → Option (Int32 × CS)) (hE1 : cMF l dC dI Q d E1) (hE2 : cMO l dC dI Q d E2) (hm1 : ∀ σ, Mono (CS.hs σ) (E1 σ)) (hm2 : ∀ σ, Mono (CS.hs σ) (E2 σ)) (z9h : Nat) (R : Unit × CS) (hx : p.tables.exec = Jvm.exec) (hb : c.code = cX7_change) (hr : meth.sig.returnType = none) (hml : c.maxLocals = 7) (hown : s.vm.findClass RX7 = some m.cls) (hts : ∀ w ∈ wzX7_change, w.before args s = true) (hlocks : meth.locks = false) (hZ : zAMB s) (hA : ∀ q : Nat, s.heap.size ≤ q → A q) (hK : va_K (dC, dI) vwCl (cT Q) s) : ∀ (σ : CS) (x3 : Int32) (x5 : Int32) (H : Heap) (locs : List Loc) (ls : Array Slot), f_X7_change_34 N E1 E2 σ x3 x5 = some R → z9h ≤ CS.hs σ → CP dC dI Q A s.heap σ H locs → lv_has ls 7 [(0, .ref (Q.o 3)), (3, .int x3), (5, .int x5)] → W p l e ({ frames := (13 + 40 * d), cells := CS.hs R.2 - z9h, slots := 17 * (CS.hs R.2 - z9h), locals := 60 * (13 + 40 * d) }) s m args below meth c H locs (CS.hs σ - z9h) (17 * (CS.hs σ - z9h)) (MQ below (va_Qv (fun (_ : Unit) => True) (fun (_ : Unit) (t : State) => zPost dC dI A (cW Q R.2) (cT Q) t ∧ t.heap.size = CS.hs R.2) A) args s (CS.hs R.2 - z9h) (17 * (CS.hs R.2 - z9h)) A) (F0 m 34 ls []) := by
  intro σ x3 x5 H locs ls hf h0 hC hl
  unfold f_X7_change_34 at hf
  refine lv_iconst (v := 1) hx hb dX7_change_34 (by decide) ?_
  refine lv_goto (tgt := 39) hx hb dX7_change_35 (by decide) ?_
  refine lv_istore (lv' := [(6, .int 1), (0, .ref (Q.o 3)), (3, .int x3), (5, .int x5)]) hx hb dX7_change_39 hl (by decide) rfl (fun ls hl => ?_)
  exact j_X7_change_41 l dC dI Q N d E1 E2 hE1 hE2 hm1 hm2 z9h R hx hb hr hml hown hts hlocks hZ hA hK σ x3 x5 1 _ _ _ hf h0 hC (lv_sub hl [1, 2, 3, 0] rfl)
set_option maxHeartbeats 4000000 in
set_option maxRecDepth 100000 in
theorem j_X7_change_38 {p : Program} {e : Env} {s : State} {m : MethodId} {args : Array Value} {below : List Frame} {meth : Method} {c : Code} {A : Nat → Prop} (l : Launch) (dC : Nat → ClassId) (dI : Nat → Nat → Nat) (Q : CQ) (N : Nat) (d : Nat) (E1 : CS → Option (Unit × CS)) (E2 : CS → Option (Int32 × CS)) (hE1 : cMF l dC dI Q d E1) (hE2 : cMO l dC dI Q d E2) (hm1 : ∀ σ, Mono (CS.hs σ) (E1 σ)) (hm2 : ∀ σ, Mono (CS.hs σ) (E2 σ)) (z9h : Nat) (R : Unit × CS) (hx : p.tables.exec = Jvm.exec) (hb : c.code = cX7_change) (hr : meth.sig.returnType = none) (hml : c.maxLocals = 7) (hown : s.vm.findClass RX7 = some m.cls) (hts : ∀ w ∈ wzX7_change, w.before args s = true) (hlocks : meth.locks = false) (hZ : zAMB s) (hA : ∀ q : Nat, s.heap.size ≤ q → A q) (hK : va_K (dC, dI) vwCl (cT Q) s) : ∀ (σ : CS) (x3 : Int32) (x5 : Int32) (H : Heap) (locs : List Loc) (ls : Array Slot), f_X7_change_38 N E1 E2 σ x3 x5 = some R → z9h ≤ CS.hs σ → CP dC dI Q A s.heap σ H locs → lv_has ls 7 [(0, .ref (Q.o 3)), (3, .int x3), (5, .int x5)] → W p l e ({ frames := (13 + 40 * d), cells := CS.hs R.2 - z9h, slots := 17 * (CS.hs R.2 - z9h), locals := 60 * (13 + 40 * d) }) s m args below meth c H locs (CS.hs σ - z9h) (17 * (CS.hs σ - z9h)) (MQ below (va_Qv (fun (_ : Unit) => True) (fun (_ : Unit) (t : State) => zPost dC dI A (cW Q R.2) (cT Q) t ∧ t.heap.size = CS.hs R.2) A) args s (CS.hs R.2 - z9h) (17 * (CS.hs R.2 - z9h)) A) (F0 m 38 ls []) := by
  intro σ x3 x5 H locs ls hf h0 hC hl
  unfold f_X7_change_38 at hf
  refine lv_iconst (v := 0) hx hb dX7_change_38 (by decide) ?_
  refine lv_istore (lv' := [(6, .int 0), (0, .ref (Q.o 3)), (3, .int x3), (5, .int x5)]) hx hb dX7_change_39 hl (by decide) rfl (fun ls hl => ?_)
  exact j_X7_change_41 l dC dI Q N d E1 E2 hE1 hE2 hm1 hm2 z9h R hx hb hr hml hown hts hlocks hZ hA hK σ x3 x5 0 _ _ _ hf h0 hC (lv_sub hl [1, 2, 3, 0] rfl)
set_option maxHeartbeats 4000000 in
set_option maxRecDepth 100000 in
theorem c_X7_change (l : Launch) (dC : Nat → ClassId) (dI : Nat → Nat → Nat) (Q : CQ) (N : Nat) (d : Nat) (E1 : CS → Option (Unit × CS)) (E2 : CS → Option (Int32 × CS)) (hE1 : cMF l dC dI Q d E1) (hE2 : cMO l dC dI Q d E2) (hm1 : ∀ σ, Mono (CS.hs σ) (E1 σ)) (hm2 : ∀ σ, Mono (CS.hs σ) (E2 σ)) (σ : CS) (x1 : Int64) (x3 : Int32) (x4 : Int32) (R : Unit × CS) (hf : f_X7_change N E1 E2 σ x1 x3 x4 = some R) : Met l yX7_change wzX7_change ({ frames := (13 + 40 * d), cells := CS.hs R.2 - CS.hs σ, slots := 17 * (CS.hs R.2 - CS.hs σ), locals := 60 * (13 + 40 * d) }) (va_Pc [.ref (Q.o 3), .long x1, .int x3, .int x4] (zPre dC dI (CS.hs σ) (cW Q σ) (cT Q))) (va_Qv (fun (_ : Unit) => True) (fun (_ : Unit) (t : State) => zPost dC dI (va_A (cW Q σ) (CS.hs σ)) (cW Q R.2) (cT Q) t ∧ t.heap.size = CS.hs R.2) (va_A (cW Q σ) (CS.hs σ))) (CS.hs R.2 - CS.hs σ) (17 * (CS.hs R.2 - CS.hs σ)) (va_A (cW Q σ) (CS.hs σ)) := by
  refine Met.ofW (cc := cX7_change) (maxL := 7) (ret := none) (by decide) rfl ?_
  intro p e s m args below meth c s₁ B hml hv
  obtain ⟨rfl, hsz, hZ, hP, hK, hD0⟩ := hv
  have hx := B.exec
  have hb := B.bytes
  have hr := B.returns
  have hts := atoms_spec (ws := wzX7_change) B.pre
  have hown : s.vm.findClass RX7 = some m.cls := findClass_of_methodNamed B.named
  have hlocks := B.notSynchronized
  have hD := hD0.self (sz := CS.hs σ)
  generalize hAe : va_A (cW Q σ) (CS.hs σ) = A at hD ⊢
  have hA : ∀ q : Nat, s.heap.size ≤ q → A q := fun q h => by rw [← hAe]; exact Or.inr (hsz ▸ h)
  have hC : CP dC dI Q A s.heap σ s.heap [] := ⟨hP, hD, va_S.rf, hsz⟩
  have h0 : CS.hs σ ≤ CS.hs σ := Nat.le_refl _
  have hl := lv_entry ([.ref (Q.o 3), .long x1, .int x3, .int x4]) (n := 7) (Nat.le_of_ble_eq_true rfl)
  rw [lg_entry_eq]
  generalize (lg_sl ([.ref (Q.o 3), .long x1, .int x3, .int x4]) ++ List.replicate (7 - (lg_sl ([.ref (Q.o 3), .long x1, .int x3, .int x4])).length) Slot.unset).toArray = ls at hl ⊢
  have hl : lv_has ls 7 [(0, .ref (Q.o 3)), (1, .long x1), (3, .int x3), (4, .int x4)] := hl
  unfold f_X7_change at hf
  refine W.widen (k := CS.hs σ - CS.hs σ) (n := 17 * (CS.hs σ - CS.hs σ)) (Nat.zero_le _) (Nat.zero_le _) ?_
  refine lv_aload_n hx hb dX7_change_0 rfl (lv_at hl 0 rfl) ?_
  refine cG_31 hx hb hts i_X7_change_X7 hown hK hC (hts (.fieldLink RX7 29 "StatementRules2$Statements" "names" "LStatementRules2$Names;") k_X7_change_fieldLink_RX7_29_SR_Statements_names_LSR_Names) (fun x9 q9 => u_same (hts (.sameField "StatementRules2$Statements" "StatementRules2$Formulas" "names" "LStatementRules2$Names;") k_X7_change_sameField_SR_Statements_SR_Formulas_names_LSR_Names) x9 q9) dX7_change_1 ?_
  refine lv_lload_n hx hb dX7_change_4 rfl (lv_at hl 1 rfl) ?_
  obtain ⟨p1, hcp1, hf⟩ := hf_bind hf
  have mo2 : CS.hs σ ≤ CS.hs p1.2 := Mono.go hcp1 (m_X4_find N σ x1)
  have hr9 : CS.hs p1.2 ≤ CS.hs R.2 := Mono.go hf (mono_bind (m_X1_found N p1.2 61) (fun p5 => (mono_ite (mono_ite (m_X7_change_38 N E1 E2 hm1 hm2 p5.2 x3 p1.1) (mono_bind (m_X1_found N p5.2 135) (fun p56 => (mono_ite (m_X7_change_38 N E1 E2 hm1 hm2 p56.2 x3 p1.1) (m_X7_change_34 N E1 E2 hm1 hm2 p56.2 x3 p1.1))))) (m_X7_change_34 N E1 E2 hm1 hm2 p5.2 x3 p1.1))))
  have hFc := cFree hC hA
  refine va_calli (va_runV (As := [.long x1]) (rest := []) ⟨hx, hb, hml, hown, hts⟩ (c_X4_find l dC dI Q N σ x1 p1 hcp1) (cwV 1 hts hX7_change_X4_find_v199 rfl rfl rfl (by decide +kernel) ⟨(show 1 + 1 ≤ (13 + 40 * d) by omega), (show 8 + (4 + 11) + 60 * 1 ≤ 60 * (13 + 40 * d) by omega)⟩) ⟨zPre.blind, va_recv hK hC.1 (ci := 3) (q0 := 5) rfl rfl, cPre_go hZ hK hC⟩ rfl rfl hl.1 rfl (lv_room (Nat.le_of_ble_eq_true rfl)) dX7_change_5 (cAcc h0 mo2 hr9)) hC.2.2.1 (fun q _ h => hFc q h) hFc (fun r3 u9 t9 H1 locs ht hvm hw hB hz1 hk1 hS => ?_)
  obtain ⟨⟨hP, hK1, hD1⟩, hsz1⟩ := hB
  rw [ht] at hP hsz1
  have hC : CP dC dI Q A s.heap p1.2 H1 locs := ⟨hP, hD1.weaken (fun _ _ _ h => hFc _ h), hS, hsz1⟩
  generalize H1 = H at hC ⊢
  have h4 : (CS.hs σ) ≤ CS.hs p1.2 := Nat.le_trans h0 mo2
  refine W.widen (k := CS.hs p1.2 - (CS.hs σ)) (n := 17 * (CS.hs p1.2 - (CS.hs σ))) (cAcc2 h0 mo2) (cAcc3 h0 mo2) ?_
  obtain rfl : r3 = p1.1 := hw
  refine lv_istore (lv' := [(5, .int p1.1), (0, .ref (Q.o 3)), (1, .long x1), (3, .int x3), (4, .int x4)]) hx hb dX7_change_8 hl (by decide) rfl (fun ls hl => ?_)
  refine lv_aload_n hx hb dX7_change_10 rfl (lv_at hl 1 rfl) ?_
  refine lv_bipush (v := 61) hx hb dX7_change_11 (by decide) ?_
  obtain ⟨p5, hcp5, hf⟩ := hf_bind hf
  have mo6 : CS.hs p1.2 ≤ CS.hs p5.2 := Mono.go hcp5 (m_X1_found N p1.2 61)
  have hr9 : CS.hs p5.2 ≤ CS.hs R.2 := Mono.go hf (mono_ite (mono_ite (m_X7_change_38 N E1 E2 hm1 hm2 p5.2 x3 p1.1) (mono_bind (m_X1_found N p5.2 135) (fun p56 => (mono_ite (m_X7_change_38 N E1 E2 hm1 hm2 p56.2 x3 p1.1) (m_X7_change_34 N E1 E2 hm1 hm2 p56.2 x3 p1.1))))) (m_X7_change_34 N E1 E2 hm1 hm2 p5.2 x3 p1.1))
  have hFc := cFree hC hA
  refine va_calli (va_runU (As := [.int 61]) (rest := []) ⟨hx, hb, hml, hown, hts⟩ (c_X1_found l dC dI Q N p1.2 61 p5 hcp5) (va_cwU 1 hts hX7_change_X1_found_u110 rfl rfl rfl rfl (by decide +kernel) ⟨(show 1 + 1 ≤ (13 + 40 * d) by omega), (show 8 + (2 + 11) + 60 * 1 ≤ 60 * (13 + 40 * d) by omega)⟩) ⟨zPre.blind, va_recv hK hC.1 (ci := 6) (q0 := 3) rfl rfl, cPre_go hZ hK hC⟩ rfl rfl hl.1 rfl (lv_room (Nat.le_of_ble_eq_true rfl)) dX7_change_13 (cAcc h4 mo6 hr9)) hC.2.2.1 (fun q _ h => hFc q h) hFc (fun r7 u9 t9 H1 locs ht hvm hw hB hz1 hk1 hS => ?_)
  obtain ⟨⟨hP, hK1, hD1⟩, hsz1⟩ := hB
  rw [ht] at hP hsz1
  have hC : CP dC dI Q A s.heap p5.2 H1 locs := ⟨hP, hD1.weaken (fun _ _ _ h => hFc _ h), hS, hsz1⟩
  generalize H1 = H at hC ⊢
  have h8 : (CS.hs σ) ≤ CS.hs p5.2 := Nat.le_trans h4 mo6
  refine W.widen (k := CS.hs p5.2 - (CS.hs σ)) (n := 17 * (CS.hs p5.2 - (CS.hs σ))) (cAcc2 h4 mo6) (cAcc3 h4 mo6) ?_
  obtain rfl : r7 = p5.1 := hw
  refine lv_if_ne (tgt := 34) hx hb dX7_change_16 (by decide) (fun c9 => ?_) (fun c9 => ?_)
  ·
    replace hf := (if_neg c9).symm.trans hf
    exact j_X7_change_34 l dC dI Q N d E1 E2 hE1 hE2 hm1 hm2 (CS.hs σ) R hx hb hr hml hown hts hlocks hZ hA hK p5.2 x3 p1.1 _ _ _ hf h8 hC (lv_sub hl [1, 3, 0] rfl)
  ·
    replace hf := (if_pos c9).symm.trans hf
    refine lv_iload hx hb dX7_change_19 (lv_at hl 4 rfl) ?_
    refine lv_if_eq (tgt := 38) hx hb dX7_change_21 (by decide) (fun c55 => ?_) (fun c55 => ?_)
    ·
      replace hf := (if_pos c55).symm.trans hf
      exact j_X7_change_38 l dC dI Q N d E1 E2 hE1 hE2 hm1 hm2 (CS.hs σ) R hx hb hr hml hown hts hlocks hZ hA hK p5.2 x3 p1.1 _ _ _ hf h8 hC (lv_sub hl [1, 3, 0] rfl)
    ·
      replace hf := (if_neg c55).symm.trans hf
      refine lv_aload_n hx hb dX7_change_24 rfl (lv_at hl 1 rfl) ?_
      refine lv_sipush (v := 135) hx hb dX7_change_25 (by decide) ?_
      obtain ⟨p56, hcp56, hf⟩ := hf_bind hf
      have mo57 : CS.hs p5.2 ≤ CS.hs p56.2 := Mono.go hcp56 (m_X1_found N p5.2 135)
      have hr9 : CS.hs p56.2 ≤ CS.hs R.2 := Mono.go hf (mono_ite (m_X7_change_38 N E1 E2 hm1 hm2 p56.2 x3 p1.1) (m_X7_change_34 N E1 E2 hm1 hm2 p56.2 x3 p1.1))
      have hFc := cFree hC hA
      refine va_calli (va_runU (As := [.int 135]) (rest := []) ⟨hx, hb, hml, hown, hts⟩ (c_X1_found l dC dI Q N p5.2 135 p56 hcp56) (va_cwU 1 hts hX7_change_X1_found_u110 rfl rfl rfl rfl (by decide +kernel) ⟨(show 1 + 1 ≤ (13 + 40 * d) by omega), (show 8 + (2 + 11) + 60 * 1 ≤ 60 * (13 + 40 * d) by omega)⟩) ⟨zPre.blind, va_recv hK hC.1 (ci := 6) (q0 := 3) rfl rfl, cPre_go hZ hK hC⟩ rfl rfl hl.1 rfl (lv_room (Nat.le_of_ble_eq_true rfl)) dX7_change_28 (cAcc h8 mo57 hr9)) hC.2.2.1 (fun q _ h => hFc q h) hFc (fun r58 u9 t9 H1 locs ht hvm hw hB hz1 hk1 hS => ?_)
      obtain ⟨⟨hP, hK1, hD1⟩, hsz1⟩ := hB
      rw [ht] at hP hsz1
      have hC : CP dC dI Q A s.heap p56.2 H1 locs := ⟨hP, hD1.weaken (fun _ _ _ h => hFc _ h), hS, hsz1⟩
      generalize H1 = H at hC ⊢
      have h59 : (CS.hs σ) ≤ CS.hs p56.2 := Nat.le_trans h8 mo57
      refine W.widen (k := CS.hs p56.2 - (CS.hs σ)) (n := 17 * (CS.hs p56.2 - (CS.hs σ))) (cAcc2 h8 mo57) (cAcc3 h8 mo57) ?_
      obtain rfl : r58 = p56.1 := hw
      refine lv_if_eq (tgt := 38) hx hb dX7_change_31 (by decide) (fun c60 => ?_) (fun c60 => ?_)
      ·
        replace hf := (if_pos c60).symm.trans hf
        exact j_X7_change_38 l dC dI Q N d E1 E2 hE1 hE2 hm1 hm2 (CS.hs σ) R hx hb hr hml hown hts hlocks hZ hA hK p56.2 x3 p1.1 _ _ _ hf h59 hC (lv_sub hl [1, 3, 0] rfl)
      ·
        replace hf := (if_neg c60).symm.trans hf
        exact j_X7_change_34 l dC dI Q N d E1 E2 hE1 hE2 hm1 hm2 (CS.hs σ) R hx hb hr hml hown hts hlocks hZ hA hK p56.2 x3 p1.1 _ _ _ hf h59 hC (lv_sub hl [1, 3, 0] rfl)
theorem k_X6_labelled_fieldLink_RX6_21_SR_Opens_count_I : Cond.fieldLink RX6 21 "StatementRules2$Opens" "count" "I" ∈ wzX6_labelled := List.mem_cons_of_mem _ (List.mem_append_left _ (List.mem_of_getElem? (i := 0) rfl))
theorem i_X6_labelled_X6 : ∀ w ∈ wsX60, w ∈ wzX6_labelled := fun _ h => List.mem_cons_of_mem _ (List.mem_append_right _ (List.mem_append_left _ (h)))
theorem k_X6_labelled_fieldLink_RX6_31_SR_Opens_arm_I : Cond.fieldLink RX6 31 "StatementRules2$Opens" "arm" "I" ∈ wzX6_labelled := List.mem_cons_of_mem _ (List.mem_append_left _ (List.mem_of_getElem? (i := 1) rfl))
theorem i_X6_labelled_X5 : ∀ w ∈ wsX50, w ∈ wzX6_labelled := fun _ h => List.mem_cons_of_mem _ (List.mem_append_right _ (List.mem_append_right _ (List.mem_append_left _ (h))))
set_option maxHeartbeats 4000000 in
set_option maxRecDepth 100000 in
theorem j_X6_labelled_7 {p : Program} {e : Env} {s : State} {m : MethodId} {args : Array Value} {below : List Frame} {meth : Method} {c : Code} {A : Nat → Prop} (l : Launch) (dC : Nat → ClassId) (dI : Nat → Nat → Nat) (Q : CQ) (N : Nat) (z9h : Nat) (R : Int32 × CS) (hx : p.tables.exec = Jvm.exec) (hb : c.code = cX6_labelled) (hr : meth.sig.returnType = (some .int)) (hml : c.maxLocals = 5) (hown : s.vm.findClass RX6 = some m.cls) (hts : ∀ w ∈ wzX6_labelled, w.before args s = true) (hlocks : meth.locks = false) (hZ : zAMB s) (hA : ∀ q : Nat, s.heap.size ≤ q → A q) (hK : va_K (dC, dI) vwCl (cT Q) s) : ∀ (n9 : Nat), ∀ (σ : CS) (x1 : Int64) (x3 : Int32) (H : Heap) (locs : List Loc) (ls : Array Slot), f_X6_labelled_7 N n9 σ x1 x3 = some R → z9h ≤ CS.hs σ → CP dC dI Q A s.heap σ H locs → lv_has ls 5 [(0, .ref (Q.o 6)), (1, .long x1), (3, .int x3)] → W p l e ({ frames := 2, cells := CS.hs R.2 - z9h, slots := 17 * (CS.hs R.2 - z9h), locals := 60 * 2 }) s m args below meth c H locs (CS.hs σ - z9h) (17 * (CS.hs σ - z9h)) (MQ below (va_Qi (fun (r : Int32) (_ : Unit) => r = R.1) (fun (_ : Unit) (t : State) => zPost dC dI A (cW Q R.2) (cT Q) t ∧ t.heap.size = CS.hs R.2) A) args s (CS.hs R.2 - z9h) (17 * (CS.hs R.2 - z9h)) A) (F0 m 7 ls []) := by
  intro n9
  induction n9 with
  | zero => intro σ x1 x3 H locs ls hf; exact absurd hf (by intro q9; cases q9)
  | succ n9 ih =>
    intro σ x1 x3 H locs ls hf h0 hC hl
    replace hf : b_X6_labelled_7 N (f_X6_labelled_7 N n9) σ x1 x3 = some R := hf
    unfold b_X6_labelled_7 at hf
    have hMK := fun (σ : CS) (x1 : Int64) (x3 : Int32) => m_X6_labelled_7 N n9 σ x1 x3
    refine lv_iload_n hx hb dX6_labelled_7 rfl (lv_at hl 2 rfl) ?_
    refine lv_aload_n hx hb dX6_labelled_8 rfl (lv_at hl 0 rfl) ?_
    refine cG_56 (v := (σ.i 56)) hx hb hts i_X6_labelled_X6 hown hK hC (hts (.fieldLink RX6 31 "StatementRules2$Opens" "arm" "I") k_X6_labelled_fieldLink_RX6_31_SR_Opens_arm_I) (fun _ q9 => q9) dX6_labelled_9 rfl ?_
    refine lv_icmp_le (tgt := 56) hx hb dX6_labelled_12 (by decide) (fun c1 => ?_) (fun c1 => ?_)
    ·
      replace hf := (if_pos c1).symm.trans hf
      refine lv_iconst (v := (-1)) hx hb dX6_labelled_56 (by decide) ?_
      obtain rfl := Option.some.inj hf
      exact W.iret (v := (-1)) hx hb hr (fun t ht hW => ⟨⟨(-1), (), rfl, rfl, ⟨by rw [ht]; exact hC.1, va_K.moved hW.alike hK, hC.2.1⟩, by rw [ht]; exact hC.2.2.2⟩, hC.2.2.1.F ht⟩) hC.2.2.1.2.2 dX6_labelled_57
    ·
      replace hf := (if_neg c1).symm.trans hf
      refine lv_aload_n hx hb dX6_labelled_15 rfl (lv_at hl 0 rfl) ?_
      refine lv_iload_n hx hb dX6_labelled_16 rfl (lv_at hl 2 rfl) ?_
      obtain ⟨p2, hcp2, hf⟩ := hf_bind hf
      have mo3 : CS.hs σ ≤ CS.hs p2.2 := Mono.go hcp2 (m_X6_row N σ x3)
      have hr9 : CS.hs p2.2 ≤ CS.hs R.2 := Mono.go hf (mono_oc (hMK p2.2 x1 (x3 + (-1))) (fun a7 => (mono_ite (mono_ite (mono_ite (mono_some (Nat.le_refl _)) (hMK p2.2 x1 (x3 + (-1)))) (hMK p2.2 x1 (x3 + (-1)))) mono_none)))
      have hFc := cFree hC hA
      refine va_callq (va_runV (As := [.int x3]) (rest := []) ⟨hx, hb, hml, hown, hts⟩ (c_X6_row l dC dI Q N σ x3 p2 hcp2) (cwV 1 hts hX6_labelled_X6_row_v88 rfl rfl rfl (by decide +kernel) ⟨(show 1 + 1 ≤ 2 by omega), (show 8 + (2 + 11) + 60 * 1 ≤ 60 * 2 by omega)⟩) ⟨zPre.blind, va_recv hK hC.1 (ci := 5) (q0 := 6) rfl rfl, cPre_go hZ hK hC⟩ rfl rfl hl.1 rfl (lv_room (Nat.le_of_ble_eq_true rfl)) dX6_labelled_17 (cAcc h0 mo3 hr9)) hC.2.2.1 (fun q _ h => hFc q h) hFc (fun r4 u9 t9 H1 locs ht hvm hw hB hz1 hk1 hS => ?_)
      obtain ⟨⟨hP, hK1, hD1⟩, hsz1⟩ := hB
      rw [ht] at hP hsz1
      have hC : CP dC dI Q A s.heap p2.2 H1 locs := ⟨hP, hD1.weaken (fun _ _ _ h => hFc _ h), hS, hsz1⟩
      generalize H1 = H at hC ⊢
      have h5 : z9h ≤ CS.hs p2.2 := Nat.le_trans h0 mo3
      refine W.widen (k := CS.hs p2.2 - z9h) (n := 17 * (CS.hs p2.2 - z9h)) (cAcc2 h0 mo3) (cAcc3 h0 mo3) ?_
      obtain rfl : r4 = p2.1 := hw
      rcases hf_oc hf with ⟨q6, hf⟩ | ⟨a7, q6, hf⟩
      ·
        refine W.eq (congrArg (fun v9 => F0 m 20 ls (va_rf v9 :: [])) q6) ?_
        refine W.eq (g2 := F0 m 20 ls (.null :: [])) rfl ?_
        refine lv_astoreN (lv' := [(4, .null), (0, .ref (Q.o 6)), (1, .long x1), (3, .int x3)]) hx hb dX6_labelled_20 hl (by decide) rfl (fun ls hl => ?_)
        refine lv_aloadN hx hb dX6_labelled_22 (lv_at hl 0 rfl) ?_
        refine lv_ifnullN (tgt := 50) hx hb dX6_labelled_24 (by decide) ?_
        refine lv_iinc (v := (x3 + (-1))) (lv' := [(3, .int (x3 + (-1))), (4, .null), (0, .ref (Q.o 6)), (1, .long x1)]) hx hb dX6_labelled_50 hl (k := 3) rfl rfl (by decide) rfl (fun ls hl => ?_)
        refine lv_goto (tgt := 7) hx hb dX6_labelled_53 (by decide) ?_
        exact ih p2.2 x1 (x3 + (-1)) _ _ _ hf h5 hC (lv_sub hl [2, 3, 0] rfl)
      ·
        refine W.eq (congrArg (fun v9 => F0 m 20 ls (va_rf v9 :: [])) q6) ?_
        refine W.eq (g2 := F0 m 20 ls (.ref a7 :: [])) rfl ?_
        refine lv_astore (lv' := [(4, .ref a7), (0, .ref (Q.o 6)), (1, .long x1), (3, .int x3)]) hx hb dX6_labelled_20 hl (by decide) rfl (fun ls hl => ?_)
        refine lv_aload hx hb dX6_labelled_22 (lv_at hl 0 rfl) ?_
        refine lv_ifnull hx hb dX6_labelled_24 ?_
        refine lv_aload hx hb dX6_labelled_27 (lv_at hl 0 rfl) ?_
        obtain ⟨b8, hf⟩ := hf_ite hf
        refine pGN_X5_0 (v := (CS.o p2.2 a7 0)) hx hb hts i_X6_labelled_X5 hown hK hC (va_Nw.use rfl (hZ.1 (.fieldLinkNest RX6 41 "StatementRules2$Open" "sort" "I" "StatementRules2") (by decide +kernel))) (fun _ q9 => q9) dX6_labelled_29 b8 rfl ?_
        refine lv_sipush (v := 303) hx hb dX6_labelled_32 (by decide) ?_
        refine lv_icmp_ne (tgt := 50) hx hb dX6_labelled_35 (by decide) (fun c9 => ?_) (fun c9 => ?_)
        ·
          replace hf := (if_neg c9).symm.trans hf
          refine lv_iinc (v := (x3 + (-1))) (lv' := [(3, .int (x3 + (-1))), (4, .ref a7), (0, .ref (Q.o 6)), (1, .long x1)]) hx hb dX6_labelled_50 hl (k := 3) rfl rfl (by decide) rfl (fun ls hl => ?_)
          refine lv_goto (tgt := 7) hx hb dX6_labelled_53 (by decide) ?_
          exact ih p2.2 x1 (x3 + (-1)) _ _ _ hf h5 hC (lv_sub hl [2, 3, 0] rfl)
        ·
          replace hf := (if_pos c9).symm.trans hf
          refine lv_aload hx hb dX6_labelled_38 (lv_at hl 0 rfl) ?_
          refine pGN_X5_4 (v := (CS.ol p2.2 a7)) hx hb hts i_X6_labelled_X5 hown hK hC (va_Nw.use rfl (hZ.1 (.fieldLinkNest RX6 53 "StatementRules2$Open" "label" "J" "StatementRules2") (by decide +kernel))) (fun _ q9 => q9) dX6_labelled_40 b8 rfl ?_
          refine lv_lload_n hx hb dX6_labelled_43 rfl (lv_at hl 2 rfl) ?_
          refine W.lcmp hx hb dX6_labelled_44 ?_
          refine lv_if_ne (tgt := 50) hx hb dX6_labelled_45 (by decide) (fun c10 => ?_) (fun c10 => ?_)
          ·
            replace hf := (if_neg c10).symm.trans hf
            refine lv_iinc (v := (x3 + (-1))) (lv' := [(3, .int (x3 + (-1))), (4, .ref a7), (0, .ref (Q.o 6)), (1, .long x1)]) hx hb dX6_labelled_50 hl (k := 3) rfl rfl (by decide) rfl (fun ls hl => ?_)
            refine lv_goto (tgt := 7) hx hb dX6_labelled_53 (by decide) ?_
            exact ih p2.2 x1 (x3 + (-1)) _ _ _ hf h5 hC (lv_sub hl [2, 3, 0] rfl)
          ·
            replace hf := (if_pos c10).symm.trans hf
            refine lv_iload_n hx hb dX6_labelled_48 rfl (lv_at hl 3 rfl) ?_
            obtain rfl := Option.some.inj hf
            exact W.iret (v := x3) hx hb hr (fun t ht hW => ⟨⟨x3, (), rfl, rfl, ⟨by rw [ht]; exact hC.1, va_K.moved hW.alike hK, hC.2.1⟩, by rw [ht]; exact hC.2.2.2⟩, hC.2.2.1.F ht⟩) hC.2.2.1.2.2 dX6_labelled_49
set_option maxHeartbeats 4000000 in
set_option maxRecDepth 100000 in
theorem c_X6_labelled (l : Launch) (dC : Nat → ClassId) (dI : Nat → Nat → Nat) (Q : CQ) (N : Nat) (σ : CS) (x1 : Int64) (R : Int32 × CS) (hf : f_X6_labelled N σ x1 = some R) : Met l yX6_labelled wzX6_labelled ({ frames := 2, cells := CS.hs R.2 - CS.hs σ, slots := 17 * (CS.hs R.2 - CS.hs σ), locals := 60 * 2 }) (va_Pc [.ref (Q.o 6), .long x1] (zPre dC dI (CS.hs σ) (cW Q σ) (cT Q))) (va_Qi (fun (r : Int32) (_ : Unit) => r = R.1) (fun (_ : Unit) (t : State) => zPost dC dI (va_A (cW Q σ) (CS.hs σ)) (cW Q R.2) (cT Q) t ∧ t.heap.size = CS.hs R.2) (va_A (cW Q σ) (CS.hs σ))) (CS.hs R.2 - CS.hs σ) (17 * (CS.hs R.2 - CS.hs σ)) (va_A (cW Q σ) (CS.hs σ)) := by
  refine Met.ofW (cc := cX6_labelled) (maxL := 5) (ret := (some .int)) (by decide) rfl ?_
  intro p e s m args below meth c s₁ B hml hv
  obtain ⟨rfl, hsz, hZ, hP, hK, hD0⟩ := hv
  have hx := B.exec
  have hb := B.bytes
  have hr := B.returns
  have hts := atoms_spec (ws := wzX6_labelled) B.pre
  have hown : s.vm.findClass RX6 = some m.cls := findClass_of_methodNamed B.named
  have hlocks := B.notSynchronized
  have hD := hD0.self (sz := CS.hs σ)
  generalize hAe : va_A (cW Q σ) (CS.hs σ) = A at hD ⊢
  have hA : ∀ q : Nat, s.heap.size ≤ q → A q := fun q h => by rw [← hAe]; exact Or.inr (hsz ▸ h)
  have hC : CP dC dI Q A s.heap σ s.heap [] := ⟨hP, hD, va_S.rf, hsz⟩
  have h0 : CS.hs σ ≤ CS.hs σ := Nat.le_refl _
  have hl := lv_entry ([.ref (Q.o 6), .long x1]) (n := 5) (Nat.le_of_ble_eq_true rfl)
  rw [lg_entry_eq]
  generalize (lg_sl ([.ref (Q.o 6), .long x1]) ++ List.replicate (5 - (lg_sl ([.ref (Q.o 6), .long x1])).length) Slot.unset).toArray = ls at hl ⊢
  have hl : lv_has ls 5 [(0, .ref (Q.o 6)), (1, .long x1)] := hl
  unfold f_X6_labelled at hf
  refine W.widen (k := CS.hs σ - CS.hs σ) (n := 17 * (CS.hs σ - CS.hs σ)) (Nat.zero_le _) (Nat.zero_le _) ?_
  refine lv_aload_n hx hb dX6_labelled_0 rfl (lv_at hl 0 rfl) ?_
  refine cG_53 (v := (σ.i 53)) hx hb hts i_X6_labelled_X6 hown hK hC (hts (.fieldLink RX6 21 "StatementRules2$Opens" "count" "I") k_X6_labelled_fieldLink_RX6_21_SR_Opens_count_I) (fun _ q9 => q9) dX6_labelled_1 rfl ?_
  refine lv_iconst (v := 1) hx hb dX6_labelled_4 (by decide) ?_
  refine lv_isub hx hb dX6_labelled_5 ?_
  refine lv_istore_n (lv' := [(3, .int ((σ.i 53) - 1)), (0, .ref (Q.o 6)), (1, .long x1)]) hx hb dX6_labelled_6 rfl hl (by decide) rfl (fun ls hl => ?_)
  exact j_X6_labelled_7 l dC dI Q N (CS.hs σ) R hx hb hr hml hown hts hlocks hZ hA hK N σ x1 ((σ.i 53) - 1) _ _ _ hf h0 hC (lv_sub hl [1, 2, 0] rfl)
theorem k_X7_named_fieldLink_RX7_71_SR_Statements_tokens_LSR_Tokens : Cond.fieldLink RX7 71 "StatementRules2$Statements" "tokens" "LStatementRules2$Tokens;" ∈ wzX7_named := List.mem_cons_of_mem _ (List.mem_append_right _ (List.mem_append_right _ (List.mem_append_right _ (List.mem_append_right _ (List.mem_append_right _ (List.mem_append_right _ (List.mem_append_right _ (List.mem_append_right _ (List.mem_append_right _ (List.mem_append_right _ (List.mem_append_right _ (List.mem_append_right _ (List.mem_append_right _ (List.mem_append_right _ (List.mem_append_right _ (List.mem_append_right _ (List.mem_append_right _ (List.mem_append_right _ (List.mem_append_right _ (List.mem_append_right _ (List.mem_append_right _ (List.mem_append_right _ (List.mem_append_right _ (List.mem_append_right _ (List.mem_append_right _ (List.mem_append_right _ (List.mem_append_right _ (List.mem_append_right _ (List.mem_append_left _ (List.mem_of_getElem? (i := 0) rfl))))))))))))))))))))))))))))))
theorem k_X7_named_sameField_SR_Statements_SR_Formulas_tokens_LSR_Tokens : Cond.sameField "StatementRules2$Statements" "StatementRules2$Formulas" "tokens" "LStatementRules2$Tokens;" ∈ wzX7_named := List.mem_cons_of_mem _ (List.mem_append_right _ (List.mem_append_right _ (List.mem_append_right _ (List.mem_append_right _ (List.mem_append_right _ (List.mem_append_right _ (List.mem_append_right _ (List.mem_append_right _ (List.mem_append_right _ (List.mem_append_right _ (List.mem_append_right _ (List.mem_append_right _ (List.mem_append_right _ (List.mem_append_right _ (List.mem_append_right _ (List.mem_append_right _ (List.mem_append_right _ (List.mem_append_right _ (List.mem_append_right _ (List.mem_append_right _ (List.mem_append_right _ (List.mem_append_right _ (List.mem_append_right _ (List.mem_append_right _ (List.mem_append_right _ (List.mem_append_right _ (List.mem_append_right _ (List.mem_append_right _ (List.mem_append_left _ (List.mem_of_getElem? (i := 1) rfl))))))))))))))))))))))))))))))
theorem i_X7_named_X7 : ∀ w ∈ wsX70, w ∈ wzX7_named := fun _ h => List.mem_cons_of_mem _ (List.mem_append_right _ (List.mem_append_right _ (List.mem_append_right _ (List.mem_append_right _ (List.mem_append_right _ (List.mem_append_right _ (List.mem_append_right _ (List.mem_append_right _ (List.mem_append_right _ (List.mem_append_right _ (List.mem_append_right _ (List.mem_append_right _ (List.mem_append_right _ (List.mem_append_right _ (List.mem_append_right _ (List.mem_append_right _ (List.mem_append_right _ (List.mem_append_right _ (List.mem_append_right _ (List.mem_append_right _ (List.mem_append_right _ (List.mem_append_right _ (List.mem_append_right _ (List.mem_append_right _ (List.mem_append_right _ (List.mem_append_right _ (List.mem_append_right _ (List.mem_append_right _ (List.mem_append_right _ (List.mem_append_right _ (List.mem_append_right _ (List.mem_append_right _ (List.mem_append_right _ (List.mem_append_right _ (List.mem_append_right _ (List.mem_append_right _ (List.mem_append_left _ (h))))))))))))))))))))))))))))))))))))))
theorem i_X7_named_X9 : ∀ w ∈ wsX90, w ∈ wzX7_named := fun _ h => List.mem_cons_of_mem _ (List.mem_append_right _ (List.mem_append_right _ (List.mem_append_right _ (List.mem_append_right _ (List.mem_append_right _ (List.mem_append_right _ (List.mem_append_right _ (List.mem_append_right _ (List.mem_append_right _ (List.mem_append_right _ (List.mem_append_right _ (List.mem_append_right _ (List.mem_append_right _ (List.mem_append_right _ (List.mem_append_right _ (List.mem_append_right _ (List.mem_append_right _ (List.mem_append_right _ (List.mem_append_right _ (List.mem_append_right _ (List.mem_append_right _ (List.mem_append_right _ (List.mem_append_right _ (List.mem_append_right _ (List.mem_append_right _ (List.mem_append_right _ (List.mem_append_right _ (List.mem_append_right _ (List.mem_append_right _ (List.mem_append_right _ (List.mem_append_right _ (List.mem_append_right _ (List.mem_append_right _ (List.mem_append_right _ (List.mem_append_right _ (List.mem_append_right _ (List.mem_append_right _ (List.mem_append_left _ (h)))))))))))))))))))))))))))))))))))))))
theorem k_X7_named_fieldLink_RX7_14_SR_Statements_opens_LSR_Opens : Cond.fieldLink RX7 14 "StatementRules2$Statements" "opens" "LStatementRules2$Opens;" ∈ wzX7_named := List.mem_cons_of_mem _ (List.mem_append_right _ (List.mem_append_right _ (List.mem_append_right _ (List.mem_append_right _ (List.mem_append_right _ (List.mem_append_right _ (List.mem_append_right _ (List.mem_append_right _ (List.mem_append_right _ (List.mem_append_right _ (List.mem_append_right _ (List.mem_append_right _ (List.mem_append_right _ (List.mem_append_right _ (List.mem_append_right _ (List.mem_append_right _ (List.mem_append_right _ (List.mem_append_right _ (List.mem_append_right _ (List.mem_append_right _ (List.mem_append_right _ (List.mem_append_right _ (List.mem_append_right _ (List.mem_append_right _ (List.mem_append_right _ (List.mem_append_right _ (List.mem_append_right _ (List.mem_append_right _ (List.mem_append_left _ (List.mem_of_getElem? (i := 2) rfl))))))))))))))))))))))))))))))
theorem k_X7_named_fieldLink_RX7_68_SR_Statements_depth_I : Cond.fieldLink RX7 68 "StatementRules2$Statements" "depth" "I" ∈ wzX7_named := List.mem_cons_of_mem _ (List.mem_append_right _ (List.mem_append_right _ (List.mem_append_right _ (List.mem_append_right _ (List.mem_append_right _ (List.mem_append_right _ (List.mem_append_right _ (List.mem_append_right _ (List.mem_append_right _ (List.mem_append_right _ (List.mem_append_right _ (List.mem_append_right _ (List.mem_append_right _ (List.mem_append_right _ (List.mem_append_right _ (List.mem_append_right _ (List.mem_append_right _ (List.mem_append_right _ (List.mem_append_right _ (List.mem_append_right _ (List.mem_append_right _ (List.mem_append_right _ (List.mem_append_right _ (List.mem_append_right _ (List.mem_append_right _ (List.mem_append_right _ (List.mem_append_right _ (List.mem_append_right _ (List.mem_append_left _ (List.mem_of_getElem? (i := 3) rfl))))))))))))))))))))))))))))))
theorem k_X7_named_fieldLink_RX7_29_SR_Statements_names_LSR_Names : Cond.fieldLink RX7 29 "StatementRules2$Statements" "names" "LStatementRules2$Names;" ∈ wzX7_named := List.mem_cons_of_mem _ (List.mem_append_right _ (List.mem_append_right _ (List.mem_append_right _ (List.mem_append_right _ (List.mem_append_right _ (List.mem_append_right _ (List.mem_append_right _ (List.mem_append_right _ (List.mem_append_right _ (List.mem_append_right _ (List.mem_append_right _ (List.mem_append_right _ (List.mem_append_right _ (List.mem_append_right _ (List.mem_append_right _ (List.mem_append_right _ (List.mem_append_right _ (List.mem_append_right _ (List.mem_append_right _ (List.mem_append_right _ (List.mem_append_right _ (List.mem_append_right _ (List.mem_append_right _ (List.mem_append_right _ (List.mem_append_right _ (List.mem_append_right _ (List.mem_append_right _ (List.mem_append_right _ (List.mem_append_left _ (List.mem_of_getElem? (i := 4) rfl))))))))))))))))))))))))))))))
theorem k_X7_named_sameField_SR_Statements_SR_Formulas_names_LSR_Names : Cond.sameField "StatementRules2$Statements" "StatementRules2$Formulas" "names" "LStatementRules2$Names;" ∈ wzX7_named := List.mem_cons_of_mem _ (List.mem_append_right _ (List.mem_append_right _ (List.mem_append_right _ (List.mem_append_right _ (List.mem_append_right _ (List.mem_append_right _ (List.mem_append_right _ (List.mem_append_right _ (List.mem_append_right _ (List.mem_append_right _ (List.mem_append_right _ (List.mem_append_right _ (List.mem_append_right _ (List.mem_append_right _ (List.mem_append_right _ (List.mem_append_right _ (List.mem_append_right _ (List.mem_append_right _ (List.mem_append_right _ (List.mem_append_right _ (List.mem_append_right _ (List.mem_append_right _ (List.mem_append_right _ (List.mem_append_right _ (List.mem_append_right _ (List.mem_append_right _ (List.mem_append_right _ (List.mem_append_right _ (List.mem_append_left _ (List.mem_of_getElem? (i := 5) rfl))))))))))))))))))))))))))))))
theorem i_X7_named_X4 : ∀ w ∈ wsX40, w ∈ wzX7_named := fun _ h => List.mem_cons_of_mem _ (List.mem_append_right _ (List.mem_append_right _ (List.mem_append_right _ (List.mem_append_right _ (List.mem_append_right _ (List.mem_append_right _ (List.mem_append_right _ (List.mem_append_right _ (List.mem_append_right _ (List.mem_append_right _ (List.mem_append_right _ (List.mem_append_right _ (List.mem_append_right _ (List.mem_append_right _ (List.mem_append_right _ (List.mem_append_right _ (List.mem_append_right _ (List.mem_append_right _ (List.mem_append_right _ (List.mem_append_right _ (List.mem_append_right _ (List.mem_append_right _ (List.mem_append_right _ (List.mem_append_right _ (List.mem_append_right _ (List.mem_append_right _ (List.mem_append_right _ (List.mem_append_right _ (List.mem_append_right _ (List.mem_append_right _ (List.mem_append_right _ (List.mem_append_right _ (List.mem_append_right _ (List.mem_append_right _ (List.mem_append_right _ (List.mem_append_right _ (List.mem_append_right _ (List.mem_append_right _ (List.mem_append_right _ (List.mem_append_right _ (List.mem_append_left _ (h))))))))))))))))))))))))))))))))))))))))))
theorem i_X7_named_X5 : ∀ w ∈ wsX50, w ∈ wzX7_named := fun _ h => List.mem_cons_of_mem _ (List.mem_append_right _ (List.mem_append_right _ (List.mem_append_right _ (List.mem_append_right _ (List.mem_append_right _ (List.mem_append_right _ (List.mem_append_right _ (List.mem_append_right _ (List.mem_append_right _ (List.mem_append_right _ (List.mem_append_right _ (List.mem_append_right _ (List.mem_append_right _ (List.mem_append_right _ (List.mem_append_right _ (List.mem_append_right _ (List.mem_append_right _ (List.mem_append_right _ (List.mem_append_right _ (List.mem_append_right _ (List.mem_append_right _ (List.mem_append_right _ (List.mem_append_right _ (List.mem_append_right _ (List.mem_append_right _ (List.mem_append_right _ (List.mem_append_right _ (List.mem_append_right _ (List.mem_append_right _ (List.mem_append_right _ (List.mem_append_right _ (List.mem_append_right _ (List.mem_append_right _ (List.mem_append_right _ (List.mem_append_right _ (List.mem_append_right _ (List.mem_append_right _ (List.mem_append_right _ (List.mem_append_right _ (List.mem_append_right _ (List.mem_append_right _ (List.mem_append_left _ (h)))))))))))))))))))))))))))))))))))))))))))
theorem k_X7_named_fieldLink_RX7_20_SR_Statements_code_LSR_Code : Cond.fieldLink RX7 20 "StatementRules2$Statements" "code" "LStatementRules2$Code;" ∈ wzX7_named := List.mem_cons_of_mem _ (List.mem_append_right _ (List.mem_append_right _ (List.mem_append_right _ (List.mem_append_right _ (List.mem_append_right _ (List.mem_append_right _ (List.mem_append_right _ (List.mem_append_right _ (List.mem_append_right _ (List.mem_append_right _ (List.mem_append_right _ (List.mem_append_right _ (List.mem_append_right _ (List.mem_append_right _ (List.mem_append_right _ (List.mem_append_right _ (List.mem_append_right _ (List.mem_append_right _ (List.mem_append_right _ (List.mem_append_right _ (List.mem_append_right _ (List.mem_append_right _ (List.mem_append_right _ (List.mem_append_right _ (List.mem_append_right _ (List.mem_append_right _ (List.mem_append_right _ (List.mem_append_right _ (List.mem_append_left _ (List.mem_of_getElem? (i := 6) rfl))))))))))))))))))))))))))))))
theorem k_X7_named_sameField_SR_Statements_SR_Formulas_code_LSR_Code : Cond.sameField "StatementRules2$Statements" "StatementRules2$Formulas" "code" "LStatementRules2$Code;" ∈ wzX7_named := List.mem_cons_of_mem _ (List.mem_append_right _ (List.mem_append_right _ (List.mem_append_right _ (List.mem_append_right _ (List.mem_append_right _ (List.mem_append_right _ (List.mem_append_right _ (List.mem_append_right _ (List.mem_append_right _ (List.mem_append_right _ (List.mem_append_right _ (List.mem_append_right _ (List.mem_append_right _ (List.mem_append_right _ (List.mem_append_right _ (List.mem_append_right _ (List.mem_append_right _ (List.mem_append_right _ (List.mem_append_right _ (List.mem_append_right _ (List.mem_append_right _ (List.mem_append_right _ (List.mem_append_right _ (List.mem_append_right _ (List.mem_append_right _ (List.mem_append_right _ (List.mem_append_right _ (List.mem_append_right _ (List.mem_append_left _ (List.mem_of_getElem? (i := 7) rfl))))))))))))))))))))))))))))))
set_option maxHeartbeats 4000000 in
set_option maxRecDepth 100000 in
theorem j_X7_named_73 {p : Program} {e : Env} {s : State} {m : MethodId} {args : Array Value} {below : List Frame} {meth : Method} {c : Code} {A : Nat → Prop} (l : Launch) (dC : Nat → ClassId) (dI : Nat → Nat → Nat) (Q : CQ) (N : Nat) (d : Nat) (E1 : CS → Option (Unit × CS)) (E2 : CS → Option (Int32 × CS)) (hE1 : cMF l dC dI Q d E1) (hE2 : cMO l dC dI Q d E2) (hm1 : ∀ σ, Mono (CS.hs σ) (E1 σ)) (hm2 : ∀ σ, Mono (CS.hs σ) (E2 σ)) (z9h : Nat) (R : Unit × CS) (hx : p.tables.exec = Jvm.exec) (hb : c.code = cX7_named) (hr : meth.sig.returnType = none) (hml : c.maxLocals = 5) (hown : s.vm.findClass RX7 = some m.cls) (hts : ∀ w ∈ wzX7_named, w.before args s = true) (hlocks : meth.locks = false) (hZ : zAMB s) (hA : ∀ q : Nat, s.heap.size ≤ q → A q) (hK : va_K (dC, dI) vwCl (cT Q) s) : ∀ (σ : CS) (x1 : Int64) (H : Heap) (locs : List Loc) (ls : Array Slot), f_X7_named_73 N E1 E2 σ x1 = some R → z9h ≤ CS.hs σ → CP dC dI Q A s.heap σ H locs → lv_has ls 5 [(0, .ref (Q.o 3)), (1, .long x1)] → W p l e ({ frames := (14 + 40 * d), cells := CS.hs R.2 - z9h, slots := 17 * (CS.hs R.2 - z9h), locals := 60 * (14 + 40 * d) }) s m args below meth c H locs (CS.hs σ - z9h) (17 * (CS.hs σ - z9h)) (MQ below (va_Qv (fun (_ : Unit) => True) (fun (_ : Unit) (t : State) => zPost dC dI A (cW Q R.2) (cT Q) t ∧ t.heap.size = CS.hs R.2) A) args s (CS.hs R.2 - z9h) (17 * (CS.hs R.2 - z9h)) A) (F0 m 73 ls []) := by
  intro σ x1 H locs ls hf h0 hC hl
  unfold f_X7_named_73 at hf
  refine lv_aload_n hx hb dX7_named_73 rfl (lv_at hl 0 rfl) ?_
  refine cG_28 hx hb hts i_X7_named_X7 hown hK hC (hts (.fieldLink RX7 71 "StatementRules2$Statements" "tokens" "LStatementRules2$Tokens;") k_X7_named_fieldLink_RX7_71_SR_Statements_tokens_LSR_Tokens) (fun x9 q9 => u_same (hts (.sameField "StatementRules2$Statements" "StatementRules2$Formulas" "tokens" "LStatementRules2$Tokens;") k_X7_named_sameField_SR_Statements_SR_Formulas_tokens_LSR_Tokens) x9 q9) dX7_named_74 ?_
  obtain ⟨p15, hcp15, hf⟩ := hf_bind hf
  have mo16 : CS.hs σ ≤ CS.hs p15.2 := Mono.go hcp15 (m_X9_advance N σ)
  have hr9 : CS.hs p15.2 ≤ CS.hs R.2 := Mono.go hf (mono_bind (m_X6_push N p15.2 303 (p15.2.i 38) (p15.2.i 50)) (fun p19 => (mono_oc mono_none (fun a24 => (mono_ite (mono_bind (m_X0_newTarget N (CS.setOl p19.2 a24 x1)) (fun p26 => (mono_ite (mono_some (Nat.le_refl _)) mono_none))) mono_none)))))
  have hFc := cFree hC hA
  refine va_callv (va_runV (As := []) (rest := []) ⟨hx, hb, hml, hown, hts⟩ (c_X9_advance l dC dI Q N σ p15 hcp15) (cwV 0 hts hX7_named_X9_advance_v146 rfl rfl rfl (by decide +kernel) ⟨(show 3 + 1 ≤ (14 + 40 * d) by omega), (show 8 + (2 + 11) + 60 * 3 ≤ 60 * (14 + 40 * d) by omega)⟩) ⟨zPre.blind, va_recv hK hC.1 (ci := 8) (q0 := 4) rfl rfl, cPre_go hZ hK hC⟩ rfl rfl hl.1 rfl (lv_room (Nat.le_of_ble_eq_true rfl)) dX7_named_77 (cAcc h0 mo16 hr9)) hC.2.2.1 (fun q _ h => hFc q h) hFc (fun u9 t9 H1 locs ht hvm hw hB hz1 hk1 hS => ?_)
  obtain ⟨⟨hP, hK1, hD1⟩, hsz1⟩ := hB
  rw [ht] at hP hsz1
  have hC : CP dC dI Q A s.heap p15.2 H1 locs := ⟨hP, hD1.weaken (fun _ _ _ h => hFc _ h), hS, hsz1⟩
  generalize H1 = H at hC ⊢
  have h18 : z9h ≤ CS.hs p15.2 := Nat.le_trans h0 mo16
  refine W.widen (k := CS.hs p15.2 - z9h) (n := 17 * (CS.hs p15.2 - z9h)) (cAcc2 h0 mo16) (cAcc3 h0 mo16) ?_
  refine lv_aload_n hx hb dX7_named_80 rfl (lv_at hl 0 rfl) ?_
  refine cG_35 hx hb hts i_X7_named_X7 hown hK hC (hts (.fieldLink RX7 14 "StatementRules2$Statements" "opens" "LStatementRules2$Opens;") k_X7_named_fieldLink_RX7_14_SR_Statements_opens_LSR_Opens) (fun _ q9 => q9) dX7_named_81 ?_
  refine lv_sipush (v := 303) hx hb dX7_named_84 (by decide) ?_
  refine lv_aload_n hx hb dX7_named_87 rfl (lv_at hl 0 rfl) ?_
  refine cG_38 (v := (p15.2.i 38)) hx hb hts i_X7_named_X7 hown hK hC (hts (.fieldLink RX7 68 "StatementRules2$Statements" "depth" "I") k_X7_named_fieldLink_RX7_68_SR_Statements_depth_I) (fun _ q9 => q9) dX7_named_88 rfl ?_
  refine lv_aload_n hx hb dX7_named_91 rfl (lv_at hl 0 rfl) ?_
  refine cG_31 hx hb hts i_X7_named_X7 hown hK hC (hts (.fieldLink RX7 29 "StatementRules2$Statements" "names" "LStatementRules2$Names;") k_X7_named_fieldLink_RX7_29_SR_Statements_names_LSR_Names) (fun x9 q9 => u_same (hts (.sameField "StatementRules2$Statements" "StatementRules2$Formulas" "names" "LStatementRules2$Names;") k_X7_named_sameField_SR_Statements_SR_Formulas_names_LSR_Names) x9 q9) dX7_named_92 ?_
  refine cGN_50 (v := (p15.2.i 50)) hx hb hts i_X7_named_X4 hown hK hC (va_Nw.use rfl (hZ.1 (.fieldLinkNest RX7 33 "StatementRules2$Names" "count" "I" "StatementRules2") (by decide +kernel))) (fun _ q9 => q9) dX7_named_95 rfl ?_
  obtain ⟨p19, hcp19, hf⟩ := hf_bind hf
  have mo20 : CS.hs p15.2 ≤ CS.hs p19.2 := Mono.go hcp19 (m_X6_push N p15.2 303 (p15.2.i 38) (p15.2.i 50))
  have hr9 : CS.hs p19.2 ≤ CS.hs R.2 := Mono.go hf (mono_oc mono_none (fun a24 => (mono_ite (mono_bind (m_X0_newTarget N (CS.setOl p19.2 a24 x1)) (fun p26 => (mono_ite (mono_some (Nat.le_refl _)) mono_none))) mono_none)))
  have hFc := cFree hC hA
  refine va_callq (va_runV (As := [.int 303, .int (p15.2.i 38), .int (p15.2.i 50)]) (rest := []) ⟨hx, hb, hml, hown, hts⟩ (c_X6_push l dC dI Q N p15.2 303 (p15.2.i 38) (p15.2.i 50) p19 hcp19) (cwV 3 hts hX7_named_X6_push_v81 rfl rfl rfl (by decide +kernel) ⟨(show 2 + 1 ≤ (14 + 40 * d) by omega), (show 8 + (6 + 11) + 60 * 2 ≤ 60 * (14 + 40 * d) by omega)⟩) ⟨zPre.blind, va_recv hK hC.1 (ci := 5) (q0 := 6) rfl rfl, cPre_go hZ hK hC⟩ rfl rfl hl.1 rfl (lv_room (Nat.le_of_ble_eq_true rfl)) dX7_named_98 (cAcc h18 mo20 hr9)) hC.2.2.1 (fun q _ h => hFc q h) hFc (fun r21 u9 t9 H1 locs ht hvm hw hB hz1 hk1 hS => ?_)
  obtain ⟨⟨hP, hK1, hD1⟩, hsz1⟩ := hB
  rw [ht] at hP hsz1
  have hC : CP dC dI Q A s.heap p19.2 H1 locs := ⟨hP, hD1.weaken (fun _ _ _ h => hFc _ h), hS, hsz1⟩
  generalize H1 = H at hC ⊢
  have h22 : z9h ≤ CS.hs p19.2 := Nat.le_trans h18 mo20
  refine W.widen (k := CS.hs p19.2 - z9h) (n := 17 * (CS.hs p19.2 - z9h)) (cAcc2 h18 mo20) (cAcc3 h18 mo20) ?_
  obtain rfl : r21 = p19.1 := hw
  rcases hf_oc hf with ⟨q23, hf⟩ | ⟨a24, q23, hf⟩
  ·
    refine W.eq (congrArg (fun v9 => F0 m 101 ls (va_rf v9 :: [])) q23) ?_
    refine W.eq (g2 := F0 m 101 ls (.null :: [])) rfl ?_
    refine lv_astoreN (lv' := [(4, .null), (0, .ref (Q.o 3)), (1, .long x1)]) hx hb dX7_named_101 hl (by decide) rfl (fun ls hl => ?_)
    refine lv_aloadN hx hb dX7_named_103 (lv_at hl 0 rfl) ?_
    refine lv_lload_n hx hb dX7_named_105 rfl (lv_at hl 2 rfl) ?_
    cases hf
  ·
    refine W.eq (congrArg (fun v9 => F0 m 101 ls (va_rf v9 :: [])) q23) ?_
    refine W.eq (g2 := F0 m 101 ls (.ref a24 :: [])) rfl ?_
    refine lv_astore (lv' := [(4, .ref a24), (0, .ref (Q.o 3)), (1, .long x1)]) hx hb dX7_named_101 hl (by decide) rfl (fun ls hl => ?_)
    refine lv_aload hx hb dX7_named_103 (lv_at hl 0 rfl) ?_
    refine lv_lload_n hx hb dX7_named_105 rfl (lv_at hl 2 rfl) ?_
    obtain ⟨b25, hf⟩ := hf_ite hf
    refine pPN_X5_4 (v := x1) hx hb hts i_X7_named_X5 hown hK hC (va_Nw.use rfl (hZ.1 (.fieldLinkNest RX7 193 "StatementRules2$Open" "label" "J" "StatementRules2") (by decide +kernel))) (fun _ q9 => q9) dX7_named_106 b25 (fun H locs hC => ?_)
    refine lv_aload hx hb dX7_named_109 (lv_at hl 0 rfl) ?_
    refine lv_aload_n hx hb dX7_named_111 rfl (lv_at hl 1 rfl) ?_
    refine cG_29 hx hb hts i_X7_named_X7 hown hK hC (hts (.fieldLink RX7 20 "StatementRules2$Statements" "code" "LStatementRules2$Code;") k_X7_named_fieldLink_RX7_20_SR_Statements_code_LSR_Code) (fun x9 q9 => u_same (hts (.sameField "StatementRules2$Statements" "StatementRules2$Formulas" "code" "LStatementRules2$Code;") k_X7_named_sameField_SR_Statements_SR_Formulas_code_LSR_Code) x9 q9) dX7_named_112 ?_
    obtain ⟨p26, hcp26, hf⟩ := hf_bind hf
    have mo27 : CS.hs p19.2 ≤ CS.hs p26.2 := Mono.go hcp26 (m_X0_newTarget N (CS.setOl p19.2 a24 x1))
    have hr9 : CS.hs p26.2 ≤ CS.hs R.2 := Mono.go hf (mono_ite (mono_some (Nat.le_refl _)) mono_none)
    have hFc := cFree hC hA
    refine va_calli (va_runV (As := []) (rest := [.ref a24]) ⟨hx, hb, hml, hown, hts⟩ (c_X0_newTarget l dC dI Q N (CS.setOl p19.2 a24 x1) p26 hcp26) (cwV 0 hts hX7_named_X0_newTarget_v136 rfl rfl rfl (by decide +kernel) ⟨(show 2 + 1 ≤ (14 + 40 * d) by omega), (show 8 + (1 + 11) + 60 * 2 ≤ 60 * (14 + 40 * d) by omega)⟩) ⟨zPre.blind, va_recv hK hC.1 (ci := 0) (q0 := 2) rfl rfl, cPre_go hZ hK hC⟩ rfl rfl hl.1 rfl (lv_room (Nat.le_of_ble_eq_true rfl)) dX7_named_115 (cAcc h22 mo27 hr9)) hC.2.2.1 (fun q _ h => hFc q h) hFc (fun r28 u9 t9 H1 locs ht hvm hw hB hz1 hk1 hS => ?_)
    obtain ⟨⟨hP, hK1, hD1⟩, hsz1⟩ := hB
    rw [ht] at hP hsz1
    have hC : CP dC dI Q A s.heap p26.2 H1 locs := ⟨hP, hD1.weaken (fun _ _ _ h => hFc _ h), hS, hsz1⟩
    generalize H1 = H at hC ⊢
    have h29 : z9h ≤ CS.hs p26.2 := Nat.le_trans h22 mo27
    refine W.widen (k := CS.hs p26.2 - z9h) (n := 17 * (CS.hs p26.2 - z9h)) (cAcc2 h22 mo27) (cAcc3 h22 mo27) ?_
    obtain rfl : r28 = p26.1 := hw
    obtain ⟨b30, hf⟩ := hf_ite hf
    refine pPN_X5_9 (v := p26.1) hx hb hts i_X7_named_X5 hown hK hC (va_Nw.use rfl (hZ.1 (.fieldLinkNest RX7 196 "StatementRules2$Open" "exit" "I" "StatementRules2") (by decide +kernel))) (fun _ q9 => q9) dX7_named_118 b30 (fun H locs hC => ?_)
    obtain rfl := Option.some.inj hf
    exact W.vret hx hb hr (fun t ht hW => ⟨⟨(), rfl, trivial, ⟨by rw [ht]; exact hC.1, va_K.moved hW.alike hK, hC.2.1⟩, by rw [ht]; exact hC.2.2.2⟩, hC.2.2.1.F ht⟩) hC.2.2.1.2.2 dX7_named_121
set_option maxHeartbeats 4000000 in
set_option maxRecDepth 100000 in
theorem c_X7_named (l : Launch) (dC : Nat → ClassId) (dI : Nat → Nat → Nat) (Q : CQ) (N : Nat) (d : Nat) (E1 : CS → Option (Unit × CS)) (E2 : CS → Option (Int32 × CS)) (hE1 : cMF l dC dI Q d E1) (hE2 : cMO l dC dI Q d E2) (hm1 : ∀ σ, Mono (CS.hs σ) (E1 σ)) (hm2 : ∀ σ, Mono (CS.hs σ) (E2 σ)) (σ : CS) (R : Unit × CS) (hf : f_X7_named N E1 E2 σ = some R) : Met l yX7_named wzX7_named ({ frames := (14 + 40 * d), cells := CS.hs R.2 - CS.hs σ, slots := 17 * (CS.hs R.2 - CS.hs σ), locals := 60 * (14 + 40 * d) }) (va_Pc [.ref (Q.o 3)] (zPre dC dI (CS.hs σ) (cW Q σ) (cT Q))) (va_Qv (fun (_ : Unit) => True) (fun (_ : Unit) (t : State) => zPost dC dI (va_A (cW Q σ) (CS.hs σ)) (cW Q R.2) (cT Q) t ∧ t.heap.size = CS.hs R.2) (va_A (cW Q σ) (CS.hs σ))) (CS.hs R.2 - CS.hs σ) (17 * (CS.hs R.2 - CS.hs σ)) (va_A (cW Q σ) (CS.hs σ)) := by
  refine Met.ofW (cc := cX7_named) (maxL := 5) (ret := none) (by decide) rfl ?_
  intro p e s m args below meth c s₁ B hml hv
  obtain ⟨rfl, hsz, hZ, hP, hK, hD0⟩ := hv
  have hx := B.exec
  have hb := B.bytes
  have hr := B.returns
  have hts := atoms_spec (ws := wzX7_named) B.pre
  have hown : s.vm.findClass RX7 = some m.cls := findClass_of_methodNamed B.named
  have hlocks := B.notSynchronized
  have hD := hD0.self (sz := CS.hs σ)
  generalize hAe : va_A (cW Q σ) (CS.hs σ) = A at hD ⊢
  have hA : ∀ q : Nat, s.heap.size ≤ q → A q := fun q h => by rw [← hAe]; exact Or.inr (hsz ▸ h)
  have hC : CP dC dI Q A s.heap σ s.heap [] := ⟨hP, hD, va_S.rf, hsz⟩
  have h0 : CS.hs σ ≤ CS.hs σ := Nat.le_refl _
  have hl := lv_entry ([.ref (Q.o 3)]) (n := 5) (Nat.le_of_ble_eq_true rfl)
  rw [lg_entry_eq]
  generalize (lg_sl ([.ref (Q.o 3)]) ++ List.replicate (5 - (lg_sl ([.ref (Q.o 3)])).length) Slot.unset).toArray = ls at hl ⊢
  have hl : lv_has ls 5 [(0, .ref (Q.o 3))] := hl
  unfold f_X7_named at hf
  refine W.widen (k := CS.hs σ - CS.hs σ) (n := 17 * (CS.hs σ - CS.hs σ)) (Nat.zero_le _) (Nat.zero_le _) ?_
  refine lv_aload_n hx hb dX7_named_0 rfl (lv_at hl 0 rfl) ?_
  refine cG_28 hx hb hts i_X7_named_X7 hown hK hC (hts (.fieldLink RX7 71 "StatementRules2$Statements" "tokens" "LStatementRules2$Tokens;") k_X7_named_fieldLink_RX7_71_SR_Statements_tokens_LSR_Tokens) (fun x9 q9 => u_same (hts (.sameField "StatementRules2$Statements" "StatementRules2$Formulas" "tokens" "LStatementRules2$Tokens;") k_X7_named_sameField_SR_Statements_SR_Formulas_tokens_LSR_Tokens) x9 q9) dX7_named_1 ?_
  refine cGN_46 (v := σ.l) hx hb hts i_X7_named_X9 hown hK hC (va_Nw.use rfl (hZ.1 (.fieldLinkNest RX7 181 "StatementRules2$Tokens" "name" "J" "StatementRules2") (by decide +kernel))) (fun _ q9 => q9) dX7_named_4 rfl ?_
  refine lv_lstore_n (lv' := [(1, .long σ.l), (0, .ref (Q.o 3))]) hx hb dX7_named_7 rfl hl (by decide) rfl (fun ls hl => ?_)
  refine lv_aload_n hx hb dX7_named_8 rfl (lv_at hl 1 rfl) ?_
  refine cG_28 hx hb hts i_X7_named_X7 hown hK hC (hts (.fieldLink RX7 71 "StatementRules2$Statements" "tokens" "LStatementRules2$Tokens;") k_X7_named_fieldLink_RX7_71_SR_Statements_tokens_LSR_Tokens) (fun x9 q9 => u_same (hts (.sameField "StatementRules2$Statements" "StatementRules2$Formulas" "tokens" "LStatementRules2$Tokens;") k_X7_named_sameField_SR_Statements_SR_Formulas_tokens_LSR_Tokens) x9 q9) dX7_named_9 ?_
  refine cGN_44 (v := (σ.i 44)) hx hb hts i_X7_named_X9 hown hK hC (va_Nw.use rfl (hZ.1 (.fieldLinkNest RX7 143 "StatementRules2$Tokens" "place" "I" "StatementRules2") (by decide +kernel))) (fun _ q9 => q9) dX7_named_12 rfl ?_
  refine lv_istore_n (lv' := [(3, .int (σ.i 44)), (1, .long σ.l), (0, .ref (Q.o 3))]) hx hb dX7_named_15 rfl hl (by decide) rfl (fun ls hl => ?_)
  refine lv_aload_n hx hb dX7_named_16 rfl (lv_at hl 2 rfl) ?_
  refine cG_28 hx hb hts i_X7_named_X7 hown hK hC (hts (.fieldLink RX7 71 "StatementRules2$Statements" "tokens" "LStatementRules2$Tokens;") k_X7_named_fieldLink_RX7_71_SR_Statements_tokens_LSR_Tokens) (fun x9 q9 => u_same (hts (.sameField "StatementRules2$Statements" "StatementRules2$Formulas" "tokens" "LStatementRules2$Tokens;") k_X7_named_sameField_SR_Statements_SR_Formulas_tokens_LSR_Tokens) x9 q9) dX7_named_17 ?_
  obtain ⟨p1, hcp1, hf⟩ := hf_bind hf
  have mo2 : CS.hs σ ≤ CS.hs p1.2 := Mono.go hcp1 (m_X9_advance N σ)
  have hr9 : CS.hs p1.2 ≤ CS.hs R.2 := Mono.go hf (mono_bind (m_X1_found N p1.2 58) (fun p5 => (mono_ite (mono_bind (m_X0_add N p5.2 51 0) (fun p35 => (mono_bind (m_X7_change N E1 E2 hm1 hm2 p35.2 σ.l (σ.i 44) 1) (fun p39 => (mono_bind (m_X1_expect N p39.2 59) (fun p43 => (mono_some (Nat.le_refl _)))))))) (mono_bind (m_X6_labelled N p5.2 σ.l) (fun p10 => (mono_ite (m_X7_named_73 N E1 E2 hm1 hm2 p10.2 σ.l) (mono_bind (m_X1_fail N p10.2 4 (σ.i 44)) (fun p31 => (m_X7_named_73 N E1 E2 hm1 hm2 p31.2 σ.l)))))))))
  have hFc := cFree hC hA
  refine va_callv (va_runV (As := []) (rest := []) ⟨hx, hb, hml, hown, hts⟩ (c_X9_advance l dC dI Q N σ p1 hcp1) (cwV 0 hts hX7_named_X9_advance_v146 rfl rfl rfl (by decide +kernel) ⟨(show 3 + 1 ≤ (14 + 40 * d) by omega), (show 8 + (2 + 11) + 60 * 3 ≤ 60 * (14 + 40 * d) by omega)⟩) ⟨zPre.blind, va_recv hK hC.1 (ci := 8) (q0 := 4) rfl rfl, cPre_go hZ hK hC⟩ rfl rfl hl.1 rfl (lv_room (Nat.le_of_ble_eq_true rfl)) dX7_named_20 (cAcc h0 mo2 hr9)) hC.2.2.1 (fun q _ h => hFc q h) hFc (fun u9 t9 H1 locs ht hvm hw hB hz1 hk1 hS => ?_)
  obtain ⟨⟨hP, hK1, hD1⟩, hsz1⟩ := hB
  rw [ht] at hP hsz1
  have hC : CP dC dI Q A s.heap p1.2 H1 locs := ⟨hP, hD1.weaken (fun _ _ _ h => hFc _ h), hS, hsz1⟩
  generalize H1 = H at hC ⊢
  have h4 : (CS.hs σ) ≤ CS.hs p1.2 := Nat.le_trans h0 mo2
  refine W.widen (k := CS.hs p1.2 - (CS.hs σ)) (n := 17 * (CS.hs p1.2 - (CS.hs σ))) (cAcc2 h0 mo2) (cAcc3 h0 mo2) ?_
  refine lv_aload_n hx hb dX7_named_23 rfl (lv_at hl 2 rfl) ?_
  refine lv_bipush (v := 58) hx hb dX7_named_24 (by decide) ?_
  obtain ⟨p5, hcp5, hf⟩ := hf_bind hf
  have mo6 : CS.hs p1.2 ≤ CS.hs p5.2 := Mono.go hcp5 (m_X1_found N p1.2 58)
  have hr9 : CS.hs p5.2 ≤ CS.hs R.2 := Mono.go hf (mono_ite (mono_bind (m_X0_add N p5.2 51 0) (fun p35 => (mono_bind (m_X7_change N E1 E2 hm1 hm2 p35.2 σ.l (σ.i 44) 1) (fun p39 => (mono_bind (m_X1_expect N p39.2 59) (fun p43 => (mono_some (Nat.le_refl _)))))))) (mono_bind (m_X6_labelled N p5.2 σ.l) (fun p10 => (mono_ite (m_X7_named_73 N E1 E2 hm1 hm2 p10.2 σ.l) (mono_bind (m_X1_fail N p10.2 4 (σ.i 44)) (fun p31 => (m_X7_named_73 N E1 E2 hm1 hm2 p31.2 σ.l)))))))
  have hFc := cFree hC hA
  refine va_calli (va_runU (As := [.int 58]) (rest := []) ⟨hx, hb, hml, hown, hts⟩ (c_X1_found l dC dI Q N p1.2 58 p5 hcp5) (va_cwU 1 hts hX7_named_X1_found_u110 rfl rfl rfl rfl (by decide +kernel) ⟨(show 1 + 1 ≤ (14 + 40 * d) by omega), (show 8 + (2 + 11) + 60 * 1 ≤ 60 * (14 + 40 * d) by omega)⟩) ⟨zPre.blind, va_recv hK hC.1 (ci := 6) (q0 := 3) rfl rfl, cPre_go hZ hK hC⟩ rfl rfl hl.1 rfl (lv_room (Nat.le_of_ble_eq_true rfl)) dX7_named_26 (cAcc h4 mo6 hr9)) hC.2.2.1 (fun q _ h => hFc q h) hFc (fun r7 u9 t9 H1 locs ht hvm hw hB hz1 hk1 hS => ?_)
  obtain ⟨⟨hP, hK1, hD1⟩, hsz1⟩ := hB
  rw [ht] at hP hsz1
  have hC : CP dC dI Q A s.heap p5.2 H1 locs := ⟨hP, hD1.weaken (fun _ _ _ h => hFc _ h), hS, hsz1⟩
  generalize H1 = H at hC ⊢
  have h8 : (CS.hs σ) ≤ CS.hs p5.2 := Nat.le_trans h4 mo6
  refine W.widen (k := CS.hs p5.2 - (CS.hs σ)) (n := 17 * (CS.hs p5.2 - (CS.hs σ))) (cAcc2 h4 mo6) (cAcc3 h4 mo6) ?_
  obtain rfl : r7 = p5.1 := hw
  refine lv_if_ne (tgt := 56) hx hb dX7_named_29 (by decide) (fun c9 => ?_) (fun c9 => ?_)
  ·
    replace hf := (if_neg c9).symm.trans hf
    refine lv_aload_n hx hb dX7_named_56 rfl (lv_at hl 2 rfl) ?_
    refine cG_35 hx hb hts i_X7_named_X7 hown hK hC (hts (.fieldLink RX7 14 "StatementRules2$Statements" "opens" "LStatementRules2$Opens;") k_X7_named_fieldLink_RX7_14_SR_Statements_opens_LSR_Opens) (fun _ q9 => q9) dX7_named_57 ?_
    refine lv_lload_n hx hb dX7_named_60 rfl (lv_at hl 1 rfl) ?_
    obtain ⟨p10, hcp10, hf⟩ := hf_bind hf
    have mo11 : CS.hs p5.2 ≤ CS.hs p10.2 := Mono.go hcp10 (m_X6_labelled N p5.2 σ.l)
    have hr9 : CS.hs p10.2 ≤ CS.hs R.2 := Mono.go hf (mono_ite (m_X7_named_73 N E1 E2 hm1 hm2 p10.2 σ.l) (mono_bind (m_X1_fail N p10.2 4 (σ.i 44)) (fun p31 => (m_X7_named_73 N E1 E2 hm1 hm2 p31.2 σ.l))))
    have hFc := cFree hC hA
    refine va_calli (va_runV (As := [.long σ.l]) (rest := []) ⟨hx, hb, hml, hown, hts⟩ (c_X6_labelled l dC dI Q N p5.2 σ.l p10 hcp10) (cwV 1 hts hX7_named_X6_labelled_v189 rfl rfl rfl (by decide +kernel) ⟨(show 2 + 1 ≤ (14 + 40 * d) by omega), (show 8 + (5 + 11) + 60 * 2 ≤ 60 * (14 + 40 * d) by omega)⟩) ⟨zPre.blind, va_recv hK hC.1 (ci := 5) (q0 := 6) rfl rfl, cPre_go hZ hK hC⟩ rfl rfl hl.1 rfl (lv_room (Nat.le_of_ble_eq_true rfl)) dX7_named_61 (cAcc h8 mo11 hr9)) hC.2.2.1 (fun q _ h => hFc q h) hFc (fun r12 u9 t9 H1 locs ht hvm hw hB hz1 hk1 hS => ?_)
    obtain ⟨⟨hP, hK1, hD1⟩, hsz1⟩ := hB
    rw [ht] at hP hsz1
    have hC : CP dC dI Q A s.heap p10.2 H1 locs := ⟨hP, hD1.weaken (fun _ _ _ h => hFc _ h), hS, hsz1⟩
    generalize H1 = H at hC ⊢
    have h13 : (CS.hs σ) ≤ CS.hs p10.2 := Nat.le_trans h8 mo11
    refine W.widen (k := CS.hs p10.2 - (CS.hs σ)) (n := 17 * (CS.hs p10.2 - (CS.hs σ))) (cAcc2 h8 mo11) (cAcc3 h8 mo11) ?_
    obtain rfl : r12 = p10.1 := hw
    refine lv_if_lt (tgt := 73) hx hb dX7_named_64 (by decide) (fun c14 => ?_) (fun c14 => ?_)
    ·
      replace hf := (if_pos c14).symm.trans hf
      exact j_X7_named_73 l dC dI Q N d E1 E2 hE1 hE2 hm1 hm2 (CS.hs σ) R hx hb hr hml hown hts hlocks hZ hA hK p10.2 σ.l _ _ _ hf h13 hC (lv_sub hl [2, 1] rfl)
    ·
      replace hf := (if_neg c14).symm.trans hf
      refine lv_aload_n hx hb dX7_named_67 rfl (lv_at hl 2 rfl) ?_
      refine lv_iconst (v := 4) hx hb dX7_named_68 (by decide) ?_
      refine lv_iload_n hx hb dX7_named_69 rfl (lv_at hl 0 rfl) ?_
      obtain ⟨p31, hcp31, hf⟩ := hf_bind hf
      have mo32 : CS.hs p10.2 ≤ CS.hs p31.2 := Mono.go hcp31 (m_X1_fail N p10.2 4 (σ.i 44))
      have hr9 : CS.hs p31.2 ≤ CS.hs R.2 := Mono.go hf (m_X7_named_73 N E1 E2 hm1 hm2 p31.2 σ.l)
      have hFc := cFree hC hA
      refine va_callv (va_runU (As := [.int 4, .int (σ.i 44)]) (rest := []) ⟨hx, hb, hml, hown, hts⟩ (c_X1_fail l dC dI Q N p10.2 4 (σ.i 44) p31 hcp31) (va_cwU 2 hts hX7_named_X1_fail_u88 rfl rfl rfl rfl (by decide +kernel) ⟨(show 2 + 1 ≤ (14 + 40 * d) by omega), (show 8 + (3 + 11) + 60 * 2 ≤ 60 * (14 + 40 * d) by omega)⟩) ⟨zPre.blind, va_recv hK hC.1 (ci := 6) (q0 := 3) rfl rfl, cPre_go hZ hK hC⟩ rfl rfl hl.1 rfl (lv_room (Nat.le_of_ble_eq_true rfl)) dX7_named_70 (cAcc h13 mo32 hr9)) hC.2.2.1 (fun q _ h => hFc q h) hFc (fun u9 t9 H1 locs ht hvm hw hB hz1 hk1 hS => ?_)
      obtain ⟨⟨hP, hK1, hD1⟩, hsz1⟩ := hB
      rw [ht] at hP hsz1
      have hC : CP dC dI Q A s.heap p31.2 H1 locs := ⟨hP, hD1.weaken (fun _ _ _ h => hFc _ h), hS, hsz1⟩
      generalize H1 = H at hC ⊢
      have h34 : (CS.hs σ) ≤ CS.hs p31.2 := Nat.le_trans h13 mo32
      refine W.widen (k := CS.hs p31.2 - (CS.hs σ)) (n := 17 * (CS.hs p31.2 - (CS.hs σ))) (cAcc2 h13 mo32) (cAcc3 h13 mo32) ?_
      exact j_X7_named_73 l dC dI Q N d E1 E2 hE1 hE2 hm1 hm2 (CS.hs σ) R hx hb hr hml hown hts hlocks hZ hA hK p31.2 σ.l _ _ _ hf h34 hC (lv_sub hl [2, 1] rfl)
  ·
    replace hf := (if_pos c9).symm.trans hf
    refine lv_aload_n hx hb dX7_named_32 rfl (lv_at hl 2 rfl) ?_
    refine cG_29 hx hb hts i_X7_named_X7 hown hK hC (hts (.fieldLink RX7 20 "StatementRules2$Statements" "code" "LStatementRules2$Code;") k_X7_named_fieldLink_RX7_20_SR_Statements_code_LSR_Code) (fun x9 q9 => u_same (hts (.sameField "StatementRules2$Statements" "StatementRules2$Formulas" "code" "LStatementRules2$Code;") k_X7_named_sameField_SR_Statements_SR_Formulas_code_LSR_Code) x9 q9) dX7_named_33 ?_
    refine lv_bipush (v := 51) hx hb dX7_named_36 (by decide) ?_
    refine lv_iconst (v := 0) hx hb dX7_named_38 (by decide) ?_
    obtain ⟨p35, hcp35, hf⟩ := hf_bind hf
    have mo36 : CS.hs p5.2 ≤ CS.hs p35.2 := Mono.go hcp35 (m_X0_add N p5.2 51 0)
    have hr9 : CS.hs p35.2 ≤ CS.hs R.2 := Mono.go hf (mono_bind (m_X7_change N E1 E2 hm1 hm2 p35.2 σ.l (σ.i 44) 1) (fun p39 => (mono_bind (m_X1_expect N p39.2 59) (fun p43 => (mono_some (Nat.le_refl _))))))
    have hFc := cFree hC hA
    refine va_callv (va_runV (As := [.int 51, .int 0]) (rest := []) ⟨hx, hb, hml, hown, hts⟩ (c_X0_add l dC dI Q N p5.2 51 0 p35 hcp35) (cwV 2 hts hX7_named_X0_add_v176 rfl rfl rfl (by decide +kernel) ⟨(show 2 + 1 ≤ (14 + 40 * d) by omega), (show 8 + (3 + 11) + 60 * 2 ≤ 60 * (14 + 40 * d) by omega)⟩) ⟨zPre.blind, va_recv hK hC.1 (ci := 0) (q0 := 2) rfl rfl, cPre_go hZ hK hC⟩ rfl rfl hl.1 rfl (lv_room (Nat.le_of_ble_eq_true rfl)) dX7_named_39 (cAcc h8 mo36 hr9)) hC.2.2.1 (fun q _ h => hFc q h) hFc (fun u9 t9 H1 locs ht hvm hw hB hz1 hk1 hS => ?_)
    obtain ⟨⟨hP, hK1, hD1⟩, hsz1⟩ := hB
    rw [ht] at hP hsz1
    have hC : CP dC dI Q A s.heap p35.2 H1 locs := ⟨hP, hD1.weaken (fun _ _ _ h => hFc _ h), hS, hsz1⟩
    generalize H1 = H at hC ⊢
    have h38 : (CS.hs σ) ≤ CS.hs p35.2 := Nat.le_trans h8 mo36
    refine W.widen (k := CS.hs p35.2 - (CS.hs σ)) (n := 17 * (CS.hs p35.2 - (CS.hs σ))) (cAcc2 h8 mo36) (cAcc3 h8 mo36) ?_
    refine lv_aload_n hx hb dX7_named_42 rfl (lv_at hl 2 rfl) ?_
    refine lv_lload_n hx hb dX7_named_43 rfl (lv_at hl 1 rfl) ?_
    refine lv_iload_n hx hb dX7_named_44 rfl (lv_at hl 0 rfl) ?_
    refine lv_iconst (v := 1) hx hb dX7_named_45 (by decide) ?_
    obtain ⟨p39, hcp39, hf⟩ := hf_bind hf
    have mo40 : CS.hs p35.2 ≤ CS.hs p39.2 := Mono.go hcp39 (m_X7_change N E1 E2 hm1 hm2 p35.2 σ.l (σ.i 44) 1)
    have hr9 : CS.hs p39.2 ≤ CS.hs R.2 := Mono.go hf (mono_bind (m_X1_expect N p39.2 59) (fun p43 => (mono_some (Nat.le_refl _))))
    have hFc := cFree hC hA
    refine va_callv (va_runV (As := [.long σ.l, .int (σ.i 44), .int 1]) (rest := []) ⟨hx, hb, hml, hown, hts⟩ (c_X7_change l dC dI Q N d E1 E2 hE1 hE2 hm1 hm2 p35.2 σ.l (σ.i 44) 1 p39 hcp39) (cwV 3 hts hX7_named_X7_change_v185 rfl rfl rfl (by decide +kernel) ⟨(show (13 + 40 * d) + 1 ≤ (14 + 40 * d) by omega), (show 8 + (7 + 11) + 60 * (13 + 40 * d) ≤ 60 * (14 + 40 * d) by omega)⟩) ⟨zPre.blind, va_recv hK hC.1 (ci := 6) (q0 := 3) rfl rfl, cPre_go hZ hK hC⟩ rfl rfl hl.1 rfl (lv_room (Nat.le_of_ble_eq_true rfl)) dX7_named_46 (cAcc h38 mo40 hr9)) hC.2.2.1 (fun q _ h => hFc q h) hFc (fun u9 t9 H1 locs ht hvm hw hB hz1 hk1 hS => ?_)
    obtain ⟨⟨hP, hK1, hD1⟩, hsz1⟩ := hB
    rw [ht] at hP hsz1
    have hC : CP dC dI Q A s.heap p39.2 H1 locs := ⟨hP, hD1.weaken (fun _ _ _ h => hFc _ h), hS, hsz1⟩
    generalize H1 = H at hC ⊢
    have h42 : (CS.hs σ) ≤ CS.hs p39.2 := Nat.le_trans h38 mo40
    refine W.widen (k := CS.hs p39.2 - (CS.hs σ)) (n := 17 * (CS.hs p39.2 - (CS.hs σ))) (cAcc2 h38 mo40) (cAcc3 h38 mo40) ?_
    refine lv_aload_n hx hb dX7_named_49 rfl (lv_at hl 2 rfl) ?_
    refine lv_bipush (v := 59) hx hb dX7_named_50 (by decide) ?_
    obtain ⟨p43, hcp43, hf⟩ := hf_bind hf
    have mo44 : CS.hs p39.2 ≤ CS.hs p43.2 := Mono.go hcp43 (m_X1_expect N p39.2 59)
    have hr9 : CS.hs p43.2 ≤ CS.hs R.2 := Mono.go hf (mono_some (Nat.le_refl _))
    have hFc := cFree hC hA
    refine va_callv (va_runU (As := [.int 59]) (rest := []) ⟨hx, hb, hml, hown, hts⟩ (c_X1_expect l dC dI Q N p39.2 59 p43 hcp43) (va_cwU 1 hts hX7_named_X1_expect_u155 rfl rfl rfl rfl (by decide +kernel) ⟨(show 4 + 1 ≤ (14 + 40 * d) by omega), (show 8 + (2 + 11) + 60 * 4 ≤ 60 * (14 + 40 * d) by omega)⟩) ⟨zPre.blind, va_recv hK hC.1 (ci := 6) (q0 := 3) rfl rfl, cPre_go hZ hK hC⟩ rfl rfl hl.1 rfl (lv_room (Nat.le_of_ble_eq_true rfl)) dX7_named_52 (cAcc h42 mo44 hr9)) hC.2.2.1 (fun q _ h => hFc q h) hFc (fun u9 t9 H1 locs ht hvm hw hB hz1 hk1 hS => ?_)
    obtain ⟨⟨hP, hK1, hD1⟩, hsz1⟩ := hB
    rw [ht] at hP hsz1
    have hC : CP dC dI Q A s.heap p43.2 H1 locs := ⟨hP, hD1.weaken (fun _ _ _ h => hFc _ h), hS, hsz1⟩
    generalize H1 = H at hC ⊢
    have h46 : (CS.hs σ) ≤ CS.hs p43.2 := Nat.le_trans h42 mo44
    refine W.widen (k := CS.hs p43.2 - (CS.hs σ)) (n := 17 * (CS.hs p43.2 - (CS.hs σ))) (cAcc2 h42 mo44) (cAcc3 h42 mo44) ?_
    obtain rfl := Option.some.inj hf
    exact W.vret hx hb hr (fun t ht hW => ⟨⟨(), rfl, trivial, ⟨by rw [ht]; exact hC.1, va_K.moved hW.alike hK, hC.2.1⟩, by rw [ht]; exact hC.2.2.2⟩, hC.2.2.1.F ht⟩) hC.2.2.1.2.2 dX7_named_55
end
section
theorem k_X7_newName_fieldLink_RX7_71_SR_Statements_tokens_LSR_Tokens : Cond.fieldLink RX7 71 "StatementRules2$Statements" "tokens" "LStatementRules2$Tokens;" ∈ wzX7_newName := List.mem_cons_of_mem _ (List.mem_append_left _ (List.mem_of_getElem? (i := 0) rfl))
theorem k_X7_newName_sameField_SR_Statements_SR_Formulas_tokens_LSR_Tokens : Cond.sameField "StatementRules2$Statements" "StatementRules2$Formulas" "tokens" "LStatementRules2$Tokens;" ∈ wzX7_newName := List.mem_cons_of_mem _ (List.mem_append_left _ (List.mem_of_getElem? (i := 1) rfl))
theorem i_X7_newName_X7 : ∀ w ∈ wsX70, w ∈ wzX7_newName := fun _ h => List.mem_cons_of_mem _ (List.mem_append_right _ (List.mem_append_left _ (h)))
theorem i_X7_newName_X9 : ∀ w ∈ wsX90, w ∈ wzX7_newName := fun _ h => List.mem_cons_of_mem _ (List.mem_append_right _ (List.mem_append_right _ (List.mem_append_left _ (h))))
theorem k_X7_newName_fieldLink_RX7_29_SR_Statements_names_LSR_Names : Cond.fieldLink RX7 29 "StatementRules2$Statements" "names" "LStatementRules2$Names;" ∈ wzX7_newName := List.mem_cons_of_mem _ (List.mem_append_left _ (List.mem_of_getElem? (i := 2) rfl))
theorem k_X7_newName_sameField_SR_Statements_SR_Formulas_names_LSR_Names : Cond.sameField "StatementRules2$Statements" "StatementRules2$Formulas" "names" "LStatementRules2$Names;" ∈ wzX7_newName := List.mem_cons_of_mem _ (List.mem_append_left _ (List.mem_of_getElem? (i := 3) rfl))
set_option maxHeartbeats 4000000 in
set_option maxRecDepth 100000 in
theorem j_X7_newName_56 {p : Program} {e : Env} {s : State} {m : MethodId} {args : Array Value} {below : List Frame} {meth : Method} {c : Code} {A : Nat → Prop} (l : Launch) (dC : Nat → ClassId) (dI : Nat → Nat → Nat) (Q : CQ) (N : Nat) (z9h : Nat) (R : Int64 × CS) (hx : p.tables.exec = Jvm.exec) (hb : c.code = cX7_newName) (hr : meth.sig.returnType = (some .long)) (hml : c.maxLocals = 3) (hown : s.vm.findClass RX7 = some m.cls) (hts : ∀ w ∈ wzX7_newName, w.before args s = true) (hlocks : meth.locks = false) (hZ : zAMB s) (hA : ∀ q : Nat, s.heap.size ≤ q → A q) (hK : va_K (dC, dI) vwCl (cT Q) s) : ∀ (σ : CS) (x1 : Int64) (H : Heap) (locs : List Loc) (ls : Array Slot), f_X7_newName_56 N σ x1 = some R → z9h ≤ CS.hs σ → CP dC dI Q A s.heap σ H locs → lv_has ls 3 [(1, .long x1)] → W p l e ({ frames := 4, cells := CS.hs R.2 - z9h, slots := 17 * (CS.hs R.2 - z9h), locals := 60 * 4 }) s m args below meth c H locs (CS.hs σ - z9h) (17 * (CS.hs σ - z9h)) (MQ below (va_Ql (fun (r : Int64) (_ : Unit) => r = R.1) (fun (_ : Unit) (t : State) => zPost dC dI A (cW Q R.2) (cT Q) t ∧ t.heap.size = CS.hs R.2) A) args s (CS.hs R.2 - z9h) (17 * (CS.hs R.2 - z9h)) A) (F0 m 56 ls []) := by
  intro σ x1 H locs ls hf h0 hC hl
  unfold f_X7_newName_56 at hf
  refine lv_lload_n hx hb dX7_newName_56 rfl (lv_at hl 0 rfl) ?_
  obtain rfl := Option.some.inj hf
  exact W.lret (v := x1) hx hb hr (fun t ht hW => ⟨⟨x1, (), rfl, rfl, ⟨by rw [ht]; exact hC.1, va_K.moved hW.alike hK, hC.2.1⟩, by rw [ht]; exact hC.2.2.2⟩, hC.2.2.1.F ht⟩) hC.2.2.1.2.2 dX7_newName_57
set_option maxHeartbeats 4000000 in
set_option maxRecDepth 100000 in
theorem c_X7_newName (l : Launch) (dC : Nat → ClassId) (dI : Nat → Nat → Nat) (Q : CQ) (N : Nat) (σ : CS) (R : Int64 × CS) (hf : f_X7_newName N σ = some R) : Met l yX7_newName wzX7_newName ({ frames := 4, cells := CS.hs R.2 - CS.hs σ, slots := 17 * (CS.hs R.2 - CS.hs σ), locals := 60 * 4 }) (va_Pc [.ref (Q.o 3)] (zPre dC dI (CS.hs σ) (cW Q σ) (cT Q))) (va_Ql (fun (r : Int64) (_ : Unit) => r = R.1) (fun (_ : Unit) (t : State) => zPost dC dI (va_A (cW Q σ) (CS.hs σ)) (cW Q R.2) (cT Q) t ∧ t.heap.size = CS.hs R.2) (va_A (cW Q σ) (CS.hs σ))) (CS.hs R.2 - CS.hs σ) (17 * (CS.hs R.2 - CS.hs σ)) (va_A (cW Q σ) (CS.hs σ)) := by
  refine Met.ofW (cc := cX7_newName) (maxL := 3) (ret := (some .long)) (by decide) rfl ?_
  intro p e s m args below meth c s₁ B hml hv
  obtain ⟨rfl, hsz, hZ, hP, hK, hD0⟩ := hv
  have hx := B.exec
  have hb := B.bytes
  have hr := B.returns
  have hts := atoms_spec (ws := wzX7_newName) B.pre
  have hown : s.vm.findClass RX7 = some m.cls := findClass_of_methodNamed B.named
  have hlocks := B.notSynchronized
  have hD := hD0.self (sz := CS.hs σ)
  generalize hAe : va_A (cW Q σ) (CS.hs σ) = A at hD ⊢
  have hA : ∀ q : Nat, s.heap.size ≤ q → A q := fun q h => by rw [← hAe]; exact Or.inr (hsz ▸ h)
  have hC : CP dC dI Q A s.heap σ s.heap [] := ⟨hP, hD, va_S.rf, hsz⟩
  have h0 : CS.hs σ ≤ CS.hs σ := Nat.le_refl _
  have hl := lv_entry ([.ref (Q.o 3)]) (n := 3) (Nat.le_of_ble_eq_true rfl)
  rw [lg_entry_eq]
  generalize (lg_sl ([.ref (Q.o 3)]) ++ List.replicate (3 - (lg_sl ([.ref (Q.o 3)])).length) Slot.unset).toArray = ls at hl ⊢
  have hl : lv_has ls 3 [(0, .ref (Q.o 3))] := hl
  unfold f_X7_newName at hf
  refine W.widen (k := CS.hs σ - CS.hs σ) (n := 17 * (CS.hs σ - CS.hs σ)) (Nat.zero_le _) (Nat.zero_le _) ?_
  refine lv_aload_n hx hb dX7_newName_0 rfl (lv_at hl 0 rfl) ?_
  refine cG_28 hx hb hts i_X7_newName_X7 hown hK hC (hts (.fieldLink RX7 71 "StatementRules2$Statements" "tokens" "LStatementRules2$Tokens;") k_X7_newName_fieldLink_RX7_71_SR_Statements_tokens_LSR_Tokens) (fun x9 q9 => u_same (hts (.sameField "StatementRules2$Statements" "StatementRules2$Formulas" "tokens" "LStatementRules2$Tokens;") k_X7_newName_sameField_SR_Statements_SR_Formulas_tokens_LSR_Tokens) x9 q9) dX7_newName_1 ?_
  refine cGN_46 (v := σ.l) hx hb hts i_X7_newName_X9 hown hK hC (va_Nw.use rfl (hZ.1 (.fieldLinkNest RX7 181 "StatementRules2$Tokens" "name" "J" "StatementRules2") (by decide +kernel))) (fun _ q9 => q9) dX7_newName_4 rfl ?_
  refine lv_lstore_n (lv' := [(1, .long σ.l), (0, .ref (Q.o 3))]) hx hb dX7_newName_7 rfl hl (by decide) rfl (fun ls hl => ?_)
  refine lv_aload_n hx hb dX7_newName_8 rfl (lv_at hl 1 rfl) ?_
  refine lv_iconst (v := 2) hx hb dX7_newName_9 (by decide) ?_
  obtain ⟨p1, hcp1, hf⟩ := hf_bind hf
  have mo2 : CS.hs σ ≤ CS.hs p1.2 := Mono.go hcp1 (m_X1_found N σ 2)
  have hr9 : CS.hs p1.2 ≤ CS.hs R.2 := Mono.go hf (mono_ite (mono_bind (m_X1_misplaced N p1.2) (fun p19 => (m_X7_newName_56 N p19.2 σ.l))) (mono_bind (m_X4_find N p1.2 σ.l) (fun p6 => (mono_ite (mono_bind (m_X9_advance N p6.2) (fun p11 => (m_X7_newName_56 N p11.2 σ.l))) (mono_bind (m_X1_fail N p6.2 4 (p6.2.i 44)) (fun p15 => (m_X7_newName_56 N p15.2 σ.l)))))))
  have hFc := cFree hC hA
  refine va_calli (va_runU (As := [.int 2]) (rest := []) ⟨hx, hb, hml, hown, hts⟩ (c_X1_found l dC dI Q N σ 2 p1 hcp1) (va_cwU 1 hts hX7_newName_X1_found_u110 rfl rfl rfl rfl (by decide +kernel) ⟨(show 1 + 1 ≤ 4 by omega), (show 8 + (2 + 11) + 60 * 1 ≤ 60 * 4 by omega)⟩) ⟨zPre.blind, va_recv hK hC.1 (ci := 6) (q0 := 3) rfl rfl, cPre_go hZ hK hC⟩ rfl rfl hl.1 rfl (lv_room (Nat.le_of_ble_eq_true rfl)) dX7_newName_10 (cAcc h0 mo2 hr9)) hC.2.2.1 (fun q _ h => hFc q h) hFc (fun r3 u9 t9 H1 locs ht hvm hw hB hz1 hk1 hS => ?_)
  obtain ⟨⟨hP, hK1, hD1⟩, hsz1⟩ := hB
  rw [ht] at hP hsz1
  have hC : CP dC dI Q A s.heap p1.2 H1 locs := ⟨hP, hD1.weaken (fun _ _ _ h => hFc _ h), hS, hsz1⟩
  generalize H1 = H at hC ⊢
  have h4 : (CS.hs σ) ≤ CS.hs p1.2 := Nat.le_trans h0 mo2
  refine W.widen (k := CS.hs p1.2 - (CS.hs σ)) (n := 17 * (CS.hs p1.2 - (CS.hs σ))) (cAcc2 h0 mo2) (cAcc3 h0 mo2) ?_
  obtain rfl : r3 = p1.1 := hw
  refine lv_if_ne (tgt := 23) hx hb dX7_newName_13 (by decide) (fun c5 => ?_) (fun c5 => ?_)
  ·
    replace hf := (if_neg c5).symm.trans hf
    refine lv_aload_n hx hb dX7_newName_23 rfl (lv_at hl 1 rfl) ?_
    refine cG_31 hx hb hts i_X7_newName_X7 hown hK hC (hts (.fieldLink RX7 29 "StatementRules2$Statements" "names" "LStatementRules2$Names;") k_X7_newName_fieldLink_RX7_29_SR_Statements_names_LSR_Names) (fun x9 q9 => u_same (hts (.sameField "StatementRules2$Statements" "StatementRules2$Formulas" "names" "LStatementRules2$Names;") k_X7_newName_sameField_SR_Statements_SR_Formulas_names_LSR_Names) x9 q9) dX7_newName_24 ?_
    refine lv_lload_n hx hb dX7_newName_27 rfl (lv_at hl 0 rfl) ?_
    obtain ⟨p6, hcp6, hf⟩ := hf_bind hf
    have mo7 : CS.hs p1.2 ≤ CS.hs p6.2 := Mono.go hcp6 (m_X4_find N p1.2 σ.l)
    have hr9 : CS.hs p6.2 ≤ CS.hs R.2 := Mono.go hf (mono_ite (mono_bind (m_X9_advance N p6.2) (fun p11 => (m_X7_newName_56 N p11.2 σ.l))) (mono_bind (m_X1_fail N p6.2 4 (p6.2.i 44)) (fun p15 => (m_X7_newName_56 N p15.2 σ.l))))
    have hFc := cFree hC hA
    refine va_calli (va_runV (As := [.long σ.l]) (rest := []) ⟨hx, hb, hml, hown, hts⟩ (c_X4_find l dC dI Q N p1.2 σ.l p6 hcp6) (cwV 1 hts hX7_newName_X4_find_v199 rfl rfl rfl (by decide +kernel) ⟨(show 1 + 1 ≤ 4 by omega), (show 8 + (4 + 11) + 60 * 1 ≤ 60 * 4 by omega)⟩) ⟨zPre.blind, va_recv hK hC.1 (ci := 3) (q0 := 5) rfl rfl, cPre_go hZ hK hC⟩ rfl rfl hl.1 rfl (lv_room (Nat.le_of_ble_eq_true rfl)) dX7_newName_28 (cAcc h4 mo7 hr9)) hC.2.2.1 (fun q _ h => hFc q h) hFc (fun r8 u9 t9 H1 locs ht hvm hw hB hz1 hk1 hS => ?_)
    obtain ⟨⟨hP, hK1, hD1⟩, hsz1⟩ := hB
    rw [ht] at hP hsz1
    have hC : CP dC dI Q A s.heap p6.2 H1 locs := ⟨hP, hD1.weaken (fun _ _ _ h => hFc _ h), hS, hsz1⟩
    generalize H1 = H at hC ⊢
    have h9 : (CS.hs σ) ≤ CS.hs p6.2 := Nat.le_trans h4 mo7
    refine W.widen (k := CS.hs p6.2 - (CS.hs σ)) (n := 17 * (CS.hs p6.2 - (CS.hs σ))) (cAcc2 h4 mo7) (cAcc3 h4 mo7) ?_
    obtain rfl : r8 = p6.1 := hw
    refine lv_if_lt (tgt := 49) hx hb dX7_newName_31 (by decide) (fun c10 => ?_) (fun c10 => ?_)
    ·
      replace hf := (if_pos c10).symm.trans hf
      refine lv_aload_n hx hb dX7_newName_49 rfl (lv_at hl 1 rfl) ?_
      refine cG_28 hx hb hts i_X7_newName_X7 hown hK hC (hts (.fieldLink RX7 71 "StatementRules2$Statements" "tokens" "LStatementRules2$Tokens;") k_X7_newName_fieldLink_RX7_71_SR_Statements_tokens_LSR_Tokens) (fun x9 q9 => u_same (hts (.sameField "StatementRules2$Statements" "StatementRules2$Formulas" "tokens" "LStatementRules2$Tokens;") k_X7_newName_sameField_SR_Statements_SR_Formulas_tokens_LSR_Tokens) x9 q9) dX7_newName_50 ?_
      obtain ⟨p11, hcp11, hf⟩ := hf_bind hf
      have mo12 : CS.hs p6.2 ≤ CS.hs p11.2 := Mono.go hcp11 (m_X9_advance N p6.2)
      have hr9 : CS.hs p11.2 ≤ CS.hs R.2 := Mono.go hf (m_X7_newName_56 N p11.2 σ.l)
      have hFc := cFree hC hA
      refine va_callv (va_runV (As := []) (rest := []) ⟨hx, hb, hml, hown, hts⟩ (c_X9_advance l dC dI Q N p6.2 p11 hcp11) (cwV 0 hts hX7_newName_X9_advance_v146 rfl rfl rfl (by decide +kernel) ⟨(show 3 + 1 ≤ 4 by omega), (show 8 + (2 + 11) + 60 * 3 ≤ 60 * 4 by omega)⟩) ⟨zPre.blind, va_recv hK hC.1 (ci := 8) (q0 := 4) rfl rfl, cPre_go hZ hK hC⟩ rfl rfl hl.1 rfl (lv_room (Nat.le_of_ble_eq_true rfl)) dX7_newName_53 (cAcc h9 mo12 hr9)) hC.2.2.1 (fun q _ h => hFc q h) hFc (fun u9 t9 H1 locs ht hvm hw hB hz1 hk1 hS => ?_)
      obtain ⟨⟨hP, hK1, hD1⟩, hsz1⟩ := hB
      rw [ht] at hP hsz1
      have hC : CP dC dI Q A s.heap p11.2 H1 locs := ⟨hP, hD1.weaken (fun _ _ _ h => hFc _ h), hS, hsz1⟩
      generalize H1 = H at hC ⊢
      have h14 : (CS.hs σ) ≤ CS.hs p11.2 := Nat.le_trans h9 mo12
      refine W.widen (k := CS.hs p11.2 - (CS.hs σ)) (n := 17 * (CS.hs p11.2 - (CS.hs σ))) (cAcc2 h9 mo12) (cAcc3 h9 mo12) ?_
      exact j_X7_newName_56 l dC dI Q N (CS.hs σ) R hx hb hr hml hown hts hlocks hZ hA hK p11.2 σ.l _ _ _ hf h14 hC (lv_sub hl [0] rfl)
    ·
      replace hf := (if_neg c10).symm.trans hf
      refine lv_aload_n hx hb dX7_newName_34 rfl (lv_at hl 1 rfl) ?_
      refine lv_iconst (v := 4) hx hb dX7_newName_35 (by decide) ?_
      refine lv_aload_n hx hb dX7_newName_36 rfl (lv_at hl 1 rfl) ?_
      refine cG_28 hx hb hts i_X7_newName_X7 hown hK hC (hts (.fieldLink RX7 71 "StatementRules2$Statements" "tokens" "LStatementRules2$Tokens;") k_X7_newName_fieldLink_RX7_71_SR_Statements_tokens_LSR_Tokens) (fun x9 q9 => u_same (hts (.sameField "StatementRules2$Statements" "StatementRules2$Formulas" "tokens" "LStatementRules2$Tokens;") k_X7_newName_sameField_SR_Statements_SR_Formulas_tokens_LSR_Tokens) x9 q9) dX7_newName_37 ?_
      refine cGN_44 (v := (p6.2.i 44)) hx hb hts i_X7_newName_X9 hown hK hC (va_Nw.use rfl (hZ.1 (.fieldLinkNest RX7 143 "StatementRules2$Tokens" "place" "I" "StatementRules2") (by decide +kernel))) (fun _ q9 => q9) dX7_newName_40 rfl ?_
      obtain ⟨p15, hcp15, hf⟩ := hf_bind hf
      have mo16 : CS.hs p6.2 ≤ CS.hs p15.2 := Mono.go hcp15 (m_X1_fail N p6.2 4 (p6.2.i 44))
      have hr9 : CS.hs p15.2 ≤ CS.hs R.2 := Mono.go hf (m_X7_newName_56 N p15.2 σ.l)
      have hFc := cFree hC hA
      refine va_callv (va_runU (As := [.int 4, .int (p6.2.i 44)]) (rest := []) ⟨hx, hb, hml, hown, hts⟩ (c_X1_fail l dC dI Q N p6.2 4 (p6.2.i 44) p15 hcp15) (va_cwU 2 hts hX7_newName_X1_fail_u88 rfl rfl rfl rfl (by decide +kernel) ⟨(show 2 + 1 ≤ 4 by omega), (show 8 + (3 + 11) + 60 * 2 ≤ 60 * 4 by omega)⟩) ⟨zPre.blind, va_recv hK hC.1 (ci := 6) (q0 := 3) rfl rfl, cPre_go hZ hK hC⟩ rfl rfl hl.1 rfl (lv_room (Nat.le_of_ble_eq_true rfl)) dX7_newName_43 (cAcc h9 mo16 hr9)) hC.2.2.1 (fun q _ h => hFc q h) hFc (fun u9 t9 H1 locs ht hvm hw hB hz1 hk1 hS => ?_)
      obtain ⟨⟨hP, hK1, hD1⟩, hsz1⟩ := hB
      rw [ht] at hP hsz1
      have hC : CP dC dI Q A s.heap p15.2 H1 locs := ⟨hP, hD1.weaken (fun _ _ _ h => hFc _ h), hS, hsz1⟩
      generalize H1 = H at hC ⊢
      have h18 : (CS.hs σ) ≤ CS.hs p15.2 := Nat.le_trans h9 mo16
      refine W.widen (k := CS.hs p15.2 - (CS.hs σ)) (n := 17 * (CS.hs p15.2 - (CS.hs σ))) (cAcc2 h9 mo16) (cAcc3 h9 mo16) ?_
      refine lv_goto (tgt := 56) hx hb dX7_newName_46 (by decide) ?_
      exact j_X7_newName_56 l dC dI Q N (CS.hs σ) R hx hb hr hml hown hts hlocks hZ hA hK p15.2 σ.l _ _ _ hf h18 hC (lv_sub hl [0] rfl)
  ·
    replace hf := (if_pos c5).symm.trans hf
    refine lv_aload_n hx hb dX7_newName_16 rfl (lv_at hl 1 rfl) ?_
    obtain ⟨p19, hcp19, hf⟩ := hf_bind hf
    have mo20 : CS.hs p1.2 ≤ CS.hs p19.2 := Mono.go hcp19 (m_X1_misplaced N p1.2)
    have hr9 : CS.hs p19.2 ≤ CS.hs R.2 := Mono.go hf (m_X7_newName_56 N p19.2 σ.l)
    have hFc := cFree hC hA
    refine va_callv (va_runU (As := []) (rest := []) ⟨hx, hb, hml, hown, hts⟩ (c_X1_misplaced l dC dI Q N p1.2 p19 hcp19) (va_cwU 0 hts hX7_newName_X1_misplaced_u161 rfl rfl rfl rfl (by decide +kernel) ⟨(show 3 + 1 ≤ 4 by omega), (show 8 + (1 + 11) + 60 * 3 ≤ 60 * 4 by omega)⟩) ⟨zPre.blind, va_recv hK hC.1 (ci := 6) (q0 := 3) rfl rfl, cPre_go hZ hK hC⟩ rfl rfl hl.1 rfl (lv_room (Nat.le_of_ble_eq_true rfl)) dX7_newName_17 (cAcc h4 mo20 hr9)) hC.2.2.1 (fun q _ h => hFc q h) hFc (fun u9 t9 H1 locs ht hvm hw hB hz1 hk1 hS => ?_)
    obtain ⟨⟨hP, hK1, hD1⟩, hsz1⟩ := hB
    rw [ht] at hP hsz1
    have hC : CP dC dI Q A s.heap p19.2 H1 locs := ⟨hP, hD1.weaken (fun _ _ _ h => hFc _ h), hS, hsz1⟩
    generalize H1 = H at hC ⊢
    have h22 : (CS.hs σ) ≤ CS.hs p19.2 := Nat.le_trans h4 mo20
    refine W.widen (k := CS.hs p19.2 - (CS.hs σ)) (n := 17 * (CS.hs p19.2 - (CS.hs σ))) (cAcc2 h4 mo20) (cAcc3 h4 mo20) ?_
    refine lv_goto (tgt := 56) hx hb dX7_newName_20 (by decide) ?_
    exact j_X7_newName_56 l dC dI Q N (CS.hs σ) R hx hb hr hml hown hts hlocks hZ hA hK p19.2 σ.l _ _ _ hf h22 hC (lv_sub hl [0] rfl)
theorem k_X4_add_fieldLink_RX4_20_SR_Names_count_I : Cond.fieldLink RX4 20 "StatementRules2$Names" "count" "I" ∈ wzX4_add := List.mem_cons_of_mem _ (List.mem_append_left _ (List.mem_of_getElem? (i := 0) rfl))
theorem i_X4_add_X4 : ∀ w ∈ wsX40, w ∈ wzX4_add := fun _ h => List.mem_cons_of_mem _ (List.mem_append_right _ (List.mem_append_left _ (h)))
theorem k_X4_add_fieldLink_RX4_7_SR_Names_names_J : Cond.fieldLink RX4 7 "StatementRules2$Names" "names" "[J" ∈ wzX4_add := List.mem_cons_of_mem _ (List.mem_append_left _ (List.mem_of_getElem? (i := 1) rfl))
theorem k_X4_add_fieldLink_RX4_13_SR_Names_cells_I : Cond.fieldLink RX4 13 "StatementRules2$Names" "cells" "[I" ∈ wzX4_add := List.mem_cons_of_mem _ (List.mem_append_left _ (List.mem_of_getElem? (i := 2) rfl))
theorem k_X4_add_fieldLink_RX4_17_SR_Names_frames_I : Cond.fieldLink RX4 17 "StatementRules2$Names" "frames" "[I" ∈ wzX4_add := List.mem_cons_of_mem _ (List.mem_append_left _ (List.mem_of_getElem? (i := 3) rfl))
set_option maxHeartbeats 4000000 in
set_option maxRecDepth 100000 in
theorem c_X4_add (l : Launch) (dC : Nat → ClassId) (dI : Nat → Nat → Nat) (Q : CQ) (N : Nat) (σ : CS) (x1 : Int64) (x3 : Int32) (x4 : Int32) (R : Unit × CS) (hf : f_X4_add N σ x1 x3 x4 = some R) : Met l yX4_add wzX4_add ({ frames := 1, cells := CS.hs R.2 - CS.hs σ, slots := 17 * (CS.hs R.2 - CS.hs σ), locals := 60 * 1 }) (va_Pc [.ref (Q.o 5), .long x1, .int x3, .int x4] (zPre dC dI (CS.hs σ) (cW Q σ) (cT Q))) (va_Qv (fun (_ : Unit) => True) (fun (_ : Unit) (t : State) => zPost dC dI (va_A (cW Q σ) (CS.hs σ)) (cW Q R.2) (cT Q) t ∧ t.heap.size = CS.hs R.2) (va_A (cW Q σ) (CS.hs σ))) (CS.hs R.2 - CS.hs σ) (17 * (CS.hs R.2 - CS.hs σ)) (va_A (cW Q σ) (CS.hs σ)) := by
  refine Met.ofW (cc := cX4_add) (maxL := 5) (ret := none) (by decide) rfl ?_
  intro p e s m args below meth c s₁ B hml hv
  obtain ⟨rfl, hsz, hZ, hP, hK, hD0⟩ := hv
  have hx := B.exec
  have hb := B.bytes
  have hr := B.returns
  have hts := atoms_spec (ws := wzX4_add) B.pre
  have hown : s.vm.findClass RX4 = some m.cls := findClass_of_methodNamed B.named
  have hlocks := B.notSynchronized
  have hD := hD0.self (sz := CS.hs σ)
  generalize hAe : va_A (cW Q σ) (CS.hs σ) = A at hD ⊢
  have hA : ∀ q : Nat, s.heap.size ≤ q → A q := fun q h => by rw [← hAe]; exact Or.inr (hsz ▸ h)
  have hC : CP dC dI Q A s.heap σ s.heap [] := ⟨hP, hD, va_S.rf, hsz⟩
  have h0 : CS.hs σ ≤ CS.hs σ := Nat.le_refl _
  have hl := lv_entry ([.ref (Q.o 5), .long x1, .int x3, .int x4]) (n := 5) (Nat.le_of_ble_eq_true rfl)
  rw [lg_entry_eq]
  generalize (lg_sl ([.ref (Q.o 5), .long x1, .int x3, .int x4]) ++ List.replicate (5 - (lg_sl ([.ref (Q.o 5), .long x1, .int x3, .int x4])).length) Slot.unset).toArray = ls at hl ⊢
  have hl : lv_has ls 5 [(0, .ref (Q.o 5)), (1, .long x1), (3, .int x3), (4, .int x4)] := hl
  unfold f_X4_add at hf
  refine W.widen (k := CS.hs σ - CS.hs σ) (n := 17 * (CS.hs σ - CS.hs σ)) (Nat.zero_le _) (Nat.zero_le _) ?_
  refine lv_aload_n hx hb dX4_add_0 rfl (lv_at hl 0 rfl) ?_
  refine cG_50 (v := (σ.i 50)) hx hb hts i_X4_add_X4 hown hK hC (hts (.fieldLink RX4 20 "StatementRules2$Names" "count" "I") k_X4_add_fieldLink_RX4_20_SR_Names_count_I) (fun _ q9 => q9) dX4_add_1 rfl ?_
  refine lv_aload_n hx hb dX4_add_4 rfl (lv_at hl 0 rfl) ?_
  refine cG_47 hx hb hts i_X4_add_X4 hown hK hC (hts (.fieldLink RX4 7 "StatementRules2$Names" "names" "[J") k_X4_add_fieldLink_RX4_7_SR_Names_names_J) (fun _ q9 => q9) dX4_add_5 ?_
  refine va_alen (v := 128) hx hb hK hC.1 19 1 rfl rfl rfl dX4_add_8 ?_
  refine lv_icmp_ge (tgt := 53) hx hb dX4_add_9 (by decide) (fun c1 => ?_) (fun c1 => ?_)
  ·
    replace hf := (if_pos c1).symm.trans hf
    obtain rfl := Option.some.inj hf
    exact W.vret hx hb hr (fun t ht hW => ⟨⟨(), rfl, trivial, ⟨by rw [ht]; exact hC.1, va_K.moved hW.alike hK, hC.2.1⟩, by rw [ht]; exact hC.2.2.2⟩, hC.2.2.1.F ht⟩) hC.2.2.1.2.2 dX4_add_53
  ·
    replace hf := (if_neg c1).symm.trans hf
    refine lv_aload_n hx hb dX4_add_12 rfl (lv_at hl 0 rfl) ?_
    refine cG_47 hx hb hts i_X4_add_X4 hown hK hC (hts (.fieldLink RX4 7 "StatementRules2$Names" "names" "[J") k_X4_add_fieldLink_RX4_7_SR_Names_names_J) (fun _ q9 => q9) dX4_add_13 ?_
    refine lv_aload_n hx hb dX4_add_16 rfl (lv_at hl 0 rfl) ?_
    refine cG_50 (v := (σ.i 50)) hx hb hts i_X4_add_X4 hown hK hC (hts (.fieldLink RX4 20 "StatementRules2$Names" "count" "I") k_X4_add_fieldLink_RX4_20_SR_Names_count_I) (fun _ q9 => q9) dX4_add_17 rfl ?_
    refine lv_lload_n hx hb dX4_add_20 rfl (lv_at hl 1 rfl) ?_
    obtain ⟨b2, hf⟩ := hf_ite hf
    refine cS_47 hx hb hK hC b2 dX4_add_21 (fun H locs hC => ?_)
    refine lv_aload_n hx hb dX4_add_22 rfl (lv_at hl 0 rfl) ?_
    refine cG_48 hx hb hts i_X4_add_X4 hown hK hC (hts (.fieldLink RX4 13 "StatementRules2$Names" "cells" "[I") k_X4_add_fieldLink_RX4_13_SR_Names_cells_I) (fun _ q9 => q9) dX4_add_23 ?_
    refine lv_aload_n hx hb dX4_add_26 rfl (lv_at hl 0 rfl) ?_
    refine cG_50 (v := (σ.i 50)) hx hb hts i_X4_add_X4 hown hK hC (hts (.fieldLink RX4 20 "StatementRules2$Names" "count" "I") k_X4_add_fieldLink_RX4_20_SR_Names_count_I) (fun _ q9 => q9) dX4_add_27 rfl ?_
    refine lv_iload_n hx hb dX4_add_30 rfl (lv_at hl 2 rfl) ?_
    refine cS_48 hx hb hK hC b2 dX4_add_31 (fun H locs hC => ?_)
    refine lv_aload_n hx hb dX4_add_32 rfl (lv_at hl 0 rfl) ?_
    refine cG_49 hx hb hts i_X4_add_X4 hown hK hC (hts (.fieldLink RX4 17 "StatementRules2$Names" "frames" "[I") k_X4_add_fieldLink_RX4_17_SR_Names_frames_I) (fun _ q9 => q9) dX4_add_33 ?_
    refine lv_aload_n hx hb dX4_add_36 rfl (lv_at hl 0 rfl) ?_
    refine cG_50 (v := (σ.i 50)) hx hb hts i_X4_add_X4 hown hK hC (hts (.fieldLink RX4 20 "StatementRules2$Names" "count" "I") k_X4_add_fieldLink_RX4_20_SR_Names_count_I) (fun _ q9 => q9) dX4_add_37 rfl ?_
    refine lv_iload hx hb dX4_add_40 (lv_at hl 3 rfl) ?_
    refine cS_49 hx hb hK hC b2 dX4_add_42 (fun H locs hC => ?_)
    refine lv_aload_n hx hb dX4_add_43 rfl (lv_at hl 0 rfl) ?_
    refine lv_dup hx hb dX4_add_44 rfl ?_
    refine cG_50 (v := (σ.i 50)) hx hb hts i_X4_add_X4 hown hK hC (hts (.fieldLink RX4 20 "StatementRules2$Names" "count" "I") k_X4_add_fieldLink_RX4_20_SR_Names_count_I) (fun _ q9 => q9) dX4_add_45 rfl ?_
    refine lv_iconst (v := 1) hx hb dX4_add_48 (by decide) ?_
    refine lv_iadd hx hb dX4_add_49 ?_
    refine cP_50 (v := ((σ.i 50) + 1)) hx hb hts i_X4_add_X4 hown hK hC (hts (.fieldLink RX4 20 "StatementRules2$Names" "count" "I") k_X4_add_fieldLink_RX4_20_SR_Names_count_I) (fun _ q9 => q9) dX4_add_50 (fun H locs hC => ?_)
    obtain rfl := Option.some.inj hf
    exact W.vret hx hb hr (fun t ht hW => ⟨⟨(), rfl, trivial, ⟨by rw [ht]; exact hC.1, va_K.moved hW.alike hK, hC.2.1⟩, by rw [ht]; exact hC.2.2.2⟩, hC.2.2.1.F ht⟩) hC.2.2.1.2.2 dX4_add_53
theorem k_X7_tell_fieldLink_RX7_20_SR_Statements_code_LSR_Code : Cond.fieldLink RX7 20 "StatementRules2$Statements" "code" "LStatementRules2$Code;" ∈ wzX7_tell := List.mem_cons_of_mem _ (List.mem_append_left _ (List.mem_of_getElem? (i := 0) rfl))
theorem k_X7_tell_sameField_SR_Statements_SR_Formulas_code_LSR_Code : Cond.sameField "StatementRules2$Statements" "StatementRules2$Formulas" "code" "LStatementRules2$Code;" ∈ wzX7_tell := List.mem_cons_of_mem _ (List.mem_append_left _ (List.mem_of_getElem? (i := 1) rfl))
theorem i_X7_tell_X7 : ∀ w ∈ wsX70, w ∈ wzX7_tell := fun _ h => List.mem_cons_of_mem _ (List.mem_append_right _ (List.mem_append_left _ (h)))
theorem k_X7_tell_fieldLink_RX7_29_SR_Statements_names_LSR_Names : Cond.fieldLink RX7 29 "StatementRules2$Statements" "names" "LStatementRules2$Names;" ∈ wzX7_tell := List.mem_cons_of_mem _ (List.mem_append_left _ (List.mem_of_getElem? (i := 2) rfl))
theorem k_X7_tell_sameField_SR_Statements_SR_Formulas_names_LSR_Names : Cond.sameField "StatementRules2$Statements" "StatementRules2$Formulas" "names" "LStatementRules2$Names;" ∈ wzX7_tell := List.mem_cons_of_mem _ (List.mem_append_left _ (List.mem_of_getElem? (i := 3) rfl))
theorem i_X7_tell_X0 : ∀ w ∈ wsX00, w ∈ wzX7_tell := fun _ h => List.mem_cons_of_mem _ (List.mem_append_right _ (List.mem_append_right _ (List.mem_append_left _ (h))))
set_option maxHeartbeats 4000000 in
set_option maxRecDepth 100000 in
theorem c_X7_tell (l : Launch) (dC : Nat → ClassId) (dI : Nat → Nat → Nat) (Q : CQ) (N : Nat) (σ : CS) (x1 : Int64) (R : Int32 × CS) (hf : f_X7_tell N σ x1 = some R) : Met l yX7_tell wzX7_tell ({ frames := 2, cells := CS.hs R.2 - CS.hs σ, slots := 17 * (CS.hs R.2 - CS.hs σ), locals := 60 * 2 }) (va_Pc [.ref (Q.o 3), .long x1] (zPre dC dI (CS.hs σ) (cW Q σ) (cT Q))) (va_Qi (fun (r : Int32) (_ : Unit) => r = R.1) (fun (_ : Unit) (t : State) => zPost dC dI (va_A (cW Q σ) (CS.hs σ)) (cW Q R.2) (cT Q) t ∧ t.heap.size = CS.hs R.2) (va_A (cW Q σ) (CS.hs σ))) (CS.hs R.2 - CS.hs σ) (17 * (CS.hs R.2 - CS.hs σ)) (va_A (cW Q σ) (CS.hs σ)) := by
  refine Met.ofW (cc := cX7_tell) (maxL := 4) (ret := (some .int)) (by decide) rfl ?_
  intro p e s m args below meth c s₁ B hml hv
  obtain ⟨rfl, hsz, hZ, hP, hK, hD0⟩ := hv
  have hx := B.exec
  have hb := B.bytes
  have hr := B.returns
  have hts := atoms_spec (ws := wzX7_tell) B.pre
  have hown : s.vm.findClass RX7 = some m.cls := findClass_of_methodNamed B.named
  have hlocks := B.notSynchronized
  have hD := hD0.self (sz := CS.hs σ)
  generalize hAe : va_A (cW Q σ) (CS.hs σ) = A at hD ⊢
  have hA : ∀ q : Nat, s.heap.size ≤ q → A q := fun q h => by rw [← hAe]; exact Or.inr (hsz ▸ h)
  have hC : CP dC dI Q A s.heap σ s.heap [] := ⟨hP, hD, va_S.rf, hsz⟩
  have h0 : CS.hs σ ≤ CS.hs σ := Nat.le_refl _
  have hl := lv_entry ([.ref (Q.o 3), .long x1]) (n := 4) (Nat.le_of_ble_eq_true rfl)
  rw [lg_entry_eq]
  generalize (lg_sl ([.ref (Q.o 3), .long x1]) ++ List.replicate (4 - (lg_sl ([.ref (Q.o 3), .long x1])).length) Slot.unset).toArray = ls at hl ⊢
  have hl : lv_has ls 4 [(0, .ref (Q.o 3)), (1, .long x1)] := hl
  unfold f_X7_tell at hf
  refine W.widen (k := CS.hs σ - CS.hs σ) (n := 17 * (CS.hs σ - CS.hs σ)) (Nat.zero_le _) (Nat.zero_le _) ?_
  refine lv_aload_n hx hb dX7_tell_0 rfl (lv_at hl 0 rfl) ?_
  refine cG_29 hx hb hts i_X7_tell_X7 hown hK hC (hts (.fieldLink RX7 20 "StatementRules2$Statements" "code" "LStatementRules2$Code;") k_X7_tell_fieldLink_RX7_20_SR_Statements_code_LSR_Code) (fun x9 q9 => u_same (hts (.sameField "StatementRules2$Statements" "StatementRules2$Formulas" "code" "LStatementRules2$Code;") k_X7_tell_sameField_SR_Statements_SR_Formulas_code_LSR_Code) x9 q9) dX7_tell_1 ?_
  refine lv_iconst (v := 1) hx hb dX7_tell_4 (by decide) ?_
  obtain ⟨p1, hcp1, hf⟩ := hf_bind hf
  have mo2 : CS.hs σ ≤ CS.hs p1.2 := Mono.go hcp1 (m_X0_newCells N σ 1)
  have hr9 : CS.hs p1.2 ≤ CS.hs R.2 := Mono.go hf (mono_bind (m_X4_add N p1.2 x1 p1.1 (-1)) (fun p5 => (mono_some (Nat.le_refl _))))
  have hFc := cFree hC hA
  refine va_calli (va_runV (As := [.int 1]) (rest := []) ⟨hx, hb, hml, hown, hts⟩ (c_X0_newCells l dC dI Q N σ 1 p1 hcp1) (cwV 1 hts hX7_tell_X0_newCells_v41 rfl rfl rfl (by decide +kernel) ⟨(show 1 + 1 ≤ 2 by omega), (show 8 + (2 + 11) + 60 * 1 ≤ 60 * 2 by omega)⟩) ⟨zPre.blind, va_recv hK hC.1 (ci := 0) (q0 := 2) rfl rfl, cPre_go hZ hK hC⟩ rfl rfl hl.1 rfl (lv_room (Nat.le_of_ble_eq_true rfl)) dX7_tell_5 (cAcc h0 mo2 hr9)) hC.2.2.1 (fun q _ h => hFc q h) hFc (fun r3 u9 t9 H1 locs ht hvm hw hB hz1 hk1 hS => ?_)
  obtain ⟨⟨hP, hK1, hD1⟩, hsz1⟩ := hB
  rw [ht] at hP hsz1
  have hC : CP dC dI Q A s.heap p1.2 H1 locs := ⟨hP, hD1.weaken (fun _ _ _ h => hFc _ h), hS, hsz1⟩
  generalize H1 = H at hC ⊢
  have h4 : (CS.hs σ) ≤ CS.hs p1.2 := Nat.le_trans h0 mo2
  refine W.widen (k := CS.hs p1.2 - (CS.hs σ)) (n := 17 * (CS.hs p1.2 - (CS.hs σ))) (cAcc2 h0 mo2) (cAcc3 h0 mo2) ?_
  obtain rfl : r3 = p1.1 := hw
  refine lv_istore_n (lv' := [(3, .int p1.1), (0, .ref (Q.o 3)), (1, .long x1)]) hx hb dX7_tell_8 rfl hl (by decide) rfl (fun ls hl => ?_)
  refine lv_aload_n hx hb dX7_tell_9 rfl (lv_at hl 1 rfl) ?_
  refine cG_31 hx hb hts i_X7_tell_X7 hown hK hC (hts (.fieldLink RX7 29 "StatementRules2$Statements" "names" "LStatementRules2$Names;") k_X7_tell_fieldLink_RX7_29_SR_Statements_names_LSR_Names) (fun x9 q9 => u_same (hts (.sameField "StatementRules2$Statements" "StatementRules2$Formulas" "names" "LStatementRules2$Names;") k_X7_tell_sameField_SR_Statements_SR_Formulas_names_LSR_Names) x9 q9) dX7_tell_10 ?_
  refine lv_lload_n hx hb dX7_tell_13 rfl (lv_at hl 2 rfl) ?_
  refine lv_iload_n hx hb dX7_tell_14 rfl (lv_at hl 0 rfl) ?_
  refine lv_iconst (v := (-1)) hx hb dX7_tell_15 (by decide) ?_
  obtain ⟨p5, hcp5, hf⟩ := hf_bind hf
  have mo6 : CS.hs p1.2 ≤ CS.hs p5.2 := Mono.go hcp5 (m_X4_add N p1.2 x1 p1.1 (-1))
  have hr9 : CS.hs p5.2 ≤ CS.hs R.2 := Mono.go hf (mono_some (Nat.le_refl _))
  have hFc := cFree hC hA
  refine va_callv (va_runV (As := [.long x1, .int p1.1, .int (-1)]) (rest := []) ⟨hx, hb, hml, hown, hts⟩ (c_X4_add l dC dI Q N p1.2 x1 p1.1 (-1) p5 hcp5) (cwV 3 hts hX7_tell_X4_add_v45 rfl rfl rfl (by decide +kernel) ⟨(show 1 + 1 ≤ 2 by omega), (show 8 + (5 + 11) + 60 * 1 ≤ 60 * 2 by omega)⟩) ⟨zPre.blind, va_recv hK hC.1 (ci := 3) (q0 := 5) rfl rfl, cPre_go hZ hK hC⟩ rfl rfl hl.1 rfl (lv_room (Nat.le_of_ble_eq_true rfl)) dX7_tell_16 (cAcc h4 mo6 hr9)) hC.2.2.1 (fun q _ h => hFc q h) hFc (fun u9 t9 H1 locs ht hvm hw hB hz1 hk1 hS => ?_)
  obtain ⟨⟨hP, hK1, hD1⟩, hsz1⟩ := hB
  rw [ht] at hP hsz1
  have hC : CP dC dI Q A s.heap p5.2 H1 locs := ⟨hP, hD1.weaken (fun _ _ _ h => hFc _ h), hS, hsz1⟩
  generalize H1 = H at hC ⊢
  have h8 : (CS.hs σ) ≤ CS.hs p5.2 := Nat.le_trans h4 mo6
  refine W.widen (k := CS.hs p5.2 - (CS.hs σ)) (n := 17 * (CS.hs p5.2 - (CS.hs σ))) (cAcc2 h4 mo6) (cAcc3 h4 mo6) ?_
  refine lv_aload_n hx hb dX7_tell_19 rfl (lv_at hl 1 rfl) ?_
  refine cG_29 hx hb hts i_X7_tell_X7 hown hK hC (hts (.fieldLink RX7 20 "StatementRules2$Statements" "code" "LStatementRules2$Code;") k_X7_tell_fieldLink_RX7_20_SR_Statements_code_LSR_Code) (fun x9 q9 => u_same (hts (.sameField "StatementRules2$Statements" "StatementRules2$Formulas" "code" "LStatementRules2$Code;") k_X7_tell_sameField_SR_Statements_SR_Formulas_code_LSR_Code) x9 q9) dX7_tell_20 ?_
  refine lv_dup hx hb dX7_tell_23 rfl ?_
  refine cGN_25 (v := (p5.2.i 25)) hx hb hts i_X7_tell_X0 hown hK hC (va_Nw.use rfl (hZ.1 (.fieldLinkNest RX7 267 "StatementRules2$Code" "toldNames" "I" "StatementRules2") (by decide +kernel))) (fun _ q9 => q9) dX7_tell_24 rfl ?_
  refine lv_iconst (v := 1) hx hb dX7_tell_27 (by decide) ?_
  refine lv_iadd hx hb dX7_tell_28 ?_
  refine cPN_25 (v := ((p5.2.i 25) + 1)) hx hb hts i_X7_tell_X0 hown hK hC (va_Nw.use rfl (hZ.1 (.fieldLinkNest RX7 267 "StatementRules2$Code" "toldNames" "I" "StatementRules2") (by decide +kernel))) (fun _ q9 => q9) dX7_tell_29 (fun H locs hC => ?_)
  refine lv_iload_n hx hb dX7_tell_32 rfl (lv_at hl 0 rfl) ?_
  obtain rfl := Option.some.inj hf
  exact W.iret (v := p1.1) hx hb hr (fun t ht hW => ⟨⟨p1.1, (), rfl, rfl, ⟨by rw [ht]; exact hC.1, va_K.moved hW.alike hK, hC.2.1⟩, by rw [ht]; exact hC.2.2.2⟩, hC.2.2.1.F ht⟩) hC.2.2.1.2.2 dX7_tell_33
theorem k_X7_define_fieldLink_RX7_20_SR_Statements_code_LSR_Code : Cond.fieldLink RX7 20 "StatementRules2$Statements" "code" "LStatementRules2$Code;" ∈ wzX7_define := List.mem_cons_of_mem _ (List.mem_append_right _ (List.mem_append_right _ (List.mem_append_right _ (List.mem_append_right _ (List.mem_append_right _ (List.mem_append_right _ (List.mem_append_right _ (List.mem_append_right _ (List.mem_append_right _ (List.mem_append_right _ (List.mem_append_right _ (List.mem_append_right _ (List.mem_append_right _ (List.mem_append_right _ (List.mem_append_right _ (List.mem_append_right _ (List.mem_append_right _ (List.mem_append_right _ (List.mem_append_right _ (List.mem_append_right _ (List.mem_append_right _ (List.mem_append_right _ (List.mem_append_left _ (List.mem_of_getElem? (i := 0) rfl))))))))))))))))))))))))
theorem k_X7_define_sameField_SR_Statements_SR_Formulas_code_LSR_Code : Cond.sameField "StatementRules2$Statements" "StatementRules2$Formulas" "code" "LStatementRules2$Code;" ∈ wzX7_define := List.mem_cons_of_mem _ (List.mem_append_right _ (List.mem_append_right _ (List.mem_append_right _ (List.mem_append_right _ (List.mem_append_right _ (List.mem_append_right _ (List.mem_append_right _ (List.mem_append_right _ (List.mem_append_right _ (List.mem_append_right _ (List.mem_append_right _ (List.mem_append_right _ (List.mem_append_right _ (List.mem_append_right _ (List.mem_append_right _ (List.mem_append_right _ (List.mem_append_right _ (List.mem_append_right _ (List.mem_append_right _ (List.mem_append_right _ (List.mem_append_right _ (List.mem_append_right _ (List.mem_append_left _ (List.mem_of_getElem? (i := 1) rfl))))))))))))))))))))))))
theorem i_X7_define_X7 : ∀ w ∈ wsX70, w ∈ wzX7_define := fun _ h => List.mem_cons_of_mem _ (List.mem_append_right _ (List.mem_append_right _ (List.mem_append_right _ (List.mem_append_right _ (List.mem_append_right _ (List.mem_append_right _ (List.mem_append_right _ (List.mem_append_right _ (List.mem_append_right _ (List.mem_append_right _ (List.mem_append_right _ (List.mem_append_right _ (List.mem_append_right _ (List.mem_append_right _ (List.mem_append_right _ (List.mem_append_right _ (List.mem_append_right _ (List.mem_append_right _ (List.mem_append_right _ (List.mem_append_right _ (List.mem_append_right _ (List.mem_append_right _ (List.mem_append_right _ (List.mem_append_right _ (List.mem_append_right _ (List.mem_append_right _ (List.mem_append_right _ (List.mem_append_right _ (List.mem_append_right _ (List.mem_append_right _ (List.mem_append_right _ (List.mem_append_right _ (List.mem_append_right _ (List.mem_append_right _ (List.mem_append_right _ (List.mem_append_right _ (List.mem_append_left _ (h))))))))))))))))))))))))))))))))))))))
set_option maxHeartbeats 4000000 in
set_option maxRecDepth 100000 in
theorem c_X7_define (l : Launch) (dC : Nat → ClassId) (dI : Nat → Nat → Nat) (Q : CQ) (N : Nat) (d : Nat) (E1 : CS → Option (Unit × CS)) (E2 : CS → Option (Int32 × CS)) (hE1 : cMF l dC dI Q d E1) (hE2 : cMO l dC dI Q d E2) (hm1 : ∀ σ, Mono (CS.hs σ) (E1 σ)) (hm2 : ∀ σ, Mono (CS.hs σ) (E2 σ)) (σ : CS) (x1 : Int64) (R : Unit × CS) (hf : f_X7_define N E1 E2 σ x1 = some R) : Met l yX7_define wzX7_define ({ frames := (13 + 40 * d), cells := CS.hs R.2 - CS.hs σ, slots := 17 * (CS.hs R.2 - CS.hs σ), locals := 60 * (13 + 40 * d) }) (va_Pc [.ref (Q.o 3), .long x1] (zPre dC dI (CS.hs σ) (cW Q σ) (cT Q))) (va_Qv (fun (_ : Unit) => True) (fun (_ : Unit) (t : State) => zPost dC dI (va_A (cW Q σ) (CS.hs σ)) (cW Q R.2) (cT Q) t ∧ t.heap.size = CS.hs R.2) (va_A (cW Q σ) (CS.hs σ))) (CS.hs R.2 - CS.hs σ) (17 * (CS.hs R.2 - CS.hs σ)) (va_A (cW Q σ) (CS.hs σ)) := by
  refine Met.ofW (cc := cX7_define) (maxL := 3) (ret := none) (by decide) rfl ?_
  intro p e s m args below meth c s₁ B hml hv
  obtain ⟨rfl, hsz, hZ, hP, hK, hD0⟩ := hv
  have hx := B.exec
  have hb := B.bytes
  have hr := B.returns
  have hts := atoms_spec (ws := wzX7_define) B.pre
  have hown : s.vm.findClass RX7 = some m.cls := findClass_of_methodNamed B.named
  have hlocks := B.notSynchronized
  have hD := hD0.self (sz := CS.hs σ)
  generalize hAe : va_A (cW Q σ) (CS.hs σ) = A at hD ⊢
  have hA : ∀ q : Nat, s.heap.size ≤ q → A q := fun q h => by rw [← hAe]; exact Or.inr (hsz ▸ h)
  have hC : CP dC dI Q A s.heap σ s.heap [] := ⟨hP, hD, va_S.rf, hsz⟩
  have h0 : CS.hs σ ≤ CS.hs σ := Nat.le_refl _
  have hl := lv_entry ([.ref (Q.o 3), .long x1]) (n := 3) (Nat.le_of_ble_eq_true rfl)
  rw [lg_entry_eq]
  generalize (lg_sl ([.ref (Q.o 3), .long x1]) ++ List.replicate (3 - (lg_sl ([.ref (Q.o 3), .long x1])).length) Slot.unset).toArray = ls at hl ⊢
  have hl : lv_has ls 3 [(0, .ref (Q.o 3)), (1, .long x1)] := hl
  unfold f_X7_define at hf
  refine W.widen (k := CS.hs σ - CS.hs σ) (n := 17 * (CS.hs σ - CS.hs σ)) (Nat.zero_le _) (Nat.zero_le _) ?_
  refine lv_aload_n hx hb dX7_define_0 rfl (lv_at hl 0 rfl) ?_
  refine lv_bipush (v := 61) hx hb dX7_define_1 (by decide) ?_
  obtain ⟨p1, hcp1, hf⟩ := hf_bind hf
  have mo2 : CS.hs σ ≤ CS.hs p1.2 := Mono.go hcp1 (m_X1_expect N σ 61)
  have hr9 : CS.hs p1.2 ≤ CS.hs R.2 := Mono.go hf (mono_bind (m_X1_expression N E1 E2 hm1 hm2 p1.2) (fun p5 => (mono_bind (m_X7_tell N p5.2 x1) (fun p9 => (mono_bind (m_X0_add N p9.2 2 p9.1) (fun p13 => (mono_some (Nat.le_refl _))))))))
  have hFc := cFree hC hA
  refine va_callv (va_runU (As := [.int 61]) (rest := []) ⟨hx, hb, hml, hown, hts⟩ (c_X1_expect l dC dI Q N σ 61 p1 hcp1) (va_cwU 1 hts hX7_define_X1_expect_u155 rfl rfl rfl rfl (by decide +kernel) ⟨(show 4 + 1 ≤ (13 + 40 * d) by omega), (show 8 + (2 + 11) + 60 * 4 ≤ 60 * (13 + 40 * d) by omega)⟩) ⟨zPre.blind, va_recv hK hC.1 (ci := 6) (q0 := 3) rfl rfl, cPre_go hZ hK hC⟩ rfl rfl hl.1 rfl (lv_room (Nat.le_of_ble_eq_true rfl)) dX7_define_3 (cAcc h0 mo2 hr9)) hC.2.2.1 (fun q _ h => hFc q h) hFc (fun u9 t9 H1 locs ht hvm hw hB hz1 hk1 hS => ?_)
  obtain ⟨⟨hP, hK1, hD1⟩, hsz1⟩ := hB
  rw [ht] at hP hsz1
  have hC : CP dC dI Q A s.heap p1.2 H1 locs := ⟨hP, hD1.weaken (fun _ _ _ h => hFc _ h), hS, hsz1⟩
  generalize H1 = H at hC ⊢
  have h4 : (CS.hs σ) ≤ CS.hs p1.2 := Nat.le_trans h0 mo2
  refine W.widen (k := CS.hs p1.2 - (CS.hs σ)) (n := 17 * (CS.hs p1.2 - (CS.hs σ))) (cAcc2 h0 mo2) (cAcc3 h0 mo2) ?_
  refine lv_aload_n hx hb dX7_define_6 rfl (lv_at hl 0 rfl) ?_
  obtain ⟨p5, hcp5, hf⟩ := hf_bind hf
  have mo6 : CS.hs p1.2 ≤ CS.hs p5.2 := Mono.go hcp5 (m_X1_expression N E1 E2 hm1 hm2 p1.2)
  have hr9 : CS.hs p5.2 ≤ CS.hs R.2 := Mono.go hf (mono_bind (m_X7_tell N p5.2 x1) (fun p9 => (mono_bind (m_X0_add N p9.2 2 p9.1) (fun p13 => (mono_some (Nat.le_refl _))))))
  have hFc := cFree hC hA
  refine va_callv (va_runU (As := []) (rest := []) ⟨hx, hb, hml, hown, hts⟩ (c_X1_expression l dC dI Q N d E1 E2 hE1 hE2 hm1 hm2 p1.2 p5 hcp5) (va_cwU 0 hts hX7_define_X1_expression_u211 rfl rfl rfl rfl (by decide +kernel) ⟨(show (12 + 40 * d) + 1 ≤ (13 + 40 * d) by omega), (show 8 + (3 + 11) + 60 * (12 + 40 * d) ≤ 60 * (13 + 40 * d) by omega)⟩) ⟨zPre.blind, va_recv hK hC.1 (ci := 6) (q0 := 3) rfl rfl, cPre_go hZ hK hC⟩ rfl rfl hl.1 rfl (lv_room (Nat.le_of_ble_eq_true rfl)) dX7_define_7 (cAcc h4 mo6 hr9)) hC.2.2.1 (fun q _ h => hFc q h) hFc (fun u9 t9 H1 locs ht hvm hw hB hz1 hk1 hS => ?_)
  obtain ⟨⟨hP, hK1, hD1⟩, hsz1⟩ := hB
  rw [ht] at hP hsz1
  have hC : CP dC dI Q A s.heap p5.2 H1 locs := ⟨hP, hD1.weaken (fun _ _ _ h => hFc _ h), hS, hsz1⟩
  generalize H1 = H at hC ⊢
  have h8 : (CS.hs σ) ≤ CS.hs p5.2 := Nat.le_trans h4 mo6
  refine W.widen (k := CS.hs p5.2 - (CS.hs σ)) (n := 17 * (CS.hs p5.2 - (CS.hs σ))) (cAcc2 h4 mo6) (cAcc3 h4 mo6) ?_
  refine lv_aload_n hx hb dX7_define_10 rfl (lv_at hl 0 rfl) ?_
  refine cG_29 hx hb hts i_X7_define_X7 hown hK hC (hts (.fieldLink RX7 20 "StatementRules2$Statements" "code" "LStatementRules2$Code;") k_X7_define_fieldLink_RX7_20_SR_Statements_code_LSR_Code) (fun x9 q9 => u_same (hts (.sameField "StatementRules2$Statements" "StatementRules2$Formulas" "code" "LStatementRules2$Code;") k_X7_define_sameField_SR_Statements_SR_Formulas_code_LSR_Code) x9 q9) dX7_define_11 ?_
  refine lv_iconst (v := 2) hx hb dX7_define_14 (by decide) ?_
  refine lv_aload_n hx hb dX7_define_15 rfl (lv_at hl 0 rfl) ?_
  refine lv_lload_n hx hb dX7_define_16 rfl (lv_at hl 1 rfl) ?_
  obtain ⟨p9, hcp9, hf⟩ := hf_bind hf
  have mo10 : CS.hs p5.2 ≤ CS.hs p9.2 := Mono.go hcp9 (m_X7_tell N p5.2 x1)
  have hr9 : CS.hs p9.2 ≤ CS.hs R.2 := Mono.go hf (mono_bind (m_X0_add N p9.2 2 p9.1) (fun p13 => (mono_some (Nat.le_refl _))))
  have hFc := cFree hC hA
  refine va_calli (va_runV (As := [.long x1]) (rest := [.int 2, .ref (Q.o 2)]) ⟨hx, hb, hml, hown, hts⟩ (c_X7_tell l dC dI Q N p5.2 x1 p9 hcp9) (cwV 1 hts hX7_define_X7_tell_v264 rfl rfl rfl (by decide +kernel) ⟨(show 2 + 1 ≤ (13 + 40 * d) by omega), (show 8 + (4 + 11) + 60 * 2 ≤ 60 * (13 + 40 * d) by omega)⟩) ⟨zPre.blind, va_recv hK hC.1 (ci := 6) (q0 := 3) rfl rfl, cPre_go hZ hK hC⟩ rfl rfl hl.1 rfl (lv_room (Nat.le_of_ble_eq_true rfl)) dX7_define_17 (cAcc h8 mo10 hr9)) hC.2.2.1 (fun q _ h => hFc q h) hFc (fun r11 u9 t9 H1 locs ht hvm hw hB hz1 hk1 hS => ?_)
  obtain ⟨⟨hP, hK1, hD1⟩, hsz1⟩ := hB
  rw [ht] at hP hsz1
  have hC : CP dC dI Q A s.heap p9.2 H1 locs := ⟨hP, hD1.weaken (fun _ _ _ h => hFc _ h), hS, hsz1⟩
  generalize H1 = H at hC ⊢
  have h12 : (CS.hs σ) ≤ CS.hs p9.2 := Nat.le_trans h8 mo10
  refine W.widen (k := CS.hs p9.2 - (CS.hs σ)) (n := 17 * (CS.hs p9.2 - (CS.hs σ))) (cAcc2 h8 mo10) (cAcc3 h8 mo10) ?_
  obtain rfl : r11 = p9.1 := hw
  obtain ⟨p13, hcp13, hf⟩ := hf_bind hf
  have mo14 : CS.hs p9.2 ≤ CS.hs p13.2 := Mono.go hcp13 (m_X0_add N p9.2 2 p9.1)
  have hr9 : CS.hs p13.2 ≤ CS.hs R.2 := Mono.go hf (mono_some (Nat.le_refl _))
  have hFc := cFree hC hA
  refine va_callv (va_runV (As := [.int 2, .int p9.1]) (rest := []) ⟨hx, hb, hml, hown, hts⟩ (c_X0_add l dC dI Q N p9.2 2 p9.1 p13 hcp13) (cwV 2 hts hX7_define_X0_add_v176 rfl rfl rfl (by decide +kernel) ⟨(show 2 + 1 ≤ (13 + 40 * d) by omega), (show 8 + (3 + 11) + 60 * 2 ≤ 60 * (13 + 40 * d) by omega)⟩) ⟨zPre.blind, va_recv hK hC.1 (ci := 0) (q0 := 2) rfl rfl, cPre_go hZ hK hC⟩ rfl rfl hl.1 rfl (lv_room (Nat.le_of_ble_eq_true rfl)) dX7_define_20 (cAcc h12 mo14 hr9)) hC.2.2.1 (fun q _ h => hFc q h) hFc (fun u9 t9 H1 locs ht hvm hw hB hz1 hk1 hS => ?_)
  obtain ⟨⟨hP, hK1, hD1⟩, hsz1⟩ := hB
  rw [ht] at hP hsz1
  have hC : CP dC dI Q A s.heap p13.2 H1 locs := ⟨hP, hD1.weaken (fun _ _ _ h => hFc _ h), hS, hsz1⟩
  generalize H1 = H at hC ⊢
  have h16 : (CS.hs σ) ≤ CS.hs p13.2 := Nat.le_trans h12 mo14
  refine W.widen (k := CS.hs p13.2 - (CS.hs σ)) (n := 17 * (CS.hs p13.2 - (CS.hs σ))) (cAcc2 h12 mo14) (cAcc3 h12 mo14) ?_
  obtain rfl := Option.some.inj hf
  exact W.vret hx hb hr (fun t ht hW => ⟨⟨(), rfl, trivial, ⟨by rw [ht]; exact hC.1, va_K.moved hW.alike hK, hC.2.1⟩, by rw [ht]; exact hC.2.2.2⟩, hC.2.2.1.F ht⟩) hC.2.2.1.2.2 dX7_define_23
theorem k_X6_loopBehind_fieldLink_RX6_21_SR_Opens_count_I : Cond.fieldLink RX6 21 "StatementRules2$Opens" "count" "I" ∈ wzX6_loopBehind := List.mem_cons_of_mem _ (List.mem_append_left _ (List.mem_of_getElem? (i := 0) rfl))
theorem i_X6_loopBehind_X6 : ∀ w ∈ wsX60, w ∈ wzX6_loopBehind := fun _ h => List.mem_cons_of_mem _ (List.mem_append_right _ (List.mem_append_left _ (h)))
theorem i_X6_loopBehind_X5 : ∀ w ∈ wsX50, w ∈ wzX6_loopBehind := fun _ h => List.mem_cons_of_mem _ (List.mem_append_right _ (List.mem_append_right _ (List.mem_append_left _ (h))))
set_option maxHeartbeats 4000000 in
set_option maxRecDepth 100000 in
theorem j_X6_loopBehind_47 {p : Program} {e : Env} {s : State} {m : MethodId} {args : Array Value} {below : List Frame} {meth : Method} {c : Code} {A : Nat → Prop} (l : Launch) (dC : Nat → ClassId) (dI : Nat → Nat → Nat) (Q : CQ) (N : Nat) (z9h : Nat) (R : Int32 × CS) (hx : p.tables.exec = Jvm.exec) (hb : c.code = cX6_loopBehind) (hr : meth.sig.returnType = (some .int)) (hml : c.maxLocals = 4) (hown : s.vm.findClass RX6 = some m.cls) (hts : ∀ w ∈ wzX6_loopBehind, w.before args s = true) (hlocks : meth.locks = false) (hZ : zAMB s) (hA : ∀ q : Nat, s.heap.size ≤ q → A q) (hK : va_K (dC, dI) vwCl (cT Q) s) : ∀ (σ : CS) (H : Heap) (locs : List Loc) (ls : Array Slot), f_X6_loopBehind_47 N σ = some R → z9h ≤ CS.hs σ → CP dC dI Q A s.heap σ H locs → lv_has ls 4 [] → W p l e ({ frames := 2, cells := CS.hs R.2 - z9h, slots := 17 * (CS.hs R.2 - z9h), locals := 60 * 2 }) s m args below meth c H locs (CS.hs σ - z9h) (17 * (CS.hs σ - z9h)) (MQ below (va_Qi (fun (r : Int32) (_ : Unit) => r = R.1) (fun (_ : Unit) (t : State) => zPost dC dI A (cW Q R.2) (cT Q) t ∧ t.heap.size = CS.hs R.2) A) args s (CS.hs R.2 - z9h) (17 * (CS.hs R.2 - z9h)) A) (F0 m 47 ls []) := by
  intro σ  H locs ls hf h0 hC hl
  unfold f_X6_loopBehind_47 at hf
  refine lv_iconst (v := (-1)) hx hb dX6_loopBehind_47 (by decide) ?_
  obtain rfl := Option.some.inj hf
  exact W.iret (v := (-1)) hx hb hr (fun t ht hW => ⟨⟨(-1), (), rfl, rfl, ⟨by rw [ht]; exact hC.1, va_K.moved hW.alike hK, hC.2.1⟩, by rw [ht]; exact hC.2.2.2⟩, hC.2.2.1.F ht⟩) hC.2.2.1.2.2 dX6_loopBehind_48
set_option maxHeartbeats 4000000 in
set_option maxRecDepth 100000 in
theorem j_X6_loopBehind_32 {p : Program} {e : Env} {s : State} {m : MethodId} {args : Array Value} {below : List Frame} {meth : Method} {c : Code} {A : Nat → Prop} (l : Launch) (dC : Nat → ClassId) (dI : Nat → Nat → Nat) (Q : CQ) (N : Nat) (z9h : Nat) (R : Int32 × CS) (hx : p.tables.exec = Jvm.exec) (hb : c.code = cX6_loopBehind) (hr : meth.sig.returnType = (some .int)) (hml : c.maxLocals = 4) (hown : s.vm.findClass RX6 = some m.cls) (hts : ∀ w ∈ wzX6_loopBehind, w.before args s = true) (hlocks : meth.locks = false) (hZ : zAMB s) (hA : ∀ q : Nat, s.heap.size ≤ q → A q) (hK : va_K (dC, dI) vwCl (cT Q) s) : ∀ (σ : CS) (x2 : Int32) (x3 : Option Nat) (H : Heap) (locs : List Loc) (ls : Array Slot), f_X6_loopBehind_32 N σ x2 x3 = some R → z9h ≤ CS.hs σ → CP dC dI Q A s.heap σ H locs → lv_has ls 4 [(2, .int x2), (3, va_rf x3)] → W p l e ({ frames := 2, cells := CS.hs R.2 - z9h, slots := 17 * (CS.hs R.2 - z9h), locals := 60 * 2 }) s m args below meth c H locs (CS.hs σ - z9h) (17 * (CS.hs σ - z9h)) (MQ below (va_Qi (fun (r : Int32) (_ : Unit) => r = R.1) (fun (_ : Unit) (t : State) => zPost dC dI A (cW Q R.2) (cT Q) t ∧ t.heap.size = CS.hs R.2) A) args s (CS.hs R.2 - z9h) (17 * (CS.hs R.2 - z9h)) A) (F0 m 32 ls []) := by
  intro σ x2 x3 H locs ls hf h0 hC hl
  unfold f_X6_loopBehind_32 at hf
  rcases hf_oc hf with ⟨q8, hf⟩ | ⟨a9, q8, hf⟩
  ·
    subst q8
    have hl : lv_has ls 4 [(2, .int x2), (3, .null)] := hl
    refine lv_aload_nN hx hb dX6_loopBehind_32 rfl (lv_at hl 1 rfl) ?_
    refine lv_ifnullN (tgt := 47) hx hb dX6_loopBehind_33 (by decide) ?_
    exact j_X6_loopBehind_47 l dC dI Q N z9h R hx hb hr hml hown hts hlocks hZ hA hK σ _ _ _ hf h0 hC (lv_sub hl [] rfl)
  ·
    subst q8
    have hl : lv_has ls 4 [(2, .int x2), (3, .ref a9)] := hl
    refine lv_aload_n hx hb dX6_loopBehind_32 rfl (lv_at hl 1 rfl) ?_
    refine lv_ifnull hx hb dX6_loopBehind_33 ?_
    refine lv_aload_n hx hb dX6_loopBehind_36 rfl (lv_at hl 1 rfl) ?_
    obtain ⟨b10, hf⟩ := hf_ite hf
    obtain ⟨k11, hk11⟩ := cPl (Q := Q) (s := σ) (a := a9) b10.1
    rw [cE0 (show CS.k σ a9 = 0 from b10.2)] at hk11
    obtain ⟨p12, hcp12, hf⟩ := hf_bind hf
    have mo13 : CS.hs σ ≤ CS.hs p12.2 := Mono.go hcp12 (m_X5_isLoop N σ a9)
    have hr9 : CS.hs p12.2 ≤ CS.hs R.2 := Mono.go hf (mono_ite (m_X6_loopBehind_47 N p12.2) (mono_some (Nat.le_refl _)))
    have hFc := cFree hC hA
    refine va_calli (va_runV (As := []) (rest := []) ⟨hx, hb, hml, hown, hts⟩ (c_X5_isLoop l dC dI Q N σ a9 p12 hcp12) (cwV 0 hts hX6_loopBehind_X5_isLoop_v92 rfl rfl rfl (by decide +kernel) ⟨(show 1 + 1 ≤ 2 by omega), (show 8 + (1 + 11) + 60 * 1 ≤ 60 * 2 by omega)⟩) ⟨zPre.blind, va_recv hK hC.1 (ci := 4) (q0 := k11) rfl hk11, cPre_go hZ hK hC⟩ rfl rfl hl.1 rfl (lv_room (Nat.le_of_ble_eq_true rfl)) dX6_loopBehind_37 (cAcc h0 mo13 hr9)) hC.2.2.1 (fun q _ h => hFc q h) hFc (fun r14 u9 t9 H1 locs ht hvm hw hB hz1 hk1 hS => ?_)
    obtain ⟨⟨hP, hK1, hD1⟩, hsz1⟩ := hB
    rw [ht] at hP hsz1
    have hC : CP dC dI Q A s.heap p12.2 H1 locs := ⟨hP, hD1.weaken (fun _ _ _ h => hFc _ h), hS, hsz1⟩
    generalize H1 = H at hC ⊢
    have h15 : z9h ≤ CS.hs p12.2 := Nat.le_trans h0 mo13
    refine W.widen (k := CS.hs p12.2 - z9h) (n := 17 * (CS.hs p12.2 - z9h)) (cAcc2 h0 mo13) (cAcc3 h0 mo13) ?_
    obtain rfl : r14 = p12.1 := hw
    refine lv_if_eq (tgt := 47) hx hb dX6_loopBehind_40 (by decide) (fun c16 => ?_) (fun c16 => ?_)
    ·
      replace hf := (if_pos c16).symm.trans hf
      exact j_X6_loopBehind_47 l dC dI Q N z9h R hx hb hr hml hown hts hlocks hZ hA hK p12.2 _ _ _ hf h15 hC (lv_sub hl [] rfl)
    ·
      replace hf := (if_neg c16).symm.trans hf
      refine lv_iload_n hx hb dX6_loopBehind_43 rfl (lv_at hl 0 rfl) ?_
      refine lv_goto (tgt := 48) hx hb dX6_loopBehind_44 (by decide) ?_
      obtain rfl := Option.some.inj hf
      exact W.iret (v := x2) hx hb hr (fun t ht hW => ⟨⟨x2, (), rfl, rfl, ⟨by rw [ht]; exact hC.1, va_K.moved hW.alike hK, hC.2.1⟩, by rw [ht]; exact hC.2.2.2⟩, hC.2.2.1.F ht⟩) hC.2.2.1.2.2 dX6_loopBehind_48
set_option maxHeartbeats 4000000 in
set_option maxRecDepth 100000 in
theorem j_X6_loopBehind_4 {p : Program} {e : Env} {s : State} {m : MethodId} {args : Array Value} {below : List Frame} {meth : Method} {c : Code} {A : Nat → Prop} (l : Launch) (dC : Nat → ClassId) (dI : Nat → Nat → Nat) (Q : CQ) (N : Nat) (z9h : Nat) (R : Int32 × CS) (hx : p.tables.exec = Jvm.exec) (hb : c.code = cX6_loopBehind) (hr : meth.sig.returnType = (some .int)) (hml : c.maxLocals = 4) (hown : s.vm.findClass RX6 = some m.cls) (hts : ∀ w ∈ wzX6_loopBehind, w.before args s = true) (hlocks : meth.locks = false) (hZ : zAMB s) (hA : ∀ q : Nat, s.heap.size ≤ q → A q) (hK : va_K (dC, dI) vwCl (cT Q) s) : ∀ (n9 : Nat), ∀ (σ : CS) (x2 : Int32) (H : Heap) (locs : List Loc) (ls : Array Slot), f_X6_loopBehind_4 N n9 σ x2 = some R → z9h ≤ CS.hs σ → CP dC dI Q A s.heap σ H locs → lv_has ls 4 [(0, .ref (Q.o 6)), (2, .int x2)] → W p l e ({ frames := 2, cells := CS.hs R.2 - z9h, slots := 17 * (CS.hs R.2 - z9h), locals := 60 * 2 }) s m args below meth c H locs (CS.hs σ - z9h) (17 * (CS.hs σ - z9h)) (MQ below (va_Qi (fun (r : Int32) (_ : Unit) => r = R.1) (fun (_ : Unit) (t : State) => zPost dC dI A (cW Q R.2) (cT Q) t ∧ t.heap.size = CS.hs R.2) A) args s (CS.hs R.2 - z9h) (17 * (CS.hs R.2 - z9h)) A) (F0 m 4 ls []) := by
  intro n9
  induction n9 with
  | zero => intro σ x2 H locs ls hf; exact absurd hf (by intro q9; cases q9)
  | succ n9 ih =>
    intro σ x2 H locs ls hf h0 hC hl
    replace hf : b_X6_loopBehind_4 N (f_X6_loopBehind_4 N n9) σ x2 = some R := hf
    unfold b_X6_loopBehind_4 at hf
    have hMK := fun (σ : CS) (x2 : Int32) => m_X6_loopBehind_4 N n9 σ x2
    refine lv_iload_n hx hb dX6_loopBehind_4 rfl (lv_at hl 1 rfl) ?_
    refine lv_aload_n hx hb dX6_loopBehind_5 rfl (lv_at hl 0 rfl) ?_
    refine cG_53 (v := (σ.i 53)) hx hb hts i_X6_loopBehind_X6 hown hK hC (hts (.fieldLink RX6 21 "StatementRules2$Opens" "count" "I") k_X6_loopBehind_fieldLink_RX6_21_SR_Opens_count_I) (fun _ q9 => q9) dX6_loopBehind_6 rfl ?_
    refine lv_icmp_ge (tgt := 55) hx hb dX6_loopBehind_9 (by decide) (fun c1 => ?_) (fun c1 => ?_)
    ·
      replace hf := (if_pos c1).symm.trans hf
      refine lv_iconst (v := (-1)) hx hb dX6_loopBehind_55 (by decide) ?_
      obtain rfl := Option.some.inj hf
      exact W.iret (v := (-1)) hx hb hr (fun t ht hW => ⟨⟨(-1), (), rfl, rfl, ⟨by rw [ht]; exact hC.1, va_K.moved hW.alike hK, hC.2.1⟩, by rw [ht]; exact hC.2.2.2⟩, hC.2.2.1.F ht⟩) hC.2.2.1.2.2 dX6_loopBehind_56
    ·
      replace hf := (if_neg c1).symm.trans hf
      refine lv_aload_n hx hb dX6_loopBehind_12 rfl (lv_at hl 0 rfl) ?_
      refine lv_iload_n hx hb dX6_loopBehind_13 rfl (lv_at hl 1 rfl) ?_
      obtain ⟨p2, hcp2, hf⟩ := hf_bind hf
      have mo3 : CS.hs σ ≤ CS.hs p2.2 := Mono.go hcp2 (m_X6_row N σ x2)
      have hr9 : CS.hs p2.2 ≤ CS.hs R.2 := Mono.go hf (mono_oc (m_X6_loopBehind_32 N p2.2 x2 none) (fun a7 => (mono_ite (mono_ite (hMK p2.2 (x2 + 1)) (m_X6_loopBehind_32 N p2.2 x2 (some a7))) mono_none)))
      have hFc := cFree hC hA
      refine va_callq (va_runV (As := [.int x2]) (rest := []) ⟨hx, hb, hml, hown, hts⟩ (c_X6_row l dC dI Q N σ x2 p2 hcp2) (cwV 1 hts hX6_loopBehind_X6_row_v88 rfl rfl rfl (by decide +kernel) ⟨(show 1 + 1 ≤ 2 by omega), (show 8 + (2 + 11) + 60 * 1 ≤ 60 * 2 by omega)⟩) ⟨zPre.blind, va_recv hK hC.1 (ci := 5) (q0 := 6) rfl rfl, cPre_go hZ hK hC⟩ rfl rfl hl.1 rfl (lv_room (Nat.le_of_ble_eq_true rfl)) dX6_loopBehind_14 (cAcc h0 mo3 hr9)) hC.2.2.1 (fun q _ h => hFc q h) hFc (fun r4 u9 t9 H1 locs ht hvm hw hB hz1 hk1 hS => ?_)
      obtain ⟨⟨hP, hK1, hD1⟩, hsz1⟩ := hB
      rw [ht] at hP hsz1
      have hC : CP dC dI Q A s.heap p2.2 H1 locs := ⟨hP, hD1.weaken (fun _ _ _ h => hFc _ h), hS, hsz1⟩
      generalize H1 = H at hC ⊢
      have h5 : z9h ≤ CS.hs p2.2 := Nat.le_trans h0 mo3
      refine W.widen (k := CS.hs p2.2 - z9h) (n := 17 * (CS.hs p2.2 - z9h)) (cAcc2 h0 mo3) (cAcc3 h0 mo3) ?_
      obtain rfl : r4 = p2.1 := hw
      rcases hf_oc hf with ⟨q6, hf⟩ | ⟨a7, q6, hf⟩
      ·
        refine W.eq (congrArg (fun v9 => F0 m 17 ls (va_rf v9 :: [])) q6) ?_
        refine W.eq (g2 := F0 m 17 ls (.null :: [])) rfl ?_
        refine lv_astore_nN (lv' := [(3, .null), (0, .ref (Q.o 6)), (2, .int x2)]) hx hb dX6_loopBehind_17 rfl hl (by decide) rfl (fun ls hl => ?_)
        refine lv_aload_nN hx hb dX6_loopBehind_18 rfl (lv_at hl 0 rfl) ?_
        refine lv_ifnullN (tgt := 32) hx hb dX6_loopBehind_19 (by decide) ?_
        exact j_X6_loopBehind_32 l dC dI Q N z9h R hx hb hr hml hown hts hlocks hZ hA hK p2.2 x2 none _ _ _ hf h5 hC (lv_sub hl [2, 0] rfl)
      ·
        refine W.eq (congrArg (fun v9 => F0 m 17 ls (va_rf v9 :: [])) q6) ?_
        refine W.eq (g2 := F0 m 17 ls (.ref a7 :: [])) rfl ?_
        refine lv_astore_n (lv' := [(3, .ref a7), (0, .ref (Q.o 6)), (2, .int x2)]) hx hb dX6_loopBehind_17 rfl hl (by decide) rfl (fun ls hl => ?_)
        refine lv_aload_n hx hb dX6_loopBehind_18 rfl (lv_at hl 0 rfl) ?_
        refine lv_ifnull hx hb dX6_loopBehind_19 ?_
        refine lv_aload_n hx hb dX6_loopBehind_22 rfl (lv_at hl 0 rfl) ?_
        obtain ⟨b17, hf⟩ := hf_ite hf
        refine pGN_X5_0 (v := (CS.o p2.2 a7 0)) hx hb hts i_X6_loopBehind_X5 hown hK hC (va_Nw.use rfl (hZ.1 (.fieldLinkNest RX6 41 "StatementRules2$Open" "sort" "I" "StatementRules2") (by decide +kernel))) (fun _ q9 => q9) dX6_loopBehind_23 b17 rfl ?_
        refine lv_sipush (v := 303) hx hb dX6_loopBehind_26 (by decide) ?_
        refine lv_icmp_eq (tgt := 49) hx hb dX6_loopBehind_29 (by decide) (fun c18 => ?_) (fun c18 => ?_)
        ·
          replace hf := (if_pos c18).symm.trans hf
          refine lv_iinc (v := (x2 + 1)) (lv' := [(2, .int (x2 + 1)), (3, .ref a7), (0, .ref (Q.o 6))]) hx hb dX6_loopBehind_49 hl (k := 2) rfl rfl (by decide) rfl (fun ls hl => ?_)
          refine lv_goto (tgt := 4) hx hb dX6_loopBehind_52 (by decide) ?_
          exact ih p2.2 (x2 + 1) _ _ _ hf h5 hC (lv_sub hl [2, 0] rfl)
        ·
          replace hf := (if_neg c18).symm.trans hf
          exact j_X6_loopBehind_32 l dC dI Q N z9h R hx hb hr hml hown hts hlocks hZ hA hK p2.2 x2 (some a7) _ _ _ hf h5 hC (lv_sub hl [2, 0] rfl)
set_option maxHeartbeats 4000000 in
set_option maxRecDepth 100000 in
theorem c_X6_loopBehind (l : Launch) (dC : Nat → ClassId) (dI : Nat → Nat → Nat) (Q : CQ) (N : Nat) (σ : CS) (x1 : Int32) (R : Int32 × CS) (hf : f_X6_loopBehind N σ x1 = some R) : Met l yX6_loopBehind wzX6_loopBehind ({ frames := 2, cells := CS.hs R.2 - CS.hs σ, slots := 17 * (CS.hs R.2 - CS.hs σ), locals := 60 * 2 }) (va_Pc [.ref (Q.o 6), .int x1] (zPre dC dI (CS.hs σ) (cW Q σ) (cT Q))) (va_Qi (fun (r : Int32) (_ : Unit) => r = R.1) (fun (_ : Unit) (t : State) => zPost dC dI (va_A (cW Q σ) (CS.hs σ)) (cW Q R.2) (cT Q) t ∧ t.heap.size = CS.hs R.2) (va_A (cW Q σ) (CS.hs σ))) (CS.hs R.2 - CS.hs σ) (17 * (CS.hs R.2 - CS.hs σ)) (va_A (cW Q σ) (CS.hs σ)) := by
  refine Met.ofW (cc := cX6_loopBehind) (maxL := 4) (ret := (some .int)) (by decide) rfl ?_
  intro p e s m args below meth c s₁ B hml hv
  obtain ⟨rfl, hsz, hZ, hP, hK, hD0⟩ := hv
  have hx := B.exec
  have hb := B.bytes
  have hr := B.returns
  have hts := atoms_spec (ws := wzX6_loopBehind) B.pre
  have hown : s.vm.findClass RX6 = some m.cls := findClass_of_methodNamed B.named
  have hlocks := B.notSynchronized
  have hD := hD0.self (sz := CS.hs σ)
  generalize hAe : va_A (cW Q σ) (CS.hs σ) = A at hD ⊢
  have hA : ∀ q : Nat, s.heap.size ≤ q → A q := fun q h => by rw [← hAe]; exact Or.inr (hsz ▸ h)
  have hC : CP dC dI Q A s.heap σ s.heap [] := ⟨hP, hD, va_S.rf, hsz⟩
  have h0 : CS.hs σ ≤ CS.hs σ := Nat.le_refl _
  have hl := lv_entry ([.ref (Q.o 6), .int x1]) (n := 4) (Nat.le_of_ble_eq_true rfl)
  rw [lg_entry_eq]
  generalize (lg_sl ([.ref (Q.o 6), .int x1]) ++ List.replicate (4 - (lg_sl ([.ref (Q.o 6), .int x1])).length) Slot.unset).toArray = ls at hl ⊢
  have hl : lv_has ls 4 [(0, .ref (Q.o 6)), (1, .int x1)] := hl
  unfold f_X6_loopBehind at hf
  refine W.widen (k := CS.hs σ - CS.hs σ) (n := 17 * (CS.hs σ - CS.hs σ)) (Nat.zero_le _) (Nat.zero_le _) ?_
  refine lv_iload_n hx hb dX6_loopBehind_0 rfl (lv_at hl 1 rfl) ?_
  refine lv_iconst (v := 1) hx hb dX6_loopBehind_1 (by decide) ?_
  refine lv_iadd hx hb dX6_loopBehind_2 ?_
  refine lv_istore_n (lv' := [(2, .int (x1 + 1)), (0, .ref (Q.o 6)), (1, .int x1)]) hx hb dX6_loopBehind_3 rfl hl (by decide) rfl (fun ls hl => ?_)
  exact j_X6_loopBehind_4 l dC dI Q N (CS.hs σ) R hx hb hr hml hown hts hlocks hZ hA hK N σ (x1 + 1) _ _ _ hf h0 hC (lv_sub hl [1, 0] rfl)
theorem k_X7_labelTarget_fieldLink_RX7_14_SR_Statements_opens_LSR_Opens : Cond.fieldLink RX7 14 "StatementRules2$Statements" "opens" "LStatementRules2$Opens;" ∈ wzX7_labelTarget := List.mem_cons_of_mem _ (List.mem_append_left _ (List.mem_of_getElem? (i := 0) rfl))
theorem i_X7_labelTarget_X7 : ∀ w ∈ wsX70, w ∈ wzX7_labelTarget := fun _ h => List.mem_cons_of_mem _ (List.mem_append_right _ (List.mem_append_left _ (h)))
theorem k_X7_labelTarget_fieldLink_RX7_71_SR_Statements_tokens_LSR_Tokens : Cond.fieldLink RX7 71 "StatementRules2$Statements" "tokens" "LStatementRules2$Tokens;" ∈ wzX7_labelTarget := List.mem_cons_of_mem _ (List.mem_append_left _ (List.mem_of_getElem? (i := 1) rfl))
theorem k_X7_labelTarget_sameField_SR_Statements_SR_Formulas_tokens_LSR_Tokens : Cond.sameField "StatementRules2$Statements" "StatementRules2$Formulas" "tokens" "LStatementRules2$Tokens;" ∈ wzX7_labelTarget := List.mem_cons_of_mem _ (List.mem_append_left _ (List.mem_of_getElem? (i := 2) rfl))
theorem i_X7_labelTarget_X9 : ∀ w ∈ wsX90, w ∈ wzX7_labelTarget := fun _ h => List.mem_cons_of_mem _ (List.mem_append_right _ (List.mem_append_right _ (List.mem_append_left _ (h))))
set_option maxHeartbeats 4000000 in
set_option maxRecDepth 100000 in
theorem j_X7_labelTarget_63 {p : Program} {e : Env} {s : State} {m : MethodId} {args : Array Value} {below : List Frame} {meth : Method} {c : Code} {A : Nat → Prop} (l : Launch) (dC : Nat → ClassId) (dI : Nat → Nat → Nat) (Q : CQ) (N : Nat) (z9h : Nat) (R : Int32 × CS) (hx : p.tables.exec = Jvm.exec) (hb : c.code = cX7_labelTarget) (hr : meth.sig.returnType = (some .int)) (hml : c.maxLocals = 3) (hown : s.vm.findClass RX7 = some m.cls) (hts : ∀ w ∈ wzX7_labelTarget, w.before args s = true) (hlocks : meth.locks = false) (hZ : zAMB s) (hA : ∀ q : Nat, s.heap.size ≤ q → A q) (hK : va_K (dC, dI) vwCl (cT Q) s) : ∀ (σ : CS) (x2 : Int32) (H : Heap) (locs : List Loc) (ls : Array Slot), f_X7_labelTarget_63 N σ x2 = some R → z9h ≤ CS.hs σ → CP dC dI Q A s.heap σ H locs → lv_has ls 3 [(0, .ref (Q.o 3)), (2, .int x2)] → W p l e ({ frames := 4, cells := CS.hs R.2 - z9h, slots := 17 * (CS.hs R.2 - z9h), locals := 60 * 4 }) s m args below meth c H locs (CS.hs σ - z9h) (17 * (CS.hs σ - z9h)) (MQ below (va_Qi (fun (r : Int32) (_ : Unit) => r = R.1) (fun (_ : Unit) (t : State) => zPost dC dI A (cW Q R.2) (cT Q) t ∧ t.heap.size = CS.hs R.2) A) args s (CS.hs R.2 - z9h) (17 * (CS.hs R.2 - z9h)) A) (F0 m 63 ls []) := by
  intro σ x2 H locs ls hf h0 hC hl
  unfold f_X7_labelTarget_63 at hf
  refine lv_aload_n hx hb dX7_labelTarget_63 rfl (lv_at hl 0 rfl) ?_
  refine cG_28 hx hb hts i_X7_labelTarget_X7 hown hK hC (hts (.fieldLink RX7 71 "StatementRules2$Statements" "tokens" "LStatementRules2$Tokens;") k_X7_labelTarget_fieldLink_RX7_71_SR_Statements_tokens_LSR_Tokens) (fun x9 q9 => u_same (hts (.sameField "StatementRules2$Statements" "StatementRules2$Formulas" "tokens" "LStatementRules2$Tokens;") k_X7_labelTarget_sameField_SR_Statements_SR_Formulas_tokens_LSR_Tokens) x9 q9) dX7_labelTarget_64 ?_
  obtain ⟨p7, hcp7, hf⟩ := hf_bind hf
  have mo8 : CS.hs σ ≤ CS.hs p7.2 := Mono.go hcp7 (m_X9_advance N σ)
  have hr9 : CS.hs p7.2 ≤ CS.hs R.2 := Mono.go hf (mono_some (Nat.le_refl _))
  have hFc := cFree hC hA
  refine va_callv (va_runV (As := []) (rest := []) ⟨hx, hb, hml, hown, hts⟩ (c_X9_advance l dC dI Q N σ p7 hcp7) (cwV 0 hts hX7_labelTarget_X9_advance_v146 rfl rfl rfl (by decide +kernel) ⟨(show 3 + 1 ≤ 4 by omega), (show 8 + (2 + 11) + 60 * 3 ≤ 60 * 4 by omega)⟩) ⟨zPre.blind, va_recv hK hC.1 (ci := 8) (q0 := 4) rfl rfl, cPre_go hZ hK hC⟩ rfl rfl hl.1 rfl (lv_room (Nat.le_of_ble_eq_true rfl)) dX7_labelTarget_67 (cAcc h0 mo8 hr9)) hC.2.2.1 (fun q _ h => hFc q h) hFc (fun u9 t9 H1 locs ht hvm hw hB hz1 hk1 hS => ?_)
  obtain ⟨⟨hP, hK1, hD1⟩, hsz1⟩ := hB
  rw [ht] at hP hsz1
  have hC : CP dC dI Q A s.heap p7.2 H1 locs := ⟨hP, hD1.weaken (fun _ _ _ h => hFc _ h), hS, hsz1⟩
  generalize H1 = H at hC ⊢
  have h10 : z9h ≤ CS.hs p7.2 := Nat.le_trans h0 mo8
  refine W.widen (k := CS.hs p7.2 - z9h) (n := 17 * (CS.hs p7.2 - z9h)) (cAcc2 h0 mo8) (cAcc3 h0 mo8) ?_
  refine lv_iload_n hx hb dX7_labelTarget_70 rfl (lv_at hl 1 rfl) ?_
  obtain rfl := Option.some.inj hf
  exact W.iret (v := x2) hx hb hr (fun t ht hW => ⟨⟨x2, (), rfl, rfl, ⟨by rw [ht]; exact hC.1, va_K.moved hW.alike hK, hC.2.1⟩, by rw [ht]; exact hC.2.2.2⟩, hC.2.2.1.F ht⟩) hC.2.2.1.2.2 dX7_labelTarget_71
set_option maxHeartbeats 4000000 in
set_option maxRecDepth 100000 in
theorem c_X7_labelTarget (l : Launch) (dC : Nat → ClassId) (dI : Nat → Nat → Nat) (Q : CQ) (N : Nat) (σ : CS) (x1 : Int32) (R : Int32 × CS) (hf : f_X7_labelTarget N σ x1 = some R) : Met l yX7_labelTarget wzX7_labelTarget ({ frames := 4, cells := CS.hs R.2 - CS.hs σ, slots := 17 * (CS.hs R.2 - CS.hs σ), locals := 60 * 4 }) (va_Pc [.ref (Q.o 3), .int x1] (zPre dC dI (CS.hs σ) (cW Q σ) (cT Q))) (va_Qi (fun (r : Int32) (_ : Unit) => r = R.1) (fun (_ : Unit) (t : State) => zPost dC dI (va_A (cW Q σ) (CS.hs σ)) (cW Q R.2) (cT Q) t ∧ t.heap.size = CS.hs R.2) (va_A (cW Q σ) (CS.hs σ))) (CS.hs R.2 - CS.hs σ) (17 * (CS.hs R.2 - CS.hs σ)) (va_A (cW Q σ) (CS.hs σ)) := by
  refine Met.ofW (cc := cX7_labelTarget) (maxL := 3) (ret := (some .int)) (by decide) rfl ?_
  intro p e s m args below meth c s₁ B hml hv
  obtain ⟨rfl, hsz, hZ, hP, hK, hD0⟩ := hv
  have hx := B.exec
  have hb := B.bytes
  have hr := B.returns
  have hts := atoms_spec (ws := wzX7_labelTarget) B.pre
  have hown : s.vm.findClass RX7 = some m.cls := findClass_of_methodNamed B.named
  have hlocks := B.notSynchronized
  have hD := hD0.self (sz := CS.hs σ)
  generalize hAe : va_A (cW Q σ) (CS.hs σ) = A at hD ⊢
  have hA : ∀ q : Nat, s.heap.size ≤ q → A q := fun q h => by rw [← hAe]; exact Or.inr (hsz ▸ h)
  have hC : CP dC dI Q A s.heap σ s.heap [] := ⟨hP, hD, va_S.rf, hsz⟩
  have h0 : CS.hs σ ≤ CS.hs σ := Nat.le_refl _
  have hl := lv_entry ([.ref (Q.o 3), .int x1]) (n := 3) (Nat.le_of_ble_eq_true rfl)
  rw [lg_entry_eq]
  generalize (lg_sl ([.ref (Q.o 3), .int x1]) ++ List.replicate (3 - (lg_sl ([.ref (Q.o 3), .int x1])).length) Slot.unset).toArray = ls at hl ⊢
  have hl : lv_has ls 3 [(0, .ref (Q.o 3)), (1, .int x1)] := hl
  unfold f_X7_labelTarget at hf
  refine W.widen (k := CS.hs σ - CS.hs σ) (n := 17 * (CS.hs σ - CS.hs σ)) (Nat.zero_le _) (Nat.zero_le _) ?_
  refine lv_aload_n hx hb dX7_labelTarget_0 rfl (lv_at hl 0 rfl) ?_
  refine cG_35 hx hb hts i_X7_labelTarget_X7 hown hK hC (hts (.fieldLink RX7 14 "StatementRules2$Statements" "opens" "LStatementRules2$Opens;") k_X7_labelTarget_fieldLink_RX7_14_SR_Statements_opens_LSR_Opens) (fun _ q9 => q9) dX7_labelTarget_1 ?_
  refine lv_aload_n hx hb dX7_labelTarget_4 rfl (lv_at hl 0 rfl) ?_
  refine cG_28 hx hb hts i_X7_labelTarget_X7 hown hK hC (hts (.fieldLink RX7 71 "StatementRules2$Statements" "tokens" "LStatementRules2$Tokens;") k_X7_labelTarget_fieldLink_RX7_71_SR_Statements_tokens_LSR_Tokens) (fun x9 q9 => u_same (hts (.sameField "StatementRules2$Statements" "StatementRules2$Formulas" "tokens" "LStatementRules2$Tokens;") k_X7_labelTarget_sameField_SR_Statements_SR_Formulas_tokens_LSR_Tokens) x9 q9) dX7_labelTarget_5 ?_
  refine cGN_46 (v := σ.l) hx hb hts i_X7_labelTarget_X9 hown hK hC (va_Nw.use rfl (hZ.1 (.fieldLinkNest RX7 181 "StatementRules2$Tokens" "name" "J" "StatementRules2") (by decide +kernel))) (fun _ q9 => q9) dX7_labelTarget_8 rfl ?_
  obtain ⟨p1, hcp1, hf⟩ := hf_bind hf
  have mo2 : CS.hs σ ≤ CS.hs p1.2 := Mono.go hcp1 (m_X6_labelled N σ σ.l)
  have hr9 : CS.hs p1.2 ≤ CS.hs R.2 := Mono.go hf (mono_ite (mono_ite (m_X7_labelTarget_63 N p1.2 p1.1) (mono_bind (m_X6_loopBehind N p1.2 p1.1) (fun p11 => (mono_ite (m_X7_labelTarget_63 N p11.2 p11.1) (mono_bind (m_X1_fail N p11.2 5 (p11.2.i 44)) (fun p16 => (m_X7_labelTarget_63 N p16.2 p11.1))))))) (mono_bind (m_X1_fail N p1.2 3 (p1.2.i 44)) (fun p20 => (m_X7_labelTarget_63 N p20.2 p1.1))))
  have hFc := cFree hC hA
  refine va_calli (va_runV (As := [.long σ.l]) (rest := []) ⟨hx, hb, hml, hown, hts⟩ (c_X6_labelled l dC dI Q N σ σ.l p1 hcp1) (cwV 1 hts hX7_labelTarget_X6_labelled_v189 rfl rfl rfl (by decide +kernel) ⟨(show 2 + 1 ≤ 4 by omega), (show 8 + (5 + 11) + 60 * 2 ≤ 60 * 4 by omega)⟩) ⟨zPre.blind, va_recv hK hC.1 (ci := 5) (q0 := 6) rfl rfl, cPre_go hZ hK hC⟩ rfl rfl hl.1 rfl (lv_room (Nat.le_of_ble_eq_true rfl)) dX7_labelTarget_11 (cAcc h0 mo2 hr9)) hC.2.2.1 (fun q _ h => hFc q h) hFc (fun r3 u9 t9 H1 locs ht hvm hw hB hz1 hk1 hS => ?_)
  obtain ⟨⟨hP, hK1, hD1⟩, hsz1⟩ := hB
  rw [ht] at hP hsz1
  have hC : CP dC dI Q A s.heap p1.2 H1 locs := ⟨hP, hD1.weaken (fun _ _ _ h => hFc _ h), hS, hsz1⟩
  generalize H1 = H at hC ⊢
  have h4 : (CS.hs σ) ≤ CS.hs p1.2 := Nat.le_trans h0 mo2
  refine W.widen (k := CS.hs p1.2 - (CS.hs σ)) (n := 17 * (CS.hs p1.2 - (CS.hs σ))) (cAcc2 h0 mo2) (cAcc3 h0 mo2) ?_
  obtain rfl : r3 = p1.1 := hw
  refine lv_istore_n (lv' := [(2, .int p1.1), (0, .ref (Q.o 3)), (1, .int x1)]) hx hb dX7_labelTarget_14 rfl hl (by decide) rfl (fun ls hl => ?_)
  refine lv_iload_n hx hb dX7_labelTarget_15 rfl (lv_at hl 0 rfl) ?_
  refine lv_if_ge (tgt := 34) hx hb dX7_labelTarget_16 (by decide) (fun c5 => ?_) (fun c5 => ?_)
  ·
    replace hf := (if_pos c5).symm.trans hf
    refine lv_iload_n hx hb dX7_labelTarget_34 rfl (lv_at hl 2 rfl) ?_
    refine lv_if_eq (tgt := 63) hx hb dX7_labelTarget_35 (by decide) (fun c6 => ?_) (fun c6 => ?_)
    ·
      replace hf := (if_pos c6).symm.trans hf
      exact j_X7_labelTarget_63 l dC dI Q N (CS.hs σ) R hx hb hr hml hown hts hlocks hZ hA hK p1.2 p1.1 _ _ _ hf h4 hC (lv_sub hl [1, 0] rfl)
    ·
      replace hf := (if_neg c6).symm.trans hf
      refine lv_aload_n hx hb dX7_labelTarget_38 rfl (lv_at hl 1 rfl) ?_
      refine cG_35 hx hb hts i_X7_labelTarget_X7 hown hK hC (hts (.fieldLink RX7 14 "StatementRules2$Statements" "opens" "LStatementRules2$Opens;") k_X7_labelTarget_fieldLink_RX7_14_SR_Statements_opens_LSR_Opens) (fun _ q9 => q9) dX7_labelTarget_39 ?_
      refine lv_iload_n hx hb dX7_labelTarget_42 rfl (lv_at hl 0 rfl) ?_
      obtain ⟨p11, hcp11, hf⟩ := hf_bind hf
      have mo12 : CS.hs p1.2 ≤ CS.hs p11.2 := Mono.go hcp11 (m_X6_loopBehind N p1.2 p1.1)
      have hr9 : CS.hs p11.2 ≤ CS.hs R.2 := Mono.go hf (mono_ite (m_X7_labelTarget_63 N p11.2 p11.1) (mono_bind (m_X1_fail N p11.2 5 (p11.2.i 44)) (fun p16 => (m_X7_labelTarget_63 N p16.2 p11.1))))
      have hFc := cFree hC hA
      refine va_calli (va_runV (As := [.int p1.1]) (rest := []) ⟨hx, hb, hml, hown, hts⟩ (c_X6_loopBehind l dC dI Q N p1.2 p1.1 p11 hcp11) (cwV 1 hts hX7_labelTarget_X6_loopBehind_v291 rfl rfl rfl (by decide +kernel) ⟨(show 2 + 1 ≤ 4 by omega), (show 8 + (4 + 11) + 60 * 2 ≤ 60 * 4 by omega)⟩) ⟨zPre.blind, va_recv hK hC.1 (ci := 5) (q0 := 6) rfl rfl, cPre_go hZ hK hC⟩ rfl rfl hl.1 rfl (lv_room (Nat.le_of_ble_eq_true rfl)) dX7_labelTarget_43 (cAcc h4 mo12 hr9)) hC.2.2.1 (fun q _ h => hFc q h) hFc (fun r13 u9 t9 H1 locs ht hvm hw hB hz1 hk1 hS => ?_)
      obtain ⟨⟨hP, hK1, hD1⟩, hsz1⟩ := hB
      rw [ht] at hP hsz1
      have hC : CP dC dI Q A s.heap p11.2 H1 locs := ⟨hP, hD1.weaken (fun _ _ _ h => hFc _ h), hS, hsz1⟩
      generalize H1 = H at hC ⊢
      have h14 : (CS.hs σ) ≤ CS.hs p11.2 := Nat.le_trans h4 mo12
      refine W.widen (k := CS.hs p11.2 - (CS.hs σ)) (n := 17 * (CS.hs p11.2 - (CS.hs σ))) (cAcc2 h4 mo12) (cAcc3 h4 mo12) ?_
      obtain rfl : r13 = p11.1 := hw
      refine lv_istore_n (lv' := [(2, .int p11.1), (0, .ref (Q.o 3)), (1, .int x1)]) hx hb dX7_labelTarget_46 rfl hl (by decide) rfl (fun ls hl => ?_)
      refine lv_iload_n hx hb dX7_labelTarget_47 rfl (lv_at hl 0 rfl) ?_
      refine lv_if_ge (tgt := 63) hx hb dX7_labelTarget_48 (by decide) (fun c15 => ?_) (fun c15 => ?_)
      ·
        replace hf := (if_pos c15).symm.trans hf
        exact j_X7_labelTarget_63 l dC dI Q N (CS.hs σ) R hx hb hr hml hown hts hlocks hZ hA hK p11.2 p11.1 _ _ _ hf h14 hC (lv_sub hl [1, 0] rfl)
      ·
        replace hf := (if_neg c15).symm.trans hf
        refine lv_aload_n hx hb dX7_labelTarget_51 rfl (lv_at hl 1 rfl) ?_
        refine lv_iconst (v := 5) hx hb dX7_labelTarget_52 (by decide) ?_
        refine lv_aload_n hx hb dX7_labelTarget_53 rfl (lv_at hl 1 rfl) ?_
        refine cG_28 hx hb hts i_X7_labelTarget_X7 hown hK hC (hts (.fieldLink RX7 71 "StatementRules2$Statements" "tokens" "LStatementRules2$Tokens;") k_X7_labelTarget_fieldLink_RX7_71_SR_Statements_tokens_LSR_Tokens) (fun x9 q9 => u_same (hts (.sameField "StatementRules2$Statements" "StatementRules2$Formulas" "tokens" "LStatementRules2$Tokens;") k_X7_labelTarget_sameField_SR_Statements_SR_Formulas_tokens_LSR_Tokens) x9 q9) dX7_labelTarget_54 ?_
        refine cGN_44 (v := (p11.2.i 44)) hx hb hts i_X7_labelTarget_X9 hown hK hC (va_Nw.use rfl (hZ.1 (.fieldLinkNest RX7 143 "StatementRules2$Tokens" "place" "I" "StatementRules2") (by decide +kernel))) (fun _ q9 => q9) dX7_labelTarget_57 rfl ?_
        obtain ⟨p16, hcp16, hf⟩ := hf_bind hf
        have mo17 : CS.hs p11.2 ≤ CS.hs p16.2 := Mono.go hcp16 (m_X1_fail N p11.2 5 (p11.2.i 44))
        have hr9 : CS.hs p16.2 ≤ CS.hs R.2 := Mono.go hf (m_X7_labelTarget_63 N p16.2 p11.1)
        have hFc := cFree hC hA
        refine va_callv (va_runU (As := [.int 5, .int (p11.2.i 44)]) (rest := []) ⟨hx, hb, hml, hown, hts⟩ (c_X1_fail l dC dI Q N p11.2 5 (p11.2.i 44) p16 hcp16) (va_cwU 2 hts hX7_labelTarget_X1_fail_u88 rfl rfl rfl rfl (by decide +kernel) ⟨(show 2 + 1 ≤ 4 by omega), (show 8 + (3 + 11) + 60 * 2 ≤ 60 * 4 by omega)⟩) ⟨zPre.blind, va_recv hK hC.1 (ci := 6) (q0 := 3) rfl rfl, cPre_go hZ hK hC⟩ rfl rfl hl.1 rfl (lv_room (Nat.le_of_ble_eq_true rfl)) dX7_labelTarget_60 (cAcc h14 mo17 hr9)) hC.2.2.1 (fun q _ h => hFc q h) hFc (fun u9 t9 H1 locs ht hvm hw hB hz1 hk1 hS => ?_)
        obtain ⟨⟨hP, hK1, hD1⟩, hsz1⟩ := hB
        rw [ht] at hP hsz1
        have hC : CP dC dI Q A s.heap p16.2 H1 locs := ⟨hP, hD1.weaken (fun _ _ _ h => hFc _ h), hS, hsz1⟩
        generalize H1 = H at hC ⊢
        have h19 : (CS.hs σ) ≤ CS.hs p16.2 := Nat.le_trans h14 mo17
        refine W.widen (k := CS.hs p16.2 - (CS.hs σ)) (n := 17 * (CS.hs p16.2 - (CS.hs σ))) (cAcc2 h14 mo17) (cAcc3 h14 mo17) ?_
        exact j_X7_labelTarget_63 l dC dI Q N (CS.hs σ) R hx hb hr hml hown hts hlocks hZ hA hK p16.2 p11.1 _ _ _ hf h19 hC (lv_sub hl [1, 0] rfl)
  ·
    replace hf := (if_neg c5).symm.trans hf
    refine lv_aload_n hx hb dX7_labelTarget_19 rfl (lv_at hl 1 rfl) ?_
    refine lv_iconst (v := 3) hx hb dX7_labelTarget_20 (by decide) ?_
    refine lv_aload_n hx hb dX7_labelTarget_21 rfl (lv_at hl 1 rfl) ?_
    refine cG_28 hx hb hts i_X7_labelTarget_X7 hown hK hC (hts (.fieldLink RX7 71 "StatementRules2$Statements" "tokens" "LStatementRules2$Tokens;") k_X7_labelTarget_fieldLink_RX7_71_SR_Statements_tokens_LSR_Tokens) (fun x9 q9 => u_same (hts (.sameField "StatementRules2$Statements" "StatementRules2$Formulas" "tokens" "LStatementRules2$Tokens;") k_X7_labelTarget_sameField_SR_Statements_SR_Formulas_tokens_LSR_Tokens) x9 q9) dX7_labelTarget_22 ?_
    refine cGN_44 (v := (p1.2.i 44)) hx hb hts i_X7_labelTarget_X9 hown hK hC (va_Nw.use rfl (hZ.1 (.fieldLinkNest RX7 143 "StatementRules2$Tokens" "place" "I" "StatementRules2") (by decide +kernel))) (fun _ q9 => q9) dX7_labelTarget_25 rfl ?_
    obtain ⟨p20, hcp20, hf⟩ := hf_bind hf
    have mo21 : CS.hs p1.2 ≤ CS.hs p20.2 := Mono.go hcp20 (m_X1_fail N p1.2 3 (p1.2.i 44))
    have hr9 : CS.hs p20.2 ≤ CS.hs R.2 := Mono.go hf (m_X7_labelTarget_63 N p20.2 p1.1)
    have hFc := cFree hC hA
    refine va_callv (va_runU (As := [.int 3, .int (p1.2.i 44)]) (rest := []) ⟨hx, hb, hml, hown, hts⟩ (c_X1_fail l dC dI Q N p1.2 3 (p1.2.i 44) p20 hcp20) (va_cwU 2 hts hX7_labelTarget_X1_fail_u88 rfl rfl rfl rfl (by decide +kernel) ⟨(show 2 + 1 ≤ 4 by omega), (show 8 + (3 + 11) + 60 * 2 ≤ 60 * 4 by omega)⟩) ⟨zPre.blind, va_recv hK hC.1 (ci := 6) (q0 := 3) rfl rfl, cPre_go hZ hK hC⟩ rfl rfl hl.1 rfl (lv_room (Nat.le_of_ble_eq_true rfl)) dX7_labelTarget_28 (cAcc h4 mo21 hr9)) hC.2.2.1 (fun q _ h => hFc q h) hFc (fun u9 t9 H1 locs ht hvm hw hB hz1 hk1 hS => ?_)
    obtain ⟨⟨hP, hK1, hD1⟩, hsz1⟩ := hB
    rw [ht] at hP hsz1
    have hC : CP dC dI Q A s.heap p20.2 H1 locs := ⟨hP, hD1.weaken (fun _ _ _ h => hFc _ h), hS, hsz1⟩
    generalize H1 = H at hC ⊢
    have h23 : (CS.hs σ) ≤ CS.hs p20.2 := Nat.le_trans h4 mo21
    refine W.widen (k := CS.hs p20.2 - (CS.hs σ)) (n := 17 * (CS.hs p20.2 - (CS.hs σ))) (cAcc2 h4 mo21) (cAcc3 h4 mo21) ?_
    refine lv_goto (tgt := 63) hx hb dX7_labelTarget_31 (by decide) ?_
    exact j_X7_labelTarget_63 l dC dI Q N (CS.hs σ) R hx hb hr hml hown hts hlocks hZ hA hK p20.2 p1.1 _ _ _ hf h23 hC (lv_sub hl [1, 0] rfl)
theorem k_X6_nearest_fieldLink_RX6_21_SR_Opens_count_I : Cond.fieldLink RX6 21 "StatementRules2$Opens" "count" "I" ∈ wzX6_nearest := List.mem_cons_of_mem _ (List.mem_append_left _ (List.mem_of_getElem? (i := 0) rfl))
theorem i_X6_nearest_X6 : ∀ w ∈ wsX60, w ∈ wzX6_nearest := fun _ h => List.mem_cons_of_mem _ (List.mem_append_right _ (List.mem_append_left _ (h)))
theorem k_X6_nearest_fieldLink_RX6_31_SR_Opens_arm_I : Cond.fieldLink RX6 31 "StatementRules2$Opens" "arm" "I" ∈ wzX6_nearest := List.mem_cons_of_mem _ (List.mem_append_left _ (List.mem_of_getElem? (i := 1) rfl))
theorem i_X6_nearest_X5 : ∀ w ∈ wsX50, w ∈ wzX6_nearest := fun _ h => List.mem_cons_of_mem _ (List.mem_append_right _ (List.mem_append_right _ (List.mem_append_left _ (h))))
set_option maxHeartbeats 4000000 in
set_option maxRecDepth 100000 in
theorem j_X6_nearest_46 {p : Program} {e : Env} {s : State} {m : MethodId} {args : Array Value} {below : List Frame} {meth : Method} {c : Code} {A : Nat → Prop} (l : Launch) (dC : Nat → ClassId) (dI : Nat → Nat → Nat) (Q : CQ) (N : Nat) (z9h : Nat) (R : Int32 × CS) (hx : p.tables.exec = Jvm.exec) (hb : c.code = cX6_nearest) (hr : meth.sig.returnType = (some .int)) (hml : c.maxLocals = 4) (hown : s.vm.findClass RX6 = some m.cls) (hts : ∀ w ∈ wzX6_nearest, w.before args s = true) (hlocks : meth.locks = false) (hZ : zAMB s) (hA : ∀ q : Nat, s.heap.size ≤ q → A q) (hK : va_K (dC, dI) vwCl (cT Q) s) : ∀ (σ : CS) (x2 : Int32) (H : Heap) (locs : List Loc) (ls : Array Slot), f_X6_nearest_46 N σ x2 = some R → z9h ≤ CS.hs σ → CP dC dI Q A s.heap σ H locs → lv_has ls 4 [(2, .int x2)] → W p l e ({ frames := 2, cells := CS.hs R.2 - z9h, slots := 17 * (CS.hs R.2 - z9h), locals := 60 * 2 }) s m args below meth c H locs (CS.hs σ - z9h) (17 * (CS.hs σ - z9h)) (MQ below (va_Qi (fun (r : Int32) (_ : Unit) => r = R.1) (fun (_ : Unit) (t : State) => zPost dC dI A (cW Q R.2) (cT Q) t ∧ t.heap.size = CS.hs R.2) A) args s (CS.hs R.2 - z9h) (17 * (CS.hs R.2 - z9h)) A) (F0 m 46 ls []) := by
  intro σ x2 H locs ls hf h0 hC hl
  unfold f_X6_nearest_46 at hf
  refine lv_iload_n hx hb dX6_nearest_46 rfl (lv_at hl 0 rfl) ?_
  obtain rfl := Option.some.inj hf
  exact W.iret (v := x2) hx hb hr (fun t ht hW => ⟨⟨x2, (), rfl, rfl, ⟨by rw [ht]; exact hC.1, va_K.moved hW.alike hK, hC.2.1⟩, by rw [ht]; exact hC.2.2.2⟩, hC.2.2.1.F ht⟩) hC.2.2.1.2.2 dX6_nearest_47
set_option maxHeartbeats 4000000 in
set_option maxRecDepth 100000 in
theorem j_X6_nearest_7 {p : Program} {e : Env} {s : State} {m : MethodId} {args : Array Value} {below : List Frame} {meth : Method} {c : Code} {A : Nat → Prop} (l : Launch) (dC : Nat → ClassId) (dI : Nat → Nat → Nat) (Q : CQ) (N : Nat) (z9h : Nat) (R : Int32 × CS) (hx : p.tables.exec = Jvm.exec) (hb : c.code = cX6_nearest) (hr : meth.sig.returnType = (some .int)) (hml : c.maxLocals = 4) (hown : s.vm.findClass RX6 = some m.cls) (hts : ∀ w ∈ wzX6_nearest, w.before args s = true) (hlocks : meth.locks = false) (hZ : zAMB s) (hA : ∀ q : Nat, s.heap.size ≤ q → A q) (hK : va_K (dC, dI) vwCl (cT Q) s) : ∀ (n9 : Nat), ∀ (σ : CS) (x1 : Int32) (x2 : Int32) (H : Heap) (locs : List Loc) (ls : Array Slot), f_X6_nearest_7 N n9 σ x1 x2 = some R → z9h ≤ CS.hs σ → CP dC dI Q A s.heap σ H locs → lv_has ls 4 [(0, .ref (Q.o 6)), (1, .int x1), (2, .int x2)] → W p l e ({ frames := 2, cells := CS.hs R.2 - z9h, slots := 17 * (CS.hs R.2 - z9h), locals := 60 * 2 }) s m args below meth c H locs (CS.hs σ - z9h) (17 * (CS.hs σ - z9h)) (MQ below (va_Qi (fun (r : Int32) (_ : Unit) => r = R.1) (fun (_ : Unit) (t : State) => zPost dC dI A (cW Q R.2) (cT Q) t ∧ t.heap.size = CS.hs R.2) A) args s (CS.hs R.2 - z9h) (17 * (CS.hs R.2 - z9h)) A) (F0 m 7 ls []) := by
  intro n9
  induction n9 with
  | zero => intro σ x1 x2 H locs ls hf; exact absurd hf (by intro q9; cases q9)
  | succ n9 ih =>
    intro σ x1 x2 H locs ls hf h0 hC hl
    replace hf : b_X6_nearest_7 N (f_X6_nearest_7 N n9) σ x1 x2 = some R := hf
    unfold b_X6_nearest_7 at hf
    have hMK := fun (σ : CS) (x1 : Int32) (x2 : Int32) => m_X6_nearest_7 N n9 σ x1 x2
    refine lv_iload_n hx hb dX6_nearest_7 rfl (lv_at hl 2 rfl) ?_
    refine lv_aload_n hx hb dX6_nearest_8 rfl (lv_at hl 0 rfl) ?_
    refine cG_56 (v := (σ.i 56)) hx hb hts i_X6_nearest_X6 hown hK hC (hts (.fieldLink RX6 31 "StatementRules2$Opens" "arm" "I") k_X6_nearest_fieldLink_RX6_31_SR_Opens_arm_I) (fun _ q9 => q9) dX6_nearest_9 rfl ?_
    refine lv_icmp_le (tgt := 54) hx hb dX6_nearest_12 (by decide) (fun c1 => ?_) (fun c1 => ?_)
    ·
      replace hf := (if_pos c1).symm.trans hf
      refine lv_iconst (v := (-1)) hx hb dX6_nearest_54 (by decide) ?_
      obtain rfl := Option.some.inj hf
      exact W.iret (v := (-1)) hx hb hr (fun t ht hW => ⟨⟨(-1), (), rfl, rfl, ⟨by rw [ht]; exact hC.1, va_K.moved hW.alike hK, hC.2.1⟩, by rw [ht]; exact hC.2.2.2⟩, hC.2.2.1.F ht⟩) hC.2.2.1.2.2 dX6_nearest_55
    ·
      replace hf := (if_neg c1).symm.trans hf
      refine lv_aload_n hx hb dX6_nearest_15 rfl (lv_at hl 0 rfl) ?_
      refine lv_iload_n hx hb dX6_nearest_16 rfl (lv_at hl 2 rfl) ?_
      obtain ⟨p2, hcp2, hf⟩ := hf_bind hf
      have mo3 : CS.hs σ ≤ CS.hs p2.2 := Mono.go hcp2 (m_X6_row N σ x2)
      have hr9 : CS.hs p2.2 ≤ CS.hs R.2 := Mono.go hf (mono_oc (hMK p2.2 x1 (x2 + (-1))) (fun a7 => (mono_ite (mono_bind (m_X5_isLoop N p2.2 a7) (fun p10 => (mono_ite (mono_ite (mono_ite (mono_ite (m_X6_nearest_46 N p10.2 x2) (hMK p10.2 x1 (x2 + (-1)))) mono_none) (hMK p10.2 x1 (x2 + (-1)))) (m_X6_nearest_46 N p10.2 x2)))) mono_none)))
      have hFc := cFree hC hA
      refine va_callq (va_runV (As := [.int x2]) (rest := []) ⟨hx, hb, hml, hown, hts⟩ (c_X6_row l dC dI Q N σ x2 p2 hcp2) (cwV 1 hts hX6_nearest_X6_row_v88 rfl rfl rfl (by decide +kernel) ⟨(show 1 + 1 ≤ 2 by omega), (show 8 + (2 + 11) + 60 * 1 ≤ 60 * 2 by omega)⟩) ⟨zPre.blind, va_recv hK hC.1 (ci := 5) (q0 := 6) rfl rfl, cPre_go hZ hK hC⟩ rfl rfl hl.1 rfl (lv_room (Nat.le_of_ble_eq_true rfl)) dX6_nearest_17 (cAcc h0 mo3 hr9)) hC.2.2.1 (fun q _ h => hFc q h) hFc (fun r4 u9 t9 H1 locs ht hvm hw hB hz1 hk1 hS => ?_)
      obtain ⟨⟨hP, hK1, hD1⟩, hsz1⟩ := hB
      rw [ht] at hP hsz1
      have hC : CP dC dI Q A s.heap p2.2 H1 locs := ⟨hP, hD1.weaken (fun _ _ _ h => hFc _ h), hS, hsz1⟩
      generalize H1 = H at hC ⊢
      have h5 : z9h ≤ CS.hs p2.2 := Nat.le_trans h0 mo3
      refine W.widen (k := CS.hs p2.2 - z9h) (n := 17 * (CS.hs p2.2 - z9h)) (cAcc2 h0 mo3) (cAcc3 h0 mo3) ?_
      obtain rfl : r4 = p2.1 := hw
      rcases hf_oc hf with ⟨q6, hf⟩ | ⟨a7, q6, hf⟩
      ·
        refine W.eq (congrArg (fun v9 => F0 m 20 ls (va_rf v9 :: [])) q6) ?_
        refine W.eq (g2 := F0 m 20 ls (.null :: [])) rfl ?_
        refine lv_astore_nN (lv' := [(3, .null), (0, .ref (Q.o 6)), (1, .int x1), (2, .int x2)]) hx hb dX6_nearest_20 rfl hl (by decide) rfl (fun ls hl => ?_)
        refine lv_aload_nN hx hb dX6_nearest_21 rfl (lv_at hl 0 rfl) ?_
        refine lv_ifnullN (tgt := 48) hx hb dX6_nearest_22 (by decide) ?_
        refine lv_iinc (v := (x2 + (-1))) (lv' := [(2, .int (x2 + (-1))), (3, .null), (0, .ref (Q.o 6)), (1, .int x1)]) hx hb dX6_nearest_48 hl (k := 3) rfl rfl (by decide) rfl (fun ls hl => ?_)
        refine lv_goto (tgt := 7) hx hb dX6_nearest_51 (by decide) ?_
        exact ih p2.2 x1 (x2 + (-1)) _ _ _ hf h5 hC (lv_sub hl [2, 3, 0] rfl)
      ·
        refine W.eq (congrArg (fun v9 => F0 m 20 ls (va_rf v9 :: [])) q6) ?_
        refine W.eq (g2 := F0 m 20 ls (.ref a7 :: [])) rfl ?_
        refine lv_astore_n (lv' := [(3, .ref a7), (0, .ref (Q.o 6)), (1, .int x1), (2, .int x2)]) hx hb dX6_nearest_20 rfl hl (by decide) rfl (fun ls hl => ?_)
        refine lv_aload_n hx hb dX6_nearest_21 rfl (lv_at hl 0 rfl) ?_
        refine lv_ifnull hx hb dX6_nearest_22 ?_
        refine lv_aload_n hx hb dX6_nearest_25 rfl (lv_at hl 0 rfl) ?_
        obtain ⟨b8, hf⟩ := hf_ite hf
        obtain ⟨k9, hk9⟩ := cPl (Q := Q) (s := p2.2) (a := a7) b8.1
        rw [cE0 (show CS.k p2.2 a7 = 0 from b8.2)] at hk9
        obtain ⟨p10, hcp10, hf⟩ := hf_bind hf
        have mo11 : CS.hs p2.2 ≤ CS.hs p10.2 := Mono.go hcp10 (m_X5_isLoop N p2.2 a7)
        have hr9 : CS.hs p10.2 ≤ CS.hs R.2 := Mono.go hf (mono_ite (mono_ite (mono_ite (mono_ite (m_X6_nearest_46 N p10.2 x2) (hMK p10.2 x1 (x2 + (-1)))) mono_none) (hMK p10.2 x1 (x2 + (-1)))) (m_X6_nearest_46 N p10.2 x2))
        have hFc := cFree hC hA
        refine va_calli (va_runV (As := []) (rest := []) ⟨hx, hb, hml, hown, hts⟩ (c_X5_isLoop l dC dI Q N p2.2 a7 p10 hcp10) (cwV 0 hts hX6_nearest_X5_isLoop_v92 rfl rfl rfl (by decide +kernel) ⟨(show 1 + 1 ≤ 2 by omega), (show 8 + (1 + 11) + 60 * 1 ≤ 60 * 2 by omega)⟩) ⟨zPre.blind, va_recv hK hC.1 (ci := 4) (q0 := k9) rfl hk9, cPre_go hZ hK hC⟩ rfl rfl hl.1 rfl (lv_room (Nat.le_of_ble_eq_true rfl)) dX6_nearest_26 (cAcc h5 mo11 hr9)) hC.2.2.1 (fun q _ h => hFc q h) hFc (fun r12 u9 t9 H1 locs ht hvm hw hB hz1 hk1 hS => ?_)
        obtain ⟨⟨hP, hK1, hD1⟩, hsz1⟩ := hB
        rw [ht] at hP hsz1
        have hC : CP dC dI Q A s.heap p10.2 H1 locs := ⟨hP, hD1.weaken (fun _ _ _ h => hFc _ h), hS, hsz1⟩
        generalize H1 = H at hC ⊢
        have h13 : z9h ≤ CS.hs p10.2 := Nat.le_trans h5 mo11
        refine W.widen (k := CS.hs p10.2 - z9h) (n := 17 * (CS.hs p10.2 - z9h)) (cAcc2 h5 mo11) (cAcc3 h5 mo11) ?_
        obtain rfl : r12 = p10.1 := hw
        refine lv_if_ne (tgt := 46) hx hb dX6_nearest_29 (by decide) (fun c14 => ?_) (fun c14 => ?_)
        ·
          replace hf := (if_neg c14).symm.trans hf
          exact j_X6_nearest_46 l dC dI Q N z9h R hx hb hr hml hown hts hlocks hZ hA hK p10.2 x2 _ _ _ hf h13 hC (lv_sub hl [3] rfl)
        ·
          replace hf := (if_pos c14).symm.trans hf
          refine lv_iload_n hx hb dX6_nearest_32 rfl (lv_at hl 2 rfl) ?_
          refine lv_if_ne (tgt := 48) hx hb dX6_nearest_33 (by decide) (fun c15 => ?_) (fun c15 => ?_)
          ·
            replace hf := (if_neg c15).symm.trans hf
            refine lv_iinc (v := (x2 + (-1))) (lv' := [(2, .int (x2 + (-1))), (3, .ref a7), (0, .ref (Q.o 6)), (1, .int x1)]) hx hb dX6_nearest_48 hl (k := 3) rfl rfl (by decide) rfl (fun ls hl => ?_)
            refine lv_goto (tgt := 7) hx hb dX6_nearest_51 (by decide) ?_
            exact ih p10.2 x1 (x2 + (-1)) _ _ _ hf h13 hC (lv_sub hl [2, 3, 0] rfl)
          ·
            replace hf := (if_pos c15).symm.trans hf
            refine lv_aload_n hx hb dX6_nearest_36 rfl (lv_at hl 0 rfl) ?_
            obtain ⟨b16, hf⟩ := hf_ite hf
            refine pGN_X5_0 (v := (CS.o p10.2 a7 0)) hx hb hts i_X6_nearest_X5 hown hK hC (va_Nw.use rfl (hZ.1 (.fieldLinkNest RX6 41 "StatementRules2$Open" "sort" "I" "StatementRules2") (by decide +kernel))) (fun _ q9 => q9) dX6_nearest_37 b16 rfl ?_
            refine lv_sipush (v := 218) hx hb dX6_nearest_40 (by decide) ?_
            refine lv_icmp_ne (tgt := 48) hx hb dX6_nearest_43 (by decide) (fun c17 => ?_) (fun c17 => ?_)
            ·
              replace hf := (if_neg c17).symm.trans hf
              refine lv_iinc (v := (x2 + (-1))) (lv' := [(2, .int (x2 + (-1))), (3, .ref a7), (0, .ref (Q.o 6)), (1, .int x1)]) hx hb dX6_nearest_48 hl (k := 3) rfl rfl (by decide) rfl (fun ls hl => ?_)
              refine lv_goto (tgt := 7) hx hb dX6_nearest_51 (by decide) ?_
              exact ih p10.2 x1 (x2 + (-1)) _ _ _ hf h13 hC (lv_sub hl [2, 3, 0] rfl)
            ·
              replace hf := (if_pos c17).symm.trans hf
              exact j_X6_nearest_46 l dC dI Q N z9h R hx hb hr hml hown hts hlocks hZ hA hK p10.2 x2 _ _ _ hf h13 hC (lv_sub hl [3] rfl)
set_option maxHeartbeats 4000000 in
set_option maxRecDepth 100000 in
theorem c_X6_nearest (l : Launch) (dC : Nat → ClassId) (dI : Nat → Nat → Nat) (Q : CQ) (N : Nat) (σ : CS) (x1 : Int32) (R : Int32 × CS) (hf : f_X6_nearest N σ x1 = some R) : Met l yX6_nearest wzX6_nearest ({ frames := 2, cells := CS.hs R.2 - CS.hs σ, slots := 17 * (CS.hs R.2 - CS.hs σ), locals := 60 * 2 }) (va_Pc [.ref (Q.o 6), .int x1] (zPre dC dI (CS.hs σ) (cW Q σ) (cT Q))) (va_Qi (fun (r : Int32) (_ : Unit) => r = R.1) (fun (_ : Unit) (t : State) => zPost dC dI (va_A (cW Q σ) (CS.hs σ)) (cW Q R.2) (cT Q) t ∧ t.heap.size = CS.hs R.2) (va_A (cW Q σ) (CS.hs σ))) (CS.hs R.2 - CS.hs σ) (17 * (CS.hs R.2 - CS.hs σ)) (va_A (cW Q σ) (CS.hs σ)) := by
  refine Met.ofW (cc := cX6_nearest) (maxL := 4) (ret := (some .int)) (by decide) rfl ?_
  intro p e s m args below meth c s₁ B hml hv
  obtain ⟨rfl, hsz, hZ, hP, hK, hD0⟩ := hv
  have hx := B.exec
  have hb := B.bytes
  have hr := B.returns
  have hts := atoms_spec (ws := wzX6_nearest) B.pre
  have hown : s.vm.findClass RX6 = some m.cls := findClass_of_methodNamed B.named
  have hlocks := B.notSynchronized
  have hD := hD0.self (sz := CS.hs σ)
  generalize hAe : va_A (cW Q σ) (CS.hs σ) = A at hD ⊢
  have hA : ∀ q : Nat, s.heap.size ≤ q → A q := fun q h => by rw [← hAe]; exact Or.inr (hsz ▸ h)
  have hC : CP dC dI Q A s.heap σ s.heap [] := ⟨hP, hD, va_S.rf, hsz⟩
  have h0 : CS.hs σ ≤ CS.hs σ := Nat.le_refl _
  have hl := lv_entry ([.ref (Q.o 6), .int x1]) (n := 4) (Nat.le_of_ble_eq_true rfl)
  rw [lg_entry_eq]
  generalize (lg_sl ([.ref (Q.o 6), .int x1]) ++ List.replicate (4 - (lg_sl ([.ref (Q.o 6), .int x1])).length) Slot.unset).toArray = ls at hl ⊢
  have hl : lv_has ls 4 [(0, .ref (Q.o 6)), (1, .int x1)] := hl
  unfold f_X6_nearest at hf
  refine W.widen (k := CS.hs σ - CS.hs σ) (n := 17 * (CS.hs σ - CS.hs σ)) (Nat.zero_le _) (Nat.zero_le _) ?_
  refine lv_aload_n hx hb dX6_nearest_0 rfl (lv_at hl 0 rfl) ?_
  refine cG_53 (v := (σ.i 53)) hx hb hts i_X6_nearest_X6 hown hK hC (hts (.fieldLink RX6 21 "StatementRules2$Opens" "count" "I") k_X6_nearest_fieldLink_RX6_21_SR_Opens_count_I) (fun _ q9 => q9) dX6_nearest_1 rfl ?_
  refine lv_iconst (v := 1) hx hb dX6_nearest_4 (by decide) ?_
  refine lv_isub hx hb dX6_nearest_5 ?_
  refine lv_istore_n (lv' := [(2, .int ((σ.i 53) - 1)), (0, .ref (Q.o 6)), (1, .int x1)]) hx hb dX6_nearest_6 rfl hl (by decide) rfl (fun ls hl => ?_)
  exact j_X6_nearest_7 l dC dI Q N (CS.hs σ) R hx hb hr hml hown hts hlocks hZ hA hK N σ x1 ((σ.i 53) - 1) _ _ _ hf h0 hC (lv_sub hl [1, 2, 0] rfl)
theorem k_X6_addJump_fieldLink_RX6_17_SR_Opens_jumps_I : Cond.fieldLink RX6 17 "StatementRules2$Opens" "jumps" "[I" ∈ wzX6_addJump := List.mem_cons_of_mem _ (List.mem_append_left _ (List.mem_of_getElem? (i := 0) rfl))
theorem i_X6_addJump_X6 : ∀ w ∈ wsX60, w ∈ wzX6_addJump := fun _ h => List.mem_cons_of_mem _ (List.mem_append_right _ (List.mem_append_left _ (h)))
theorem k_X6_addJump_fieldLink_RX6_28_SR_Opens_jumpCount_I : Cond.fieldLink RX6 28 "StatementRules2$Opens" "jumpCount" "I" ∈ wzX6_addJump := List.mem_cons_of_mem _ (List.mem_append_left _ (List.mem_of_getElem? (i := 1) rfl))
theorem k_X6_addJump_initialized_RX11 : Cond.initialized RX11 ∈ wzX6_addJump := List.mem_cons_of_mem _ (List.mem_append_left _ (List.mem_of_getElem? (i := 2) rfl))
theorem k_X6_addJump_static_yX11_put : Cond.static yX11_put ∈ wzX6_addJump := List.mem_cons_of_mem _ (List.mem_append_left _ (List.mem_of_getElem? (i := 3) rfl))
set_option maxHeartbeats 4000000 in
set_option maxRecDepth 100000 in
theorem c_X6_addJump (l : Launch) (dC : Nat → ClassId) (dI : Nat → Nat → Nat) (Q : CQ) (N : Nat) (σ : CS) (x1 : Nat) (x2 : Int32) (R : Unit × CS) (hf : f_X6_addJump N σ x1 x2 = some R) : Met l yX6_addJump wzX6_addJump ({ frames := 2, cells := CS.hs R.2 - CS.hs σ, slots := 17 * (CS.hs R.2 - CS.hs σ), locals := 60 * 2 }) (va_Pc [.ref (Q.o 6), .ref x1, .int x2] (zPre dC dI (CS.hs σ) (cW Q σ) (cT Q))) (va_Qv (fun (_ : Unit) => True) (fun (_ : Unit) (t : State) => zPost dC dI (va_A (cW Q σ) (CS.hs σ)) (cW Q R.2) (cT Q) t ∧ t.heap.size = CS.hs R.2) (va_A (cW Q σ) (CS.hs σ))) (CS.hs R.2 - CS.hs σ) (17 * (CS.hs R.2 - CS.hs σ)) (va_A (cW Q σ) (CS.hs σ)) := by
  refine Met.ofW (cc := cX6_addJump) (maxL := 3) (ret := none) (by decide) rfl ?_
  intro p e s m args below meth c s₁ B hml hv
  obtain ⟨rfl, hsz, hZ, hP, hK, hD0⟩ := hv
  have hx := B.exec
  have hb := B.bytes
  have hr := B.returns
  have hts := atoms_spec (ws := wzX6_addJump) B.pre
  have hown : s.vm.findClass RX6 = some m.cls := findClass_of_methodNamed B.named
  have hlocks := B.notSynchronized
  have hD := hD0.self (sz := CS.hs σ)
  generalize hAe : va_A (cW Q σ) (CS.hs σ) = A at hD ⊢
  have hA : ∀ q : Nat, s.heap.size ≤ q → A q := fun q h => by rw [← hAe]; exact Or.inr (hsz ▸ h)
  have hC : CP dC dI Q A s.heap σ s.heap [] := ⟨hP, hD, va_S.rf, hsz⟩
  have h0 : CS.hs σ ≤ CS.hs σ := Nat.le_refl _
  have hl := lv_entry ([.ref (Q.o 6), .ref x1, .int x2]) (n := 3) (Nat.le_of_ble_eq_true rfl)
  rw [lg_entry_eq]
  generalize (lg_sl ([.ref (Q.o 6), .ref x1, .int x2]) ++ List.replicate (3 - (lg_sl ([.ref (Q.o 6), .ref x1, .int x2])).length) Slot.unset).toArray = ls at hl ⊢
  have hl : lv_has ls 3 [(0, .ref (Q.o 6)), (1, .ref x1), (2, .int x2)] := hl
  unfold f_X6_addJump at hf
  refine W.widen (k := CS.hs σ - CS.hs σ) (n := 17 * (CS.hs σ - CS.hs σ)) (Nat.zero_le _) (Nat.zero_le _) ?_
  refine lv_aload_n hx hb dX6_addJump_0 rfl (lv_at hl 0 rfl) ?_
  refine cG_52 hx hb hts i_X6_addJump_X6 hown hK hC (hts (.fieldLink RX6 17 "StatementRules2$Opens" "jumps" "[I") k_X6_addJump_fieldLink_RX6_17_SR_Opens_jumps_I) (fun _ q9 => q9) dX6_addJump_1 ?_
  refine lv_aload_n hx hb dX6_addJump_4 rfl (lv_at hl 0 rfl) ?_
  refine cG_55 (v := (σ.i 55)) hx hb hts i_X6_addJump_X6 hown hK hC (hts (.fieldLink RX6 28 "StatementRules2$Opens" "jumpCount" "I") k_X6_addJump_fieldLink_RX6_28_SR_Opens_jumpCount_I) (fun _ q9 => q9) dX6_addJump_5 rfl ?_
  refine lv_aload_n hx hb dX6_addJump_8 rfl (lv_at hl 1 rfl) ?_
  refine lv_iload_n hx hb dX6_addJump_9 rfl (lv_at hl 2 rfl) ?_
  obtain ⟨p1, hcp1, hf⟩ := hf_bind hf
  have mo2 : CS.hs σ ≤ CS.hs p1.2 := Mono.go hcp1 (m_X6_jumpTo N σ x1 x2)
  have hr9 : CS.hs p1.2 ≤ CS.hs R.2 := Mono.go hf (mono_some (Nat.le_refl _))
  have hFc := cFree hC hA
  refine va_calli (va_runS (As := [.ref x1, .int x2]) (rest := [.int (σ.i 55), .ref (Q.q 52)]) ⟨hx, hb, hml, hown, hts⟩ (c_X6_jumpTo l dC dI Q N σ x1 x2 p1 hcp1) (va_cwS 2 hts hX6_addJump_X6_jumpTo_s96 rfl rfl rfl (by decide +kernel) ⟨(show 1 + 1 ≤ 2 by omega), (show 8 + (2 + 11) + 60 * 1 ≤ 60 * 2 by omega)⟩) ⟨zPre.blind, cPre_go hZ hK hC⟩ rfl rfl hl.1 rfl (lv_room (Nat.le_of_ble_eq_true rfl)) dX6_addJump_10 (cAcc h0 mo2 hr9)) hC.2.2.1 (fun q _ h => hFc q h) hFc (fun r3 u9 t9 H1 locs ht hvm hw hB hz1 hk1 hS => ?_)
  obtain ⟨⟨hP, hK1, hD1⟩, hsz1⟩ := hB
  rw [ht] at hP hsz1
  have hC : CP dC dI Q A s.heap p1.2 H1 locs := ⟨hP, hD1.weaken (fun _ _ _ h => hFc _ h), hS, hsz1⟩
  generalize H1 = H at hC ⊢
  have h4 : (CS.hs σ) ≤ CS.hs p1.2 := Nat.le_trans h0 mo2
  refine W.widen (k := CS.hs p1.2 - (CS.hs σ)) (n := 17 * (CS.hs p1.2 - (CS.hs σ))) (cAcc2 h0 mo2) (cAcc3 h0 mo2) ?_
  obtain rfl : r3 = p1.1 := hw
  have he9 := (cArr_52 (Q := Q) (σ := p1.2))
  have hFc := cFree1 hC hA he9
  have hr9 : CS.hs p1.2 ≤ CS.hs R.2 := Mono.go hf (mono_some (Nat.le_refl _))
  refine va_callv (va_runSN (As := [.ref (Q.q 52), .int (σ.i 55), .int p1.1]) (rest := []) ⟨hx, hb, hml, hown, hts⟩ (c_X11_put l dC dI _ (Q.q 52) (Q.c 0) 160 (p1.2.a 52) (σ.i 55) p1.1 (by decide)) ⟨va_cnB 3 hts hX6_addJump_X11_put_n100 rfl rfl rfl (hZ.1 (.methodLinkNest RX6 100 yX11_put "StatementRules2") (by decide +kernel)) (hts (.initialized RX11) k_X6_addJump_initialized_RX11) (by decide +kernel) ⟨(show 1 + 1 ≤ 2 by omega), (show 8 + (3 + 11) + 60 * 1 ≤ 60 * 2 by omega)⟩, (hts (.static yX11_put) k_X6_addJump_static_yX11_put), trivial⟩ ⟨zPre.blind, zPre.go hZ (cOne hC.1 he9) (hK.sub (tys' := [(Q.c 0, .int)]) [0] rfl) (cOneD hC.2.1 he9)⟩ rfl rfl hl.1 rfl (lv_room (Nat.le_of_ble_eq_true rfl)) dX6_addJump_13 ⟨cAcc4 h4 hr9, cAcc5 h4 hr9⟩) hC.2.2.1 (fun q _ h => hFc q h) hFc (fun u9 t9 H1 locs ht hvm hw hB hz1 hk1 hS => ?_)
  obtain ⟨⟨hP1, hK1, hD1⟩, hsz1⟩ := hB
  rw [ht] at hP1 hsz1
  have hC := cBack (σ' := CS.putA p1.2 52 (gPut (p1.2.a 52) 160 (σ.i 55) p1.1)) hC he9 cPutA_52 (cPutA_h _ _ _) hk1 hP1 hsz1 hS
  generalize H1 = H at hC ⊢
  refine lv_aload_n hx hb dX6_addJump_16 rfl (lv_at hl 0 rfl) ?_
  refine lv_dup hx hb dX6_addJump_17 rfl ?_
  refine cG_55 (v := (p1.2.i 55)) hx hb hts i_X6_addJump_X6 hown hK hC (hts (.fieldLink RX6 28 "StatementRules2$Opens" "jumpCount" "I") k_X6_addJump_fieldLink_RX6_28_SR_Opens_jumpCount_I) (fun _ q9 => q9) dX6_addJump_18 rfl ?_
  refine lv_iconst (v := 1) hx hb dX6_addJump_21 (by decide) ?_
  refine lv_iadd hx hb dX6_addJump_22 ?_
  refine cP_55 (v := ((p1.2.i 55) + 1)) hx hb hts i_X6_addJump_X6 hown hK hC (hts (.fieldLink RX6 28 "StatementRules2$Opens" "jumpCount" "I") k_X6_addJump_fieldLink_RX6_28_SR_Opens_jumpCount_I) (fun _ q9 => q9) dX6_addJump_23 (fun H locs hC => ?_)
  obtain rfl := Option.some.inj hf
  exact W.vret hx hb hr (fun t ht hW => ⟨⟨(), rfl, trivial, ⟨by rw [ht]; exact hC.1, va_K.moved hW.alike hK, hC.2.1⟩, by rw [ht]; exact hC.2.2.2⟩, hC.2.2.1.F ht⟩) hC.2.2.1.2.2 dX6_addJump_26
end
section
theorem k_X7_leave_fieldLink_RX7_68_SR_Statements_depth_I : Cond.fieldLink RX7 68 "StatementRules2$Statements" "depth" "I" ∈ wzX7_leave := List.mem_cons_of_mem _ (List.mem_append_left _ (List.mem_of_getElem? (i := 0) rfl))
theorem i_X7_leave_X7 : ∀ w ∈ wsX70, w ∈ wzX7_leave := fun _ h => List.mem_cons_of_mem _ (List.mem_append_right _ (List.mem_append_left _ (h)))
theorem k_X7_leave_fieldLink_RX7_20_SR_Statements_code_LSR_Code : Cond.fieldLink RX7 20 "StatementRules2$Statements" "code" "LStatementRules2$Code;" ∈ wzX7_leave := List.mem_cons_of_mem _ (List.mem_append_left _ (List.mem_of_getElem? (i := 1) rfl))
theorem k_X7_leave_sameField_SR_Statements_SR_Formulas_code_LSR_Code : Cond.sameField "StatementRules2$Statements" "StatementRules2$Formulas" "code" "LStatementRules2$Code;" ∈ wzX7_leave := List.mem_cons_of_mem _ (List.mem_append_left _ (List.mem_of_getElem? (i := 2) rfl))
set_option maxHeartbeats 4000000 in
set_option maxRecDepth 100000 in
theorem c_X7_leave (l : Launch) (dC : Nat → ClassId) (dI : Nat → Nat → Nat) (Q : CQ) (N : Nat) (σ : CS) (x1 : Int32) (x2 : Int32) (R : Unit × CS) (hf : f_X7_leave N σ x1 x2 = some R) : Met l yX7_leave wzX7_leave ({ frames := 3, cells := CS.hs R.2 - CS.hs σ, slots := 17 * (CS.hs R.2 - CS.hs σ), locals := 60 * 3 }) (va_Pc [.ref (Q.o 3), .int x1, .int x2] (zPre dC dI (CS.hs σ) (cW Q σ) (cT Q))) (va_Qv (fun (_ : Unit) => True) (fun (_ : Unit) (t : State) => zPost dC dI (va_A (cW Q σ) (CS.hs σ)) (cW Q R.2) (cT Q) t ∧ t.heap.size = CS.hs R.2) (va_A (cW Q σ) (CS.hs σ))) (CS.hs R.2 - CS.hs σ) (17 * (CS.hs R.2 - CS.hs σ)) (va_A (cW Q σ) (CS.hs σ)) := by
  refine Met.ofW (cc := cX7_leave) (maxL := 3) (ret := none) (by decide) rfl ?_
  intro p e s m args below meth c s₁ B hml hv
  obtain ⟨rfl, hsz, hZ, hP, hK, hD0⟩ := hv
  have hx := B.exec
  have hb := B.bytes
  have hr := B.returns
  have hts := atoms_spec (ws := wzX7_leave) B.pre
  have hown : s.vm.findClass RX7 = some m.cls := findClass_of_methodNamed B.named
  have hlocks := B.notSynchronized
  have hD := hD0.self (sz := CS.hs σ)
  generalize hAe : va_A (cW Q σ) (CS.hs σ) = A at hD ⊢
  have hA : ∀ q : Nat, s.heap.size ≤ q → A q := fun q h => by rw [← hAe]; exact Or.inr (hsz ▸ h)
  have hC : CP dC dI Q A s.heap σ s.heap [] := ⟨hP, hD, va_S.rf, hsz⟩
  have h0 : CS.hs σ ≤ CS.hs σ := Nat.le_refl _
  have hl := lv_entry ([.ref (Q.o 3), .int x1, .int x2]) (n := 3) (Nat.le_of_ble_eq_true rfl)
  rw [lg_entry_eq]
  generalize (lg_sl ([.ref (Q.o 3), .int x1, .int x2]) ++ List.replicate (3 - (lg_sl ([.ref (Q.o 3), .int x1, .int x2])).length) Slot.unset).toArray = ls at hl ⊢
  have hl : lv_has ls 3 [(0, .ref (Q.o 3)), (1, .int x1), (2, .int x2)] := hl
  unfold f_X7_leave at hf
  refine W.widen (k := CS.hs σ - CS.hs σ) (n := 17 * (CS.hs σ - CS.hs σ)) (Nat.zero_le _) (Nat.zero_le _) ?_
  refine lv_iload_n hx hb dX7_leave_0 rfl (lv_at hl 2 rfl) ?_
  refine lv_aload_n hx hb dX7_leave_1 rfl (lv_at hl 0 rfl) ?_
  refine cG_38 (v := (σ.i 38)) hx hb hts i_X7_leave_X7 hown hK hC (hts (.fieldLink RX7 68 "StatementRules2$Statements" "depth" "I") k_X7_leave_fieldLink_RX7_68_SR_Statements_depth_I) (fun _ q9 => q9) dX7_leave_2 rfl ?_
  refine lv_icmp_ne (tgt := 21) hx hb dX7_leave_5 (by decide) (fun c1 => ?_) (fun c1 => ?_)
  ·
    replace hf := (if_neg c1).symm.trans hf
    refine lv_aload_n hx hb dX7_leave_21 rfl (lv_at hl 0 rfl) ?_
    refine cG_29 hx hb hts i_X7_leave_X7 hown hK hC (hts (.fieldLink RX7 20 "StatementRules2$Statements" "code" "LStatementRules2$Code;") k_X7_leave_fieldLink_RX7_20_SR_Statements_code_LSR_Code) (fun x9 q9 => u_same (hts (.sameField "StatementRules2$Statements" "StatementRules2$Formulas" "code" "LStatementRules2$Code;") k_X7_leave_sameField_SR_Statements_SR_Formulas_code_LSR_Code) x9 q9) dX7_leave_22 ?_
    refine lv_bipush (v := 60) hx hb dX7_leave_25 (by decide) ?_
    refine lv_iload_n hx hb dX7_leave_27 rfl (lv_at hl 1 rfl) ?_
    refine lv_bipush (v := 32) hx hb dX7_leave_28 (by decide) ?_
    refine lv_imul hx hb dX7_leave_30 ?_
    refine lv_iload_n hx hb dX7_leave_31 rfl (lv_at hl 2 rfl) ?_
    refine lv_iadd hx hb dX7_leave_32 ?_
    obtain ⟨p2, hcp2, hf⟩ := hf_bind hf
    have mo3 : CS.hs σ ≤ CS.hs p2.2 := Mono.go hcp2 (m_X0_add N σ 60 ((x1 * 32) + x2))
    have hr9 : CS.hs p2.2 ≤ CS.hs R.2 := Mono.go hf (mono_some (Nat.le_refl _))
    have hFc := cFree hC hA
    refine va_callv (va_runV (As := [.int 60, .int ((x1 * 32) + x2)]) (rest := []) ⟨hx, hb, hml, hown, hts⟩ (c_X0_add l dC dI Q N σ 60 ((x1 * 32) + x2) p2 hcp2) (cwV 2 hts hX7_leave_X0_add_v176 rfl rfl rfl (by decide +kernel) ⟨(show 2 + 1 ≤ 3 by omega), (show 8 + (3 + 11) + 60 * 2 ≤ 60 * 3 by omega)⟩) ⟨zPre.blind, va_recv hK hC.1 (ci := 0) (q0 := 2) rfl rfl, cPre_go hZ hK hC⟩ rfl rfl hl.1 rfl (lv_room (Nat.le_of_ble_eq_true rfl)) dX7_leave_33 (cAcc h0 mo3 hr9)) hC.2.2.1 (fun q _ h => hFc q h) hFc (fun u9 t9 H1 locs ht hvm hw hB hz1 hk1 hS => ?_)
    obtain ⟨⟨hP, hK1, hD1⟩, hsz1⟩ := hB
    rw [ht] at hP hsz1
    have hC : CP dC dI Q A s.heap p2.2 H1 locs := ⟨hP, hD1.weaken (fun _ _ _ h => hFc _ h), hS, hsz1⟩
    generalize H1 = H at hC ⊢
    have h5 : (CS.hs σ) ≤ CS.hs p2.2 := Nat.le_trans h0 mo3
    refine W.widen (k := CS.hs p2.2 - (CS.hs σ)) (n := 17 * (CS.hs p2.2 - (CS.hs σ))) (cAcc2 h0 mo3) (cAcc3 h0 mo3) ?_
    obtain rfl := Option.some.inj hf
    exact W.vret hx hb hr (fun t ht hW => ⟨⟨(), rfl, trivial, ⟨by rw [ht]; exact hC.1, va_K.moved hW.alike hK, hC.2.1⟩, by rw [ht]; exact hC.2.2.2⟩, hC.2.2.1.F ht⟩) hC.2.2.1.2.2 dX7_leave_36
  ·
    replace hf := (if_pos c1).symm.trans hf
    refine lv_aload_n hx hb dX7_leave_8 rfl (lv_at hl 0 rfl) ?_
    refine cG_29 hx hb hts i_X7_leave_X7 hown hK hC (hts (.fieldLink RX7 20 "StatementRules2$Statements" "code" "LStatementRules2$Code;") k_X7_leave_fieldLink_RX7_20_SR_Statements_code_LSR_Code) (fun x9 q9 => u_same (hts (.sameField "StatementRules2$Statements" "StatementRules2$Formulas" "code" "LStatementRules2$Code;") k_X7_leave_sameField_SR_Statements_SR_Formulas_code_LSR_Code) x9 q9) dX7_leave_9 ?_
    refine lv_bipush (v := 30) hx hb dX7_leave_12 (by decide) ?_
    refine lv_iload_n hx hb dX7_leave_14 rfl (lv_at hl 1 rfl) ?_
    obtain ⟨p6, hcp6, hf⟩ := hf_bind hf
    have mo7 : CS.hs σ ≤ CS.hs p6.2 := Mono.go hcp6 (m_X0_add N σ 30 x1)
    have hr9 : CS.hs p6.2 ≤ CS.hs R.2 := Mono.go hf (mono_some (Nat.le_refl _))
    have hFc := cFree hC hA
    refine va_callv (va_runV (As := [.int 30, .int x1]) (rest := []) ⟨hx, hb, hml, hown, hts⟩ (c_X0_add l dC dI Q N σ 30 x1 p6 hcp6) (cwV 2 hts hX7_leave_X0_add_v176 rfl rfl rfl (by decide +kernel) ⟨(show 2 + 1 ≤ 3 by omega), (show 8 + (3 + 11) + 60 * 2 ≤ 60 * 3 by omega)⟩) ⟨zPre.blind, va_recv hK hC.1 (ci := 0) (q0 := 2) rfl rfl, cPre_go hZ hK hC⟩ rfl rfl hl.1 rfl (lv_room (Nat.le_of_ble_eq_true rfl)) dX7_leave_15 (cAcc h0 mo7 hr9)) hC.2.2.1 (fun q _ h => hFc q h) hFc (fun u9 t9 H1 locs ht hvm hw hB hz1 hk1 hS => ?_)
    obtain ⟨⟨hP, hK1, hD1⟩, hsz1⟩ := hB
    rw [ht] at hP hsz1
    have hC : CP dC dI Q A s.heap p6.2 H1 locs := ⟨hP, hD1.weaken (fun _ _ _ h => hFc _ h), hS, hsz1⟩
    generalize H1 = H at hC ⊢
    have h9 : (CS.hs σ) ≤ CS.hs p6.2 := Nat.le_trans h0 mo7
    refine W.widen (k := CS.hs p6.2 - (CS.hs σ)) (n := 17 * (CS.hs p6.2 - (CS.hs σ))) (cAcc2 h0 mo7) (cAcc3 h0 mo7) ?_
    refine lv_goto (tgt := 36) hx hb dX7_leave_18 (by decide) ?_
    obtain rfl := Option.some.inj hf
    exact W.vret hx hb hr (fun t ht hW => ⟨⟨(), rfl, trivial, ⟨by rw [ht]; exact hC.1, va_K.moved hW.alike hK, hC.2.1⟩, by rw [ht]; exact hC.2.2.2⟩, hC.2.2.1.F ht⟩) hC.2.2.1.2.2 dX7_leave_36
theorem k_X7_jump_fieldLink_RX7_71_SR_Statements_tokens_LSR_Tokens : Cond.fieldLink RX7 71 "StatementRules2$Statements" "tokens" "LStatementRules2$Tokens;" ∈ wzX7_jump := List.mem_cons_of_mem _ (List.mem_append_left _ (List.mem_of_getElem? (i := 0) rfl))
theorem k_X7_jump_sameField_SR_Statements_SR_Formulas_tokens_LSR_Tokens : Cond.sameField "StatementRules2$Statements" "StatementRules2$Formulas" "tokens" "LStatementRules2$Tokens;" ∈ wzX7_jump := List.mem_cons_of_mem _ (List.mem_append_left _ (List.mem_of_getElem? (i := 1) rfl))
theorem i_X7_jump_X7 : ∀ w ∈ wsX70, w ∈ wzX7_jump := fun _ h => List.mem_cons_of_mem _ (List.mem_append_right _ (List.mem_append_left _ (h)))
theorem i_X7_jump_X9 : ∀ w ∈ wsX90, w ∈ wzX7_jump := fun _ h => List.mem_cons_of_mem _ (List.mem_append_right _ (List.mem_append_right _ (List.mem_append_left _ (h))))
theorem k_X7_jump_fieldLink_RX7_20_SR_Statements_code_LSR_Code : Cond.fieldLink RX7 20 "StatementRules2$Statements" "code" "LStatementRules2$Code;" ∈ wzX7_jump := List.mem_cons_of_mem _ (List.mem_append_left _ (List.mem_of_getElem? (i := 2) rfl))
theorem k_X7_jump_sameField_SR_Statements_SR_Formulas_code_LSR_Code : Cond.sameField "StatementRules2$Statements" "StatementRules2$Formulas" "code" "LStatementRules2$Code;" ∈ wzX7_jump := List.mem_cons_of_mem _ (List.mem_append_left _ (List.mem_of_getElem? (i := 3) rfl))
theorem i_X7_jump_X0 : ∀ w ∈ wsX00, w ∈ wzX7_jump := fun _ h => List.mem_cons_of_mem _ (List.mem_append_right _ (List.mem_append_right _ (List.mem_append_right _ (List.mem_append_left _ (h)))))
theorem k_X7_jump_fieldLink_RX7_14_SR_Statements_opens_LSR_Opens : Cond.fieldLink RX7 14 "StatementRules2$Statements" "opens" "LStatementRules2$Opens;" ∈ wzX7_jump := List.mem_cons_of_mem _ (List.mem_append_left _ (List.mem_of_getElem? (i := 4) rfl))
theorem k_X7_jump_fieldLink_RX7_61_SR_Statements_alive_Z : Cond.fieldLink RX7 61 "StatementRules2$Statements" "alive" "Z" ∈ wzX7_jump := List.mem_cons_of_mem _ (List.mem_append_left _ (List.mem_of_getElem? (i := 5) rfl))
theorem i_X7_jump_X5 : ∀ w ∈ wsX50, w ∈ wzX7_jump := fun _ h => List.mem_cons_of_mem _ (List.mem_append_right _ (List.mem_append_right _ (List.mem_append_right _ (List.mem_append_right _ (List.mem_append_left _ (h))))))
set_option maxHeartbeats 4000000 in
set_option maxRecDepth 100000 in
theorem j_X7_jump_129 {p : Program} {e : Env} {s : State} {m : MethodId} {args : Array Value} {below : List Frame} {meth : Method} {c : Code} {A : Nat → Prop} (l : Launch) (dC : Nat → ClassId) (dI : Nat → Nat → Nat) (Q : CQ) (N : Nat) (z9h : Nat) (R : Unit × CS) (hx : p.tables.exec = Jvm.exec) (hb : c.code = cX7_jump) (hr : meth.sig.returnType = none) (hml : c.maxLocals = 5) (hown : s.vm.findClass RX7 = some m.cls) (hts : ∀ w ∈ wzX7_jump, w.before args s = true) (hlocks : meth.locks = false) (hZ : zAMB s) (hA : ∀ q : Nat, s.heap.size ≤ q → A q) (hK : va_K (dC, dI) vwCl (cT Q) s) : ∀ (σ : CS) (H : Heap) (locs : List Loc) (ls : Array Slot), f_X7_jump_129 N σ = some R → z9h ≤ CS.hs σ → CP dC dI Q A s.heap σ H locs → lv_has ls 5 [(0, .ref (Q.o 3))] → W p l e ({ frames := 5, cells := CS.hs R.2 - z9h, slots := 17 * (CS.hs R.2 - z9h), locals := 60 * 5 }) s m args below meth c H locs (CS.hs σ - z9h) (17 * (CS.hs σ - z9h)) (MQ below (va_Qv (fun (_ : Unit) => True) (fun (_ : Unit) (t : State) => zPost dC dI A (cW Q R.2) (cT Q) t ∧ t.heap.size = CS.hs R.2) A) args s (CS.hs R.2 - z9h) (17 * (CS.hs R.2 - z9h)) A) (F0 m 129 ls []) := by
  intro σ  H locs ls hf h0 hC hl
  unfold f_X7_jump_129 at hf
  refine lv_aload_n hx hb dX7_jump_129 rfl (lv_at hl 0 rfl) ?_
  refine lv_iconst (v := 0) hx hb dX7_jump_130 (by decide) ?_
  refine cP_36 (v := 0) hx hb hts i_X7_jump_X7 hown hK hC (hts (.fieldLink RX7 61 "StatementRules2$Statements" "alive" "Z") k_X7_jump_fieldLink_RX7_61_SR_Statements_alive_Z) (fun _ q9 => q9) dX7_jump_131 (by decide) (fun H locs hC => ?_)
  obtain rfl := Option.some.inj hf
  exact W.vret hx hb hr (fun t ht hW => ⟨⟨(), rfl, trivial, ⟨by rw [ht]; exact hC.1, va_K.moved hW.alike hK, hC.2.1⟩, by rw [ht]; exact hC.2.2.2⟩, hC.2.2.1.F ht⟩) hC.2.2.1.2.2 dX7_jump_134
set_option maxHeartbeats 4000000 in
set_option maxRecDepth 100000 in
theorem j_X7_jump_72 {p : Program} {e : Env} {s : State} {m : MethodId} {args : Array Value} {below : List Frame} {meth : Method} {c : Code} {A : Nat → Prop} (l : Launch) (dC : Nat → ClassId) (dI : Nat → Nat → Nat) (Q : CQ) (N : Nat) (z9h : Nat) (R : Unit × CS) (hx : p.tables.exec = Jvm.exec) (hb : c.code = cX7_jump) (hr : meth.sig.returnType = none) (hml : c.maxLocals = 5) (hown : s.vm.findClass RX7 = some m.cls) (hts : ∀ w ∈ wzX7_jump, w.before args s = true) (hlocks : meth.locks = false) (hZ : zAMB s) (hA : ∀ q : Nat, s.heap.size ≤ q → A q) (hK : va_K (dC, dI) vwCl (cT Q) s) : ∀ (σ : CS) (x1 : Int32) (x3 : Int32) (H : Heap) (locs : List Loc) (ls : Array Slot), f_X7_jump_72 N σ x1 x3 = some R → z9h ≤ CS.hs σ → CP dC dI Q A s.heap σ H locs → lv_has ls 5 [(0, .ref (Q.o 3)), (1, .int x1), (3, .int x3)] → W p l e ({ frames := 5, cells := CS.hs R.2 - z9h, slots := 17 * (CS.hs R.2 - z9h), locals := 60 * 5 }) s m args below meth c H locs (CS.hs σ - z9h) (17 * (CS.hs σ - z9h)) (MQ below (va_Qv (fun (_ : Unit) => True) (fun (_ : Unit) (t : State) => zPost dC dI A (cW Q R.2) (cT Q) t ∧ t.heap.size = CS.hs R.2) A) args s (CS.hs R.2 - z9h) (17 * (CS.hs R.2 - z9h)) A) (F0 m 72 ls []) := by
  intro σ x1 x3 H locs ls hf h0 hC hl
  unfold f_X7_jump_72 at hf
  refine lv_aload_n hx hb dX7_jump_72 rfl (lv_at hl 0 rfl) ?_
  refine lv_bipush (v := 59) hx hb dX7_jump_73 (by decide) ?_
  obtain ⟨p19, hcp19, hf⟩ := hf_bind hf
  have mo20 : CS.hs σ ≤ CS.hs p19.2 := Mono.go hcp19 (m_X1_expect N σ 59)
  have hr9 : CS.hs p19.2 ≤ CS.hs R.2 := Mono.go hf (mono_bind (m_X6_row N p19.2 x3) (fun p23 => (mono_oc (m_X7_jump_129 N p23.2) (fun a28 => (mono_bind (m_X6_addJump N p23.2 a28 x1) (fun p29 => (mono_ite (mono_ite (mono_bind (m_X7_leave N p29.2 (CS.o p29.2 a28 9) (CS.o p29.2 a28 2)) (fun p35 => (m_X7_jump_129 N p35.2))) mono_none) (mono_ite (mono_bind (m_X7_leave N p29.2 (CS.o p29.2 a28 10) (CS.o p29.2 a28 2)) (fun p40 => (m_X7_jump_129 N p40.2))) mono_none))))))))
  have hFc := cFree hC hA
  refine va_callv (va_runU (As := [.int 59]) (rest := []) ⟨hx, hb, hml, hown, hts⟩ (c_X1_expect l dC dI Q N σ 59 p19 hcp19) (va_cwU 1 hts hX7_jump_X1_expect_u155 rfl rfl rfl rfl (by decide +kernel) ⟨(show 4 + 1 ≤ 5 by omega), (show 8 + (2 + 11) + 60 * 4 ≤ 60 * 5 by omega)⟩) ⟨zPre.blind, va_recv hK hC.1 (ci := 6) (q0 := 3) rfl rfl, cPre_go hZ hK hC⟩ rfl rfl hl.1 rfl (lv_room (Nat.le_of_ble_eq_true rfl)) dX7_jump_75 (cAcc h0 mo20 hr9)) hC.2.2.1 (fun q _ h => hFc q h) hFc (fun u9 t9 H1 locs ht hvm hw hB hz1 hk1 hS => ?_)
  obtain ⟨⟨hP, hK1, hD1⟩, hsz1⟩ := hB
  rw [ht] at hP hsz1
  have hC : CP dC dI Q A s.heap p19.2 H1 locs := ⟨hP, hD1.weaken (fun _ _ _ h => hFc _ h), hS, hsz1⟩
  generalize H1 = H at hC ⊢
  have h22 : z9h ≤ CS.hs p19.2 := Nat.le_trans h0 mo20
  refine W.widen (k := CS.hs p19.2 - z9h) (n := 17 * (CS.hs p19.2 - z9h)) (cAcc2 h0 mo20) (cAcc3 h0 mo20) ?_
  refine lv_aload_n hx hb dX7_jump_78 rfl (lv_at hl 0 rfl) ?_
  refine cG_35 hx hb hts i_X7_jump_X7 hown hK hC (hts (.fieldLink RX7 14 "StatementRules2$Statements" "opens" "LStatementRules2$Opens;") k_X7_jump_fieldLink_RX7_14_SR_Statements_opens_LSR_Opens) (fun _ q9 => q9) dX7_jump_79 ?_
  refine lv_iload_n hx hb dX7_jump_82 rfl (lv_at hl 2 rfl) ?_
  obtain ⟨p23, hcp23, hf⟩ := hf_bind hf
  have mo24 : CS.hs p19.2 ≤ CS.hs p23.2 := Mono.go hcp23 (m_X6_row N p19.2 x3)
  have hr9 : CS.hs p23.2 ≤ CS.hs R.2 := Mono.go hf (mono_oc (m_X7_jump_129 N p23.2) (fun a28 => (mono_bind (m_X6_addJump N p23.2 a28 x1) (fun p29 => (mono_ite (mono_ite (mono_bind (m_X7_leave N p29.2 (CS.o p29.2 a28 9) (CS.o p29.2 a28 2)) (fun p35 => (m_X7_jump_129 N p35.2))) mono_none) (mono_ite (mono_bind (m_X7_leave N p29.2 (CS.o p29.2 a28 10) (CS.o p29.2 a28 2)) (fun p40 => (m_X7_jump_129 N p40.2))) mono_none))))))
  have hFc := cFree hC hA
  refine va_callq (va_runV (As := [.int x3]) (rest := []) ⟨hx, hb, hml, hown, hts⟩ (c_X6_row l dC dI Q N p19.2 x3 p23 hcp23) (cwV 1 hts hX7_jump_X6_row_v93 rfl rfl rfl (by decide +kernel) ⟨(show 1 + 1 ≤ 5 by omega), (show 8 + (2 + 11) + 60 * 1 ≤ 60 * 5 by omega)⟩) ⟨zPre.blind, va_recv hK hC.1 (ci := 5) (q0 := 6) rfl rfl, cPre_go hZ hK hC⟩ rfl rfl hl.1 rfl (lv_room (Nat.le_of_ble_eq_true rfl)) dX7_jump_83 (cAcc h22 mo24 hr9)) hC.2.2.1 (fun q _ h => hFc q h) hFc (fun r25 u9 t9 H1 locs ht hvm hw hB hz1 hk1 hS => ?_)
  obtain ⟨⟨hP, hK1, hD1⟩, hsz1⟩ := hB
  rw [ht] at hP hsz1
  have hC : CP dC dI Q A s.heap p23.2 H1 locs := ⟨hP, hD1.weaken (fun _ _ _ h => hFc _ h), hS, hsz1⟩
  generalize H1 = H at hC ⊢
  have h26 : z9h ≤ CS.hs p23.2 := Nat.le_trans h22 mo24
  refine W.widen (k := CS.hs p23.2 - z9h) (n := 17 * (CS.hs p23.2 - z9h)) (cAcc2 h22 mo24) (cAcc3 h22 mo24) ?_
  obtain rfl : r25 = p23.1 := hw
  rcases hf_oc hf with ⟨q27, hf⟩ | ⟨a28, q27, hf⟩
  ·
    refine W.eq (congrArg (fun v9 => F0 m 86 ls (va_rf v9 :: [])) q27) ?_
    refine W.eq (g2 := F0 m 86 ls (.null :: [])) rfl ?_
    refine lv_astoreN (lv' := [(4, .null), (0, .ref (Q.o 3)), (1, .int x1), (3, .int x3)]) hx hb dX7_jump_86 hl (by decide) rfl (fun ls hl => ?_)
    refine lv_aloadN hx hb dX7_jump_88 (lv_at hl 0 rfl) ?_
    refine lv_ifnullN (tgt := 129) hx hb dX7_jump_90 (by decide) ?_
    exact j_X7_jump_129 l dC dI Q N z9h R hx hb hr hml hown hts hlocks hZ hA hK p23.2 _ _ _ hf h26 hC (lv_sub hl [1] rfl)
  ·
    refine W.eq (congrArg (fun v9 => F0 m 86 ls (va_rf v9 :: [])) q27) ?_
    refine W.eq (g2 := F0 m 86 ls (.ref a28 :: [])) rfl ?_
    refine lv_astore (lv' := [(4, .ref a28), (0, .ref (Q.o 3)), (1, .int x1), (3, .int x3)]) hx hb dX7_jump_86 hl (by decide) rfl (fun ls hl => ?_)
    refine lv_aload hx hb dX7_jump_88 (lv_at hl 0 rfl) ?_
    refine lv_ifnull hx hb dX7_jump_90 ?_
    refine lv_aload_n hx hb dX7_jump_93 rfl (lv_at hl 1 rfl) ?_
    refine cG_35 hx hb hts i_X7_jump_X7 hown hK hC (hts (.fieldLink RX7 14 "StatementRules2$Statements" "opens" "LStatementRules2$Opens;") k_X7_jump_fieldLink_RX7_14_SR_Statements_opens_LSR_Opens) (fun _ q9 => q9) dX7_jump_94 ?_
    refine lv_aload hx hb dX7_jump_97 (lv_at hl 0 rfl) ?_
    refine lv_iload_n hx hb dX7_jump_99 rfl (lv_at hl 2 rfl) ?_
    obtain ⟨p29, hcp29, hf⟩ := hf_bind hf
    have mo30 : CS.hs p23.2 ≤ CS.hs p29.2 := Mono.go hcp29 (m_X6_addJump N p23.2 a28 x1)
    have hr9 : CS.hs p29.2 ≤ CS.hs R.2 := Mono.go hf (mono_ite (mono_ite (mono_bind (m_X7_leave N p29.2 (CS.o p29.2 a28 9) (CS.o p29.2 a28 2)) (fun p35 => (m_X7_jump_129 N p35.2))) mono_none) (mono_ite (mono_bind (m_X7_leave N p29.2 (CS.o p29.2 a28 10) (CS.o p29.2 a28 2)) (fun p40 => (m_X7_jump_129 N p40.2))) mono_none))
    have hFc := cFree hC hA
    refine va_callv (va_runV (As := [.ref a28, .int x1]) (rest := []) ⟨hx, hb, hml, hown, hts⟩ (c_X6_addJump l dC dI Q N p23.2 a28 x1 p29 hcp29) (cwV 2 hts hX7_jump_X6_addJump_v280 rfl rfl rfl (by decide +kernel) ⟨(show 2 + 1 ≤ 5 by omega), (show 8 + (3 + 11) + 60 * 2 ≤ 60 * 5 by omega)⟩) ⟨zPre.blind, va_recv hK hC.1 (ci := 5) (q0 := 6) rfl rfl, cPre_go hZ hK hC⟩ rfl rfl hl.1 rfl (lv_room (Nat.le_of_ble_eq_true rfl)) dX7_jump_100 (cAcc h26 mo30 hr9)) hC.2.2.1 (fun q _ h => hFc q h) hFc (fun u9 t9 H1 locs ht hvm hw hB hz1 hk1 hS => ?_)
    obtain ⟨⟨hP, hK1, hD1⟩, hsz1⟩ := hB
    rw [ht] at hP hsz1
    have hC : CP dC dI Q A s.heap p29.2 H1 locs := ⟨hP, hD1.weaken (fun _ _ _ h => hFc _ h), hS, hsz1⟩
    generalize H1 = H at hC ⊢
    have h32 : z9h ≤ CS.hs p29.2 := Nat.le_trans h26 mo30
    refine W.widen (k := CS.hs p29.2 - z9h) (n := 17 * (CS.hs p29.2 - z9h)) (cAcc2 h26 mo30) (cAcc3 h26 mo30) ?_
    refine lv_aload_n hx hb dX7_jump_103 rfl (lv_at hl 1 rfl) ?_
    refine lv_iload_n hx hb dX7_jump_104 rfl (lv_at hl 2 rfl) ?_
    refine lv_if_eq (tgt := 116) hx hb dX7_jump_105 (by decide) (fun c33 => ?_) (fun c33 => ?_)
    ·
      replace hf := (if_pos c33).symm.trans hf
      refine lv_aload hx hb dX7_jump_116 (lv_at hl 0 rfl) ?_
      obtain ⟨b34, hf⟩ := hf_ite hf
      refine pGN_X5_9 (v := (CS.o p29.2 a28 9)) hx hb hts i_X7_jump_X5 hown hK hC (va_Nw.use rfl (hZ.1 (.fieldLinkNest RX7 196 "StatementRules2$Open" "exit" "I" "StatementRules2") (by decide +kernel))) (fun _ q9 => q9) dX7_jump_118 b34 rfl ?_
      refine lv_aload hx hb dX7_jump_121 (lv_at hl 0 rfl) ?_
      refine pGN_X5_2 (v := (CS.o p29.2 a28 2)) hx hb hts i_X7_jump_X5 hown hK hC (va_Nw.use rfl (hZ.1 (.fieldLinkNest RX7 287 "StatementRules2$Open" "depth" "I" "StatementRules2") (by decide +kernel))) (fun _ q9 => q9) dX7_jump_123 b34 rfl ?_
      obtain ⟨p35, hcp35, hf⟩ := hf_bind hf
      have mo36 : CS.hs p29.2 ≤ CS.hs p35.2 := Mono.go hcp35 (m_X7_leave N p29.2 (CS.o p29.2 a28 9) (CS.o p29.2 a28 2))
      have hr9 : CS.hs p35.2 ≤ CS.hs R.2 := Mono.go hf (m_X7_jump_129 N p35.2)
      have hFc := cFree hC hA
      refine va_callv (va_runV (As := [.int (CS.o p29.2 a28 9), .int (CS.o p29.2 a28 2)]) (rest := []) ⟨hx, hb, hml, hown, hts⟩ (c_X7_leave l dC dI Q N p29.2 (CS.o p29.2 a28 9) (CS.o p29.2 a28 2) p35 hcp35) (cwV 2 hts hX7_jump_X7_leave_v288 rfl rfl rfl (by decide +kernel) ⟨(show 3 + 1 ≤ 5 by omega), (show 8 + (3 + 11) + 60 * 3 ≤ 60 * 5 by omega)⟩) ⟨zPre.blind, va_recv hK hC.1 (ci := 6) (q0 := 3) rfl rfl, cPre_go hZ hK hC⟩ rfl rfl hl.1 rfl (lv_room (Nat.le_of_ble_eq_true rfl)) dX7_jump_126 (cAcc h32 mo36 hr9)) hC.2.2.1 (fun q _ h => hFc q h) hFc (fun u9 t9 H1 locs ht hvm hw hB hz1 hk1 hS => ?_)
      obtain ⟨⟨hP, hK1, hD1⟩, hsz1⟩ := hB
      rw [ht] at hP hsz1
      have hC : CP dC dI Q A s.heap p35.2 H1 locs := ⟨hP, hD1.weaken (fun _ _ _ h => hFc _ h), hS, hsz1⟩
      generalize H1 = H at hC ⊢
      have h38 : z9h ≤ CS.hs p35.2 := Nat.le_trans h32 mo36
      refine W.widen (k := CS.hs p35.2 - z9h) (n := 17 * (CS.hs p35.2 - z9h)) (cAcc2 h32 mo36) (cAcc3 h32 mo36) ?_
      exact j_X7_jump_129 l dC dI Q N z9h R hx hb hr hml hown hts hlocks hZ hA hK p35.2 _ _ _ hf h38 hC (lv_sub hl [1] rfl)
    ·
      replace hf := (if_neg c33).symm.trans hf
      refine lv_aload hx hb dX7_jump_108 (lv_at hl 0 rfl) ?_
      obtain ⟨b39, hf⟩ := hf_ite hf
      refine pGN_X5_10 (v := (CS.o p29.2 a28 10)) hx hb hts i_X7_jump_X5 hown hK hC (va_Nw.use rfl (hZ.1 (.fieldLinkNest RX7 284 "StatementRules2$Open" "next" "I" "StatementRules2") (by decide +kernel))) (fun _ q9 => q9) dX7_jump_110 b39 rfl ?_
      refine lv_goto (tgt := 121) hx hb dX7_jump_113 (by decide) ?_
      refine lv_aload hx hb dX7_jump_121 (lv_at hl 0 rfl) ?_
      refine pGN_X5_2 (v := (CS.o p29.2 a28 2)) hx hb hts i_X7_jump_X5 hown hK hC (va_Nw.use rfl (hZ.1 (.fieldLinkNest RX7 287 "StatementRules2$Open" "depth" "I" "StatementRules2") (by decide +kernel))) (fun _ q9 => q9) dX7_jump_123 b39 rfl ?_
      obtain ⟨p40, hcp40, hf⟩ := hf_bind hf
      have mo41 : CS.hs p29.2 ≤ CS.hs p40.2 := Mono.go hcp40 (m_X7_leave N p29.2 (CS.o p29.2 a28 10) (CS.o p29.2 a28 2))
      have hr9 : CS.hs p40.2 ≤ CS.hs R.2 := Mono.go hf (m_X7_jump_129 N p40.2)
      have hFc := cFree hC hA
      refine va_callv (va_runV (As := [.int (CS.o p29.2 a28 10), .int (CS.o p29.2 a28 2)]) (rest := []) ⟨hx, hb, hml, hown, hts⟩ (c_X7_leave l dC dI Q N p29.2 (CS.o p29.2 a28 10) (CS.o p29.2 a28 2) p40 hcp40) (cwV 2 hts hX7_jump_X7_leave_v288 rfl rfl rfl (by decide +kernel) ⟨(show 3 + 1 ≤ 5 by omega), (show 8 + (3 + 11) + 60 * 3 ≤ 60 * 5 by omega)⟩) ⟨zPre.blind, va_recv hK hC.1 (ci := 6) (q0 := 3) rfl rfl, cPre_go hZ hK hC⟩ rfl rfl hl.1 rfl (lv_room (Nat.le_of_ble_eq_true rfl)) dX7_jump_126 (cAcc h32 mo41 hr9)) hC.2.2.1 (fun q _ h => hFc q h) hFc (fun u9 t9 H1 locs ht hvm hw hB hz1 hk1 hS => ?_)
      obtain ⟨⟨hP, hK1, hD1⟩, hsz1⟩ := hB
      rw [ht] at hP hsz1
      have hC : CP dC dI Q A s.heap p40.2 H1 locs := ⟨hP, hD1.weaken (fun _ _ _ h => hFc _ h), hS, hsz1⟩
      generalize H1 = H at hC ⊢
      have h43 : z9h ≤ CS.hs p40.2 := Nat.le_trans h32 mo41
      refine W.widen (k := CS.hs p40.2 - z9h) (n := 17 * (CS.hs p40.2 - z9h)) (cAcc2 h32 mo41) (cAcc3 h32 mo41) ?_
      exact j_X7_jump_129 l dC dI Q N z9h R hx hb hr hml hown hts hlocks hZ hA hK p40.2 _ _ _ hf h43 hC (lv_sub hl [1] rfl)
set_option maxHeartbeats 4000000 in
set_option maxRecDepth 100000 in
theorem c_X7_jump (l : Launch) (dC : Nat → ClassId) (dI : Nat → Nat → Nat) (Q : CQ) (N : Nat) (σ : CS) (R : Unit × CS) (hf : f_X7_jump N σ = some R) : Met l yX7_jump wzX7_jump ({ frames := 5, cells := CS.hs R.2 - CS.hs σ, slots := 17 * (CS.hs R.2 - CS.hs σ), locals := 60 * 5 }) (va_Pc [.ref (Q.o 3)] (zPre dC dI (CS.hs σ) (cW Q σ) (cT Q))) (va_Qv (fun (_ : Unit) => True) (fun (_ : Unit) (t : State) => zPost dC dI (va_A (cW Q σ) (CS.hs σ)) (cW Q R.2) (cT Q) t ∧ t.heap.size = CS.hs R.2) (va_A (cW Q σ) (CS.hs σ))) (CS.hs R.2 - CS.hs σ) (17 * (CS.hs R.2 - CS.hs σ)) (va_A (cW Q σ) (CS.hs σ)) := by
  refine Met.ofW (cc := cX7_jump) (maxL := 5) (ret := none) (by decide) rfl ?_
  intro p e s m args below meth c s₁ B hml hv
  obtain ⟨rfl, hsz, hZ, hP, hK, hD0⟩ := hv
  have hx := B.exec
  have hb := B.bytes
  have hr := B.returns
  have hts := atoms_spec (ws := wzX7_jump) B.pre
  have hown : s.vm.findClass RX7 = some m.cls := findClass_of_methodNamed B.named
  have hlocks := B.notSynchronized
  have hD := hD0.self (sz := CS.hs σ)
  generalize hAe : va_A (cW Q σ) (CS.hs σ) = A at hD ⊢
  have hA : ∀ q : Nat, s.heap.size ≤ q → A q := fun q h => by rw [← hAe]; exact Or.inr (hsz ▸ h)
  have hC : CP dC dI Q A s.heap σ s.heap [] := ⟨hP, hD, va_S.rf, hsz⟩
  have h0 : CS.hs σ ≤ CS.hs σ := Nat.le_refl _
  have hl := lv_entry ([.ref (Q.o 3)]) (n := 5) (Nat.le_of_ble_eq_true rfl)
  rw [lg_entry_eq]
  generalize (lg_sl ([.ref (Q.o 3)]) ++ List.replicate (5 - (lg_sl ([.ref (Q.o 3)])).length) Slot.unset).toArray = ls at hl ⊢
  have hl : lv_has ls 5 [(0, .ref (Q.o 3))] := hl
  unfold f_X7_jump at hf
  refine W.widen (k := CS.hs σ - CS.hs σ) (n := 17 * (CS.hs σ - CS.hs σ)) (Nat.zero_le _) (Nat.zero_le _) ?_
  refine lv_aload_n hx hb dX7_jump_0 rfl (lv_at hl 0 rfl) ?_
  refine lv_sipush (v := 209) hx hb dX7_jump_1 (by decide) ?_
  obtain ⟨p1, hcp1, hf⟩ := hf_bind hf
  have mo2 : CS.hs σ ≤ CS.hs p1.2 := Mono.go hcp1 (m_X1_found N σ 209)
  have hr9 : CS.hs p1.2 ≤ CS.hs R.2 := Mono.go hf (mono_bind (m_X9_advance N (CS.setI p1.2 26 ((p1.2.i 26) + 1))) (fun p5 => (mono_bind (m_X1_found N p5.2 2) (fun p9 => (mono_ite (mono_bind (m_X6_nearest N p9.2 p1.1) (fun p14 => (mono_ite (m_X7_jump_72 N p14.2 p1.1 p14.1) (mono_bind (m_X1_fail N p14.2 5 (p1.2.i 44)) (fun p44 => (m_X7_jump_72 N p44.2 p1.1 p14.1)))))) (mono_bind (m_X7_labelTarget N p9.2 p1.1) (fun p48 => (m_X7_jump_72 N p48.2 p1.1 p48.1))))))))
  have hFc := cFree hC hA
  refine va_calli (va_runU (As := [.int 209]) (rest := []) ⟨hx, hb, hml, hown, hts⟩ (c_X1_found l dC dI Q N σ 209 p1 hcp1) (va_cwU 1 hts hX7_jump_X1_found_u110 rfl rfl rfl rfl (by decide +kernel) ⟨(show 1 + 1 ≤ 5 by omega), (show 8 + (2 + 11) + 60 * 1 ≤ 60 * 5 by omega)⟩) ⟨zPre.blind, va_recv hK hC.1 (ci := 6) (q0 := 3) rfl rfl, cPre_go hZ hK hC⟩ rfl rfl hl.1 rfl (lv_room (Nat.le_of_ble_eq_true rfl)) dX7_jump_4 (cAcc h0 mo2 hr9)) hC.2.2.1 (fun q _ h => hFc q h) hFc (fun r3 u9 t9 H1 locs ht hvm hw hB hz1 hk1 hS => ?_)
  obtain ⟨⟨hP, hK1, hD1⟩, hsz1⟩ := hB
  rw [ht] at hP hsz1
  have hC : CP dC dI Q A s.heap p1.2 H1 locs := ⟨hP, hD1.weaken (fun _ _ _ h => hFc _ h), hS, hsz1⟩
  generalize H1 = H at hC ⊢
  have h4 : (CS.hs σ) ≤ CS.hs p1.2 := Nat.le_trans h0 mo2
  refine W.widen (k := CS.hs p1.2 - (CS.hs σ)) (n := 17 * (CS.hs p1.2 - (CS.hs σ))) (cAcc2 h0 mo2) (cAcc3 h0 mo2) ?_
  obtain rfl : r3 = p1.1 := hw
  refine lv_istore_n (lv' := [(1, .int p1.1), (0, .ref (Q.o 3))]) hx hb dX7_jump_7 rfl hl (by decide) rfl (fun ls hl => ?_)
  refine lv_aload_n hx hb dX7_jump_8 rfl (lv_at hl 1 rfl) ?_
  refine cG_28 hx hb hts i_X7_jump_X7 hown hK hC (hts (.fieldLink RX7 71 "StatementRules2$Statements" "tokens" "LStatementRules2$Tokens;") k_X7_jump_fieldLink_RX7_71_SR_Statements_tokens_LSR_Tokens) (fun x9 q9 => u_same (hts (.sameField "StatementRules2$Statements" "StatementRules2$Formulas" "tokens" "LStatementRules2$Tokens;") k_X7_jump_sameField_SR_Statements_SR_Formulas_tokens_LSR_Tokens) x9 q9) dX7_jump_9 ?_
  refine cGN_44 (v := (p1.2.i 44)) hx hb hts i_X7_jump_X9 hown hK hC (va_Nw.use rfl (hZ.1 (.fieldLinkNest RX7 143 "StatementRules2$Tokens" "place" "I" "StatementRules2") (by decide +kernel))) (fun _ q9 => q9) dX7_jump_12 rfl ?_
  refine lv_istore_n (lv' := [(2, .int (p1.2.i 44)), (1, .int p1.1), (0, .ref (Q.o 3))]) hx hb dX7_jump_15 rfl hl (by decide) rfl (fun ls hl => ?_)
  refine lv_aload_n hx hb dX7_jump_16 rfl (lv_at hl 2 rfl) ?_
  refine cG_29 hx hb hts i_X7_jump_X7 hown hK hC (hts (.fieldLink RX7 20 "StatementRules2$Statements" "code" "LStatementRules2$Code;") k_X7_jump_fieldLink_RX7_20_SR_Statements_code_LSR_Code) (fun x9 q9 => u_same (hts (.sameField "StatementRules2$Statements" "StatementRules2$Formulas" "code" "LStatementRules2$Code;") k_X7_jump_sameField_SR_Statements_SR_Formulas_code_LSR_Code) x9 q9) dX7_jump_17 ?_
  refine lv_dup hx hb dX7_jump_20 rfl ?_
  refine cGN_26 (v := (p1.2.i 26)) hx hb hts i_X7_jump_X0 hown hK hC (va_Nw.use rfl (hZ.1 (.fieldLinkNest RX7 270 "StatementRules2$Code" "jumps" "I" "StatementRules2") (by decide +kernel))) (fun _ q9 => q9) dX7_jump_21 rfl ?_
  refine lv_iconst (v := 1) hx hb dX7_jump_24 (by decide) ?_
  refine lv_iadd hx hb dX7_jump_25 ?_
  refine cPN_26 (v := ((p1.2.i 26) + 1)) hx hb hts i_X7_jump_X0 hown hK hC (va_Nw.use rfl (hZ.1 (.fieldLinkNest RX7 270 "StatementRules2$Code" "jumps" "I" "StatementRules2") (by decide +kernel))) (fun _ q9 => q9) dX7_jump_26 (fun H locs hC => ?_)
  refine lv_aload_n hx hb dX7_jump_29 rfl (lv_at hl 2 rfl) ?_
  refine cG_28 hx hb hts i_X7_jump_X7 hown hK hC (hts (.fieldLink RX7 71 "StatementRules2$Statements" "tokens" "LStatementRules2$Tokens;") k_X7_jump_fieldLink_RX7_71_SR_Statements_tokens_LSR_Tokens) (fun x9 q9 => u_same (hts (.sameField "StatementRules2$Statements" "StatementRules2$Formulas" "tokens" "LStatementRules2$Tokens;") k_X7_jump_sameField_SR_Statements_SR_Formulas_tokens_LSR_Tokens) x9 q9) dX7_jump_30 ?_
  obtain ⟨p5, hcp5, hf⟩ := hf_bind hf
  have mo6 : CS.hs p1.2 ≤ CS.hs p5.2 := Mono.go hcp5 (m_X9_advance N (CS.setI p1.2 26 ((p1.2.i 26) + 1)))
  have hr9 : CS.hs p5.2 ≤ CS.hs R.2 := Mono.go hf (mono_bind (m_X1_found N p5.2 2) (fun p9 => (mono_ite (mono_bind (m_X6_nearest N p9.2 p1.1) (fun p14 => (mono_ite (m_X7_jump_72 N p14.2 p1.1 p14.1) (mono_bind (m_X1_fail N p14.2 5 (p1.2.i 44)) (fun p44 => (m_X7_jump_72 N p44.2 p1.1 p14.1)))))) (mono_bind (m_X7_labelTarget N p9.2 p1.1) (fun p48 => (m_X7_jump_72 N p48.2 p1.1 p48.1))))))
  have hFc := cFree hC hA
  refine va_callv (va_runV (As := []) (rest := []) ⟨hx, hb, hml, hown, hts⟩ (c_X9_advance l dC dI Q N (CS.setI p1.2 26 ((p1.2.i 26) + 1)) p5 hcp5) (cwV 0 hts hX7_jump_X9_advance_v146 rfl rfl rfl (by decide +kernel) ⟨(show 3 + 1 ≤ 5 by omega), (show 8 + (2 + 11) + 60 * 3 ≤ 60 * 5 by omega)⟩) ⟨zPre.blind, va_recv hK hC.1 (ci := 8) (q0 := 4) rfl rfl, cPre_go hZ hK hC⟩ rfl rfl hl.1 rfl (lv_room (Nat.le_of_ble_eq_true rfl)) dX7_jump_33 (cAcc h4 mo6 hr9)) hC.2.2.1 (fun q _ h => hFc q h) hFc (fun u9 t9 H1 locs ht hvm hw hB hz1 hk1 hS => ?_)
  obtain ⟨⟨hP, hK1, hD1⟩, hsz1⟩ := hB
  rw [ht] at hP hsz1
  have hC : CP dC dI Q A s.heap p5.2 H1 locs := ⟨hP, hD1.weaken (fun _ _ _ h => hFc _ h), hS, hsz1⟩
  generalize H1 = H at hC ⊢
  have h8 : (CS.hs σ) ≤ CS.hs p5.2 := Nat.le_trans h4 mo6
  refine W.widen (k := CS.hs p5.2 - (CS.hs σ)) (n := 17 * (CS.hs p5.2 - (CS.hs σ))) (cAcc2 h4 mo6) (cAcc3 h4 mo6) ?_
  refine lv_aload_n hx hb dX7_jump_36 rfl (lv_at hl 2 rfl) ?_
  refine lv_iconst (v := 2) hx hb dX7_jump_37 (by decide) ?_
  obtain ⟨p9, hcp9, hf⟩ := hf_bind hf
  have mo10 : CS.hs p5.2 ≤ CS.hs p9.2 := Mono.go hcp9 (m_X1_found N p5.2 2)
  have hr9 : CS.hs p9.2 ≤ CS.hs R.2 := Mono.go hf (mono_ite (mono_bind (m_X6_nearest N p9.2 p1.1) (fun p14 => (mono_ite (m_X7_jump_72 N p14.2 p1.1 p14.1) (mono_bind (m_X1_fail N p14.2 5 (p1.2.i 44)) (fun p44 => (m_X7_jump_72 N p44.2 p1.1 p14.1)))))) (mono_bind (m_X7_labelTarget N p9.2 p1.1) (fun p48 => (m_X7_jump_72 N p48.2 p1.1 p48.1))))
  have hFc := cFree hC hA
  refine va_calli (va_runU (As := [.int 2]) (rest := []) ⟨hx, hb, hml, hown, hts⟩ (c_X1_found l dC dI Q N p5.2 2 p9 hcp9) (va_cwU 1 hts hX7_jump_X1_found_u110 rfl rfl rfl rfl (by decide +kernel) ⟨(show 1 + 1 ≤ 5 by omega), (show 8 + (2 + 11) + 60 * 1 ≤ 60 * 5 by omega)⟩) ⟨zPre.blind, va_recv hK hC.1 (ci := 6) (q0 := 3) rfl rfl, cPre_go hZ hK hC⟩ rfl rfl hl.1 rfl (lv_room (Nat.le_of_ble_eq_true rfl)) dX7_jump_38 (cAcc h8 mo10 hr9)) hC.2.2.1 (fun q _ h => hFc q h) hFc (fun r11 u9 t9 H1 locs ht hvm hw hB hz1 hk1 hS => ?_)
  obtain ⟨⟨hP, hK1, hD1⟩, hsz1⟩ := hB
  rw [ht] at hP hsz1
  have hC : CP dC dI Q A s.heap p9.2 H1 locs := ⟨hP, hD1.weaken (fun _ _ _ h => hFc _ h), hS, hsz1⟩
  generalize H1 = H at hC ⊢
  have h12 : (CS.hs σ) ≤ CS.hs p9.2 := Nat.le_trans h8 mo10
  refine W.widen (k := CS.hs p9.2 - (CS.hs σ)) (n := 17 * (CS.hs p9.2 - (CS.hs σ))) (cAcc2 h8 mo10) (cAcc3 h8 mo10) ?_
  obtain rfl : r11 = p9.1 := hw
  refine lv_if_eq (tgt := 53) hx hb dX7_jump_41 (by decide) (fun c13 => ?_) (fun c13 => ?_)
  ·
    replace hf := (if_pos c13).symm.trans hf
    refine lv_aload_n hx hb dX7_jump_53 rfl (lv_at hl 2 rfl) ?_
    refine cG_35 hx hb hts i_X7_jump_X7 hown hK hC (hts (.fieldLink RX7 14 "StatementRules2$Statements" "opens" "LStatementRules2$Opens;") k_X7_jump_fieldLink_RX7_14_SR_Statements_opens_LSR_Opens) (fun _ q9 => q9) dX7_jump_54 ?_
    refine lv_iload_n hx hb dX7_jump_57 rfl (lv_at hl 1 rfl) ?_
    obtain ⟨p14, hcp14, hf⟩ := hf_bind hf
    have mo15 : CS.hs p9.2 ≤ CS.hs p14.2 := Mono.go hcp14 (m_X6_nearest N p9.2 p1.1)
    have hr9 : CS.hs p14.2 ≤ CS.hs R.2 := Mono.go hf (mono_ite (m_X7_jump_72 N p14.2 p1.1 p14.1) (mono_bind (m_X1_fail N p14.2 5 (p1.2.i 44)) (fun p44 => (m_X7_jump_72 N p44.2 p1.1 p14.1))))
    have hFc := cFree hC hA
    refine va_calli (va_runV (As := [.int p1.1]) (rest := []) ⟨hx, hb, hml, hown, hts⟩ (c_X6_nearest l dC dI Q N p9.2 p1.1 p14 hcp14) (cwV 1 hts hX7_jump_X6_nearest_v277 rfl rfl rfl (by decide +kernel) ⟨(show 2 + 1 ≤ 5 by omega), (show 8 + (4 + 11) + 60 * 2 ≤ 60 * 5 by omega)⟩) ⟨zPre.blind, va_recv hK hC.1 (ci := 5) (q0 := 6) rfl rfl, cPre_go hZ hK hC⟩ rfl rfl hl.1 rfl (lv_room (Nat.le_of_ble_eq_true rfl)) dX7_jump_58 (cAcc h12 mo15 hr9)) hC.2.2.1 (fun q _ h => hFc q h) hFc (fun r16 u9 t9 H1 locs ht hvm hw hB hz1 hk1 hS => ?_)
    obtain ⟨⟨hP, hK1, hD1⟩, hsz1⟩ := hB
    rw [ht] at hP hsz1
    have hC : CP dC dI Q A s.heap p14.2 H1 locs := ⟨hP, hD1.weaken (fun _ _ _ h => hFc _ h), hS, hsz1⟩
    generalize H1 = H at hC ⊢
    have h17 : (CS.hs σ) ≤ CS.hs p14.2 := Nat.le_trans h12 mo15
    refine W.widen (k := CS.hs p14.2 - (CS.hs σ)) (n := 17 * (CS.hs p14.2 - (CS.hs σ))) (cAcc2 h12 mo15) (cAcc3 h12 mo15) ?_
    obtain rfl : r16 = p14.1 := hw
    refine lv_istore_n (lv' := [(3, .int p14.1), (2, .int (p1.2.i 44)), (1, .int p1.1), (0, .ref (Q.o 3))]) hx hb dX7_jump_61 rfl hl (by decide) rfl (fun ls hl => ?_)
    refine lv_iload_n hx hb dX7_jump_62 rfl (lv_at hl 0 rfl) ?_
    refine lv_if_ge (tgt := 72) hx hb dX7_jump_63 (by decide) (fun c18 => ?_) (fun c18 => ?_)
    ·
      replace hf := (if_pos c18).symm.trans hf
      exact j_X7_jump_72 l dC dI Q N (CS.hs σ) R hx hb hr hml hown hts hlocks hZ hA hK p14.2 p1.1 p14.1 _ _ _ hf h17 hC (lv_sub hl [3, 2, 0] rfl)
    ·
      replace hf := (if_neg c18).symm.trans hf
      refine lv_aload_n hx hb dX7_jump_66 rfl (lv_at hl 3 rfl) ?_
      refine lv_iconst (v := 5) hx hb dX7_jump_67 (by decide) ?_
      refine lv_iload_n hx hb dX7_jump_68 rfl (lv_at hl 1 rfl) ?_
      obtain ⟨p44, hcp44, hf⟩ := hf_bind hf
      have mo45 : CS.hs p14.2 ≤ CS.hs p44.2 := Mono.go hcp44 (m_X1_fail N p14.2 5 (p1.2.i 44))
      have hr9 : CS.hs p44.2 ≤ CS.hs R.2 := Mono.go hf (m_X7_jump_72 N p44.2 p1.1 p14.1)
      have hFc := cFree hC hA
      refine va_callv (va_runU (As := [.int 5, .int (p1.2.i 44)]) (rest := []) ⟨hx, hb, hml, hown, hts⟩ (c_X1_fail l dC dI Q N p14.2 5 (p1.2.i 44) p44 hcp44) (va_cwU 2 hts hX7_jump_X1_fail_u88 rfl rfl rfl rfl (by decide +kernel) ⟨(show 2 + 1 ≤ 5 by omega), (show 8 + (3 + 11) + 60 * 2 ≤ 60 * 5 by omega)⟩) ⟨zPre.blind, va_recv hK hC.1 (ci := 6) (q0 := 3) rfl rfl, cPre_go hZ hK hC⟩ rfl rfl hl.1 rfl (lv_room (Nat.le_of_ble_eq_true rfl)) dX7_jump_69 (cAcc h17 mo45 hr9)) hC.2.2.1 (fun q _ h => hFc q h) hFc (fun u9 t9 H1 locs ht hvm hw hB hz1 hk1 hS => ?_)
      obtain ⟨⟨hP, hK1, hD1⟩, hsz1⟩ := hB
      rw [ht] at hP hsz1
      have hC : CP dC dI Q A s.heap p44.2 H1 locs := ⟨hP, hD1.weaken (fun _ _ _ h => hFc _ h), hS, hsz1⟩
      generalize H1 = H at hC ⊢
      have h47 : (CS.hs σ) ≤ CS.hs p44.2 := Nat.le_trans h17 mo45
      refine W.widen (k := CS.hs p44.2 - (CS.hs σ)) (n := 17 * (CS.hs p44.2 - (CS.hs σ))) (cAcc2 h17 mo45) (cAcc3 h17 mo45) ?_
      exact j_X7_jump_72 l dC dI Q N (CS.hs σ) R hx hb hr hml hown hts hlocks hZ hA hK p44.2 p1.1 p14.1 _ _ _ hf h47 hC (lv_sub hl [3, 2, 0] rfl)
  ·
    replace hf := (if_neg c13).symm.trans hf
    refine lv_aload_n hx hb dX7_jump_44 rfl (lv_at hl 2 rfl) ?_
    refine lv_iload_n hx hb dX7_jump_45 rfl (lv_at hl 1 rfl) ?_
    obtain ⟨p48, hcp48, hf⟩ := hf_bind hf
    have mo49 : CS.hs p9.2 ≤ CS.hs p48.2 := Mono.go hcp48 (m_X7_labelTarget N p9.2 p1.1)
    have hr9 : CS.hs p48.2 ≤ CS.hs R.2 := Mono.go hf (m_X7_jump_72 N p48.2 p1.1 p48.1)
    have hFc := cFree hC hA
    refine va_calli (va_runV (As := [.int p1.1]) (rest := []) ⟨hx, hb, hml, hown, hts⟩ (c_X7_labelTarget l dC dI Q N p9.2 p1.1 p48 hcp48) (cwV 1 hts hX7_jump_X7_labelTarget_v273 rfl rfl rfl (by decide +kernel) ⟨(show 4 + 1 ≤ 5 by omega), (show 8 + (3 + 11) + 60 * 4 ≤ 60 * 5 by omega)⟩) ⟨zPre.blind, va_recv hK hC.1 (ci := 6) (q0 := 3) rfl rfl, cPre_go hZ hK hC⟩ rfl rfl hl.1 rfl (lv_room (Nat.le_of_ble_eq_true rfl)) dX7_jump_46 (cAcc h12 mo49 hr9)) hC.2.2.1 (fun q _ h => hFc q h) hFc (fun r50 u9 t9 H1 locs ht hvm hw hB hz1 hk1 hS => ?_)
    obtain ⟨⟨hP, hK1, hD1⟩, hsz1⟩ := hB
    rw [ht] at hP hsz1
    have hC : CP dC dI Q A s.heap p48.2 H1 locs := ⟨hP, hD1.weaken (fun _ _ _ h => hFc _ h), hS, hsz1⟩
    generalize H1 = H at hC ⊢
    have h51 : (CS.hs σ) ≤ CS.hs p48.2 := Nat.le_trans h12 mo49
    refine W.widen (k := CS.hs p48.2 - (CS.hs σ)) (n := 17 * (CS.hs p48.2 - (CS.hs σ))) (cAcc2 h12 mo49) (cAcc3 h12 mo49) ?_
    obtain rfl : r50 = p48.1 := hw
    refine lv_istore_n (lv' := [(3, .int p48.1), (2, .int (p1.2.i 44)), (1, .int p1.1), (0, .ref (Q.o 3))]) hx hb dX7_jump_49 rfl hl (by decide) rfl (fun ls hl => ?_)
    refine lv_goto (tgt := 72) hx hb dX7_jump_50 (by decide) ?_
    exact j_X7_jump_72 l dC dI Q N (CS.hs σ) R hx hb hr hml hown hts hlocks hZ hA hK p48.2 p1.1 p48.1 _ _ _ hf h51 hC (lv_sub hl [3, 2, 0] rfl)
theorem k_X7_giveBack_fieldLink_RX7_14_SR_Statements_opens_LSR_Opens : Cond.fieldLink RX7 14 "StatementRules2$Statements" "opens" "LStatementRules2$Opens;" ∈ wzX7_giveBack := List.mem_cons_of_mem _ (List.mem_append_right _ (List.mem_append_right _ (List.mem_append_right _ (List.mem_append_right _ (List.mem_append_right _ (List.mem_append_right _ (List.mem_append_right _ (List.mem_append_right _ (List.mem_append_right _ (List.mem_append_right _ (List.mem_append_right _ (List.mem_append_right _ (List.mem_append_right _ (List.mem_append_right _ (List.mem_append_right _ (List.mem_append_right _ (List.mem_append_right _ (List.mem_append_right _ (List.mem_append_right _ (List.mem_append_right _ (List.mem_append_right _ (List.mem_append_right _ (List.mem_append_right _ (List.mem_append_right _ (List.mem_append_right _ (List.mem_append_right _ (List.mem_append_left _ (List.mem_of_getElem? (i := 0) rfl))))))))))))))))))))))))))))
theorem i_X7_giveBack_X7 : ∀ w ∈ wsX70, w ∈ wzX7_giveBack := fun _ h => List.mem_cons_of_mem _ (List.mem_append_right _ (List.mem_append_right _ (List.mem_append_right _ (List.mem_append_right _ (List.mem_append_right _ (List.mem_append_right _ (List.mem_append_right _ (List.mem_append_right _ (List.mem_append_right _ (List.mem_append_right _ (List.mem_append_right _ (List.mem_append_right _ (List.mem_append_right _ (List.mem_append_right _ (List.mem_append_right _ (List.mem_append_right _ (List.mem_append_right _ (List.mem_append_right _ (List.mem_append_right _ (List.mem_append_right _ (List.mem_append_right _ (List.mem_append_right _ (List.mem_append_right _ (List.mem_append_right _ (List.mem_append_right _ (List.mem_append_right _ (List.mem_append_right _ (List.mem_append_right _ (List.mem_append_right _ (List.mem_append_right _ (List.mem_append_right _ (List.mem_append_right _ (List.mem_append_right _ (List.mem_append_right _ (List.mem_append_right _ (List.mem_append_right _ (List.mem_append_left _ (h))))))))))))))))))))))))))))))))))))))
theorem i_X7_giveBack_X6 : ∀ w ∈ wsX60, w ∈ wzX7_giveBack := fun _ h => List.mem_cons_of_mem _ (List.mem_append_right _ (List.mem_append_right _ (List.mem_append_right _ (List.mem_append_right _ (List.mem_append_right _ (List.mem_append_right _ (List.mem_append_right _ (List.mem_append_right _ (List.mem_append_right _ (List.mem_append_right _ (List.mem_append_right _ (List.mem_append_right _ (List.mem_append_right _ (List.mem_append_right _ (List.mem_append_right _ (List.mem_append_right _ (List.mem_append_right _ (List.mem_append_right _ (List.mem_append_right _ (List.mem_append_right _ (List.mem_append_right _ (List.mem_append_right _ (List.mem_append_right _ (List.mem_append_right _ (List.mem_append_right _ (List.mem_append_right _ (List.mem_append_right _ (List.mem_append_right _ (List.mem_append_right _ (List.mem_append_right _ (List.mem_append_right _ (List.mem_append_right _ (List.mem_append_right _ (List.mem_append_right _ (List.mem_append_right _ (List.mem_append_right _ (List.mem_append_right _ (List.mem_append_right _ (List.mem_append_right _ (List.mem_append_left _ (h)))))))))))))))))))))))))))))))))))))))))
theorem k_X7_giveBack_fieldLink_RX7_71_SR_Statements_tokens_LSR_Tokens : Cond.fieldLink RX7 71 "StatementRules2$Statements" "tokens" "LStatementRules2$Tokens;" ∈ wzX7_giveBack := List.mem_cons_of_mem _ (List.mem_append_right _ (List.mem_append_right _ (List.mem_append_right _ (List.mem_append_right _ (List.mem_append_right _ (List.mem_append_right _ (List.mem_append_right _ (List.mem_append_right _ (List.mem_append_right _ (List.mem_append_right _ (List.mem_append_right _ (List.mem_append_right _ (List.mem_append_right _ (List.mem_append_right _ (List.mem_append_right _ (List.mem_append_right _ (List.mem_append_right _ (List.mem_append_right _ (List.mem_append_right _ (List.mem_append_right _ (List.mem_append_right _ (List.mem_append_right _ (List.mem_append_right _ (List.mem_append_right _ (List.mem_append_right _ (List.mem_append_right _ (List.mem_append_left _ (List.mem_of_getElem? (i := 1) rfl))))))))))))))))))))))))))))
theorem k_X7_giveBack_sameField_SR_Statements_SR_Formulas_tokens_LSR_Tokens : Cond.sameField "StatementRules2$Statements" "StatementRules2$Formulas" "tokens" "LStatementRules2$Tokens;" ∈ wzX7_giveBack := List.mem_cons_of_mem _ (List.mem_append_right _ (List.mem_append_right _ (List.mem_append_right _ (List.mem_append_right _ (List.mem_append_right _ (List.mem_append_right _ (List.mem_append_right _ (List.mem_append_right _ (List.mem_append_right _ (List.mem_append_right _ (List.mem_append_right _ (List.mem_append_right _ (List.mem_append_right _ (List.mem_append_right _ (List.mem_append_right _ (List.mem_append_right _ (List.mem_append_right _ (List.mem_append_right _ (List.mem_append_right _ (List.mem_append_right _ (List.mem_append_right _ (List.mem_append_right _ (List.mem_append_right _ (List.mem_append_right _ (List.mem_append_right _ (List.mem_append_right _ (List.mem_append_left _ (List.mem_of_getElem? (i := 2) rfl))))))))))))))))))))))))))))
theorem k_X7_giveBack_fieldLink_RX7_20_SR_Statements_code_LSR_Code : Cond.fieldLink RX7 20 "StatementRules2$Statements" "code" "LStatementRules2$Code;" ∈ wzX7_giveBack := List.mem_cons_of_mem _ (List.mem_append_right _ (List.mem_append_right _ (List.mem_append_right _ (List.mem_append_right _ (List.mem_append_right _ (List.mem_append_right _ (List.mem_append_right _ (List.mem_append_right _ (List.mem_append_right _ (List.mem_append_right _ (List.mem_append_right _ (List.mem_append_right _ (List.mem_append_right _ (List.mem_append_right _ (List.mem_append_right _ (List.mem_append_right _ (List.mem_append_right _ (List.mem_append_right _ (List.mem_append_right _ (List.mem_append_right _ (List.mem_append_right _ (List.mem_append_right _ (List.mem_append_right _ (List.mem_append_right _ (List.mem_append_right _ (List.mem_append_right _ (List.mem_append_left _ (List.mem_of_getElem? (i := 3) rfl))))))))))))))))))))))))))))
theorem k_X7_giveBack_sameField_SR_Statements_SR_Formulas_code_LSR_Code : Cond.sameField "StatementRules2$Statements" "StatementRules2$Formulas" "code" "LStatementRules2$Code;" ∈ wzX7_giveBack := List.mem_cons_of_mem _ (List.mem_append_right _ (List.mem_append_right _ (List.mem_append_right _ (List.mem_append_right _ (List.mem_append_right _ (List.mem_append_right _ (List.mem_append_right _ (List.mem_append_right _ (List.mem_append_right _ (List.mem_append_right _ (List.mem_append_right _ (List.mem_append_right _ (List.mem_append_right _ (List.mem_append_right _ (List.mem_append_right _ (List.mem_append_right _ (List.mem_append_right _ (List.mem_append_right _ (List.mem_append_right _ (List.mem_append_right _ (List.mem_append_right _ (List.mem_append_right _ (List.mem_append_right _ (List.mem_append_right _ (List.mem_append_right _ (List.mem_append_right _ (List.mem_append_left _ (List.mem_of_getElem? (i := 4) rfl))))))))))))))))))))))))))))
theorem k_X7_giveBack_fieldLink_RX7_61_SR_Statements_alive_Z : Cond.fieldLink RX7 61 "StatementRules2$Statements" "alive" "Z" ∈ wzX7_giveBack := List.mem_cons_of_mem _ (List.mem_append_right _ (List.mem_append_right _ (List.mem_append_right _ (List.mem_append_right _ (List.mem_append_right _ (List.mem_append_right _ (List.mem_append_right _ (List.mem_append_right _ (List.mem_append_right _ (List.mem_append_right _ (List.mem_append_right _ (List.mem_append_right _ (List.mem_append_right _ (List.mem_append_right _ (List.mem_append_right _ (List.mem_append_right _ (List.mem_append_right _ (List.mem_append_right _ (List.mem_append_right _ (List.mem_append_right _ (List.mem_append_right _ (List.mem_append_right _ (List.mem_append_right _ (List.mem_append_right _ (List.mem_append_right _ (List.mem_append_right _ (List.mem_append_left _ (List.mem_of_getElem? (i := 5) rfl))))))))))))))))))))))))))))
theorem i_X7_giveBack_X9 : ∀ w ∈ wsX90, w ∈ wzX7_giveBack := fun _ h => List.mem_cons_of_mem _ (List.mem_append_right _ (List.mem_append_right _ (List.mem_append_right _ (List.mem_append_right _ (List.mem_append_right _ (List.mem_append_right _ (List.mem_append_right _ (List.mem_append_right _ (List.mem_append_right _ (List.mem_append_right _ (List.mem_append_right _ (List.mem_append_right _ (List.mem_append_right _ (List.mem_append_right _ (List.mem_append_right _ (List.mem_append_right _ (List.mem_append_right _ (List.mem_append_right _ (List.mem_append_right _ (List.mem_append_right _ (List.mem_append_right _ (List.mem_append_right _ (List.mem_append_right _ (List.mem_append_right _ (List.mem_append_right _ (List.mem_append_right _ (List.mem_append_right _ (List.mem_append_right _ (List.mem_append_right _ (List.mem_append_right _ (List.mem_append_right _ (List.mem_append_right _ (List.mem_append_right _ (List.mem_append_right _ (List.mem_append_right _ (List.mem_append_right _ (List.mem_append_right _ (List.mem_append_left _ (h)))))))))))))))))))))))))))))))))))))))
set_option maxHeartbeats 4000000 in
set_option maxRecDepth 100000 in
theorem j_X7_giveBack_22 {p : Program} {e : Env} {s : State} {m : MethodId} {args : Array Value} {below : List Frame} {meth : Method} {c : Code} {A : Nat → Prop} (l : Launch) (dC : Nat → ClassId) (dI : Nat → Nat → Nat) (Q : CQ) (N : Nat) (d : Nat) (E1 : CS → Option (Unit × CS)) (E2 : CS → Option (Int32 × CS)) (hE1 : cMF l dC dI Q d E1) (hE2 : cMO l dC dI Q d E2) (hm1 : ∀ σ, Mono (CS.hs σ) (E1 σ)) (hm2 : ∀ σ, Mono (CS.hs σ) (E2 σ)) (z9h : Nat) (R : Unit × CS) (hx : p.tables.exec = Jvm.exec) (hb : c.code = cX7_giveBack) (hr : meth.sig.returnType = none) (hml : c.maxLocals = 1) (hown : s.vm.findClass RX7 = some m.cls) (hts : ∀ w ∈ wzX7_giveBack, w.before args s = true) (hlocks : meth.locks = false) (hZ : zAMB s) (hA : ∀ q : Nat, s.heap.size ≤ q → A q) (hK : va_K (dC, dI) vwCl (cT Q) s) : ∀ (σ : CS) (H : Heap) (locs : List Loc) (ls : Array Slot), f_X7_giveBack_22 N E1 E2 σ = some R → z9h ≤ CS.hs σ → CP dC dI Q A s.heap σ H locs → lv_has ls 1 [(0, .ref (Q.o 3))] → W p l e ({ frames := (13 + 40 * d), cells := CS.hs R.2 - z9h, slots := 17 * (CS.hs R.2 - z9h), locals := 60 * (13 + 40 * d) }) s m args below meth c H locs (CS.hs σ - z9h) (17 * (CS.hs σ - z9h)) (MQ below (va_Qv (fun (_ : Unit) => True) (fun (_ : Unit) (t : State) => zPost dC dI A (cW Q R.2) (cT Q) t ∧ t.heap.size = CS.hs R.2) A) args s (CS.hs R.2 - z9h) (17 * (CS.hs R.2 - z9h)) A) (F0 m 22 ls []) := by
  intro σ  H locs ls hf h0 hC hl
  unfold f_X7_giveBack_22 at hf
  refine lv_aload_n hx hb dX7_giveBack_22 rfl (lv_at hl 0 rfl) ?_
  refine cG_28 hx hb hts i_X7_giveBack_X7 hown hK hC (hts (.fieldLink RX7 71 "StatementRules2$Statements" "tokens" "LStatementRules2$Tokens;") k_X7_giveBack_fieldLink_RX7_71_SR_Statements_tokens_LSR_Tokens) (fun x9 q9 => u_same (hts (.sameField "StatementRules2$Statements" "StatementRules2$Formulas" "tokens" "LStatementRules2$Tokens;") k_X7_giveBack_sameField_SR_Statements_SR_Formulas_tokens_LSR_Tokens) x9 q9) dX7_giveBack_23 ?_
  obtain ⟨p2, hcp2, hf⟩ := hf_bind hf
  have mo3 : CS.hs σ ≤ CS.hs p2.2 := Mono.go hcp2 (m_X9_advance N σ)
  have hr9 : CS.hs p2.2 ≤ CS.hs R.2 := Mono.go hf (mono_bind (m_X1_expression N E1 E2 hm1 hm2 p2.2) (fun p6 => (mono_bind (m_X0_add N p6.2 62 0) (fun p10 => (mono_bind (m_X1_expect N p10.2 59) (fun p14 => (mono_some (Nat.le_refl _))))))))
  have hFc := cFree hC hA
  refine va_callv (va_runV (As := []) (rest := []) ⟨hx, hb, hml, hown, hts⟩ (c_X9_advance l dC dI Q N σ p2 hcp2) (cwV 0 hts hX7_giveBack_X9_advance_v146 rfl rfl rfl (by decide +kernel) ⟨(show 3 + 1 ≤ (13 + 40 * d) by omega), (show 8 + (2 + 11) + 60 * 3 ≤ 60 * (13 + 40 * d) by omega)⟩) ⟨zPre.blind, va_recv hK hC.1 (ci := 8) (q0 := 4) rfl rfl, cPre_go hZ hK hC⟩ rfl rfl hl.1 rfl (lv_room (Nat.le_of_ble_eq_true rfl)) dX7_giveBack_26 (cAcc h0 mo3 hr9)) hC.2.2.1 (fun q _ h => hFc q h) hFc (fun u9 t9 H1 locs ht hvm hw hB hz1 hk1 hS => ?_)
  obtain ⟨⟨hP, hK1, hD1⟩, hsz1⟩ := hB
  rw [ht] at hP hsz1
  have hC : CP dC dI Q A s.heap p2.2 H1 locs := ⟨hP, hD1.weaken (fun _ _ _ h => hFc _ h), hS, hsz1⟩
  generalize H1 = H at hC ⊢
  have h5 : z9h ≤ CS.hs p2.2 := Nat.le_trans h0 mo3
  refine W.widen (k := CS.hs p2.2 - z9h) (n := 17 * (CS.hs p2.2 - z9h)) (cAcc2 h0 mo3) (cAcc3 h0 mo3) ?_
  refine lv_aload_n hx hb dX7_giveBack_29 rfl (lv_at hl 0 rfl) ?_
  obtain ⟨p6, hcp6, hf⟩ := hf_bind hf
  have mo7 : CS.hs p2.2 ≤ CS.hs p6.2 := Mono.go hcp6 (m_X1_expression N E1 E2 hm1 hm2 p2.2)
  have hr9 : CS.hs p6.2 ≤ CS.hs R.2 := Mono.go hf (mono_bind (m_X0_add N p6.2 62 0) (fun p10 => (mono_bind (m_X1_expect N p10.2 59) (fun p14 => (mono_some (Nat.le_refl _))))))
  have hFc := cFree hC hA
  refine va_callv (va_runU (As := []) (rest := []) ⟨hx, hb, hml, hown, hts⟩ (c_X1_expression l dC dI Q N d E1 E2 hE1 hE2 hm1 hm2 p2.2 p6 hcp6) (va_cwU 0 hts hX7_giveBack_X1_expression_u211 rfl rfl rfl rfl (by decide +kernel) ⟨(show (12 + 40 * d) + 1 ≤ (13 + 40 * d) by omega), (show 8 + (3 + 11) + 60 * (12 + 40 * d) ≤ 60 * (13 + 40 * d) by omega)⟩) ⟨zPre.blind, va_recv hK hC.1 (ci := 6) (q0 := 3) rfl rfl, cPre_go hZ hK hC⟩ rfl rfl hl.1 rfl (lv_room (Nat.le_of_ble_eq_true rfl)) dX7_giveBack_30 (cAcc h5 mo7 hr9)) hC.2.2.1 (fun q _ h => hFc q h) hFc (fun u9 t9 H1 locs ht hvm hw hB hz1 hk1 hS => ?_)
  obtain ⟨⟨hP, hK1, hD1⟩, hsz1⟩ := hB
  rw [ht] at hP hsz1
  have hC : CP dC dI Q A s.heap p6.2 H1 locs := ⟨hP, hD1.weaken (fun _ _ _ h => hFc _ h), hS, hsz1⟩
  generalize H1 = H at hC ⊢
  have h9 : z9h ≤ CS.hs p6.2 := Nat.le_trans h5 mo7
  refine W.widen (k := CS.hs p6.2 - z9h) (n := 17 * (CS.hs p6.2 - z9h)) (cAcc2 h5 mo7) (cAcc3 h5 mo7) ?_
  refine lv_aload_n hx hb dX7_giveBack_33 rfl (lv_at hl 0 rfl) ?_
  refine cG_29 hx hb hts i_X7_giveBack_X7 hown hK hC (hts (.fieldLink RX7 20 "StatementRules2$Statements" "code" "LStatementRules2$Code;") k_X7_giveBack_fieldLink_RX7_20_SR_Statements_code_LSR_Code) (fun x9 q9 => u_same (hts (.sameField "StatementRules2$Statements" "StatementRules2$Formulas" "code" "LStatementRules2$Code;") k_X7_giveBack_sameField_SR_Statements_SR_Formulas_code_LSR_Code) x9 q9) dX7_giveBack_34 ?_
  refine lv_bipush (v := 62) hx hb dX7_giveBack_37 (by decide) ?_
  refine lv_iconst (v := 0) hx hb dX7_giveBack_39 (by decide) ?_
  obtain ⟨p10, hcp10, hf⟩ := hf_bind hf
  have mo11 : CS.hs p6.2 ≤ CS.hs p10.2 := Mono.go hcp10 (m_X0_add N p6.2 62 0)
  have hr9 : CS.hs p10.2 ≤ CS.hs R.2 := Mono.go hf (mono_bind (m_X1_expect N p10.2 59) (fun p14 => (mono_some (Nat.le_refl _))))
  have hFc := cFree hC hA
  refine va_callv (va_runV (As := [.int 62, .int 0]) (rest := []) ⟨hx, hb, hml, hown, hts⟩ (c_X0_add l dC dI Q N p6.2 62 0 p10 hcp10) (cwV 2 hts hX7_giveBack_X0_add_v176 rfl rfl rfl (by decide +kernel) ⟨(show 2 + 1 ≤ (13 + 40 * d) by omega), (show 8 + (3 + 11) + 60 * 2 ≤ 60 * (13 + 40 * d) by omega)⟩) ⟨zPre.blind, va_recv hK hC.1 (ci := 0) (q0 := 2) rfl rfl, cPre_go hZ hK hC⟩ rfl rfl hl.1 rfl (lv_room (Nat.le_of_ble_eq_true rfl)) dX7_giveBack_40 (cAcc h9 mo11 hr9)) hC.2.2.1 (fun q _ h => hFc q h) hFc (fun u9 t9 H1 locs ht hvm hw hB hz1 hk1 hS => ?_)
  obtain ⟨⟨hP, hK1, hD1⟩, hsz1⟩ := hB
  rw [ht] at hP hsz1
  have hC : CP dC dI Q A s.heap p10.2 H1 locs := ⟨hP, hD1.weaken (fun _ _ _ h => hFc _ h), hS, hsz1⟩
  generalize H1 = H at hC ⊢
  have h13 : z9h ≤ CS.hs p10.2 := Nat.le_trans h9 mo11
  refine W.widen (k := CS.hs p10.2 - z9h) (n := 17 * (CS.hs p10.2 - z9h)) (cAcc2 h9 mo11) (cAcc3 h9 mo11) ?_
  refine lv_aload_n hx hb dX7_giveBack_43 rfl (lv_at hl 0 rfl) ?_
  refine lv_bipush (v := 59) hx hb dX7_giveBack_44 (by decide) ?_
  obtain ⟨p14, hcp14, hf⟩ := hf_bind hf
  have mo15 : CS.hs p10.2 ≤ CS.hs p14.2 := Mono.go hcp14 (m_X1_expect N p10.2 59)
  have hr9 : CS.hs p14.2 ≤ CS.hs R.2 := Mono.go hf (mono_some (Nat.le_refl _))
  have hFc := cFree hC hA
  refine va_callv (va_runU (As := [.int 59]) (rest := []) ⟨hx, hb, hml, hown, hts⟩ (c_X1_expect l dC dI Q N p10.2 59 p14 hcp14) (va_cwU 1 hts hX7_giveBack_X1_expect_u155 rfl rfl rfl rfl (by decide +kernel) ⟨(show 4 + 1 ≤ (13 + 40 * d) by omega), (show 8 + (2 + 11) + 60 * 4 ≤ 60 * (13 + 40 * d) by omega)⟩) ⟨zPre.blind, va_recv hK hC.1 (ci := 6) (q0 := 3) rfl rfl, cPre_go hZ hK hC⟩ rfl rfl hl.1 rfl (lv_room (Nat.le_of_ble_eq_true rfl)) dX7_giveBack_46 (cAcc h13 mo15 hr9)) hC.2.2.1 (fun q _ h => hFc q h) hFc (fun u9 t9 H1 locs ht hvm hw hB hz1 hk1 hS => ?_)
  obtain ⟨⟨hP, hK1, hD1⟩, hsz1⟩ := hB
  rw [ht] at hP hsz1
  have hC : CP dC dI Q A s.heap p14.2 H1 locs := ⟨hP, hD1.weaken (fun _ _ _ h => hFc _ h), hS, hsz1⟩
  generalize H1 = H at hC ⊢
  have h17 : z9h ≤ CS.hs p14.2 := Nat.le_trans h13 mo15
  refine W.widen (k := CS.hs p14.2 - z9h) (n := 17 * (CS.hs p14.2 - z9h)) (cAcc2 h13 mo15) (cAcc3 h13 mo15) ?_
  refine lv_aload_n hx hb dX7_giveBack_49 rfl (lv_at hl 0 rfl) ?_
  refine lv_iconst (v := 0) hx hb dX7_giveBack_50 (by decide) ?_
  refine cP_36 (v := 0) hx hb hts i_X7_giveBack_X7 hown hK hC (hts (.fieldLink RX7 61 "StatementRules2$Statements" "alive" "Z") k_X7_giveBack_fieldLink_RX7_61_SR_Statements_alive_Z) (fun _ q9 => q9) dX7_giveBack_51 (by decide) (fun H locs hC => ?_)
  obtain rfl := Option.some.inj hf
  exact W.vret hx hb hr (fun t ht hW => ⟨⟨(), rfl, trivial, ⟨by rw [ht]; exact hC.1, va_K.moved hW.alike hK, hC.2.1⟩, by rw [ht]; exact hC.2.2.2⟩, hC.2.2.1.F ht⟩) hC.2.2.1.2.2 dX7_giveBack_54
set_option maxHeartbeats 4000000 in
set_option maxRecDepth 100000 in
theorem c_X7_giveBack (l : Launch) (dC : Nat → ClassId) (dI : Nat → Nat → Nat) (Q : CQ) (N : Nat) (d : Nat) (E1 : CS → Option (Unit × CS)) (E2 : CS → Option (Int32 × CS)) (hE1 : cMF l dC dI Q d E1) (hE2 : cMO l dC dI Q d E2) (hm1 : ∀ σ, Mono (CS.hs σ) (E1 σ)) (hm2 : ∀ σ, Mono (CS.hs σ) (E2 σ)) (σ : CS) (R : Unit × CS) (hf : f_X7_giveBack N E1 E2 σ = some R) : Met l yX7_giveBack wzX7_giveBack ({ frames := (13 + 40 * d), cells := CS.hs R.2 - CS.hs σ, slots := 17 * (CS.hs R.2 - CS.hs σ), locals := 60 * (13 + 40 * d) }) (va_Pc [.ref (Q.o 3)] (zPre dC dI (CS.hs σ) (cW Q σ) (cT Q))) (va_Qv (fun (_ : Unit) => True) (fun (_ : Unit) (t : State) => zPost dC dI (va_A (cW Q σ) (CS.hs σ)) (cW Q R.2) (cT Q) t ∧ t.heap.size = CS.hs R.2) (va_A (cW Q σ) (CS.hs σ))) (CS.hs R.2 - CS.hs σ) (17 * (CS.hs R.2 - CS.hs σ)) (va_A (cW Q σ) (CS.hs σ)) := by
  refine Met.ofW (cc := cX7_giveBack) (maxL := 1) (ret := none) (by decide) rfl ?_
  intro p e s m args below meth c s₁ B hml hv
  obtain ⟨rfl, hsz, hZ, hP, hK, hD0⟩ := hv
  have hx := B.exec
  have hb := B.bytes
  have hr := B.returns
  have hts := atoms_spec (ws := wzX7_giveBack) B.pre
  have hown : s.vm.findClass RX7 = some m.cls := findClass_of_methodNamed B.named
  have hlocks := B.notSynchronized
  have hD := hD0.self (sz := CS.hs σ)
  generalize hAe : va_A (cW Q σ) (CS.hs σ) = A at hD ⊢
  have hA : ∀ q : Nat, s.heap.size ≤ q → A q := fun q h => by rw [← hAe]; exact Or.inr (hsz ▸ h)
  have hC : CP dC dI Q A s.heap σ s.heap [] := ⟨hP, hD, va_S.rf, hsz⟩
  have h0 : CS.hs σ ≤ CS.hs σ := Nat.le_refl _
  have hl := lv_entry ([.ref (Q.o 3)]) (n := 1) (Nat.le_of_ble_eq_true rfl)
  rw [lg_entry_eq]
  generalize (lg_sl ([.ref (Q.o 3)]) ++ List.replicate (1 - (lg_sl ([.ref (Q.o 3)])).length) Slot.unset).toArray = ls at hl ⊢
  have hl : lv_has ls 1 [(0, .ref (Q.o 3))] := hl
  unfold f_X7_giveBack at hf
  refine W.widen (k := CS.hs σ - CS.hs σ) (n := 17 * (CS.hs σ - CS.hs σ)) (Nat.zero_le _) (Nat.zero_le _) ?_
  refine lv_aload_n hx hb dX7_giveBack_0 rfl (lv_at hl 0 rfl) ?_
  refine cG_35 hx hb hts i_X7_giveBack_X7 hown hK hC (hts (.fieldLink RX7 14 "StatementRules2$Statements" "opens" "LStatementRules2$Opens;") k_X7_giveBack_fieldLink_RX7_14_SR_Statements_opens_LSR_Opens) (fun _ q9 => q9) dX7_giveBack_1 ?_
  refine cGN_56 (v := (σ.i 56)) hx hb hts i_X7_giveBack_X6 hown hK hC (va_Nw.use rfl (hZ.1 (.fieldLinkNest RX7 294 "StatementRules2$Opens" "arm" "I" "StatementRules2") (by decide +kernel))) (fun _ q9 => q9) dX7_giveBack_4 rfl ?_
  refine lv_if_lt (tgt := 22) hx hb dX7_giveBack_7 (by decide) (fun c1 => ?_) (fun c1 => ?_)
  ·
    replace hf := (if_pos c1).symm.trans hf
    exact j_X7_giveBack_22 l dC dI Q N d E1 E2 hE1 hE2 hm1 hm2 (CS.hs σ) R hx hb hr hml hown hts hlocks hZ hA hK σ _ _ _ hf h0 hC (lv_sub hl [0] rfl)
  ·
    replace hf := (if_neg c1).symm.trans hf
    refine lv_aload_n hx hb dX7_giveBack_10 rfl (lv_at hl 0 rfl) ?_
    refine lv_iconst (v := 5) hx hb dX7_giveBack_11 (by decide) ?_
    refine lv_aload_n hx hb dX7_giveBack_12 rfl (lv_at hl 0 rfl) ?_
    refine cG_28 hx hb hts i_X7_giveBack_X7 hown hK hC (hts (.fieldLink RX7 71 "StatementRules2$Statements" "tokens" "LStatementRules2$Tokens;") k_X7_giveBack_fieldLink_RX7_71_SR_Statements_tokens_LSR_Tokens) (fun x9 q9 => u_same (hts (.sameField "StatementRules2$Statements" "StatementRules2$Formulas" "tokens" "LStatementRules2$Tokens;") k_X7_giveBack_sameField_SR_Statements_SR_Formulas_tokens_LSR_Tokens) x9 q9) dX7_giveBack_13 ?_
    refine cGN_44 (v := (σ.i 44)) hx hb hts i_X7_giveBack_X9 hown hK hC (va_Nw.use rfl (hZ.1 (.fieldLinkNest RX7 143 "StatementRules2$Tokens" "place" "I" "StatementRules2") (by decide +kernel))) (fun _ q9 => q9) dX7_giveBack_16 rfl ?_
    obtain ⟨p18, hcp18, hf⟩ := hf_bind hf
    have mo19 : CS.hs σ ≤ CS.hs p18.2 := Mono.go hcp18 (m_X1_fail N σ 5 (σ.i 44))
    have hr9 : CS.hs p18.2 ≤ CS.hs R.2 := Mono.go hf (m_X7_giveBack_22 N E1 E2 hm1 hm2 p18.2)
    have hFc := cFree hC hA
    refine va_callv (va_runU (As := [.int 5, .int (σ.i 44)]) (rest := []) ⟨hx, hb, hml, hown, hts⟩ (c_X1_fail l dC dI Q N σ 5 (σ.i 44) p18 hcp18) (va_cwU 2 hts hX7_giveBack_X1_fail_u88 rfl rfl rfl rfl (by decide +kernel) ⟨(show 2 + 1 ≤ (13 + 40 * d) by omega), (show 8 + (3 + 11) + 60 * 2 ≤ 60 * (13 + 40 * d) by omega)⟩) ⟨zPre.blind, va_recv hK hC.1 (ci := 6) (q0 := 3) rfl rfl, cPre_go hZ hK hC⟩ rfl rfl hl.1 rfl (lv_room (Nat.le_of_ble_eq_true rfl)) dX7_giveBack_19 (cAcc h0 mo19 hr9)) hC.2.2.1 (fun q _ h => hFc q h) hFc (fun u9 t9 H1 locs ht hvm hw hB hz1 hk1 hS => ?_)
    obtain ⟨⟨hP, hK1, hD1⟩, hsz1⟩ := hB
    rw [ht] at hP hsz1
    have hC : CP dC dI Q A s.heap p18.2 H1 locs := ⟨hP, hD1.weaken (fun _ _ _ h => hFc _ h), hS, hsz1⟩
    generalize H1 = H at hC ⊢
    have h21 : (CS.hs σ) ≤ CS.hs p18.2 := Nat.le_trans h0 mo19
    refine W.widen (k := CS.hs p18.2 - (CS.hs σ)) (n := 17 * (CS.hs p18.2 - (CS.hs σ))) (cAcc2 h0 mo19) (cAcc3 h0 mo19) ?_
    exact j_X7_giveBack_22 l dC dI Q N d E1 E2 hE1 hE2 hm1 hm2 (CS.hs σ) R hx hb hr hml hown hts hlocks hZ hA hK p18.2 _ _ _ hf h21 hC (lv_sub hl [0] rfl)
theorem k_X7_yieldValue_fieldLink_RX7_14_SR_Statements_opens_LSR_Opens : Cond.fieldLink RX7 14 "StatementRules2$Statements" "opens" "LStatementRules2$Opens;" ∈ wzX7_yieldValue := List.mem_cons_of_mem _ (List.mem_append_right _ (List.mem_append_right _ (List.mem_append_right _ (List.mem_append_right _ (List.mem_append_right _ (List.mem_append_right _ (List.mem_append_right _ (List.mem_append_right _ (List.mem_append_right _ (List.mem_append_right _ (List.mem_append_right _ (List.mem_append_right _ (List.mem_append_right _ (List.mem_append_right _ (List.mem_append_right _ (List.mem_append_right _ (List.mem_append_right _ (List.mem_append_right _ (List.mem_append_right _ (List.mem_append_right _ (List.mem_append_right _ (List.mem_append_right _ (List.mem_append_right _ (List.mem_append_right _ (List.mem_append_right _ (List.mem_append_right _ (List.mem_append_right _ (List.mem_append_right _ (List.mem_append_right _ (List.mem_append_right _ (List.mem_append_right _ (List.mem_append_right _ (List.mem_append_right _ (List.mem_append_right _ (List.mem_append_right _ (List.mem_append_left _ (List.mem_of_getElem? (i := 0) rfl)))))))))))))))))))))))))))))))))))))
theorem i_X7_yieldValue_X7 : ∀ w ∈ wsX70, w ∈ wzX7_yieldValue := fun _ h => List.mem_cons_of_mem _ (List.mem_append_right _ (List.mem_append_right _ (List.mem_append_right _ (List.mem_append_right _ (List.mem_append_right _ (List.mem_append_right _ (List.mem_append_right _ (List.mem_append_right _ (List.mem_append_right _ (List.mem_append_right _ (List.mem_append_right _ (List.mem_append_right _ (List.mem_append_right _ (List.mem_append_right _ (List.mem_append_right _ (List.mem_append_right _ (List.mem_append_right _ (List.mem_append_right _ (List.mem_append_right _ (List.mem_append_right _ (List.mem_append_right _ (List.mem_append_right _ (List.mem_append_right _ (List.mem_append_right _ (List.mem_append_right _ (List.mem_append_right _ (List.mem_append_right _ (List.mem_append_right _ (List.mem_append_right _ (List.mem_append_right _ (List.mem_append_right _ (List.mem_append_right _ (List.mem_append_right _ (List.mem_append_right _ (List.mem_append_right _ (List.mem_append_right _ (List.mem_append_left _ (h))))))))))))))))))))))))))))))))))))))
theorem i_X7_yieldValue_X6 : ∀ w ∈ wsX60, w ∈ wzX7_yieldValue := fun _ h => List.mem_cons_of_mem _ (List.mem_append_right _ (List.mem_append_right _ (List.mem_append_right _ (List.mem_append_right _ (List.mem_append_right _ (List.mem_append_right _ (List.mem_append_right _ (List.mem_append_right _ (List.mem_append_right _ (List.mem_append_right _ (List.mem_append_right _ (List.mem_append_right _ (List.mem_append_right _ (List.mem_append_right _ (List.mem_append_right _ (List.mem_append_right _ (List.mem_append_right _ (List.mem_append_right _ (List.mem_append_right _ (List.mem_append_right _ (List.mem_append_right _ (List.mem_append_right _ (List.mem_append_right _ (List.mem_append_right _ (List.mem_append_right _ (List.mem_append_right _ (List.mem_append_right _ (List.mem_append_right _ (List.mem_append_right _ (List.mem_append_right _ (List.mem_append_right _ (List.mem_append_right _ (List.mem_append_right _ (List.mem_append_right _ (List.mem_append_right _ (List.mem_append_right _ (List.mem_append_right _ (List.mem_append_right _ (List.mem_append_right _ (List.mem_append_left _ (h)))))))))))))))))))))))))))))))))))))))))
theorem k_X7_yieldValue_fieldLink_RX7_71_SR_Statements_tokens_LSR_Tokens : Cond.fieldLink RX7 71 "StatementRules2$Statements" "tokens" "LStatementRules2$Tokens;" ∈ wzX7_yieldValue := List.mem_cons_of_mem _ (List.mem_append_right _ (List.mem_append_right _ (List.mem_append_right _ (List.mem_append_right _ (List.mem_append_right _ (List.mem_append_right _ (List.mem_append_right _ (List.mem_append_right _ (List.mem_append_right _ (List.mem_append_right _ (List.mem_append_right _ (List.mem_append_right _ (List.mem_append_right _ (List.mem_append_right _ (List.mem_append_right _ (List.mem_append_right _ (List.mem_append_right _ (List.mem_append_right _ (List.mem_append_right _ (List.mem_append_right _ (List.mem_append_right _ (List.mem_append_right _ (List.mem_append_right _ (List.mem_append_right _ (List.mem_append_right _ (List.mem_append_right _ (List.mem_append_right _ (List.mem_append_right _ (List.mem_append_right _ (List.mem_append_right _ (List.mem_append_right _ (List.mem_append_right _ (List.mem_append_right _ (List.mem_append_right _ (List.mem_append_right _ (List.mem_append_left _ (List.mem_of_getElem? (i := 1) rfl)))))))))))))))))))))))))))))))))))))
theorem k_X7_yieldValue_sameField_SR_Statements_SR_Formulas_tokens_LSR_Tokens : Cond.sameField "StatementRules2$Statements" "StatementRules2$Formulas" "tokens" "LStatementRules2$Tokens;" ∈ wzX7_yieldValue := List.mem_cons_of_mem _ (List.mem_append_right _ (List.mem_append_right _ (List.mem_append_right _ (List.mem_append_right _ (List.mem_append_right _ (List.mem_append_right _ (List.mem_append_right _ (List.mem_append_right _ (List.mem_append_right _ (List.mem_append_right _ (List.mem_append_right _ (List.mem_append_right _ (List.mem_append_right _ (List.mem_append_right _ (List.mem_append_right _ (List.mem_append_right _ (List.mem_append_right _ (List.mem_append_right _ (List.mem_append_right _ (List.mem_append_right _ (List.mem_append_right _ (List.mem_append_right _ (List.mem_append_right _ (List.mem_append_right _ (List.mem_append_right _ (List.mem_append_right _ (List.mem_append_right _ (List.mem_append_right _ (List.mem_append_right _ (List.mem_append_right _ (List.mem_append_right _ (List.mem_append_right _ (List.mem_append_right _ (List.mem_append_right _ (List.mem_append_right _ (List.mem_append_left _ (List.mem_of_getElem? (i := 2) rfl)))))))))))))))))))))))))))))))))))))
theorem i_X7_yieldValue_X9 : ∀ w ∈ wsX90, w ∈ wzX7_yieldValue := fun _ h => List.mem_cons_of_mem _ (List.mem_append_right _ (List.mem_append_right _ (List.mem_append_right _ (List.mem_append_right _ (List.mem_append_right _ (List.mem_append_right _ (List.mem_append_right _ (List.mem_append_right _ (List.mem_append_right _ (List.mem_append_right _ (List.mem_append_right _ (List.mem_append_right _ (List.mem_append_right _ (List.mem_append_right _ (List.mem_append_right _ (List.mem_append_right _ (List.mem_append_right _ (List.mem_append_right _ (List.mem_append_right _ (List.mem_append_right _ (List.mem_append_right _ (List.mem_append_right _ (List.mem_append_right _ (List.mem_append_right _ (List.mem_append_right _ (List.mem_append_right _ (List.mem_append_right _ (List.mem_append_right _ (List.mem_append_right _ (List.mem_append_right _ (List.mem_append_right _ (List.mem_append_right _ (List.mem_append_right _ (List.mem_append_right _ (List.mem_append_right _ (List.mem_append_right _ (List.mem_append_right _ (List.mem_append_left _ (h)))))))))))))))))))))))))))))))))))))))
theorem k_X7_yieldValue_fieldLink_RX7_20_SR_Statements_code_LSR_Code : Cond.fieldLink RX7 20 "StatementRules2$Statements" "code" "LStatementRules2$Code;" ∈ wzX7_yieldValue := List.mem_cons_of_mem _ (List.mem_append_right _ (List.mem_append_right _ (List.mem_append_right _ (List.mem_append_right _ (List.mem_append_right _ (List.mem_append_right _ (List.mem_append_right _ (List.mem_append_right _ (List.mem_append_right _ (List.mem_append_right _ (List.mem_append_right _ (List.mem_append_right _ (List.mem_append_right _ (List.mem_append_right _ (List.mem_append_right _ (List.mem_append_right _ (List.mem_append_right _ (List.mem_append_right _ (List.mem_append_right _ (List.mem_append_right _ (List.mem_append_right _ (List.mem_append_right _ (List.mem_append_right _ (List.mem_append_right _ (List.mem_append_right _ (List.mem_append_right _ (List.mem_append_right _ (List.mem_append_right _ (List.mem_append_right _ (List.mem_append_right _ (List.mem_append_right _ (List.mem_append_right _ (List.mem_append_right _ (List.mem_append_right _ (List.mem_append_right _ (List.mem_append_left _ (List.mem_of_getElem? (i := 3) rfl)))))))))))))))))))))))))))))))))))))
theorem k_X7_yieldValue_sameField_SR_Statements_SR_Formulas_code_LSR_Code : Cond.sameField "StatementRules2$Statements" "StatementRules2$Formulas" "code" "LStatementRules2$Code;" ∈ wzX7_yieldValue := List.mem_cons_of_mem _ (List.mem_append_right _ (List.mem_append_right _ (List.mem_append_right _ (List.mem_append_right _ (List.mem_append_right _ (List.mem_append_right _ (List.mem_append_right _ (List.mem_append_right _ (List.mem_append_right _ (List.mem_append_right _ (List.mem_append_right _ (List.mem_append_right _ (List.mem_append_right _ (List.mem_append_right _ (List.mem_append_right _ (List.mem_append_right _ (List.mem_append_right _ (List.mem_append_right _ (List.mem_append_right _ (List.mem_append_right _ (List.mem_append_right _ (List.mem_append_right _ (List.mem_append_right _ (List.mem_append_right _ (List.mem_append_right _ (List.mem_append_right _ (List.mem_append_right _ (List.mem_append_right _ (List.mem_append_right _ (List.mem_append_right _ (List.mem_append_right _ (List.mem_append_right _ (List.mem_append_right _ (List.mem_append_right _ (List.mem_append_right _ (List.mem_append_left _ (List.mem_of_getElem? (i := 4) rfl)))))))))))))))))))))))))))))))))))))
theorem i_X7_yieldValue_X5 : ∀ w ∈ wsX50, w ∈ wzX7_yieldValue := fun _ h => List.mem_cons_of_mem _ (List.mem_append_right _ (List.mem_append_right _ (List.mem_append_right _ (List.mem_append_right _ (List.mem_append_right _ (List.mem_append_right _ (List.mem_append_right _ (List.mem_append_right _ (List.mem_append_right _ (List.mem_append_right _ (List.mem_append_right _ (List.mem_append_right _ (List.mem_append_right _ (List.mem_append_right _ (List.mem_append_right _ (List.mem_append_right _ (List.mem_append_right _ (List.mem_append_right _ (List.mem_append_right _ (List.mem_append_right _ (List.mem_append_right _ (List.mem_append_right _ (List.mem_append_right _ (List.mem_append_right _ (List.mem_append_right _ (List.mem_append_right _ (List.mem_append_right _ (List.mem_append_right _ (List.mem_append_right _ (List.mem_append_right _ (List.mem_append_right _ (List.mem_append_right _ (List.mem_append_right _ (List.mem_append_right _ (List.mem_append_right _ (List.mem_append_right _ (List.mem_append_right _ (List.mem_append_right _ (List.mem_append_right _ (List.mem_append_right _ (List.mem_append_right _ (List.mem_append_left _ (h)))))))))))))))))))))))))))))))))))))))))))
theorem k_X7_yieldValue_fieldLink_RX7_61_SR_Statements_alive_Z : Cond.fieldLink RX7 61 "StatementRules2$Statements" "alive" "Z" ∈ wzX7_yieldValue := List.mem_cons_of_mem _ (List.mem_append_right _ (List.mem_append_right _ (List.mem_append_right _ (List.mem_append_right _ (List.mem_append_right _ (List.mem_append_right _ (List.mem_append_right _ (List.mem_append_right _ (List.mem_append_right _ (List.mem_append_right _ (List.mem_append_right _ (List.mem_append_right _ (List.mem_append_right _ (List.mem_append_right _ (List.mem_append_right _ (List.mem_append_right _ (List.mem_append_right _ (List.mem_append_right _ (List.mem_append_right _ (List.mem_append_right _ (List.mem_append_right _ (List.mem_append_right _ (List.mem_append_right _ (List.mem_append_right _ (List.mem_append_right _ (List.mem_append_right _ (List.mem_append_right _ (List.mem_append_right _ (List.mem_append_right _ (List.mem_append_right _ (List.mem_append_right _ (List.mem_append_right _ (List.mem_append_right _ (List.mem_append_right _ (List.mem_append_right _ (List.mem_append_left _ (List.mem_of_getElem? (i := 5) rfl)))))))))))))))))))))))))))))))))))))
set_option maxHeartbeats 4000000 in
set_option maxRecDepth 100000 in
theorem c_X7_yieldValue (l : Launch) (dC : Nat → ClassId) (dI : Nat → Nat → Nat) (Q : CQ) (N : Nat) (d : Nat) (E1 : CS → Option (Unit × CS)) (E2 : CS → Option (Int32 × CS)) (hE1 : cMF l dC dI Q d E1) (hE2 : cMO l dC dI Q d E2) (hm1 : ∀ σ, Mono (CS.hs σ) (E1 σ)) (hm2 : ∀ σ, Mono (CS.hs σ) (E2 σ)) (σ : CS) (R : Unit × CS) (hf : f_X7_yieldValue N E1 E2 σ = some R) : Met l yX7_yieldValue wzX7_yieldValue ({ frames := (13 + 40 * d), cells := CS.hs R.2 - CS.hs σ, slots := 17 * (CS.hs R.2 - CS.hs σ), locals := 60 * (13 + 40 * d) }) (va_Pc [.ref (Q.o 3)] (zPre dC dI (CS.hs σ) (cW Q σ) (cT Q))) (va_Qv (fun (_ : Unit) => True) (fun (_ : Unit) (t : State) => zPost dC dI (va_A (cW Q σ) (CS.hs σ)) (cW Q R.2) (cT Q) t ∧ t.heap.size = CS.hs R.2) (va_A (cW Q σ) (CS.hs σ))) (CS.hs R.2 - CS.hs σ) (17 * (CS.hs R.2 - CS.hs σ)) (va_A (cW Q σ) (CS.hs σ)) := by
  refine Met.ofW (cc := cX7_yieldValue) (maxL := 2) (ret := none) (by decide) rfl ?_
  intro p e s m args below meth c s₁ B hml hv
  obtain ⟨rfl, hsz, hZ, hP, hK, hD0⟩ := hv
  have hx := B.exec
  have hb := B.bytes
  have hr := B.returns
  have hts := atoms_spec (ws := wzX7_yieldValue) B.pre
  have hown : s.vm.findClass RX7 = some m.cls := findClass_of_methodNamed B.named
  have hlocks := B.notSynchronized
  have hD := hD0.self (sz := CS.hs σ)
  generalize hAe : va_A (cW Q σ) (CS.hs σ) = A at hD ⊢
  have hA : ∀ q : Nat, s.heap.size ≤ q → A q := fun q h => by rw [← hAe]; exact Or.inr (hsz ▸ h)
  have hC : CP dC dI Q A s.heap σ s.heap [] := ⟨hP, hD, va_S.rf, hsz⟩
  have h0 : CS.hs σ ≤ CS.hs σ := Nat.le_refl _
  have hl := lv_entry ([.ref (Q.o 3)]) (n := 2) (Nat.le_of_ble_eq_true rfl)
  rw [lg_entry_eq]
  generalize (lg_sl ([.ref (Q.o 3)]) ++ List.replicate (2 - (lg_sl ([.ref (Q.o 3)])).length) Slot.unset).toArray = ls at hl ⊢
  have hl : lv_has ls 2 [(0, .ref (Q.o 3))] := hl
  unfold f_X7_yieldValue at hf
  refine W.widen (k := CS.hs σ - CS.hs σ) (n := 17 * (CS.hs σ - CS.hs σ)) (Nat.zero_le _) (Nat.zero_le _) ?_
  refine lv_aload_n hx hb dX7_yieldValue_0 rfl (lv_at hl 0 rfl) ?_
  refine cG_35 hx hb hts i_X7_yieldValue_X7 hown hK hC (hts (.fieldLink RX7 14 "StatementRules2$Statements" "opens" "LStatementRules2$Opens;") k_X7_yieldValue_fieldLink_RX7_14_SR_Statements_opens_LSR_Opens) (fun _ q9 => q9) dX7_yieldValue_1 ?_
  refine lv_aload_n hx hb dX7_yieldValue_4 rfl (lv_at hl 0 rfl) ?_
  refine cG_35 hx hb hts i_X7_yieldValue_X7 hown hK hC (hts (.fieldLink RX7 14 "StatementRules2$Statements" "opens" "LStatementRules2$Opens;") k_X7_yieldValue_fieldLink_RX7_14_SR_Statements_opens_LSR_Opens) (fun _ q9 => q9) dX7_yieldValue_5 ?_
  refine cGN_56 (v := (σ.i 56)) hx hb hts i_X7_yieldValue_X6 hown hK hC (va_Nw.use rfl (hZ.1 (.fieldLinkNest RX7 294 "StatementRules2$Opens" "arm" "I" "StatementRules2") (by decide +kernel))) (fun _ q9 => q9) dX7_yieldValue_8 rfl ?_
  obtain ⟨p1, hcp1, hf⟩ := hf_bind hf
  have mo2 : CS.hs σ ≤ CS.hs p1.2 := Mono.go hcp1 (m_X6_row N σ (σ.i 56))
  have hr9 : CS.hs p1.2 ≤ CS.hs R.2 := Mono.go hf (mono_oc (mono_bind (m_X1_fail N p1.2 5 (p1.2.i 44)) (fun p7 => (mono_some (Nat.le_refl _)))) (fun a6 => (mono_bind (m_X9_advance N p1.2) (fun p11 => (mono_bind (m_X1_expression N E1 E2 hm1 hm2 p11.2) (fun p15 => (mono_ite (mono_bind (m_X0_add N p15.2 61 (((CS.o p15.2 a6 9) * 32) + (CS.o p15.2 a6 2))) (fun p20 => (mono_bind (m_X1_expect N p20.2 59) (fun p24 => (mono_some (Nat.le_refl _)))))) mono_none)))))))
  have hFc := cFree hC hA
  refine va_callq (va_runV (As := [.int (σ.i 56)]) (rest := []) ⟨hx, hb, hml, hown, hts⟩ (c_X6_row l dC dI Q N σ (σ.i 56) p1 hcp1) (cwV 1 hts hX7_yieldValue_X6_row_v93 rfl rfl rfl (by decide +kernel) ⟨(show 1 + 1 ≤ (13 + 40 * d) by omega), (show 8 + (2 + 11) + 60 * 1 ≤ 60 * (13 + 40 * d) by omega)⟩) ⟨zPre.blind, va_recv hK hC.1 (ci := 5) (q0 := 6) rfl rfl, cPre_go hZ hK hC⟩ rfl rfl hl.1 rfl (lv_room (Nat.le_of_ble_eq_true rfl)) dX7_yieldValue_11 (cAcc h0 mo2 hr9)) hC.2.2.1 (fun q _ h => hFc q h) hFc (fun r3 u9 t9 H1 locs ht hvm hw hB hz1 hk1 hS => ?_)
  obtain ⟨⟨hP, hK1, hD1⟩, hsz1⟩ := hB
  rw [ht] at hP hsz1
  have hC : CP dC dI Q A s.heap p1.2 H1 locs := ⟨hP, hD1.weaken (fun _ _ _ h => hFc _ h), hS, hsz1⟩
  generalize H1 = H at hC ⊢
  have h4 : (CS.hs σ) ≤ CS.hs p1.2 := Nat.le_trans h0 mo2
  refine W.widen (k := CS.hs p1.2 - (CS.hs σ)) (n := 17 * (CS.hs p1.2 - (CS.hs σ))) (cAcc2 h0 mo2) (cAcc3 h0 mo2) ?_
  obtain rfl : r3 = p1.1 := hw
  rcases hf_oc hf with ⟨q5, hf⟩ | ⟨a6, q5, hf⟩
  ·
    refine W.eq (congrArg (fun v9 => F0 m 14 ls (va_rf v9 :: [])) q5) ?_
    refine W.eq (g2 := F0 m 14 ls (.null :: [])) rfl ?_
    refine lv_astore_nN (lv' := [(1, .null), (0, .ref (Q.o 3))]) hx hb dX7_yieldValue_14 rfl hl (by decide) rfl (fun ls hl => ?_)
    refine lv_aload_nN hx hb dX7_yieldValue_15 rfl (lv_at hl 0 rfl) ?_
    refine lv_ifnonnullN hx hb dX7_yieldValue_16 ?_
    refine lv_aload_n hx hb dX7_yieldValue_19 rfl (lv_at hl 1 rfl) ?_
    refine lv_iconst (v := 5) hx hb dX7_yieldValue_20 (by decide) ?_
    refine lv_aload_n hx hb dX7_yieldValue_21 rfl (lv_at hl 1 rfl) ?_
    refine cG_28 hx hb hts i_X7_yieldValue_X7 hown hK hC (hts (.fieldLink RX7 71 "StatementRules2$Statements" "tokens" "LStatementRules2$Tokens;") k_X7_yieldValue_fieldLink_RX7_71_SR_Statements_tokens_LSR_Tokens) (fun x9 q9 => u_same (hts (.sameField "StatementRules2$Statements" "StatementRules2$Formulas" "tokens" "LStatementRules2$Tokens;") k_X7_yieldValue_sameField_SR_Statements_SR_Formulas_tokens_LSR_Tokens) x9 q9) dX7_yieldValue_22 ?_
    refine cGN_44 (v := (p1.2.i 44)) hx hb hts i_X7_yieldValue_X9 hown hK hC (va_Nw.use rfl (hZ.1 (.fieldLinkNest RX7 143 "StatementRules2$Tokens" "place" "I" "StatementRules2") (by decide +kernel))) (fun _ q9 => q9) dX7_yieldValue_25 rfl ?_
    obtain ⟨p7, hcp7, hf⟩ := hf_bind hf
    have mo8 : CS.hs p1.2 ≤ CS.hs p7.2 := Mono.go hcp7 (m_X1_fail N p1.2 5 (p1.2.i 44))
    have hr9 : CS.hs p7.2 ≤ CS.hs R.2 := Mono.go hf (mono_some (Nat.le_refl _))
    have hFc := cFree hC hA
    refine va_callv (va_runU (As := [.int 5, .int (p1.2.i 44)]) (rest := []) ⟨hx, hb, hml, hown, hts⟩ (c_X1_fail l dC dI Q N p1.2 5 (p1.2.i 44) p7 hcp7) (va_cwU 2 hts hX7_yieldValue_X1_fail_u88 rfl rfl rfl rfl (by decide +kernel) ⟨(show 2 + 1 ≤ (13 + 40 * d) by omega), (show 8 + (3 + 11) + 60 * 2 ≤ 60 * (13 + 40 * d) by omega)⟩) ⟨zPre.blind, va_recv hK hC.1 (ci := 6) (q0 := 3) rfl rfl, cPre_go hZ hK hC⟩ rfl rfl hl.1 rfl (lv_room (Nat.le_of_ble_eq_true rfl)) dX7_yieldValue_28 (cAcc h4 mo8 hr9)) hC.2.2.1 (fun q _ h => hFc q h) hFc (fun u9 t9 H1 locs ht hvm hw hB hz1 hk1 hS => ?_)
    obtain ⟨⟨hP, hK1, hD1⟩, hsz1⟩ := hB
    rw [ht] at hP hsz1
    have hC : CP dC dI Q A s.heap p7.2 H1 locs := ⟨hP, hD1.weaken (fun _ _ _ h => hFc _ h), hS, hsz1⟩
    generalize H1 = H at hC ⊢
    have h10 : (CS.hs σ) ≤ CS.hs p7.2 := Nat.le_trans h4 mo8
    refine W.widen (k := CS.hs p7.2 - (CS.hs σ)) (n := 17 * (CS.hs p7.2 - (CS.hs σ))) (cAcc2 h4 mo8) (cAcc3 h4 mo8) ?_
    obtain rfl := Option.some.inj hf
    exact W.vret hx hb hr (fun t ht hW => ⟨⟨(), rfl, trivial, ⟨by rw [ht]; exact hC.1, va_K.moved hW.alike hK, hC.2.1⟩, by rw [ht]; exact hC.2.2.2⟩, hC.2.2.1.F ht⟩) hC.2.2.1.2.2 dX7_yieldValue_31
  ·
    refine W.eq (congrArg (fun v9 => F0 m 14 ls (va_rf v9 :: [])) q5) ?_
    refine W.eq (g2 := F0 m 14 ls (.ref a6 :: [])) rfl ?_
    refine lv_astore_n (lv' := [(1, .ref a6), (0, .ref (Q.o 3))]) hx hb dX7_yieldValue_14 rfl hl (by decide) rfl (fun ls hl => ?_)
    refine lv_aload_n hx hb dX7_yieldValue_15 rfl (lv_at hl 0 rfl) ?_
    refine lv_ifnonnull (tgt := 32) hx hb dX7_yieldValue_16 (by decide) ?_
    refine lv_aload_n hx hb dX7_yieldValue_32 rfl (lv_at hl 1 rfl) ?_
    refine cG_28 hx hb hts i_X7_yieldValue_X7 hown hK hC (hts (.fieldLink RX7 71 "StatementRules2$Statements" "tokens" "LStatementRules2$Tokens;") k_X7_yieldValue_fieldLink_RX7_71_SR_Statements_tokens_LSR_Tokens) (fun x9 q9 => u_same (hts (.sameField "StatementRules2$Statements" "StatementRules2$Formulas" "tokens" "LStatementRules2$Tokens;") k_X7_yieldValue_sameField_SR_Statements_SR_Formulas_tokens_LSR_Tokens) x9 q9) dX7_yieldValue_33 ?_
    obtain ⟨p11, hcp11, hf⟩ := hf_bind hf
    have mo12 : CS.hs p1.2 ≤ CS.hs p11.2 := Mono.go hcp11 (m_X9_advance N p1.2)
    have hr9 : CS.hs p11.2 ≤ CS.hs R.2 := Mono.go hf (mono_bind (m_X1_expression N E1 E2 hm1 hm2 p11.2) (fun p15 => (mono_ite (mono_bind (m_X0_add N p15.2 61 (((CS.o p15.2 a6 9) * 32) + (CS.o p15.2 a6 2))) (fun p20 => (mono_bind (m_X1_expect N p20.2 59) (fun p24 => (mono_some (Nat.le_refl _)))))) mono_none)))
    have hFc := cFree hC hA
    refine va_callv (va_runV (As := []) (rest := []) ⟨hx, hb, hml, hown, hts⟩ (c_X9_advance l dC dI Q N p1.2 p11 hcp11) (cwV 0 hts hX7_yieldValue_X9_advance_v146 rfl rfl rfl (by decide +kernel) ⟨(show 3 + 1 ≤ (13 + 40 * d) by omega), (show 8 + (2 + 11) + 60 * 3 ≤ 60 * (13 + 40 * d) by omega)⟩) ⟨zPre.blind, va_recv hK hC.1 (ci := 8) (q0 := 4) rfl rfl, cPre_go hZ hK hC⟩ rfl rfl hl.1 rfl (lv_room (Nat.le_of_ble_eq_true rfl)) dX7_yieldValue_36 (cAcc h4 mo12 hr9)) hC.2.2.1 (fun q _ h => hFc q h) hFc (fun u9 t9 H1 locs ht hvm hw hB hz1 hk1 hS => ?_)
    obtain ⟨⟨hP, hK1, hD1⟩, hsz1⟩ := hB
    rw [ht] at hP hsz1
    have hC : CP dC dI Q A s.heap p11.2 H1 locs := ⟨hP, hD1.weaken (fun _ _ _ h => hFc _ h), hS, hsz1⟩
    generalize H1 = H at hC ⊢
    have h14 : (CS.hs σ) ≤ CS.hs p11.2 := Nat.le_trans h4 mo12
    refine W.widen (k := CS.hs p11.2 - (CS.hs σ)) (n := 17 * (CS.hs p11.2 - (CS.hs σ))) (cAcc2 h4 mo12) (cAcc3 h4 mo12) ?_
    refine lv_aload_n hx hb dX7_yieldValue_39 rfl (lv_at hl 1 rfl) ?_
    obtain ⟨p15, hcp15, hf⟩ := hf_bind hf
    have mo16 : CS.hs p11.2 ≤ CS.hs p15.2 := Mono.go hcp15 (m_X1_expression N E1 E2 hm1 hm2 p11.2)
    have hr9 : CS.hs p15.2 ≤ CS.hs R.2 := Mono.go hf (mono_ite (mono_bind (m_X0_add N p15.2 61 (((CS.o p15.2 a6 9) * 32) + (CS.o p15.2 a6 2))) (fun p20 => (mono_bind (m_X1_expect N p20.2 59) (fun p24 => (mono_some (Nat.le_refl _)))))) mono_none)
    have hFc := cFree hC hA
    refine va_callv (va_runU (As := []) (rest := []) ⟨hx, hb, hml, hown, hts⟩ (c_X1_expression l dC dI Q N d E1 E2 hE1 hE2 hm1 hm2 p11.2 p15 hcp15) (va_cwU 0 hts hX7_yieldValue_X1_expression_u211 rfl rfl rfl rfl (by decide +kernel) ⟨(show (12 + 40 * d) + 1 ≤ (13 + 40 * d) by omega), (show 8 + (3 + 11) + 60 * (12 + 40 * d) ≤ 60 * (13 + 40 * d) by omega)⟩) ⟨zPre.blind, va_recv hK hC.1 (ci := 6) (q0 := 3) rfl rfl, cPre_go hZ hK hC⟩ rfl rfl hl.1 rfl (lv_room (Nat.le_of_ble_eq_true rfl)) dX7_yieldValue_40 (cAcc h14 mo16 hr9)) hC.2.2.1 (fun q _ h => hFc q h) hFc (fun u9 t9 H1 locs ht hvm hw hB hz1 hk1 hS => ?_)
    obtain ⟨⟨hP, hK1, hD1⟩, hsz1⟩ := hB
    rw [ht] at hP hsz1
    have hC : CP dC dI Q A s.heap p15.2 H1 locs := ⟨hP, hD1.weaken (fun _ _ _ h => hFc _ h), hS, hsz1⟩
    generalize H1 = H at hC ⊢
    have h18 : (CS.hs σ) ≤ CS.hs p15.2 := Nat.le_trans h14 mo16
    refine W.widen (k := CS.hs p15.2 - (CS.hs σ)) (n := 17 * (CS.hs p15.2 - (CS.hs σ))) (cAcc2 h14 mo16) (cAcc3 h14 mo16) ?_
    refine lv_aload_n hx hb dX7_yieldValue_43 rfl (lv_at hl 1 rfl) ?_
    refine cG_29 hx hb hts i_X7_yieldValue_X7 hown hK hC (hts (.fieldLink RX7 20 "StatementRules2$Statements" "code" "LStatementRules2$Code;") k_X7_yieldValue_fieldLink_RX7_20_SR_Statements_code_LSR_Code) (fun x9 q9 => u_same (hts (.sameField "StatementRules2$Statements" "StatementRules2$Formulas" "code" "LStatementRules2$Code;") k_X7_yieldValue_sameField_SR_Statements_SR_Formulas_code_LSR_Code) x9 q9) dX7_yieldValue_44 ?_
    refine lv_bipush (v := 61) hx hb dX7_yieldValue_47 (by decide) ?_
    refine lv_aload_n hx hb dX7_yieldValue_49 rfl (lv_at hl 0 rfl) ?_
    obtain ⟨b19, hf⟩ := hf_ite hf
    refine pGN_X5_9 (v := (CS.o p15.2 a6 9)) hx hb hts i_X7_yieldValue_X5 hown hK hC (va_Nw.use rfl (hZ.1 (.fieldLinkNest RX7 196 "StatementRules2$Open" "exit" "I" "StatementRules2") (by decide +kernel))) (fun _ q9 => q9) dX7_yieldValue_50 b19 rfl ?_
    refine lv_bipush (v := 32) hx hb dX7_yieldValue_53 (by decide) ?_
    refine lv_imul hx hb dX7_yieldValue_55 ?_
    refine lv_aload_n hx hb dX7_yieldValue_56 rfl (lv_at hl 0 rfl) ?_
    refine pGN_X5_2 (v := (CS.o p15.2 a6 2)) hx hb hts i_X7_yieldValue_X5 hown hK hC (va_Nw.use rfl (hZ.1 (.fieldLinkNest RX7 287 "StatementRules2$Open" "depth" "I" "StatementRules2") (by decide +kernel))) (fun _ q9 => q9) dX7_yieldValue_57 b19 rfl ?_
    refine lv_iadd hx hb dX7_yieldValue_60 ?_
    obtain ⟨p20, hcp20, hf⟩ := hf_bind hf
    have mo21 : CS.hs p15.2 ≤ CS.hs p20.2 := Mono.go hcp20 (m_X0_add N p15.2 61 (((CS.o p15.2 a6 9) * 32) + (CS.o p15.2 a6 2)))
    have hr9 : CS.hs p20.2 ≤ CS.hs R.2 := Mono.go hf (mono_bind (m_X1_expect N p20.2 59) (fun p24 => (mono_some (Nat.le_refl _))))
    have hFc := cFree hC hA
    refine va_callv (va_runV (As := [.int 61, .int (((CS.o p15.2 a6 9) * 32) + (CS.o p15.2 a6 2))]) (rest := []) ⟨hx, hb, hml, hown, hts⟩ (c_X0_add l dC dI Q N p15.2 61 (((CS.o p15.2 a6 9) * 32) + (CS.o p15.2 a6 2)) p20 hcp20) (cwV 2 hts hX7_yieldValue_X0_add_v176 rfl rfl rfl (by decide +kernel) ⟨(show 2 + 1 ≤ (13 + 40 * d) by omega), (show 8 + (3 + 11) + 60 * 2 ≤ 60 * (13 + 40 * d) by omega)⟩) ⟨zPre.blind, va_recv hK hC.1 (ci := 0) (q0 := 2) rfl rfl, cPre_go hZ hK hC⟩ rfl rfl hl.1 rfl (lv_room (Nat.le_of_ble_eq_true rfl)) dX7_yieldValue_61 (cAcc h18 mo21 hr9)) hC.2.2.1 (fun q _ h => hFc q h) hFc (fun u9 t9 H1 locs ht hvm hw hB hz1 hk1 hS => ?_)
    obtain ⟨⟨hP, hK1, hD1⟩, hsz1⟩ := hB
    rw [ht] at hP hsz1
    have hC : CP dC dI Q A s.heap p20.2 H1 locs := ⟨hP, hD1.weaken (fun _ _ _ h => hFc _ h), hS, hsz1⟩
    generalize H1 = H at hC ⊢
    have h23 : (CS.hs σ) ≤ CS.hs p20.2 := Nat.le_trans h18 mo21
    refine W.widen (k := CS.hs p20.2 - (CS.hs σ)) (n := 17 * (CS.hs p20.2 - (CS.hs σ))) (cAcc2 h18 mo21) (cAcc3 h18 mo21) ?_
    refine lv_aload_n hx hb dX7_yieldValue_64 rfl (lv_at hl 1 rfl) ?_
    refine lv_bipush (v := 59) hx hb dX7_yieldValue_65 (by decide) ?_
    obtain ⟨p24, hcp24, hf⟩ := hf_bind hf
    have mo25 : CS.hs p20.2 ≤ CS.hs p24.2 := Mono.go hcp24 (m_X1_expect N p20.2 59)
    have hr9 : CS.hs p24.2 ≤ CS.hs R.2 := Mono.go hf (mono_some (Nat.le_refl _))
    have hFc := cFree hC hA
    refine va_callv (va_runU (As := [.int 59]) (rest := []) ⟨hx, hb, hml, hown, hts⟩ (c_X1_expect l dC dI Q N p20.2 59 p24 hcp24) (va_cwU 1 hts hX7_yieldValue_X1_expect_u155 rfl rfl rfl rfl (by decide +kernel) ⟨(show 4 + 1 ≤ (13 + 40 * d) by omega), (show 8 + (2 + 11) + 60 * 4 ≤ 60 * (13 + 40 * d) by omega)⟩) ⟨zPre.blind, va_recv hK hC.1 (ci := 6) (q0 := 3) rfl rfl, cPre_go hZ hK hC⟩ rfl rfl hl.1 rfl (lv_room (Nat.le_of_ble_eq_true rfl)) dX7_yieldValue_67 (cAcc h23 mo25 hr9)) hC.2.2.1 (fun q _ h => hFc q h) hFc (fun u9 t9 H1 locs ht hvm hw hB hz1 hk1 hS => ?_)
    obtain ⟨⟨hP, hK1, hD1⟩, hsz1⟩ := hB
    rw [ht] at hP hsz1
    have hC : CP dC dI Q A s.heap p24.2 H1 locs := ⟨hP, hD1.weaken (fun _ _ _ h => hFc _ h), hS, hsz1⟩
    generalize H1 = H at hC ⊢
    have h27 : (CS.hs σ) ≤ CS.hs p24.2 := Nat.le_trans h23 mo25
    refine W.widen (k := CS.hs p24.2 - (CS.hs σ)) (n := 17 * (CS.hs p24.2 - (CS.hs σ))) (cAcc2 h23 mo25) (cAcc3 h23 mo25) ?_
    refine lv_aload_n hx hb dX7_yieldValue_70 rfl (lv_at hl 1 rfl) ?_
    refine lv_iconst (v := 0) hx hb dX7_yieldValue_71 (by decide) ?_
    refine cP_36 (v := 0) hx hb hts i_X7_yieldValue_X7 hown hK hC (hts (.fieldLink RX7 61 "StatementRules2$Statements" "alive" "Z") k_X7_yieldValue_fieldLink_RX7_61_SR_Statements_alive_Z) (fun _ q9 => q9) dX7_yieldValue_72 (by decide) (fun H locs hC => ?_)
    obtain rfl := Option.some.inj hf
    exact W.vret hx hb hr (fun t ht hW => ⟨⟨(), rfl, trivial, ⟨by rw [ht]; exact hC.1, va_K.moved hW.alike hK, hC.2.1⟩, by rw [ht]; exact hC.2.2.2⟩, hC.2.2.1.F ht⟩) hC.2.2.1.2.2 dX7_yieldValue_75
theorem k_X10_isKind_fieldLink_RX10_24_SR_Told_kindCount_I : Cond.fieldLink RX10 24 "StatementRules2$Told" "kindCount" "I" ∈ wzX10_isKind := List.mem_cons_of_mem _ (List.mem_append_left _ (List.mem_of_getElem? (i := 0) rfl))
theorem i_X10_isKind_X10 : ∀ w ∈ wsX100, w ∈ wzX10_isKind := fun _ h => List.mem_cons_of_mem _ (List.mem_append_right _ (List.mem_append_left _ (h)))
set_option maxHeartbeats 4000000 in
set_option maxRecDepth 100000 in
theorem j_X10_isKind_16 {p : Program} {e : Env} {s : State} {m : MethodId} {args : Array Value} {below : List Frame} {meth : Method} {c : Code} {A : Nat → Prop} (l : Launch) (dC : Nat → ClassId) (dI : Nat → Nat → Nat) (Q : CQ) (N : Nat) (z9h : Nat) (R : Int32 × CS) (hx : p.tables.exec = Jvm.exec) (hb : c.code = cX10_isKind) (hr : meth.sig.returnType = (some .boolean)) (hml : c.maxLocals = 2) (hown : s.vm.findClass RX10 = some m.cls) (hts : ∀ w ∈ wzX10_isKind, w.before args s = true) (hlocks : meth.locks = false) (hZ : zAMB s) (hA : ∀ q : Nat, s.heap.size ≤ q → A q) (hK : va_K (dC, dI) vwCl (cT Q) s) : ∀ (σ : CS) (H : Heap) (locs : List Loc) (ls : Array Slot), f_X10_isKind_16 N σ = some R → z9h ≤ CS.hs σ → CP dC dI Q A s.heap σ H locs → lv_has ls 2 [] → W p l e ({ frames := 1, cells := CS.hs R.2 - z9h, slots := 17 * (CS.hs R.2 - z9h), locals := 60 * 1 }) s m args below meth c H locs (CS.hs σ - z9h) (17 * (CS.hs σ - z9h)) (MQ below (va_Qi (fun (r : Int32) (_ : Unit) => r = R.1) (fun (_ : Unit) (t : State) => zPost dC dI A (cW Q R.2) (cT Q) t ∧ t.heap.size = CS.hs R.2) A) args s (CS.hs R.2 - z9h) (17 * (CS.hs R.2 - z9h)) A) (F0 m 16 ls []) := by
  intro σ  H locs ls hf h0 hC hl
  unfold f_X10_isKind_16 at hf
  refine lv_iconst (v := 0) hx hb dX10_isKind_16 (by decide) ?_
  obtain rfl := Option.some.inj hf
  exact W.zret (v := 0) hx hb hr (rfl) (fun t ht hW => ⟨⟨0, (), rfl, rfl, ⟨by rw [ht]; exact hC.1, va_K.moved hW.alike hK, hC.2.1⟩, by rw [ht]; exact hC.2.2.2⟩, hC.2.2.1.F ht⟩) hC.2.2.1.2.2 dX10_isKind_17
set_option maxHeartbeats 4000000 in
set_option maxRecDepth 100000 in
theorem c_X10_isKind (l : Launch) (dC : Nat → ClassId) (dI : Nat → Nat → Nat) (Q : CQ) (N : Nat) (σ : CS) (x1 : Int32) (R : Int32 × CS) (hf : f_X10_isKind N σ x1 = some R) : Met l yX10_isKind wzX10_isKind ({ frames := 1, cells := CS.hs R.2 - CS.hs σ, slots := 17 * (CS.hs R.2 - CS.hs σ), locals := 60 * 1 }) (va_Pc [.ref (Q.o 1), .int x1] (zPre dC dI (CS.hs σ) (cW Q σ) (cT Q))) (va_Qi (fun (r : Int32) (_ : Unit) => r = R.1) (fun (_ : Unit) (t : State) => zPost dC dI (va_A (cW Q σ) (CS.hs σ)) (cW Q R.2) (cT Q) t ∧ t.heap.size = CS.hs R.2) (va_A (cW Q σ) (CS.hs σ))) (CS.hs R.2 - CS.hs σ) (17 * (CS.hs R.2 - CS.hs σ)) (va_A (cW Q σ) (CS.hs σ)) := by
  refine Met.ofW (cc := cX10_isKind) (maxL := 2) (ret := (some .boolean)) (by decide) rfl ?_
  intro p e s m args below meth c s₁ B hml hv
  obtain ⟨rfl, hsz, hZ, hP, hK, hD0⟩ := hv
  have hx := B.exec
  have hb := B.bytes
  have hr := B.returns
  have hts := atoms_spec (ws := wzX10_isKind) B.pre
  have hown : s.vm.findClass RX10 = some m.cls := findClass_of_methodNamed B.named
  have hlocks := B.notSynchronized
  have hD := hD0.self (sz := CS.hs σ)
  generalize hAe : va_A (cW Q σ) (CS.hs σ) = A at hD ⊢
  have hA : ∀ q : Nat, s.heap.size ≤ q → A q := fun q h => by rw [← hAe]; exact Or.inr (hsz ▸ h)
  have hC : CP dC dI Q A s.heap σ s.heap [] := ⟨hP, hD, va_S.rf, hsz⟩
  have h0 : CS.hs σ ≤ CS.hs σ := Nat.le_refl _
  have hl := lv_entry ([.ref (Q.o 1), .int x1]) (n := 2) (Nat.le_of_ble_eq_true rfl)
  rw [lg_entry_eq]
  generalize (lg_sl ([.ref (Q.o 1), .int x1]) ++ List.replicate (2 - (lg_sl ([.ref (Q.o 1), .int x1])).length) Slot.unset).toArray = ls at hl ⊢
  have hl : lv_has ls 2 [(0, .ref (Q.o 1)), (1, .int x1)] := hl
  unfold f_X10_isKind at hf
  refine W.widen (k := CS.hs σ - CS.hs σ) (n := 17 * (CS.hs σ - CS.hs σ)) (Nat.zero_le _) (Nat.zero_le _) ?_
  refine lv_iload_n hx hb dX10_isKind_0 rfl (lv_at hl 1 rfl) ?_
  refine lv_if_lt (tgt := 16) hx hb dX10_isKind_1 (by decide) (fun c1 => ?_) (fun c1 => ?_)
  ·
    replace hf := (if_pos c1).symm.trans hf
    exact j_X10_isKind_16 l dC dI Q N (CS.hs σ) R hx hb hr hml hown hts hlocks hZ hA hK σ _ _ _ hf h0 hC (lv_sub hl [] rfl)
  ·
    replace hf := (if_neg c1).symm.trans hf
    refine lv_iload_n hx hb dX10_isKind_4 rfl (lv_at hl 1 rfl) ?_
    refine lv_aload_n hx hb dX10_isKind_5 rfl (lv_at hl 0 rfl) ?_
    refine cG_13 (v := (σ.i 13)) hx hb hts i_X10_isKind_X10 hown hK hC (hts (.fieldLink RX10 24 "StatementRules2$Told" "kindCount" "I") k_X10_isKind_fieldLink_RX10_24_SR_Told_kindCount_I) (fun _ q9 => q9) dX10_isKind_6 rfl ?_
    refine lv_icmp_ge (tgt := 16) hx hb dX10_isKind_9 (by decide) (fun c2 => ?_) (fun c2 => ?_)
    ·
      replace hf := (if_pos c2).symm.trans hf
      exact j_X10_isKind_16 l dC dI Q N (CS.hs σ) R hx hb hr hml hown hts hlocks hZ hA hK σ _ _ _ hf h0 hC (lv_sub hl [] rfl)
    ·
      replace hf := (if_neg c2).symm.trans hf
      refine lv_iconst (v := 1) hx hb dX10_isKind_12 (by decide) ?_
      refine lv_goto (tgt := 17) hx hb dX10_isKind_13 (by decide) ?_
      obtain rfl := Option.some.inj hf
      exact W.zret (v := 1) hx hb hr (rfl) (fun t ht hW => ⟨⟨1, (), rfl, rfl, ⟨by rw [ht]; exact hC.1, va_K.moved hW.alike hK, hC.2.1⟩, by rw [ht]; exact hC.2.2.2⟩, hC.2.2.1.F ht⟩) hC.2.2.1.2.2 dX10_isKind_17
end
