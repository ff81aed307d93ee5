theorem i_X7_endLock_X5 : ∀ w ∈ wsX50, w ∈ wzX7_endLock := fun _ h => List.mem_cons_of_mem _ (List.mem_append_right _ (List.mem_append_left _ (h)))
theorem k_X7_endLock_fieldLink_RX7_20_SR_Statements_code_LSR_Code : Cond.fieldLink RX7 20 "StatementRules2$Statements" "code" "LStatementRules2$Code;" ∈ wzX7_endLock := List.mem_cons_of_mem _ (List.mem_append_left _ (List.mem_of_getElem? (i := 0) rfl))
theorem k_X7_endLock_sameField_SR_Statements_SR_Formulas_code_LSR_Code : Cond.sameField "StatementRules2$Statements" "StatementRules2$Formulas" "code" "LStatementRules2$Code;" ∈ wzX7_endLock := List.mem_cons_of_mem _ (List.mem_append_left _ (List.mem_of_getElem? (i := 1) rfl))
theorem i_X7_endLock_X7 : ∀ w ∈ wsX70, w ∈ wzX7_endLock := fun _ h => List.mem_cons_of_mem _ (List.mem_append_right _ (List.mem_append_right _ (List.mem_append_left _ (h))))
theorem k_X7_endLock_fieldLink_RX7_68_SR_Statements_depth_I : Cond.fieldLink RX7 68 "StatementRules2$Statements" "depth" "I" ∈ wzX7_endLock := List.mem_cons_of_mem _ (List.mem_append_left _ (List.mem_of_getElem? (i := 2) rfl))
theorem k_X7_endLock_fieldLink_RX7_14_SR_Statements_opens_LSR_Opens : Cond.fieldLink RX7 14 "StatementRules2$Statements" "opens" "LStatementRules2$Opens;" ∈ wzX7_endLock := List.mem_cons_of_mem _ (List.mem_append_left _ (List.mem_of_getElem? (i := 3) rfl))
set_option maxHeartbeats 4000000 in
set_option maxRecDepth 100000 in
theorem c_X7_endLock (l : Launch) (dC : Nat → ClassId) (dI : Nat → Nat → Nat) (Q : CQ) (N : Nat) (σ : CS) (x1 : Nat) (R : Unit × CS) (hf : f_X7_endLock N σ x1 = some R) : Met l yX7_endLock wzX7_endLock ({ frames := 4, cells := CS.hs R.2 - CS.hs σ, slots := 17 * (CS.hs R.2 - CS.hs σ), locals := 60 * 4 }) (va_Pc [.ref (Q.o 3), .ref x1] (zPre dC dI (CS.hs σ) (cW Q σ) (cT Q))) (va_Qv (fun (_ : Unit) => True) (fun (_ : Unit) (t : State) => zPost dC dI (va_A (cW Q σ) (CS.hs σ)) (cW Q R.2) (cT Q) t ∧ t.heap.size = CS.hs R.2) (va_A (cW Q σ) (CS.hs σ))) (CS.hs R.2 - CS.hs σ) (17 * (CS.hs R.2 - CS.hs σ)) (va_A (cW Q σ) (CS.hs σ)) := by
  refine Met.ofW (cc := cX7_endLock) (maxL := 2) (ret := none) (by decide) rfl ?_
  intro p e s m args below meth c s₁ B hml hv
  obtain ⟨rfl, hsz, hZ, hP, hK, hD0⟩ := hv
  have hx := B.exec
  have hb := B.bytes
  have hr := B.returns
  have hts := atoms_spec (ws := wzX7_endLock) B.pre
  have hown : s.vm.findClass RX7 = some m.cls := findClass_of_methodNamed B.named
  have hlocks := B.notSynchronized
  have hD := hD0.self (sz := CS.hs σ)
  generalize hAe : va_A (cW Q σ) (CS.hs σ) = A at hD ⊢
  have hA : ∀ q : Nat, s.heap.size ≤ q → A q := fun q h => by rw [← hAe]; exact Or.inr (hsz ▸ h)
  have hC : CP dC dI Q A s.heap σ s.heap [] := ⟨hP, hD, va_S.rf, hsz⟩
  have h0 : CS.hs σ ≤ CS.hs σ := Nat.le_refl _
  have hl := lv_entry ([.ref (Q.o 3), .ref x1]) (n := 2) (Nat.le_of_ble_eq_true rfl)
  rw [lg_entry_eq]
  generalize (lg_sl ([.ref (Q.o 3), .ref x1]) ++ List.replicate (2 - (lg_sl ([.ref (Q.o 3), .ref x1])).length) Slot.unset).toArray = ls at hl ⊢
  have hl : lv_has ls 2 [(0, .ref (Q.o 3)), (1, .ref x1)] := hl
  unfold f_X7_endLock at hf
  refine W.widen (k := CS.hs σ - CS.hs σ) (n := 17 * (CS.hs σ - CS.hs σ)) (Nat.zero_le _) (Nat.zero_le _) ?_
  refine lv_aload_n hx hb dX7_endLock_0 rfl (lv_at hl 0 rfl) ?_
  refine lv_aload_n hx hb dX7_endLock_1 rfl (lv_at hl 1 rfl) ?_
  obtain ⟨b1, hf⟩ := hf_ite hf
  refine pGN_X5_9 (v := (CS.o σ x1 9)) hx hb hts i_X7_endLock_X5 hown hK hC (va_Nw.use rfl (hZ.1 (.fieldLinkNest RX7 196 "StatementRules2$Open" "exit" "I" "StatementRules2") (by decide +kernel))) (fun _ q9 => q9) dX7_endLock_2 b1 rfl ?_
  refine lv_aload_n hx hb dX7_endLock_5 rfl (lv_at hl 1 rfl) ?_
  refine pGN_X5_2 (v := (CS.o σ x1 2)) hx hb hts i_X7_endLock_X5 hown hK hC (va_Nw.use rfl (hZ.1 (.fieldLinkNest RX7 287 "StatementRules2$Open" "depth" "I" "StatementRules2") (by decide +kernel))) (fun _ q9 => q9) dX7_endLock_6 b1 rfl ?_
  obtain ⟨p2, hcp2, hf⟩ := hf_bind hf
  have mo3 : CS.hs σ ≤ CS.hs p2.2 := Mono.go hcp2 (m_X7_leave N σ (CS.o σ x1 9) (CS.o σ x1 2))
  have hr9 : CS.hs p2.2 ≤ CS.hs R.2 := Mono.go hf (mono_ite (mono_bind (m_X0_aim N p2.2 (CS.o p2.2 x1 9)) (fun p7 => (mono_bind (m_X6_pop N (CS.setI p7.2 38 ((p7.2.i 38) - 1))) (fun p11 => (mono_some (Nat.le_refl _)))))) mono_none)
  have hFc := cFree hC hA
  refine va_callv (va_runV (As := [.int (CS.o σ x1 9), .int (CS.o σ x1 2)]) (rest := []) ⟨hx, hb, hml, hown, hts⟩ (c_X7_leave l dC dI Q N σ (CS.o σ x1 9) (CS.o σ x1 2) p2 hcp2) (cwV 2 hts hX7_endLock_X7_leave_v288 rfl rfl rfl (by decide +kernel) ⟨(show 3 + 1 ≤ 4 by omega), (show 8 + (3 + 11) + 60 * 3 ≤ 60 * 4 by omega)⟩) ⟨zPre.blind, va_recv hK hC.1 (ci := 6) (q0 := 3) rfl rfl, cPre_go hZ hK hC⟩ rfl rfl hl.1 rfl (lv_room (Nat.le_of_ble_eq_true rfl)) dX7_endLock_9 (cAcc h0 mo3 hr9)) hC.2.2.1 (fun q _ h => hFc q h) hFc (fun u9 t9 H1 locs ht hvm hw hB hz1 hk1 hS => ?_)
  obtain ⟨⟨hP, hK1, hD1⟩, hsz1⟩ := hB
  rw [ht] at hP hsz1
  have hC : CP dC dI Q A s.heap p2.2 H1 locs := ⟨hP, hD1.weaken (fun _ _ _ h => hFc _ h), hS, hsz1⟩
  generalize H1 = H at hC ⊢
  have h5 : (CS.hs σ) ≤ CS.hs p2.2 := Nat.le_trans h0 mo3
  refine W.widen (k := CS.hs p2.2 - (CS.hs σ)) (n := 17 * (CS.hs p2.2 - (CS.hs σ))) (cAcc2 h0 mo3) (cAcc3 h0 mo3) ?_
  refine lv_aload_n hx hb dX7_endLock_12 rfl (lv_at hl 0 rfl) ?_
  refine cG_29 hx hb hts i_X7_endLock_X7 hown hK hC (hts (.fieldLink RX7 20 "StatementRules2$Statements" "code" "LStatementRules2$Code;") k_X7_endLock_fieldLink_RX7_20_SR_Statements_code_LSR_Code) (fun x9 q9 => u_same (hts (.sameField "StatementRules2$Statements" "StatementRules2$Formulas" "code" "LStatementRules2$Code;") k_X7_endLock_sameField_SR_Statements_SR_Formulas_code_LSR_Code) x9 q9) dX7_endLock_13 ?_
  refine lv_aload_n hx hb dX7_endLock_16 rfl (lv_at hl 1 rfl) ?_
  obtain ⟨b6, hf⟩ := hf_ite hf
  refine pGN_X5_9 (v := (CS.o p2.2 x1 9)) hx hb hts i_X7_endLock_X5 hown hK hC (va_Nw.use rfl (hZ.1 (.fieldLinkNest RX7 196 "StatementRules2$Open" "exit" "I" "StatementRules2") (by decide +kernel))) (fun _ q9 => q9) dX7_endLock_17 b6 rfl ?_
  obtain ⟨p7, hcp7, hf⟩ := hf_bind hf
  have mo8 : CS.hs p2.2 ≤ CS.hs p7.2 := Mono.go hcp7 (m_X0_aim N p2.2 (CS.o p2.2 x1 9))
  have hr9 : CS.hs p7.2 ≤ CS.hs R.2 := Mono.go hf (mono_bind (m_X6_pop N (CS.setI p7.2 38 ((p7.2.i 38) - 1))) (fun p11 => (mono_some (Nat.le_refl _))))
  have hFc := cFree hC hA
  refine va_callv (va_runV (As := [.int (CS.o p2.2 x1 9)]) (rest := []) ⟨hx, hb, hml, hown, hts⟩ (c_X0_aim l dC dI Q N p2.2 (CS.o p2.2 x1 9) p7 hcp7) (cwV 1 hts hX7_endLock_X0_aim_v158 rfl rfl rfl (by decide +kernel) ⟨(show 2 + 1 ≤ 4 by omega), (show 8 + (2 + 11) + 60 * 2 ≤ 60 * 4 by omega)⟩) ⟨zPre.blind, va_recv hK hC.1 (ci := 0) (q0 := 2) rfl rfl, cPre_go hZ hK hC⟩ rfl rfl hl.1 rfl (lv_room (Nat.le_of_ble_eq_true rfl)) dX7_endLock_20 (cAcc h5 mo8 hr9)) hC.2.2.1 (fun q _ h => hFc q h) hFc (fun u9 t9 H1 locs ht hvm hw hB hz1 hk1 hS => ?_)
  obtain ⟨⟨hP, hK1, hD1⟩, hsz1⟩ := hB
  rw [ht] at hP hsz1
  have hC : CP dC dI Q A s.heap p7.2 H1 locs := ⟨hP, hD1.weaken (fun _ _ _ h => hFc _ h), hS, hsz1⟩
  generalize H1 = H at hC ⊢
  have h10 : (CS.hs σ) ≤ CS.hs p7.2 := Nat.le_trans h5 mo8
  refine W.widen (k := CS.hs p7.2 - (CS.hs σ)) (n := 17 * (CS.hs p7.2 - (CS.hs σ))) (cAcc2 h5 mo8) (cAcc3 h5 mo8) ?_
  refine lv_aload_n hx hb dX7_endLock_23 rfl (lv_at hl 0 rfl) ?_
  refine lv_dup hx hb dX7_endLock_24 rfl ?_
  refine cG_38 (v := (p7.2.i 38)) hx hb hts i_X7_endLock_X7 hown hK hC (hts (.fieldLink RX7 68 "StatementRules2$Statements" "depth" "I") k_X7_endLock_fieldLink_RX7_68_SR_Statements_depth_I) (fun _ q9 => q9) dX7_endLock_25 rfl ?_
  refine lv_iconst (v := 1) hx hb dX7_endLock_28 (by decide) ?_
  refine lv_isub hx hb dX7_endLock_29 ?_
  refine cP_38 (v := ((p7.2.i 38) - 1)) hx hb hts i_X7_endLock_X7 hown hK hC (hts (.fieldLink RX7 68 "StatementRules2$Statements" "depth" "I") k_X7_endLock_fieldLink_RX7_68_SR_Statements_depth_I) (fun _ q9 => q9) dX7_endLock_30 (fun H locs hC => ?_)
  refine lv_aload_n hx hb dX7_endLock_33 rfl (lv_at hl 0 rfl) ?_
  refine cG_35 hx hb hts i_X7_endLock_X7 hown hK hC (hts (.fieldLink RX7 14 "StatementRules2$Statements" "opens" "LStatementRules2$Opens;") k_X7_endLock_fieldLink_RX7_14_SR_Statements_opens_LSR_Opens) (fun _ q9 => q9) dX7_endLock_34 ?_
  obtain ⟨p11, hcp11, hf⟩ := hf_bind hf
  have mo12 : CS.hs p7.2 ≤ CS.hs p11.2 := Mono.go hcp11 (m_X6_pop N (CS.setI p7.2 38 ((p7.2.i 38) - 1)))
  have hr9 : CS.hs p11.2 ≤ CS.hs R.2 := Mono.go hf (mono_some (Nat.le_refl _))
  have hFc := cFree hC hA
  refine va_callv (va_runV (As := []) (rest := []) ⟨hx, hb, hml, hown, hts⟩ (c_X6_pop l dC dI Q N (CS.setI p7.2 38 ((p7.2.i 38) - 1)) p11 hcp11) (cwV 0 hts hX7_endLock_X6_pop_v369 rfl rfl rfl (by decide +kernel) ⟨(show 1 + 1 ≤ 4 by omega), (show 8 + (1 + 11) + 60 * 1 ≤ 60 * 4 by omega)⟩) ⟨zPre.blind, va_recv hK hC.1 (ci := 5) (q0 := 6) rfl rfl, cPre_go hZ hK hC⟩ rfl rfl hl.1 rfl (lv_room (Nat.le_of_ble_eq_true rfl)) dX7_endLock_37 (cAcc h10 mo12 hr9)) hC.2.2.1 (fun q _ h => hFc q h) hFc (fun u9 t9 H1 locs ht hvm hw hB hz1 hk1 hS => ?_)
  obtain ⟨⟨hP, hK1, hD1⟩, hsz1⟩ := hB
  rw [ht] at hP hsz1
  have hC : CP dC dI Q A s.heap p11.2 H1 locs := ⟨hP, hD1.weaken (fun _ _ _ h => hFc _ h), hS, hsz1⟩
  generalize H1 = H at hC ⊢
  have h14 : (CS.hs σ) ≤ CS.hs p11.2 := Nat.le_trans h10 mo12
  refine W.widen (k := CS.hs p11.2 - (CS.hs σ)) (n := 17 * (CS.hs p11.2 - (CS.hs σ))) (cAcc2 h10 mo12) (cAcc3 h10 mo12) ?_
  obtain rfl := Option.some.inj hf
  exact W.vret hx hb hr (fun t ht hW => ⟨⟨(), rfl, trivial, ⟨by rw [ht]; exact hC.1, va_K.moved hW.alike hK, hC.2.1⟩, by rw [ht]; exact hC.2.2.2⟩, hC.2.2.1.F ht⟩) hC.2.2.1.2.2 dX7_endLock_40
theorem k_X7_endSwitch_fieldLink_RX7_20_SR_Statements_code_LSR_Code : Cond.fieldLink RX7 20 "StatementRules2$Statements" "code" "LStatementRules2$Code;" ∈ wzX7_endSwitch := List.mem_cons_of_mem _ (List.mem_append_left _ (List.mem_of_getElem? (i := 0) rfl))
theorem k_X7_endSwitch_sameField_SR_Statements_SR_Formulas_code_LSR_Code : Cond.sameField "StatementRules2$Statements" "StatementRules2$Formulas" "code" "LStatementRules2$Code;" ∈ wzX7_endSwitch := List.mem_cons_of_mem _ (List.mem_append_left _ (List.mem_of_getElem? (i := 1) rfl))
theorem i_X7_endSwitch_X7 : ∀ w ∈ wsX70, w ∈ wzX7_endSwitch := fun _ h => List.mem_cons_of_mem _ (List.mem_append_right _ (List.mem_append_left _ (h)))
theorem i_X7_endSwitch_X5 : ∀ w ∈ wsX50, w ∈ wzX7_endSwitch := fun _ h => List.mem_cons_of_mem _ (List.mem_append_right _ (List.mem_append_right _ (List.mem_append_left _ (h))))
theorem k_X7_endSwitch_fieldLink_RX7_61_SR_Statements_alive_Z : Cond.fieldLink RX7 61 "StatementRules2$Statements" "alive" "Z" ∈ wzX7_endSwitch := List.mem_cons_of_mem _ (List.mem_append_left _ (List.mem_of_getElem? (i := 2) rfl))
theorem k_X7_endSwitch_fieldLink_RX7_14_SR_Statements_opens_LSR_Opens : Cond.fieldLink RX7 14 "StatementRules2$Statements" "opens" "LStatementRules2$Opens;" ∈ wzX7_endSwitch := List.mem_cons_of_mem _ (List.mem_append_left _ (List.mem_of_getElem? (i := 3) rfl))
set_option maxHeartbeats 4000000 in
set_option maxRecDepth 100000 in
theorem j_X7_endSwitch_99 {p : Program} {e : Env} {s : State} {m : MethodId} {args : Array Value} {below : List Frame} {meth : Method} {c : Code} {A : Nat → Prop} (l : Launch) (dC : Nat → ClassId) (dI : Nat → Nat → Nat) (Q : CQ) (N : Nat) (z9h : Nat) (R : Unit × CS) (hx : p.tables.exec = Jvm.exec) (hb : c.code = cX7_endSwitch) (hr : meth.sig.returnType = none) (hml : c.maxLocals = 2) (hown : s.vm.findClass RX7 = some m.cls) (hts : ∀ w ∈ wzX7_endSwitch, w.before args s = true) (hlocks : meth.locks = false) (hZ : zAMB s) (hA : ∀ q : Nat, s.heap.size ≤ q → A q) (hK : va_K (dC, dI) vwCl (cT Q) s) : ∀ (σ : CS) (H : Heap) (locs : List Loc) (ls : Array Slot), f_X7_endSwitch_99 N σ = some R → z9h ≤ CS.hs σ → CP dC dI Q A s.heap σ H locs → lv_has ls 2 [(0, .ref (Q.o 3))] → W p l e ({ frames := 4, cells := CS.hs R.2 - z9h, slots := 17 * (CS.hs R.2 - z9h), locals := 60 * 4 }) s m args below meth c H locs (CS.hs σ - z9h) (17 * (CS.hs σ - z9h)) (MQ below (va_Qv (fun (_ : Unit) => True) (fun (_ : Unit) (t : State) => zPost dC dI A (cW Q R.2) (cT Q) t ∧ t.heap.size = CS.hs R.2) A) args s (CS.hs R.2 - z9h) (17 * (CS.hs R.2 - z9h)) A) (F0 m 99 ls []) := by
  intro σ  H locs ls hf h0 hC hl
  unfold f_X7_endSwitch_99 at hf
  refine lv_aload_n hx hb dX7_endSwitch_99 rfl (lv_at hl 0 rfl) ?_
  refine cG_35 hx hb hts i_X7_endSwitch_X7 hown hK hC (hts (.fieldLink RX7 14 "StatementRules2$Statements" "opens" "LStatementRules2$Opens;") k_X7_endSwitch_fieldLink_RX7_14_SR_Statements_opens_LSR_Opens) (fun _ q9 => q9) dX7_endSwitch_100 ?_
  obtain ⟨p23, hcp23, hf⟩ := hf_bind hf
  have mo24 : CS.hs σ ≤ CS.hs p23.2 := Mono.go hcp23 (m_X6_pop N σ)
  have hr9 : CS.hs p23.2 ≤ CS.hs R.2 := Mono.go hf (mono_some (Nat.le_refl _))
  have hFc := cFree hC hA
  refine va_callv (va_runV (As := []) (rest := []) ⟨hx, hb, hml, hown, hts⟩ (c_X6_pop l dC dI Q N σ p23 hcp23) (cwV 0 hts hX7_endSwitch_X6_pop_v369 rfl rfl rfl (by decide +kernel) ⟨(show 1 + 1 ≤ 4 by omega), (show 8 + (1 + 11) + 60 * 1 ≤ 60 * 4 by omega)⟩) ⟨zPre.blind, va_recv hK hC.1 (ci := 5) (q0 := 6) rfl rfl, cPre_go hZ hK hC⟩ rfl rfl hl.1 rfl (lv_room (Nat.le_of_ble_eq_true rfl)) dX7_endSwitch_103 (cAcc h0 mo24 hr9)) hC.2.2.1 (fun q _ h => hFc q h) hFc (fun u9 t9 H1 locs ht hvm hw hB hz1 hk1 hS => ?_)
  obtain ⟨⟨hP, hK1, hD1⟩, hsz1⟩ := hB
  rw [ht] at hP hsz1
  have hC : CP dC dI Q A s.heap p23.2 H1 locs := ⟨hP, hD1.weaken (fun _ _ _ h => hFc _ h), hS, hsz1⟩
  generalize H1 = H at hC ⊢
  have h26 : z9h ≤ CS.hs p23.2 := Nat.le_trans h0 mo24
  refine W.widen (k := CS.hs p23.2 - z9h) (n := 17 * (CS.hs p23.2 - z9h)) (cAcc2 h0 mo24) (cAcc3 h0 mo24) ?_
  obtain rfl := Option.some.inj hf
  exact W.vret hx hb hr (fun t ht hW => ⟨⟨(), rfl, trivial, ⟨by rw [ht]; exact hC.1, va_K.moved hW.alike hK, hC.2.1⟩, by rw [ht]; exact hC.2.2.2⟩, hC.2.2.1.F ht⟩) hC.2.2.1.2.2 dX7_endSwitch_106
set_option maxHeartbeats 4000000 in
set_option maxRecDepth 100000 in
theorem j_X7_endSwitch_53 {p : Program} {e : Env} {s : State} {m : MethodId} {args : Array Value} {below : List Frame} {meth : Method} {c : Code} {A : Nat → Prop} (l : Launch) (dC : Nat → ClassId) (dI : Nat → Nat → Nat) (Q : CQ) (N : Nat) (z9h : Nat) (R : Unit × CS) (hx : p.tables.exec = Jvm.exec) (hb : c.code = cX7_endSwitch) (hr : meth.sig.returnType = none) (hml : c.maxLocals = 2) (hown : s.vm.findClass RX7 = some m.cls) (hts : ∀ w ∈ wzX7_endSwitch, w.before args s = true) (hlocks : meth.locks = false) (hZ : zAMB s) (hA : ∀ q : Nat, s.heap.size ≤ q → A q) (hK : va_K (dC, dI) vwCl (cT Q) s) : ∀ (σ : CS) (x1 : Nat) (H : Heap) (locs : List Loc) (ls : Array Slot), f_X7_endSwitch_53 N σ x1 = some R → z9h ≤ CS.hs σ → CP dC dI Q A s.heap σ H locs → lv_has ls 2 [(0, .ref (Q.o 3)), (1, .ref x1)] → W p l e ({ frames := 4, cells := CS.hs R.2 - z9h, slots := 17 * (CS.hs R.2 - z9h), locals := 60 * 4 }) s m args below meth c H locs (CS.hs σ - z9h) (17 * (CS.hs σ - z9h)) (MQ below (va_Qv (fun (_ : Unit) => True) (fun (_ : Unit) (t : State) => zPost dC dI A (cW Q R.2) (cT Q) t ∧ t.heap.size = CS.hs R.2) A) args s (CS.hs R.2 - z9h) (17 * (CS.hs R.2 - z9h)) A) (F0 m 53 ls []) := by
  intro σ x1 H locs ls hf h0 hC hl
  unfold f_X7_endSwitch_53 at hf
  refine lv_aload_n hx hb dX7_endSwitch_53 rfl (lv_at hl 0 rfl) ?_
  refine cG_29 hx hb hts i_X7_endSwitch_X7 hown hK hC (hts (.fieldLink RX7 20 "StatementRules2$Statements" "code" "LStatementRules2$Code;") k_X7_endSwitch_fieldLink_RX7_20_SR_Statements_code_LSR_Code) (fun x9 q9 => u_same (hts (.sameField "StatementRules2$Statements" "StatementRules2$Formulas" "code" "LStatementRules2$Code;") k_X7_endSwitch_sameField_SR_Statements_SR_Formulas_code_LSR_Code) x9 q9) dX7_endSwitch_54 ?_
  refine lv_aload_n hx hb dX7_endSwitch_57 rfl (lv_at hl 1 rfl) ?_
  obtain ⟨b17, hf⟩ := hf_ite hf
  refine pGN_X5_9 (v := (CS.o σ x1 9)) hx hb hts i_X7_endSwitch_X5 hown hK hC (va_Nw.use rfl (hZ.1 (.fieldLinkNest RX7 196 "StatementRules2$Open" "exit" "I" "StatementRules2") (by decide +kernel))) (fun _ q9 => q9) dX7_endSwitch_58 b17 rfl ?_
  obtain ⟨p18, hcp18, hf⟩ := hf_bind hf
  have mo19 : CS.hs σ ≤ CS.hs p18.2 := Mono.go hcp18 (m_X0_aim N σ (CS.o σ x1 9))
  have hr9 : CS.hs p18.2 ≤ CS.hs R.2 := Mono.go hf (mono_ite (mono_ite (mono_ite (m_X7_endSwitch_99 N (CS.setI p18.2 36 1)) (mono_bind (m_X6_isGoneTo N p18.2 x1 0) (fun p29 => (mono_ite (m_X7_endSwitch_99 N (CS.setI p29.2 36 0)) (m_X7_endSwitch_99 N (CS.setI p29.2 36 1)))))) mono_none) (m_X7_endSwitch_99 N (CS.setI p18.2 36 1)))
  have hFc := cFree hC hA
  refine va_callv (va_runV (As := [.int (CS.o σ x1 9)]) (rest := []) ⟨hx, hb, hml, hown, hts⟩ (c_X0_aim l dC dI Q N σ (CS.o σ x1 9) p18 hcp18) (cwV 1 hts hX7_endSwitch_X0_aim_v158 rfl rfl rfl (by decide +kernel) ⟨(show 2 + 1 ≤ 4 by omega), (show 8 + (2 + 11) + 60 * 2 ≤ 60 * 4 by omega)⟩) ⟨zPre.blind, va_recv hK hC.1 (ci := 0) (q0 := 2) rfl rfl, cPre_go hZ hK hC⟩ rfl rfl hl.1 rfl (lv_room (Nat.le_of_ble_eq_true rfl)) dX7_endSwitch_61 (cAcc h0 mo19 hr9)) hC.2.2.1 (fun q _ h => hFc q h) hFc (fun u9 t9 H1 locs ht hvm hw hB hz1 hk1 hS => ?_)
  obtain ⟨⟨hP, hK1, hD1⟩, hsz1⟩ := hB
  rw [ht] at hP hsz1
  have hC : CP dC dI Q A s.heap p18.2 H1 locs := ⟨hP, hD1.weaken (fun _ _ _ h => hFc _ h), hS, hsz1⟩
  generalize H1 = H at hC ⊢
  have h21 : z9h ≤ CS.hs p18.2 := Nat.le_trans h0 mo19
  refine W.widen (k := CS.hs p18.2 - z9h) (n := 17 * (CS.hs p18.2 - z9h)) (cAcc2 h0 mo19) (cAcc3 h0 mo19) ?_
  refine lv_aload_n hx hb dX7_endSwitch_64 rfl (lv_at hl 0 rfl) ?_
  refine lv_aload_n hx hb dX7_endSwitch_65 rfl (lv_at hl 0 rfl) ?_
  refine cG_36 (v := (p18.2.i 36)) hx hb hts i_X7_endSwitch_X7 hown hK hC (hts (.fieldLink RX7 61 "StatementRules2$Statements" "alive" "Z") k_X7_endSwitch_fieldLink_RX7_61_SR_Statements_alive_Z) (fun _ q9 => q9) dX7_endSwitch_66 rfl ?_
  refine lv_if_ne (tgt := 91) hx hb dX7_endSwitch_69 (by decide) (fun c22 => ?_) (fun c22 => ?_)
  ·
    replace hf := (if_neg c22).symm.trans hf
    refine lv_iconst (v := 1) hx hb dX7_endSwitch_91 (by decide) ?_
    refine lv_goto (tgt := 96) hx hb dX7_endSwitch_92 (by decide) ?_
    refine cP_36 (v := 1) hx hb hts i_X7_endSwitch_X7 hown hK hC (hts (.fieldLink RX7 61 "StatementRules2$Statements" "alive" "Z") k_X7_endSwitch_fieldLink_RX7_61_SR_Statements_alive_Z) (fun _ q9 => q9) dX7_endSwitch_96 (by decide) (fun H locs hC => ?_)
    exact j_X7_endSwitch_99 l dC dI Q N z9h R hx hb hr hml hown hts hlocks hZ hA hK (CS.setI p18.2 36 1) _ _ _ hf h21 hC (lv_sub hl [0] rfl)
  ·
    replace hf := (if_pos c22).symm.trans hf
    refine lv_aload_n hx hb dX7_endSwitch_72 rfl (lv_at hl 1 rfl) ?_
    obtain ⟨b27, hf⟩ := hf_ite hf
    refine pGN_X5_11 (v := (CS.o p18.2 x1 11)) hx hb hts i_X7_endSwitch_X5 hown hK hC (va_Nw.use rfl (hZ.1 (.fieldLinkNest RX7 140 "StatementRules2$Open" "other" "I" "StatementRules2") (by decide +kernel))) (fun _ q9 => q9) dX7_endSwitch_73 b27 rfl ?_
    refine lv_if_lt (tgt := 91) hx hb dX7_endSwitch_76 (by decide) (fun c28 => ?_) (fun c28 => ?_)
    ·
      replace hf := (if_pos c28).symm.trans hf
      refine lv_iconst (v := 1) hx hb dX7_endSwitch_91 (by decide) ?_
      refine lv_goto (tgt := 96) hx hb dX7_endSwitch_92 (by decide) ?_
      refine cP_36 (v := 1) hx hb hts i_X7_endSwitch_X7 hown hK hC (hts (.fieldLink RX7 61 "StatementRules2$Statements" "alive" "Z") k_X7_endSwitch_fieldLink_RX7_61_SR_Statements_alive_Z) (fun _ q9 => q9) dX7_endSwitch_96 (by decide) (fun H locs hC => ?_)
      exact j_X7_endSwitch_99 l dC dI Q N z9h R hx hb hr hml hown hts hlocks hZ hA hK (CS.setI p18.2 36 1) _ _ _ hf h21 hC (lv_sub hl [0] rfl)
    ·
      replace hf := (if_neg c28).symm.trans hf
      refine lv_aload_n hx hb dX7_endSwitch_79 rfl (lv_at hl 0 rfl) ?_
      refine cG_35 hx hb hts i_X7_endSwitch_X7 hown hK hC (hts (.fieldLink RX7 14 "StatementRules2$Statements" "opens" "LStatementRules2$Opens;") k_X7_endSwitch_fieldLink_RX7_14_SR_Statements_opens_LSR_Opens) (fun _ q9 => q9) dX7_endSwitch_80 ?_
      refine lv_aload_n hx hb dX7_endSwitch_83 rfl (lv_at hl 1 rfl) ?_
      refine lv_iconst (v := 0) hx hb dX7_endSwitch_84 (by decide) ?_
      obtain ⟨p29, hcp29, hf⟩ := hf_bind hf
      have mo30 : CS.hs p18.2 ≤ CS.hs p29.2 := Mono.go hcp29 (m_X6_isGoneTo N p18.2 x1 0)
      have hr9 : CS.hs p29.2 ≤ CS.hs R.2 := Mono.go hf (mono_ite (m_X7_endSwitch_99 N (CS.setI p29.2 36 0)) (m_X7_endSwitch_99 N (CS.setI p29.2 36 1)))
      have hFc := cFree hC hA
      refine va_calli (va_runV (As := [.ref x1, .int 0]) (rest := [.ref (Q.o 3)]) ⟨hx, hb, hml, hown, hts⟩ (c_X6_isGoneTo l dC dI Q N p18.2 x1 0 p29 hcp29) (cwV 2 hts hX7_endSwitch_X6_isGoneTo_v362 rfl rfl rfl (by decide +kernel) ⟨(show 2 + 1 ≤ 4 by omega), (show 8 + (4 + 11) + 60 * 2 ≤ 60 * 4 by omega)⟩) ⟨zPre.blind, va_recv hK hC.1 (ci := 5) (q0 := 6) rfl rfl, cPre_go hZ hK hC⟩ rfl rfl hl.1 rfl (lv_room (Nat.le_of_ble_eq_true rfl)) dX7_endSwitch_85 (cAcc h21 mo30 hr9)) hC.2.2.1 (fun q _ h => hFc q h) hFc (fun r31 u9 t9 H1 locs ht hvm hw hB hz1 hk1 hS => ?_)
      obtain ⟨⟨hP, hK1, hD1⟩, hsz1⟩ := hB
      rw [ht] at hP hsz1
      have hC : CP dC dI Q A s.heap p29.2 H1 locs := ⟨hP, hD1.weaken (fun _ _ _ h => hFc _ h), hS, hsz1⟩
      generalize H1 = H at hC ⊢
      have h32 : z9h ≤ CS.hs p29.2 := Nat.le_trans h21 mo30
      refine W.widen (k := CS.hs p29.2 - z9h) (n := 17 * (CS.hs p29.2 - z9h)) (cAcc2 h21 mo30) (cAcc3 h21 mo30) ?_
      obtain rfl : r31 = p29.1 := hw
      refine lv_if_eq (tgt := 95) hx hb dX7_endSwitch_88 (by decide) (fun c33 => ?_) (fun c33 => ?_)
      ·
        replace hf := (if_pos c33).symm.trans hf
        refine lv_iconst (v := 0) hx hb dX7_endSwitch_95 (by decide) ?_
        refine cP_36 (v := 0) hx hb hts i_X7_endSwitch_X7 hown hK hC (hts (.fieldLink RX7 61 "StatementRules2$Statements" "alive" "Z") k_X7_endSwitch_fieldLink_RX7_61_SR_Statements_alive_Z) (fun _ q9 => q9) dX7_endSwitch_96 (by decide) (fun H locs hC => ?_)
        exact j_X7_endSwitch_99 l dC dI Q N z9h R hx hb hr hml hown hts hlocks hZ hA hK (CS.setI p29.2 36 0) _ _ _ hf h32 hC (lv_sub hl [0] rfl)
      ·
        replace hf := (if_neg c33).symm.trans hf
        refine lv_iconst (v := 1) hx hb dX7_endSwitch_91 (by decide) ?_
        refine lv_goto (tgt := 96) hx hb dX7_endSwitch_92 (by decide) ?_
        refine cP_36 (v := 1) hx hb hts i_X7_endSwitch_X7 hown hK hC (hts (.fieldLink RX7 61 "StatementRules2$Statements" "alive" "Z") k_X7_endSwitch_fieldLink_RX7_61_SR_Statements_alive_Z) (fun _ q9 => q9) dX7_endSwitch_96 (by decide) (fun H locs hC => ?_)
        exact j_X7_endSwitch_99 l dC dI Q N z9h R hx hb hr hml hown hts hlocks hZ hA hK (CS.setI p29.2 36 1) _ _ _ hf h32 hC (lv_sub hl [0] rfl)
set_option maxHeartbeats 4000000 in
set_option maxRecDepth 100000 in
theorem c_X7_endSwitch (l : Launch) (dC : Nat → ClassId) (dI : Nat → Nat → Nat) (Q : CQ) (N : Nat) (σ : CS) (x1 : Nat) (R : Unit × CS) (hf : f_X7_endSwitch N σ x1 = some R) : Met l yX7_endSwitch wzX7_endSwitch ({ frames := 4, cells := CS.hs R.2 - CS.hs σ, slots := 17 * (CS.hs R.2 - CS.hs σ), locals := 60 * 4 }) (va_Pc [.ref (Q.o 3), .ref x1] (zPre dC dI (CS.hs σ) (cW Q σ) (cT Q))) (va_Qv (fun (_ : Unit) => True) (fun (_ : Unit) (t : State) => zPost dC dI (va_A (cW Q σ) (CS.hs σ)) (cW Q R.2) (cT Q) t ∧ t.heap.size = CS.hs R.2) (va_A (cW Q σ) (CS.hs σ))) (CS.hs R.2 - CS.hs σ) (17 * (CS.hs R.2 - CS.hs σ)) (va_A (cW Q σ) (CS.hs σ)) := by
  refine Met.ofW (cc := cX7_endSwitch) (maxL := 2) (ret := none) (by decide) rfl ?_
  intro p e s m args below meth c s₁ B hml hv
  obtain ⟨rfl, hsz, hZ, hP, hK, hD0⟩ := hv
  have hx := B.exec
  have hb := B.bytes
  have hr := B.returns
  have hts := atoms_spec (ws := wzX7_endSwitch) B.pre
  have hown : s.vm.findClass RX7 = some m.cls := findClass_of_methodNamed B.named
  have hlocks := B.notSynchronized
  have hD := hD0.self (sz := CS.hs σ)
  generalize hAe : va_A (cW Q σ) (CS.hs σ) = A at hD ⊢
  have hA : ∀ q : Nat, s.heap.size ≤ q → A q := fun q h => by rw [← hAe]; exact Or.inr (hsz ▸ h)
  have hC : CP dC dI Q A s.heap σ s.heap [] := ⟨hP, hD, va_S.rf, hsz⟩
  have h0 : CS.hs σ ≤ CS.hs σ := Nat.le_refl _
  have hl := lv_entry ([.ref (Q.o 3), .ref x1]) (n := 2) (Nat.le_of_ble_eq_true rfl)
  rw [lg_entry_eq]
  generalize (lg_sl ([.ref (Q.o 3), .ref x1]) ++ List.replicate (2 - (lg_sl ([.ref (Q.o 3), .ref x1])).length) Slot.unset).toArray = ls at hl ⊢
  have hl : lv_has ls 2 [(0, .ref (Q.o 3)), (1, .ref x1)] := hl
  unfold f_X7_endSwitch at hf
  refine W.widen (k := CS.hs σ - CS.hs σ) (n := 17 * (CS.hs σ - CS.hs σ)) (Nat.zero_le _) (Nat.zero_le _) ?_
  refine lv_aload_n hx hb dX7_endSwitch_0 rfl (lv_at hl 0 rfl) ?_
  refine cG_29 hx hb hts i_X7_endSwitch_X7 hown hK hC (hts (.fieldLink RX7 20 "StatementRules2$Statements" "code" "LStatementRules2$Code;") k_X7_endSwitch_fieldLink_RX7_20_SR_Statements_code_LSR_Code) (fun x9 q9 => u_same (hts (.sameField "StatementRules2$Statements" "StatementRules2$Formulas" "code" "LStatementRules2$Code;") k_X7_endSwitch_sameField_SR_Statements_SR_Formulas_code_LSR_Code) x9 q9) dX7_endSwitch_1 ?_
  refine lv_bipush (v := 30) hx hb dX7_endSwitch_4 (by decide) ?_
  refine lv_aload_n hx hb dX7_endSwitch_6 rfl (lv_at hl 1 rfl) ?_
  obtain ⟨b1, hf⟩ := hf_ite hf
  refine pGN_X5_9 (v := (CS.o σ x1 9)) hx hb hts i_X7_endSwitch_X5 hown hK hC (va_Nw.use rfl (hZ.1 (.fieldLinkNest RX7 196 "StatementRules2$Open" "exit" "I" "StatementRules2") (by decide +kernel))) (fun _ q9 => q9) dX7_endSwitch_7 b1 rfl ?_
  obtain ⟨p2, hcp2, hf⟩ := hf_bind hf
  have mo3 : CS.hs σ ≤ CS.hs p2.2 := Mono.go hcp2 (m_X0_add N σ 30 (CS.o σ x1 9))
  have hr9 : CS.hs p2.2 ≤ CS.hs R.2 := Mono.go hf (mono_ite (mono_bind (m_X0_aim N p2.2 (CS.o p2.2 x1 10)) (fun p7 => (mono_ite (mono_ite (mono_bind (m_X0_addCases N p7.2 (CS.o p7.2 x1 13) (CS.o p7.2 x1 9)) (fun p13 => (m_X7_endSwitch_53 N p13.2 x1))) (mono_bind (m_X0_addCases N p7.2 (CS.o p7.2 x1 13) (CS.o p7.2 x1 11)) (fun p34 => (m_X7_endSwitch_53 N p34.2 x1)))) mono_none))) mono_none)
  have hFc := cFree hC hA
  refine va_callv (va_runV (As := [.int 30, .int (CS.o σ x1 9)]) (rest := []) ⟨hx, hb, hml, hown, hts⟩ (c_X0_add l dC dI Q N σ 30 (CS.o σ x1 9) p2 hcp2) (cwV 2 hts hX7_endSwitch_X0_add_v176 rfl rfl rfl (by decide +kernel) ⟨(show 2 + 1 ≤ 4 by omega), (show 8 + (3 + 11) + 60 * 2 ≤ 60 * 4 by omega)⟩) ⟨zPre.blind, va_recv hK hC.1 (ci := 0) (q0 := 2) rfl rfl, cPre_go hZ hK hC⟩ rfl rfl hl.1 rfl (lv_room (Nat.le_of_ble_eq_true rfl)) dX7_endSwitch_10 (cAcc h0 mo3 hr9)) hC.2.2.1 (fun q _ h => hFc q h) hFc (fun u9 t9 H1 locs ht hvm hw hB hz1 hk1 hS => ?_)
  obtain ⟨⟨hP, hK1, hD1⟩, hsz1⟩ := hB
  rw [ht] at hP hsz1
  have hC : CP dC dI Q A s.heap p2.2 H1 locs := ⟨hP, hD1.weaken (fun _ _ _ h => hFc _ h), hS, hsz1⟩
  generalize H1 = H at hC ⊢
  have h5 : (CS.hs σ) ≤ CS.hs p2.2 := Nat.le_trans h0 mo3
  refine W.widen (k := CS.hs p2.2 - (CS.hs σ)) (n := 17 * (CS.hs p2.2 - (CS.hs σ))) (cAcc2 h0 mo3) (cAcc3 h0 mo3) ?_
  refine lv_aload_n hx hb dX7_endSwitch_13 rfl (lv_at hl 0 rfl) ?_
  refine cG_29 hx hb hts i_X7_endSwitch_X7 hown hK hC (hts (.fieldLink RX7 20 "StatementRules2$Statements" "code" "LStatementRules2$Code;") k_X7_endSwitch_fieldLink_RX7_20_SR_Statements_code_LSR_Code) (fun x9 q9 => u_same (hts (.sameField "StatementRules2$Statements" "StatementRules2$Formulas" "code" "LStatementRules2$Code;") k_X7_endSwitch_sameField_SR_Statements_SR_Formulas_code_LSR_Code) x9 q9) dX7_endSwitch_14 ?_
  refine lv_aload_n hx hb dX7_endSwitch_17 rfl (lv_at hl 1 rfl) ?_
  obtain ⟨b6, hf⟩ := hf_ite hf
  refine pGN_X5_10 (v := (CS.o p2.2 x1 10)) hx hb hts i_X7_endSwitch_X5 hown hK hC (va_Nw.use rfl (hZ.1 (.fieldLinkNest RX7 284 "StatementRules2$Open" "next" "I" "StatementRules2") (by decide +kernel))) (fun _ q9 => q9) dX7_endSwitch_18 b6 rfl ?_
  obtain ⟨p7, hcp7, hf⟩ := hf_bind hf
  have mo8 : CS.hs p2.2 ≤ CS.hs p7.2 := Mono.go hcp7 (m_X0_aim N p2.2 (CS.o p2.2 x1 10))
  have hr9 : CS.hs p7.2 ≤ CS.hs R.2 := Mono.go hf (mono_ite (mono_ite (mono_bind (m_X0_addCases N p7.2 (CS.o p7.2 x1 13) (CS.o p7.2 x1 9)) (fun p13 => (m_X7_endSwitch_53 N p13.2 x1))) (mono_bind (m_X0_addCases N p7.2 (CS.o p7.2 x1 13) (CS.o p7.2 x1 11)) (fun p34 => (m_X7_endSwitch_53 N p34.2 x1)))) mono_none)
  have hFc := cFree hC hA
  refine va_callv (va_runV (As := [.int (CS.o p2.2 x1 10)]) (rest := []) ⟨hx, hb, hml, hown, hts⟩ (c_X0_aim l dC dI Q N p2.2 (CS.o p2.2 x1 10) p7 hcp7) (cwV 1 hts hX7_endSwitch_X0_aim_v158 rfl rfl rfl (by decide +kernel) ⟨(show 2 + 1 ≤ 4 by omega), (show 8 + (2 + 11) + 60 * 2 ≤ 60 * 4 by omega)⟩) ⟨zPre.blind, va_recv hK hC.1 (ci := 0) (q0 := 2) rfl rfl, cPre_go hZ hK hC⟩ rfl rfl hl.1 rfl (lv_room (Nat.le_of_ble_eq_true rfl)) dX7_endSwitch_21 (cAcc h5 mo8 hr9)) hC.2.2.1 (fun q _ h => hFc q h) hFc (fun u9 t9 H1 locs ht hvm hw hB hz1 hk1 hS => ?_)
  obtain ⟨⟨hP, hK1, hD1⟩, hsz1⟩ := hB
  rw [ht] at hP hsz1
  have hC : CP dC dI Q A s.heap p7.2 H1 locs := ⟨hP, hD1.weaken (fun _ _ _ h => hFc _ h), hS, hsz1⟩
  generalize H1 = H at hC ⊢
  have h10 : (CS.hs σ) ≤ CS.hs p7.2 := Nat.le_trans h5 mo8
  refine W.widen (k := CS.hs p7.2 - (CS.hs σ)) (n := 17 * (CS.hs p7.2 - (CS.hs σ))) (cAcc2 h5 mo8) (cAcc3 h5 mo8) ?_
  refine lv_aload_n hx hb dX7_endSwitch_24 rfl (lv_at hl 0 rfl) ?_
  refine cG_29 hx hb hts i_X7_endSwitch_X7 hown hK hC (hts (.fieldLink RX7 20 "StatementRules2$Statements" "code" "LStatementRules2$Code;") k_X7_endSwitch_fieldLink_RX7_20_SR_Statements_code_LSR_Code) (fun x9 q9 => u_same (hts (.sameField "StatementRules2$Statements" "StatementRules2$Formulas" "code" "LStatementRules2$Code;") k_X7_endSwitch_sameField_SR_Statements_SR_Formulas_code_LSR_Code) x9 q9) dX7_endSwitch_25 ?_
  refine lv_aload_n hx hb dX7_endSwitch_28 rfl (lv_at hl 1 rfl) ?_
  obtain ⟨b11, hf⟩ := hf_ite hf
  refine pGN_X5_13 (v := (CS.o p7.2 x1 13)) hx hb hts i_X7_endSwitch_X5 hown hK hC (va_Nw.use rfl (hZ.1 (.fieldLinkNest RX7 149 "StatementRules2$Open" "firstCase" "I" "StatementRules2") (by decide +kernel))) (fun _ q9 => q9) dX7_endSwitch_29 b11 rfl ?_
  refine lv_aload_n hx hb dX7_endSwitch_32 rfl (lv_at hl 1 rfl) ?_
  refine pGN_X5_11 (v := (CS.o p7.2 x1 11)) hx hb hts i_X7_endSwitch_X5 hown hK hC (va_Nw.use rfl (hZ.1 (.fieldLinkNest RX7 140 "StatementRules2$Open" "other" "I" "StatementRules2") (by decide +kernel))) (fun _ q9 => q9) dX7_endSwitch_33 b11 rfl ?_
  refine lv_if_lt (tgt := 46) hx hb dX7_endSwitch_36 (by decide) (fun c12 => ?_) (fun c12 => ?_)
  ·
    replace hf := (if_pos c12).symm.trans hf
    refine lv_aload_n hx hb dX7_endSwitch_46 rfl (lv_at hl 1 rfl) ?_
    refine pGN_X5_9 (v := (CS.o p7.2 x1 9)) hx hb hts i_X7_endSwitch_X5 hown hK hC (va_Nw.use rfl (hZ.1 (.fieldLinkNest RX7 196 "StatementRules2$Open" "exit" "I" "StatementRules2") (by decide +kernel))) (fun _ q9 => q9) dX7_endSwitch_47 b11 rfl ?_
    obtain ⟨p13, hcp13, hf⟩ := hf_bind hf
    have mo14 : CS.hs p7.2 ≤ CS.hs p13.2 := Mono.go hcp13 (m_X0_addCases N p7.2 (CS.o p7.2 x1 13) (CS.o p7.2 x1 9))
    have hr9 : CS.hs p13.2 ≤ CS.hs R.2 := Mono.go hf (m_X7_endSwitch_53 N p13.2 x1)
    have hFc := cFree hC hA
    refine va_callv (va_runV (As := [.int (CS.o p7.2 x1 13), .int (CS.o p7.2 x1 9)]) (rest := []) ⟨hx, hb, hml, hown, hts⟩ (c_X0_addCases l dC dI Q N p7.2 (CS.o p7.2 x1 13) (CS.o p7.2 x1 9) p13 hcp13) (cwV 2 hts hX7_endSwitch_X0_addCases_v387 rfl rfl rfl (by decide +kernel) ⟨(show 3 + 1 ≤ 4 by omega), (show 8 + (4 + 11) + 60 * 3 ≤ 60 * 4 by omega)⟩) ⟨zPre.blind, va_recv hK hC.1 (ci := 0) (q0 := 2) rfl rfl, cPre_go hZ hK hC⟩ rfl rfl hl.1 rfl (lv_room (Nat.le_of_ble_eq_true rfl)) dX7_endSwitch_50 (cAcc h10 mo14 hr9)) hC.2.2.1 (fun q _ h => hFc q h) hFc (fun u9 t9 H1 locs ht hvm hw hB hz1 hk1 hS => ?_)
    obtain ⟨⟨hP, hK1, hD1⟩, hsz1⟩ := hB
    rw [ht] at hP hsz1
    have hC : CP dC dI Q A s.heap p13.2 H1 locs := ⟨hP, hD1.weaken (fun _ _ _ h => hFc _ h), hS, hsz1⟩
    generalize H1 = H at hC ⊢
    have h16 : (CS.hs σ) ≤ CS.hs p13.2 := Nat.le_trans h10 mo14
    refine W.widen (k := CS.hs p13.2 - (CS.hs σ)) (n := 17 * (CS.hs p13.2 - (CS.hs σ))) (cAcc2 h10 mo14) (cAcc3 h10 mo14) ?_
    exact j_X7_endSwitch_53 l dC dI Q N (CS.hs σ) R hx hb hr hml hown hts hlocks hZ hA hK p13.2 x1 _ _ _ hf h16 hC (lv_sub hl [0, 1] rfl)
  ·
    replace hf := (if_neg c12).symm.trans hf
    refine lv_aload_n hx hb dX7_endSwitch_39 rfl (lv_at hl 1 rfl) ?_
    refine pGN_X5_11 (v := (CS.o p7.2 x1 11)) hx hb hts i_X7_endSwitch_X5 hown hK hC (va_Nw.use rfl (hZ.1 (.fieldLinkNest RX7 140 "StatementRules2$Open" "other" "I" "StatementRules2") (by decide +kernel))) (fun _ q9 => q9) dX7_endSwitch_40 b11 rfl ?_
    refine lv_goto (tgt := 50) hx hb dX7_endSwitch_43 (by decide) ?_
    obtain ⟨p34, hcp34, hf⟩ := hf_bind hf
    have mo35 : CS.hs p7.2 ≤ CS.hs p34.2 := Mono.go hcp34 (m_X0_addCases N p7.2 (CS.o p7.2 x1 13) (CS.o p7.2 x1 11))
    have hr9 : CS.hs p34.2 ≤ CS.hs R.2 := Mono.go hf (m_X7_endSwitch_53 N p34.2 x1)
    have hFc := cFree hC hA
    refine va_callv (va_runV (As := [.int (CS.o p7.2 x1 13), .int (CS.o p7.2 x1 11)]) (rest := []) ⟨hx, hb, hml, hown, hts⟩ (c_X0_addCases l dC dI Q N p7.2 (CS.o p7.2 x1 13) (CS.o p7.2 x1 11) p34 hcp34) (cwV 2 hts hX7_endSwitch_X0_addCases_v387 rfl rfl rfl (by decide +kernel) ⟨(show 3 + 1 ≤ 4 by omega), (show 8 + (4 + 11) + 60 * 3 ≤ 60 * 4 by omega)⟩) ⟨zPre.blind, va_recv hK hC.1 (ci := 0) (q0 := 2) rfl rfl, cPre_go hZ hK hC⟩ rfl rfl hl.1 rfl (lv_room (Nat.le_of_ble_eq_true rfl)) dX7_endSwitch_50 (cAcc h10 mo35 hr9)) hC.2.2.1 (fun q _ h => hFc q h) hFc (fun u9 t9 H1 locs ht hvm hw hB hz1 hk1 hS => ?_)
    obtain ⟨⟨hP, hK1, hD1⟩, hsz1⟩ := hB
    rw [ht] at hP hsz1
    have hC : CP dC dI Q A s.heap p34.2 H1 locs := ⟨hP, hD1.weaken (fun _ _ _ h => hFc _ h), hS, hsz1⟩
    generalize H1 = H at hC ⊢
    have h37 : (CS.hs σ) ≤ CS.hs p34.2 := Nat.le_trans h10 mo35
    refine W.widen (k := CS.hs p34.2 - (CS.hs σ)) (n := 17 * (CS.hs p34.2 - (CS.hs σ))) (cAcc2 h10 mo35) (cAcc3 h10 mo35) ?_
    exact j_X7_endSwitch_53 l dC dI Q N (CS.hs σ) R hx hb hr hml hown hts hlocks hZ hA hK p34.2 x1 _ _ _ hf h37 hC (lv_sub hl [0, 1] rfl)
theorem i_X7_endGuarded_X5 : ∀ w ∈ wsX50, w ∈ wzX7_endGuarded := fun _ h => List.mem_cons_of_mem _ (List.mem_append_right _ (List.mem_append_left _ (h)))
theorem k_X7_endGuarded_fieldLink_RX7_20_SR_Statements_code_LSR_Code : Cond.fieldLink RX7 20 "StatementRules2$Statements" "code" "LStatementRules2$Code;" ∈ wzX7_endGuarded := List.mem_cons_of_mem _ (List.mem_append_left _ (List.mem_of_getElem? (i := 0) rfl))
theorem k_X7_endGuarded_sameField_SR_Statements_SR_Formulas_code_LSR_Code : Cond.sameField "StatementRules2$Statements" "StatementRules2$Formulas" "code" "LStatementRules2$Code;" ∈ wzX7_endGuarded := List.mem_cons_of_mem _ (List.mem_append_left _ (List.mem_of_getElem? (i := 1) rfl))
theorem i_X7_endGuarded_X7 : ∀ w ∈ wsX70, w ∈ wzX7_endGuarded := fun _ h => List.mem_cons_of_mem _ (List.mem_append_right _ (List.mem_append_right _ (List.mem_append_left _ (h))))
theorem k_X7_endGuarded_fieldLink_RX7_61_SR_Statements_alive_Z : Cond.fieldLink RX7 61 "StatementRules2$Statements" "alive" "Z" ∈ wzX7_endGuarded := List.mem_cons_of_mem _ (List.mem_append_left _ (List.mem_of_getElem? (i := 2) rfl))
theorem k_X7_endGuarded_fieldLink_RX7_68_SR_Statements_depth_I : Cond.fieldLink RX7 68 "StatementRules2$Statements" "depth" "I" ∈ wzX7_endGuarded := List.mem_cons_of_mem _ (List.mem_append_left _ (List.mem_of_getElem? (i := 3) rfl))
theorem k_X7_endGuarded_fieldLink_RX7_14_SR_Statements_opens_LSR_Opens : Cond.fieldLink RX7 14 "StatementRules2$Statements" "opens" "LStatementRules2$Opens;" ∈ wzX7_endGuarded := List.mem_cons_of_mem _ (List.mem_append_left _ (List.mem_of_getElem? (i := 4) rfl))
set_option maxHeartbeats 4000000 in
set_option maxRecDepth 100000 in
theorem j_X7_endGuarded_66 {p : Program} {e : Env} {s : State} {m : MethodId} {args : Array Value} {below : List Frame} {meth : Method} {c : Code} {A : Nat → Prop} (l : Launch) (dC : Nat → ClassId) (dI : Nat → Nat → Nat) (Q : CQ) (N : Nat) (z9h : Nat) (R : Unit × CS) (hx : p.tables.exec = Jvm.exec) (hb : c.code = cX7_endGuarded) (hr : meth.sig.returnType = none) (hml : c.maxLocals = 2) (hown : s.vm.findClass RX7 = some m.cls) (hts : ∀ w ∈ wzX7_endGuarded, w.before args s = true) (hlocks : meth.locks = false) (hZ : zAMB s) (hA : ∀ q : Nat, s.heap.size ≤ q → A q) (hK : va_K (dC, dI) vwCl (cT Q) s) : ∀ (σ : CS) (x1 : Nat) (H : Heap) (locs : List Loc) (ls : Array Slot), f_X7_endGuarded_66 N σ x1 = some R → z9h ≤ CS.hs σ → CP dC dI Q A s.heap σ H locs → lv_has ls 2 [(1, .ref x1)] → W p l e ({ frames := 4, cells := CS.hs R.2 - z9h, slots := 17 * (CS.hs R.2 - z9h), locals := 60 * 4 }) s m args below meth c H locs (CS.hs σ - z9h) (17 * (CS.hs σ - z9h)) (MQ below (va_Qv (fun (_ : Unit) => True) (fun (_ : Unit) (t : State) => zPost dC dI A (cW Q R.2) (cT Q) t ∧ t.heap.size = CS.hs R.2) A) args s (CS.hs R.2 - z9h) (17 * (CS.hs R.2 - z9h)) A) (F0 m 66 ls []) := by
  intro σ x1 H locs ls hf h0 hC hl
  unfold f_X7_endGuarded_66 at hf
  refine lv_aload_n hx hb dX7_endGuarded_66 rfl (lv_at hl 0 rfl) ?_
  refine lv_sipush (v := 305) hx hb dX7_endGuarded_67 (by decide) ?_
  obtain ⟨b18, hf⟩ := hf_ite hf
  refine pPN_X5_0 (v := 305) hx hb hts i_X7_endGuarded_X5 hown hK hC (va_Nw.use rfl (hZ.1 (.fieldLinkNest RX7 107 "StatementRules2$Open" "sort" "I" "StatementRules2") (by decide +kernel))) (fun _ q9 => q9) dX7_endGuarded_70 b18 (fun H locs hC => ?_)
  refine lv_goto (tgt := 136) hx hb dX7_endGuarded_73 (by decide) ?_
  obtain rfl := Option.some.inj hf
  exact W.vret hx hb hr (fun t ht hW => ⟨⟨(), rfl, trivial, ⟨by rw [ht]; exact hC.1, va_K.moved hW.alike hK, hC.2.1⟩, by rw [ht]; exact hC.2.2.2⟩, hC.2.2.1.F ht⟩) hC.2.2.1.2.2 dX7_endGuarded_136
set_option maxHeartbeats 4000000 in
set_option maxRecDepth 100000 in
theorem j_X7_endGuarded_46 {p : Program} {e : Env} {s : State} {m : MethodId} {args : Array Value} {below : List Frame} {meth : Method} {c : Code} {A : Nat → Prop} (l : Launch) (dC : Nat → ClassId) (dI : Nat → Nat → Nat) (Q : CQ) (N : Nat) (z9h : Nat) (R : Unit × CS) (hx : p.tables.exec = Jvm.exec) (hb : c.code = cX7_endGuarded) (hr : meth.sig.returnType = none) (hml : c.maxLocals = 2) (hown : s.vm.findClass RX7 = some m.cls) (hts : ∀ w ∈ wzX7_endGuarded, w.before args s = true) (hlocks : meth.locks = false) (hZ : zAMB s) (hA : ∀ q : Nat, s.heap.size ≤ q → A q) (hK : va_K (dC, dI) vwCl (cT Q) s) : ∀ (σ : CS) (x1 : Nat) (H : Heap) (locs : List Loc) (ls : Array Slot), f_X7_endGuarded_46 N σ x1 = some R → z9h ≤ CS.hs σ → CP dC dI Q A s.heap σ H locs → lv_has ls 2 [(0, .ref (Q.o 3)), (1, .ref x1)] → W p l e ({ frames := 4, cells := CS.hs R.2 - z9h, slots := 17 * (CS.hs R.2 - z9h), locals := 60 * 4 }) s m args below meth c H locs (CS.hs σ - z9h) (17 * (CS.hs σ - z9h)) (MQ below (va_Qv (fun (_ : Unit) => True) (fun (_ : Unit) (t : State) => zPost dC dI A (cW Q R.2) (cT Q) t ∧ t.heap.size = CS.hs R.2) A) args s (CS.hs R.2 - z9h) (17 * (CS.hs R.2 - z9h)) A) (F0 m 46 ls []) := by
  intro σ x1 H locs ls hf h0 hC hl
  unfold f_X7_endGuarded_46 at hf
  refine lv_aload_n hx hb dX7_endGuarded_46 rfl (lv_at hl 0 rfl) ?_
  refine lv_sipush (v := 215) hx hb dX7_endGuarded_47 (by decide) ?_
  obtain ⟨p13, hcp13, hf⟩ := hf_bind hf
  have mo14 : CS.hs σ ≤ CS.hs p13.2 := Mono.go hcp13 (m_X1_found N σ 215)
  have hr9 : CS.hs p13.2 ≤ CS.hs R.2 := Mono.go hf (mono_ite (mono_bind (m_X1_found N p13.2 216) (fun p19 => (mono_ite (mono_ite (mono_ite (mono_bind (m_X1_misplaced N p19.2) (fun p26 => (mono_some (Nat.le_refl _)))) (mono_bind (m_X0_add N p19.2 58 0) (fun p30 => (mono_ite (mono_bind (m_X0_aim N p30.2 (CS.o p30.2 x1 9)) (fun p35 => (mono_ite (mono_ite (mono_bind (m_X6_pop N (CS.setI (CS.setI p35.2 36 (CS.o p35.2 x1 6)) 38 ((p35.2.i 38) - 1))) (fun p41 => (mono_some (Nat.le_refl _)))) mono_none) mono_none))) mono_none)))) mono_none) (m_X7_endGuarded_66 N p19.2 x1)))) (m_X7_endGuarded_66 N p13.2 x1))
  have hFc := cFree hC hA
  refine va_calli (va_runU (As := [.int 215]) (rest := []) ⟨hx, hb, hml, hown, hts⟩ (c_X1_found l dC dI Q N σ 215 p13 hcp13) (va_cwU 1 hts hX7_endGuarded_X1_found_u110 rfl rfl rfl rfl (by decide +kernel) ⟨(show 1 + 1 ≤ 4 by omega), (show 8 + (2 + 11) + 60 * 1 ≤ 60 * 4 by omega)⟩) ⟨zPre.blind, va_recv hK hC.1 (ci := 6) (q0 := 3) rfl rfl, cPre_go hZ hK hC⟩ rfl rfl hl.1 rfl (lv_room (Nat.le_of_ble_eq_true rfl)) dX7_endGuarded_50 (cAcc h0 mo14 hr9)) hC.2.2.1 (fun q _ h => hFc q h) hFc (fun r15 u9 t9 H1 locs ht hvm hw hB hz1 hk1 hS => ?_)
  obtain ⟨⟨hP, hK1, hD1⟩, hsz1⟩ := hB
  rw [ht] at hP hsz1
  have hC : CP dC dI Q A s.heap p13.2 H1 locs := ⟨hP, hD1.weaken (fun _ _ _ h => hFc _ h), hS, hsz1⟩
  generalize H1 = H at hC ⊢
  have h16 : z9h ≤ CS.hs p13.2 := Nat.le_trans h0 mo14
  refine W.widen (k := CS.hs p13.2 - z9h) (n := 17 * (CS.hs p13.2 - z9h)) (cAcc2 h0 mo14) (cAcc3 h0 mo14) ?_
  obtain rfl : r15 = p13.1 := hw
  refine lv_if_ne (tgt := 66) hx hb dX7_endGuarded_53 (by decide) (fun c17 => ?_) (fun c17 => ?_)
  ·
    replace hf := (if_neg c17).symm.trans hf
    exact j_X7_endGuarded_66 l dC dI Q N z9h R hx hb hr hml hown hts hlocks hZ hA hK p13.2 x1 _ _ _ hf h16 hC (lv_sub hl [1] rfl)
  ·
    replace hf := (if_pos c17).symm.trans hf
    refine lv_aload_n hx hb dX7_endGuarded_56 rfl (lv_at hl 0 rfl) ?_
    refine lv_sipush (v := 216) hx hb dX7_endGuarded_57 (by decide) ?_
    obtain ⟨p19, hcp19, hf⟩ := hf_bind hf
    have mo20 : CS.hs p13.2 ≤ CS.hs p19.2 := Mono.go hcp19 (m_X1_found N p13.2 216)
    have hr9 : CS.hs p19.2 ≤ CS.hs R.2 := Mono.go hf (mono_ite (mono_ite (mono_ite (mono_bind (m_X1_misplaced N p19.2) (fun p26 => (mono_some (Nat.le_refl _)))) (mono_bind (m_X0_add N p19.2 58 0) (fun p30 => (mono_ite (mono_bind (m_X0_aim N p30.2 (CS.o p30.2 x1 9)) (fun p35 => (mono_ite (mono_ite (mono_bind (m_X6_pop N (CS.setI (CS.setI p35.2 36 (CS.o p35.2 x1 6)) 38 ((p35.2.i 38) - 1))) (fun p41 => (mono_some (Nat.le_refl _)))) mono_none) mono_none))) mono_none)))) mono_none) (m_X7_endGuarded_66 N p19.2 x1))
    have hFc := cFree hC hA
    refine va_calli (va_runU (As := [.int 216]) (rest := []) ⟨hx, hb, hml, hown, hts⟩ (c_X1_found l dC dI Q N p13.2 216 p19 hcp19) (va_cwU 1 hts hX7_endGuarded_X1_found_u110 rfl rfl rfl rfl (by decide +kernel) ⟨(show 1 + 1 ≤ 4 by omega), (show 8 + (2 + 11) + 60 * 1 ≤ 60 * 4 by omega)⟩) ⟨zPre.blind, va_recv hK hC.1 (ci := 6) (q0 := 3) rfl rfl, cPre_go hZ hK hC⟩ rfl rfl hl.1 rfl (lv_room (Nat.le_of_ble_eq_true rfl)) dX7_endGuarded_60 (cAcc h16 mo20 hr9)) hC.2.2.1 (fun q _ h => hFc q h) hFc (fun r21 u9 t9 H1 locs ht hvm hw hB hz1 hk1 hS => ?_)
    obtain ⟨⟨hP, hK1, hD1⟩, hsz1⟩ := hB
    rw [ht] at hP hsz1
    have hC : CP dC dI Q A s.heap p19.2 H1 locs := ⟨hP, hD1.weaken (fun _ _ _ h => hFc _ h), hS, hsz1⟩
    generalize H1 = H at hC ⊢
    have h22 : z9h ≤ CS.hs p19.2 := Nat.le_trans h16 mo20
    refine W.widen (k := CS.hs p19.2 - z9h) (n := 17 * (CS.hs p19.2 - z9h)) (cAcc2 h16 mo20) (cAcc3 h16 mo20) ?_
    obtain rfl : r21 = p19.1 := hw
    refine lv_if_eq (tgt := 76) hx hb dX7_endGuarded_63 (by decide) (fun c23 => ?_) (fun c23 => ?_)
    ·
      replace hf := (if_pos c23).symm.trans hf
      refine lv_aload_n hx hb dX7_endGuarded_76 rfl (lv_at hl 1 rfl) ?_
      obtain ⟨b24, hf⟩ := hf_ite hf
      refine pGN_X5_8 (v := (CS.o p19.2 x1 8)) hx hb hts i_X7_endGuarded_X5 hown hK hC (va_Nw.use rfl (hZ.1 (.fieldLinkNest RX7 350 "StatementRules2$Open" "whole" "Z" "StatementRules2") (by decide +kernel))) (fun _ q9 => q9) dX7_endGuarded_77 b24 rfl ?_
      refine lv_if_eq (tgt := 132) hx hb dX7_endGuarded_80 (by decide) (fun c25 => ?_) (fun c25 => ?_)
      ·
        replace hf := (if_pos c25).symm.trans hf
        refine lv_aload_n hx hb dX7_endGuarded_132 rfl (lv_at hl 0 rfl) ?_
        obtain ⟨p26, hcp26, hf⟩ := hf_bind hf
        have mo27 : CS.hs p19.2 ≤ CS.hs p26.2 := Mono.go hcp26 (m_X1_misplaced N p19.2)
        have hr9 : CS.hs p26.2 ≤ CS.hs R.2 := Mono.go hf (mono_some (Nat.le_refl _))
        have hFc := cFree hC hA
        refine va_callv (va_runU (As := []) (rest := []) ⟨hx, hb, hml, hown, hts⟩ (c_X1_misplaced l dC dI Q N p19.2 p26 hcp26) (va_cwU 0 hts hX7_endGuarded_X1_misplaced_u161 rfl rfl rfl rfl (by decide +kernel) ⟨(show 3 + 1 ≤ 4 by omega), (show 8 + (1 + 11) + 60 * 3 ≤ 60 * 4 by omega)⟩) ⟨zPre.blind, va_recv hK hC.1 (ci := 6) (q0 := 3) rfl rfl, cPre_go hZ hK hC⟩ rfl rfl hl.1 rfl (lv_room (Nat.le_of_ble_eq_true rfl)) dX7_endGuarded_133 (cAcc h22 mo27 hr9)) hC.2.2.1 (fun q _ h => hFc q h) hFc (fun u9 t9 H1 locs ht hvm hw hB hz1 hk1 hS => ?_)
        obtain ⟨⟨hP, hK1, hD1⟩, hsz1⟩ := hB
        rw [ht] at hP hsz1
        have hC : CP dC dI Q A s.heap p26.2 H1 locs := ⟨hP, hD1.weaken (fun _ _ _ h => hFc _ h), hS, hsz1⟩
        generalize H1 = H at hC ⊢
        have h29 : z9h ≤ CS.hs p26.2 := Nat.le_trans h22 mo27
        refine W.widen (k := CS.hs p26.2 - z9h) (n := 17 * (CS.hs p26.2 - z9h)) (cAcc2 h22 mo27) (cAcc3 h22 mo27) ?_
        obtain rfl := Option.some.inj hf
        exact W.vret hx hb hr (fun t ht hW => ⟨⟨(), rfl, trivial, ⟨by rw [ht]; exact hC.1, va_K.moved hW.alike hK, hC.2.1⟩, by rw [ht]; exact hC.2.2.2⟩, hC.2.2.1.F ht⟩) hC.2.2.1.2.2 dX7_endGuarded_136
      ·
        replace hf := (if_neg c25).symm.trans hf
        refine lv_aload_n hx hb dX7_endGuarded_83 rfl (lv_at hl 0 rfl) ?_
        refine cG_29 hx hb hts i_X7_endGuarded_X7 hown hK hC (hts (.fieldLink RX7 20 "StatementRules2$Statements" "code" "LStatementRules2$Code;") k_X7_endGuarded_fieldLink_RX7_20_SR_Statements_code_LSR_Code) (fun x9 q9 => u_same (hts (.sameField "StatementRules2$Statements" "StatementRules2$Formulas" "code" "LStatementRules2$Code;") k_X7_endGuarded_sameField_SR_Statements_SR_Formulas_code_LSR_Code) x9 q9) dX7_endGuarded_84 ?_
        refine lv_bipush (v := 58) hx hb dX7_endGuarded_87 (by decide) ?_
        refine lv_iconst (v := 0) hx hb dX7_endGuarded_89 (by decide) ?_
        obtain ⟨p30, hcp30, hf⟩ := hf_bind hf
        have mo31 : CS.hs p19.2 ≤ CS.hs p30.2 := Mono.go hcp30 (m_X0_add N p19.2 58 0)
        have hr9 : CS.hs p30.2 ≤ CS.hs R.2 := Mono.go hf (mono_ite (mono_bind (m_X0_aim N p30.2 (CS.o p30.2 x1 9)) (fun p35 => (mono_ite (mono_ite (mono_bind (m_X6_pop N (CS.setI (CS.setI p35.2 36 (CS.o p35.2 x1 6)) 38 ((p35.2.i 38) - 1))) (fun p41 => (mono_some (Nat.le_refl _)))) mono_none) mono_none))) mono_none)
        have hFc := cFree hC hA
        refine va_callv (va_runV (As := [.int 58, .int 0]) (rest := []) ⟨hx, hb, hml, hown, hts⟩ (c_X0_add l dC dI Q N p19.2 58 0 p30 hcp30) (cwV 2 hts hX7_endGuarded_X0_add_v176 rfl rfl rfl (by decide +kernel) ⟨(show 2 + 1 ≤ 4 by omega), (show 8 + (3 + 11) + 60 * 2 ≤ 60 * 4 by omega)⟩) ⟨zPre.blind, va_recv hK hC.1 (ci := 0) (q0 := 2) rfl rfl, cPre_go hZ hK hC⟩ rfl rfl hl.1 rfl (lv_room (Nat.le_of_ble_eq_true rfl)) dX7_endGuarded_90 (cAcc h22 mo31 hr9)) hC.2.2.1 (fun q _ h => hFc q h) hFc (fun u9 t9 H1 locs ht hvm hw hB hz1 hk1 hS => ?_)
        obtain ⟨⟨hP, hK1, hD1⟩, hsz1⟩ := hB
        rw [ht] at hP hsz1
        have hC : CP dC dI Q A s.heap p30.2 H1 locs := ⟨hP, hD1.weaken (fun _ _ _ h => hFc _ h), hS, hsz1⟩
        generalize H1 = H at hC ⊢
        have h33 : z9h ≤ CS.hs p30.2 := Nat.le_trans h22 mo31
        refine W.widen (k := CS.hs p30.2 - z9h) (n := 17 * (CS.hs p30.2 - z9h)) (cAcc2 h22 mo31) (cAcc3 h22 mo31) ?_
        refine lv_aload_n hx hb dX7_endGuarded_93 rfl (lv_at hl 0 rfl) ?_
        refine cG_29 hx hb hts i_X7_endGuarded_X7 hown hK hC (hts (.fieldLink RX7 20 "StatementRules2$Statements" "code" "LStatementRules2$Code;") k_X7_endGuarded_fieldLink_RX7_20_SR_Statements_code_LSR_Code) (fun x9 q9 => u_same (hts (.sameField "StatementRules2$Statements" "StatementRules2$Formulas" "code" "LStatementRules2$Code;") k_X7_endGuarded_sameField_SR_Statements_SR_Formulas_code_LSR_Code) x9 q9) dX7_endGuarded_94 ?_
        refine lv_aload_n hx hb dX7_endGuarded_97 rfl (lv_at hl 1 rfl) ?_
        obtain ⟨b34, hf⟩ := hf_ite hf
        refine pGN_X5_9 (v := (CS.o p30.2 x1 9)) hx hb hts i_X7_endGuarded_X5 hown hK hC (va_Nw.use rfl (hZ.1 (.fieldLinkNest RX7 196 "StatementRules2$Open" "exit" "I" "StatementRules2") (by decide +kernel))) (fun _ q9 => q9) dX7_endGuarded_98 b34 rfl ?_
        obtain ⟨p35, hcp35, hf⟩ := hf_bind hf
        have mo36 : CS.hs p30.2 ≤ CS.hs p35.2 := Mono.go hcp35 (m_X0_aim N p30.2 (CS.o p30.2 x1 9))
        have hr9 : CS.hs p35.2 ≤ CS.hs R.2 := Mono.go hf (mono_ite (mono_ite (mono_bind (m_X6_pop N (CS.setI (CS.setI p35.2 36 (CS.o p35.2 x1 6)) 38 ((p35.2.i 38) - 1))) (fun p41 => (mono_some (Nat.le_refl _)))) mono_none) mono_none)
        have hFc := cFree hC hA
        refine va_callv (va_runV (As := [.int (CS.o p30.2 x1 9)]) (rest := []) ⟨hx, hb, hml, hown, hts⟩ (c_X0_aim l dC dI Q N p30.2 (CS.o p30.2 x1 9) p35 hcp35) (cwV 1 hts hX7_endGuarded_X0_aim_v158 rfl rfl rfl (by decide +kernel) ⟨(show 2 + 1 ≤ 4 by omega), (show 8 + (2 + 11) + 60 * 2 ≤ 60 * 4 by omega)⟩) ⟨zPre.blind, va_recv hK hC.1 (ci := 0) (q0 := 2) rfl rfl, cPre_go hZ hK hC⟩ rfl rfl hl.1 rfl (lv_room (Nat.le_of_ble_eq_true rfl)) dX7_endGuarded_101 (cAcc h33 mo36 hr9)) hC.2.2.1 (fun q _ h => hFc q h) hFc (fun u9 t9 H1 locs ht hvm hw hB hz1 hk1 hS => ?_)
        obtain ⟨⟨hP, hK1, hD1⟩, hsz1⟩ := hB
        rw [ht] at hP hsz1
        have hC : CP dC dI Q A s.heap p35.2 H1 locs := ⟨hP, hD1.weaken (fun _ _ _ h => hFc _ h), hS, hsz1⟩
        generalize H1 = H at hC ⊢
        have h38 : z9h ≤ CS.hs p35.2 := Nat.le_trans h33 mo36
        refine W.widen (k := CS.hs p35.2 - z9h) (n := 17 * (CS.hs p35.2 - z9h)) (cAcc2 h33 mo36) (cAcc3 h33 mo36) ?_
        refine lv_aload_n hx hb dX7_endGuarded_104 rfl (lv_at hl 0 rfl) ?_
        refine lv_aload_n hx hb dX7_endGuarded_105 rfl (lv_at hl 1 rfl) ?_
        obtain ⟨b39, hf⟩ := hf_ite hf
        refine pGN_X5_6 (v := (CS.o p35.2 x1 6)) hx hb hts i_X7_endGuarded_X5 hown hK hC (va_Nw.use rfl (hZ.1 (.fieldLinkNest RX7 359 "StatementRules2$Open" "ends" "Z" "StatementRules2") (by decide +kernel))) (fun _ q9 => q9) dX7_endGuarded_106 b39 rfl ?_
        obtain ⟨b40, hf⟩ := hf_ite hf
        refine cP_36 (v := (CS.o p35.2 x1 6)) hx hb hts i_X7_endGuarded_X7 hown hK hC (hts (.fieldLink RX7 61 "StatementRules2$Statements" "alive" "Z") k_X7_endGuarded_fieldLink_RX7_61_SR_Statements_alive_Z) (fun _ q9 => q9) dX7_endGuarded_109 b40 (fun H locs hC => ?_)
        refine lv_aload_n hx hb dX7_endGuarded_112 rfl (lv_at hl 0 rfl) ?_
        refine lv_dup hx hb dX7_endGuarded_113 rfl ?_
        refine cG_38 (v := (p35.2.i 38)) hx hb hts i_X7_endGuarded_X7 hown hK hC (hts (.fieldLink RX7 68 "StatementRules2$Statements" "depth" "I") k_X7_endGuarded_fieldLink_RX7_68_SR_Statements_depth_I) (fun _ q9 => q9) dX7_endGuarded_114 rfl ?_
        refine lv_iconst (v := 1) hx hb dX7_endGuarded_117 (by decide) ?_
        refine lv_isub hx hb dX7_endGuarded_118 ?_
        refine cP_38 (v := ((p35.2.i 38) - 1)) hx hb hts i_X7_endGuarded_X7 hown hK hC (hts (.fieldLink RX7 68 "StatementRules2$Statements" "depth" "I") k_X7_endGuarded_fieldLink_RX7_68_SR_Statements_depth_I) (fun _ q9 => q9) dX7_endGuarded_119 (fun H locs hC => ?_)
        refine lv_aload_n hx hb dX7_endGuarded_122 rfl (lv_at hl 0 rfl) ?_
        refine cG_35 hx hb hts i_X7_endGuarded_X7 hown hK hC (hts (.fieldLink RX7 14 "StatementRules2$Statements" "opens" "LStatementRules2$Opens;") k_X7_endGuarded_fieldLink_RX7_14_SR_Statements_opens_LSR_Opens) (fun _ q9 => q9) dX7_endGuarded_123 ?_
        obtain ⟨p41, hcp41, hf⟩ := hf_bind hf
        have mo42 : CS.hs p35.2 ≤ CS.hs p41.2 := Mono.go hcp41 (m_X6_pop N (CS.setI (CS.setI p35.2 36 (CS.o p35.2 x1 6)) 38 ((p35.2.i 38) - 1)))
        have hr9 : CS.hs p41.2 ≤ CS.hs R.2 := Mono.go hf (mono_some (Nat.le_refl _))
        have hFc := cFree hC hA
        refine va_callv (va_runV (As := []) (rest := []) ⟨hx, hb, hml, hown, hts⟩ (c_X6_pop l dC dI Q N (CS.setI (CS.setI p35.2 36 (CS.o p35.2 x1 6)) 38 ((p35.2.i 38) - 1)) p41 hcp41) (cwV 0 hts hX7_endGuarded_X6_pop_v369 rfl rfl rfl (by decide +kernel) ⟨(show 1 + 1 ≤ 4 by omega), (show 8 + (1 + 11) + 60 * 1 ≤ 60 * 4 by omega)⟩) ⟨zPre.blind, va_recv hK hC.1 (ci := 5) (q0 := 6) rfl rfl, cPre_go hZ hK hC⟩ rfl rfl hl.1 rfl (lv_room (Nat.le_of_ble_eq_true rfl)) dX7_endGuarded_126 (cAcc h38 mo42 hr9)) hC.2.2.1 (fun q _ h => hFc q h) hFc (fun u9 t9 H1 locs ht hvm hw hB hz1 hk1 hS => ?_)
        obtain ⟨⟨hP, hK1, hD1⟩, hsz1⟩ := hB
        rw [ht] at hP hsz1
        have hC : CP dC dI Q A s.heap p41.2 H1 locs := ⟨hP, hD1.weaken (fun _ _ _ h => hFc _ h), hS, hsz1⟩
        generalize H1 = H at hC ⊢
        have h44 : z9h ≤ CS.hs p41.2 := Nat.le_trans h38 mo42
        refine W.widen (k := CS.hs p41.2 - z9h) (n := 17 * (CS.hs p41.2 - z9h)) (cAcc2 h38 mo42) (cAcc3 h38 mo42) ?_
        refine lv_goto (tgt := 136) hx hb dX7_endGuarded_129 (by decide) ?_
        obtain rfl := Option.some.inj hf
        exact W.vret hx hb hr (fun t ht hW => ⟨⟨(), rfl, trivial, ⟨by rw [ht]; exact hC.1, va_K.moved hW.alike hK, hC.2.1⟩, by rw [ht]; exact hC.2.2.2⟩, hC.2.2.1.F ht⟩) hC.2.2.1.2.2 dX7_endGuarded_136
    ·
      replace hf := (if_neg c23).symm.trans hf
      exact j_X7_endGuarded_66 l dC dI Q N z9h R hx hb hr hml hown hts hlocks hZ hA hK p19.2 x1 _ _ _ hf h22 hC (lv_sub hl [1] rfl)
set_option maxHeartbeats 4000000 in
set_option maxRecDepth 100000 in
theorem c_X7_endGuarded (l : Launch) (dC : Nat → ClassId) (dI : Nat → Nat → Nat) (Q : CQ) (N : Nat) (σ : CS) (x1 : Nat) (R : Unit × CS) (hf : f_X7_endGuarded N σ x1 = some R) : Met l yX7_endGuarded wzX7_endGuarded ({ frames := 4, cells := CS.hs R.2 - CS.hs σ, slots := 17 * (CS.hs R.2 - CS.hs σ), locals := 60 * 4 }) (va_Pc [.ref (Q.o 3), .ref x1] (zPre dC dI (CS.hs σ) (cW Q σ) (cT Q))) (va_Qv (fun (_ : Unit) => True) (fun (_ : Unit) (t : State) => zPost dC dI (va_A (cW Q σ) (CS.hs σ)) (cW Q R.2) (cT Q) t ∧ t.heap.size = CS.hs R.2) (va_A (cW Q σ) (CS.hs σ))) (CS.hs R.2 - CS.hs σ) (17 * (CS.hs R.2 - CS.hs σ)) (va_A (cW Q σ) (CS.hs σ)) := by
  refine Met.ofW (cc := cX7_endGuarded) (maxL := 2) (ret := none) (by decide) rfl ?_
  intro p e s m args below meth c s₁ B hml hv
  obtain ⟨rfl, hsz, hZ, hP, hK, hD0⟩ := hv
  have hx := B.exec
  have hb := B.bytes
  have hr := B.returns
  have hts := atoms_spec (ws := wzX7_endGuarded) B.pre
  have hown : s.vm.findClass RX7 = some m.cls := findClass_of_methodNamed B.named
  have hlocks := B.notSynchronized
  have hD := hD0.self (sz := CS.hs σ)
  generalize hAe : va_A (cW Q σ) (CS.hs σ) = A at hD ⊢
  have hA : ∀ q : Nat, s.heap.size ≤ q → A q := fun q h => by rw [← hAe]; exact Or.inr (hsz ▸ h)
  have hC : CP dC dI Q A s.heap σ s.heap [] := ⟨hP, hD, va_S.rf, hsz⟩
  have h0 : CS.hs σ ≤ CS.hs σ := Nat.le_refl _
  have hl := lv_entry ([.ref (Q.o 3), .ref x1]) (n := 2) (Nat.le_of_ble_eq_true rfl)
  rw [lg_entry_eq]
  generalize (lg_sl ([.ref (Q.o 3), .ref x1]) ++ List.replicate (2 - (lg_sl ([.ref (Q.o 3), .ref x1])).length) Slot.unset).toArray = ls at hl ⊢
  have hl : lv_has ls 2 [(0, .ref (Q.o 3)), (1, .ref x1)] := hl
  unfold f_X7_endGuarded at hf
  refine W.widen (k := CS.hs σ - CS.hs σ) (n := 17 * (CS.hs σ - CS.hs σ)) (Nat.zero_le _) (Nat.zero_le _) ?_
  refine lv_aload_n hx hb dX7_endGuarded_0 rfl (lv_at hl 0 rfl) ?_
  refine lv_aload_n hx hb dX7_endGuarded_1 rfl (lv_at hl 1 rfl) ?_
  obtain ⟨b1, hf⟩ := hf_ite hf
  refine pGN_X5_9 (v := (CS.o σ x1 9)) hx hb hts i_X7_endGuarded_X5 hown hK hC (va_Nw.use rfl (hZ.1 (.fieldLinkNest RX7 196 "StatementRules2$Open" "exit" "I" "StatementRules2") (by decide +kernel))) (fun _ q9 => q9) dX7_endGuarded_2 b1 rfl ?_
  refine lv_aload_n hx hb dX7_endGuarded_5 rfl (lv_at hl 1 rfl) ?_
  refine pGN_X5_2 (v := (CS.o σ x1 2)) hx hb hts i_X7_endGuarded_X5 hown hK hC (va_Nw.use rfl (hZ.1 (.fieldLinkNest RX7 287 "StatementRules2$Open" "depth" "I" "StatementRules2") (by decide +kernel))) (fun _ q9 => q9) dX7_endGuarded_6 b1 rfl ?_
  obtain ⟨p2, hcp2, hf⟩ := hf_bind hf
  have mo3 : CS.hs σ ≤ CS.hs p2.2 := Mono.go hcp2 (m_X7_leave N σ (CS.o σ x1 9) (CS.o σ x1 2))
  have hr9 : CS.hs p2.2 ≤ CS.hs R.2 := Mono.go hf (mono_ite (mono_bind (m_X0_aim N p2.2 (CS.o p2.2 x1 10)) (fun p7 => (mono_ite (mono_ite (mono_ite (m_X7_endGuarded_46 N (CS.setO p7.2 x1 6 0) x1) (m_X7_endGuarded_46 N (CS.setO p7.2 x1 6 1) x1)) (m_X7_endGuarded_46 N (CS.setO p7.2 x1 6 1) x1)) mono_none))) mono_none)
  have hFc := cFree hC hA
  refine va_callv (va_runV (As := [.int (CS.o σ x1 9), .int (CS.o σ x1 2)]) (rest := []) ⟨hx, hb, hml, hown, hts⟩ (c_X7_leave l dC dI Q N σ (CS.o σ x1 9) (CS.o σ x1 2) p2 hcp2) (cwV 2 hts hX7_endGuarded_X7_leave_v288 rfl rfl rfl (by decide +kernel) ⟨(show 3 + 1 ≤ 4 by omega), (show 8 + (3 + 11) + 60 * 3 ≤ 60 * 4 by omega)⟩) ⟨zPre.blind, va_recv hK hC.1 (ci := 6) (q0 := 3) rfl rfl, cPre_go hZ hK hC⟩ rfl rfl hl.1 rfl (lv_room (Nat.le_of_ble_eq_true rfl)) dX7_endGuarded_9 (cAcc h0 mo3 hr9)) hC.2.2.1 (fun q _ h => hFc q h) hFc (fun u9 t9 H1 locs ht hvm hw hB hz1 hk1 hS => ?_)
  obtain ⟨⟨hP, hK1, hD1⟩, hsz1⟩ := hB
  rw [ht] at hP hsz1
  have hC : CP dC dI Q A s.heap p2.2 H1 locs := ⟨hP, hD1.weaken (fun _ _ _ h => hFc _ h), hS, hsz1⟩
  generalize H1 = H at hC ⊢
  have h5 : (CS.hs σ) ≤ CS.hs p2.2 := Nat.le_trans h0 mo3
  refine W.widen (k := CS.hs p2.2 - (CS.hs σ)) (n := 17 * (CS.hs p2.2 - (CS.hs σ))) (cAcc2 h0 mo3) (cAcc3 h0 mo3) ?_
  refine lv_aload_n hx hb dX7_endGuarded_12 rfl (lv_at hl 0 rfl) ?_
  refine cG_29 hx hb hts i_X7_endGuarded_X7 hown hK hC (hts (.fieldLink RX7 20 "StatementRules2$Statements" "code" "LStatementRules2$Code;") k_X7_endGuarded_fieldLink_RX7_20_SR_Statements_code_LSR_Code) (fun x9 q9 => u_same (hts (.sameField "StatementRules2$Statements" "StatementRules2$Formulas" "code" "LStatementRules2$Code;") k_X7_endGuarded_sameField_SR_Statements_SR_Formulas_code_LSR_Code) x9 q9) dX7_endGuarded_13 ?_
  refine lv_aload_n hx hb dX7_endGuarded_16 rfl (lv_at hl 1 rfl) ?_
  obtain ⟨b6, hf⟩ := hf_ite hf
  refine pGN_X5_10 (v := (CS.o p2.2 x1 10)) hx hb hts i_X7_endGuarded_X5 hown hK hC (va_Nw.use rfl (hZ.1 (.fieldLinkNest RX7 284 "StatementRules2$Open" "next" "I" "StatementRules2") (by decide +kernel))) (fun _ q9 => q9) dX7_endGuarded_17 b6 rfl ?_
  obtain ⟨p7, hcp7, hf⟩ := hf_bind hf
  have mo8 : CS.hs p2.2 ≤ CS.hs p7.2 := Mono.go hcp7 (m_X0_aim N p2.2 (CS.o p2.2 x1 10))
  have hr9 : CS.hs p7.2 ≤ CS.hs R.2 := Mono.go hf (mono_ite (mono_ite (mono_ite (m_X7_endGuarded_46 N (CS.setO p7.2 x1 6 0) x1) (m_X7_endGuarded_46 N (CS.setO p7.2 x1 6 1) x1)) (m_X7_endGuarded_46 N (CS.setO p7.2 x1 6 1) x1)) mono_none)
  have hFc := cFree hC hA
  refine va_callv (va_runV (As := [.int (CS.o p2.2 x1 10)]) (rest := []) ⟨hx, hb, hml, hown, hts⟩ (c_X0_aim l dC dI Q N p2.2 (CS.o p2.2 x1 10) p7 hcp7) (cwV 1 hts hX7_endGuarded_X0_aim_v158 rfl rfl rfl (by decide +kernel) ⟨(show 2 + 1 ≤ 4 by omega), (show 8 + (2 + 11) + 60 * 2 ≤ 60 * 4 by omega)⟩) ⟨zPre.blind, va_recv hK hC.1 (ci := 0) (q0 := 2) rfl rfl, cPre_go hZ hK hC⟩ rfl rfl hl.1 rfl (lv_room (Nat.le_of_ble_eq_true rfl)) dX7_endGuarded_20 (cAcc h5 mo8 hr9)) hC.2.2.1 (fun q _ h => hFc q h) hFc (fun u9 t9 H1 locs ht hvm hw hB hz1 hk1 hS => ?_)
  obtain ⟨⟨hP, hK1, hD1⟩, hsz1⟩ := hB
  rw [ht] at hP hsz1
  have hC : CP dC dI Q A s.heap p7.2 H1 locs := ⟨hP, hD1.weaken (fun _ _ _ h => hFc _ h), hS, hsz1⟩
  generalize H1 = H at hC ⊢
  have h10 : (CS.hs σ) ≤ CS.hs p7.2 := Nat.le_trans h5 mo8
  refine W.widen (k := CS.hs p7.2 - (CS.hs σ)) (n := 17 * (CS.hs p7.2 - (CS.hs σ))) (cAcc2 h5 mo8) (cAcc3 h5 mo8) ?_
  refine lv_aload_n hx hb dX7_endGuarded_23 rfl (lv_at hl 1 rfl) ?_
  refine lv_aload_n hx hb dX7_endGuarded_24 rfl (lv_at hl 1 rfl) ?_
  obtain ⟨b11, hf⟩ := hf_ite hf
  refine pGN_X5_6 (v := (CS.o p7.2 x1 6)) hx hb hts i_X7_endGuarded_X5 hown hK hC (va_Nw.use rfl (hZ.1 (.fieldLinkNest RX7 359 "StatementRules2$Open" "ends" "Z" "StatementRules2") (by decide +kernel))) (fun _ q9 => q9) dX7_endGuarded_25 b11 rfl ?_
  refine lv_if_ne (tgt := 38) hx hb dX7_endGuarded_28 (by decide) (fun c12 => ?_) (fun c12 => ?_)
  ·
    replace hf := (if_neg c12).symm.trans hf
    refine lv_iconst (v := 1) hx hb dX7_endGuarded_38 (by decide) ?_
    refine lv_goto (tgt := 43) hx hb dX7_endGuarded_39 (by decide) ?_
    refine pPN_X5_6 (v := 1) hx hb hts i_X7_endGuarded_X5 hown hK hC (va_Nw.use rfl (hZ.1 (.fieldLinkNest RX7 359 "StatementRules2$Open" "ends" "Z" "StatementRules2") (by decide +kernel))) (fun _ q9 => q9) dX7_endGuarded_43 b11 (by decide) (fun H locs hC => ?_)
    exact j_X7_endGuarded_46 l dC dI Q N (CS.hs σ) R hx hb hr hml hown hts hlocks hZ hA hK (CS.setO p7.2 x1 6 1) x1 _ _ _ hf h10 hC (lv_sub hl [0, 1] rfl)
  ·
    replace hf := (if_pos c12).symm.trans hf
    refine lv_aload_n hx hb dX7_endGuarded_31 rfl (lv_at hl 0 rfl) ?_
    refine cG_36 (v := (p7.2.i 36)) hx hb hts i_X7_endGuarded_X7 hown hK hC (hts (.fieldLink RX7 61 "StatementRules2$Statements" "alive" "Z") k_X7_endGuarded_fieldLink_RX7_61_SR_Statements_alive_Z) (fun _ q9 => q9) dX7_endGuarded_32 rfl ?_
    refine lv_if_eq (tgt := 42) hx hb dX7_endGuarded_35 (by decide) (fun c45 => ?_) (fun c45 => ?_)
    ·
      replace hf := (if_pos c45).symm.trans hf
      refine lv_iconst (v := 0) hx hb dX7_endGuarded_42 (by decide) ?_
      refine pPN_X5_6 (v := 0) hx hb hts i_X7_endGuarded_X5 hown hK hC (va_Nw.use rfl (hZ.1 (.fieldLinkNest RX7 359 "StatementRules2$Open" "ends" "Z" "StatementRules2") (by decide +kernel))) (fun _ q9 => q9) dX7_endGuarded_43 b11 (by decide) (fun H locs hC => ?_)
      exact j_X7_endGuarded_46 l dC dI Q N (CS.hs σ) R hx hb hr hml hown hts hlocks hZ hA hK (CS.setO p7.2 x1 6 0) x1 _ _ _ hf h10 hC (lv_sub hl [0, 1] rfl)
    ·
      replace hf := (if_neg c45).symm.trans hf
      refine lv_iconst (v := 1) hx hb dX7_endGuarded_38 (by decide) ?_
      refine lv_goto (tgt := 43) hx hb dX7_endGuarded_39 (by decide) ?_
      refine pPN_X5_6 (v := 1) hx hb hts i_X7_endGuarded_X5 hown hK hC (va_Nw.use rfl (hZ.1 (.fieldLinkNest RX7 359 "StatementRules2$Open" "ends" "Z" "StatementRules2") (by decide +kernel))) (fun _ q9 => q9) dX7_endGuarded_43 b11 (by decide) (fun H locs hC => ?_)
      exact j_X7_endGuarded_46 l dC dI Q N (CS.hs σ) R hx hb hr hml hown hts hlocks hZ hA hK (CS.setO p7.2 x1 6 1) x1 _ _ _ hf h10 hC (lv_sub hl [0, 1] rfl)
theorem k_X6_loseJumps_fieldLink_RX6_17_SR_Opens_jumps_I : Cond.fieldLink RX6 17 "StatementRules2$Opens" "jumps" "[I" ∈ wzX6_loseJumps := List.mem_cons_of_mem _ (List.mem_append_left _ (List.mem_of_getElem? (i := 0) rfl))
theorem i_X6_loseJumps_X6 : ∀ w ∈ wsX60, w ∈ wzX6_loseJumps := fun _ h => List.mem_cons_of_mem _ (List.mem_append_right _ (List.mem_append_left _ (h)))
theorem k_X6_loseJumps_initialized_RX11 : Cond.initialized RX11 ∈ wzX6_loseJumps := List.mem_cons_of_mem _ (List.mem_append_left _ (List.mem_of_getElem? (i := 1) rfl))
theorem k_X6_loseJumps_static_yX11_put : Cond.static yX11_put ∈ wzX6_loseJumps := List.mem_cons_of_mem _ (List.mem_append_left _ (List.mem_of_getElem? (i := 2) rfl))
set_option maxHeartbeats 4000000 in
set_option maxRecDepth 100000 in
theorem j_X6_loseJumps_2 {p : Program} {e : Env} {s : State} {m : MethodId} {args : Array Value} {below : List Frame} {meth : Method} {c : Code} {A : Nat → Prop} (l : Launch) (dC : Nat → ClassId) (dI : Nat → Nat → Nat) (Q : CQ) (N : Nat) (z9h : Nat) (R : Unit × CS) (hx : p.tables.exec = Jvm.exec) (hb : c.code = cX6_loseJumps) (hr : meth.sig.returnType = none) (hml : c.maxLocals = 4) (hown : s.vm.findClass RX6 = some m.cls) (hts : ∀ w ∈ wzX6_loseJumps, w.before args s = true) (hlocks : meth.locks = false) (hZ : zAMB s) (hA : ∀ q : Nat, s.heap.size ≤ q → A q) (hK : va_K (dC, dI) vwCl (cT Q) s) : ∀ (n9 : Nat), ∀ (σ : CS) (x2 : Int32) (x3 : Int32) (H : Heap) (locs : List Loc) (ls : Array Slot), f_X6_loseJumps_2 N n9 σ x2 x3 = some R → z9h ≤ CS.hs σ → CP dC dI Q A s.heap σ H locs → lv_has ls 4 [(0, .ref (Q.o 6)), (2, .int x2), (3, .int x3)] → W p l e ({ frames := 2, cells := CS.hs R.2 - z9h, slots := 17 * (CS.hs R.2 - z9h), locals := 60 * 2 }) s m args below meth c H locs (CS.hs σ - z9h) (17 * (CS.hs σ - z9h)) (MQ below (va_Qv (fun (_ : Unit) => True) (fun (_ : Unit) (t : State) => zPost dC dI A (cW Q R.2) (cT Q) t ∧ t.heap.size = CS.hs R.2) A) args s (CS.hs R.2 - z9h) (17 * (CS.hs R.2 - z9h)) A) (F0 m 2 ls []) := by
  intro n9
  induction n9 with
  | zero => intro σ x2 x3 H locs ls hf; exact absurd hf (by intro q9; cases q9)
  | succ n9 ih =>
    intro σ x2 x3 H locs ls hf h0 hC hl
    replace hf : b_X6_loseJumps_2 N (f_X6_loseJumps_2 N n9) σ x2 x3 = some R := hf
    unfold b_X6_loseJumps_2 at hf
    have hMK := fun (σ : CS) (x2 : Int32) (x3 : Int32) => m_X6_loseJumps_2 N n9 σ x2 x3
    refine lv_iload_n hx hb dX6_loseJumps_2 rfl (lv_at hl 2 rfl) ?_
    refine lv_iload_n hx hb dX6_loseJumps_3 rfl (lv_at hl 1 rfl) ?_
    refine lv_icmp_ge (tgt := 22) hx hb dX6_loseJumps_4 (by decide) (fun c1 => ?_) (fun c1 => ?_)
    ·
      replace hf := (if_pos c1).symm.trans hf
      obtain rfl := Option.some.inj hf
      exact W.vret hx hb hr (fun t ht hW => ⟨⟨(), rfl, trivial, ⟨by rw [ht]; exact hC.1, va_K.moved hW.alike hK, hC.2.1⟩, by rw [ht]; exact hC.2.2.2⟩, hC.2.2.1.F ht⟩) hC.2.2.1.2.2 dX6_loseJumps_22
    ·
      replace hf := (if_neg c1).symm.trans hf
      refine lv_aload_n hx hb dX6_loseJumps_7 rfl (lv_at hl 0 rfl) ?_
      refine cG_52 hx hb hts i_X6_loseJumps_X6 hown hK hC (hts (.fieldLink RX6 17 "StatementRules2$Opens" "jumps" "[I") k_X6_loseJumps_fieldLink_RX6_17_SR_Opens_jumps_I) (fun _ q9 => q9) dX6_loseJumps_8 ?_
      refine lv_iload_n hx hb dX6_loseJumps_11 rfl (lv_at hl 2 rfl) ?_
      refine lv_iconst (v := 0) hx hb dX6_loseJumps_12 (by decide) ?_
      have he9 := (cArr_52 (Q := Q) (σ := σ))
      have hFc := cFree1 hC hA he9
      have hr9 : CS.hs σ ≤ CS.hs R.2 := Mono.go hf (hMK (CS.putA σ 52 (gPut (σ.a 52) 160 x3 0)) x2 (x3 + 1))
      refine va_callv (va_runSN (As := [.ref (Q.q 52), .int x3, .int 0]) (rest := []) ⟨hx, hb, hml, hown, hts⟩ (c_X11_put l dC dI _ (Q.q 52) (Q.c 0) 160 (σ.a 52) x3 0 (by decide)) ⟨va_cnB 3 hts hX6_loseJumps_X11_put_n100 rfl rfl rfl (hZ.1 (.methodLinkNest RX6 100 yX11_put "StatementRules2") (by decide +kernel)) (hts (.initialized RX11) k_X6_loseJumps_initialized_RX11) (by decide +kernel) ⟨(show 1 + 1 ≤ 2 by omega), (show 8 + (3 + 11) + 60 * 1 ≤ 60 * 2 by omega)⟩, (hts (.static yX11_put) k_X6_loseJumps_static_yX11_put), trivial⟩ ⟨zPre.blind, zPre.go hZ (cOne hC.1 he9) (hK.sub (tys' := [(Q.c 0, .int)]) [0] rfl) (cOneD hC.2.1 he9)⟩ rfl rfl hl.1 rfl (lv_room (Nat.le_of_ble_eq_true rfl)) dX6_loseJumps_13 ⟨cAcc4 h0 hr9, cAcc5 h0 hr9⟩) hC.2.2.1 (fun q _ h => hFc q h) hFc (fun u9 t9 H1 locs ht hvm hw hB hz1 hk1 hS => ?_)
      obtain ⟨⟨hP1, hK1, hD1⟩, hsz1⟩ := hB
      rw [ht] at hP1 hsz1
      have hC := cBack (σ' := CS.putA σ 52 (gPut (σ.a 52) 160 x3 0)) hC he9 cPutA_52 (cPutA_h _ _ _) hk1 hP1 hsz1 hS
      generalize H1 = H at hC ⊢
      refine lv_iinc (v := (x3 + 1)) (lv' := [(3, .int (x3 + 1)), (0, .ref (Q.o 6)), (2, .int x2)]) hx hb dX6_loseJumps_16 hl (k := 2) rfl rfl (by decide) rfl (fun ls hl => ?_)
      refine lv_goto (tgt := 2) hx hb dX6_loseJumps_19 (by decide) ?_
      exact ih (CS.putA σ 52 (gPut (σ.a 52) 160 x3 0)) x2 (x3 + 1) _ _ _ hf h0 hC (lv_sub hl [1, 2, 0] rfl)
set_option maxHeartbeats 4000000 in
set_option maxRecDepth 100000 in
theorem c_X6_loseJumps (l : Launch) (dC : Nat → ClassId) (dI : Nat → Nat → Nat) (Q : CQ) (N : Nat) (σ : CS) (x1 : Int32) (x2 : Int32) (R : Unit × CS) (hf : f_X6_loseJumps N σ x1 x2 = some R) : Met l yX6_loseJumps wzX6_loseJumps ({ frames := 2, cells := CS.hs R.2 - CS.hs σ, slots := 17 * (CS.hs R.2 - CS.hs σ), locals := 60 * 2 }) (va_Pc [.ref (Q.o 6), .int x1, .int x2] (zPre dC dI (CS.hs σ) (cW Q σ) (cT Q))) (va_Qv (fun (_ : Unit) => True) (fun (_ : Unit) (t : State) => zPost dC dI (va_A (cW Q σ) (CS.hs σ)) (cW Q R.2) (cT Q) t ∧ t.heap.size = CS.hs R.2) (va_A (cW Q σ) (CS.hs σ))) (CS.hs R.2 - CS.hs σ) (17 * (CS.hs R.2 - CS.hs σ)) (va_A (cW Q σ) (CS.hs σ)) := by
  refine Met.ofW (cc := cX6_loseJumps) (maxL := 4) (ret := none) (by decide) rfl ?_
  intro p e s m args below meth c s₁ B hml hv
  obtain ⟨rfl, hsz, hZ, hP, hK, hD0⟩ := hv
  have hx := B.exec
  have hb := B.bytes
  have hr := B.returns
  have hts := atoms_spec (ws := wzX6_loseJumps) B.pre
  have hown : s.vm.findClass RX6 = some m.cls := findClass_of_methodNamed B.named
  have hlocks := B.notSynchronized
  have hD := hD0.self (sz := CS.hs σ)
  generalize hAe : va_A (cW Q σ) (CS.hs σ) = A at hD ⊢
  have hA : ∀ q : Nat, s.heap.size ≤ q → A q := fun q h => by rw [← hAe]; exact Or.inr (hsz ▸ h)
  have hC : CP dC dI Q A s.heap σ s.heap [] := ⟨hP, hD, va_S.rf, hsz⟩
  have h0 : CS.hs σ ≤ CS.hs σ := Nat.le_refl _
  have hl := lv_entry ([.ref (Q.o 6), .int x1, .int x2]) (n := 4) (Nat.le_of_ble_eq_true rfl)
  rw [lg_entry_eq]
  generalize (lg_sl ([.ref (Q.o 6), .int x1, .int x2]) ++ List.replicate (4 - (lg_sl ([.ref (Q.o 6), .int x1, .int x2])).length) Slot.unset).toArray = ls at hl ⊢
  have hl : lv_has ls 4 [(0, .ref (Q.o 6)), (1, .int x1), (2, .int x2)] := hl
  unfold f_X6_loseJumps at hf
  refine W.widen (k := CS.hs σ - CS.hs σ) (n := 17 * (CS.hs σ - CS.hs σ)) (Nat.zero_le _) (Nat.zero_le _) ?_
  refine lv_iload_n hx hb dX6_loseJumps_0 rfl (lv_at hl 1 rfl) ?_
  refine lv_istore_n (lv' := [(3, .int x1), (0, .ref (Q.o 6)), (1, .int x1), (2, .int x2)]) hx hb dX6_loseJumps_1 rfl hl (by decide) rfl (fun ls hl => ?_)
  exact j_X6_loseJumps_2 l dC dI Q N (CS.hs σ) R hx hb hr hml hown hts hlocks hZ hA hK N σ x2 x1 _ _ _ hf h0 hC (lv_sub hl [1, 3, 0] rfl)
theorem k_X7_endFinally_fieldLink_RX7_20_SR_Statements_code_LSR_Code : Cond.fieldLink RX7 20 "StatementRules2$Statements" "code" "LStatementRules2$Code;" ∈ wzX7_endFinally := List.mem_cons_of_mem _ (List.mem_append_left _ (List.mem_of_getElem? (i := 0) rfl))
theorem k_X7_endFinally_sameField_SR_Statements_SR_Formulas_code_LSR_Code : Cond.sameField "StatementRules2$Statements" "StatementRules2$Formulas" "code" "LStatementRules2$Code;" ∈ wzX7_endFinally := List.mem_cons_of_mem _ (List.mem_append_left _ (List.mem_of_getElem? (i := 1) rfl))
theorem i_X7_endFinally_X7 : ∀ w ∈ wsX70, w ∈ wzX7_endFinally := fun _ h => List.mem_cons_of_mem _ (List.mem_append_right _ (List.mem_append_left _ (h)))
theorem i_X7_endFinally_X5 : ∀ w ∈ wsX50, w ∈ wzX7_endFinally := fun _ h => List.mem_cons_of_mem _ (List.mem_append_right _ (List.mem_append_right _ (List.mem_append_left _ (h))))
theorem k_X7_endFinally_fieldLink_RX7_61_SR_Statements_alive_Z : Cond.fieldLink RX7 61 "StatementRules2$Statements" "alive" "Z" ∈ wzX7_endFinally := List.mem_cons_of_mem _ (List.mem_append_left _ (List.mem_of_getElem? (i := 2) rfl))
theorem k_X7_endFinally_fieldLink_RX7_68_SR_Statements_depth_I : Cond.fieldLink RX7 68 "StatementRules2$Statements" "depth" "I" ∈ wzX7_endFinally := List.mem_cons_of_mem _ (List.mem_append_left _ (List.mem_of_getElem? (i := 3) rfl))
theorem k_X7_endFinally_fieldLink_RX7_14_SR_Statements_opens_LSR_Opens : Cond.fieldLink RX7 14 "StatementRules2$Statements" "opens" "LStatementRules2$Opens;" ∈ wzX7_endFinally := List.mem_cons_of_mem _ (List.mem_append_left _ (List.mem_of_getElem? (i := 4) rfl))
set_option maxHeartbeats 4000000 in
set_option maxRecDepth 100000 in
theorem j_X7_endFinally_66 {p : Program} {e : Env} {s : State} {m : MethodId} {args : Array Value} {below : List Frame} {meth : Method} {c : Code} {A : Nat → Prop} (l : Launch) (dC : Nat → ClassId) (dI : Nat → Nat → Nat) (Q : CQ) (N : Nat) (z9h : Nat) (R : Unit × CS) (hx : p.tables.exec = Jvm.exec) (hb : c.code = cX7_endFinally) (hr : meth.sig.returnType = none) (hml : c.maxLocals = 2) (hown : s.vm.findClass RX7 = some m.cls) (hts : ∀ w ∈ wzX7_endFinally, w.before args s = true) (hlocks : meth.locks = false) (hZ : zAMB s) (hA : ∀ q : Nat, s.heap.size ≤ q → A q) (hK : va_K (dC, dI) vwCl (cT Q) s) : ∀ (σ : CS) (H : Heap) (locs : List Loc) (ls : Array Slot), f_X7_endFinally_66 N σ = some R → z9h ≤ CS.hs σ → CP dC dI Q A s.heap σ H locs → lv_has ls 2 [(0, .ref (Q.o 3))] → W p l e ({ frames := 3, cells := CS.hs R.2 - z9h, slots := 17 * (CS.hs R.2 - z9h), locals := 60 * 3 }) s m args below meth c H locs (CS.hs σ - z9h) (17 * (CS.hs σ - z9h)) (MQ below (va_Qv (fun (_ : Unit) => True) (fun (_ : Unit) (t : State) => zPost dC dI A (cW Q R.2) (cT Q) t ∧ t.heap.size = CS.hs R.2) A) args s (CS.hs R.2 - z9h) (17 * (CS.hs R.2 - z9h)) A) (F0 m 66 ls []) := by
  intro σ  H locs ls hf h0 hC hl
  unfold f_X7_endFinally_66 at hf
  refine lv_aload_n hx hb dX7_endFinally_66 rfl (lv_at hl 0 rfl) ?_
  refine lv_dup hx hb dX7_endFinally_67 rfl ?_
  refine cG_38 (v := (σ.i 38)) hx hb hts i_X7_endFinally_X7 hown hK hC (hts (.fieldLink RX7 68 "StatementRules2$Statements" "depth" "I") k_X7_endFinally_fieldLink_RX7_68_SR_Statements_depth_I) (fun _ q9 => q9) dX7_endFinally_68 rfl ?_
  refine lv_iconst (v := 1) hx hb dX7_endFinally_71 (by decide) ?_
  refine lv_isub hx hb dX7_endFinally_72 ?_
  refine cP_38 (v := ((σ.i 38) - 1)) hx hb hts i_X7_endFinally_X7 hown hK hC (hts (.fieldLink RX7 68 "StatementRules2$Statements" "depth" "I") k_X7_endFinally_fieldLink_RX7_68_SR_Statements_depth_I) (fun _ q9 => q9) dX7_endFinally_73 (fun H locs hC => ?_)
  refine lv_aload_n hx hb dX7_endFinally_76 rfl (lv_at hl 0 rfl) ?_
  refine cG_35 hx hb hts i_X7_endFinally_X7 hown hK hC (hts (.fieldLink RX7 14 "StatementRules2$Statements" "opens" "LStatementRules2$Opens;") k_X7_endFinally_fieldLink_RX7_14_SR_Statements_opens_LSR_Opens) (fun _ q9 => q9) dX7_endFinally_77 ?_
  obtain ⟨p12, hcp12, hf⟩ := hf_bind hf
  have mo13 : CS.hs σ ≤ CS.hs p12.2 := Mono.go hcp12 (m_X6_pop N (CS.setI σ 38 ((σ.i 38) - 1)))
  have hr9 : CS.hs p12.2 ≤ CS.hs R.2 := Mono.go hf (mono_some (Nat.le_refl _))
  have hFc := cFree hC hA
  refine va_callv (va_runV (As := []) (rest := []) ⟨hx, hb, hml, hown, hts⟩ (c_X6_pop l dC dI Q N (CS.setI σ 38 ((σ.i 38) - 1)) p12 hcp12) (cwV 0 hts hX7_endFinally_X6_pop_v369 rfl rfl rfl (by decide +kernel) ⟨(show 1 + 1 ≤ 3 by omega), (show 8 + (1 + 11) + 60 * 1 ≤ 60 * 3 by omega)⟩) ⟨zPre.blind, va_recv hK hC.1 (ci := 5) (q0 := 6) rfl rfl, cPre_go hZ hK hC⟩ rfl rfl hl.1 rfl (lv_room (Nat.le_of_ble_eq_true rfl)) dX7_endFinally_80 (cAcc h0 mo13 hr9)) hC.2.2.1 (fun q _ h => hFc q h) hFc (fun u9 t9 H1 locs ht hvm hw hB hz1 hk1 hS => ?_)
  obtain ⟨⟨hP, hK1, hD1⟩, hsz1⟩ := hB
  rw [ht] at hP hsz1
  have hC : CP dC dI Q A s.heap p12.2 H1 locs := ⟨hP, hD1.weaken (fun _ _ _ h => hFc _ h), hS, hsz1⟩
  generalize H1 = H at hC ⊢
  have h15 : z9h ≤ CS.hs p12.2 := Nat.le_trans h0 mo13
  refine W.widen (k := CS.hs p12.2 - z9h) (n := 17 * (CS.hs p12.2 - z9h)) (cAcc2 h0 mo13) (cAcc3 h0 mo13) ?_
  obtain rfl := Option.some.inj hf
  exact W.vret hx hb hr (fun t ht hW => ⟨⟨(), rfl, trivial, ⟨by rw [ht]; exact hC.1, va_K.moved hW.alike hK, hC.2.1⟩, by rw [ht]; exact hC.2.2.2⟩, hC.2.2.1.F ht⟩) hC.2.2.1.2.2 dX7_endFinally_83
set_option maxHeartbeats 4000000 in
set_option maxRecDepth 100000 in
theorem j_X7_endFinally_43 {p : Program} {e : Env} {s : State} {m : MethodId} {args : Array Value} {below : List Frame} {meth : Method} {c : Code} {A : Nat → Prop} (l : Launch) (dC : Nat → ClassId) (dI : Nat → Nat → Nat) (Q : CQ) (N : Nat) (z9h : Nat) (R : Unit × CS) (hx : p.tables.exec = Jvm.exec) (hb : c.code = cX7_endFinally) (hr : meth.sig.returnType = none) (hml : c.maxLocals = 2) (hown : s.vm.findClass RX7 = some m.cls) (hts : ∀ w ∈ wzX7_endFinally, w.before args s = true) (hlocks : meth.locks = false) (hZ : zAMB s) (hA : ∀ q : Nat, s.heap.size ≤ q → A q) (hK : va_K (dC, dI) vwCl (cT Q) s) : ∀ (σ : CS) (x1 : Nat) (H : Heap) (locs : List Loc) (ls : Array Slot), f_X7_endFinally_43 N σ x1 = some R → z9h ≤ CS.hs σ → CP dC dI Q A s.heap σ H locs → lv_has ls 2 [(0, .ref (Q.o 3)), (1, .ref x1)] → W p l e ({ frames := 3, cells := CS.hs R.2 - z9h, slots := 17 * (CS.hs R.2 - z9h), locals := 60 * 3 }) s m args below meth c H locs (CS.hs σ - z9h) (17 * (CS.hs σ - z9h)) (MQ below (va_Qv (fun (_ : Unit) => True) (fun (_ : Unit) (t : State) => zPost dC dI A (cW Q R.2) (cT Q) t ∧ t.heap.size = CS.hs R.2) A) args s (CS.hs R.2 - z9h) (17 * (CS.hs R.2 - z9h)) A) (F0 m 43 ls []) := by
  intro σ x1 H locs ls hf h0 hC hl
  unfold f_X7_endFinally_43 at hf
  refine lv_aload_n hx hb dX7_endFinally_43 rfl (lv_at hl 0 rfl) ?_
  refine lv_aload_n hx hb dX7_endFinally_44 rfl (lv_at hl 0 rfl) ?_
  refine cG_36 (v := (σ.i 36)) hx hb hts i_X7_endFinally_X7 hown hK hC (hts (.fieldLink RX7 61 "StatementRules2$Statements" "alive" "Z") k_X7_endFinally_fieldLink_RX7_61_SR_Statements_alive_Z) (fun _ q9 => q9) dX7_endFinally_45 rfl ?_
  refine lv_if_eq (tgt := 62) hx hb dX7_endFinally_48 (by decide) (fun c11 => ?_) (fun c11 => ?_)
  ·
    replace hf := (if_pos c11).symm.trans hf
    refine lv_iconst (v := 0) hx hb dX7_endFinally_62 (by decide) ?_
    refine cP_36 (v := 0) hx hb hts i_X7_endFinally_X7 hown hK hC (hts (.fieldLink RX7 61 "StatementRules2$Statements" "alive" "Z") k_X7_endFinally_fieldLink_RX7_61_SR_Statements_alive_Z) (fun _ q9 => q9) dX7_endFinally_63 (by decide) (fun H locs hC => ?_)
    exact j_X7_endFinally_66 l dC dI Q N z9h R hx hb hr hml hown hts hlocks hZ hA hK (CS.setI σ 36 0) _ _ _ hf h0 hC (lv_sub hl [0] rfl)
  ·
    replace hf := (if_neg c11).symm.trans hf
    refine lv_aload_n hx hb dX7_endFinally_51 rfl (lv_at hl 1 rfl) ?_
    obtain ⟨b16, hf⟩ := hf_ite hf
    refine pGN_X5_6 (v := (CS.o σ x1 6)) hx hb hts i_X7_endFinally_X5 hown hK hC (va_Nw.use rfl (hZ.1 (.fieldLinkNest RX7 359 "StatementRules2$Open" "ends" "Z" "StatementRules2") (by decide +kernel))) (fun _ q9 => q9) dX7_endFinally_52 b16 rfl ?_
    refine lv_if_eq (tgt := 62) hx hb dX7_endFinally_55 (by decide) (fun c17 => ?_) (fun c17 => ?_)
    ·
      replace hf := (if_pos c17).symm.trans hf
      refine lv_iconst (v := 0) hx hb dX7_endFinally_62 (by decide) ?_
      refine cP_36 (v := 0) hx hb hts i_X7_endFinally_X7 hown hK hC (hts (.fieldLink RX7 61 "StatementRules2$Statements" "alive" "Z") k_X7_endFinally_fieldLink_RX7_61_SR_Statements_alive_Z) (fun _ q9 => q9) dX7_endFinally_63 (by decide) (fun H locs hC => ?_)
      exact j_X7_endFinally_66 l dC dI Q N z9h R hx hb hr hml hown hts hlocks hZ hA hK (CS.setI σ 36 0) _ _ _ hf h0 hC (lv_sub hl [0] rfl)
    ·
      replace hf := (if_neg c17).symm.trans hf
      refine lv_iconst (v := 1) hx hb dX7_endFinally_58 (by decide) ?_
      refine lv_goto (tgt := 63) hx hb dX7_endFinally_59 (by decide) ?_
      refine cP_36 (v := 1) hx hb hts i_X7_endFinally_X7 hown hK hC (hts (.fieldLink RX7 61 "StatementRules2$Statements" "alive" "Z") k_X7_endFinally_fieldLink_RX7_61_SR_Statements_alive_Z) (fun _ q9 => q9) dX7_endFinally_63 (by decide) (fun H locs hC => ?_)
      exact j_X7_endFinally_66 l dC dI Q N z9h R hx hb hr hml hown hts hlocks hZ hA hK (CS.setI σ 36 1) _ _ _ hf h0 hC (lv_sub hl [0] rfl)
set_option maxHeartbeats 4000000 in
set_option maxRecDepth 100000 in
theorem c_X7_endFinally (l : Launch) (dC : Nat → ClassId) (dI : Nat → Nat → Nat) (Q : CQ) (N : Nat) (σ : CS) (x1 : Nat) (R : Unit × CS) (hf : f_X7_endFinally N σ x1 = some R) : Met l yX7_endFinally wzX7_endFinally ({ frames := 3, cells := CS.hs R.2 - CS.hs σ, slots := 17 * (CS.hs R.2 - CS.hs σ), locals := 60 * 3 }) (va_Pc [.ref (Q.o 3), .ref x1] (zPre dC dI (CS.hs σ) (cW Q σ) (cT Q))) (va_Qv (fun (_ : Unit) => True) (fun (_ : Unit) (t : State) => zPost dC dI (va_A (cW Q σ) (CS.hs σ)) (cW Q R.2) (cT Q) t ∧ t.heap.size = CS.hs R.2) (va_A (cW Q σ) (CS.hs σ))) (CS.hs R.2 - CS.hs σ) (17 * (CS.hs R.2 - CS.hs σ)) (va_A (cW Q σ) (CS.hs σ)) := by
  refine Met.ofW (cc := cX7_endFinally) (maxL := 2) (ret := none) (by decide) rfl ?_
  intro p e s m args below meth c s₁ B hml hv
  obtain ⟨rfl, hsz, hZ, hP, hK, hD0⟩ := hv
  have hx := B.exec
  have hb := B.bytes
  have hr := B.returns
  have hts := atoms_spec (ws := wzX7_endFinally) B.pre
  have hown : s.vm.findClass RX7 = some m.cls := findClass_of_methodNamed B.named
  have hlocks := B.notSynchronized
  have hD := hD0.self (sz := CS.hs σ)
  generalize hAe : va_A (cW Q σ) (CS.hs σ) = A at hD ⊢
  have hA : ∀ q : Nat, s.heap.size ≤ q → A q := fun q h => by rw [← hAe]; exact Or.inr (hsz ▸ h)
  have hC : CP dC dI Q A s.heap σ s.heap [] := ⟨hP, hD, va_S.rf, hsz⟩
  have h0 : CS.hs σ ≤ CS.hs σ := Nat.le_refl _
  have hl := lv_entry ([.ref (Q.o 3), .ref x1]) (n := 2) (Nat.le_of_ble_eq_true rfl)
  rw [lg_entry_eq]
  generalize (lg_sl ([.ref (Q.o 3), .ref x1]) ++ List.replicate (2 - (lg_sl ([.ref (Q.o 3), .ref x1])).length) Slot.unset).toArray = ls at hl ⊢
  have hl : lv_has ls 2 [(0, .ref (Q.o 3)), (1, .ref x1)] := hl
  unfold f_X7_endFinally at hf
  refine W.widen (k := CS.hs σ - CS.hs σ) (n := 17 * (CS.hs σ - CS.hs σ)) (Nat.zero_le _) (Nat.zero_le _) ?_
  refine lv_aload_n hx hb dX7_endFinally_0 rfl (lv_at hl 0 rfl) ?_
  refine cG_29 hx hb hts i_X7_endFinally_X7 hown hK hC (hts (.fieldLink RX7 20 "StatementRules2$Statements" "code" "LStatementRules2$Code;") k_X7_endFinally_fieldLink_RX7_20_SR_Statements_code_LSR_Code) (fun x9 q9 => u_same (hts (.sameField "StatementRules2$Statements" "StatementRules2$Formulas" "code" "LStatementRules2$Code;") k_X7_endFinally_sameField_SR_Statements_SR_Formulas_code_LSR_Code) x9 q9) dX7_endFinally_1 ?_
  refine lv_bipush (v := 59) hx hb dX7_endFinally_4 (by decide) ?_
  refine lv_iconst (v := 0) hx hb dX7_endFinally_6 (by decide) ?_
  obtain ⟨p1, hcp1, hf⟩ := hf_bind hf
  have mo2 : CS.hs σ ≤ CS.hs p1.2 := Mono.go hcp1 (m_X0_add N σ 59 0)
  have hr9 : CS.hs p1.2 ≤ CS.hs R.2 := Mono.go hf (mono_ite (mono_bind (m_X0_aim N p1.2 (CS.o p1.2 x1 9)) (fun p6 => (mono_ite (mono_ite (mono_bind (m_X6_loseJumps N p6.2 (CS.o p6.2 x1 14) (CS.o p6.2 x1 15)) (fun p19 => (m_X7_endFinally_43 N p19.2 x1))) mono_none) (m_X7_endFinally_43 N p6.2 x1)))) mono_none)
  have hFc := cFree hC hA
  refine va_callv (va_runV (As := [.int 59, .int 0]) (rest := []) ⟨hx, hb, hml, hown, hts⟩ (c_X0_add l dC dI Q N σ 59 0 p1 hcp1) (cwV 2 hts hX7_endFinally_X0_add_v176 rfl rfl rfl (by decide +kernel) ⟨(show 2 + 1 ≤ 3 by omega), (show 8 + (3 + 11) + 60 * 2 ≤ 60 * 3 by omega)⟩) ⟨zPre.blind, va_recv hK hC.1 (ci := 0) (q0 := 2) rfl rfl, cPre_go hZ hK hC⟩ rfl rfl hl.1 rfl (lv_room (Nat.le_of_ble_eq_true rfl)) dX7_endFinally_7 (cAcc h0 mo2 hr9)) hC.2.2.1 (fun q _ h => hFc q h) hFc (fun u9 t9 H1 locs ht hvm hw hB hz1 hk1 hS => ?_)
  obtain ⟨⟨hP, hK1, hD1⟩, hsz1⟩ := hB
  rw [ht] at hP hsz1
  have hC : CP dC dI Q A s.heap p1.2 H1 locs := ⟨hP, hD1.weaken (fun _ _ _ h => hFc _ h), hS, hsz1⟩
  generalize H1 = H at hC ⊢
  have h4 : (CS.hs σ) ≤ CS.hs p1.2 := Nat.le_trans h0 mo2
  refine W.widen (k := CS.hs p1.2 - (CS.hs σ)) (n := 17 * (CS.hs p1.2 - (CS.hs σ))) (cAcc2 h0 mo2) (cAcc3 h0 mo2) ?_
  refine lv_aload_n hx hb dX7_endFinally_10 rfl (lv_at hl 0 rfl) ?_
  refine cG_29 hx hb hts i_X7_endFinally_X7 hown hK hC (hts (.fieldLink RX7 20 "StatementRules2$Statements" "code" "LStatementRules2$Code;") k_X7_endFinally_fieldLink_RX7_20_SR_Statements_code_LSR_Code) (fun x9 q9 => u_same (hts (.sameField "StatementRules2$Statements" "StatementRules2$Formulas" "code" "LStatementRules2$Code;") k_X7_endFinally_sameField_SR_Statements_SR_Formulas_code_LSR_Code) x9 q9) dX7_endFinally_11 ?_
  refine lv_aload_n hx hb dX7_endFinally_14 rfl (lv_at hl 1 rfl) ?_
  obtain ⟨b5, hf⟩ := hf_ite hf
  refine pGN_X5_9 (v := (CS.o p1.2 x1 9)) hx hb hts i_X7_endFinally_X5 hown hK hC (va_Nw.use rfl (hZ.1 (.fieldLinkNest RX7 196 "StatementRules2$Open" "exit" "I" "StatementRules2") (by decide +kernel))) (fun _ q9 => q9) dX7_endFinally_15 b5 rfl ?_
  obtain ⟨p6, hcp6, hf⟩ := hf_bind hf
  have mo7 : CS.hs p1.2 ≤ CS.hs p6.2 := Mono.go hcp6 (m_X0_aim N p1.2 (CS.o p1.2 x1 9))
  have hr9 : CS.hs p6.2 ≤ CS.hs R.2 := Mono.go hf (mono_ite (mono_ite (mono_bind (m_X6_loseJumps N p6.2 (CS.o p6.2 x1 14) (CS.o p6.2 x1 15)) (fun p19 => (m_X7_endFinally_43 N p19.2 x1))) mono_none) (m_X7_endFinally_43 N p6.2 x1))
  have hFc := cFree hC hA
  refine va_callv (va_runV (As := [.int (CS.o p1.2 x1 9)]) (rest := []) ⟨hx, hb, hml, hown, hts⟩ (c_X0_aim l dC dI Q N p1.2 (CS.o p1.2 x1 9) p6 hcp6) (cwV 1 hts hX7_endFinally_X0_aim_v158 rfl rfl rfl (by decide +kernel) ⟨(show 2 + 1 ≤ 3 by omega), (show 8 + (2 + 11) + 60 * 2 ≤ 60 * 3 by omega)⟩) ⟨zPre.blind, va_recv hK hC.1 (ci := 0) (q0 := 2) rfl rfl, cPre_go hZ hK hC⟩ rfl rfl hl.1 rfl (lv_room (Nat.le_of_ble_eq_true rfl)) dX7_endFinally_18 (cAcc h4 mo7 hr9)) hC.2.2.1 (fun q _ h => hFc q h) hFc (fun u9 t9 H1 locs ht hvm hw hB hz1 hk1 hS => ?_)
  obtain ⟨⟨hP, hK1, hD1⟩, hsz1⟩ := hB
  rw [ht] at hP hsz1
  have hC : CP dC dI Q A s.heap p6.2 H1 locs := ⟨hP, hD1.weaken (fun _ _ _ h => hFc _ h), hS, hsz1⟩
  generalize H1 = H at hC ⊢
  have h9 : (CS.hs σ) ≤ CS.hs p6.2 := Nat.le_trans h4 mo7
  refine W.widen (k := CS.hs p6.2 - (CS.hs σ)) (n := 17 * (CS.hs p6.2 - (CS.hs σ))) (cAcc2 h4 mo7) (cAcc3 h4 mo7) ?_
  refine lv_aload_n hx hb dX7_endFinally_21 rfl (lv_at hl 0 rfl) ?_
  refine cG_36 (v := (p6.2.i 36)) hx hb hts i_X7_endFinally_X7 hown hK hC (hts (.fieldLink RX7 61 "StatementRules2$Statements" "alive" "Z") k_X7_endFinally_fieldLink_RX7_61_SR_Statements_alive_Z) (fun _ q9 => q9) dX7_endFinally_22 rfl ?_
  refine lv_if_ne (tgt := 43) hx hb dX7_endFinally_25 (by decide) (fun c10 => ?_) (fun c10 => ?_)
  ·
    replace hf := (if_neg c10).symm.trans hf
    exact j_X7_endFinally_43 l dC dI Q N (CS.hs σ) R hx hb hr hml hown hts hlocks hZ hA hK p6.2 x1 _ _ _ hf h9 hC (lv_sub hl [0, 1] rfl)
  ·
    replace hf := (if_pos c10).symm.trans hf
    refine lv_aload_n hx hb dX7_endFinally_28 rfl (lv_at hl 0 rfl) ?_
    refine cG_35 hx hb hts i_X7_endFinally_X7 hown hK hC (hts (.fieldLink RX7 14 "StatementRules2$Statements" "opens" "LStatementRules2$Opens;") k_X7_endFinally_fieldLink_RX7_14_SR_Statements_opens_LSR_Opens) (fun _ q9 => q9) dX7_endFinally_29 ?_
    refine lv_aload_n hx hb dX7_endFinally_32 rfl (lv_at hl 1 rfl) ?_
    obtain ⟨b18, hf⟩ := hf_ite hf
    refine pGN_X5_14 (v := (CS.o p6.2 x1 14)) hx hb hts i_X7_endFinally_X5 hown hK hC (va_Nw.use rfl (hZ.1 (.fieldLinkNest RX7 407 "StatementRules2$Open" "firstJump" "I" "StatementRules2") (by decide +kernel))) (fun _ q9 => q9) dX7_endFinally_33 b18 rfl ?_
    refine lv_aload_n hx hb dX7_endFinally_36 rfl (lv_at hl 1 rfl) ?_
    refine pGN_X5_15 (v := (CS.o p6.2 x1 15)) hx hb hts i_X7_endFinally_X5 hown hK hC (va_Nw.use rfl (hZ.1 (.fieldLinkNest RX7 404 "StatementRules2$Open" "finallyJump" "I" "StatementRules2") (by decide +kernel))) (fun _ q9 => q9) dX7_endFinally_37 b18 rfl ?_
    obtain ⟨p19, hcp19, hf⟩ := hf_bind hf
    have mo20 : CS.hs p6.2 ≤ CS.hs p19.2 := Mono.go hcp19 (m_X6_loseJumps N p6.2 (CS.o p6.2 x1 14) (CS.o p6.2 x1 15))
    have hr9 : CS.hs p19.2 ≤ CS.hs R.2 := Mono.go hf (m_X7_endFinally_43 N p19.2 x1)
    have hFc := cFree hC hA
    refine va_callv (va_runV (As := [.int (CS.o p6.2 x1 14), .int (CS.o p6.2 x1 15)]) (rest := []) ⟨hx, hb, hml, hown, hts⟩ (c_X6_loseJumps l dC dI Q N p6.2 (CS.o p6.2 x1 14) (CS.o p6.2 x1 15) p19 hcp19) (cwV 2 hts hX7_endFinally_X6_loseJumps_v410 rfl rfl rfl (by decide +kernel) ⟨(show 2 + 1 ≤ 3 by omega), (show 8 + (4 + 11) + 60 * 2 ≤ 60 * 3 by omega)⟩) ⟨zPre.blind, va_recv hK hC.1 (ci := 5) (q0 := 6) rfl rfl, cPre_go hZ hK hC⟩ rfl rfl hl.1 rfl (lv_room (Nat.le_of_ble_eq_true rfl)) dX7_endFinally_40 (cAcc h9 mo20 hr9)) hC.2.2.1 (fun q _ h => hFc q h) hFc (fun u9 t9 H1 locs ht hvm hw hB hz1 hk1 hS => ?_)
    obtain ⟨⟨hP, hK1, hD1⟩, hsz1⟩ := hB
    rw [ht] at hP hsz1
    have hC : CP dC dI Q A s.heap p19.2 H1 locs := ⟨hP, hD1.weaken (fun _ _ _ h => hFc _ h), hS, hsz1⟩
    generalize H1 = H at hC ⊢
    have h22 : (CS.hs σ) ≤ CS.hs p19.2 := Nat.le_trans h9 mo20
    refine W.widen (k := CS.hs p19.2 - (CS.hs σ)) (n := 17 * (CS.hs p19.2 - (CS.hs σ))) (cAcc2 h9 mo20) (cAcc3 h9 mo20) ?_
    exact j_X7_endFinally_43 l dC dI Q N (CS.hs σ) R hx hb hr hml hown hts hlocks hZ hA hK p19.2 x1 _ _ _ hf h22 hC (lv_sub hl [0, 1] rfl)
theorem i_X7_endList_X5 : ∀ w ∈ wsX50, w ∈ wzX7_endList := fun _ h => List.mem_cons_of_mem _ (List.mem_append_right _ (List.mem_append_left _ (h)))
theorem k_X7_endList_fieldLink_RX7_29_SR_Statements_names_LSR_Names : Cond.fieldLink RX7 29 "StatementRules2$Statements" "names" "LStatementRules2$Names;" ∈ wzX7_endList := List.mem_cons_of_mem _ (List.mem_append_left _ (List.mem_of_getElem? (i := 0) rfl))
theorem k_X7_endList_sameField_SR_Statements_SR_Formulas_names_LSR_Names : Cond.sameField "StatementRules2$Statements" "StatementRules2$Formulas" "names" "LStatementRules2$Names;" ∈ wzX7_endList := List.mem_cons_of_mem _ (List.mem_append_left _ (List.mem_of_getElem? (i := 1) rfl))
theorem i_X7_endList_X7 : ∀ w ∈ wsX70, w ∈ wzX7_endList := fun _ h => List.mem_cons_of_mem _ (List.mem_append_right _ (List.mem_append_right _ (List.mem_append_left _ (h))))
theorem i_X7_endList_X4 : ∀ w ∈ wsX40, w ∈ wzX7_endList := fun _ h => List.mem_cons_of_mem _ (List.mem_append_right _ (List.mem_append_right _ (List.mem_append_right _ (List.mem_append_left _ (h)))))
theorem k_X7_endList_fieldLink_RX7_14_SR_Statements_opens_LSR_Opens : Cond.fieldLink RX7 14 "StatementRules2$Statements" "opens" "LStatementRules2$Opens;" ∈ wzX7_endList := List.mem_cons_of_mem _ (List.mem_append_left _ (List.mem_of_getElem? (i := 2) rfl))
theorem k_X7_endList_fieldLink_RX7_61_SR_Statements_alive_Z : Cond.fieldLink RX7 61 "StatementRules2$Statements" "alive" "Z" ∈ wzX7_endList := List.mem_cons_of_mem _ (List.mem_append_left _ (List.mem_of_getElem? (i := 3) rfl))
theorem k_X7_endList_fieldLink_RX7_71_SR_Statements_tokens_LSR_Tokens : Cond.fieldLink RX7 71 "StatementRules2$Statements" "tokens" "LStatementRules2$Tokens;" ∈ wzX7_endList := List.mem_cons_of_mem _ (List.mem_append_left _ (List.mem_of_getElem? (i := 4) rfl))
theorem k_X7_endList_sameField_SR_Statements_SR_Formulas_tokens_LSR_Tokens : Cond.sameField "StatementRules2$Statements" "StatementRules2$Formulas" "tokens" "LStatementRules2$Tokens;" ∈ wzX7_endList := List.mem_cons_of_mem _ (List.mem_append_left _ (List.mem_of_getElem? (i := 5) rfl))
theorem i_X7_endList_X9 : ∀ w ∈ wsX90, w ∈ wzX7_endList := fun _ h => List.mem_cons_of_mem _ (List.mem_append_right _ (List.mem_append_right _ (List.mem_append_right _ (List.mem_append_right _ (List.mem_append_left _ (h))))))
theorem k_X7_endList_fieldLink_RX7_20_SR_Statements_code_LSR_Code : Cond.fieldLink RX7 20 "StatementRules2$Statements" "code" "LStatementRules2$Code;" ∈ wzX7_endList := List.mem_cons_of_mem _ (List.mem_append_left _ (List.mem_of_getElem? (i := 6) rfl))
theorem k_X7_endList_sameField_SR_Statements_SR_Formulas_code_LSR_Code : Cond.sameField "StatementRules2$Statements" "StatementRules2$Formulas" "code" "LStatementRules2$Code;" ∈ wzX7_endList := List.mem_cons_of_mem _ (List.mem_append_left _ (List.mem_of_getElem? (i := 7) rfl))
theorem i_X7_endList_X0 : ∀ w ∈ wsX00, w ∈ wzX7_endList := fun _ h => List.mem_cons_of_mem _ (List.mem_append_right _ (List.mem_append_right _ (List.mem_append_right _ (List.mem_append_right _ (List.mem_append_right _ (List.mem_append_left _ (h)))))))
set_option maxHeartbeats 4000000 in
set_option maxRecDepth 100000 in
theorem j_X7_endList_72 {p : Program} {e : Env} {s : State} {m : MethodId} {args : Array Value} {below : List Frame} {meth : Method} {c : Code} {A : Nat → Prop} (l : Launch) (dC : Nat → ClassId) (dI : Nat → Nat → Nat) (Q : CQ) (N : Nat) (z9h : Nat) (R : Unit × CS) (hx : p.tables.exec = Jvm.exec) (hb : c.code = cX7_endList) (hr : meth.sig.returnType = none) (hml : c.maxLocals = 2) (hown : s.vm.findClass RX7 = some m.cls) (hts : ∀ w ∈ wzX7_endList, w.before args s = true) (hlocks : meth.locks = false) (hZ : zAMB s) (hA : ∀ q : Nat, s.heap.size ≤ q → A q) (hK : va_K (dC, dI) vwCl (cT Q) s) : ∀ (σ : CS) (x1 : Nat) (H : Heap) (locs : List Loc) (ls : Array Slot), f_X7_endList_72 N σ x1 = some R → z9h ≤ CS.hs σ → CP dC dI Q A s.heap σ H locs → lv_has ls 2 [(0, .ref (Q.o 3)), (1, .ref x1)] → W p l e ({ frames := 5, cells := CS.hs R.2 - z9h, slots := 17 * (CS.hs R.2 - z9h), locals := 60 * 5 }) s m args below meth c H locs (CS.hs σ - z9h) (17 * (CS.hs σ - z9h)) (MQ below (va_Qv (fun (_ : Unit) => True) (fun (_ : Unit) (t : State) => zPost dC dI A (cW Q R.2) (cT Q) t ∧ t.heap.size = CS.hs R.2) A) args s (CS.hs R.2 - z9h) (17 * (CS.hs R.2 - z9h)) A) (F0 m 72 ls []) := by
  intro σ x1 H locs ls hf h0 hC hl
  unfold f_X7_endList_72 at hf
  refine lv_aload_n hx hb dX7_endList_72 rfl (lv_at hl 0 rfl) ?_
  refine lv_bipush (v := 125) hx hb dX7_endList_73 (by decide) ?_
  obtain ⟨p4, hcp4, hf⟩ := hf_bind hf
  have mo5 : CS.hs σ ≤ CS.hs p4.2 := Mono.go hcp4 (m_X1_close N σ 125)
  have hr9 : CS.hs p4.2 ≤ CS.hs R.2 := Mono.go hf (mono_ite (mono_ite (mono_bind (m_X7_endLock N (CS.setI p4.2 50 (CS.o p4.2 x1 3)) x1) (fun p10 => (mono_some (Nat.le_refl _)))) (mono_ite (mono_bind (m_X7_endGuarded N (CS.setI p4.2 50 (CS.o p4.2 x1 3)) x1) (fun p15 => (mono_some (Nat.le_refl _)))) (mono_ite (mono_bind (m_X6_pop N (CS.setI p4.2 50 (CS.o p4.2 x1 3))) (fun p20 => (mono_some (Nat.le_refl _)))) (mono_ite (mono_bind (m_X7_endGuarded N (CS.setI p4.2 50 (CS.o p4.2 x1 3)) x1) (fun p25 => (mono_some (Nat.le_refl _)))) (mono_ite (mono_bind (m_X7_endFinally N (CS.setI p4.2 50 (CS.o p4.2 x1 3)) x1) (fun p30 => (mono_some (Nat.le_refl _)))) (mono_ite (mono_bind (m_X6_pop N (CS.setI p4.2 50 (CS.o p4.2 x1 3))) (fun p35 => (mono_some (Nat.le_refl _)))) (mono_ite (mono_bind (m_X7_endSwitch N (CS.setI p4.2 50 (CS.o p4.2 x1 3)) x1) (fun p40 => (mono_some (Nat.le_refl _)))) (mono_bind (m_X6_pop N (CS.setI p4.2 50 (CS.o p4.2 x1 3))) (fun p44 => (mono_some (Nat.le_refl _))))))))))) mono_none)
  have hFc := cFree hC hA
  refine va_callv (va_runU (As := [.int 125]) (rest := []) ⟨hx, hb, hml, hown, hts⟩ (c_X1_close l dC dI Q N σ 125 p4 hcp4) (va_cwU 1 hts hX7_endList_X1_close_u318 rfl rfl rfl rfl (by decide +kernel) ⟨(show 4 + 1 ≤ 5 by omega), (show 8 + (2 + 11) + 60 * 4 ≤ 60 * 5 by omega)⟩) ⟨zPre.blind, va_recv hK hC.1 (ci := 6) (q0 := 3) rfl rfl, cPre_go hZ hK hC⟩ rfl rfl hl.1 rfl (lv_room (Nat.le_of_ble_eq_true rfl)) dX7_endList_75 (cAcc h0 mo5 hr9)) hC.2.2.1 (fun q _ h => hFc q h) hFc (fun u9 t9 H1 locs ht hvm hw hB hz1 hk1 hS => ?_)
  obtain ⟨⟨hP, hK1, hD1⟩, hsz1⟩ := hB
  rw [ht] at hP hsz1
  have hC : CP dC dI Q A s.heap p4.2 H1 locs := ⟨hP, hD1.weaken (fun _ _ _ h => hFc _ h), hS, hsz1⟩
  generalize H1 = H at hC ⊢
  have h7 : z9h ≤ CS.hs p4.2 := Nat.le_trans h0 mo5
  refine W.widen (k := CS.hs p4.2 - z9h) (n := 17 * (CS.hs p4.2 - z9h)) (cAcc2 h0 mo5) (cAcc3 h0 mo5) ?_
  refine lv_aload_n hx hb dX7_endList_78 rfl (lv_at hl 0 rfl) ?_
  refine cG_31 hx hb hts i_X7_endList_X7 hown hK hC (hts (.fieldLink RX7 29 "StatementRules2$Statements" "names" "LStatementRules2$Names;") k_X7_endList_fieldLink_RX7_29_SR_Statements_names_LSR_Names) (fun x9 q9 => u_same (hts (.sameField "StatementRules2$Statements" "StatementRules2$Formulas" "names" "LStatementRules2$Names;") k_X7_endList_sameField_SR_Statements_SR_Formulas_names_LSR_Names) x9 q9) dX7_endList_79 ?_
  refine lv_aload_n hx hb dX7_endList_82 rfl (lv_at hl 1 rfl) ?_
  obtain ⟨b8, hf⟩ := hf_ite hf
  refine pGN_X5_3 (v := (CS.o p4.2 x1 3)) hx hb hts i_X7_endList_X5 hown hK hC (va_Nw.use rfl (hZ.1 (.fieldLinkNest RX7 338 "StatementRules2$Open" "namesBefore" "I" "StatementRules2") (by decide +kernel))) (fun _ q9 => q9) dX7_endList_83 b8 rfl ?_
  refine cPN_50 (v := (CS.o p4.2 x1 3)) hx hb hts i_X7_endList_X4 hown hK hC (va_Nw.use rfl (hZ.1 (.fieldLinkNest RX7 33 "StatementRules2$Names" "count" "I" "StatementRules2") (by decide +kernel))) (fun _ q9 => q9) dX7_endList_86 (fun H locs hC => ?_)
  refine lv_aload_n hx hb dX7_endList_89 rfl (lv_at hl 1 rfl) ?_
  refine pGN_X5_0 (v := (CS.o (CS.setI p4.2 50 (CS.o p4.2 x1 3)) x1 0)) hx hb hts i_X7_endList_X5 hown hK hC (va_Nw.use rfl (hZ.1 (.fieldLinkNest RX7 107 "StatementRules2$Open" "sort" "I" "StatementRules2") (by decide +kernel))) (fun _ q9 => q9) dX7_endList_90 b8 rfl ?_
  by_cases c9 : (CS.o (CS.setI p4.2 50 (CS.o p4.2 x1 3)) x1 0) = 212
  ·
    replace hf := (if_pos c9).symm.trans hf
    refine lv_tableIn (off := 43) (tgt := 136) hx hb dX7_endList_93 (by rw [c9]; decide) (by rw [c9]; decide) (by rw [c9]; decide) (by decide) ?_
    refine lv_aload_n hx hb dX7_endList_136 rfl (lv_at hl 0 rfl) ?_
    refine lv_aload_n hx hb dX7_endList_137 rfl (lv_at hl 1 rfl) ?_
    obtain ⟨p10, hcp10, hf⟩ := hf_bind hf
    have mo11 : CS.hs p4.2 ≤ CS.hs p10.2 := Mono.go hcp10 (m_X7_endLock N (CS.setI p4.2 50 (CS.o p4.2 x1 3)) x1)
    have hr9 : CS.hs p10.2 ≤ CS.hs R.2 := Mono.go hf (mono_some (Nat.le_refl _))
    have hFc := cFree hC hA
    refine va_callv (va_runV (As := [.ref x1]) (rest := []) ⟨hx, hb, hml, hown, hts⟩ (c_X7_endLock l dC dI Q N (CS.setI p4.2 50 (CS.o p4.2 x1 3)) x1 p10 hcp10) (cwV 1 hts hX7_endList_X7_endLock_v375 rfl rfl rfl (by decide +kernel) ⟨(show 4 + 1 ≤ 5 by omega), (show 8 + (2 + 11) + 60 * 4 ≤ 60 * 5 by omega)⟩) ⟨zPre.blind, va_recv hK hC.1 (ci := 6) (q0 := 3) rfl rfl, cPre_go hZ hK hC⟩ rfl rfl hl.1 rfl (lv_room (Nat.le_of_ble_eq_true rfl)) dX7_endList_138 (cAcc h7 mo11 hr9)) hC.2.2.1 (fun q _ h => hFc q h) hFc (fun u9 t9 H1 locs ht hvm hw hB hz1 hk1 hS => ?_)
    obtain ⟨⟨hP, hK1, hD1⟩, hsz1⟩ := hB
    rw [ht] at hP hsz1
    have hC : CP dC dI Q A s.heap p10.2 H1 locs := ⟨hP, hD1.weaken (fun _ _ _ h => hFc _ h), hS, hsz1⟩
    generalize H1 = H at hC ⊢
    have h13 : z9h ≤ CS.hs p10.2 := Nat.le_trans h7 mo11
    refine W.widen (k := CS.hs p10.2 - z9h) (n := 17 * (CS.hs p10.2 - z9h)) (cAcc2 h7 mo11) (cAcc3 h7 mo11) ?_
    refine lv_goto (tgt := 175) hx hb dX7_endList_141 (by decide) ?_
    obtain rfl := Option.some.inj hf
    exact W.vret hx hb hr (fun t ht hW => ⟨⟨(), rfl, trivial, ⟨by rw [ht]; exact hC.1, va_K.moved hW.alike hK, hC.2.1⟩, by rw [ht]; exact hC.2.2.2⟩, hC.2.2.1.F ht⟩) hC.2.2.1.2.2 dX7_endList_175
  replace hf := (if_neg c9).symm.trans hf
  by_cases c14 : (CS.o (CS.setI p4.2 50 (CS.o p4.2 x1 3)) x1 0) = 213
  ·
    replace hf := (if_pos c14).symm.trans hf
    refine lv_tableIn (off := 59) (tgt := 152) hx hb dX7_endList_93 (by rw [c14]; decide) (by rw [c14]; decide) (by rw [c14]; decide) (by decide) ?_
    refine lv_aload_n hx hb dX7_endList_152 rfl (lv_at hl 0 rfl) ?_
    refine lv_aload_n hx hb dX7_endList_153 rfl (lv_at hl 1 rfl) ?_
    obtain ⟨p15, hcp15, hf⟩ := hf_bind hf
    have mo16 : CS.hs p4.2 ≤ CS.hs p15.2 := Mono.go hcp15 (m_X7_endGuarded N (CS.setI p4.2 50 (CS.o p4.2 x1 3)) x1)
    have hr9 : CS.hs p15.2 ≤ CS.hs R.2 := Mono.go hf (mono_some (Nat.le_refl _))
    have hFc := cFree hC hA
    refine va_callv (va_runV (As := [.ref x1]) (rest := []) ⟨hx, hb, hml, hown, hts⟩ (c_X7_endGuarded l dC dI Q N (CS.setI p4.2 50 (CS.o p4.2 x1 3)) x1 p15 hcp15) (cwV 1 hts hX7_endList_X7_endGuarded_v381 rfl rfl rfl (by decide +kernel) ⟨(show 4 + 1 ≤ 5 by omega), (show 8 + (2 + 11) + 60 * 4 ≤ 60 * 5 by omega)⟩) ⟨zPre.blind, va_recv hK hC.1 (ci := 6) (q0 := 3) rfl rfl, cPre_go hZ hK hC⟩ rfl rfl hl.1 rfl (lv_room (Nat.le_of_ble_eq_true rfl)) dX7_endList_154 (cAcc h7 mo16 hr9)) hC.2.2.1 (fun q _ h => hFc q h) hFc (fun u9 t9 H1 locs ht hvm hw hB hz1 hk1 hS => ?_)
    obtain ⟨⟨hP, hK1, hD1⟩, hsz1⟩ := hB
    rw [ht] at hP hsz1
    have hC : CP dC dI Q A s.heap p15.2 H1 locs := ⟨hP, hD1.weaken (fun _ _ _ h => hFc _ h), hS, hsz1⟩
    generalize H1 = H at hC ⊢
    have h18 : z9h ≤ CS.hs p15.2 := Nat.le_trans h7 mo16
    refine W.widen (k := CS.hs p15.2 - z9h) (n := 17 * (CS.hs p15.2 - z9h)) (cAcc2 h7 mo16) (cAcc3 h7 mo16) ?_
    refine lv_goto (tgt := 175) hx hb dX7_endList_157 (by decide) ?_
    obtain rfl := Option.some.inj hf
    exact W.vret hx hb hr (fun t ht hW => ⟨⟨(), rfl, trivial, ⟨by rw [ht]; exact hC.1, va_K.moved hW.alike hK, hC.2.1⟩, by rw [ht]; exact hC.2.2.2⟩, hC.2.2.1.F ht⟩) hC.2.2.1.2.2 dX7_endList_175
  replace hf := (if_neg c14).symm.trans hf
  by_cases c19 : (CS.o (CS.setI p4.2 50 (CS.o p4.2 x1 3)) x1 0) = 214
  ·
    replace hf := (if_pos c19).symm.trans hf
    refine lv_tableIn (off := 75) (tgt := 168) hx hb dX7_endList_93 (by rw [c19]; decide) (by rw [c19]; decide) (by rw [c19]; decide) (by decide) ?_
    refine lv_aload_n hx hb dX7_endList_168 rfl (lv_at hl 0 rfl) ?_
    refine cG_35 hx hb hts i_X7_endList_X7 hown hK hC (hts (.fieldLink RX7 14 "StatementRules2$Statements" "opens" "LStatementRules2$Opens;") k_X7_endList_fieldLink_RX7_14_SR_Statements_opens_LSR_Opens) (fun _ q9 => q9) dX7_endList_169 ?_
    obtain ⟨p20, hcp20, hf⟩ := hf_bind hf
    have mo21 : CS.hs p4.2 ≤ CS.hs p20.2 := Mono.go hcp20 (m_X6_pop N (CS.setI p4.2 50 (CS.o p4.2 x1 3)))
    have hr9 : CS.hs p20.2 ≤ CS.hs R.2 := Mono.go hf (mono_some (Nat.le_refl _))
    have hFc := cFree hC hA
    refine va_callv (va_runV (As := []) (rest := []) ⟨hx, hb, hml, hown, hts⟩ (c_X6_pop l dC dI Q N (CS.setI p4.2 50 (CS.o p4.2 x1 3)) p20 hcp20) (cwV 0 hts hX7_endList_X6_pop_v369 rfl rfl rfl (by decide +kernel) ⟨(show 1 + 1 ≤ 5 by omega), (show 8 + (1 + 11) + 60 * 1 ≤ 60 * 5 by omega)⟩) ⟨zPre.blind, va_recv hK hC.1 (ci := 5) (q0 := 6) rfl rfl, cPre_go hZ hK hC⟩ rfl rfl hl.1 rfl (lv_room (Nat.le_of_ble_eq_true rfl)) dX7_endList_172 (cAcc h7 mo21 hr9)) hC.2.2.1 (fun q _ h => hFc q h) hFc (fun u9 t9 H1 locs ht hvm hw hB hz1 hk1 hS => ?_)
    obtain ⟨⟨hP, hK1, hD1⟩, hsz1⟩ := hB
    rw [ht] at hP hsz1
    have hC : CP dC dI Q A s.heap p20.2 H1 locs := ⟨hP, hD1.weaken (fun _ _ _ h => hFc _ h), hS, hsz1⟩
    generalize H1 = H at hC ⊢
    have h23 : z9h ≤ CS.hs p20.2 := Nat.le_trans h7 mo21
    refine W.widen (k := CS.hs p20.2 - z9h) (n := 17 * (CS.hs p20.2 - z9h)) (cAcc2 h7 mo21) (cAcc3 h7 mo21) ?_
    obtain rfl := Option.some.inj hf
    exact W.vret hx hb hr (fun t ht hW => ⟨⟨(), rfl, trivial, ⟨by rw [ht]; exact hC.1, va_K.moved hW.alike hK, hC.2.1⟩, by rw [ht]; exact hC.2.2.2⟩, hC.2.2.1.F ht⟩) hC.2.2.1.2.2 dX7_endList_175
  replace hf := (if_neg c19).symm.trans hf
  by_cases c24 : (CS.o (CS.setI p4.2 50 (CS.o p4.2 x1 3)) x1 0) = 215
  ·
    replace hf := (if_pos c24).symm.trans hf
    refine lv_tableIn (off := 59) (tgt := 152) hx hb dX7_endList_93 (by rw [c24]; decide) (by rw [c24]; decide) (by rw [c24]; decide) (by decide) ?_
    refine lv_aload_n hx hb dX7_endList_152 rfl (lv_at hl 0 rfl) ?_
    refine lv_aload_n hx hb dX7_endList_153 rfl (lv_at hl 1 rfl) ?_
    obtain ⟨p25, hcp25, hf⟩ := hf_bind hf
    have mo26 : CS.hs p4.2 ≤ CS.hs p25.2 := Mono.go hcp25 (m_X7_endGuarded N (CS.setI p4.2 50 (CS.o p4.2 x1 3)) x1)
    have hr9 : CS.hs p25.2 ≤ CS.hs R.2 := Mono.go hf (mono_some (Nat.le_refl _))
    have hFc := cFree hC hA
    refine va_callv (va_runV (As := [.ref x1]) (rest := []) ⟨hx, hb, hml, hown, hts⟩ (c_X7_endGuarded l dC dI Q N (CS.setI p4.2 50 (CS.o p4.2 x1 3)) x1 p25 hcp25) (cwV 1 hts hX7_endList_X7_endGuarded_v381 rfl rfl rfl (by decide +kernel) ⟨(show 4 + 1 ≤ 5 by omega), (show 8 + (2 + 11) + 60 * 4 ≤ 60 * 5 by omega)⟩) ⟨zPre.blind, va_recv hK hC.1 (ci := 6) (q0 := 3) rfl rfl, cPre_go hZ hK hC⟩ rfl rfl hl.1 rfl (lv_room (Nat.le_of_ble_eq_true rfl)) dX7_endList_154 (cAcc h7 mo26 hr9)) hC.2.2.1 (fun q _ h => hFc q h) hFc (fun u9 t9 H1 locs ht hvm hw hB hz1 hk1 hS => ?_)
    obtain ⟨⟨hP, hK1, hD1⟩, hsz1⟩ := hB
    rw [ht] at hP hsz1
    have hC : CP dC dI Q A s.heap p25.2 H1 locs := ⟨hP, hD1.weaken (fun _ _ _ h => hFc _ h), hS, hsz1⟩
    generalize H1 = H at hC ⊢
    have h28 : z9h ≤ CS.hs p25.2 := Nat.le_trans h7 mo26
    refine W.widen (k := CS.hs p25.2 - z9h) (n := 17 * (CS.hs p25.2 - z9h)) (cAcc2 h7 mo26) (cAcc3 h7 mo26) ?_
    refine lv_goto (tgt := 175) hx hb dX7_endList_157 (by decide) ?_
    obtain rfl := Option.some.inj hf
    exact W.vret hx hb hr (fun t ht hW => ⟨⟨(), rfl, trivial, ⟨by rw [ht]; exact hC.1, va_K.moved hW.alike hK, hC.2.1⟩, by rw [ht]; exact hC.2.2.2⟩, hC.2.2.1.F ht⟩) hC.2.2.1.2.2 dX7_endList_175
  replace hf := (if_neg c24).symm.trans hf
  by_cases c29 : (CS.o (CS.setI p4.2 50 (CS.o p4.2 x1 3)) x1 0) = 216
  ·
    replace hf := (if_pos c29).symm.trans hf
    refine lv_tableIn (off := 67) (tgt := 160) hx hb dX7_endList_93 (by rw [c29]; decide) (by rw [c29]; decide) (by rw [c29]; decide) (by decide) ?_
    refine lv_aload_n hx hb dX7_endList_160 rfl (lv_at hl 0 rfl) ?_
    refine lv_aload_n hx hb dX7_endList_161 rfl (lv_at hl 1 rfl) ?_
    obtain ⟨p30, hcp30, hf⟩ := hf_bind hf
    have mo31 : CS.hs p4.2 ≤ CS.hs p30.2 := Mono.go hcp30 (m_X7_endFinally N (CS.setI p4.2 50 (CS.o p4.2 x1 3)) x1)
    have hr9 : CS.hs p30.2 ≤ CS.hs R.2 := Mono.go hf (mono_some (Nat.le_refl _))
    have hFc := cFree hC hA
    refine va_callv (va_runV (As := [.ref x1]) (rest := []) ⟨hx, hb, hml, hown, hts⟩ (c_X7_endFinally l dC dI Q N (CS.setI p4.2 50 (CS.o p4.2 x1 3)) x1 p30 hcp30) (cwV 1 hts hX7_endList_X7_endFinally_v384 rfl rfl rfl (by decide +kernel) ⟨(show 3 + 1 ≤ 5 by omega), (show 8 + (2 + 11) + 60 * 3 ≤ 60 * 5 by omega)⟩) ⟨zPre.blind, va_recv hK hC.1 (ci := 6) (q0 := 3) rfl rfl, cPre_go hZ hK hC⟩ rfl rfl hl.1 rfl (lv_room (Nat.le_of_ble_eq_true rfl)) dX7_endList_162 (cAcc h7 mo31 hr9)) hC.2.2.1 (fun q _ h => hFc q h) hFc (fun u9 t9 H1 locs ht hvm hw hB hz1 hk1 hS => ?_)
    obtain ⟨⟨hP, hK1, hD1⟩, hsz1⟩ := hB
    rw [ht] at hP hsz1
    have hC : CP dC dI Q A s.heap p30.2 H1 locs := ⟨hP, hD1.weaken (fun _ _ _ h => hFc _ h), hS, hsz1⟩
    generalize H1 = H at hC ⊢
    have h33 : z9h ≤ CS.hs p30.2 := Nat.le_trans h7 mo31
    refine W.widen (k := CS.hs p30.2 - z9h) (n := 17 * (CS.hs p30.2 - z9h)) (cAcc2 h7 mo31) (cAcc3 h7 mo31) ?_
    refine lv_goto (tgt := 175) hx hb dX7_endList_165 (by decide) ?_
    obtain rfl := Option.some.inj hf
    exact W.vret hx hb hr (fun t ht hW => ⟨⟨(), rfl, trivial, ⟨by rw [ht]; exact hC.1, va_K.moved hW.alike hK, hC.2.1⟩, by rw [ht]; exact hC.2.2.2⟩, hC.2.2.1.F ht⟩) hC.2.2.1.2.2 dX7_endList_175
  replace hf := (if_neg c29).symm.trans hf
  by_cases c34 : (CS.o (CS.setI p4.2 50 (CS.o p4.2 x1 3)) x1 0) = 217
  ·
    replace hf := (if_pos c34).symm.trans hf
    refine lv_tableIn (off := 75) (tgt := 168) hx hb dX7_endList_93 (by rw [c34]; decide) (by rw [c34]; decide) (by rw [c34]; decide) (by decide) ?_
    refine lv_aload_n hx hb dX7_endList_168 rfl (lv_at hl 0 rfl) ?_
    refine cG_35 hx hb hts i_X7_endList_X7 hown hK hC (hts (.fieldLink RX7 14 "StatementRules2$Statements" "opens" "LStatementRules2$Opens;") k_X7_endList_fieldLink_RX7_14_SR_Statements_opens_LSR_Opens) (fun _ q9 => q9) dX7_endList_169 ?_
    obtain ⟨p35, hcp35, hf⟩ := hf_bind hf
    have mo36 : CS.hs p4.2 ≤ CS.hs p35.2 := Mono.go hcp35 (m_X6_pop N (CS.setI p4.2 50 (CS.o p4.2 x1 3)))
    have hr9 : CS.hs p35.2 ≤ CS.hs R.2 := Mono.go hf (mono_some (Nat.le_refl _))
    have hFc := cFree hC hA
    refine va_callv (va_runV (As := []) (rest := []) ⟨hx, hb, hml, hown, hts⟩ (c_X6_pop l dC dI Q N (CS.setI p4.2 50 (CS.o p4.2 x1 3)) p35 hcp35) (cwV 0 hts hX7_endList_X6_pop_v369 rfl rfl rfl (by decide +kernel) ⟨(show 1 + 1 ≤ 5 by omega), (show 8 + (1 + 11) + 60 * 1 ≤ 60 * 5 by omega)⟩) ⟨zPre.blind, va_recv hK hC.1 (ci := 5) (q0 := 6) rfl rfl, cPre_go hZ hK hC⟩ rfl rfl hl.1 rfl (lv_room (Nat.le_of_ble_eq_true rfl)) dX7_endList_172 (cAcc h7 mo36 hr9)) hC.2.2.1 (fun q _ h => hFc q h) hFc (fun u9 t9 H1 locs ht hvm hw hB hz1 hk1 hS => ?_)
    obtain ⟨⟨hP, hK1, hD1⟩, hsz1⟩ := hB
    rw [ht] at hP hsz1
    have hC : CP dC dI Q A s.heap p35.2 H1 locs := ⟨hP, hD1.weaken (fun _ _ _ h => hFc _ h), hS, hsz1⟩
    generalize H1 = H at hC ⊢
    have h38 : z9h ≤ CS.hs p35.2 := Nat.le_trans h7 mo36
    refine W.widen (k := CS.hs p35.2 - z9h) (n := 17 * (CS.hs p35.2 - z9h)) (cAcc2 h7 mo36) (cAcc3 h7 mo36) ?_
    obtain rfl := Option.some.inj hf
    exact W.vret hx hb hr (fun t ht hW => ⟨⟨(), rfl, trivial, ⟨by rw [ht]; exact hC.1, va_K.moved hW.alike hK, hC.2.1⟩, by rw [ht]; exact hC.2.2.2⟩, hC.2.2.1.F ht⟩) hC.2.2.1.2.2 dX7_endList_175
  replace hf := (if_neg c34).symm.trans hf
  by_cases c39 : (CS.o (CS.setI p4.2 50 (CS.o p4.2 x1 3)) x1 0) = 218
  ·
    replace hf := (if_pos c39).symm.trans hf
    refine lv_tableIn (off := 51) (tgt := 144) hx hb dX7_endList_93 (by rw [c39]; decide) (by rw [c39]; decide) (by rw [c39]; decide) (by decide) ?_
    refine lv_aload_n hx hb dX7_endList_144 rfl (lv_at hl 0 rfl) ?_
    refine lv_aload_n hx hb dX7_endList_145 rfl (lv_at hl 1 rfl) ?_
    obtain ⟨p40, hcp40, hf⟩ := hf_bind hf
    have mo41 : CS.hs p4.2 ≤ CS.hs p40.2 := Mono.go hcp40 (m_X7_endSwitch N (CS.setI p4.2 50 (CS.o p4.2 x1 3)) x1)
    have hr9 : CS.hs p40.2 ≤ CS.hs R.2 := Mono.go hf (mono_some (Nat.le_refl _))
    have hFc := cFree hC hA
    refine va_callv (va_runV (As := [.ref x1]) (rest := []) ⟨hx, hb, hml, hown, hts⟩ (c_X7_endSwitch l dC dI Q N (CS.setI p4.2 50 (CS.o p4.2 x1 3)) x1 p40 hcp40) (cwV 1 hts hX7_endList_X7_endSwitch_v378 rfl rfl rfl (by decide +kernel) ⟨(show 4 + 1 ≤ 5 by omega), (show 8 + (2 + 11) + 60 * 4 ≤ 60 * 5 by omega)⟩) ⟨zPre.blind, va_recv hK hC.1 (ci := 6) (q0 := 3) rfl rfl, cPre_go hZ hK hC⟩ rfl rfl hl.1 rfl (lv_room (Nat.le_of_ble_eq_true rfl)) dX7_endList_146 (cAcc h7 mo41 hr9)) hC.2.2.1 (fun q _ h => hFc q h) hFc (fun u9 t9 H1 locs ht hvm hw hB hz1 hk1 hS => ?_)
    obtain ⟨⟨hP, hK1, hD1⟩, hsz1⟩ := hB
    rw [ht] at hP hsz1
    have hC : CP dC dI Q A s.heap p40.2 H1 locs := ⟨hP, hD1.weaken (fun _ _ _ h => hFc _ h), hS, hsz1⟩
    generalize H1 = H at hC ⊢
    have h43 : z9h ≤ CS.hs p40.2 := Nat.le_trans h7 mo41
    refine W.widen (k := CS.hs p40.2 - z9h) (n := 17 * (CS.hs p40.2 - z9h)) (cAcc2 h7 mo41) (cAcc3 h7 mo41) ?_
    refine lv_goto (tgt := 175) hx hb dX7_endList_149 (by decide) ?_
    obtain rfl := Option.some.inj hf
    exact W.vret hx hb hr (fun t ht hW => ⟨⟨(), rfl, trivial, ⟨by rw [ht]; exact hC.1, va_K.moved hW.alike hK, hC.2.1⟩, by rw [ht]; exact hC.2.2.2⟩, hC.2.2.1.F ht⟩) hC.2.2.1.2.2 dX7_endList_175
  replace hf := (if_neg c39).symm.trans hf
  refine lv_tableOut (tgt := 168) hx hb dX7_endList_93 (by have := z_ton (a := 212) c9 (by decide); have := z_ton (a := 213) c14 (by decide); have := z_ton (a := 214) c19 (by decide); have := z_ton (a := 215) c24 (by decide); have := z_ton (a := 216) c29 (by decide); have := z_ton (a := 217) c34 (by decide); have := z_ton (a := 218) c39 (by decide); omega) (by decide) ?_
  refine lv_aload_n hx hb dX7_endList_168 rfl (lv_at hl 0 rfl) ?_
  refine cG_35 hx hb hts i_X7_endList_X7 hown hK hC (hts (.fieldLink RX7 14 "StatementRules2$Statements" "opens" "LStatementRules2$Opens;") k_X7_endList_fieldLink_RX7_14_SR_Statements_opens_LSR_Opens) (fun _ q9 => q9) dX7_endList_169 ?_
  obtain ⟨p44, hcp44, hf⟩ := hf_bind hf
  have mo45 : CS.hs p4.2 ≤ CS.hs p44.2 := Mono.go hcp44 (m_X6_pop N (CS.setI p4.2 50 (CS.o p4.2 x1 3)))
  have hr9 : CS.hs p44.2 ≤ CS.hs R.2 := Mono.go hf (mono_some (Nat.le_refl _))
  have hFc := cFree hC hA
  refine va_callv (va_runV (As := []) (rest := []) ⟨hx, hb, hml, hown, hts⟩ (c_X6_pop l dC dI Q N (CS.setI p4.2 50 (CS.o p4.2 x1 3)) p44 hcp44) (cwV 0 hts hX7_endList_X6_pop_v369 rfl rfl rfl (by decide +kernel) ⟨(show 1 + 1 ≤ 5 by omega), (show 8 + (1 + 11) + 60 * 1 ≤ 60 * 5 by omega)⟩) ⟨zPre.blind, va_recv hK hC.1 (ci := 5) (q0 := 6) rfl rfl, cPre_go hZ hK hC⟩ rfl rfl hl.1 rfl (lv_room (Nat.le_of_ble_eq_true rfl)) dX7_endList_172 (cAcc h7 mo45 hr9)) hC.2.2.1 (fun q _ h => hFc q h) hFc (fun u9 t9 H1 locs ht hvm hw hB hz1 hk1 hS => ?_)
  obtain ⟨⟨hP, hK1, hD1⟩, hsz1⟩ := hB
  rw [ht] at hP hsz1
  have hC : CP dC dI Q A s.heap p44.2 H1 locs := ⟨hP, hD1.weaken (fun _ _ _ h => hFc _ h), hS, hsz1⟩
  generalize H1 = H at hC ⊢
  have h47 : z9h ≤ CS.hs p44.2 := Nat.le_trans h7 mo45
  refine W.widen (k := CS.hs p44.2 - z9h) (n := 17 * (CS.hs p44.2 - z9h)) (cAcc2 h7 mo45) (cAcc3 h7 mo45) ?_
  obtain rfl := Option.some.inj hf
  exact W.vret hx hb hr (fun t ht hW => ⟨⟨(), rfl, trivial, ⟨by rw [ht]; exact hC.1, va_K.moved hW.alike hK, hC.2.1⟩, by rw [ht]; exact hC.2.2.2⟩, hC.2.2.1.F ht⟩) hC.2.2.1.2.2 dX7_endList_175
set_option maxHeartbeats 4000000 in
set_option maxRecDepth 100000 in
theorem c_X7_endList (l : Launch) (dC : Nat → ClassId) (dI : Nat → Nat → Nat) (Q : CQ) (N : Nat) (σ : CS) (x1 : Nat) (R : Unit × CS) (hf : f_X7_endList N σ x1 = some R) : Met l yX7_endList wzX7_endList ({ frames := 5, cells := CS.hs R.2 - CS.hs σ, slots := 17 * (CS.hs R.2 - CS.hs σ), locals := 60 * 5 }) (va_Pc [.ref (Q.o 3), .ref x1] (zPre dC dI (CS.hs σ) (cW Q σ) (cT Q))) (va_Qv (fun (_ : Unit) => True) (fun (_ : Unit) (t : State) => zPost dC dI (va_A (cW Q σ) (CS.hs σ)) (cW Q R.2) (cT Q) t ∧ t.heap.size = CS.hs R.2) (va_A (cW Q σ) (CS.hs σ))) (CS.hs R.2 - CS.hs σ) (17 * (CS.hs R.2 - CS.hs σ)) (va_A (cW Q σ) (CS.hs σ)) := by
  refine Met.ofW (cc := cX7_endList) (maxL := 2) (ret := none) (by decide) rfl ?_
  intro p e s m args below meth c s₁ B hml hv
  obtain ⟨rfl, hsz, hZ, hP, hK, hD0⟩ := hv
  have hx := B.exec
  have hb := B.bytes
  have hr := B.returns
  have hts := atoms_spec (ws := wzX7_endList) B.pre
  have hown : s.vm.findClass RX7 = some m.cls := findClass_of_methodNamed B.named
  have hlocks := B.notSynchronized
  have hD := hD0.self (sz := CS.hs σ)
  generalize hAe : va_A (cW Q σ) (CS.hs σ) = A at hD ⊢
  have hA : ∀ q : Nat, s.heap.size ≤ q → A q := fun q h => by rw [← hAe]; exact Or.inr (hsz ▸ h)
  have hC : CP dC dI Q A s.heap σ s.heap [] := ⟨hP, hD, va_S.rf, hsz⟩
  have h0 : CS.hs σ ≤ CS.hs σ := Nat.le_refl _
  have hl := lv_entry ([.ref (Q.o 3), .ref x1]) (n := 2) (Nat.le_of_ble_eq_true rfl)
  rw [lg_entry_eq]
  generalize (lg_sl ([.ref (Q.o 3), .ref x1]) ++ List.replicate (2 - (lg_sl ([.ref (Q.o 3), .ref x1])).length) Slot.unset).toArray = ls at hl ⊢
  have hl : lv_has ls 2 [(0, .ref (Q.o 3)), (1, .ref x1)] := hl
  unfold f_X7_endList at hf
  refine W.widen (k := CS.hs σ - CS.hs σ) (n := 17 * (CS.hs σ - CS.hs σ)) (Nat.zero_le _) (Nat.zero_le _) ?_
  refine lv_aload_n hx hb dX7_endList_0 rfl (lv_at hl 1 rfl) ?_
  obtain ⟨b1, hf⟩ := hf_ite hf
  refine pGN_X5_0 (v := (CS.o σ x1 0)) hx hb hts i_X7_endList_X5 hown hK hC (va_Nw.use rfl (hZ.1 (.fieldLinkNest RX7 107 "StatementRules2$Open" "sort" "I" "StatementRules2") (by decide +kernel))) (fun _ q9 => q9) dX7_endList_1 b1 rfl ?_
  refine lv_sipush (v := 300) hx hb dX7_endList_4 (by decide) ?_
  refine lv_icmp_ne (tgt := 44) hx hb dX7_endList_7 (by decide) (fun c2 => ?_) (fun c2 => ?_)
  ·
    replace hf := (if_neg c2).symm.trans hf
    refine lv_aload_n hx hb dX7_endList_44 rfl (lv_at hl 1 rfl) ?_
    refine pGN_X5_0 (v := (CS.o σ x1 0)) hx hb hts i_X7_endList_X5 hown hK hC (va_Nw.use rfl (hZ.1 (.fieldLinkNest RX7 107 "StatementRules2$Open" "sort" "I" "StatementRules2") (by decide +kernel))) (fun _ q9 => q9) dX7_endList_45 b1 rfl ?_
    refine lv_sipush (v := 302) hx hb dX7_endList_48 (by decide) ?_
    refine lv_icmp_ne (tgt := 72) hx hb dX7_endList_51 (by decide) (fun c3 => ?_) (fun c3 => ?_)
    ·
      replace hf := (if_neg c3).symm.trans hf
      exact j_X7_endList_72 l dC dI Q N (CS.hs σ) R hx hb hr hml hown hts hlocks hZ hA hK σ x1 _ _ _ hf h0 hC (lv_sub hl [0, 1] rfl)
    ·
      replace hf := (if_pos c3).symm.trans hf
      refine lv_aload_n hx hb dX7_endList_54 rfl (lv_at hl 0 rfl) ?_
      refine cG_36 (v := (σ.i 36)) hx hb hts i_X7_endList_X7 hown hK hC (hts (.fieldLink RX7 61 "StatementRules2$Statements" "alive" "Z") k_X7_endList_fieldLink_RX7_61_SR_Statements_alive_Z) (fun _ q9 => q9) dX7_endList_55 rfl ?_
      refine lv_if_eq (tgt := 72) hx hb dX7_endList_58 (by decide) (fun c48 => ?_) (fun c48 => ?_)
      ·
        replace hf := (if_pos c48).symm.trans hf
        exact j_X7_endList_72 l dC dI Q N (CS.hs σ) R hx hb hr hml hown hts hlocks hZ hA hK σ x1 _ _ _ hf h0 hC (lv_sub hl [0, 1] rfl)
      ·
        replace hf := (if_neg c48).symm.trans hf
        refine lv_aload_n hx hb dX7_endList_61 rfl (lv_at hl 0 rfl) ?_
        refine lv_aload_n hx hb dX7_endList_62 rfl (lv_at hl 0 rfl) ?_
        refine cG_28 hx hb hts i_X7_endList_X7 hown hK hC (hts (.fieldLink RX7 71 "StatementRules2$Statements" "tokens" "LStatementRules2$Tokens;") k_X7_endList_fieldLink_RX7_71_SR_Statements_tokens_LSR_Tokens) (fun x9 q9 => u_same (hts (.sameField "StatementRules2$Statements" "StatementRules2$Formulas" "tokens" "LStatementRules2$Tokens;") k_X7_endList_sameField_SR_Statements_SR_Formulas_tokens_LSR_Tokens) x9 q9) dX7_endList_63 ?_
        refine cGN_44 (v := (σ.i 44)) hx hb hts i_X7_endList_X9 hown hK hC (va_Nw.use rfl (hZ.1 (.fieldLinkNest RX7 143 "StatementRules2$Tokens" "place" "I" "StatementRules2") (by decide +kernel))) (fun _ q9 => q9) dX7_endList_66 rfl ?_
        obtain ⟨p49, hcp49, hf⟩ := hf_bind hf
        have mo50 : CS.hs σ ≤ CS.hs p49.2 := Mono.go hcp49 (m_X7_notReached N σ (σ.i 44))
        have hr9 : CS.hs p49.2 ≤ CS.hs R.2 := Mono.go hf (m_X7_endList_72 N p49.2 x1)
        have hFc := cFree hC hA
        refine va_callv (va_runV (As := [.int (σ.i 44)]) (rest := []) ⟨hx, hb, hml, hown, hts⟩ (c_X7_notReached l dC dI Q N σ (σ.i 44) p49 hcp49) (cwV 1 hts hX7_endList_X7_notReached_v164 rfl rfl rfl (by decide +kernel) ⟨(show 1 + 1 ≤ 5 by omega), (show 8 + (2 + 11) + 60 * 1 ≤ 60 * 5 by omega)⟩) ⟨zPre.blind, va_recv hK hC.1 (ci := 6) (q0 := 3) rfl rfl, cPre_go hZ hK hC⟩ rfl rfl hl.1 rfl (lv_room (Nat.le_of_ble_eq_true rfl)) dX7_endList_69 (cAcc h0 mo50 hr9)) hC.2.2.1 (fun q _ h => hFc q h) hFc (fun u9 t9 H1 locs ht hvm hw hB hz1 hk1 hS => ?_)
        obtain ⟨⟨hP, hK1, hD1⟩, hsz1⟩ := hB
        rw [ht] at hP hsz1
        have hC : CP dC dI Q A s.heap p49.2 H1 locs := ⟨hP, hD1.weaken (fun _ _ _ h => hFc _ h), hS, hsz1⟩
        generalize H1 = H at hC ⊢
        have h52 : (CS.hs σ) ≤ CS.hs p49.2 := Nat.le_trans h0 mo50
        refine W.widen (k := CS.hs p49.2 - (CS.hs σ)) (n := 17 * (CS.hs p49.2 - (CS.hs σ))) (cAcc2 h0 mo50) (cAcc3 h0 mo50) ?_
        exact j_X7_endList_72 l dC dI Q N (CS.hs σ) R hx hb hr hml hown hts hlocks hZ hA hK p49.2 x1 _ _ _ hf h52 hC (lv_sub hl [0, 1] rfl)
  ·
    replace hf := (if_pos c2).symm.trans hf
    refine lv_aload_n hx hb dX7_endList_10 rfl (lv_at hl 0 rfl) ?_
    refine lv_iconst (v := 0) hx hb dX7_endList_11 (by decide) ?_
    obtain ⟨p53, hcp53, hf⟩ := hf_bind hf
    have mo54 : CS.hs σ ≤ CS.hs p53.2 := Mono.go hcp53 (m_X1_expect N σ 0)
    have hr9 : CS.hs p53.2 ≤ CS.hs R.2 := Mono.go hf (mono_ite (mono_bind (m_X0_add N (CS.setI p53.2 27 (p53.2.i 36)) 50 0) (fun p58 => (mono_bind (m_X6_pop N p58.2) (fun p62 => (mono_some (Nat.le_refl _)))))) mono_none)
    have hFc := cFree hC hA
    refine va_callv (va_runU (As := [.int 0]) (rest := []) ⟨hx, hb, hml, hown, hts⟩ (c_X1_expect l dC dI Q N σ 0 p53 hcp53) (va_cwU 1 hts hX7_endList_X1_expect_u155 rfl rfl rfl rfl (by decide +kernel) ⟨(show 4 + 1 ≤ 5 by omega), (show 8 + (2 + 11) + 60 * 4 ≤ 60 * 5 by omega)⟩) ⟨zPre.blind, va_recv hK hC.1 (ci := 6) (q0 := 3) rfl rfl, cPre_go hZ hK hC⟩ rfl rfl hl.1 rfl (lv_room (Nat.le_of_ble_eq_true rfl)) dX7_endList_12 (cAcc h0 mo54 hr9)) hC.2.2.1 (fun q _ h => hFc q h) hFc (fun u9 t9 H1 locs ht hvm hw hB hz1 hk1 hS => ?_)
    obtain ⟨⟨hP, hK1, hD1⟩, hsz1⟩ := hB
    rw [ht] at hP hsz1
    have hC : CP dC dI Q A s.heap p53.2 H1 locs := ⟨hP, hD1.weaken (fun _ _ _ h => hFc _ h), hS, hsz1⟩
    generalize H1 = H at hC ⊢
    have h56 : (CS.hs σ) ≤ CS.hs p53.2 := Nat.le_trans h0 mo54
    refine W.widen (k := CS.hs p53.2 - (CS.hs σ)) (n := 17 * (CS.hs p53.2 - (CS.hs σ))) (cAcc2 h0 mo54) (cAcc3 h0 mo54) ?_
    refine lv_aload_n hx hb dX7_endList_15 rfl (lv_at hl 0 rfl) ?_
    refine cG_29 hx hb hts i_X7_endList_X7 hown hK hC (hts (.fieldLink RX7 20 "StatementRules2$Statements" "code" "LStatementRules2$Code;") k_X7_endList_fieldLink_RX7_20_SR_Statements_code_LSR_Code) (fun x9 q9 => u_same (hts (.sameField "StatementRules2$Statements" "StatementRules2$Formulas" "code" "LStatementRules2$Code;") k_X7_endList_sameField_SR_Statements_SR_Formulas_code_LSR_Code) x9 q9) dX7_endList_16 ?_
    refine lv_aload_n hx hb dX7_endList_19 rfl (lv_at hl 0 rfl) ?_
    refine cG_36 (v := (p53.2.i 36)) hx hb hts i_X7_endList_X7 hown hK hC (hts (.fieldLink RX7 61 "StatementRules2$Statements" "alive" "Z") k_X7_endList_fieldLink_RX7_61_SR_Statements_alive_Z) (fun _ q9 => q9) dX7_endList_20 rfl ?_
    obtain ⟨b57, hf⟩ := hf_ite hf
    refine cPN_27 (v := (p53.2.i 36)) hx hb hts i_X7_endList_X0 hown hK hC (va_Nw.use rfl (hZ.1 (.fieldLinkNest RX7 372 "StatementRules2$Code" "endReached" "Z" "StatementRules2") (by decide +kernel))) (fun _ q9 => q9) dX7_endList_23 b57 (fun H locs hC => ?_)
    refine lv_aload_n hx hb dX7_endList_26 rfl (lv_at hl 0 rfl) ?_
    refine cG_29 hx hb hts i_X7_endList_X7 hown hK hC (hts (.fieldLink RX7 20 "StatementRules2$Statements" "code" "LStatementRules2$Code;") k_X7_endList_fieldLink_RX7_20_SR_Statements_code_LSR_Code) (fun x9 q9 => u_same (hts (.sameField "StatementRules2$Statements" "StatementRules2$Formulas" "code" "LStatementRules2$Code;") k_X7_endList_sameField_SR_Statements_SR_Formulas_code_LSR_Code) x9 q9) dX7_endList_27 ?_
    refine lv_bipush (v := 50) hx hb dX7_endList_30 (by decide) ?_
    refine lv_iconst (v := 0) hx hb dX7_endList_32 (by decide) ?_
    obtain ⟨p58, hcp58, hf⟩ := hf_bind hf
    have mo59 : CS.hs p53.2 ≤ CS.hs p58.2 := Mono.go hcp58 (m_X0_add N (CS.setI p53.2 27 (p53.2.i 36)) 50 0)
    have hr9 : CS.hs p58.2 ≤ CS.hs R.2 := Mono.go hf (mono_bind (m_X6_pop N p58.2) (fun p62 => (mono_some (Nat.le_refl _))))
    have hFc := cFree hC hA
    refine va_callv (va_runV (As := [.int 50, .int 0]) (rest := []) ⟨hx, hb, hml, hown, hts⟩ (c_X0_add l dC dI Q N (CS.setI p53.2 27 (p53.2.i 36)) 50 0 p58 hcp58) (cwV 2 hts hX7_endList_X0_add_v176 rfl rfl rfl (by decide +kernel) ⟨(show 2 + 1 ≤ 5 by omega), (show 8 + (3 + 11) + 60 * 2 ≤ 60 * 5 by omega)⟩) ⟨zPre.blind, va_recv hK hC.1 (ci := 0) (q0 := 2) rfl rfl, cPre_go hZ hK hC⟩ rfl rfl hl.1 rfl (lv_room (Nat.le_of_ble_eq_true rfl)) dX7_endList_33 (cAcc h56 mo59 hr9)) hC.2.2.1 (fun q _ h => hFc q h) hFc (fun u9 t9 H1 locs ht hvm hw hB hz1 hk1 hS => ?_)
    obtain ⟨⟨hP, hK1, hD1⟩, hsz1⟩ := hB
    rw [ht] at hP hsz1
    have hC : CP dC dI Q A s.heap p58.2 H1 locs := ⟨hP, hD1.weaken (fun _ _ _ h => hFc _ h), hS, hsz1⟩
    generalize H1 = H at hC ⊢
    have h61 : (CS.hs σ) ≤ CS.hs p58.2 := Nat.le_trans h56 mo59
    refine W.widen (k := CS.hs p58.2 - (CS.hs σ)) (n := 17 * (CS.hs p58.2 - (CS.hs σ))) (cAcc2 h56 mo59) (cAcc3 h56 mo59) ?_
    refine lv_aload_n hx hb dX7_endList_36 rfl (lv_at hl 0 rfl) ?_
    refine cG_35 hx hb hts i_X7_endList_X7 hown hK hC (hts (.fieldLink RX7 14 "StatementRules2$Statements" "opens" "LStatementRules2$Opens;") k_X7_endList_fieldLink_RX7_14_SR_Statements_opens_LSR_Opens) (fun _ q9 => q9) dX7_endList_37 ?_
    obtain ⟨p62, hcp62, hf⟩ := hf_bind hf
    have mo63 : CS.hs p58.2 ≤ CS.hs p62.2 := Mono.go hcp62 (m_X6_pop N p58.2)
    have hr9 : CS.hs p62.2 ≤ CS.hs R.2 := Mono.go hf (mono_some (Nat.le_refl _))
    have hFc := cFree hC hA
    refine va_callv (va_runV (As := []) (rest := []) ⟨hx, hb, hml, hown, hts⟩ (c_X6_pop l dC dI Q N p58.2 p62 hcp62) (cwV 0 hts hX7_endList_X6_pop_v369 rfl rfl rfl (by decide +kernel) ⟨(show 1 + 1 ≤ 5 by omega), (show 8 + (1 + 11) + 60 * 1 ≤ 60 * 5 by omega)⟩) ⟨zPre.blind, va_recv hK hC.1 (ci := 5) (q0 := 6) rfl rfl, cPre_go hZ hK hC⟩ rfl rfl hl.1 rfl (lv_room (Nat.le_of_ble_eq_true rfl)) dX7_endList_40 (cAcc h61 mo63 hr9)) hC.2.2.1 (fun q _ h => hFc q h) hFc (fun u9 t9 H1 locs ht hvm hw hB hz1 hk1 hS => ?_)
    obtain ⟨⟨hP, hK1, hD1⟩, hsz1⟩ := hB
    rw [ht] at hP hsz1
    have hC : CP dC dI Q A s.heap p62.2 H1 locs := ⟨hP, hD1.weaken (fun _ _ _ h => hFc _ h), hS, hsz1⟩
    generalize H1 = H at hC ⊢
    have h65 : (CS.hs σ) ≤ CS.hs p62.2 := Nat.le_trans h61 mo63
    refine W.widen (k := CS.hs p62.2 - (CS.hs σ)) (n := 17 * (CS.hs p62.2 - (CS.hs σ))) (cAcc2 h61 mo63) (cAcc3 h61 mo63) ?_
    obtain rfl := Option.some.inj hf
    exact W.vret hx hb hr (fun t ht hW => ⟨⟨(), rfl, trivial, ⟨by rw [ht]; exact hC.1, va_K.moved hW.alike hK, hC.2.1⟩, by rw [ht]; exact hC.2.2.2⟩, hC.2.2.1.F ht⟩) hC.2.2.1.2.2 dX7_endList_43
