theorem i_X7_beginFinally_X5 : ∀ w ∈ wsX50, w ∈ wzX7_beginFinally := fun _ h => List.mem_cons_of_mem _ (List.mem_append_right _ (List.mem_append_left _ (h)))
theorem k_X7_beginFinally_fieldLink_RX7_14_SR_Statements_opens_LSR_Opens : Cond.fieldLink RX7 14 "StatementRules2$Statements" "opens" "LStatementRules2$Opens;" ∈ wzX7_beginFinally := List.mem_cons_of_mem _ (List.mem_append_left _ (List.mem_of_getElem? (i := 0) rfl))
theorem i_X7_beginFinally_X7 : ∀ w ∈ wsX70, w ∈ wzX7_beginFinally := fun _ h => List.mem_cons_of_mem _ (List.mem_append_right _ (List.mem_append_right _ (List.mem_append_left _ (h))))
theorem i_X7_beginFinally_X6 : ∀ w ∈ wsX60, w ∈ wzX7_beginFinally := fun _ h => List.mem_cons_of_mem _ (List.mem_append_right _ (List.mem_append_right _ (List.mem_append_right _ (List.mem_append_left _ (h)))))
theorem k_X7_beginFinally_fieldLink_RX7_71_SR_Statements_tokens_LSR_Tokens : Cond.fieldLink RX7 71 "StatementRules2$Statements" "tokens" "LStatementRules2$Tokens;" ∈ wzX7_beginFinally := List.mem_cons_of_mem _ (List.mem_append_left _ (List.mem_of_getElem? (i := 1) rfl))
theorem k_X7_beginFinally_sameField_SR_Statements_SR_Formulas_tokens_LSR_Tokens : Cond.sameField "StatementRules2$Statements" "StatementRules2$Formulas" "tokens" "LStatementRules2$Tokens;" ∈ wzX7_beginFinally := List.mem_cons_of_mem _ (List.mem_append_left _ (List.mem_of_getElem? (i := 2) rfl))
theorem k_X7_beginFinally_fieldLink_RX7_20_SR_Statements_code_LSR_Code : Cond.fieldLink RX7 20 "StatementRules2$Statements" "code" "LStatementRules2$Code;" ∈ wzX7_beginFinally := List.mem_cons_of_mem _ (List.mem_append_left _ (List.mem_of_getElem? (i := 3) rfl))
theorem k_X7_beginFinally_sameField_SR_Statements_SR_Formulas_code_LSR_Code : Cond.sameField "StatementRules2$Statements" "StatementRules2$Formulas" "code" "LStatementRules2$Code;" ∈ wzX7_beginFinally := List.mem_cons_of_mem _ (List.mem_append_left _ (List.mem_of_getElem? (i := 4) rfl))
theorem k_X7_beginFinally_fieldLink_RX7_61_SR_Statements_alive_Z : Cond.fieldLink RX7 61 "StatementRules2$Statements" "alive" "Z" ∈ wzX7_beginFinally := List.mem_cons_of_mem _ (List.mem_append_left _ (List.mem_of_getElem? (i := 5) rfl))
set_option maxHeartbeats 4000000 in
set_option maxRecDepth 100000 in
theorem c_X7_beginFinally (l : Launch) (dC : Nat → ClassId) (dI : Nat → Nat → Nat) (Q : CQ) (N : Nat) (σ : CS) (x1 : Nat) (R : Unit × CS) (hf : f_X7_beginFinally N σ x1 = some R) : Met l yX7_beginFinally wzX7_beginFinally ({ frames := 5, cells := CS.hs R.2 - CS.hs σ, slots := 17 * (CS.hs R.2 - CS.hs σ), locals := 60 * 5 }) (va_Pc [.ref (Q.o 3), .ref x1] (zPre dC dI (CS.hs σ) (cW Q σ) (cT Q))) (va_Qv (fun (_ : Unit) => True) (fun (_ : Unit) (t : State) => zPost dC dI (va_A (cW Q σ) (CS.hs σ)) (cW Q R.2) (cT Q) t ∧ t.heap.size = CS.hs R.2) (va_A (cW Q σ) (CS.hs σ))) (CS.hs R.2 - CS.hs σ) (17 * (CS.hs R.2 - CS.hs σ)) (va_A (cW Q σ) (CS.hs σ)) := by
  refine Met.ofW (cc := cX7_beginFinally) (maxL := 2) (ret := none) (by decide) rfl ?_
  intro p e s m args below meth c s₁ B hml hv
  obtain ⟨rfl, hsz, hZ, hP, hK, hD0⟩ := hv
  have hx := B.exec
  have hb := B.bytes
  have hr := B.returns
  have hts := atoms_spec (ws := wzX7_beginFinally) B.pre
  have hown : s.vm.findClass RX7 = some m.cls := findClass_of_methodNamed B.named
  have hlocks := B.notSynchronized
  have hD := hD0.self (sz := CS.hs σ)
  generalize hAe : va_A (cW Q σ) (CS.hs σ) = A at hD ⊢
  have hA : ∀ q : Nat, s.heap.size ≤ q → A q := fun q h => by rw [← hAe]; exact Or.inr (hsz ▸ h)
  have hC : CP dC dI Q A s.heap σ s.heap [] := ⟨hP, hD, va_S.rf, hsz⟩
  have h0 : CS.hs σ ≤ CS.hs σ := Nat.le_refl _
  have hl := lv_entry ([.ref (Q.o 3), .ref x1]) (n := 2) (Nat.le_of_ble_eq_true rfl)
  rw [lg_entry_eq]
  generalize (lg_sl ([.ref (Q.o 3), .ref x1]) ++ List.replicate (2 - (lg_sl ([.ref (Q.o 3), .ref x1])).length) Slot.unset).toArray = ls at hl ⊢
  have hl : lv_has ls 2 [(0, .ref (Q.o 3)), (1, .ref x1)] := hl
  unfold f_X7_beginFinally at hf
  refine W.widen (k := CS.hs σ - CS.hs σ) (n := 17 * (CS.hs σ - CS.hs σ)) (Nat.zero_le _) (Nat.zero_le _) ?_
  refine lv_aload_n hx hb dX7_beginFinally_0 rfl (lv_at hl 1 rfl) ?_
  refine lv_sipush (v := 216) hx hb dX7_beginFinally_1 (by decide) ?_
  obtain ⟨b1, hf⟩ := hf_ite hf
  refine pPN_X5_0 (v := 216) hx hb hts i_X7_beginFinally_X5 hown hK hC (va_Nw.use rfl (hZ.1 (.fieldLinkNest RX7 107 "StatementRules2$Open" "sort" "I" "StatementRules2") (by decide +kernel))) (fun _ q9 => q9) dX7_beginFinally_4 b1 (fun H locs hC => ?_)
  refine lv_aload_n hx hb dX7_beginFinally_7 rfl (lv_at hl 1 rfl) ?_
  refine lv_aload_n hx hb dX7_beginFinally_8 rfl (lv_at hl 0 rfl) ?_
  refine cG_35 hx hb hts i_X7_beginFinally_X7 hown hK hC (hts (.fieldLink RX7 14 "StatementRules2$Statements" "opens" "LStatementRules2$Opens;") k_X7_beginFinally_fieldLink_RX7_14_SR_Statements_opens_LSR_Opens) (fun _ q9 => q9) dX7_beginFinally_9 ?_
  refine cGN_55 (v := (σ.i 55)) hx hb hts i_X7_beginFinally_X6 hown hK hC (va_Nw.use rfl (hZ.1 (.fieldLinkNest RX7 401 "StatementRules2$Opens" "jumpCount" "I" "StatementRules2") (by decide +kernel))) (fun _ q9 => q9) dX7_beginFinally_12 rfl ?_
  refine pPN_X5_15 (v := (σ.i 55)) hx hb hts i_X7_beginFinally_X5 hown hK hC (va_Nw.use rfl (hZ.1 (.fieldLinkNest RX7 404 "StatementRules2$Open" "finallyJump" "I" "StatementRules2") (by decide +kernel))) (fun _ q9 => q9) dX7_beginFinally_15 b1 (fun H locs hC => ?_)
  refine lv_aload_n hx hb dX7_beginFinally_18 rfl (lv_at hl 0 rfl) ?_
  refine cG_28 hx hb hts i_X7_beginFinally_X7 hown hK hC (hts (.fieldLink RX7 71 "StatementRules2$Statements" "tokens" "LStatementRules2$Tokens;") k_X7_beginFinally_fieldLink_RX7_71_SR_Statements_tokens_LSR_Tokens) (fun x9 q9 => u_same (hts (.sameField "StatementRules2$Statements" "StatementRules2$Formulas" "tokens" "LStatementRules2$Tokens;") k_X7_beginFinally_sameField_SR_Statements_SR_Formulas_tokens_LSR_Tokens) x9 q9) dX7_beginFinally_19 ?_
  obtain ⟨p2, hcp2, hf⟩ := hf_bind hf
  have hm3 : CS.hs σ ≤ CS.hs p2.2 := Mono.go hcp2 (m_X9_advance N (CS.setO (CS.setO σ x1 0 216) x1 15 (σ.i 55)))
  have hr9 : CS.hs p2.2 ≤ CS.hs R.2 := Mono.go hf (mono_bind (m_X1_open N p2.2 123) (fun p6 => (mono_bind (m_X0_add N p6.2 58 0) (fun p10 => (mono_ite (mono_bind (m_X0_aim N p10.2 (CS.o p10.2 x1 11)) (fun p15 => (mono_some (Nat.le_refl _)))) mono_none)))))
  have hFc := cFree hC hA
  refine va_callv (va_runV (As := []) (rest := []) ⟨hx, hb, hml, hown, hts⟩ (c_X9_advance l dC dI Q N (CS.setO (CS.setO σ x1 0 216) x1 15 (σ.i 55)) p2 hcp2) (cwV 0 hts hX7_beginFinally_X9_advance_v146 rfl rfl rfl (by decide +kernel) ⟨(show 3 + 1 ≤ 5 by omega), (show 8 + (2 + 11) + 60 * 3 ≤ 60 * 5 by omega)⟩) ⟨zPre.blind, va_recv hK hC.1 (ci := 8) (q0 := 4) rfl rfl, cPre_go hZ hK hC⟩ rfl rfl hl.1 rfl (lv_room (Nat.le_of_ble_eq_true rfl)) dX7_beginFinally_22 (cAcc h0 hm3 hr9)) hC.2.2.1 (fun q _ h => hFc q h) hFc (fun u9 t9 H1 locs ht hvm hw hB hz1 hk1 hS => ?_)
  obtain ⟨⟨hP, hK1, hD1⟩, hsz1⟩ := hB
  rw [ht] at hP hsz1
  have hC : CP dC dI Q A s.heap p2.2 H1 locs := ⟨hP, hD1.weaken (fun _ _ _ h => hFc _ h), hS, hsz1⟩
  generalize H1 = H at hC ⊢
  have h5 : (CS.hs σ) ≤ CS.hs p2.2 := Nat.le_trans h0 hm3
  refine W.widen (k := CS.hs p2.2 - (CS.hs σ)) (n := 17 * (CS.hs p2.2 - (CS.hs σ))) (cAcc2 h0 hm3) (cAcc3 h0 hm3) ?_
  refine lv_aload_n hx hb dX7_beginFinally_25 rfl (lv_at hl 0 rfl) ?_
  refine lv_bipush (v := 123) hx hb dX7_beginFinally_26 (by decide) ?_
  obtain ⟨p6, hcp6, hf⟩ := hf_bind hf
  have hm7 : CS.hs p2.2 ≤ CS.hs p6.2 := Mono.go hcp6 (m_X1_open N p2.2 123)
  have hr9 : CS.hs p6.2 ≤ CS.hs R.2 := Mono.go hf (mono_bind (m_X0_add N p6.2 58 0) (fun p10 => (mono_ite (mono_bind (m_X0_aim N p10.2 (CS.o p10.2 x1 11)) (fun p15 => (mono_some (Nat.le_refl _)))) mono_none)))
  have hFc := cFree hC hA
  refine va_callv (va_runU (As := [.int 123]) (rest := []) ⟨hx, hb, hml, hown, hts⟩ (c_X1_open l dC dI Q N p2.2 123 p6 hcp6) (va_cwU 1 hts hX7_beginFinally_X1_open_u173 rfl rfl rfl rfl (by decide +kernel) ⟨(show 4 + 1 ≤ 5 by omega), (show 8 + (2 + 11) + 60 * 4 ≤ 60 * 5 by omega)⟩) ⟨zPre.blind, va_recv hK hC.1 (ci := 6) (q0 := 3) rfl rfl, cPre_go hZ hK hC⟩ rfl rfl hl.1 rfl (lv_room (Nat.le_of_ble_eq_true rfl)) dX7_beginFinally_28 (cAcc h5 hm7 hr9)) hC.2.2.1 (fun q _ h => hFc q h) hFc (fun u9 t9 H1 locs ht hvm hw hB hz1 hk1 hS => ?_)
  obtain ⟨⟨hP, hK1, hD1⟩, hsz1⟩ := hB
  rw [ht] at hP hsz1
  have hC : CP dC dI Q A s.heap p6.2 H1 locs := ⟨hP, hD1.weaken (fun _ _ _ h => hFc _ h), hS, hsz1⟩
  generalize H1 = H at hC ⊢
  have h9 : (CS.hs σ) ≤ CS.hs p6.2 := Nat.le_trans h5 hm7
  refine W.widen (k := CS.hs p6.2 - (CS.hs σ)) (n := 17 * (CS.hs p6.2 - (CS.hs σ))) (cAcc2 h5 hm7) (cAcc3 h5 hm7) ?_
  refine lv_aload_n hx hb dX7_beginFinally_31 rfl (lv_at hl 0 rfl) ?_
  refine cG_29 hx hb hts i_X7_beginFinally_X7 hown hK hC (hts (.fieldLink RX7 20 "StatementRules2$Statements" "code" "LStatementRules2$Code;") k_X7_beginFinally_fieldLink_RX7_20_SR_Statements_code_LSR_Code) (fun x9 q9 => u_same (hts (.sameField "StatementRules2$Statements" "StatementRules2$Formulas" "code" "LStatementRules2$Code;") k_X7_beginFinally_sameField_SR_Statements_SR_Formulas_code_LSR_Code) x9 q9) dX7_beginFinally_32 ?_
  refine lv_bipush (v := 58) hx hb dX7_beginFinally_35 (by decide) ?_
  refine lv_iconst (v := 0) hx hb dX7_beginFinally_37 (by decide) ?_
  obtain ⟨p10, hcp10, hf⟩ := hf_bind hf
  have hm11 : CS.hs p6.2 ≤ CS.hs p10.2 := Mono.go hcp10 (m_X0_add N p6.2 58 0)
  have hr9 : CS.hs p10.2 ≤ CS.hs R.2 := Mono.go hf (mono_ite (mono_bind (m_X0_aim N p10.2 (CS.o p10.2 x1 11)) (fun p15 => (mono_some (Nat.le_refl _)))) mono_none)
  have hFc := cFree hC hA
  refine va_callv (va_runV (As := [.int 58, .int 0]) (rest := []) ⟨hx, hb, hml, hown, hts⟩ (c_X0_add l dC dI Q N p6.2 58 0 p10 hcp10) (cwV 2 hts hX7_beginFinally_X0_add_v176 rfl rfl rfl (by decide +kernel) ⟨(show 2 + 1 ≤ 5 by omega), (show 8 + (3 + 11) + 60 * 2 ≤ 60 * 5 by omega)⟩) ⟨zPre.blind, va_recv hK hC.1 (ci := 0) (q0 := 2) rfl rfl, cPre_go hZ hK hC⟩ rfl rfl hl.1 rfl (lv_room (Nat.le_of_ble_eq_true rfl)) dX7_beginFinally_38 (cAcc h9 hm11 hr9)) hC.2.2.1 (fun q _ h => hFc q h) hFc (fun u9 t9 H1 locs ht hvm hw hB hz1 hk1 hS => ?_)
  obtain ⟨⟨hP, hK1, hD1⟩, hsz1⟩ := hB
  rw [ht] at hP hsz1
  have hC : CP dC dI Q A s.heap p10.2 H1 locs := ⟨hP, hD1.weaken (fun _ _ _ h => hFc _ h), hS, hsz1⟩
  generalize H1 = H at hC ⊢
  have h13 : (CS.hs σ) ≤ CS.hs p10.2 := Nat.le_trans h9 hm11
  refine W.widen (k := CS.hs p10.2 - (CS.hs σ)) (n := 17 * (CS.hs p10.2 - (CS.hs σ))) (cAcc2 h9 hm11) (cAcc3 h9 hm11) ?_
  refine lv_aload_n hx hb dX7_beginFinally_41 rfl (lv_at hl 0 rfl) ?_
  refine cG_29 hx hb hts i_X7_beginFinally_X7 hown hK hC (hts (.fieldLink RX7 20 "StatementRules2$Statements" "code" "LStatementRules2$Code;") k_X7_beginFinally_fieldLink_RX7_20_SR_Statements_code_LSR_Code) (fun x9 q9 => u_same (hts (.sameField "StatementRules2$Statements" "StatementRules2$Formulas" "code" "LStatementRules2$Code;") k_X7_beginFinally_sameField_SR_Statements_SR_Formulas_code_LSR_Code) x9 q9) dX7_beginFinally_42 ?_
  refine lv_aload_n hx hb dX7_beginFinally_45 rfl (lv_at hl 1 rfl) ?_
  obtain ⟨b14, hf⟩ := hf_ite hf
  refine pGN_X5_11 (v := (CS.o p10.2 x1 11)) hx hb hts i_X7_beginFinally_X5 hown hK hC (va_Nw.use rfl (hZ.1 (.fieldLinkNest RX7 140 "StatementRules2$Open" "other" "I" "StatementRules2") (by decide +kernel))) (fun _ q9 => q9) dX7_beginFinally_46 b14 rfl ?_
  obtain ⟨p15, hcp15, hf⟩ := hf_bind hf
  have hm16 : CS.hs p10.2 ≤ CS.hs p15.2 := Mono.go hcp15 (m_X0_aim N p10.2 (CS.o p10.2 x1 11))
  have hr9 : CS.hs p15.2 ≤ CS.hs R.2 := Mono.go hf (mono_some (Nat.le_refl _))
  have hFc := cFree hC hA
  refine va_callv (va_runV (As := [.int (CS.o p10.2 x1 11)]) (rest := []) ⟨hx, hb, hml, hown, hts⟩ (c_X0_aim l dC dI Q N p10.2 (CS.o p10.2 x1 11) p15 hcp15) (cwV 1 hts hX7_beginFinally_X0_aim_v158 rfl rfl rfl (by decide +kernel) ⟨(show 2 + 1 ≤ 5 by omega), (show 8 + (2 + 11) + 60 * 2 ≤ 60 * 5 by omega)⟩) ⟨zPre.blind, va_recv hK hC.1 (ci := 0) (q0 := 2) rfl rfl, cPre_go hZ hK hC⟩ rfl rfl hl.1 rfl (lv_room (Nat.le_of_ble_eq_true rfl)) dX7_beginFinally_49 (cAcc h13 hm16 hr9)) hC.2.2.1 (fun q _ h => hFc q h) hFc (fun u9 t9 H1 locs ht hvm hw hB hz1 hk1 hS => ?_)
  obtain ⟨⟨hP, hK1, hD1⟩, hsz1⟩ := hB
  rw [ht] at hP hsz1
  have hC : CP dC dI Q A s.heap p15.2 H1 locs := ⟨hP, hD1.weaken (fun _ _ _ h => hFc _ h), hS, hsz1⟩
  generalize H1 = H at hC ⊢
  have h18 : (CS.hs σ) ≤ CS.hs p15.2 := Nat.le_trans h13 hm16
  refine W.widen (k := CS.hs p15.2 - (CS.hs σ)) (n := 17 * (CS.hs p15.2 - (CS.hs σ))) (cAcc2 h13 hm16) (cAcc3 h13 hm16) ?_
  refine lv_aload_n hx hb dX7_beginFinally_52 rfl (lv_at hl 0 rfl) ?_
  refine lv_iconst (v := 1) hx hb dX7_beginFinally_53 (by decide) ?_
  refine cP_36 (v := 1) hx hb hts i_X7_beginFinally_X7 hown hK hC (hts (.fieldLink RX7 61 "StatementRules2$Statements" "alive" "Z") k_X7_beginFinally_fieldLink_RX7_61_SR_Statements_alive_Z) (fun _ q9 => q9) dX7_beginFinally_54 (by decide) (fun H locs hC => ?_)
  obtain rfl := Option.some.inj hf
  exact W.vret hx hb hr (fun t ht hW => ⟨⟨(), rfl, trivial, ⟨by rw [ht]; exact hC.1, va_K.moved hW.alike hK, hC.2.1⟩, by rw [ht]; exact hC.2.2.2⟩, hC.2.2.1.F ht⟩) hC.2.2.1.2.2 dX7_beginFinally_57
theorem k_X9_start_fieldLink_RX9_31_SR_Tokens_length_I : Cond.fieldLink RX9 31 "StatementRules2$Tokens" "length" "I" ∈ wzX9_start := List.mem_cons_of_mem _ (List.mem_append_left _ (List.mem_of_getElem? (i := 0) rfl))
theorem i_X9_start_X9 : ∀ w ∈ wsX90, w ∈ wzX9_start := fun _ h => List.mem_cons_of_mem _ (List.mem_append_right _ (List.mem_append_left _ (h)))
theorem k_X9_start_fieldLink_RX9_34_SR_Tokens_next_I : Cond.fieldLink RX9 34 "StatementRules2$Tokens" "next" "I" ∈ wzX9_start := List.mem_cons_of_mem _ (List.mem_append_left _ (List.mem_of_getElem? (i := 1) rfl))
set_option maxHeartbeats 4000000 in
set_option maxRecDepth 100000 in
theorem c_X9_start (l : Launch) (dC : Nat → ClassId) (dI : Nat → Nat → Nat) (Q : CQ) (N : Nat) (σ : CS) (x1 : Int32) (R : Unit × CS) (hf : f_X9_start N σ x1 = some R) : Met l yX9_start wzX9_start ({ frames := 4, cells := CS.hs R.2 - CS.hs σ, slots := 17 * (CS.hs R.2 - CS.hs σ), locals := 60 * 4 }) (va_Pc [.ref (Q.o 4), .int x1] (zPre dC dI (CS.hs σ) (cW Q σ) (cT Q))) (va_Qv (fun (_ : Unit) => True) (fun (_ : Unit) (t : State) => zPost dC dI (va_A (cW Q σ) (CS.hs σ)) (cW Q R.2) (cT Q) t ∧ t.heap.size = CS.hs R.2) (va_A (cW Q σ) (CS.hs σ))) (CS.hs R.2 - CS.hs σ) (17 * (CS.hs R.2 - CS.hs σ)) (va_A (cW Q σ) (CS.hs σ)) := by
  refine Met.ofW (cc := cX9_start) (maxL := 2) (ret := none) (by decide) rfl ?_
  intro p e s m args below meth c s₁ B hml hv
  obtain ⟨rfl, hsz, hZ, hP, hK, hD0⟩ := hv
  have hx := B.exec
  have hb := B.bytes
  have hr := B.returns
  have hts := atoms_spec (ws := wzX9_start) B.pre
  have hown : s.vm.findClass RX9 = some m.cls := findClass_of_methodNamed B.named
  have hlocks := B.notSynchronized
  have hD := hD0.self (sz := CS.hs σ)
  generalize hAe : va_A (cW Q σ) (CS.hs σ) = A at hD ⊢
  have hA : ∀ q : Nat, s.heap.size ≤ q → A q := fun q h => by rw [← hAe]; exact Or.inr (hsz ▸ h)
  have hC : CP dC dI Q A s.heap σ s.heap [] := ⟨hP, hD, va_S.rf, hsz⟩
  have h0 : CS.hs σ ≤ CS.hs σ := Nat.le_refl _
  have hl := lv_entry ([.ref (Q.o 4), .int x1]) (n := 2) (Nat.le_of_ble_eq_true rfl)
  rw [lg_entry_eq]
  generalize (lg_sl ([.ref (Q.o 4), .int x1]) ++ List.replicate (2 - (lg_sl ([.ref (Q.o 4), .int x1])).length) Slot.unset).toArray = ls at hl ⊢
  have hl : lv_has ls 2 [(0, .ref (Q.o 4)), (1, .int x1)] := hl
  unfold f_X9_start at hf
  refine W.widen (k := CS.hs σ - CS.hs σ) (n := 17 * (CS.hs σ - CS.hs σ)) (Nat.zero_le _) (Nat.zero_le _) ?_
  refine lv_aload_n hx hb dX9_start_0 rfl (lv_at hl 0 rfl) ?_
  refine lv_iload_n hx hb dX9_start_1 rfl (lv_at hl 1 rfl) ?_
  refine cP_41 (v := x1) hx hb hts i_X9_start_X9 hown hK hC (hts (.fieldLink RX9 31 "StatementRules2$Tokens" "length" "I") k_X9_start_fieldLink_RX9_31_SR_Tokens_length_I) (fun _ q9 => q9) dX9_start_2 (fun H locs hC => ?_)
  refine lv_aload_n hx hb dX9_start_5 rfl (lv_at hl 0 rfl) ?_
  refine lv_iconst (v := 0) hx hb dX9_start_6 (by decide) ?_
  refine cP_42 (v := 0) hx hb hts i_X9_start_X9 hown hK hC (hts (.fieldLink RX9 34 "StatementRules2$Tokens" "next" "I") k_X9_start_fieldLink_RX9_34_SR_Tokens_next_I) (fun _ q9 => q9) dX9_start_7 (fun H locs hC => ?_)
  refine lv_aload_n hx hb dX9_start_10 rfl (lv_at hl 0 rfl) ?_
  obtain ⟨p1, hcp1, hf⟩ := hf_bind hf
  have hm2 : CS.hs σ ≤ CS.hs p1.2 := Mono.go hcp1 (m_X9_advance N (CS.setI (CS.setI σ 41 x1) 42 0))
  have hr9 : CS.hs p1.2 ≤ CS.hs R.2 := Mono.go hf (mono_some (Nat.le_refl _))
  have hFc := cFree hC hA
  refine va_callv (va_runV (As := []) (rest := []) ⟨hx, hb, hml, hown, hts⟩ (c_X9_advance l dC dI Q N (CS.setI (CS.setI σ 41 x1) 42 0) p1 hcp1) (cwV 0 hts hX9_start_X9_advance_v37 rfl rfl rfl (by decide +kernel) ⟨(show 3 + 1 ≤ 4 by omega), (show 8 + (2 + 11) + 60 * 3 ≤ 60 * 4 by omega)⟩) ⟨zPre.blind, va_recv hK hC.1 (ci := 8) (q0 := 4) rfl rfl, cPre_go hZ hK hC⟩ rfl rfl hl.1 rfl (lv_room (Nat.le_of_ble_eq_true rfl)) dX9_start_11 (cAcc h0 hm2 hr9)) hC.2.2.1 (fun q _ h => hFc q h) hFc (fun u9 t9 H1 locs ht hvm hw hB hz1 hk1 hS => ?_)
  obtain ⟨⟨hP, hK1, hD1⟩, hsz1⟩ := hB
  rw [ht] at hP hsz1
  have hC : CP dC dI Q A s.heap p1.2 H1 locs := ⟨hP, hD1.weaken (fun _ _ _ h => hFc _ h), hS, hsz1⟩
  generalize H1 = H at hC ⊢
  have h4 : (CS.hs σ) ≤ CS.hs p1.2 := Nat.le_trans h0 hm2
  refine W.widen (k := CS.hs p1.2 - (CS.hs σ)) (n := 17 * (CS.hs p1.2 - (CS.hs σ))) (cAcc2 h0 hm2) (cAcc3 h0 hm2) ?_
  obtain rfl := Option.some.inj hf
  exact W.vret hx hb hr (fun t ht hW => ⟨⟨(), rfl, trivial, ⟨by rw [ht]; exact hC.1, va_K.moved hW.alike hK, hC.2.1⟩, by rw [ht]; exact hC.2.2.2⟩, hC.2.2.1.F ht⟩) hC.2.2.1.2.2 dX9_start_14
theorem k_X10_isFull_fieldLink_RX10_24_SR_Told_kindCount_I : Cond.fieldLink RX10 24 "StatementRules2$Told" "kindCount" "I" ∈ wzX10_isFull := List.mem_cons_of_mem _ (List.mem_append_left _ (List.mem_of_getElem? (i := 0) rfl))
theorem i_X10_isFull_X10 : ∀ w ∈ wsX100, w ∈ wzX10_isFull := fun _ h => List.mem_cons_of_mem _ (List.mem_append_right _ (List.mem_append_left _ (h)))
set_option maxHeartbeats 4000000 in
set_option maxRecDepth 100000 in
theorem c_X10_isFull (l : Launch) (dC : Nat → ClassId) (dI : Nat → Nat → Nat) (Q : CQ) (N : Nat) (σ : CS) (R : Int32 × CS) (hf : f_X10_isFull N σ = some R) : Met l yX10_isFull wzX10_isFull ({ frames := 1, cells := CS.hs R.2 - CS.hs σ, slots := 17 * (CS.hs R.2 - CS.hs σ), locals := 60 * 1 }) (va_Pc [.ref (Q.o 1)] (zPre dC dI (CS.hs σ) (cW Q σ) (cT Q))) (va_Qi (fun (r : Int32) (_ : Unit) => r = R.1) (fun (_ : Unit) (t : State) => zPost dC dI (va_A (cW Q σ) (CS.hs σ)) (cW Q R.2) (cT Q) t ∧ t.heap.size = CS.hs R.2) (va_A (cW Q σ) (CS.hs σ))) (CS.hs R.2 - CS.hs σ) (17 * (CS.hs R.2 - CS.hs σ)) (va_A (cW Q σ) (CS.hs σ)) := by
  refine Met.ofW (cc := cX10_isFull) (maxL := 1) (ret := (some .boolean)) (by decide) rfl ?_
  intro p e s m args below meth c s₁ B hml hv
  obtain ⟨rfl, hsz, hZ, hP, hK, hD0⟩ := hv
  have hx := B.exec
  have hb := B.bytes
  have hr := B.returns
  have hts := atoms_spec (ws := wzX10_isFull) B.pre
  have hown : s.vm.findClass RX10 = some m.cls := findClass_of_methodNamed B.named
  have hlocks := B.notSynchronized
  have hD := hD0.self (sz := CS.hs σ)
  generalize hAe : va_A (cW Q σ) (CS.hs σ) = A at hD ⊢
  have hA : ∀ q : Nat, s.heap.size ≤ q → A q := fun q h => by rw [← hAe]; exact Or.inr (hsz ▸ h)
  have hC : CP dC dI Q A s.heap σ s.heap [] := ⟨hP, hD, va_S.rf, hsz⟩
  have h0 : CS.hs σ ≤ CS.hs σ := Nat.le_refl _
  have hl := lv_entry ([.ref (Q.o 1)]) (n := 1) (Nat.le_of_ble_eq_true rfl)
  rw [lg_entry_eq]
  generalize (lg_sl ([.ref (Q.o 1)]) ++ List.replicate (1 - (lg_sl ([.ref (Q.o 1)])).length) Slot.unset).toArray = ls at hl ⊢
  have hl : lv_has ls 1 [(0, .ref (Q.o 1))] := hl
  unfold f_X10_isFull at hf
  refine W.widen (k := CS.hs σ - CS.hs σ) (n := 17 * (CS.hs σ - CS.hs σ)) (Nat.zero_le _) (Nat.zero_le _) ?_
  refine lv_aload_n hx hb dX10_isFull_0 rfl (lv_at hl 0 rfl) ?_
  refine cG_13 (v := (σ.i 13)) hx hb hts i_X10_isFull_X10 hown hK hC (hts (.fieldLink RX10 24 "StatementRules2$Told" "kindCount" "I") k_X10_isFull_fieldLink_RX10_24_SR_Told_kindCount_I) (fun _ q9 => q9) dX10_isFull_1 rfl ?_
  refine lv_bipush (v := 12) hx hb dX10_isFull_4 (by decide) ?_
  refine lv_icmp_lt (tgt := 13) hx hb dX10_isFull_6 (by decide) (fun c1 => ?_) (fun c1 => ?_)
  ·
    replace hf := (if_pos c1).symm.trans hf
    refine lv_iconst (v := 0) hx hb dX10_isFull_13 (by decide) ?_
    obtain rfl := Option.some.inj hf
    exact W.zret (v := 0) hx hb hr (rfl) (fun t ht hW => ⟨⟨0, (), rfl, rfl, ⟨by rw [ht]; exact hC.1, va_K.moved hW.alike hK, hC.2.1⟩, by rw [ht]; exact hC.2.2.2⟩, hC.2.2.1.F ht⟩) hC.2.2.1.2.2 dX10_isFull_14
  ·
    replace hf := (if_neg c1).symm.trans hf
    refine lv_iconst (v := 1) hx hb dX10_isFull_9 (by decide) ?_
    refine lv_goto (tgt := 14) hx hb dX10_isFull_10 (by decide) ?_
    obtain rfl := Option.some.inj hf
    exact W.zret (v := 1) hx hb hr (rfl) (fun t ht hW => ⟨⟨1, (), rfl, rfl, ⟨by rw [ht]; exact hC.1, va_K.moved hW.alike hK, hC.2.1⟩, by rw [ht]; exact hC.2.2.2⟩, hC.2.2.1.F ht⟩) hC.2.2.1.2.2 dX10_isFull_14
theorem k_X10_addKind_fieldLink_RX10_9_SR_Told_above_I : Cond.fieldLink RX10 9 "StatementRules2$Told" "above" "[I" ∈ wzX10_addKind := List.mem_cons_of_mem _ (List.mem_append_left _ (List.mem_of_getElem? (i := 0) rfl))
theorem i_X10_addKind_X10 : ∀ w ∈ wsX100, w ∈ wzX10_addKind := fun _ h => List.mem_cons_of_mem _ (List.mem_append_right _ (List.mem_append_left _ (h)))
theorem k_X10_addKind_fieldLink_RX10_24_SR_Told_kindCount_I : Cond.fieldLink RX10 24 "StatementRules2$Told" "kindCount" "I" ∈ wzX10_addKind := List.mem_cons_of_mem _ (List.mem_append_left _ (List.mem_of_getElem? (i := 1) rfl))
theorem k_X10_addKind_initialized_RX11 : Cond.initialized RX11 ∈ wzX10_addKind := List.mem_cons_of_mem _ (List.mem_append_left _ (List.mem_of_getElem? (i := 2) rfl))
theorem k_X10_addKind_static_yX11_put : Cond.static yX11_put ∈ wzX10_addKind := List.mem_cons_of_mem _ (List.mem_append_left _ (List.mem_of_getElem? (i := 3) rfl))
set_option maxHeartbeats 4000000 in
set_option maxRecDepth 100000 in
theorem c_X10_addKind (l : Launch) (dC : Nat → ClassId) (dI : Nat → Nat → Nat) (Q : CQ) (N : Nat) (σ : CS) (x1 : Int32) (R : Int32 × CS) (hf : f_X10_addKind N σ x1 = some R) : Met l yX10_addKind wzX10_addKind ({ frames := 2, cells := CS.hs R.2 - CS.hs σ, slots := 17 * (CS.hs R.2 - CS.hs σ), locals := 60 * 2 }) (va_Pc [.ref (Q.o 1), .int x1] (zPre dC dI (CS.hs σ) (cW Q σ) (cT Q))) (va_Qi (fun (r : Int32) (_ : Unit) => r = R.1) (fun (_ : Unit) (t : State) => zPost dC dI (va_A (cW Q σ) (CS.hs σ)) (cW Q R.2) (cT Q) t ∧ t.heap.size = CS.hs R.2) (va_A (cW Q σ) (CS.hs σ))) (CS.hs R.2 - CS.hs σ) (17 * (CS.hs R.2 - CS.hs σ)) (va_A (cW Q σ) (CS.hs σ)) := by
  refine Met.ofW (cc := cX10_addKind) (maxL := 2) (ret := (some .int)) (by decide) rfl ?_
  intro p e s m args below meth c s₁ B hml hv
  obtain ⟨rfl, hsz, hZ, hP, hK, hD0⟩ := hv
  have hx := B.exec
  have hb := B.bytes
  have hr := B.returns
  have hts := atoms_spec (ws := wzX10_addKind) B.pre
  have hown : s.vm.findClass RX10 = some m.cls := findClass_of_methodNamed B.named
  have hlocks := B.notSynchronized
  have hD := hD0.self (sz := CS.hs σ)
  generalize hAe : va_A (cW Q σ) (CS.hs σ) = A at hD ⊢
  have hA : ∀ q : Nat, s.heap.size ≤ q → A q := fun q h => by rw [← hAe]; exact Or.inr (hsz ▸ h)
  have hC : CP dC dI Q A s.heap σ s.heap [] := ⟨hP, hD, va_S.rf, hsz⟩
  have h0 : CS.hs σ ≤ CS.hs σ := Nat.le_refl _
  have hl := lv_entry ([.ref (Q.o 1), .int x1]) (n := 2) (Nat.le_of_ble_eq_true rfl)
  rw [lg_entry_eq]
  generalize (lg_sl ([.ref (Q.o 1), .int x1]) ++ List.replicate (2 - (lg_sl ([.ref (Q.o 1), .int x1])).length) Slot.unset).toArray = ls at hl ⊢
  have hl : lv_has ls 2 [(0, .ref (Q.o 1)), (1, .int x1)] := hl
  unfold f_X10_addKind at hf
  refine W.widen (k := CS.hs σ - CS.hs σ) (n := 17 * (CS.hs σ - CS.hs σ)) (Nat.zero_le _) (Nat.zero_le _) ?_
  refine lv_aload_n hx hb dX10_addKind_0 rfl (lv_at hl 0 rfl) ?_
  refine cG_9 hx hb hts i_X10_addKind_X10 hown hK hC (hts (.fieldLink RX10 9 "StatementRules2$Told" "above" "[I") k_X10_addKind_fieldLink_RX10_9_SR_Told_above_I) (fun _ q9 => q9) dX10_addKind_1 ?_
  refine lv_aload_n hx hb dX10_addKind_4 rfl (lv_at hl 0 rfl) ?_
  refine cG_13 (v := (σ.i 13)) hx hb hts i_X10_addKind_X10 hown hK hC (hts (.fieldLink RX10 24 "StatementRules2$Told" "kindCount" "I") k_X10_addKind_fieldLink_RX10_24_SR_Told_kindCount_I) (fun _ q9 => q9) dX10_addKind_5 rfl ?_
  refine lv_iload_n hx hb dX10_addKind_8 rfl (lv_at hl 1 rfl) ?_
  have he9 := (show (cW Q σ)[9]? = some (Q.q 9, .inl (Q.c 0, 12, .inl (σ.a 9))) from rfl)
  have hFc := cFree1 hC hA he9
  have hr9 : CS.hs σ ≤ CS.hs R.2 := Mono.go hf (mono_some (Nat.le_refl _))
  refine va_callv (va_runSN (As := [.ref (Q.q 9), .int (σ.i 13), .int x1]) (rest := []) ⟨hx, hb, hml, hown, hts⟩ (c_X11_put l dC dI _ (Q.q 9) (Q.c 0) 12 (σ.a 9) (σ.i 13) x1 (by decide)) ⟨va_cnB 3 hts hX10_addKind_X11_put_n28 rfl rfl rfl (hZ.1 (.methodLinkNest RX10 28 yX11_put "StatementRules2") (by decide +kernel)) (hts (.initialized RX11) k_X10_addKind_initialized_RX11) (by decide +kernel) ⟨(show 1 + 1 ≤ 2 by omega), (show 8 + (3 + 11) + 60 * 1 ≤ 60 * 2 by omega)⟩, (hts (.static yX11_put) k_X10_addKind_static_yX11_put), trivial⟩ ⟨zPre.blind, zPre.go hZ (cOne hC.1 he9) (hK.sub (tys' := [(Q.c 0, .int)]) [0] rfl) (cOneD hC.2.1 he9)⟩ rfl rfl hl.1 rfl (lv_room (Nat.le_of_ble_eq_true rfl)) dX10_addKind_9 ⟨cAcc4 h0 hr9, cAcc5 h0 hr9⟩) hC.2.2.1 (fun q _ h => hFc q h) hFc (fun u9 t9 H1 locs ht hvm hw hB hz1 hk1 hS => ?_)
  obtain ⟨⟨hP1, hK1, hD1⟩, hsz1⟩ := hB
  rw [ht] at hP1 hsz1
  have hC := cBack (σ' := CS.putA σ 9 (gPut (σ.a 9) 12 (σ.i 13) x1)) hC he9 rfl rfl hk1 hP1 hsz1 hS
  generalize H1 = H at hC ⊢
  refine lv_aload_n hx hb dX10_addKind_12 rfl (lv_at hl 0 rfl) ?_
  refine lv_dup hx hb dX10_addKind_13 rfl ?_
  refine cG_13 (v := (σ.i 13)) hx hb hts i_X10_addKind_X10 hown hK hC (hts (.fieldLink RX10 24 "StatementRules2$Told" "kindCount" "I") k_X10_addKind_fieldLink_RX10_24_SR_Told_kindCount_I) (fun _ q9 => q9) dX10_addKind_14 rfl ?_
  refine lv_iconst (v := 1) hx hb dX10_addKind_17 (by decide) ?_
  refine lv_iadd hx hb dX10_addKind_18 ?_
  refine cP_13 (v := ((σ.i 13) + 1)) hx hb hts i_X10_addKind_X10 hown hK hC (hts (.fieldLink RX10 24 "StatementRules2$Told" "kindCount" "I") k_X10_addKind_fieldLink_RX10_24_SR_Told_kindCount_I) (fun _ q9 => q9) dX10_addKind_19 (fun H locs hC => ?_)
  refine lv_aload_n hx hb dX10_addKind_22 rfl (lv_at hl 0 rfl) ?_
  refine cG_13 (v := ((σ.i 13) + 1)) hx hb hts i_X10_addKind_X10 hown hK hC (hts (.fieldLink RX10 24 "StatementRules2$Told" "kindCount" "I") k_X10_addKind_fieldLink_RX10_24_SR_Told_kindCount_I) (fun _ q9 => q9) dX10_addKind_23 rfl ?_
  refine lv_iconst (v := 1) hx hb dX10_addKind_26 (by decide) ?_
  refine lv_isub hx hb dX10_addKind_27 ?_
  obtain rfl := Option.some.inj hf
  exact W.iret (v := (((σ.i 13) + 1) - 1)) hx hb hr (fun t ht hW => ⟨⟨(((σ.i 13) + 1) - 1), (), rfl, rfl, ⟨by rw [ht]; exact hC.1, va_K.moved hW.alike hK, hC.2.1⟩, by rw [ht]; exact hC.2.2.2⟩, hC.2.2.1.F ht⟩) hC.2.2.1.2.2 dX10_addKind_28
theorem k_X10_tellResource_fieldLink_RX10_15_SR_Told_isNull_I : Cond.fieldLink RX10 15 "StatementRules2$Told" "isNull" "[I" ∈ wzX10_tellResource := List.mem_cons_of_mem _ (List.mem_append_left _ (List.mem_of_getElem? (i := 0) rfl))
theorem i_X10_tellResource_X10 : ∀ w ∈ wsX100, w ∈ wzX10_tellResource := fun _ h => List.mem_cons_of_mem _ (List.mem_append_right _ (List.mem_append_left _ (h)))
theorem k_X10_tellResource_initialized_RX11 : Cond.initialized RX11 ∈ wzX10_tellResource := List.mem_cons_of_mem _ (List.mem_append_left _ (List.mem_of_getElem? (i := 1) rfl))
theorem k_X10_tellResource_static_yX11_put : Cond.static yX11_put ∈ wzX10_tellResource := List.mem_cons_of_mem _ (List.mem_append_left _ (List.mem_of_getElem? (i := 2) rfl))
theorem k_X10_tellResource_fieldLink_RX10_18_SR_Told_opening_I : Cond.fieldLink RX10 18 "StatementRules2$Told" "opening" "[I" ∈ wzX10_tellResource := List.mem_cons_of_mem _ (List.mem_append_left _ (List.mem_of_getElem? (i := 3) rfl))
theorem k_X10_tellResource_fieldLink_RX10_21_SR_Told_closing_I : Cond.fieldLink RX10 21 "StatementRules2$Told" "closing" "[I" ∈ wzX10_tellResource := List.mem_cons_of_mem _ (List.mem_append_left _ (List.mem_of_getElem? (i := 4) rfl))
set_option maxHeartbeats 4000000 in
set_option maxRecDepth 100000 in
theorem c_X10_tellResource (l : Launch) (dC : Nat → ClassId) (dI : Nat → Nat → Nat) (Q : CQ) (N : Nat) (σ : CS) (x1 : Int32) (x2 : Int32) (x3 : Int32) (x4 : Int32) (R : Unit × CS) (hf : f_X10_tellResource N σ x1 x2 x3 x4 = some R) : Met l yX10_tellResource wzX10_tellResource ({ frames := 2, cells := CS.hs R.2 - CS.hs σ, slots := 17 * (CS.hs R.2 - CS.hs σ), locals := 60 * 2 }) (va_Pc [.ref (Q.o 1), .int x1, .int x2, .int x3, .int x4] (zPre dC dI (CS.hs σ) (cW Q σ) (cT Q))) (va_Qv (fun (_ : Unit) => True) (fun (_ : Unit) (t : State) => zPost dC dI (va_A (cW Q σ) (CS.hs σ)) (cW Q R.2) (cT Q) t ∧ t.heap.size = CS.hs R.2) (va_A (cW Q σ) (CS.hs σ))) (CS.hs R.2 - CS.hs σ) (17 * (CS.hs R.2 - CS.hs σ)) (va_A (cW Q σ) (CS.hs σ)) := by
  refine Met.ofW (cc := cX10_tellResource) (maxL := 5) (ret := none) (by decide) rfl ?_
  intro p e s m args below meth c s₁ B hml hv
  obtain ⟨rfl, hsz, hZ, hP, hK, hD0⟩ := hv
  have hx := B.exec
  have hb := B.bytes
  have hr := B.returns
  have hts := atoms_spec (ws := wzX10_tellResource) B.pre
  have hown : s.vm.findClass RX10 = some m.cls := findClass_of_methodNamed B.named
  have hlocks := B.notSynchronized
  have hD := hD0.self (sz := CS.hs σ)
  generalize hAe : va_A (cW Q σ) (CS.hs σ) = A at hD ⊢
  have hA : ∀ q : Nat, s.heap.size ≤ q → A q := fun q h => by rw [← hAe]; exact Or.inr (hsz ▸ h)
  have hC : CP dC dI Q A s.heap σ s.heap [] := ⟨hP, hD, va_S.rf, hsz⟩
  have h0 : CS.hs σ ≤ CS.hs σ := Nat.le_refl _
  have hl := lv_entry ([.ref (Q.o 1), .int x1, .int x2, .int x3, .int x4]) (n := 5) (Nat.le_of_ble_eq_true rfl)
  rw [lg_entry_eq]
  generalize (lg_sl ([.ref (Q.o 1), .int x1, .int x2, .int x3, .int x4]) ++ List.replicate (5 - (lg_sl ([.ref (Q.o 1), .int x1, .int x2, .int x3, .int x4])).length) Slot.unset).toArray = ls at hl ⊢
  have hl : lv_has ls 5 [(0, .ref (Q.o 1)), (1, .int x1), (2, .int x2), (3, .int x3), (4, .int x4)] := hl
  unfold f_X10_tellResource at hf
  refine W.widen (k := CS.hs σ - CS.hs σ) (n := 17 * (CS.hs σ - CS.hs σ)) (Nat.zero_le _) (Nat.zero_le _) ?_
  refine lv_aload_n hx hb dX10_tellResource_0 rfl (lv_at hl 0 rfl) ?_
  refine cG_10 hx hb hts i_X10_tellResource_X10 hown hK hC (hts (.fieldLink RX10 15 "StatementRules2$Told" "isNull" "[I") k_X10_tellResource_fieldLink_RX10_15_SR_Told_isNull_I) (fun _ q9 => q9) dX10_tellResource_1 ?_
  refine lv_iload_n hx hb dX10_tellResource_4 rfl (lv_at hl 1 rfl) ?_
  refine lv_iload_n hx hb dX10_tellResource_5 rfl (lv_at hl 2 rfl) ?_
  have he9 := (show (cW Q σ)[10]? = some (Q.q 10, .inl (Q.c 0, 8, .inl (σ.a 10))) from rfl)
  have hFc := cFree1 hC hA he9
  have hr9 : CS.hs σ ≤ CS.hs R.2 := Mono.go hf (mono_some (Nat.le_refl _))
  refine va_callv (va_runSN (As := [.ref (Q.q 10), .int x1, .int x2]) (rest := []) ⟨hx, hb, hml, hown, hts⟩ (c_X11_put l dC dI _ (Q.q 10) (Q.c 0) 8 (σ.a 10) x1 x2 (by decide)) ⟨va_cnB 3 hts hX10_tellResource_X11_put_n28 rfl rfl rfl (hZ.1 (.methodLinkNest RX10 28 yX11_put "StatementRules2") (by decide +kernel)) (hts (.initialized RX11) k_X10_tellResource_initialized_RX11) (by decide +kernel) ⟨(show 1 + 1 ≤ 2 by omega), (show 8 + (3 + 11) + 60 * 1 ≤ 60 * 2 by omega)⟩, (hts (.static yX11_put) k_X10_tellResource_static_yX11_put), trivial⟩ ⟨zPre.blind, zPre.go hZ (cOne hC.1 he9) (hK.sub (tys' := [(Q.c 0, .int)]) [0] rfl) (cOneD hC.2.1 he9)⟩ rfl rfl hl.1 rfl (lv_room (Nat.le_of_ble_eq_true rfl)) dX10_tellResource_6 ⟨cAcc4 h0 hr9, cAcc5 h0 hr9⟩) hC.2.2.1 (fun q _ h => hFc q h) hFc (fun u9 t9 H1 locs ht hvm hw hB hz1 hk1 hS => ?_)
  obtain ⟨⟨hP1, hK1, hD1⟩, hsz1⟩ := hB
  rw [ht] at hP1 hsz1
  have hC := cBack (σ' := CS.putA σ 10 (gPut (σ.a 10) 8 x1 x2)) hC he9 rfl rfl hk1 hP1 hsz1 hS
  generalize H1 = H at hC ⊢
  refine lv_aload_n hx hb dX10_tellResource_9 rfl (lv_at hl 0 rfl) ?_
  refine cG_11 hx hb hts i_X10_tellResource_X10 hown hK hC (hts (.fieldLink RX10 18 "StatementRules2$Told" "opening" "[I") k_X10_tellResource_fieldLink_RX10_18_SR_Told_opening_I) (fun _ q9 => q9) dX10_tellResource_10 ?_
  refine lv_iload_n hx hb dX10_tellResource_13 rfl (lv_at hl 1 rfl) ?_
  refine lv_iload_n hx hb dX10_tellResource_14 rfl (lv_at hl 3 rfl) ?_
  have he9 := (show (cW Q (CS.putA σ 10 (gPut (σ.a 10) 8 x1 x2)))[11]? = some (Q.q 11, .inl (Q.c 0, 8, .inl (σ.a 11))) from rfl)
  have hFc := cFree1 hC hA he9
  have hr9 : CS.hs σ ≤ CS.hs R.2 := Mono.go hf (mono_some (Nat.le_refl _))
  refine va_callv (va_runSN (As := [.ref (Q.q 11), .int x1, .int x3]) (rest := []) ⟨hx, hb, hml, hown, hts⟩ (c_X11_put l dC dI _ (Q.q 11) (Q.c 0) 8 (σ.a 11) x1 x3 (by decide)) ⟨va_cnB 3 hts hX10_tellResource_X11_put_n28 rfl rfl rfl (hZ.1 (.methodLinkNest RX10 28 yX11_put "StatementRules2") (by decide +kernel)) (hts (.initialized RX11) k_X10_tellResource_initialized_RX11) (by decide +kernel) ⟨(show 1 + 1 ≤ 2 by omega), (show 8 + (3 + 11) + 60 * 1 ≤ 60 * 2 by omega)⟩, (hts (.static yX11_put) k_X10_tellResource_static_yX11_put), trivial⟩ ⟨zPre.blind, zPre.go hZ (cOne hC.1 he9) (hK.sub (tys' := [(Q.c 0, .int)]) [0] rfl) (cOneD hC.2.1 he9)⟩ rfl rfl hl.1 rfl (lv_room (Nat.le_of_ble_eq_true rfl)) dX10_tellResource_15 ⟨cAcc4 h0 hr9, cAcc5 h0 hr9⟩) hC.2.2.1 (fun q _ h => hFc q h) hFc (fun u9 t9 H1 locs ht hvm hw hB hz1 hk1 hS => ?_)
  obtain ⟨⟨hP1, hK1, hD1⟩, hsz1⟩ := hB
  rw [ht] at hP1 hsz1
  have hC := cBack (σ' := CS.putA (CS.putA σ 10 (gPut (σ.a 10) 8 x1 x2)) 11 (gPut (σ.a 11) 8 x1 x3)) hC he9 rfl rfl hk1 hP1 hsz1 hS
  generalize H1 = H at hC ⊢
  refine lv_aload_n hx hb dX10_tellResource_18 rfl (lv_at hl 0 rfl) ?_
  refine cG_12 hx hb hts i_X10_tellResource_X10 hown hK hC (hts (.fieldLink RX10 21 "StatementRules2$Told" "closing" "[I") k_X10_tellResource_fieldLink_RX10_21_SR_Told_closing_I) (fun _ q9 => q9) dX10_tellResource_19 ?_
  refine lv_iload_n hx hb dX10_tellResource_22 rfl (lv_at hl 1 rfl) ?_
  refine lv_iload hx hb dX10_tellResource_23 (lv_at hl 4 rfl) ?_
  have he9 := (show (cW Q (CS.putA (CS.putA σ 10 (gPut (σ.a 10) 8 x1 x2)) 11 (gPut (σ.a 11) 8 x1 x3)))[12]? = some (Q.q 12, .inl (Q.c 0, 8, .inl (σ.a 12))) from rfl)
  have hFc := cFree1 hC hA he9
  have hr9 : CS.hs σ ≤ CS.hs R.2 := Mono.go hf (mono_some (Nat.le_refl _))
  refine va_callv (va_runSN (As := [.ref (Q.q 12), .int x1, .int x4]) (rest := []) ⟨hx, hb, hml, hown, hts⟩ (c_X11_put l dC dI _ (Q.q 12) (Q.c 0) 8 (σ.a 12) x1 x4 (by decide)) ⟨va_cnB 3 hts hX10_tellResource_X11_put_n28 rfl rfl rfl (hZ.1 (.methodLinkNest RX10 28 yX11_put "StatementRules2") (by decide +kernel)) (hts (.initialized RX11) k_X10_tellResource_initialized_RX11) (by decide +kernel) ⟨(show 1 + 1 ≤ 2 by omega), (show 8 + (3 + 11) + 60 * 1 ≤ 60 * 2 by omega)⟩, (hts (.static yX11_put) k_X10_tellResource_static_yX11_put), trivial⟩ ⟨zPre.blind, zPre.go hZ (cOne hC.1 he9) (hK.sub (tys' := [(Q.c 0, .int)]) [0] rfl) (cOneD hC.2.1 he9)⟩ rfl rfl hl.1 rfl (lv_room (Nat.le_of_ble_eq_true rfl)) dX10_tellResource_25 ⟨cAcc4 h0 hr9, cAcc5 h0 hr9⟩) hC.2.2.1 (fun q _ h => hFc q h) hFc (fun u9 t9 H1 locs ht hvm hw hB hz1 hk1 hS => ?_)
  obtain ⟨⟨hP1, hK1, hD1⟩, hsz1⟩ := hB
  rw [ht] at hP1 hsz1
  have hC := cBack (σ' := CS.putA (CS.putA (CS.putA σ 10 (gPut (σ.a 10) 8 x1 x2)) 11 (gPut (σ.a 11) 8 x1 x3)) 12 (gPut (σ.a 12) 8 x1 x4)) hC he9 rfl rfl hk1 hP1 hsz1 hS
  generalize H1 = H at hC ⊢
  obtain rfl := Option.some.inj hf
  exact W.vret hx hb hr (fun t ht hW => ⟨⟨(), rfl, trivial, ⟨by rw [ht]; exact hC.1, va_K.moved hW.alike hK, hC.2.1⟩, by rw [ht]; exact hC.2.2.2⟩, hC.2.2.1.F ht⟩) hC.2.2.1.2.2 dX10_tellResource_28
theorem k_X11_addBytes_fieldLink_RX11_9_SR_tape_I : Cond.fieldLink RX11 9 "StatementRules2" "tape" "[I" ∈ wzX11_addBytes := List.mem_cons_of_mem _ (List.mem_append_left _ (List.mem_of_getElem? (i := 0) rfl))
theorem i_X11_addBytes_X11 : ∀ w ∈ wsX110, w ∈ wzX11_addBytes := fun _ h => List.mem_cons_of_mem _ (List.mem_append_right _ (List.mem_append_left _ (h)))
theorem k_X11_addBytes_fieldLink_RX11_50_SR_length_I : Cond.fieldLink RX11 50 "StatementRules2" "length" "I" ∈ wzX11_addBytes := List.mem_cons_of_mem _ (List.mem_append_left _ (List.mem_of_getElem? (i := 1) rfl))
set_option maxHeartbeats 4000000 in
set_option maxRecDepth 100000 in
theorem j_X11_addBytes_3 {p : Program} {e : Env} {s : State} {m : MethodId} {args : Array Value} {below : List Frame} {meth : Method} {c : Code} {A : Nat → Prop} (l : Launch) (dC : Nat → ClassId) (dI : Nat → Nat → Nat) (Q : CQ) (N : Nat) (z9h : Nat) (R : Unit × CS) (hx : p.tables.exec = Jvm.exec) (hb : c.code = cX11_addBytes) (hr : meth.sig.returnType = none) (hml : c.maxLocals = 3) (hown : s.vm.findClass RX11 = some m.cls) (hts : ∀ w ∈ wzX11_addBytes, w.before args s = true) (hlocks : meth.locks = false) (hZ : zAMB s) (hA : ∀ q : Nat, s.heap.size ≤ q → A q) (hK : va_K (dC, dI) vwCl (cT Q) s) : ∀ (n9 : Nat), ∀ (σ : CS) (x1 : Int32) (x2 : Int32) (H : Heap) (locs : List Loc) (ls : Array Slot), f_X11_addBytes_3 N n9 σ x1 x2 = some R → z9h ≤ CS.hs σ → CP dC dI Q A s.heap σ H locs → lv_has ls 3 [(0, .ref (Q.o 0)), (1, .int x1), (2, .int x2)] → W p l e ({ frames := 2, cells := CS.hs R.2 - z9h, slots := 17 * (CS.hs R.2 - z9h), locals := 60 * 2 }) s m args below meth c H locs (CS.hs σ - z9h) (17 * (CS.hs σ - z9h)) (MQ below (va_Qv (fun (_ : Unit) => True) (fun (_ : Unit) (t : State) => zPost dC dI A (cW Q R.2) (cT Q) t ∧ t.heap.size = CS.hs R.2) A) args s (CS.hs R.2 - z9h) (17 * (CS.hs R.2 - z9h)) A) (F0 m 3 ls []) := by
  intro n9
  induction n9 with
  | zero => intro σ x1 x2 H locs ls hf; exact absurd hf (by intro q9; cases q9)
  | succ n9 ih =>
    intro σ x1 x2 H locs ls hf h0 hC hl
    replace hf : b_X11_addBytes_3 N (f_X11_addBytes_3 N n9) σ x1 x2 = some R := hf
    unfold b_X11_addBytes_3 at hf
    have hMK := fun (σ : CS) (x1 : Int32) (x2 : Int32) => m_X11_addBytes_3 N n9 σ x1 x2
    refine lv_iload_n hx hb dX11_addBytes_3 rfl (lv_at hl 2 rfl) ?_
    refine lv_if_lt (tgt := 41) hx hb dX11_addBytes_4 (by decide) (fun c1 => ?_) (fun c1 => ?_)
    ·
      replace hf := (if_pos c1).symm.trans hf
      obtain rfl := Option.some.inj hf
      exact W.vret hx hb hr (fun t ht hW => ⟨⟨(), rfl, trivial, ⟨by rw [ht]; exact hC.1, va_K.moved hW.alike hK, hC.2.1⟩, by rw [ht]; exact hC.2.2.2⟩, hC.2.2.1.F ht⟩) hC.2.2.1.2.2 dX11_addBytes_41
    ·
      replace hf := (if_neg c1).symm.trans hf
      refine lv_aload_n hx hb dX11_addBytes_7 rfl (lv_at hl 0 rfl) ?_
      refine cG_0 hx hb hts i_X11_addBytes_X11 hown hK hC (hts (.fieldLink RX11 9 "StatementRules2" "tape" "[I") k_X11_addBytes_fieldLink_RX11_9_SR_tape_I) (fun _ q9 => q9) dX11_addBytes_8 ?_
      refine lv_aload_n hx hb dX11_addBytes_11 rfl (lv_at hl 0 rfl) ?_
      refine cG_5 (v := (σ.i 5)) hx hb hts i_X11_addBytes_X11 hown hK hC (hts (.fieldLink RX11 50 "StatementRules2" "length" "I") k_X11_addBytes_fieldLink_RX11_50_SR_length_I) (fun _ q9 => q9) dX11_addBytes_12 rfl ?_
      refine lv_iload_n hx hb dX11_addBytes_15 rfl (lv_at hl 1 rfl) ?_
      refine lv_iload_n hx hb dX11_addBytes_16 rfl (lv_at hl 2 rfl) ?_
      refine lv_iushr (v := ((x1 : Int32).toUInt32 >>> ((x2 : Int32).toUInt32 &&& Int32.toUInt32 31)).toInt32) hx hb dX11_addBytes_17 rfl ?_
      refine lv_sipush (v := 255) hx hb dX11_addBytes_18 (by decide) ?_
      refine lv_iand hx hb dX11_addBytes_21 ?_
      have he9 := (show (cW Q σ)[8]? = some (Q.q 0, .inl (Q.c 0, 900, .inl (σ.a 0))) from rfl)
      have hFc := cFree1 hC hA he9
      have hr9 : CS.hs σ ≤ CS.hs R.2 := Mono.go hf (hMK (CS.setI (CS.putA σ 0 (gPut (σ.a 0) 900 (σ.i 5) (((x1 : Int32).toUInt32 >>> ((x2 : Int32).toUInt32 &&& Int32.toUInt32 31)).toInt32 &&& 255))) 5 ((σ.i 5) + 1)) x1 (x2 + (-8)))
      refine va_callv (va_runS (As := [.ref (Q.q 0), .int (σ.i 5), .int (((x1 : Int32).toUInt32 >>> ((x2 : Int32).toUInt32 &&& Int32.toUInt32 31)).toInt32 &&& 255)]) (rest := []) ⟨hx, hb, hml, hown, hts⟩ (c_X11_put l dC dI _ (Q.q 0) (Q.c 0) 900 (σ.a 0) (σ.i 5) (((x1 : Int32).toUInt32 >>> ((x2 : Int32).toUInt32 &&& Int32.toUInt32 31)).toInt32 &&& 255) (by decide)) (va_cwS 3 hts hX11_addBytes_X11_put_s58 rfl rfl rfl (by decide +kernel) ⟨(show 1 + 1 ≤ 2 by omega), (show 8 + (3 + 11) + 60 * 1 ≤ 60 * 2 by omega)⟩) ⟨zPre.blind, zPre.go hZ (cOne hC.1 he9) (hK.sub (tys' := [(Q.c 0, .int)]) [0] rfl) (cOneD hC.2.1 he9)⟩ rfl rfl hl.1 rfl (lv_room (Nat.le_of_ble_eq_true rfl)) dX11_addBytes_22 ⟨cAcc4 h0 hr9, cAcc5 h0 hr9⟩) hC.2.2.1 (fun q _ h => hFc q h) hFc (fun u9 t9 H1 locs ht hvm hw hB hz1 hk1 hS => ?_)
      obtain ⟨⟨hP1, hK1, hD1⟩, hsz1⟩ := hB
      rw [ht] at hP1 hsz1
      have hC := cBack (σ' := CS.putA σ 0 (gPut (σ.a 0) 900 (σ.i 5) (((x1 : Int32).toUInt32 >>> ((x2 : Int32).toUInt32 &&& Int32.toUInt32 31)).toInt32 &&& 255))) hC he9 rfl rfl hk1 hP1 hsz1 hS
      generalize H1 = H at hC ⊢
      refine lv_aload_n hx hb dX11_addBytes_25 rfl (lv_at hl 0 rfl) ?_
      refine lv_dup hx hb dX11_addBytes_26 rfl ?_
      refine cG_5 (v := (σ.i 5)) hx hb hts i_X11_addBytes_X11 hown hK hC (hts (.fieldLink RX11 50 "StatementRules2" "length" "I") k_X11_addBytes_fieldLink_RX11_50_SR_length_I) (fun _ q9 => q9) dX11_addBytes_27 rfl ?_
      refine lv_iconst (v := 1) hx hb dX11_addBytes_30 (by decide) ?_
      refine lv_iadd hx hb dX11_addBytes_31 ?_
      refine cP_5 (v := ((σ.i 5) + 1)) hx hb hts i_X11_addBytes_X11 hown hK hC (hts (.fieldLink RX11 50 "StatementRules2" "length" "I") k_X11_addBytes_fieldLink_RX11_50_SR_length_I) (fun _ q9 => q9) dX11_addBytes_32 (fun H locs hC => ?_)
      refine lv_iinc (v := (x2 + (-8))) (lv' := [(2, .int (x2 + (-8))), (0, .ref (Q.o 0)), (1, .int x1)]) hx hb dX11_addBytes_35 hl (k := 2) rfl rfl (by decide) rfl (fun ls hl => ?_)
      refine lv_goto (tgt := 3) hx hb dX11_addBytes_38 (by decide) ?_
      exact ih (CS.setI (CS.putA σ 0 (gPut (σ.a 0) 900 (σ.i 5) (((x1 : Int32).toUInt32 >>> ((x2 : Int32).toUInt32 &&& Int32.toUInt32 31)).toInt32 &&& 255))) 5 ((σ.i 5) + 1)) x1 (x2 + (-8)) _ _ _ hf h0 hC (lv_sub hl [1, 2, 0] rfl)
set_option maxHeartbeats 4000000 in
set_option maxRecDepth 100000 in
theorem c_X11_addBytes (l : Launch) (dC : Nat → ClassId) (dI : Nat → Nat → Nat) (Q : CQ) (N : Nat) (σ : CS) (x1 : Int32) (R : Unit × CS) (hf : f_X11_addBytes N σ x1 = some R) : Met l yX11_addBytes wzX11_addBytes ({ frames := 2, cells := CS.hs R.2 - CS.hs σ, slots := 17 * (CS.hs R.2 - CS.hs σ), locals := 60 * 2 }) (va_Pc [.ref (Q.o 0), .int x1] (zPre dC dI (CS.hs σ) (cW Q σ) (cT Q))) (va_Qv (fun (_ : Unit) => True) (fun (_ : Unit) (t : State) => zPost dC dI (va_A (cW Q σ) (CS.hs σ)) (cW Q R.2) (cT Q) t ∧ t.heap.size = CS.hs R.2) (va_A (cW Q σ) (CS.hs σ))) (CS.hs R.2 - CS.hs σ) (17 * (CS.hs R.2 - CS.hs σ)) (va_A (cW Q σ) (CS.hs σ)) := by
  refine Met.ofW (cc := cX11_addBytes) (maxL := 3) (ret := none) (by decide) rfl ?_
  intro p e s m args below meth c s₁ B hml hv
  obtain ⟨rfl, hsz, hZ, hP, hK, hD0⟩ := hv
  have hx := B.exec
  have hb := B.bytes
  have hr := B.returns
  have hts := atoms_spec (ws := wzX11_addBytes) B.pre
  have hown : s.vm.findClass RX11 = some m.cls := findClass_of_methodNamed B.named
  have hlocks := B.notSynchronized
  have hD := hD0.self (sz := CS.hs σ)
  generalize hAe : va_A (cW Q σ) (CS.hs σ) = A at hD ⊢
  have hA : ∀ q : Nat, s.heap.size ≤ q → A q := fun q h => by rw [← hAe]; exact Or.inr (hsz ▸ h)
  have hC : CP dC dI Q A s.heap σ s.heap [] := ⟨hP, hD, va_S.rf, hsz⟩
  have h0 : CS.hs σ ≤ CS.hs σ := Nat.le_refl _
  have hl := lv_entry ([.ref (Q.o 0), .int x1]) (n := 3) (Nat.le_of_ble_eq_true rfl)
  rw [lg_entry_eq]
  generalize (lg_sl ([.ref (Q.o 0), .int x1]) ++ List.replicate (3 - (lg_sl ([.ref (Q.o 0), .int x1])).length) Slot.unset).toArray = ls at hl ⊢
  have hl : lv_has ls 3 [(0, .ref (Q.o 0)), (1, .int x1)] := hl
  unfold f_X11_addBytes at hf
  refine W.widen (k := CS.hs σ - CS.hs σ) (n := 17 * (CS.hs σ - CS.hs σ)) (Nat.zero_le _) (Nat.zero_le _) ?_
  refine lv_bipush (v := 24) hx hb dX11_addBytes_0 (by decide) ?_
  refine lv_istore_n (lv' := [(2, .int 24), (0, .ref (Q.o 0)), (1, .int x1)]) hx hb dX11_addBytes_2 rfl hl (by decide) rfl (fun ls hl => ?_)
  exact j_X11_addBytes_3 l dC dI Q N (CS.hs σ) R hx hb hr hml hown hts hlocks hZ hA hK N σ x1 24 _ _ _ hf h0 hC (lv_sub hl [1, 2, 0] rfl)
theorem k_X11_feed_fieldLink_RX11_50_SR_length_I : Cond.fieldLink RX11 50 "StatementRules2" "length" "I" ∈ wzX11_feed := List.mem_cons_of_mem _ (List.mem_append_left _ (List.mem_of_getElem? (i := 0) rfl))
theorem i_X11_feed_X11 : ∀ w ∈ wsX110, w ∈ wzX11_feed := fun _ h => List.mem_cons_of_mem _ (List.mem_append_right _ (List.mem_append_left _ (h)))
set_option maxHeartbeats 4000000 in
set_option maxRecDepth 100000 in
theorem c_X11_feed (l : Launch) (dC : Nat → ClassId) (dI : Nat → Nat → Nat) (Q : CQ) (N : Nat) (σ : CS) (x1 : Int32) (x2 : Int32) (x3 : Int32) (x4 : Int32) (x5 : Int32) (R : Int32 × CS) (hf : f_X11_feed N σ x1 x2 x3 x4 x5 = some R) : Met l yX11_feed wzX11_feed ({ frames := 3, cells := CS.hs R.2 - CS.hs σ, slots := 17 * (CS.hs R.2 - CS.hs σ), locals := 60 * 3 }) (va_Pc [.ref (Q.o 0), .int x1, .int x2, .int x3, .int x4, .int x5] (zPre dC dI (CS.hs σ) (cW Q σ) (cT Q))) (va_Qi (fun (r : Int32) (_ : Unit) => r = R.1) (fun (_ : Unit) (t : State) => zPost dC dI (va_A (cW Q σ) (CS.hs σ)) (cW Q R.2) (cT Q) t ∧ t.heap.size = CS.hs R.2) (va_A (cW Q σ) (CS.hs σ))) (CS.hs R.2 - CS.hs σ) (17 * (CS.hs R.2 - CS.hs σ)) (va_A (cW Q σ) (CS.hs σ)) := by
  refine Met.ofW (cc := cX11_feed) (maxL := 6) (ret := (some .int)) (by decide) rfl ?_
  intro p e s m args below meth c s₁ B hml hv
  obtain ⟨rfl, hsz, hZ, hP, hK, hD0⟩ := hv
  have hx := B.exec
  have hb := B.bytes
  have hr := B.returns
  have hts := atoms_spec (ws := wzX11_feed) B.pre
  have hown : s.vm.findClass RX11 = some m.cls := findClass_of_methodNamed B.named
  have hlocks := B.notSynchronized
  have hD := hD0.self (sz := CS.hs σ)
  generalize hAe : va_A (cW Q σ) (CS.hs σ) = A at hD ⊢
  have hA : ∀ q : Nat, s.heap.size ≤ q → A q := fun q h => by rw [← hAe]; exact Or.inr (hsz ▸ h)
  have hC : CP dC dI Q A s.heap σ s.heap [] := ⟨hP, hD, va_S.rf, hsz⟩
  have h0 : CS.hs σ ≤ CS.hs σ := Nat.le_refl _
  have hl := lv_entry ([.ref (Q.o 0), .int x1, .int x2, .int x3, .int x4, .int x5]) (n := 6) (Nat.le_of_ble_eq_true rfl)
  rw [lg_entry_eq]
  generalize (lg_sl ([.ref (Q.o 0), .int x1, .int x2, .int x3, .int x4, .int x5]) ++ List.replicate (6 - (lg_sl ([.ref (Q.o 0), .int x1, .int x2, .int x3, .int x4, .int x5])).length) Slot.unset).toArray = ls at hl ⊢
  have hl : lv_has ls 6 [(0, .ref (Q.o 0)), (1, .int x1), (2, .int x2), (3, .int x3), (4, .int x4), (5, .int x5)] := hl
  unfold f_X11_feed at hf
  refine W.widen (k := CS.hs σ - CS.hs σ) (n := 17 * (CS.hs σ - CS.hs σ)) (Nat.zero_le _) (Nat.zero_le _) ?_
  refine lv_aload_n hx hb dX11_feed_0 rfl (lv_at hl 0 rfl) ?_
  refine cG_5 (v := (σ.i 5)) hx hb hts i_X11_feed_X11 hown hK hC (hts (.fieldLink RX11 50 "StatementRules2" "length" "I") k_X11_feed_fieldLink_RX11_50_SR_length_I) (fun _ q9 => q9) dX11_feed_1 rfl ?_
  refine lv_bipush (v := 20) hx hb dX11_feed_4 (by decide) ?_
  refine lv_iadd hx hb dX11_feed_6 ?_
  refine lv_sipush (v := 900) hx hb dX11_feed_7 (by decide) ?_
  refine lv_icmp_le (tgt := 16) hx hb dX11_feed_10 (by decide) (fun c1 => ?_) (fun c1 => ?_)
  ·
    replace hf := (if_pos c1).symm.trans hf
    refine lv_aload_n hx hb dX11_feed_16 rfl (lv_at hl 0 rfl) ?_
    refine lv_iload_n hx hb dX11_feed_17 rfl (lv_at hl 1 rfl) ?_
    obtain ⟨p2, hcp2, hf⟩ := hf_bind hf
    have hm3 : CS.hs σ ≤ CS.hs p2.2 := Mono.go hcp2 (m_X11_addBytes N σ x1)
    have hr9 : CS.hs p2.2 ≤ CS.hs R.2 := Mono.go hf (mono_bind (m_X11_addBytes N p2.2 x2) (fun p6 => (mono_bind (m_X11_addBytes N p6.2 x3) (fun p10 => (mono_bind (m_X11_addBytes N p10.2 x4) (fun p14 => (mono_bind (m_X11_addBytes N p14.2 x5) (fun p18 => (mono_some (Nat.le_refl _))))))))))
    have hFc := cFree hC hA
    refine va_callv (va_runV (As := [.int x1]) (rest := []) ⟨hx, hb, hml, hown, hts⟩ (c_X11_addBytes l dC dI Q N σ x1 p2 hcp2) (cwV 1 hts hX11_feed_X11_addBytes_v54 rfl rfl rfl (by decide +kernel) ⟨(show 2 + 1 ≤ 3 by omega), (show 8 + (3 + 11) + 60 * 2 ≤ 60 * 3 by omega)⟩) ⟨zPre.blind, va_recv hK hC.1 (ci := 10) (q0 := 0) rfl rfl, cPre_go hZ hK hC⟩ rfl rfl hl.1 rfl (lv_room (Nat.le_of_ble_eq_true rfl)) dX11_feed_18 (cAcc h0 hm3 hr9)) hC.2.2.1 (fun q _ h => hFc q h) hFc (fun u9 t9 H1 locs ht hvm hw hB hz1 hk1 hS => ?_)
    obtain ⟨⟨hP, hK1, hD1⟩, hsz1⟩ := hB
    rw [ht] at hP hsz1
    have hC : CP dC dI Q A s.heap p2.2 H1 locs := ⟨hP, hD1.weaken (fun _ _ _ h => hFc _ h), hS, hsz1⟩
    generalize H1 = H at hC ⊢
    have h5 : (CS.hs σ) ≤ CS.hs p2.2 := Nat.le_trans h0 hm3
    refine W.widen (k := CS.hs p2.2 - (CS.hs σ)) (n := 17 * (CS.hs p2.2 - (CS.hs σ))) (cAcc2 h0 hm3) (cAcc3 h0 hm3) ?_
    refine lv_aload_n hx hb dX11_feed_21 rfl (lv_at hl 0 rfl) ?_
    refine lv_iload_n hx hb dX11_feed_22 rfl (lv_at hl 2 rfl) ?_
    obtain ⟨p6, hcp6, hf⟩ := hf_bind hf
    have hm7 : CS.hs p2.2 ≤ CS.hs p6.2 := Mono.go hcp6 (m_X11_addBytes N p2.2 x2)
    have hr9 : CS.hs p6.2 ≤ CS.hs R.2 := Mono.go hf (mono_bind (m_X11_addBytes N p6.2 x3) (fun p10 => (mono_bind (m_X11_addBytes N p10.2 x4) (fun p14 => (mono_bind (m_X11_addBytes N p14.2 x5) (fun p18 => (mono_some (Nat.le_refl _))))))))
    have hFc := cFree hC hA
    refine va_callv (va_runV (As := [.int x2]) (rest := []) ⟨hx, hb, hml, hown, hts⟩ (c_X11_addBytes l dC dI Q N p2.2 x2 p6 hcp6) (cwV 1 hts hX11_feed_X11_addBytes_v54 rfl rfl rfl (by decide +kernel) ⟨(show 2 + 1 ≤ 3 by omega), (show 8 + (3 + 11) + 60 * 2 ≤ 60 * 3 by omega)⟩) ⟨zPre.blind, va_recv hK hC.1 (ci := 10) (q0 := 0) rfl rfl, cPre_go hZ hK hC⟩ rfl rfl hl.1 rfl (lv_room (Nat.le_of_ble_eq_true rfl)) dX11_feed_23 (cAcc h5 hm7 hr9)) hC.2.2.1 (fun q _ h => hFc q h) hFc (fun u9 t9 H1 locs ht hvm hw hB hz1 hk1 hS => ?_)
    obtain ⟨⟨hP, hK1, hD1⟩, hsz1⟩ := hB
    rw [ht] at hP hsz1
    have hC : CP dC dI Q A s.heap p6.2 H1 locs := ⟨hP, hD1.weaken (fun _ _ _ h => hFc _ h), hS, hsz1⟩
    generalize H1 = H at hC ⊢
    have h9 : (CS.hs σ) ≤ CS.hs p6.2 := Nat.le_trans h5 hm7
    refine W.widen (k := CS.hs p6.2 - (CS.hs σ)) (n := 17 * (CS.hs p6.2 - (CS.hs σ))) (cAcc2 h5 hm7) (cAcc3 h5 hm7) ?_
    refine lv_aload_n hx hb dX11_feed_26 rfl (lv_at hl 0 rfl) ?_
    refine lv_iload_n hx hb dX11_feed_27 rfl (lv_at hl 3 rfl) ?_
    obtain ⟨p10, hcp10, hf⟩ := hf_bind hf
    have hm11 : CS.hs p6.2 ≤ CS.hs p10.2 := Mono.go hcp10 (m_X11_addBytes N p6.2 x3)
    have hr9 : CS.hs p10.2 ≤ CS.hs R.2 := Mono.go hf (mono_bind (m_X11_addBytes N p10.2 x4) (fun p14 => (mono_bind (m_X11_addBytes N p14.2 x5) (fun p18 => (mono_some (Nat.le_refl _))))))
    have hFc := cFree hC hA
    refine va_callv (va_runV (As := [.int x3]) (rest := []) ⟨hx, hb, hml, hown, hts⟩ (c_X11_addBytes l dC dI Q N p6.2 x3 p10 hcp10) (cwV 1 hts hX11_feed_X11_addBytes_v54 rfl rfl rfl (by decide +kernel) ⟨(show 2 + 1 ≤ 3 by omega), (show 8 + (3 + 11) + 60 * 2 ≤ 60 * 3 by omega)⟩) ⟨zPre.blind, va_recv hK hC.1 (ci := 10) (q0 := 0) rfl rfl, cPre_go hZ hK hC⟩ rfl rfl hl.1 rfl (lv_room (Nat.le_of_ble_eq_true rfl)) dX11_feed_28 (cAcc h9 hm11 hr9)) hC.2.2.1 (fun q _ h => hFc q h) hFc (fun u9 t9 H1 locs ht hvm hw hB hz1 hk1 hS => ?_)
    obtain ⟨⟨hP, hK1, hD1⟩, hsz1⟩ := hB
    rw [ht] at hP hsz1
    have hC : CP dC dI Q A s.heap p10.2 H1 locs := ⟨hP, hD1.weaken (fun _ _ _ h => hFc _ h), hS, hsz1⟩
    generalize H1 = H at hC ⊢
    have h13 : (CS.hs σ) ≤ CS.hs p10.2 := Nat.le_trans h9 hm11
    refine W.widen (k := CS.hs p10.2 - (CS.hs σ)) (n := 17 * (CS.hs p10.2 - (CS.hs σ))) (cAcc2 h9 hm11) (cAcc3 h9 hm11) ?_
    refine lv_aload_n hx hb dX11_feed_31 rfl (lv_at hl 0 rfl) ?_
    refine lv_iload hx hb dX11_feed_32 (lv_at hl 4 rfl) ?_
    obtain ⟨p14, hcp14, hf⟩ := hf_bind hf
    have hm15 : CS.hs p10.2 ≤ CS.hs p14.2 := Mono.go hcp14 (m_X11_addBytes N p10.2 x4)
    have hr9 : CS.hs p14.2 ≤ CS.hs R.2 := Mono.go hf (mono_bind (m_X11_addBytes N p14.2 x5) (fun p18 => (mono_some (Nat.le_refl _))))
    have hFc := cFree hC hA
    refine va_callv (va_runV (As := [.int x4]) (rest := []) ⟨hx, hb, hml, hown, hts⟩ (c_X11_addBytes l dC dI Q N p10.2 x4 p14 hcp14) (cwV 1 hts hX11_feed_X11_addBytes_v54 rfl rfl rfl (by decide +kernel) ⟨(show 2 + 1 ≤ 3 by omega), (show 8 + (3 + 11) + 60 * 2 ≤ 60 * 3 by omega)⟩) ⟨zPre.blind, va_recv hK hC.1 (ci := 10) (q0 := 0) rfl rfl, cPre_go hZ hK hC⟩ rfl rfl hl.1 rfl (lv_room (Nat.le_of_ble_eq_true rfl)) dX11_feed_34 (cAcc h13 hm15 hr9)) hC.2.2.1 (fun q _ h => hFc q h) hFc (fun u9 t9 H1 locs ht hvm hw hB hz1 hk1 hS => ?_)
    obtain ⟨⟨hP, hK1, hD1⟩, hsz1⟩ := hB
    rw [ht] at hP hsz1
    have hC : CP dC dI Q A s.heap p14.2 H1 locs := ⟨hP, hD1.weaken (fun _ _ _ h => hFc _ h), hS, hsz1⟩
    generalize H1 = H at hC ⊢
    have h17 : (CS.hs σ) ≤ CS.hs p14.2 := Nat.le_trans h13 hm15
    refine W.widen (k := CS.hs p14.2 - (CS.hs σ)) (n := 17 * (CS.hs p14.2 - (CS.hs σ))) (cAcc2 h13 hm15) (cAcc3 h13 hm15) ?_
    refine lv_aload_n hx hb dX11_feed_37 rfl (lv_at hl 0 rfl) ?_
    refine lv_iload hx hb dX11_feed_38 (lv_at hl 5 rfl) ?_
    obtain ⟨p18, hcp18, hf⟩ := hf_bind hf
    have hm19 : CS.hs p14.2 ≤ CS.hs p18.2 := Mono.go hcp18 (m_X11_addBytes N p14.2 x5)
    have hr9 : CS.hs p18.2 ≤ CS.hs R.2 := Mono.go hf (mono_some (Nat.le_refl _))
    have hFc := cFree hC hA
    refine va_callv (va_runV (As := [.int x5]) (rest := []) ⟨hx, hb, hml, hown, hts⟩ (c_X11_addBytes l dC dI Q N p14.2 x5 p18 hcp18) (cwV 1 hts hX11_feed_X11_addBytes_v54 rfl rfl rfl (by decide +kernel) ⟨(show 2 + 1 ≤ 3 by omega), (show 8 + (3 + 11) + 60 * 2 ≤ 60 * 3 by omega)⟩) ⟨zPre.blind, va_recv hK hC.1 (ci := 10) (q0 := 0) rfl rfl, cPre_go hZ hK hC⟩ rfl rfl hl.1 rfl (lv_room (Nat.le_of_ble_eq_true rfl)) dX11_feed_40 (cAcc h17 hm19 hr9)) hC.2.2.1 (fun q _ h => hFc q h) hFc (fun u9 t9 H1 locs ht hvm hw hB hz1 hk1 hS => ?_)
    obtain ⟨⟨hP, hK1, hD1⟩, hsz1⟩ := hB
    rw [ht] at hP hsz1
    have hC : CP dC dI Q A s.heap p18.2 H1 locs := ⟨hP, hD1.weaken (fun _ _ _ h => hFc _ h), hS, hsz1⟩
    generalize H1 = H at hC ⊢
    have h21 : (CS.hs σ) ≤ CS.hs p18.2 := Nat.le_trans h17 hm19
    refine W.widen (k := CS.hs p18.2 - (CS.hs σ)) (n := 17 * (CS.hs p18.2 - (CS.hs σ))) (cAcc2 h17 hm19) (cAcc3 h17 hm19) ?_
    refine lv_aload_n hx hb dX11_feed_43 rfl (lv_at hl 0 rfl) ?_
    refine cG_5 (v := (p18.2.i 5)) hx hb hts i_X11_feed_X11 hown hK hC (hts (.fieldLink RX11 50 "StatementRules2" "length" "I") k_X11_feed_fieldLink_RX11_50_SR_length_I) (fun _ q9 => q9) dX11_feed_44 rfl ?_
    obtain rfl := Option.some.inj hf
    exact W.iret (v := (p18.2.i 5)) hx hb hr (fun t ht hW => ⟨⟨(p18.2.i 5), (), rfl, rfl, ⟨by rw [ht]; exact hC.1, va_K.moved hW.alike hK, hC.2.1⟩, by rw [ht]; exact hC.2.2.2⟩, hC.2.2.1.F ht⟩) hC.2.2.1.2.2 dX11_feed_47
  ·
    replace hf := (if_neg c1).symm.trans hf
    refine lv_bipush (v := (-2)) hx hb dX11_feed_13 (by decide) ?_
    obtain rfl := Option.some.inj hf
    exact W.iret (v := (-2)) hx hb hr (fun t ht hW => ⟨⟨(-2), (), rfl, rfl, ⟨by rw [ht]; exact hC.1, va_K.moved hW.alike hK, hC.2.1⟩, by rw [ht]; exact hC.2.2.2⟩, hC.2.2.1.F ht⟩) hC.2.2.1.2.2 dX11_feed_15
theorem k_X11_cut_fieldLink_RX11_50_SR_length_I : Cond.fieldLink RX11 50 "StatementRules2" "length" "I" ∈ wzX11_cut := List.mem_cons_of_mem _ (List.mem_append_left _ (List.mem_of_getElem? (i := 0) rfl))
theorem i_X11_cut_X11 : ∀ w ∈ wsX110, w ∈ wzX11_cut := fun _ h => List.mem_cons_of_mem _ (List.mem_append_right _ (List.mem_append_left _ (h)))
set_option maxHeartbeats 4000000 in
set_option maxRecDepth 100000 in
theorem j_X11_cut_12 {p : Program} {e : Env} {s : State} {m : MethodId} {args : Array Value} {below : List Frame} {meth : Method} {c : Code} {A : Nat → Prop} (l : Launch) (dC : Nat → ClassId) (dI : Nat → Nat → Nat) (Q : CQ) (N : Nat) (z9h : Nat) (R : Int32 × CS) (hx : p.tables.exec = Jvm.exec) (hb : c.code = cX11_cut) (hr : meth.sig.returnType = (some .int)) (hml : c.maxLocals = 3) (hown : s.vm.findClass RX11 = some m.cls) (hts : ∀ w ∈ wzX11_cut, w.before args s = true) (hlocks : meth.locks = false) (hZ : zAMB s) (hA : ∀ q : Nat, s.heap.size ≤ q → A q) (hK : va_K (dC, dI) vwCl (cT Q) s) : ∀ (σ : CS) (H : Heap) (locs : List Loc) (ls : Array Slot), f_X11_cut_12 N σ = some R → z9h ≤ CS.hs σ → CP dC dI Q A s.heap σ H locs → lv_has ls 3 [] → W p l e ({ frames := 1, cells := CS.hs R.2 - z9h, slots := 17 * (CS.hs R.2 - z9h), locals := 60 * 1 }) s m args below meth c H locs (CS.hs σ - z9h) (17 * (CS.hs σ - z9h)) (MQ below (va_Qi (fun (r : Int32) (_ : Unit) => r = R.1) (fun (_ : Unit) (t : State) => zPost dC dI A (cW Q R.2) (cT Q) t ∧ t.heap.size = CS.hs R.2) A) args s (CS.hs R.2 - z9h) (17 * (CS.hs R.2 - z9h)) A) (F0 m 12 ls []) := by
  intro σ  H locs ls hf h0 hC hl
  unfold f_X11_cut_12 at hf
  refine lv_iconst (v := (-1)) hx hb dX11_cut_12 (by decide) ?_
  obtain rfl := Option.some.inj hf
  exact W.iret (v := (-1)) hx hb hr (fun t ht hW => ⟨⟨(-1), (), rfl, rfl, ⟨by rw [ht]; exact hC.1, va_K.moved hW.alike hK, hC.2.1⟩, by rw [ht]; exact hC.2.2.2⟩, hC.2.2.1.F ht⟩) hC.2.2.1.2.2 dX11_cut_13
set_option maxHeartbeats 4000000 in
set_option maxRecDepth 100000 in
theorem c_X11_cut (l : Launch) (dC : Nat → ClassId) (dI : Nat → Nat → Nat) (Q : CQ) (N : Nat) (σ : CS) (x1 : Int32) (R : Int32 × CS) (hf : f_X11_cut N σ x1 = some R) : Met l yX11_cut wzX11_cut ({ frames := 1, cells := CS.hs R.2 - CS.hs σ, slots := 17 * (CS.hs R.2 - CS.hs σ), locals := 60 * 1 }) (va_Pc [.ref (Q.o 0), .int x1] (zPre dC dI (CS.hs σ) (cW Q σ) (cT Q))) (va_Qi (fun (r : Int32) (_ : Unit) => r = R.1) (fun (_ : Unit) (t : State) => zPost dC dI (va_A (cW Q σ) (CS.hs σ)) (cW Q R.2) (cT Q) t ∧ t.heap.size = CS.hs R.2) (va_A (cW Q σ) (CS.hs σ))) (CS.hs R.2 - CS.hs σ) (17 * (CS.hs R.2 - CS.hs σ)) (va_A (cW Q σ) (CS.hs σ)) := by
  refine Met.ofW (cc := cX11_cut) (maxL := 3) (ret := (some .int)) (by decide) rfl ?_
  intro p e s m args below meth c s₁ B hml hv
  obtain ⟨rfl, hsz, hZ, hP, hK, hD0⟩ := hv
  have hx := B.exec
  have hb := B.bytes
  have hr := B.returns
  have hts := atoms_spec (ws := wzX11_cut) B.pre
  have hown : s.vm.findClass RX11 = some m.cls := findClass_of_methodNamed B.named
  have hlocks := B.notSynchronized
  have hD := hD0.self (sz := CS.hs σ)
  generalize hAe : va_A (cW Q σ) (CS.hs σ) = A at hD ⊢
  have hA : ∀ q : Nat, s.heap.size ≤ q → A q := fun q h => by rw [← hAe]; exact Or.inr (hsz ▸ h)
  have hC : CP dC dI Q A s.heap σ s.heap [] := ⟨hP, hD, va_S.rf, hsz⟩
  have h0 : CS.hs σ ≤ CS.hs σ := Nat.le_refl _
  have hl := lv_entry ([.ref (Q.o 0), .int x1]) (n := 3) (Nat.le_of_ble_eq_true rfl)
  rw [lg_entry_eq]
  generalize (lg_sl ([.ref (Q.o 0), .int x1]) ++ List.replicate (3 - (lg_sl ([.ref (Q.o 0), .int x1])).length) Slot.unset).toArray = ls at hl ⊢
  have hl : lv_has ls 3 [(0, .ref (Q.o 0)), (1, .int x1)] := hl
  unfold f_X11_cut at hf
  refine W.widen (k := CS.hs σ - CS.hs σ) (n := 17 * (CS.hs σ - CS.hs σ)) (Nat.zero_le _) (Nat.zero_le _) ?_
  refine lv_iload_n hx hb dX11_cut_0 rfl (lv_at hl 1 rfl) ?_
  refine lv_if_lt (tgt := 12) hx hb dX11_cut_1 (by decide) (fun c1 => ?_) (fun c1 => ?_)
  ·
    replace hf := (if_pos c1).symm.trans hf
    exact j_X11_cut_12 l dC dI Q N (CS.hs σ) R hx hb hr hml hown hts hlocks hZ hA hK σ _ _ _ hf h0 hC (lv_sub hl [] rfl)
  ·
    replace hf := (if_neg c1).symm.trans hf
    refine lv_iload_n hx hb dX11_cut_4 rfl (lv_at hl 1 rfl) ?_
    refine lv_aload_n hx hb dX11_cut_5 rfl (lv_at hl 0 rfl) ?_
    refine cG_5 (v := (σ.i 5)) hx hb hts i_X11_cut_X11 hown hK hC (hts (.fieldLink RX11 50 "StatementRules2" "length" "I") k_X11_cut_fieldLink_RX11_50_SR_length_I) (fun _ q9 => q9) dX11_cut_6 rfl ?_
    refine lv_icmp_le (tgt := 14) hx hb dX11_cut_9 (by decide) (fun c2 => ?_) (fun c2 => ?_)
    ·
      replace hf := (if_pos c2).symm.trans hf
      refine lv_aload_n hx hb dX11_cut_14 rfl (lv_at hl 0 rfl) ?_
      refine cG_5 (v := (σ.i 5)) hx hb hts i_X11_cut_X11 hown hK hC (hts (.fieldLink RX11 50 "StatementRules2" "length" "I") k_X11_cut_fieldLink_RX11_50_SR_length_I) (fun _ q9 => q9) dX11_cut_15 rfl ?_
      refine lv_iload_n hx hb dX11_cut_18 rfl (lv_at hl 1 rfl) ?_
      refine lv_isub hx hb dX11_cut_19 ?_
      refine lv_istore_n (lv' := [(2, .int ((σ.i 5) - x1)), (0, .ref (Q.o 0)), (1, .int x1)]) hx hb dX11_cut_20 rfl hl (by decide) rfl (fun ls hl => ?_)
      refine lv_aload_n hx hb dX11_cut_21 rfl (lv_at hl 1 rfl) ?_
      refine lv_iload_n hx hb dX11_cut_22 rfl (lv_at hl 2 rfl) ?_
      refine cP_5 (v := x1) hx hb hts i_X11_cut_X11 hown hK hC (hts (.fieldLink RX11 50 "StatementRules2" "length" "I") k_X11_cut_fieldLink_RX11_50_SR_length_I) (fun _ q9 => q9) dX11_cut_23 (fun H locs hC => ?_)
      refine lv_iload_n hx hb dX11_cut_26 rfl (lv_at hl 0 rfl) ?_
      obtain rfl := Option.some.inj hf
      exact W.iret (v := ((σ.i 5) - x1)) hx hb hr (fun t ht hW => ⟨⟨((σ.i 5) - x1), (), rfl, rfl, ⟨by rw [ht]; exact hC.1, va_K.moved hW.alike hK, hC.2.1⟩, by rw [ht]; exact hC.2.2.2⟩, hC.2.2.1.F ht⟩) hC.2.2.1.2.2 dX11_cut_27
    ·
      replace hf := (if_neg c2).symm.trans hf
      exact j_X11_cut_12 l dC dI Q N (CS.hs σ) R hx hb hr hml hown hts hlocks hZ hA hK σ _ _ _ hf h0 hC (lv_sub hl [] rfl)
theorem k_X11_kind_fieldLink_RX11_16_SR_told_LSR_Told : Cond.fieldLink RX11 16 "StatementRules2" "told" "LStatementRules2$Told;" ∈ wzX11_kind := List.mem_cons_of_mem _ (List.mem_append_left _ (List.mem_of_getElem? (i := 0) rfl))
theorem i_X11_kind_X11 : ∀ w ∈ wsX110, w ∈ wzX11_kind := fun _ h => List.mem_cons_of_mem _ (List.mem_append_right _ (List.mem_append_left _ (h)))
set_option maxHeartbeats 4000000 in
set_option maxRecDepth 100000 in
theorem c_X11_kind (l : Launch) (dC : Nat → ClassId) (dI : Nat → Nat → Nat) (Q : CQ) (N : Nat) (σ : CS) (x1 : Int32) (R : Int32 × CS) (hf : f_X11_kind N σ x1 = some R) : Met l yX11_kind wzX11_kind ({ frames := 3, cells := CS.hs R.2 - CS.hs σ, slots := 17 * (CS.hs R.2 - CS.hs σ), locals := 60 * 3 }) (va_Pc [.ref (Q.o 0), .int x1] (zPre dC dI (CS.hs σ) (cW Q σ) (cT Q))) (va_Qi (fun (r : Int32) (_ : Unit) => r = R.1) (fun (_ : Unit) (t : State) => zPost dC dI (va_A (cW Q σ) (CS.hs σ)) (cW Q R.2) (cT Q) t ∧ t.heap.size = CS.hs R.2) (va_A (cW Q σ) (CS.hs σ))) (CS.hs R.2 - CS.hs σ) (17 * (CS.hs R.2 - CS.hs σ)) (va_A (cW Q σ) (CS.hs σ)) := by
  refine Met.ofW (cc := cX11_kind) (maxL := 2) (ret := (some .int)) (by decide) rfl ?_
  intro p e s m args below meth c s₁ B hml hv
  obtain ⟨rfl, hsz, hZ, hP, hK, hD0⟩ := hv
  have hx := B.exec
  have hb := B.bytes
  have hr := B.returns
  have hts := atoms_spec (ws := wzX11_kind) B.pre
  have hown : s.vm.findClass RX11 = some m.cls := findClass_of_methodNamed B.named
  have hlocks := B.notSynchronized
  have hD := hD0.self (sz := CS.hs σ)
  generalize hAe : va_A (cW Q σ) (CS.hs σ) = A at hD ⊢
  have hA : ∀ q : Nat, s.heap.size ≤ q → A q := fun q h => by rw [← hAe]; exact Or.inr (hsz ▸ h)
  have hC : CP dC dI Q A s.heap σ s.heap [] := ⟨hP, hD, va_S.rf, hsz⟩
  have h0 : CS.hs σ ≤ CS.hs σ := Nat.le_refl _
  have hl := lv_entry ([.ref (Q.o 0), .int x1]) (n := 2) (Nat.le_of_ble_eq_true rfl)
  rw [lg_entry_eq]
  generalize (lg_sl ([.ref (Q.o 0), .int x1]) ++ List.replicate (2 - (lg_sl ([.ref (Q.o 0), .int x1])).length) Slot.unset).toArray = ls at hl ⊢
  have hl : lv_has ls 2 [(0, .ref (Q.o 0)), (1, .int x1)] := hl
  unfold f_X11_kind at hf
  refine W.widen (k := CS.hs σ - CS.hs σ) (n := 17 * (CS.hs σ - CS.hs σ)) (Nat.zero_le _) (Nat.zero_le _) ?_
  refine lv_aload_n hx hb dX11_kind_0 rfl (lv_at hl 0 rfl) ?_
  refine cG_1 hx hb hts i_X11_kind_X11 hown hK hC (hts (.fieldLink RX11 16 "StatementRules2" "told" "LStatementRules2$Told;") k_X11_kind_fieldLink_RX11_16_SR_told_LSR_Told) (fun _ q9 => q9) dX11_kind_1 ?_
  refine lv_iload_n hx hb dX11_kind_4 rfl (lv_at hl 1 rfl) ?_
  obtain ⟨p1, hcp1, hf⟩ := hf_bind hf
  have hm2 : CS.hs σ ≤ CS.hs p1.2 := Mono.go hcp1 (m_X10_isKind N σ x1)
  have hr9 : CS.hs p1.2 ≤ CS.hs R.2 := Mono.go hf (mono_ite (mono_some (Nat.le_refl _)) (mono_bind (m_X10_isFull N p1.2) (fun p6 => (mono_ite (mono_bind (m_X10_addKind N p6.2 x1) (fun p11 => (mono_some (Nat.le_refl _)))) (mono_some (Nat.le_refl _))))))
  have hFc := cFree hC hA
  refine va_calli (va_runV (As := [.int x1]) (rest := []) ⟨hx, hb, hml, hown, hts⟩ (c_X10_isKind l dC dI Q N σ x1 p1 hcp1) (cwV 1 hts hX11_kind_X10_isKind_v62 rfl rfl rfl (by decide +kernel) ⟨(show 1 + 1 ≤ 3 by omega), (show 8 + (2 + 11) + 60 * 1 ≤ 60 * 3 by omega)⟩) ⟨zPre.blind, va_recv hK hC.1 (ci := 9) (q0 := 1) rfl rfl, cPre_go hZ hK hC⟩ rfl rfl hl.1 rfl (lv_room (Nat.le_of_ble_eq_true rfl)) dX11_kind_5 (cAcc h0 hm2 hr9)) hC.2.2.1 (fun q _ h => hFc q h) hFc (fun r3 u9 t9 H1 locs ht hvm hw hB hz1 hk1 hS => ?_)
  obtain ⟨⟨hP, hK1, hD1⟩, hsz1⟩ := hB
  rw [ht] at hP hsz1
  have hC : CP dC dI Q A s.heap p1.2 H1 locs := ⟨hP, hD1.weaken (fun _ _ _ h => hFc _ h), hS, hsz1⟩
  generalize H1 = H at hC ⊢
  have h4 : (CS.hs σ) ≤ CS.hs p1.2 := Nat.le_trans h0 hm2
  refine W.widen (k := CS.hs p1.2 - (CS.hs σ)) (n := 17 * (CS.hs p1.2 - (CS.hs σ))) (cAcc2 h0 hm2) (cAcc3 h0 hm2) ?_
  obtain rfl : r3 = p1.1 := hw
  refine lv_if_ne (tgt := 13) hx hb dX11_kind_8 (by decide) (fun c5 => ?_) (fun c5 => ?_)
  ·
    replace hf := (if_neg c5).symm.trans hf
    refine lv_aload_n hx hb dX11_kind_13 rfl (lv_at hl 0 rfl) ?_
    refine cG_1 hx hb hts i_X11_kind_X11 hown hK hC (hts (.fieldLink RX11 16 "StatementRules2" "told" "LStatementRules2$Told;") k_X11_kind_fieldLink_RX11_16_SR_told_LSR_Told) (fun _ q9 => q9) dX11_kind_14 ?_
    obtain ⟨p6, hcp6, hf⟩ := hf_bind hf
    have hm7 : CS.hs p1.2 ≤ CS.hs p6.2 := Mono.go hcp6 (m_X10_isFull N p1.2)
    have hr9 : CS.hs p6.2 ≤ CS.hs R.2 := Mono.go hf (mono_ite (mono_bind (m_X10_addKind N p6.2 x1) (fun p11 => (mono_some (Nat.le_refl _)))) (mono_some (Nat.le_refl _)))
    have hFc := cFree hC hA
    refine va_calli (va_runV (As := []) (rest := []) ⟨hx, hb, hml, hown, hts⟩ (c_X10_isFull l dC dI Q N p1.2 p6 hcp6) (cwV 0 hts hX11_kind_X10_isFull_v66 rfl rfl rfl (by decide +kernel) ⟨(show 1 + 1 ≤ 3 by omega), (show 8 + (1 + 11) + 60 * 1 ≤ 60 * 3 by omega)⟩) ⟨zPre.blind, va_recv hK hC.1 (ci := 9) (q0 := 1) rfl rfl, cPre_go hZ hK hC⟩ rfl rfl hl.1 rfl (lv_room (Nat.le_of_ble_eq_true rfl)) dX11_kind_17 (cAcc h4 hm7 hr9)) hC.2.2.1 (fun q _ h => hFc q h) hFc (fun r8 u9 t9 H1 locs ht hvm hw hB hz1 hk1 hS => ?_)
    obtain ⟨⟨hP, hK1, hD1⟩, hsz1⟩ := hB
    rw [ht] at hP hsz1
    have hC : CP dC dI Q A s.heap p6.2 H1 locs := ⟨hP, hD1.weaken (fun _ _ _ h => hFc _ h), hS, hsz1⟩
    generalize H1 = H at hC ⊢
    have h9 : (CS.hs σ) ≤ CS.hs p6.2 := Nat.le_trans h4 hm7
    refine W.widen (k := CS.hs p6.2 - (CS.hs σ)) (n := 17 * (CS.hs p6.2 - (CS.hs σ))) (cAcc2 h4 hm7) (cAcc3 h4 hm7) ?_
    obtain rfl : r8 = p6.1 := hw
    refine lv_if_eq (tgt := 28) hx hb dX11_kind_20 (by decide) (fun c10 => ?_) (fun c10 => ?_)
    ·
      replace hf := (if_pos c10).symm.trans hf
      refine lv_aload_n hx hb dX11_kind_28 rfl (lv_at hl 0 rfl) ?_
      refine cG_1 hx hb hts i_X11_kind_X11 hown hK hC (hts (.fieldLink RX11 16 "StatementRules2" "told" "LStatementRules2$Told;") k_X11_kind_fieldLink_RX11_16_SR_told_LSR_Told) (fun _ q9 => q9) dX11_kind_29 ?_
      refine lv_iload_n hx hb dX11_kind_32 rfl (lv_at hl 1 rfl) ?_
      obtain ⟨p11, hcp11, hf⟩ := hf_bind hf
      have hm12 : CS.hs p6.2 ≤ CS.hs p11.2 := Mono.go hcp11 (m_X10_addKind N p6.2 x1)
      have hr9 : CS.hs p11.2 ≤ CS.hs R.2 := Mono.go hf (mono_some (Nat.le_refl _))
      have hFc := cFree hC hA
      refine va_calli (va_runV (As := [.int x1]) (rest := []) ⟨hx, hb, hml, hown, hts⟩ (c_X10_addKind l dC dI Q N p6.2 x1 p11 hcp11) (cwV 1 hts hX11_kind_X10_addKind_v70 rfl rfl rfl (by decide +kernel) ⟨(show 2 + 1 ≤ 3 by omega), (show 8 + (2 + 11) + 60 * 2 ≤ 60 * 3 by omega)⟩) ⟨zPre.blind, va_recv hK hC.1 (ci := 9) (q0 := 1) rfl rfl, cPre_go hZ hK hC⟩ rfl rfl hl.1 rfl (lv_room (Nat.le_of_ble_eq_true rfl)) dX11_kind_33 (cAcc h9 hm12 hr9)) hC.2.2.1 (fun q _ h => hFc q h) hFc (fun r13 u9 t9 H1 locs ht hvm hw hB hz1 hk1 hS => ?_)
      obtain ⟨⟨hP, hK1, hD1⟩, hsz1⟩ := hB
      rw [ht] at hP hsz1
      have hC : CP dC dI Q A s.heap p11.2 H1 locs := ⟨hP, hD1.weaken (fun _ _ _ h => hFc _ h), hS, hsz1⟩
      generalize H1 = H at hC ⊢
      have h14 : (CS.hs σ) ≤ CS.hs p11.2 := Nat.le_trans h9 hm12
      refine W.widen (k := CS.hs p11.2 - (CS.hs σ)) (n := 17 * (CS.hs p11.2 - (CS.hs σ))) (cAcc2 h9 hm12) (cAcc3 h9 hm12) ?_
      obtain rfl : r13 = p11.1 := hw
      obtain rfl := Option.some.inj hf
      exact W.iret (v := p11.1) hx hb hr (fun t ht hW => ⟨⟨p11.1, (), rfl, rfl, ⟨by rw [ht]; exact hC.1, va_K.moved hW.alike hK, hC.2.1⟩, by rw [ht]; exact hC.2.2.2⟩, hC.2.2.1.F ht⟩) hC.2.2.1.2.2 dX11_kind_36
    ·
      replace hf := (if_neg c10).symm.trans hf
      refine lv_bipush (v := (-2)) hx hb dX11_kind_23 (by decide) ?_
      refine lv_goto (tgt := 36) hx hb dX11_kind_25 (by decide) ?_
      obtain rfl := Option.some.inj hf
      exact W.iret (v := (-2)) hx hb hr (fun t ht hW => ⟨⟨(-2), (), rfl, rfl, ⟨by rw [ht]; exact hC.1, va_K.moved hW.alike hK, hC.2.1⟩, by rw [ht]; exact hC.2.2.2⟩, hC.2.2.1.F ht⟩) hC.2.2.1.2.2 dX11_kind_36
  ·
    replace hf := (if_pos c5).symm.trans hf
    refine lv_iconst (v := (-1)) hx hb dX11_kind_11 (by decide) ?_
    obtain rfl := Option.some.inj hf
    exact W.iret (v := (-1)) hx hb hr (fun t ht hW => ⟨⟨(-1), (), rfl, rfl, ⟨by rw [ht]; exact hC.1, va_K.moved hW.alike hK, hC.2.1⟩, by rw [ht]; exact hC.2.2.2⟩, hC.2.2.1.F ht⟩) hC.2.2.1.2.2 dX11_kind_12
theorem k_X11_isKindOrNothing_fieldLink_RX11_16_SR_told_LSR_Told : Cond.fieldLink RX11 16 "StatementRules2" "told" "LStatementRules2$Told;" ∈ wzX11_isKindOrNothing := List.mem_cons_of_mem _ (List.mem_append_left _ (List.mem_of_getElem? (i := 0) rfl))
theorem i_X11_isKindOrNothing_X11 : ∀ w ∈ wsX110, w ∈ wzX11_isKindOrNothing := fun _ h => List.mem_cons_of_mem _ (List.mem_append_right _ (List.mem_append_left _ (h)))
set_option maxHeartbeats 4000000 in
set_option maxRecDepth 100000 in
theorem j_X11_isKindOrNothing_16 {p : Program} {e : Env} {s : State} {m : MethodId} {args : Array Value} {below : List Frame} {meth : Method} {c : Code} {A : Nat → Prop} (l : Launch) (dC : Nat → ClassId) (dI : Nat → Nat → Nat) (Q : CQ) (N : Nat) (z9h : Nat) (R : Int32 × CS) (hx : p.tables.exec = Jvm.exec) (hb : c.code = cX11_isKindOrNothing) (hr : meth.sig.returnType = (some .boolean)) (hml : c.maxLocals = 2) (hown : s.vm.findClass RX11 = some m.cls) (hts : ∀ w ∈ wzX11_isKindOrNothing, w.before args s = true) (hlocks : meth.locks = false) (hZ : zAMB s) (hA : ∀ q : Nat, s.heap.size ≤ q → A q) (hK : va_K (dC, dI) vwCl (cT Q) s) : ∀ (σ : CS) (H : Heap) (locs : List Loc) (ls : Array Slot), f_X11_isKindOrNothing_16 N σ = some R → z9h ≤ CS.hs σ → CP dC dI Q A s.heap σ H locs → lv_has ls 2 [] → W p l e ({ frames := 2, cells := CS.hs R.2 - z9h, slots := 17 * (CS.hs R.2 - z9h), locals := 60 * 2 }) s m args below meth c H locs (CS.hs σ - z9h) (17 * (CS.hs σ - z9h)) (MQ below (va_Qi (fun (r : Int32) (_ : Unit) => r = R.1) (fun (_ : Unit) (t : State) => zPost dC dI A (cW Q R.2) (cT Q) t ∧ t.heap.size = CS.hs R.2) A) args s (CS.hs R.2 - z9h) (17 * (CS.hs R.2 - z9h)) A) (F0 m 16 ls []) := by
  intro σ  H locs ls hf h0 hC hl
  unfold f_X11_isKindOrNothing_16 at hf
  refine lv_iconst (v := 1) hx hb dX11_isKindOrNothing_16 (by decide) ?_
  refine lv_goto (tgt := 21) hx hb dX11_isKindOrNothing_17 (by decide) ?_
  obtain rfl := Option.some.inj hf
  exact W.zret (v := 1) hx hb hr (rfl) (fun t ht hW => ⟨⟨1, (), rfl, rfl, ⟨by rw [ht]; exact hC.1, va_K.moved hW.alike hK, hC.2.1⟩, by rw [ht]; exact hC.2.2.2⟩, hC.2.2.1.F ht⟩) hC.2.2.1.2.2 dX11_isKindOrNothing_21
set_option maxHeartbeats 4000000 in
set_option maxRecDepth 100000 in
theorem c_X11_isKindOrNothing (l : Launch) (dC : Nat → ClassId) (dI : Nat → Nat → Nat) (Q : CQ) (N : Nat) (σ : CS) (x1 : Int32) (R : Int32 × CS) (hf : f_X11_isKindOrNothing N σ x1 = some R) : Met l yX11_isKindOrNothing wzX11_isKindOrNothing ({ frames := 2, cells := CS.hs R.2 - CS.hs σ, slots := 17 * (CS.hs R.2 - CS.hs σ), locals := 60 * 2 }) (va_Pc [.ref (Q.o 0), .int x1] (zPre dC dI (CS.hs σ) (cW Q σ) (cT Q))) (va_Qi (fun (r : Int32) (_ : Unit) => r = R.1) (fun (_ : Unit) (t : State) => zPost dC dI (va_A (cW Q σ) (CS.hs σ)) (cW Q R.2) (cT Q) t ∧ t.heap.size = CS.hs R.2) (va_A (cW Q σ) (CS.hs σ))) (CS.hs R.2 - CS.hs σ) (17 * (CS.hs R.2 - CS.hs σ)) (va_A (cW Q σ) (CS.hs σ)) := by
  refine Met.ofW (cc := cX11_isKindOrNothing) (maxL := 2) (ret := (some .boolean)) (by decide) rfl ?_
  intro p e s m args below meth c s₁ B hml hv
  obtain ⟨rfl, hsz, hZ, hP, hK, hD0⟩ := hv
  have hx := B.exec
  have hb := B.bytes
  have hr := B.returns
  have hts := atoms_spec (ws := wzX11_isKindOrNothing) B.pre
  have hown : s.vm.findClass RX11 = some m.cls := findClass_of_methodNamed B.named
  have hlocks := B.notSynchronized
  have hD := hD0.self (sz := CS.hs σ)
  generalize hAe : va_A (cW Q σ) (CS.hs σ) = A at hD ⊢
  have hA : ∀ q : Nat, s.heap.size ≤ q → A q := fun q h => by rw [← hAe]; exact Or.inr (hsz ▸ h)
  have hC : CP dC dI Q A s.heap σ s.heap [] := ⟨hP, hD, va_S.rf, hsz⟩
  have h0 : CS.hs σ ≤ CS.hs σ := Nat.le_refl _
  have hl := lv_entry ([.ref (Q.o 0), .int x1]) (n := 2) (Nat.le_of_ble_eq_true rfl)
  rw [lg_entry_eq]
  generalize (lg_sl ([.ref (Q.o 0), .int x1]) ++ List.replicate (2 - (lg_sl ([.ref (Q.o 0), .int x1])).length) Slot.unset).toArray = ls at hl ⊢
  have hl : lv_has ls 2 [(0, .ref (Q.o 0)), (1, .int x1)] := hl
  unfold f_X11_isKindOrNothing at hf
  refine W.widen (k := CS.hs σ - CS.hs σ) (n := 17 * (CS.hs σ - CS.hs σ)) (Nat.zero_le _) (Nat.zero_le _) ?_
  refine lv_iload_n hx hb dX11_isKindOrNothing_0 rfl (lv_at hl 1 rfl) ?_
  refine lv_iconst (v := (-1)) hx hb dX11_isKindOrNothing_1 (by decide) ?_
  refine lv_icmp_eq (tgt := 16) hx hb dX11_isKindOrNothing_2 (by decide) (fun c1 => ?_) (fun c1 => ?_)
  ·
    replace hf := (if_pos c1).symm.trans hf
    exact j_X11_isKindOrNothing_16 l dC dI Q N (CS.hs σ) R hx hb hr hml hown hts hlocks hZ hA hK σ _ _ _ hf h0 hC (lv_sub hl [] rfl)
  ·
    replace hf := (if_neg c1).symm.trans hf
    refine lv_aload_n hx hb dX11_isKindOrNothing_5 rfl (lv_at hl 0 rfl) ?_
    refine cG_1 hx hb hts i_X11_isKindOrNothing_X11 hown hK hC (hts (.fieldLink RX11 16 "StatementRules2" "told" "LStatementRules2$Told;") k_X11_isKindOrNothing_fieldLink_RX11_16_SR_told_LSR_Told) (fun _ q9 => q9) dX11_isKindOrNothing_6 ?_
    refine lv_iload_n hx hb dX11_isKindOrNothing_9 rfl (lv_at hl 1 rfl) ?_
    obtain ⟨p2, hcp2, hf⟩ := hf_bind hf
    have hm3 : CS.hs σ ≤ CS.hs p2.2 := Mono.go hcp2 (m_X10_isKind N σ x1)
    have hr9 : CS.hs p2.2 ≤ CS.hs R.2 := Mono.go hf (mono_ite (mono_some (Nat.le_refl _)) (m_X11_isKindOrNothing_16 N p2.2))
    have hFc := cFree hC hA
    refine va_calli (va_runV (As := [.int x1]) (rest := []) ⟨hx, hb, hml, hown, hts⟩ (c_X10_isKind l dC dI Q N σ x1 p2 hcp2) (cwV 1 hts hX11_isKindOrNothing_X10_isKind_v62 rfl rfl rfl (by decide +kernel) ⟨(show 1 + 1 ≤ 2 by omega), (show 8 + (2 + 11) + 60 * 1 ≤ 60 * 2 by omega)⟩) ⟨zPre.blind, va_recv hK hC.1 (ci := 9) (q0 := 1) rfl rfl, cPre_go hZ hK hC⟩ rfl rfl hl.1 rfl (lv_room (Nat.le_of_ble_eq_true rfl)) dX11_isKindOrNothing_10 (cAcc h0 hm3 hr9)) hC.2.2.1 (fun q _ h => hFc q h) hFc (fun r4 u9 t9 H1 locs ht hvm hw hB hz1 hk1 hS => ?_)
    obtain ⟨⟨hP, hK1, hD1⟩, hsz1⟩ := hB
    rw [ht] at hP hsz1
    have hC : CP dC dI Q A s.heap p2.2 H1 locs := ⟨hP, hD1.weaken (fun _ _ _ h => hFc _ h), hS, hsz1⟩
    generalize H1 = H at hC ⊢
    have h5 : (CS.hs σ) ≤ CS.hs p2.2 := Nat.le_trans h0 hm3
    refine W.widen (k := CS.hs p2.2 - (CS.hs σ)) (n := 17 * (CS.hs p2.2 - (CS.hs σ))) (cAcc2 h0 hm3) (cAcc3 h0 hm3) ?_
    obtain rfl : r4 = p2.1 := hw
    refine lv_if_eq (tgt := 20) hx hb dX11_isKindOrNothing_13 (by decide) (fun c6 => ?_) (fun c6 => ?_)
    ·
      replace hf := (if_pos c6).symm.trans hf
      refine lv_iconst (v := 0) hx hb dX11_isKindOrNothing_20 (by decide) ?_
      obtain rfl := Option.some.inj hf
      exact W.zret (v := 0) hx hb hr (rfl) (fun t ht hW => ⟨⟨0, (), rfl, rfl, ⟨by rw [ht]; exact hC.1, va_K.moved hW.alike hK, hC.2.1⟩, by rw [ht]; exact hC.2.2.2⟩, hC.2.2.1.F ht⟩) hC.2.2.1.2.2 dX11_isKindOrNothing_21
    ·
      replace hf := (if_neg c6).symm.trans hf
      exact j_X11_isKindOrNothing_16 l dC dI Q N (CS.hs σ) R hx hb hr hml hown hts hlocks hZ hA hK p2.2 _ _ _ hf h5 hC (lv_sub hl [] rfl)
theorem k_X11_resource_fieldLink_RX11_16_SR_told_LSR_Told : Cond.fieldLink RX11 16 "StatementRules2" "told" "LStatementRules2$Told;" ∈ wzX11_resource := List.mem_cons_of_mem _ (List.mem_append_left _ (List.mem_of_getElem? (i := 0) rfl))
theorem i_X11_resource_X11 : ∀ w ∈ wsX110, w ∈ wzX11_resource := fun _ h => List.mem_cons_of_mem _ (List.mem_append_right _ (List.mem_append_left _ (h)))
set_option maxHeartbeats 4000000 in
set_option maxRecDepth 100000 in
theorem j_X11_resource_19 {p : Program} {e : Env} {s : State} {m : MethodId} {args : Array Value} {below : List Frame} {meth : Method} {c : Code} {A : Nat → Prop} (l : Launch) (dC : Nat → ClassId) (dI : Nat → Nat → Nat) (Q : CQ) (N : Nat) (z9h : Nat) (R : Int32 × CS) (hx : p.tables.exec = Jvm.exec) (hb : c.code = cX11_resource) (hr : meth.sig.returnType = (some .int)) (hml : c.maxLocals = 5) (hown : s.vm.findClass RX11 = some m.cls) (hts : ∀ w ∈ wzX11_resource, w.before args s = true) (hlocks : meth.locks = false) (hZ : zAMB s) (hA : ∀ q : Nat, s.heap.size ≤ q → A q) (hK : va_K (dC, dI) vwCl (cT Q) s) : ∀ (σ : CS) (H : Heap) (locs : List Loc) (ls : Array Slot), f_X11_resource_19 N σ = some R → z9h ≤ CS.hs σ → CP dC dI Q A s.heap σ H locs → lv_has ls 5 [] → W p l e ({ frames := 3, cells := CS.hs R.2 - z9h, slots := 17 * (CS.hs R.2 - z9h), locals := 60 * 3 }) s m args below meth c H locs (CS.hs σ - z9h) (17 * (CS.hs σ - z9h)) (MQ below (va_Qi (fun (r : Int32) (_ : Unit) => r = R.1) (fun (_ : Unit) (t : State) => zPost dC dI A (cW Q R.2) (cT Q) t ∧ t.heap.size = CS.hs R.2) A) args s (CS.hs R.2 - z9h) (17 * (CS.hs R.2 - z9h)) A) (F0 m 19 ls []) := by
  intro σ  H locs ls hf h0 hC hl
  unfold f_X11_resource_19 at hf
  refine lv_iconst (v := (-1)) hx hb dX11_resource_19 (by decide) ?_
  obtain rfl := Option.some.inj hf
  exact W.iret (v := (-1)) hx hb hr (fun t ht hW => ⟨⟨(-1), (), rfl, rfl, ⟨by rw [ht]; exact hC.1, va_K.moved hW.alike hK, hC.2.1⟩, by rw [ht]; exact hC.2.2.2⟩, hC.2.2.1.F ht⟩) hC.2.2.1.2.2 dX11_resource_20
set_option maxHeartbeats 4000000 in
set_option maxRecDepth 100000 in
theorem j_X11_resource_38 {p : Program} {e : Env} {s : State} {m : MethodId} {args : Array Value} {below : List Frame} {meth : Method} {c : Code} {A : Nat → Prop} (l : Launch) (dC : Nat → ClassId) (dI : Nat → Nat → Nat) (Q : CQ) (N : Nat) (z9h : Nat) (R : Int32 × CS) (hx : p.tables.exec = Jvm.exec) (hb : c.code = cX11_resource) (hr : meth.sig.returnType = (some .int)) (hml : c.maxLocals = 5) (hown : s.vm.findClass RX11 = some m.cls) (hts : ∀ w ∈ wzX11_resource, w.before args s = true) (hlocks : meth.locks = false) (hZ : zAMB s) (hA : ∀ q : Nat, s.heap.size ≤ q → A q) (hK : va_K (dC, dI) vwCl (cT Q) s) : ∀ (σ : CS) (H : Heap) (locs : List Loc) (ls : Array Slot), f_X11_resource_38 N σ = some R → z9h ≤ CS.hs σ → CP dC dI Q A s.heap σ H locs → lv_has ls 5 [] → W p l e ({ frames := 3, cells := CS.hs R.2 - z9h, slots := 17 * (CS.hs R.2 - z9h), locals := 60 * 3 }) s m args below meth c H locs (CS.hs σ - z9h) (17 * (CS.hs σ - z9h)) (MQ below (va_Qi (fun (r : Int32) (_ : Unit) => r = R.1) (fun (_ : Unit) (t : State) => zPost dC dI A (cW Q R.2) (cT Q) t ∧ t.heap.size = CS.hs R.2) A) args s (CS.hs R.2 - z9h) (17 * (CS.hs R.2 - z9h)) A) (F0 m 38 ls []) := by
  intro σ  H locs ls hf h0 hC hl
  unfold f_X11_resource_38 at hf
  refine lv_iconst (v := (-1)) hx hb dX11_resource_38 (by decide) ?_
  obtain rfl := Option.some.inj hf
  exact W.iret (v := (-1)) hx hb hr (fun t ht hW => ⟨⟨(-1), (), rfl, rfl, ⟨by rw [ht]; exact hC.1, va_K.moved hW.alike hK, hC.2.1⟩, by rw [ht]; exact hC.2.2.2⟩, hC.2.2.1.F ht⟩) hC.2.2.1.2.2 dX11_resource_39
set_option maxHeartbeats 4000000 in
set_option maxRecDepth 100000 in
theorem c_X11_resource (l : Launch) (dC : Nat → ClassId) (dI : Nat → Nat → Nat) (Q : CQ) (N : Nat) (σ : CS) (x1 : Int32) (x2 : Int32) (x3 : Int32) (x4 : Int32) (R : Int32 × CS) (hf : f_X11_resource N σ x1 x2 x3 x4 = some R) : Met l yX11_resource wzX11_resource ({ frames := 3, cells := CS.hs R.2 - CS.hs σ, slots := 17 * (CS.hs R.2 - CS.hs σ), locals := 60 * 3 }) (va_Pc [.ref (Q.o 0), .int x1, .int x2, .int x3, .int x4] (zPre dC dI (CS.hs σ) (cW Q σ) (cT Q))) (va_Qi (fun (r : Int32) (_ : Unit) => r = R.1) (fun (_ : Unit) (t : State) => zPost dC dI (va_A (cW Q σ) (CS.hs σ)) (cW Q R.2) (cT Q) t ∧ t.heap.size = CS.hs R.2) (va_A (cW Q σ) (CS.hs σ))) (CS.hs R.2 - CS.hs σ) (17 * (CS.hs R.2 - CS.hs σ)) (va_A (cW Q σ) (CS.hs σ)) := by
  refine Met.ofW (cc := cX11_resource) (maxL := 5) (ret := (some .int)) (by decide) rfl ?_
  intro p e s m args below meth c s₁ B hml hv
  obtain ⟨rfl, hsz, hZ, hP, hK, hD0⟩ := hv
  have hx := B.exec
  have hb := B.bytes
  have hr := B.returns
  have hts := atoms_spec (ws := wzX11_resource) B.pre
  have hown : s.vm.findClass RX11 = some m.cls := findClass_of_methodNamed B.named
  have hlocks := B.notSynchronized
  have hD := hD0.self (sz := CS.hs σ)
  generalize hAe : va_A (cW Q σ) (CS.hs σ) = A at hD ⊢
  have hA : ∀ q : Nat, s.heap.size ≤ q → A q := fun q h => by rw [← hAe]; exact Or.inr (hsz ▸ h)
  have hC : CP dC dI Q A s.heap σ s.heap [] := ⟨hP, hD, va_S.rf, hsz⟩
  have h0 : CS.hs σ ≤ CS.hs σ := Nat.le_refl _
  have hl := lv_entry ([.ref (Q.o 0), .int x1, .int x2, .int x3, .int x4]) (n := 5) (Nat.le_of_ble_eq_true rfl)
  rw [lg_entry_eq]
  generalize (lg_sl ([.ref (Q.o 0), .int x1, .int x2, .int x3, .int x4]) ++ List.replicate (5 - (lg_sl ([.ref (Q.o 0), .int x1, .int x2, .int x3, .int x4])).length) Slot.unset).toArray = ls at hl ⊢
  have hl : lv_has ls 5 [(0, .ref (Q.o 0)), (1, .int x1), (2, .int x2), (3, .int x3), (4, .int x4)] := hl
  unfold f_X11_resource at hf
  refine W.widen (k := CS.hs σ - CS.hs σ) (n := 17 * (CS.hs σ - CS.hs σ)) (Nat.zero_le _) (Nat.zero_le _) ?_
  refine lv_iload_n hx hb dX11_resource_0 rfl (lv_at hl 1 rfl) ?_
  refine lv_if_lt (tgt := 19) hx hb dX11_resource_1 (by decide) (fun c1 => ?_) (fun c1 => ?_)
  ·
    replace hf := (if_pos c1).symm.trans hf
    exact j_X11_resource_19 l dC dI Q N (CS.hs σ) R hx hb hr hml hown hts hlocks hZ hA hK σ _ _ _ hf h0 hC (lv_sub hl [] rfl)
  ·
    replace hf := (if_neg c1).symm.trans hf
    refine lv_iload_n hx hb dX11_resource_4 rfl (lv_at hl 1 rfl) ?_
    refine lv_bipush (v := 8) hx hb dX11_resource_5 (by decide) ?_
    refine lv_icmp_ge (tgt := 19) hx hb dX11_resource_7 (by decide) (fun c2 => ?_) (fun c2 => ?_)
    ·
      replace hf := (if_pos c2).symm.trans hf
      exact j_X11_resource_19 l dC dI Q N (CS.hs σ) R hx hb hr hml hown hts hlocks hZ hA hK σ _ _ _ hf h0 hC (lv_sub hl [] rfl)
    ·
      replace hf := (if_neg c2).symm.trans hf
      refine lv_iload_n hx hb dX11_resource_10 rfl (lv_at hl 2 rfl) ?_
      refine lv_if_lt (tgt := 19) hx hb dX11_resource_11 (by decide) (fun c3 => ?_) (fun c3 => ?_)
      ·
        replace hf := (if_pos c3).symm.trans hf
        exact j_X11_resource_19 l dC dI Q N (CS.hs σ) R hx hb hr hml hown hts hlocks hZ hA hK σ _ _ _ hf h0 hC (lv_sub hl [] rfl)
      ·
        replace hf := (if_neg c3).symm.trans hf
        refine lv_iload_n hx hb dX11_resource_14 rfl (lv_at hl 2 rfl) ?_
        refine lv_iconst (v := 1) hx hb dX11_resource_15 (by decide) ?_
        refine lv_icmp_le (tgt := 21) hx hb dX11_resource_16 (by decide) (fun c4 => ?_) (fun c4 => ?_)
        ·
          replace hf := (if_pos c4).symm.trans hf
          refine lv_aload_n hx hb dX11_resource_21 rfl (lv_at hl 0 rfl) ?_
          refine lv_iload_n hx hb dX11_resource_22 rfl (lv_at hl 3 rfl) ?_
          obtain ⟨p5, hcp5, hf⟩ := hf_bind hf
          have hm6 : CS.hs σ ≤ CS.hs p5.2 := Mono.go hcp5 (m_X11_isKindOrNothing N σ x3)
          have hr9 : CS.hs p5.2 ≤ CS.hs R.2 := Mono.go hf (mono_ite (m_X11_resource_38 N p5.2) (mono_bind (m_X11_isKindOrNothing N p5.2 x4) (fun p10 => (mono_ite (m_X11_resource_38 N p10.2) (mono_bind (m_X10_tellResource N p10.2 x1 x2 x3 x4) (fun p15 => (mono_some (Nat.le_refl _))))))))
          have hFc := cFree hC hA
          refine va_calli (va_runV (As := [.int x3]) (rest := []) ⟨hx, hb, hml, hown, hts⟩ (c_X11_isKindOrNothing l dC dI Q N σ x3 p5 hcp5) (cwV 1 hts hX11_resource_X11_isKindOrNothing_v74 rfl rfl rfl (by decide +kernel) ⟨(show 2 + 1 ≤ 3 by omega), (show 8 + (2 + 11) + 60 * 2 ≤ 60 * 3 by omega)⟩) ⟨zPre.blind, va_recv hK hC.1 (ci := 10) (q0 := 0) rfl rfl, cPre_go hZ hK hC⟩ rfl rfl hl.1 rfl (lv_room (Nat.le_of_ble_eq_true rfl)) dX11_resource_23 (cAcc h0 hm6 hr9)) hC.2.2.1 (fun q _ h => hFc q h) hFc (fun r7 u9 t9 H1 locs ht hvm hw hB hz1 hk1 hS => ?_)
          obtain ⟨⟨hP, hK1, hD1⟩, hsz1⟩ := hB
          rw [ht] at hP hsz1
          have hC : CP dC dI Q A s.heap p5.2 H1 locs := ⟨hP, hD1.weaken (fun _ _ _ h => hFc _ h), hS, hsz1⟩
          generalize H1 = H at hC ⊢
          have h8 : (CS.hs σ) ≤ CS.hs p5.2 := Nat.le_trans h0 hm6
          refine W.widen (k := CS.hs p5.2 - (CS.hs σ)) (n := 17 * (CS.hs p5.2 - (CS.hs σ))) (cAcc2 h0 hm6) (cAcc3 h0 hm6) ?_
          obtain rfl : r7 = p5.1 := hw
          refine lv_if_eq (tgt := 38) hx hb dX11_resource_26 (by decide) (fun c9 => ?_) (fun c9 => ?_)
          ·
            replace hf := (if_pos c9).symm.trans hf
            exact j_X11_resource_38 l dC dI Q N (CS.hs σ) R hx hb hr hml hown hts hlocks hZ hA hK p5.2 _ _ _ hf h8 hC (lv_sub hl [] rfl)
          ·
            replace hf := (if_neg c9).symm.trans hf
            refine lv_aload_n hx hb dX11_resource_29 rfl (lv_at hl 0 rfl) ?_
            refine lv_iload hx hb dX11_resource_30 (lv_at hl 4 rfl) ?_
            obtain ⟨p10, hcp10, hf⟩ := hf_bind hf
            have hm11 : CS.hs p5.2 ≤ CS.hs p10.2 := Mono.go hcp10 (m_X11_isKindOrNothing N p5.2 x4)
            have hr9 : CS.hs p10.2 ≤ CS.hs R.2 := Mono.go hf (mono_ite (m_X11_resource_38 N p10.2) (mono_bind (m_X10_tellResource N p10.2 x1 x2 x3 x4) (fun p15 => (mono_some (Nat.le_refl _)))))
            have hFc := cFree hC hA
            refine va_calli (va_runV (As := [.int x4]) (rest := []) ⟨hx, hb, hml, hown, hts⟩ (c_X11_isKindOrNothing l dC dI Q N p5.2 x4 p10 hcp10) (cwV 1 hts hX11_resource_X11_isKindOrNothing_v74 rfl rfl rfl (by decide +kernel) ⟨(show 2 + 1 ≤ 3 by omega), (show 8 + (2 + 11) + 60 * 2 ≤ 60 * 3 by omega)⟩) ⟨zPre.blind, va_recv hK hC.1 (ci := 10) (q0 := 0) rfl rfl, cPre_go hZ hK hC⟩ rfl rfl hl.1 rfl (lv_room (Nat.le_of_ble_eq_true rfl)) dX11_resource_32 (cAcc h8 hm11 hr9)) hC.2.2.1 (fun q _ h => hFc q h) hFc (fun r12 u9 t9 H1 locs ht hvm hw hB hz1 hk1 hS => ?_)
            obtain ⟨⟨hP, hK1, hD1⟩, hsz1⟩ := hB
            rw [ht] at hP hsz1
            have hC : CP dC dI Q A s.heap p10.2 H1 locs := ⟨hP, hD1.weaken (fun _ _ _ h => hFc _ h), hS, hsz1⟩
            generalize H1 = H at hC ⊢
            have h13 : (CS.hs σ) ≤ CS.hs p10.2 := Nat.le_trans h8 hm11
            refine W.widen (k := CS.hs p10.2 - (CS.hs σ)) (n := 17 * (CS.hs p10.2 - (CS.hs σ))) (cAcc2 h8 hm11) (cAcc3 h8 hm11) ?_
            obtain rfl : r12 = p10.1 := hw
            refine lv_if_ne (tgt := 40) hx hb dX11_resource_35 (by decide) (fun c14 => ?_) (fun c14 => ?_)
            ·
              replace hf := (if_neg c14).symm.trans hf
              refine lv_aload_n hx hb dX11_resource_40 rfl (lv_at hl 0 rfl) ?_
              refine cG_1 hx hb hts i_X11_resource_X11 hown hK hC (hts (.fieldLink RX11 16 "StatementRules2" "told" "LStatementRules2$Told;") k_X11_resource_fieldLink_RX11_16_SR_told_LSR_Told) (fun _ q9 => q9) dX11_resource_41 ?_
              refine lv_iload_n hx hb dX11_resource_44 rfl (lv_at hl 1 rfl) ?_
              refine lv_iload_n hx hb dX11_resource_45 rfl (lv_at hl 2 rfl) ?_
              refine lv_iload_n hx hb dX11_resource_46 rfl (lv_at hl 3 rfl) ?_
              refine lv_iload hx hb dX11_resource_47 (lv_at hl 4 rfl) ?_
              obtain ⟨p15, hcp15, hf⟩ := hf_bind hf
              have hm16 : CS.hs p10.2 ≤ CS.hs p15.2 := Mono.go hcp15 (m_X10_tellResource N p10.2 x1 x2 x3 x4)
              have hr9 : CS.hs p15.2 ≤ CS.hs R.2 := Mono.go hf (mono_some (Nat.le_refl _))
              have hFc := cFree hC hA
              refine va_callv (va_runV (As := [.int x1, .int x2, .int x3, .int x4]) (rest := []) ⟨hx, hb, hml, hown, hts⟩ (c_X10_tellResource l dC dI Q N p10.2 x1 x2 x3 x4 p15 hcp15) (cwV 4 hts hX11_resource_X10_tellResource_v77 rfl rfl rfl (by decide +kernel) ⟨(show 2 + 1 ≤ 3 by omega), (show 8 + (5 + 11) + 60 * 2 ≤ 60 * 3 by omega)⟩) ⟨zPre.blind, va_recv hK hC.1 (ci := 9) (q0 := 1) rfl rfl, cPre_go hZ hK hC⟩ rfl rfl hl.1 rfl (lv_room (Nat.le_of_ble_eq_true rfl)) dX11_resource_49 (cAcc h13 hm16 hr9)) hC.2.2.1 (fun q _ h => hFc q h) hFc (fun u9 t9 H1 locs ht hvm hw hB hz1 hk1 hS => ?_)
              obtain ⟨⟨hP, hK1, hD1⟩, hsz1⟩ := hB
              rw [ht] at hP hsz1
              have hC : CP dC dI Q A s.heap p15.2 H1 locs := ⟨hP, hD1.weaken (fun _ _ _ h => hFc _ h), hS, hsz1⟩
              generalize H1 = H at hC ⊢
              have h18 : (CS.hs σ) ≤ CS.hs p15.2 := Nat.le_trans h13 hm16
              refine W.widen (k := CS.hs p15.2 - (CS.hs σ)) (n := 17 * (CS.hs p15.2 - (CS.hs σ))) (cAcc2 h13 hm16) (cAcc3 h13 hm16) ?_
              refine lv_iconst (v := 1) hx hb dX11_resource_52 (by decide) ?_
              obtain rfl := Option.some.inj hf
              exact W.iret (v := 1) hx hb hr (fun t ht hW => ⟨⟨1, (), rfl, rfl, ⟨by rw [ht]; exact hC.1, va_K.moved hW.alike hK, hC.2.1⟩, by rw [ht]; exact hC.2.2.2⟩, hC.2.2.1.F ht⟩) hC.2.2.1.2.2 dX11_resource_53
            ·
              replace hf := (if_pos c14).symm.trans hf
              exact j_X11_resource_38 l dC dI Q N (CS.hs σ) R hx hb hr hml hown hts hlocks hZ hA hK p10.2 _ _ _ hf h13 hC (lv_sub hl [] rfl)
        ·
          replace hf := (if_neg c4).symm.trans hf
          exact j_X11_resource_19 l dC dI Q N (CS.hs σ) R hx hb hr hml hown hts hlocks hZ hA hK σ _ _ _ hf h0 hC (lv_sub hl [] rfl)
