theorem k_X7_pushLoop_fieldLink_RX7_14_SR_Statements_opens_LSR_Opens : Cond.fieldLink RX7 14 "StatementRules2$Statements" "opens" "LStatementRules2$Opens;" ∈ wzX7_pushLoop := List.mem_cons_of_mem _ (List.mem_append_left _ (List.mem_of_getElem? (i := 0) rfl))
theorem i_X7_pushLoop_X7 : ∀ w ∈ wsX70, w ∈ wzX7_pushLoop := fun _ h => List.mem_cons_of_mem _ (List.mem_append_right _ (List.mem_append_left _ (h)))
theorem k_X7_pushLoop_fieldLink_RX7_68_SR_Statements_depth_I : Cond.fieldLink RX7 68 "StatementRules2$Statements" "depth" "I" ∈ wzX7_pushLoop := List.mem_cons_of_mem _ (List.mem_append_left _ (List.mem_of_getElem? (i := 1) rfl))
theorem k_X7_pushLoop_fieldLink_RX7_29_SR_Statements_names_LSR_Names : Cond.fieldLink RX7 29 "StatementRules2$Statements" "names" "LStatementRules2$Names;" ∈ wzX7_pushLoop := List.mem_cons_of_mem _ (List.mem_append_left _ (List.mem_of_getElem? (i := 2) rfl))
theorem k_X7_pushLoop_sameField_SR_Statements_SR_Formulas_names_LSR_Names : Cond.sameField "StatementRules2$Statements" "StatementRules2$Formulas" "names" "LStatementRules2$Names;" ∈ wzX7_pushLoop := List.mem_cons_of_mem _ (List.mem_append_left _ (List.mem_of_getElem? (i := 3) rfl))
theorem i_X7_pushLoop_X4 : ∀ w ∈ wsX40, w ∈ wzX7_pushLoop := fun _ h => List.mem_cons_of_mem _ (List.mem_append_right _ (List.mem_append_right _ (List.mem_append_left _ (h))))
theorem i_X7_pushLoop_X5 : ∀ w ∈ wsX50, w ∈ wzX7_pushLoop := fun _ h => List.mem_cons_of_mem _ (List.mem_append_right _ (List.mem_append_right _ (List.mem_append_right _ (List.mem_append_left _ (h)))))
set_option maxHeartbeats 4000000 in
set_option maxRecDepth 100000 in
theorem c_X7_pushLoop (l : Launch) (dC : Nat → ClassId) (dI : Nat → Nat → Nat) (Q : CQ) (N : Nat) (σ : CS) (x1 : Int32) (x2 : Int32) (x3 : Int32) (R : Option Nat × CS) (hf : f_X7_pushLoop N σ x1 x2 x3 = some R) : Met l yX7_pushLoop wzX7_pushLoop ({ frames := 3, cells := CS.hs R.2 - CS.hs σ, slots := 17 * (CS.hs R.2 - CS.hs σ), locals := 60 * 3 }) (va_Pc [.ref (Q.o 3), .int x1, .int x2, .int x3] (zPre dC dI (CS.hs σ) (cW Q σ) (cT Q))) (va_Qq (fun (r : Option Nat) (_ : Unit) => r = R.1) (fun (_ : Unit) (t : State) => zPost dC dI (va_A (cW Q σ) (CS.hs σ)) (cW Q R.2) (cT Q) t ∧ t.heap.size = CS.hs R.2) (va_A (cW Q σ) (CS.hs σ))) (CS.hs R.2 - CS.hs σ) (17 * (CS.hs R.2 - CS.hs σ)) (va_A (cW Q σ) (CS.hs σ)) := by
  refine Met.ofW (cc := cX7_pushLoop) (maxL := 5) (ret := (some (.object "StatementRules2$Open"))) (by decide) rfl ?_
  intro p e s m args below meth c s₁ B hml hv
  obtain ⟨rfl, hsz, hZ, hP, hK, hD0⟩ := hv
  have hx := B.exec
  have hb := B.bytes
  have hr := B.returns
  have hts := atoms_spec (ws := wzX7_pushLoop) B.pre
  have hown : s.vm.findClass RX7 = some m.cls := findClass_of_methodNamed B.named
  have hlocks := B.notSynchronized
  have hD := hD0.self (sz := CS.hs σ)
  generalize hAe : va_A (cW Q σ) (CS.hs σ) = A at hD ⊢
  have hA : ∀ q : Nat, s.heap.size ≤ q → A q := fun q h => by rw [← hAe]; exact Or.inr (hsz ▸ h)
  have hC : CP dC dI Q A s.heap σ s.heap [] := ⟨hP, hD, va_S.rf, hsz⟩
  have h0 : CS.hs σ ≤ CS.hs σ := Nat.le_refl _
  have hl := lv_entry ([.ref (Q.o 3), .int x1, .int x2, .int x3]) (n := 5) (Nat.le_of_ble_eq_true rfl)
  rw [lg_entry_eq]
  generalize (lg_sl ([.ref (Q.o 3), .int x1, .int x2, .int x3]) ++ List.replicate (5 - (lg_sl ([.ref (Q.o 3), .int x1, .int x2, .int x3])).length) Slot.unset).toArray = ls at hl ⊢
  have hl : lv_has ls 5 [(0, .ref (Q.o 3)), (1, .int x1), (2, .int x2), (3, .int x3)] := hl
  unfold f_X7_pushLoop at hf
  refine W.widen (k := CS.hs σ - CS.hs σ) (n := 17 * (CS.hs σ - CS.hs σ)) (Nat.zero_le _) (Nat.zero_le _) ?_
  refine lv_aload_n hx hb dX7_pushLoop_0 rfl (lv_at hl 0 rfl) ?_
  refine cG_35 hx hb hts i_X7_pushLoop_X7 hown hK hC (hts (.fieldLink RX7 14 "StatementRules2$Statements" "opens" "LStatementRules2$Opens;") k_X7_pushLoop_fieldLink_RX7_14_SR_Statements_opens_LSR_Opens) (fun _ q9 => q9) dX7_pushLoop_1 ?_
  refine lv_iload_n hx hb dX7_pushLoop_4 rfl (lv_at hl 1 rfl) ?_
  refine lv_aload_n hx hb dX7_pushLoop_5 rfl (lv_at hl 0 rfl) ?_
  refine cG_38 (v := (σ.i 38)) hx hb hts i_X7_pushLoop_X7 hown hK hC (hts (.fieldLink RX7 68 "StatementRules2$Statements" "depth" "I") k_X7_pushLoop_fieldLink_RX7_68_SR_Statements_depth_I) (fun _ q9 => q9) dX7_pushLoop_6 rfl ?_
  refine lv_aload_n hx hb dX7_pushLoop_9 rfl (lv_at hl 0 rfl) ?_
  refine cG_31 hx hb hts i_X7_pushLoop_X7 hown hK hC (hts (.fieldLink RX7 29 "StatementRules2$Statements" "names" "LStatementRules2$Names;") k_X7_pushLoop_fieldLink_RX7_29_SR_Statements_names_LSR_Names) (fun x9 q9 => u_same (hts (.sameField "StatementRules2$Statements" "StatementRules2$Formulas" "names" "LStatementRules2$Names;") k_X7_pushLoop_sameField_SR_Statements_SR_Formulas_names_LSR_Names) x9 q9) dX7_pushLoop_10 ?_
  refine cGN_50 (v := (σ.i 50)) hx hb hts i_X7_pushLoop_X4 hown hK hC (va_Nw.use rfl (hZ.1 (.fieldLinkNest RX7 33 "StatementRules2$Names" "count" "I" "StatementRules2") (by decide +kernel))) (fun _ q9 => q9) dX7_pushLoop_13 rfl ?_
  obtain ⟨p1, hcp1, hf⟩ := hf_bind hf
  have mo2 : CS.hs σ ≤ CS.hs p1.2 := Mono.go hcp1 (m_X6_push N σ x1 (σ.i 38) (σ.i 50))
  have hr9 : CS.hs p1.2 ≤ CS.hs R.2 := Mono.go hf (mono_oc mono_none (fun a6 => (mono_ite (mono_some (Nat.le_refl _)) mono_none)))
  have hFc := cFree hC hA
  refine va_callq (va_runV (As := [.int x1, .int (σ.i 38), .int (σ.i 50)]) (rest := []) ⟨hx, hb, hml, hown, hts⟩ (c_X6_push l dC dI Q N σ x1 (σ.i 38) (σ.i 50) p1 hcp1) (cwV 3 hts hX7_pushLoop_X6_push_v81 rfl rfl rfl (by decide +kernel) ⟨(show 2 + 1 ≤ 3 by omega), (show 8 + (6 + 11) + 60 * 2 ≤ 60 * 3 by omega)⟩) ⟨zPre.blind, va_recv hK hC.1 (ci := 5) (q0 := 6) rfl rfl, cPre_go hZ hK hC⟩ rfl rfl hl.1 rfl (lv_room (Nat.le_of_ble_eq_true rfl)) dX7_pushLoop_16 (cAcc h0 mo2 hr9)) hC.2.2.1 (fun q _ h => hFc q h) hFc (fun r3 u9 t9 H1 locs ht hvm hw hB hz1 hk1 hS => ?_)
  obtain ⟨⟨hP, hK1, hD1⟩, hsz1⟩ := hB
  rw [ht] at hP hsz1
  have hC : CP dC dI Q A s.heap p1.2 H1 locs := ⟨hP, hD1.weaken (fun _ _ _ h => hFc _ h), hS, hsz1⟩
  generalize H1 = H at hC ⊢
  have h4 : (CS.hs σ) ≤ CS.hs p1.2 := Nat.le_trans h0 mo2
  refine W.widen (k := CS.hs p1.2 - (CS.hs σ)) (n := 17 * (CS.hs p1.2 - (CS.hs σ))) (cAcc2 h0 mo2) (cAcc3 h0 mo2) ?_
  obtain rfl : r3 = p1.1 := hw
  rcases hf_oc hf with ⟨q5, hf⟩ | ⟨a6, q5, hf⟩
  ·
    refine W.eq (congrArg (fun v9 => F0 m 19 ls (va_rf v9 :: [])) q5) ?_
    refine W.eq (g2 := F0 m 19 ls (.null :: [])) rfl ?_
    refine lv_astoreN (lv' := [(4, .null), (0, .ref (Q.o 3)), (1, .int x1), (2, .int x2), (3, .int x3)]) hx hb dX7_pushLoop_19 hl (by decide) rfl (fun ls hl => ?_)
    refine lv_aloadN hx hb dX7_pushLoop_21 (lv_at hl 0 rfl) ?_
    refine lv_iload_n hx hb dX7_pushLoop_23 rfl (lv_at hl 3 rfl) ?_
    cases hf
  ·
    refine W.eq (congrArg (fun v9 => F0 m 19 ls (va_rf v9 :: [])) q5) ?_
    refine W.eq (g2 := F0 m 19 ls (.ref a6 :: [])) rfl ?_
    refine lv_astore (lv' := [(4, .ref a6), (0, .ref (Q.o 3)), (1, .int x1), (2, .int x2), (3, .int x3)]) hx hb dX7_pushLoop_19 hl (by decide) rfl (fun ls hl => ?_)
    refine lv_aload hx hb dX7_pushLoop_21 (lv_at hl 0 rfl) ?_
    refine lv_iload_n hx hb dX7_pushLoop_23 rfl (lv_at hl 3 rfl) ?_
    obtain ⟨b7, hf⟩ := hf_ite hf
    refine pPN_X5_10 (v := x2) hx hb hts i_X7_pushLoop_X5 hown hK hC (va_Nw.use rfl (hZ.1 (.fieldLinkNest RX7 284 "StatementRules2$Open" "next" "I" "StatementRules2") (by decide +kernel))) (fun _ q9 => q9) dX7_pushLoop_24 b7 (fun H locs hC => ?_)
    refine lv_aload hx hb dX7_pushLoop_27 (lv_at hl 0 rfl) ?_
    refine lv_iload_n hx hb dX7_pushLoop_29 rfl (lv_at hl 4 rfl) ?_
    refine pPN_X5_9 (v := x3) hx hb hts i_X7_pushLoop_X5 hown hK hC (va_Nw.use rfl (hZ.1 (.fieldLinkNest RX7 196 "StatementRules2$Open" "exit" "I" "StatementRules2") (by decide +kernel))) (fun _ q9 => q9) dX7_pushLoop_30 b7 (fun H locs hC => ?_)
    refine lv_aload hx hb dX7_pushLoop_33 (lv_at hl 0 rfl) ?_
    obtain rfl := Option.some.inj hf
    exact W.aret (v := .ref a6) hx hb hr (Or.inl ⟨_, rfl⟩) (Or.inr ⟨_, rfl⟩) (fun t ht hW => ⟨⟨(some a6), (), rfl, rfl, ⟨by rw [ht]; exact hC.1, va_K.moved hW.alike hK, hC.2.1⟩, by rw [ht]; exact hC.2.2.2⟩, hC.2.2.1.F ht⟩) hC.2.2.1.2.2 dX7_pushLoop_35
theorem k_X7_beginWhile_fieldLink_RX7_20_SR_Statements_code_LSR_Code : Cond.fieldLink RX7 20 "StatementRules2$Statements" "code" "LStatementRules2$Code;" ∈ wzX7_beginWhile := List.mem_cons_of_mem _ (List.mem_append_right _ (List.mem_append_right _ (List.mem_append_right _ (List.mem_append_right _ (List.mem_append_right _ (List.mem_append_right _ (List.mem_append_right _ (List.mem_append_right _ (List.mem_append_right _ (List.mem_append_right _ (List.mem_append_right _ (List.mem_append_right _ (List.mem_append_right _ (List.mem_append_right _ (List.mem_append_right _ (List.mem_append_left _ (List.mem_of_getElem? (i := 0) rfl)))))))))))))))))
theorem k_X7_beginWhile_sameField_SR_Statements_SR_Formulas_code_LSR_Code : Cond.sameField "StatementRules2$Statements" "StatementRules2$Formulas" "code" "LStatementRules2$Code;" ∈ wzX7_beginWhile := List.mem_cons_of_mem _ (List.mem_append_right _ (List.mem_append_right _ (List.mem_append_right _ (List.mem_append_right _ (List.mem_append_right _ (List.mem_append_right _ (List.mem_append_right _ (List.mem_append_right _ (List.mem_append_right _ (List.mem_append_right _ (List.mem_append_right _ (List.mem_append_right _ (List.mem_append_right _ (List.mem_append_right _ (List.mem_append_right _ (List.mem_append_left _ (List.mem_of_getElem? (i := 1) rfl)))))))))))))))))
theorem i_X7_beginWhile_X7 : ∀ w ∈ wsX70, w ∈ wzX7_beginWhile := fun _ h => List.mem_cons_of_mem _ (List.mem_append_right _ (List.mem_append_right _ (List.mem_append_right _ (List.mem_append_right _ (List.mem_append_right _ (List.mem_append_right _ (List.mem_append_right _ (List.mem_append_right _ (List.mem_append_right _ (List.mem_append_right _ (List.mem_append_right _ (List.mem_append_right _ (List.mem_append_right _ (List.mem_append_right _ (List.mem_append_right _ (List.mem_append_right _ (List.mem_append_right _ (List.mem_append_right _ (List.mem_append_right _ (List.mem_append_right _ (List.mem_append_right _ (List.mem_append_right _ (List.mem_append_right _ (List.mem_append_right _ (List.mem_append_right _ (List.mem_append_right _ (List.mem_append_right _ (List.mem_append_right _ (List.mem_append_right _ (List.mem_append_right _ (List.mem_append_right _ (List.mem_append_right _ (List.mem_append_right _ (List.mem_append_right _ (List.mem_append_right _ (List.mem_append_right _ (List.mem_append_left _ (h))))))))))))))))))))))))))))))))))))))
theorem k_X7_beginWhile_fieldLink_RX7_71_SR_Statements_tokens_LSR_Tokens : Cond.fieldLink RX7 71 "StatementRules2$Statements" "tokens" "LStatementRules2$Tokens;" ∈ wzX7_beginWhile := List.mem_cons_of_mem _ (List.mem_append_right _ (List.mem_append_right _ (List.mem_append_right _ (List.mem_append_right _ (List.mem_append_right _ (List.mem_append_right _ (List.mem_append_right _ (List.mem_append_right _ (List.mem_append_right _ (List.mem_append_right _ (List.mem_append_right _ (List.mem_append_right _ (List.mem_append_right _ (List.mem_append_right _ (List.mem_append_right _ (List.mem_append_left _ (List.mem_of_getElem? (i := 2) rfl)))))))))))))))))
theorem k_X7_beginWhile_sameField_SR_Statements_SR_Formulas_tokens_LSR_Tokens : Cond.sameField "StatementRules2$Statements" "StatementRules2$Formulas" "tokens" "LStatementRules2$Tokens;" ∈ wzX7_beginWhile := List.mem_cons_of_mem _ (List.mem_append_right _ (List.mem_append_right _ (List.mem_append_right _ (List.mem_append_right _ (List.mem_append_right _ (List.mem_append_right _ (List.mem_append_right _ (List.mem_append_right _ (List.mem_append_right _ (List.mem_append_right _ (List.mem_append_right _ (List.mem_append_right _ (List.mem_append_right _ (List.mem_append_right _ (List.mem_append_right _ (List.mem_append_left _ (List.mem_of_getElem? (i := 3) rfl)))))))))))))))))
theorem i_X7_beginWhile_X5 : ∀ w ∈ wsX50, w ∈ wzX7_beginWhile := fun _ h => List.mem_cons_of_mem _ (List.mem_append_right _ (List.mem_append_right _ (List.mem_append_right _ (List.mem_append_right _ (List.mem_append_right _ (List.mem_append_right _ (List.mem_append_right _ (List.mem_append_right _ (List.mem_append_right _ (List.mem_append_right _ (List.mem_append_right _ (List.mem_append_right _ (List.mem_append_right _ (List.mem_append_right _ (List.mem_append_right _ (List.mem_append_right _ (List.mem_append_right _ (List.mem_append_right _ (List.mem_append_right _ (List.mem_append_right _ (List.mem_append_right _ (List.mem_append_right _ (List.mem_append_right _ (List.mem_append_right _ (List.mem_append_right _ (List.mem_append_right _ (List.mem_append_right _ (List.mem_append_right _ (List.mem_append_right _ (List.mem_append_right _ (List.mem_append_right _ (List.mem_append_right _ (List.mem_append_right _ (List.mem_append_right _ (List.mem_append_right _ (List.mem_append_right _ (List.mem_append_right _ (List.mem_append_right _ (List.mem_append_right _ (List.mem_append_right _ (List.mem_append_right _ (List.mem_append_left _ (h)))))))))))))))))))))))))))))))))))))))))))
set_option maxHeartbeats 4000000 in
set_option maxRecDepth 100000 in
theorem c_X7_beginWhile (l : Launch) (dC : Nat → ClassId) (dI : Nat → Nat → Nat) (Q : CQ) (N : Nat) (d : Nat) (E1 : CS → Option (Unit × CS)) (E2 : CS → Option (Int32 × CS)) (hE1 : cMF l dC dI Q d E1) (hE2 : cMO l dC dI Q d E2) (hm1 : ∀ σ, Mono (CS.hs σ) (E1 σ)) (hm2 : ∀ σ, Mono (CS.hs σ) (E2 σ)) (σ : CS) (R : Unit × CS) (hf : f_X7_beginWhile N E1 E2 σ = some R) : Met l yX7_beginWhile wzX7_beginWhile ({ frames := (14 + 40 * d), cells := CS.hs R.2 - CS.hs σ, slots := 17 * (CS.hs R.2 - CS.hs σ), locals := 60 * (14 + 40 * d) }) (va_Pc [.ref (Q.o 3)] (zPre dC dI (CS.hs σ) (cW Q σ) (cT Q))) (va_Qv (fun (_ : Unit) => True) (fun (_ : Unit) (t : State) => zPost dC dI (va_A (cW Q σ) (CS.hs σ)) (cW Q R.2) (cT Q) t ∧ t.heap.size = CS.hs R.2) (va_A (cW Q σ) (CS.hs σ))) (CS.hs R.2 - CS.hs σ) (17 * (CS.hs R.2 - CS.hs σ)) (va_A (cW Q σ) (CS.hs σ)) := by
  refine Met.ofW (cc := cX7_beginWhile) (maxL := 4) (ret := none) (by decide) rfl ?_
  intro p e s m args below meth c s₁ B hml hv
  obtain ⟨rfl, hsz, hZ, hP, hK, hD0⟩ := hv
  have hx := B.exec
  have hb := B.bytes
  have hr := B.returns
  have hts := atoms_spec (ws := wzX7_beginWhile) B.pre
  have hown : s.vm.findClass RX7 = some m.cls := findClass_of_methodNamed B.named
  have hlocks := B.notSynchronized
  have hD := hD0.self (sz := CS.hs σ)
  generalize hAe : va_A (cW Q σ) (CS.hs σ) = A at hD ⊢
  have hA : ∀ q : Nat, s.heap.size ≤ q → A q := fun q h => by rw [← hAe]; exact Or.inr (hsz ▸ h)
  have hC : CP dC dI Q A s.heap σ s.heap [] := ⟨hP, hD, va_S.rf, hsz⟩
  have h0 : CS.hs σ ≤ CS.hs σ := Nat.le_refl _
  have hl := lv_entry ([.ref (Q.o 3)]) (n := 4) (Nat.le_of_ble_eq_true rfl)
  rw [lg_entry_eq]
  generalize (lg_sl ([.ref (Q.o 3)]) ++ List.replicate (4 - (lg_sl ([.ref (Q.o 3)])).length) Slot.unset).toArray = ls at hl ⊢
  have hl : lv_has ls 4 [(0, .ref (Q.o 3))] := hl
  unfold f_X7_beginWhile at hf
  refine W.widen (k := CS.hs σ - CS.hs σ) (n := 17 * (CS.hs σ - CS.hs σ)) (Nat.zero_le _) (Nat.zero_le _) ?_
  refine lv_aload_n hx hb dX7_beginWhile_0 rfl (lv_at hl 0 rfl) ?_
  refine cG_29 hx hb hts i_X7_beginWhile_X7 hown hK hC (hts (.fieldLink RX7 20 "StatementRules2$Statements" "code" "LStatementRules2$Code;") k_X7_beginWhile_fieldLink_RX7_20_SR_Statements_code_LSR_Code) (fun x9 q9 => u_same (hts (.sameField "StatementRules2$Statements" "StatementRules2$Formulas" "code" "LStatementRules2$Code;") k_X7_beginWhile_sameField_SR_Statements_SR_Formulas_code_LSR_Code) x9 q9) dX7_beginWhile_1 ?_
  obtain ⟨p1, hcp1, hf⟩ := hf_bind hf
  have mo2 : CS.hs σ ≤ CS.hs p1.2 := Mono.go hcp1 (m_X0_newTarget N σ)
  have hr9 : CS.hs p1.2 ≤ CS.hs R.2 := Mono.go hf (mono_bind (m_X0_newTarget N p1.2) (fun p5 => (mono_bind (m_X9_advance N p5.2) (fun p9 => (mono_bind (m_X0_aim N p9.2 p1.1) (fun p13 => (mono_bind (m_X7_conditionInside N E1 E2 hm1 hm2 p13.2) (fun p17 => (mono_bind (m_X0_add N p17.2 31 p5.1) (fun p21 => (mono_bind (m_X0_add N p21.2 51 0) (fun p25 => (mono_bind (m_X7_pushLoop N p25.2 205 p1.1 p5.1) (fun p29 => (mono_oc mono_none (fun a34 => (mono_ite (mono_ite (mono_some (Nat.le_refl _)) mono_none) mono_none)))))))))))))))))
  have hFc := cFree hC hA
  refine va_calli (va_runV (As := []) (rest := []) ⟨hx, hb, hml, hown, hts⟩ (c_X0_newTarget l dC dI Q N σ p1 hcp1) (cwV 0 hts hX7_beginWhile_X0_newTarget_v136 rfl rfl rfl (by decide +kernel) ⟨(show 2 + 1 ≤ (14 + 40 * d) by omega), (show 8 + (1 + 11) + 60 * 2 ≤ 60 * (14 + 40 * d) by omega)⟩) ⟨zPre.blind, va_recv hK hC.1 (ci := 0) (q0 := 2) rfl rfl, cPre_go hZ hK hC⟩ rfl rfl hl.1 rfl (lv_room (Nat.le_of_ble_eq_true rfl)) dX7_beginWhile_4 (cAcc h0 mo2 hr9)) hC.2.2.1 (fun q _ h => hFc q h) hFc (fun r3 u9 t9 H1 locs ht hvm hw hB hz1 hk1 hS => ?_)
  obtain ⟨⟨hP, hK1, hD1⟩, hsz1⟩ := hB
  rw [ht] at hP hsz1
  have hC : CP dC dI Q A s.heap p1.2 H1 locs := ⟨hP, hD1.weaken (fun _ _ _ h => hFc _ h), hS, hsz1⟩
  generalize H1 = H at hC ⊢
  have h4 : (CS.hs σ) ≤ CS.hs p1.2 := Nat.le_trans h0 mo2
  refine W.widen (k := CS.hs p1.2 - (CS.hs σ)) (n := 17 * (CS.hs p1.2 - (CS.hs σ))) (cAcc2 h0 mo2) (cAcc3 h0 mo2) ?_
  obtain rfl : r3 = p1.1 := hw
  refine lv_istore_n (lv' := [(1, .int p1.1), (0, .ref (Q.o 3))]) hx hb dX7_beginWhile_7 rfl hl (by decide) rfl (fun ls hl => ?_)
  refine lv_aload_n hx hb dX7_beginWhile_8 rfl (lv_at hl 1 rfl) ?_
  refine cG_29 hx hb hts i_X7_beginWhile_X7 hown hK hC (hts (.fieldLink RX7 20 "StatementRules2$Statements" "code" "LStatementRules2$Code;") k_X7_beginWhile_fieldLink_RX7_20_SR_Statements_code_LSR_Code) (fun x9 q9 => u_same (hts (.sameField "StatementRules2$Statements" "StatementRules2$Formulas" "code" "LStatementRules2$Code;") k_X7_beginWhile_sameField_SR_Statements_SR_Formulas_code_LSR_Code) x9 q9) dX7_beginWhile_9 ?_
  obtain ⟨p5, hcp5, hf⟩ := hf_bind hf
  have mo6 : CS.hs p1.2 ≤ CS.hs p5.2 := Mono.go hcp5 (m_X0_newTarget N p1.2)
  have hr9 : CS.hs p5.2 ≤ CS.hs R.2 := Mono.go hf (mono_bind (m_X9_advance N p5.2) (fun p9 => (mono_bind (m_X0_aim N p9.2 p1.1) (fun p13 => (mono_bind (m_X7_conditionInside N E1 E2 hm1 hm2 p13.2) (fun p17 => (mono_bind (m_X0_add N p17.2 31 p5.1) (fun p21 => (mono_bind (m_X0_add N p21.2 51 0) (fun p25 => (mono_bind (m_X7_pushLoop N p25.2 205 p1.1 p5.1) (fun p29 => (mono_oc mono_none (fun a34 => (mono_ite (mono_ite (mono_some (Nat.le_refl _)) mono_none) mono_none)))))))))))))))
  have hFc := cFree hC hA
  refine va_calli (va_runV (As := []) (rest := []) ⟨hx, hb, hml, hown, hts⟩ (c_X0_newTarget l dC dI Q N p1.2 p5 hcp5) (cwV 0 hts hX7_beginWhile_X0_newTarget_v136 rfl rfl rfl (by decide +kernel) ⟨(show 2 + 1 ≤ (14 + 40 * d) by omega), (show 8 + (1 + 11) + 60 * 2 ≤ 60 * (14 + 40 * d) by omega)⟩) ⟨zPre.blind, va_recv hK hC.1 (ci := 0) (q0 := 2) rfl rfl, cPre_go hZ hK hC⟩ rfl rfl hl.1 rfl (lv_room (Nat.le_of_ble_eq_true rfl)) dX7_beginWhile_12 (cAcc h4 mo6 hr9)) hC.2.2.1 (fun q _ h => hFc q h) hFc (fun r7 u9 t9 H1 locs ht hvm hw hB hz1 hk1 hS => ?_)
  obtain ⟨⟨hP, hK1, hD1⟩, hsz1⟩ := hB
  rw [ht] at hP hsz1
  have hC : CP dC dI Q A s.heap p5.2 H1 locs := ⟨hP, hD1.weaken (fun _ _ _ h => hFc _ h), hS, hsz1⟩
  generalize H1 = H at hC ⊢
  have h8 : (CS.hs σ) ≤ CS.hs p5.2 := Nat.le_trans h4 mo6
  refine W.widen (k := CS.hs p5.2 - (CS.hs σ)) (n := 17 * (CS.hs p5.2 - (CS.hs σ))) (cAcc2 h4 mo6) (cAcc3 h4 mo6) ?_
  obtain rfl : r7 = p5.1 := hw
  refine lv_istore_n (lv' := [(2, .int p5.1), (1, .int p1.1), (0, .ref (Q.o 3))]) hx hb dX7_beginWhile_15 rfl hl (by decide) rfl (fun ls hl => ?_)
  refine lv_aload_n hx hb dX7_beginWhile_16 rfl (lv_at hl 2 rfl) ?_
  refine cG_28 hx hb hts i_X7_beginWhile_X7 hown hK hC (hts (.fieldLink RX7 71 "StatementRules2$Statements" "tokens" "LStatementRules2$Tokens;") k_X7_beginWhile_fieldLink_RX7_71_SR_Statements_tokens_LSR_Tokens) (fun x9 q9 => u_same (hts (.sameField "StatementRules2$Statements" "StatementRules2$Formulas" "tokens" "LStatementRules2$Tokens;") k_X7_beginWhile_sameField_SR_Statements_SR_Formulas_tokens_LSR_Tokens) x9 q9) dX7_beginWhile_17 ?_
  obtain ⟨p9, hcp9, hf⟩ := hf_bind hf
  have mo10 : CS.hs p5.2 ≤ CS.hs p9.2 := Mono.go hcp9 (m_X9_advance N p5.2)
  have hr9 : CS.hs p9.2 ≤ CS.hs R.2 := Mono.go hf (mono_bind (m_X0_aim N p9.2 p1.1) (fun p13 => (mono_bind (m_X7_conditionInside N E1 E2 hm1 hm2 p13.2) (fun p17 => (mono_bind (m_X0_add N p17.2 31 p5.1) (fun p21 => (mono_bind (m_X0_add N p21.2 51 0) (fun p25 => (mono_bind (m_X7_pushLoop N p25.2 205 p1.1 p5.1) (fun p29 => (mono_oc mono_none (fun a34 => (mono_ite (mono_ite (mono_some (Nat.le_refl _)) mono_none) mono_none)))))))))))))
  have hFc := cFree hC hA
  refine va_callv (va_runV (As := []) (rest := []) ⟨hx, hb, hml, hown, hts⟩ (c_X9_advance l dC dI Q N p5.2 p9 hcp9) (cwV 0 hts hX7_beginWhile_X9_advance_v146 rfl rfl rfl (by decide +kernel) ⟨(show 3 + 1 ≤ (14 + 40 * d) by omega), (show 8 + (2 + 11) + 60 * 3 ≤ 60 * (14 + 40 * d) by omega)⟩) ⟨zPre.blind, va_recv hK hC.1 (ci := 8) (q0 := 4) rfl rfl, cPre_go hZ hK hC⟩ rfl rfl hl.1 rfl (lv_room (Nat.le_of_ble_eq_true rfl)) dX7_beginWhile_20 (cAcc h8 mo10 hr9)) hC.2.2.1 (fun q _ h => hFc q h) hFc (fun u9 t9 H1 locs ht hvm hw hB hz1 hk1 hS => ?_)
  obtain ⟨⟨hP, hK1, hD1⟩, hsz1⟩ := hB
  rw [ht] at hP hsz1
  have hC : CP dC dI Q A s.heap p9.2 H1 locs := ⟨hP, hD1.weaken (fun _ _ _ h => hFc _ h), hS, hsz1⟩
  generalize H1 = H at hC ⊢
  have h12 : (CS.hs σ) ≤ CS.hs p9.2 := Nat.le_trans h8 mo10
  refine W.widen (k := CS.hs p9.2 - (CS.hs σ)) (n := 17 * (CS.hs p9.2 - (CS.hs σ))) (cAcc2 h8 mo10) (cAcc3 h8 mo10) ?_
  refine lv_aload_n hx hb dX7_beginWhile_23 rfl (lv_at hl 2 rfl) ?_
  refine cG_29 hx hb hts i_X7_beginWhile_X7 hown hK hC (hts (.fieldLink RX7 20 "StatementRules2$Statements" "code" "LStatementRules2$Code;") k_X7_beginWhile_fieldLink_RX7_20_SR_Statements_code_LSR_Code) (fun x9 q9 => u_same (hts (.sameField "StatementRules2$Statements" "StatementRules2$Formulas" "code" "LStatementRules2$Code;") k_X7_beginWhile_sameField_SR_Statements_SR_Formulas_code_LSR_Code) x9 q9) dX7_beginWhile_24 ?_
  refine lv_iload_n hx hb dX7_beginWhile_27 rfl (lv_at hl 1 rfl) ?_
  obtain ⟨p13, hcp13, hf⟩ := hf_bind hf
  have mo14 : CS.hs p9.2 ≤ CS.hs p13.2 := Mono.go hcp13 (m_X0_aim N p9.2 p1.1)
  have hr9 : CS.hs p13.2 ≤ CS.hs R.2 := Mono.go hf (mono_bind (m_X7_conditionInside N E1 E2 hm1 hm2 p13.2) (fun p17 => (mono_bind (m_X0_add N p17.2 31 p5.1) (fun p21 => (mono_bind (m_X0_add N p21.2 51 0) (fun p25 => (mono_bind (m_X7_pushLoop N p25.2 205 p1.1 p5.1) (fun p29 => (mono_oc mono_none (fun a34 => (mono_ite (mono_ite (mono_some (Nat.le_refl _)) mono_none) mono_none)))))))))))
  have hFc := cFree hC hA
  refine va_callv (va_runV (As := [.int p1.1]) (rest := []) ⟨hx, hb, hml, hown, hts⟩ (c_X0_aim l dC dI Q N p9.2 p1.1 p13 hcp13) (cwV 1 hts hX7_beginWhile_X0_aim_v158 rfl rfl rfl (by decide +kernel) ⟨(show 2 + 1 ≤ (14 + 40 * d) by omega), (show 8 + (2 + 11) + 60 * 2 ≤ 60 * (14 + 40 * d) by omega)⟩) ⟨zPre.blind, va_recv hK hC.1 (ci := 0) (q0 := 2) rfl rfl, cPre_go hZ hK hC⟩ rfl rfl hl.1 rfl (lv_room (Nat.le_of_ble_eq_true rfl)) dX7_beginWhile_28 (cAcc h12 mo14 hr9)) hC.2.2.1 (fun q _ h => hFc q h) hFc (fun u9 t9 H1 locs ht hvm hw hB hz1 hk1 hS => ?_)
  obtain ⟨⟨hP, hK1, hD1⟩, hsz1⟩ := hB
  rw [ht] at hP hsz1
  have hC : CP dC dI Q A s.heap p13.2 H1 locs := ⟨hP, hD1.weaken (fun _ _ _ h => hFc _ h), hS, hsz1⟩
  generalize H1 = H at hC ⊢
  have h16 : (CS.hs σ) ≤ CS.hs p13.2 := Nat.le_trans h12 mo14
  refine W.widen (k := CS.hs p13.2 - (CS.hs σ)) (n := 17 * (CS.hs p13.2 - (CS.hs σ))) (cAcc2 h12 mo14) (cAcc3 h12 mo14) ?_
  refine lv_aload_n hx hb dX7_beginWhile_31 rfl (lv_at hl 2 rfl) ?_
  obtain ⟨p17, hcp17, hf⟩ := hf_bind hf
  have mo18 : CS.hs p13.2 ≤ CS.hs p17.2 := Mono.go hcp17 (m_X7_conditionInside N E1 E2 hm1 hm2 p13.2)
  have hr9 : CS.hs p17.2 ≤ CS.hs R.2 := Mono.go hf (mono_bind (m_X0_add N p17.2 31 p5.1) (fun p21 => (mono_bind (m_X0_add N p21.2 51 0) (fun p25 => (mono_bind (m_X7_pushLoop N p25.2 205 p1.1 p5.1) (fun p29 => (mono_oc mono_none (fun a34 => (mono_ite (mono_ite (mono_some (Nat.le_refl _)) mono_none) mono_none)))))))))
  have hFc := cFree hC hA
  refine va_calli (va_runV (As := []) (rest := []) ⟨hx, hb, hml, hown, hts⟩ (c_X7_conditionInside l dC dI Q N d E1 E2 hE1 hE2 hm1 hm2 p13.2 p17 hcp17) (cwV 0 hts hX7_beginWhile_X7_conditionInside_v315 rfl rfl rfl (by decide +kernel) ⟨(show (13 + 40 * d) + 1 ≤ (14 + 40 * d) by omega), (show 8 + (2 + 11) + 60 * (13 + 40 * d) ≤ 60 * (14 + 40 * d) by omega)⟩) ⟨zPre.blind, va_recv hK hC.1 (ci := 6) (q0 := 3) rfl rfl, cPre_go hZ hK hC⟩ rfl rfl hl.1 rfl (lv_room (Nat.le_of_ble_eq_true rfl)) dX7_beginWhile_32 (cAcc h16 mo18 hr9)) hC.2.2.1 (fun q _ h => hFc q h) hFc (fun r19 u9 t9 H1 locs ht hvm hw hB hz1 hk1 hS => ?_)
  obtain ⟨⟨hP, hK1, hD1⟩, hsz1⟩ := hB
  rw [ht] at hP hsz1
  have hC : CP dC dI Q A s.heap p17.2 H1 locs := ⟨hP, hD1.weaken (fun _ _ _ h => hFc _ h), hS, hsz1⟩
  generalize H1 = H at hC ⊢
  have h20 : (CS.hs σ) ≤ CS.hs p17.2 := Nat.le_trans h16 mo18
  refine W.widen (k := CS.hs p17.2 - (CS.hs σ)) (n := 17 * (CS.hs p17.2 - (CS.hs σ))) (cAcc2 h16 mo18) (cAcc3 h16 mo18) ?_
  obtain rfl : r19 = p17.1 := hw
  refine lv_istore_n (lv' := [(3, .int p17.1), (2, .int p5.1), (1, .int p1.1), (0, .ref (Q.o 3))]) hx hb dX7_beginWhile_35 rfl hl (by decide) rfl (fun ls hl => ?_)
  refine lv_aload_n hx hb dX7_beginWhile_36 rfl (lv_at hl 3 rfl) ?_
  refine cG_29 hx hb hts i_X7_beginWhile_X7 hown hK hC (hts (.fieldLink RX7 20 "StatementRules2$Statements" "code" "LStatementRules2$Code;") k_X7_beginWhile_fieldLink_RX7_20_SR_Statements_code_LSR_Code) (fun x9 q9 => u_same (hts (.sameField "StatementRules2$Statements" "StatementRules2$Formulas" "code" "LStatementRules2$Code;") k_X7_beginWhile_sameField_SR_Statements_SR_Formulas_code_LSR_Code) x9 q9) dX7_beginWhile_37 ?_
  refine lv_bipush (v := 31) hx hb dX7_beginWhile_40 (by decide) ?_
  refine lv_iload_n hx hb dX7_beginWhile_42 rfl (lv_at hl 1 rfl) ?_
  obtain ⟨p21, hcp21, hf⟩ := hf_bind hf
  have mo22 : CS.hs p17.2 ≤ CS.hs p21.2 := Mono.go hcp21 (m_X0_add N p17.2 31 p5.1)
  have hr9 : CS.hs p21.2 ≤ CS.hs R.2 := Mono.go hf (mono_bind (m_X0_add N p21.2 51 0) (fun p25 => (mono_bind (m_X7_pushLoop N p25.2 205 p1.1 p5.1) (fun p29 => (mono_oc mono_none (fun a34 => (mono_ite (mono_ite (mono_some (Nat.le_refl _)) mono_none) mono_none)))))))
  have hFc := cFree hC hA
  refine va_callv (va_runV (As := [.int 31, .int p5.1]) (rest := []) ⟨hx, hb, hml, hown, hts⟩ (c_X0_add l dC dI Q N p17.2 31 p5.1 p21 hcp21) (cwV 2 hts hX7_beginWhile_X0_add_v176 rfl rfl rfl (by decide +kernel) ⟨(show 2 + 1 ≤ (14 + 40 * d) by omega), (show 8 + (3 + 11) + 60 * 2 ≤ 60 * (14 + 40 * d) by omega)⟩) ⟨zPre.blind, va_recv hK hC.1 (ci := 0) (q0 := 2) rfl rfl, cPre_go hZ hK hC⟩ rfl rfl hl.1 rfl (lv_room (Nat.le_of_ble_eq_true rfl)) dX7_beginWhile_43 (cAcc h20 mo22 hr9)) hC.2.2.1 (fun q _ h => hFc q h) hFc (fun u9 t9 H1 locs ht hvm hw hB hz1 hk1 hS => ?_)
  obtain ⟨⟨hP, hK1, hD1⟩, hsz1⟩ := hB
  rw [ht] at hP hsz1
  have hC : CP dC dI Q A s.heap p21.2 H1 locs := ⟨hP, hD1.weaken (fun _ _ _ h => hFc _ h), hS, hsz1⟩
  generalize H1 = H at hC ⊢
  have h24 : (CS.hs σ) ≤ CS.hs p21.2 := Nat.le_trans h20 mo22
  refine W.widen (k := CS.hs p21.2 - (CS.hs σ)) (n := 17 * (CS.hs p21.2 - (CS.hs σ))) (cAcc2 h20 mo22) (cAcc3 h20 mo22) ?_
  refine lv_aload_n hx hb dX7_beginWhile_46 rfl (lv_at hl 3 rfl) ?_
  refine cG_29 hx hb hts i_X7_beginWhile_X7 hown hK hC (hts (.fieldLink RX7 20 "StatementRules2$Statements" "code" "LStatementRules2$Code;") k_X7_beginWhile_fieldLink_RX7_20_SR_Statements_code_LSR_Code) (fun x9 q9 => u_same (hts (.sameField "StatementRules2$Statements" "StatementRules2$Formulas" "code" "LStatementRules2$Code;") k_X7_beginWhile_sameField_SR_Statements_SR_Formulas_code_LSR_Code) x9 q9) dX7_beginWhile_47 ?_
  refine lv_bipush (v := 51) hx hb dX7_beginWhile_50 (by decide) ?_
  refine lv_iconst (v := 0) hx hb dX7_beginWhile_52 (by decide) ?_
  obtain ⟨p25, hcp25, hf⟩ := hf_bind hf
  have mo26 : CS.hs p21.2 ≤ CS.hs p25.2 := Mono.go hcp25 (m_X0_add N p21.2 51 0)
  have hr9 : CS.hs p25.2 ≤ CS.hs R.2 := Mono.go hf (mono_bind (m_X7_pushLoop N p25.2 205 p1.1 p5.1) (fun p29 => (mono_oc mono_none (fun a34 => (mono_ite (mono_ite (mono_some (Nat.le_refl _)) mono_none) mono_none)))))
  have hFc := cFree hC hA
  refine va_callv (va_runV (As := [.int 51, .int 0]) (rest := []) ⟨hx, hb, hml, hown, hts⟩ (c_X0_add l dC dI Q N p21.2 51 0 p25 hcp25) (cwV 2 hts hX7_beginWhile_X0_add_v176 rfl rfl rfl (by decide +kernel) ⟨(show 2 + 1 ≤ (14 + 40 * d) by omega), (show 8 + (3 + 11) + 60 * 2 ≤ 60 * (14 + 40 * d) by omega)⟩) ⟨zPre.blind, va_recv hK hC.1 (ci := 0) (q0 := 2) rfl rfl, cPre_go hZ hK hC⟩ rfl rfl hl.1 rfl (lv_room (Nat.le_of_ble_eq_true rfl)) dX7_beginWhile_53 (cAcc h24 mo26 hr9)) hC.2.2.1 (fun q _ h => hFc q h) hFc (fun u9 t9 H1 locs ht hvm hw hB hz1 hk1 hS => ?_)
  obtain ⟨⟨hP, hK1, hD1⟩, hsz1⟩ := hB
  rw [ht] at hP hsz1
  have hC : CP dC dI Q A s.heap p25.2 H1 locs := ⟨hP, hD1.weaken (fun _ _ _ h => hFc _ h), hS, hsz1⟩
  generalize H1 = H at hC ⊢
  have h28 : (CS.hs σ) ≤ CS.hs p25.2 := Nat.le_trans h24 mo26
  refine W.widen (k := CS.hs p25.2 - (CS.hs σ)) (n := 17 * (CS.hs p25.2 - (CS.hs σ))) (cAcc2 h24 mo26) (cAcc3 h24 mo26) ?_
  refine lv_aload_n hx hb dX7_beginWhile_56 rfl (lv_at hl 3 rfl) ?_
  refine lv_sipush (v := 205) hx hb dX7_beginWhile_57 (by decide) ?_
  refine lv_iload_n hx hb dX7_beginWhile_60 rfl (lv_at hl 2 rfl) ?_
  refine lv_iload_n hx hb dX7_beginWhile_61 rfl (lv_at hl 1 rfl) ?_
  obtain ⟨p29, hcp29, hf⟩ := hf_bind hf
  have mo30 : CS.hs p25.2 ≤ CS.hs p29.2 := Mono.go hcp29 (m_X7_pushLoop N p25.2 205 p1.1 p5.1)
  have hr9 : CS.hs p29.2 ≤ CS.hs R.2 := Mono.go hf (mono_oc mono_none (fun a34 => (mono_ite (mono_ite (mono_some (Nat.le_refl _)) mono_none) mono_none)))
  have hFc := cFree hC hA
  refine va_callq (va_runV (As := [.int 205, .int p1.1, .int p5.1]) (rest := []) ⟨hx, hb, hml, hown, hts⟩ (c_X7_pushLoop l dC dI Q N p25.2 205 p1.1 p5.1 p29 hcp29) (cwV 3 hts hX7_beginWhile_X7_pushLoop_v321 rfl rfl rfl (by decide +kernel) ⟨(show 3 + 1 ≤ (14 + 40 * d) by omega), (show 8 + (5 + 11) + 60 * 3 ≤ 60 * (14 + 40 * d) by omega)⟩) ⟨zPre.blind, va_recv hK hC.1 (ci := 6) (q0 := 3) rfl rfl, cPre_go hZ hK hC⟩ rfl rfl hl.1 rfl (lv_room (Nat.le_of_ble_eq_true rfl)) dX7_beginWhile_62 (cAcc h28 mo30 hr9)) hC.2.2.1 (fun q _ h => hFc q h) hFc (fun r31 u9 t9 H1 locs ht hvm hw hB hz1 hk1 hS => ?_)
  obtain ⟨⟨hP, hK1, hD1⟩, hsz1⟩ := hB
  rw [ht] at hP hsz1
  have hC : CP dC dI Q A s.heap p29.2 H1 locs := ⟨hP, hD1.weaken (fun _ _ _ h => hFc _ h), hS, hsz1⟩
  generalize H1 = H at hC ⊢
  have h32 : (CS.hs σ) ≤ CS.hs p29.2 := Nat.le_trans h28 mo30
  refine W.widen (k := CS.hs p29.2 - (CS.hs σ)) (n := 17 * (CS.hs p29.2 - (CS.hs σ))) (cAcc2 h28 mo30) (cAcc3 h28 mo30) ?_
  obtain rfl : r31 = p29.1 := hw
  rcases hf_oc hf with ⟨q33, hf⟩ | ⟨a34, q33, hf⟩
  ·
    refine W.eq (congrArg (fun v9 => F0 m 65 ls (va_rf v9 :: [])) q33) ?_
    refine W.eq (g2 := F0 m 65 ls (.null :: [])) rfl ?_
    refine lv_iload_n hx hb dX7_beginWhile_65 rfl (lv_at hl 0 rfl) ?_
    cases hf
  ·
    refine W.eq (congrArg (fun v9 => F0 m 65 ls (va_rf v9 :: [])) q33) ?_
    refine W.eq (g2 := F0 m 65 ls (.ref a34 :: [])) rfl ?_
    refine lv_iload_n hx hb dX7_beginWhile_65 rfl (lv_at hl 0 rfl) ?_
    obtain ⟨b35, hf⟩ := hf_ite hf
    obtain ⟨b36, hf⟩ := hf_ite hf
    refine pPN_X5_7 (v := p17.1) hx hb hts i_X7_beginWhile_X5 hown hK hC (va_Nw.use rfl (hZ.1 (.fieldLinkNest RX7 324 "StatementRules2$Open" "never" "Z" "StatementRules2") (by decide +kernel))) (fun _ q9 => q9) dX7_beginWhile_66 b36 b35 (fun H locs hC => ?_)
    obtain rfl := Option.some.inj hf
    exact W.vret hx hb hr (fun t ht hW => ⟨⟨(), rfl, trivial, ⟨by rw [ht]; exact hC.1, va_K.moved hW.alike hK, hC.2.1⟩, by rw [ht]; exact hC.2.2.2⟩, hC.2.2.1.F ht⟩) hC.2.2.1.2.2 dX7_beginWhile_69
theorem k_X7_beginDo_fieldLink_RX7_20_SR_Statements_code_LSR_Code : Cond.fieldLink RX7 20 "StatementRules2$Statements" "code" "LStatementRules2$Code;" ∈ wzX7_beginDo := List.mem_cons_of_mem _ (List.mem_append_left _ (List.mem_of_getElem? (i := 0) rfl))
theorem k_X7_beginDo_sameField_SR_Statements_SR_Formulas_code_LSR_Code : Cond.sameField "StatementRules2$Statements" "StatementRules2$Formulas" "code" "LStatementRules2$Code;" ∈ wzX7_beginDo := List.mem_cons_of_mem _ (List.mem_append_left _ (List.mem_of_getElem? (i := 1) rfl))
theorem i_X7_beginDo_X7 : ∀ w ∈ wsX70, w ∈ wzX7_beginDo := fun _ h => List.mem_cons_of_mem _ (List.mem_append_right _ (List.mem_append_left _ (h)))
theorem i_X7_beginDo_X5 : ∀ w ∈ wsX50, w ∈ wzX7_beginDo := fun _ h => List.mem_cons_of_mem _ (List.mem_append_right _ (List.mem_append_right _ (List.mem_append_left _ (h))))
theorem k_X7_beginDo_fieldLink_RX7_71_SR_Statements_tokens_LSR_Tokens : Cond.fieldLink RX7 71 "StatementRules2$Statements" "tokens" "LStatementRules2$Tokens;" ∈ wzX7_beginDo := List.mem_cons_of_mem _ (List.mem_append_left _ (List.mem_of_getElem? (i := 2) rfl))
theorem k_X7_beginDo_sameField_SR_Statements_SR_Formulas_tokens_LSR_Tokens : Cond.sameField "StatementRules2$Statements" "StatementRules2$Formulas" "tokens" "LStatementRules2$Tokens;" ∈ wzX7_beginDo := List.mem_cons_of_mem _ (List.mem_append_left _ (List.mem_of_getElem? (i := 3) rfl))
set_option maxHeartbeats 4000000 in
set_option maxRecDepth 100000 in
theorem c_X7_beginDo (l : Launch) (dC : Nat → ClassId) (dI : Nat → Nat → Nat) (Q : CQ) (N : Nat) (σ : CS) (R : Unit × CS) (hf : f_X7_beginDo N σ = some R) : Met l yX7_beginDo wzX7_beginDo ({ frames := 4, cells := CS.hs R.2 - CS.hs σ, slots := 17 * (CS.hs R.2 - CS.hs σ), locals := 60 * 4 }) (va_Pc [.ref (Q.o 3)] (zPre dC dI (CS.hs σ) (cW Q σ) (cT Q))) (va_Qv (fun (_ : Unit) => True) (fun (_ : Unit) (t : State) => zPost dC dI (va_A (cW Q σ) (CS.hs σ)) (cW Q R.2) (cT Q) t ∧ t.heap.size = CS.hs R.2) (va_A (cW Q σ) (CS.hs σ))) (CS.hs R.2 - CS.hs σ) (17 * (CS.hs R.2 - CS.hs σ)) (va_A (cW Q σ) (CS.hs σ)) := by
  refine Met.ofW (cc := cX7_beginDo) (maxL := 2) (ret := none) (by decide) rfl ?_
  intro p e s m args below meth c s₁ B hml hv
  obtain ⟨rfl, hsz, hZ, hP, hK, hD0⟩ := hv
  have hx := B.exec
  have hb := B.bytes
  have hr := B.returns
  have hts := atoms_spec (ws := wzX7_beginDo) B.pre
  have hown : s.vm.findClass RX7 = some m.cls := findClass_of_methodNamed B.named
  have hlocks := B.notSynchronized
  have hD := hD0.self (sz := CS.hs σ)
  generalize hAe : va_A (cW Q σ) (CS.hs σ) = A at hD ⊢
  have hA : ∀ q : Nat, s.heap.size ≤ q → A q := fun q h => by rw [← hAe]; exact Or.inr (hsz ▸ h)
  have hC : CP dC dI Q A s.heap σ s.heap [] := ⟨hP, hD, va_S.rf, hsz⟩
  have h0 : CS.hs σ ≤ CS.hs σ := Nat.le_refl _
  have hl := lv_entry ([.ref (Q.o 3)]) (n := 2) (Nat.le_of_ble_eq_true rfl)
  rw [lg_entry_eq]
  generalize (lg_sl ([.ref (Q.o 3)]) ++ List.replicate (2 - (lg_sl ([.ref (Q.o 3)])).length) Slot.unset).toArray = ls at hl ⊢
  have hl : lv_has ls 2 [(0, .ref (Q.o 3))] := hl
  unfold f_X7_beginDo at hf
  refine W.widen (k := CS.hs σ - CS.hs σ) (n := 17 * (CS.hs σ - CS.hs σ)) (Nat.zero_le _) (Nat.zero_le _) ?_
  refine lv_aload_n hx hb dX7_beginDo_0 rfl (lv_at hl 0 rfl) ?_
  refine lv_sipush (v := 206) hx hb dX7_beginDo_1 (by decide) ?_
  refine lv_aload_n hx hb dX7_beginDo_4 rfl (lv_at hl 0 rfl) ?_
  refine cG_29 hx hb hts i_X7_beginDo_X7 hown hK hC (hts (.fieldLink RX7 20 "StatementRules2$Statements" "code" "LStatementRules2$Code;") k_X7_beginDo_fieldLink_RX7_20_SR_Statements_code_LSR_Code) (fun x9 q9 => u_same (hts (.sameField "StatementRules2$Statements" "StatementRules2$Formulas" "code" "LStatementRules2$Code;") k_X7_beginDo_sameField_SR_Statements_SR_Formulas_code_LSR_Code) x9 q9) dX7_beginDo_5 ?_
  obtain ⟨p1, hcp1, hf⟩ := hf_bind hf
  have mo2 : CS.hs σ ≤ CS.hs p1.2 := Mono.go hcp1 (m_X0_newTarget N σ)
  have hr9 : CS.hs p1.2 ≤ CS.hs R.2 := Mono.go hf (mono_bind (m_X0_newTarget N p1.2) (fun p5 => (mono_bind (m_X7_pushLoop N p5.2 206 p1.1 p5.1) (fun p9 => (mono_oc (mono_bind (m_X0_newTarget N p9.2) (fun p15 => mono_none)) (fun a14 => (mono_bind (m_X0_newTarget N p9.2) (fun p19 => (mono_ite (mono_bind (m_X9_advance N (CS.setO p19.2 a14 11 p19.1)) (fun p24 => (mono_ite (mono_bind (m_X0_aim N p24.2 (CS.o p24.2 a14 11)) (fun p29 => (mono_bind (m_X0_add N p29.2 51 0) (fun p33 => (mono_some (Nat.le_refl _)))))) mono_none))) mono_none)))))))))
  have hFc := cFree hC hA
  refine va_calli (va_runV (As := []) (rest := [.int 206, .ref (Q.o 3)]) ⟨hx, hb, hml, hown, hts⟩ (c_X0_newTarget l dC dI Q N σ p1 hcp1) (cwV 0 hts hX7_beginDo_X0_newTarget_v136 rfl rfl rfl (by decide +kernel) ⟨(show 2 + 1 ≤ 4 by omega), (show 8 + (1 + 11) + 60 * 2 ≤ 60 * 4 by omega)⟩) ⟨zPre.blind, va_recv hK hC.1 (ci := 0) (q0 := 2) rfl rfl, cPre_go hZ hK hC⟩ rfl rfl hl.1 rfl (lv_room (Nat.le_of_ble_eq_true rfl)) dX7_beginDo_8 (cAcc h0 mo2 hr9)) hC.2.2.1 (fun q _ h => hFc q h) hFc (fun r3 u9 t9 H1 locs ht hvm hw hB hz1 hk1 hS => ?_)
  obtain ⟨⟨hP, hK1, hD1⟩, hsz1⟩ := hB
  rw [ht] at hP hsz1
  have hC : CP dC dI Q A s.heap p1.2 H1 locs := ⟨hP, hD1.weaken (fun _ _ _ h => hFc _ h), hS, hsz1⟩
  generalize H1 = H at hC ⊢
  have h4 : (CS.hs σ) ≤ CS.hs p1.2 := Nat.le_trans h0 mo2
  refine W.widen (k := CS.hs p1.2 - (CS.hs σ)) (n := 17 * (CS.hs p1.2 - (CS.hs σ))) (cAcc2 h0 mo2) (cAcc3 h0 mo2) ?_
  obtain rfl : r3 = p1.1 := hw
  refine lv_aload_n hx hb dX7_beginDo_11 rfl (lv_at hl 0 rfl) ?_
  refine cG_29 hx hb hts i_X7_beginDo_X7 hown hK hC (hts (.fieldLink RX7 20 "StatementRules2$Statements" "code" "LStatementRules2$Code;") k_X7_beginDo_fieldLink_RX7_20_SR_Statements_code_LSR_Code) (fun x9 q9 => u_same (hts (.sameField "StatementRules2$Statements" "StatementRules2$Formulas" "code" "LStatementRules2$Code;") k_X7_beginDo_sameField_SR_Statements_SR_Formulas_code_LSR_Code) x9 q9) dX7_beginDo_12 ?_
  obtain ⟨p5, hcp5, hf⟩ := hf_bind hf
  have mo6 : CS.hs p1.2 ≤ CS.hs p5.2 := Mono.go hcp5 (m_X0_newTarget N p1.2)
  have hr9 : CS.hs p5.2 ≤ CS.hs R.2 := Mono.go hf (mono_bind (m_X7_pushLoop N p5.2 206 p1.1 p5.1) (fun p9 => (mono_oc (mono_bind (m_X0_newTarget N p9.2) (fun p15 => mono_none)) (fun a14 => (mono_bind (m_X0_newTarget N p9.2) (fun p19 => (mono_ite (mono_bind (m_X9_advance N (CS.setO p19.2 a14 11 p19.1)) (fun p24 => (mono_ite (mono_bind (m_X0_aim N p24.2 (CS.o p24.2 a14 11)) (fun p29 => (mono_bind (m_X0_add N p29.2 51 0) (fun p33 => (mono_some (Nat.le_refl _)))))) mono_none))) mono_none)))))))
  have hFc := cFree hC hA
  refine va_calli (va_runV (As := []) (rest := [.int p1.1, .int 206, .ref (Q.o 3)]) ⟨hx, hb, hml, hown, hts⟩ (c_X0_newTarget l dC dI Q N p1.2 p5 hcp5) (cwV 0 hts hX7_beginDo_X0_newTarget_v136 rfl rfl rfl (by decide +kernel) ⟨(show 2 + 1 ≤ 4 by omega), (show 8 + (1 + 11) + 60 * 2 ≤ 60 * 4 by omega)⟩) ⟨zPre.blind, va_recv hK hC.1 (ci := 0) (q0 := 2) rfl rfl, cPre_go hZ hK hC⟩ rfl rfl hl.1 rfl (lv_room (Nat.le_of_ble_eq_true rfl)) dX7_beginDo_15 (cAcc h4 mo6 hr9)) hC.2.2.1 (fun q _ h => hFc q h) hFc (fun r7 u9 t9 H1 locs ht hvm hw hB hz1 hk1 hS => ?_)
  obtain ⟨⟨hP, hK1, hD1⟩, hsz1⟩ := hB
  rw [ht] at hP hsz1
  have hC : CP dC dI Q A s.heap p5.2 H1 locs := ⟨hP, hD1.weaken (fun _ _ _ h => hFc _ h), hS, hsz1⟩
  generalize H1 = H at hC ⊢
  have h8 : (CS.hs σ) ≤ CS.hs p5.2 := Nat.le_trans h4 mo6
  refine W.widen (k := CS.hs p5.2 - (CS.hs σ)) (n := 17 * (CS.hs p5.2 - (CS.hs σ))) (cAcc2 h4 mo6) (cAcc3 h4 mo6) ?_
  obtain rfl : r7 = p5.1 := hw
  obtain ⟨p9, hcp9, hf⟩ := hf_bind hf
  have mo10 : CS.hs p5.2 ≤ CS.hs p9.2 := Mono.go hcp9 (m_X7_pushLoop N p5.2 206 p1.1 p5.1)
  have hr9 : CS.hs p9.2 ≤ CS.hs R.2 := Mono.go hf (mono_oc (mono_bind (m_X0_newTarget N p9.2) (fun p15 => mono_none)) (fun a14 => (mono_bind (m_X0_newTarget N p9.2) (fun p19 => (mono_ite (mono_bind (m_X9_advance N (CS.setO p19.2 a14 11 p19.1)) (fun p24 => (mono_ite (mono_bind (m_X0_aim N p24.2 (CS.o p24.2 a14 11)) (fun p29 => (mono_bind (m_X0_add N p29.2 51 0) (fun p33 => (mono_some (Nat.le_refl _)))))) mono_none))) mono_none)))))
  have hFc := cFree hC hA
  refine va_callq (va_runV (As := [.int 206, .int p1.1, .int p5.1]) (rest := []) ⟨hx, hb, hml, hown, hts⟩ (c_X7_pushLoop l dC dI Q N p5.2 206 p1.1 p5.1 p9 hcp9) (cwV 3 hts hX7_beginDo_X7_pushLoop_v321 rfl rfl rfl (by decide +kernel) ⟨(show 3 + 1 ≤ 4 by omega), (show 8 + (5 + 11) + 60 * 3 ≤ 60 * 4 by omega)⟩) ⟨zPre.blind, va_recv hK hC.1 (ci := 6) (q0 := 3) rfl rfl, cPre_go hZ hK hC⟩ rfl rfl hl.1 rfl (lv_room (Nat.le_of_ble_eq_true rfl)) dX7_beginDo_18 (cAcc h8 mo10 hr9)) hC.2.2.1 (fun q _ h => hFc q h) hFc (fun r11 u9 t9 H1 locs ht hvm hw hB hz1 hk1 hS => ?_)
  obtain ⟨⟨hP, hK1, hD1⟩, hsz1⟩ := hB
  rw [ht] at hP hsz1
  have hC : CP dC dI Q A s.heap p9.2 H1 locs := ⟨hP, hD1.weaken (fun _ _ _ h => hFc _ h), hS, hsz1⟩
  generalize H1 = H at hC ⊢
  have h12 : (CS.hs σ) ≤ CS.hs p9.2 := Nat.le_trans h8 mo10
  refine W.widen (k := CS.hs p9.2 - (CS.hs σ)) (n := 17 * (CS.hs p9.2 - (CS.hs σ))) (cAcc2 h8 mo10) (cAcc3 h8 mo10) ?_
  obtain rfl : r11 = p9.1 := hw
  rcases hf_oc hf with ⟨q13, hf⟩ | ⟨a14, q13, hf⟩
  ·
    refine W.eq (congrArg (fun v9 => F0 m 21 ls (va_rf v9 :: [])) q13) ?_
    refine W.eq (g2 := F0 m 21 ls (.null :: [])) rfl ?_
    refine lv_astore_nN (lv' := [(1, .null), (0, .ref (Q.o 3))]) hx hb dX7_beginDo_21 rfl hl (by decide) rfl (fun ls hl => ?_)
    refine lv_aload_nN hx hb dX7_beginDo_22 rfl (lv_at hl 0 rfl) ?_
    refine lv_aload_n hx hb dX7_beginDo_23 rfl (lv_at hl 1 rfl) ?_
    refine cG_29 hx hb hts i_X7_beginDo_X7 hown hK hC (hts (.fieldLink RX7 20 "StatementRules2$Statements" "code" "LStatementRules2$Code;") k_X7_beginDo_fieldLink_RX7_20_SR_Statements_code_LSR_Code) (fun x9 q9 => u_same (hts (.sameField "StatementRules2$Statements" "StatementRules2$Formulas" "code" "LStatementRules2$Code;") k_X7_beginDo_sameField_SR_Statements_SR_Formulas_code_LSR_Code) x9 q9) dX7_beginDo_24 ?_
    obtain ⟨p15, hcp15, hf⟩ := hf_bind hf
    have mo16 : CS.hs p9.2 ≤ CS.hs p15.2 := Mono.go hcp15 (m_X0_newTarget N p9.2)
    have hr9 : CS.hs p15.2 ≤ CS.hs R.2 := Mono.go hf mono_none
    have hFc := cFree hC hA
    refine va_calli (va_runV (As := []) (rest := [.null]) ⟨hx, hb, hml, hown, hts⟩ (c_X0_newTarget l dC dI Q N p9.2 p15 hcp15) (cwV 0 hts hX7_beginDo_X0_newTarget_v136 rfl rfl rfl (by decide +kernel) ⟨(show 2 + 1 ≤ 4 by omega), (show 8 + (1 + 11) + 60 * 2 ≤ 60 * 4 by omega)⟩) ⟨zPre.blind, va_recv hK hC.1 (ci := 0) (q0 := 2) rfl rfl, cPre_go hZ hK hC⟩ rfl rfl hl.1 rfl (lv_room (Nat.le_of_ble_eq_true rfl)) dX7_beginDo_27 (cAcc h12 mo16 hr9)) hC.2.2.1 (fun q _ h => hFc q h) hFc (fun r17 u9 t9 H1 locs ht hvm hw hB hz1 hk1 hS => ?_)
    obtain ⟨⟨hP, hK1, hD1⟩, hsz1⟩ := hB
    rw [ht] at hP hsz1
    have hC : CP dC dI Q A s.heap p15.2 H1 locs := ⟨hP, hD1.weaken (fun _ _ _ h => hFc _ h), hS, hsz1⟩
    generalize H1 = H at hC ⊢
    have h18 : (CS.hs σ) ≤ CS.hs p15.2 := Nat.le_trans h12 mo16
    refine W.widen (k := CS.hs p15.2 - (CS.hs σ)) (n := 17 * (CS.hs p15.2 - (CS.hs σ))) (cAcc2 h12 mo16) (cAcc3 h12 mo16) ?_
    obtain rfl : r17 = p15.1 := hw
    cases hf
  ·
    refine W.eq (congrArg (fun v9 => F0 m 21 ls (va_rf v9 :: [])) q13) ?_
    refine W.eq (g2 := F0 m 21 ls (.ref a14 :: [])) rfl ?_
    refine lv_astore_n (lv' := [(1, .ref a14), (0, .ref (Q.o 3))]) hx hb dX7_beginDo_21 rfl hl (by decide) rfl (fun ls hl => ?_)
    refine lv_aload_n hx hb dX7_beginDo_22 rfl (lv_at hl 0 rfl) ?_
    refine lv_aload_n hx hb dX7_beginDo_23 rfl (lv_at hl 1 rfl) ?_
    refine cG_29 hx hb hts i_X7_beginDo_X7 hown hK hC (hts (.fieldLink RX7 20 "StatementRules2$Statements" "code" "LStatementRules2$Code;") k_X7_beginDo_fieldLink_RX7_20_SR_Statements_code_LSR_Code) (fun x9 q9 => u_same (hts (.sameField "StatementRules2$Statements" "StatementRules2$Formulas" "code" "LStatementRules2$Code;") k_X7_beginDo_sameField_SR_Statements_SR_Formulas_code_LSR_Code) x9 q9) dX7_beginDo_24 ?_
    obtain ⟨p19, hcp19, hf⟩ := hf_bind hf
    have mo20 : CS.hs p9.2 ≤ CS.hs p19.2 := Mono.go hcp19 (m_X0_newTarget N p9.2)
    have hr9 : CS.hs p19.2 ≤ CS.hs R.2 := Mono.go hf (mono_ite (mono_bind (m_X9_advance N (CS.setO p19.2 a14 11 p19.1)) (fun p24 => (mono_ite (mono_bind (m_X0_aim N p24.2 (CS.o p24.2 a14 11)) (fun p29 => (mono_bind (m_X0_add N p29.2 51 0) (fun p33 => (mono_some (Nat.le_refl _)))))) mono_none))) mono_none)
    have hFc := cFree hC hA
    refine va_calli (va_runV (As := []) (rest := [.ref a14]) ⟨hx, hb, hml, hown, hts⟩ (c_X0_newTarget l dC dI Q N p9.2 p19 hcp19) (cwV 0 hts hX7_beginDo_X0_newTarget_v136 rfl rfl rfl (by decide +kernel) ⟨(show 2 + 1 ≤ 4 by omega), (show 8 + (1 + 11) + 60 * 2 ≤ 60 * 4 by omega)⟩) ⟨zPre.blind, va_recv hK hC.1 (ci := 0) (q0 := 2) rfl rfl, cPre_go hZ hK hC⟩ rfl rfl hl.1 rfl (lv_room (Nat.le_of_ble_eq_true rfl)) dX7_beginDo_27 (cAcc h12 mo20 hr9)) hC.2.2.1 (fun q _ h => hFc q h) hFc (fun r21 u9 t9 H1 locs ht hvm hw hB hz1 hk1 hS => ?_)
    obtain ⟨⟨hP, hK1, hD1⟩, hsz1⟩ := hB
    rw [ht] at hP hsz1
    have hC : CP dC dI Q A s.heap p19.2 H1 locs := ⟨hP, hD1.weaken (fun _ _ _ h => hFc _ h), hS, hsz1⟩
    generalize H1 = H at hC ⊢
    have h22 : (CS.hs σ) ≤ CS.hs p19.2 := Nat.le_trans h12 mo20
    refine W.widen (k := CS.hs p19.2 - (CS.hs σ)) (n := 17 * (CS.hs p19.2 - (CS.hs σ))) (cAcc2 h12 mo20) (cAcc3 h12 mo20) ?_
    obtain rfl : r21 = p19.1 := hw
    obtain ⟨b23, hf⟩ := hf_ite hf
    refine pPN_X5_11 (v := p19.1) hx hb hts i_X7_beginDo_X5 hown hK hC (va_Nw.use rfl (hZ.1 (.fieldLinkNest RX7 140 "StatementRules2$Open" "other" "I" "StatementRules2") (by decide +kernel))) (fun _ q9 => q9) dX7_beginDo_30 b23 (fun H locs hC => ?_)
    refine lv_aload_n hx hb dX7_beginDo_33 rfl (lv_at hl 1 rfl) ?_
    refine cG_28 hx hb hts i_X7_beginDo_X7 hown hK hC (hts (.fieldLink RX7 71 "StatementRules2$Statements" "tokens" "LStatementRules2$Tokens;") k_X7_beginDo_fieldLink_RX7_71_SR_Statements_tokens_LSR_Tokens) (fun x9 q9 => u_same (hts (.sameField "StatementRules2$Statements" "StatementRules2$Formulas" "tokens" "LStatementRules2$Tokens;") k_X7_beginDo_sameField_SR_Statements_SR_Formulas_tokens_LSR_Tokens) x9 q9) dX7_beginDo_34 ?_
    obtain ⟨p24, hcp24, hf⟩ := hf_bind hf
    have mo25 : CS.hs p19.2 ≤ CS.hs p24.2 := Mono.go hcp24 (m_X9_advance N (CS.setO p19.2 a14 11 p19.1))
    have hr9 : CS.hs p24.2 ≤ CS.hs R.2 := Mono.go hf (mono_ite (mono_bind (m_X0_aim N p24.2 (CS.o p24.2 a14 11)) (fun p29 => (mono_bind (m_X0_add N p29.2 51 0) (fun p33 => (mono_some (Nat.le_refl _)))))) mono_none)
    have hFc := cFree hC hA
    refine va_callv (va_runV (As := []) (rest := []) ⟨hx, hb, hml, hown, hts⟩ (c_X9_advance l dC dI Q N (CS.setO p19.2 a14 11 p19.1) p24 hcp24) (cwV 0 hts hX7_beginDo_X9_advance_v146 rfl rfl rfl (by decide +kernel) ⟨(show 3 + 1 ≤ 4 by omega), (show 8 + (2 + 11) + 60 * 3 ≤ 60 * 4 by omega)⟩) ⟨zPre.blind, va_recv hK hC.1 (ci := 8) (q0 := 4) rfl rfl, cPre_go hZ hK hC⟩ rfl rfl hl.1 rfl (lv_room (Nat.le_of_ble_eq_true rfl)) dX7_beginDo_37 (cAcc h22 mo25 hr9)) hC.2.2.1 (fun q _ h => hFc q h) hFc (fun u9 t9 H1 locs ht hvm hw hB hz1 hk1 hS => ?_)
    obtain ⟨⟨hP, hK1, hD1⟩, hsz1⟩ := hB
    rw [ht] at hP hsz1
    have hC : CP dC dI Q A s.heap p24.2 H1 locs := ⟨hP, hD1.weaken (fun _ _ _ h => hFc _ h), hS, hsz1⟩
    generalize H1 = H at hC ⊢
    have h27 : (CS.hs σ) ≤ CS.hs p24.2 := Nat.le_trans h22 mo25
    refine W.widen (k := CS.hs p24.2 - (CS.hs σ)) (n := 17 * (CS.hs p24.2 - (CS.hs σ))) (cAcc2 h22 mo25) (cAcc3 h22 mo25) ?_
    refine lv_aload_n hx hb dX7_beginDo_40 rfl (lv_at hl 1 rfl) ?_
    refine cG_29 hx hb hts i_X7_beginDo_X7 hown hK hC (hts (.fieldLink RX7 20 "StatementRules2$Statements" "code" "LStatementRules2$Code;") k_X7_beginDo_fieldLink_RX7_20_SR_Statements_code_LSR_Code) (fun x9 q9 => u_same (hts (.sameField "StatementRules2$Statements" "StatementRules2$Formulas" "code" "LStatementRules2$Code;") k_X7_beginDo_sameField_SR_Statements_SR_Formulas_code_LSR_Code) x9 q9) dX7_beginDo_41 ?_
    refine lv_aload_n hx hb dX7_beginDo_44 rfl (lv_at hl 0 rfl) ?_
    obtain ⟨b28, hf⟩ := hf_ite hf
    refine pGN_X5_11 (v := (CS.o p24.2 a14 11)) hx hb hts i_X7_beginDo_X5 hown hK hC (va_Nw.use rfl (hZ.1 (.fieldLinkNest RX7 140 "StatementRules2$Open" "other" "I" "StatementRules2") (by decide +kernel))) (fun _ q9 => q9) dX7_beginDo_45 b28 rfl ?_
    obtain ⟨p29, hcp29, hf⟩ := hf_bind hf
    have mo30 : CS.hs p24.2 ≤ CS.hs p29.2 := Mono.go hcp29 (m_X0_aim N p24.2 (CS.o p24.2 a14 11))
    have hr9 : CS.hs p29.2 ≤ CS.hs R.2 := Mono.go hf (mono_bind (m_X0_add N p29.2 51 0) (fun p33 => (mono_some (Nat.le_refl _))))
    have hFc := cFree hC hA
    refine va_callv (va_runV (As := [.int (CS.o p24.2 a14 11)]) (rest := []) ⟨hx, hb, hml, hown, hts⟩ (c_X0_aim l dC dI Q N p24.2 (CS.o p24.2 a14 11) p29 hcp29) (cwV 1 hts hX7_beginDo_X0_aim_v158 rfl rfl rfl (by decide +kernel) ⟨(show 2 + 1 ≤ 4 by omega), (show 8 + (2 + 11) + 60 * 2 ≤ 60 * 4 by omega)⟩) ⟨zPre.blind, va_recv hK hC.1 (ci := 0) (q0 := 2) rfl rfl, cPre_go hZ hK hC⟩ rfl rfl hl.1 rfl (lv_room (Nat.le_of_ble_eq_true rfl)) dX7_beginDo_48 (cAcc h27 mo30 hr9)) hC.2.2.1 (fun q _ h => hFc q h) hFc (fun u9 t9 H1 locs ht hvm hw hB hz1 hk1 hS => ?_)
    obtain ⟨⟨hP, hK1, hD1⟩, hsz1⟩ := hB
    rw [ht] at hP hsz1
    have hC : CP dC dI Q A s.heap p29.2 H1 locs := ⟨hP, hD1.weaken (fun _ _ _ h => hFc _ h), hS, hsz1⟩
    generalize H1 = H at hC ⊢
    have h32 : (CS.hs σ) ≤ CS.hs p29.2 := Nat.le_trans h27 mo30
    refine W.widen (k := CS.hs p29.2 - (CS.hs σ)) (n := 17 * (CS.hs p29.2 - (CS.hs σ))) (cAcc2 h27 mo30) (cAcc3 h27 mo30) ?_
    refine lv_aload_n hx hb dX7_beginDo_51 rfl (lv_at hl 1 rfl) ?_
    refine cG_29 hx hb hts i_X7_beginDo_X7 hown hK hC (hts (.fieldLink RX7 20 "StatementRules2$Statements" "code" "LStatementRules2$Code;") k_X7_beginDo_fieldLink_RX7_20_SR_Statements_code_LSR_Code) (fun x9 q9 => u_same (hts (.sameField "StatementRules2$Statements" "StatementRules2$Formulas" "code" "LStatementRules2$Code;") k_X7_beginDo_sameField_SR_Statements_SR_Formulas_code_LSR_Code) x9 q9) dX7_beginDo_52 ?_
    refine lv_bipush (v := 51) hx hb dX7_beginDo_55 (by decide) ?_
    refine lv_iconst (v := 0) hx hb dX7_beginDo_57 (by decide) ?_
    obtain ⟨p33, hcp33, hf⟩ := hf_bind hf
    have mo34 : CS.hs p29.2 ≤ CS.hs p33.2 := Mono.go hcp33 (m_X0_add N p29.2 51 0)
    have hr9 : CS.hs p33.2 ≤ CS.hs R.2 := Mono.go hf (mono_some (Nat.le_refl _))
    have hFc := cFree hC hA
    refine va_callv (va_runV (As := [.int 51, .int 0]) (rest := []) ⟨hx, hb, hml, hown, hts⟩ (c_X0_add l dC dI Q N p29.2 51 0 p33 hcp33) (cwV 2 hts hX7_beginDo_X0_add_v176 rfl rfl rfl (by decide +kernel) ⟨(show 2 + 1 ≤ 4 by omega), (show 8 + (3 + 11) + 60 * 2 ≤ 60 * 4 by omega)⟩) ⟨zPre.blind, va_recv hK hC.1 (ci := 0) (q0 := 2) rfl rfl, cPre_go hZ hK hC⟩ rfl rfl hl.1 rfl (lv_room (Nat.le_of_ble_eq_true rfl)) dX7_beginDo_58 (cAcc h32 mo34 hr9)) hC.2.2.1 (fun q _ h => hFc q h) hFc (fun u9 t9 H1 locs ht hvm hw hB hz1 hk1 hS => ?_)
    obtain ⟨⟨hP, hK1, hD1⟩, hsz1⟩ := hB
    rw [ht] at hP hsz1
    have hC : CP dC dI Q A s.heap p33.2 H1 locs := ⟨hP, hD1.weaken (fun _ _ _ h => hFc _ h), hS, hsz1⟩
    generalize H1 = H at hC ⊢
    have h36 : (CS.hs σ) ≤ CS.hs p33.2 := Nat.le_trans h32 mo34
    refine W.widen (k := CS.hs p33.2 - (CS.hs σ)) (n := 17 * (CS.hs p33.2 - (CS.hs σ))) (cAcc2 h32 mo34) (cAcc3 h32 mo34) ?_
    obtain rfl := Option.some.inj hf
    exact W.vret hx hb hr (fun t ht hW => ⟨⟨(), rfl, trivial, ⟨by rw [ht]; exact hC.1, va_K.moved hW.alike hK, hC.2.1⟩, by rw [ht]; exact hC.2.2.2⟩, hC.2.2.1.F ht⟩) hC.2.2.1.2.2 dX7_beginDo_61
theorem k_X7_throwNull_fieldLink_RX7_20_SR_Statements_code_LSR_Code : Cond.fieldLink RX7 20 "StatementRules2$Statements" "code" "LStatementRules2$Code;" ∈ wzX7_throwNull := List.mem_cons_of_mem _ (List.mem_append_left _ (List.mem_of_getElem? (i := 0) rfl))
theorem k_X7_throwNull_sameField_SR_Statements_SR_Formulas_code_LSR_Code : Cond.sameField "StatementRules2$Statements" "StatementRules2$Formulas" "code" "LStatementRules2$Code;" ∈ wzX7_throwNull := List.mem_cons_of_mem _ (List.mem_append_left _ (List.mem_of_getElem? (i := 1) rfl))
theorem i_X7_throwNull_X7 : ∀ w ∈ wsX70, w ∈ wzX7_throwNull := fun _ h => List.mem_cons_of_mem _ (List.mem_append_right _ (List.mem_append_left _ (h)))
set_option maxHeartbeats 4000000 in
set_option maxRecDepth 100000 in
theorem c_X7_throwNull (l : Launch) (dC : Nat → ClassId) (dI : Nat → Nat → Nat) (Q : CQ) (N : Nat) (σ : CS) (R : Unit × CS) (hf : f_X7_throwNull N σ = some R) : Met l yX7_throwNull wzX7_throwNull ({ frames := 3, cells := CS.hs R.2 - CS.hs σ, slots := 17 * (CS.hs R.2 - CS.hs σ), locals := 60 * 3 }) (va_Pc [.ref (Q.o 3)] (zPre dC dI (CS.hs σ) (cW Q σ) (cT Q))) (va_Qv (fun (_ : Unit) => True) (fun (_ : Unit) (t : State) => zPost dC dI (va_A (cW Q σ) (CS.hs σ)) (cW Q R.2) (cT Q) t ∧ t.heap.size = CS.hs R.2) (va_A (cW Q σ) (CS.hs σ))) (CS.hs R.2 - CS.hs σ) (17 * (CS.hs R.2 - CS.hs σ)) (va_A (cW Q σ) (CS.hs σ)) := by
  refine Met.ofW (cc := cX7_throwNull) (maxL := 1) (ret := none) (by decide) rfl ?_
  intro p e s m args below meth c s₁ B hml hv
  obtain ⟨rfl, hsz, hZ, hP, hK, hD0⟩ := hv
  have hx := B.exec
  have hb := B.bytes
  have hr := B.returns
  have hts := atoms_spec (ws := wzX7_throwNull) B.pre
  have hown : s.vm.findClass RX7 = some m.cls := findClass_of_methodNamed B.named
  have hlocks := B.notSynchronized
  have hD := hD0.self (sz := CS.hs σ)
  generalize hAe : va_A (cW Q σ) (CS.hs σ) = A at hD ⊢
  have hA : ∀ q : Nat, s.heap.size ≤ q → A q := fun q h => by rw [← hAe]; exact Or.inr (hsz ▸ h)
  have hC : CP dC dI Q A s.heap σ s.heap [] := ⟨hP, hD, va_S.rf, hsz⟩
  have h0 : CS.hs σ ≤ CS.hs σ := Nat.le_refl _
  have hl := lv_entry ([.ref (Q.o 3)]) (n := 1) (Nat.le_of_ble_eq_true rfl)
  rw [lg_entry_eq]
  generalize (lg_sl ([.ref (Q.o 3)]) ++ List.replicate (1 - (lg_sl ([.ref (Q.o 3)])).length) Slot.unset).toArray = ls at hl ⊢
  have hl : lv_has ls 1 [(0, .ref (Q.o 3))] := hl
  unfold f_X7_throwNull at hf
  refine W.widen (k := CS.hs σ - CS.hs σ) (n := 17 * (CS.hs σ - CS.hs σ)) (Nat.zero_le _) (Nat.zero_le _) ?_
  refine lv_aload_n hx hb dX7_throwNull_0 rfl (lv_at hl 0 rfl) ?_
  refine cG_29 hx hb hts i_X7_throwNull_X7 hown hK hC (hts (.fieldLink RX7 20 "StatementRules2$Statements" "code" "LStatementRules2$Code;") k_X7_throwNull_fieldLink_RX7_20_SR_Statements_code_LSR_Code) (fun x9 q9 => u_same (hts (.sameField "StatementRules2$Statements" "StatementRules2$Formulas" "code" "LStatementRules2$Code;") k_X7_throwNull_sameField_SR_Statements_SR_Formulas_code_LSR_Code) x9 q9) dX7_throwNull_1 ?_
  refine lv_iconst (v := 0) hx hb dX7_throwNull_4 (by decide) ?_
  refine lv_iconst (v := 0) hx hb dX7_throwNull_5 (by decide) ?_
  obtain ⟨p1, hcp1, hf⟩ := hf_bind hf
  have mo2 : CS.hs σ ≤ CS.hs p1.2 := Mono.go hcp1 (m_X0_add N σ 0 0)
  have hr9 : CS.hs p1.2 ≤ CS.hs R.2 := Mono.go hf (mono_bind (m_X0_add N p1.2 63 1) (fun p5 => (mono_some (Nat.le_refl _))))
  have hFc := cFree hC hA
  refine va_callv (va_runV (As := [.int 0, .int 0]) (rest := []) ⟨hx, hb, hml, hown, hts⟩ (c_X0_add l dC dI Q N σ 0 0 p1 hcp1) (cwV 2 hts hX7_throwNull_X0_add_v176 rfl rfl rfl (by decide +kernel) ⟨(show 2 + 1 ≤ 3 by omega), (show 8 + (3 + 11) + 60 * 2 ≤ 60 * 3 by omega)⟩) ⟨zPre.blind, va_recv hK hC.1 (ci := 0) (q0 := 2) rfl rfl, cPre_go hZ hK hC⟩ rfl rfl hl.1 rfl (lv_room (Nat.le_of_ble_eq_true rfl)) dX7_throwNull_6 (cAcc h0 mo2 hr9)) hC.2.2.1 (fun q _ h => hFc q h) hFc (fun u9 t9 H1 locs ht hvm hw hB hz1 hk1 hS => ?_)
  obtain ⟨⟨hP, hK1, hD1⟩, hsz1⟩ := hB
  rw [ht] at hP hsz1
  have hC : CP dC dI Q A s.heap p1.2 H1 locs := ⟨hP, hD1.weaken (fun _ _ _ h => hFc _ h), hS, hsz1⟩
  generalize H1 = H at hC ⊢
  have h4 : (CS.hs σ) ≤ CS.hs p1.2 := Nat.le_trans h0 mo2
  refine W.widen (k := CS.hs p1.2 - (CS.hs σ)) (n := 17 * (CS.hs p1.2 - (CS.hs σ))) (cAcc2 h0 mo2) (cAcc3 h0 mo2) ?_
  refine lv_aload_n hx hb dX7_throwNull_9 rfl (lv_at hl 0 rfl) ?_
  refine cG_29 hx hb hts i_X7_throwNull_X7 hown hK hC (hts (.fieldLink RX7 20 "StatementRules2$Statements" "code" "LStatementRules2$Code;") k_X7_throwNull_fieldLink_RX7_20_SR_Statements_code_LSR_Code) (fun x9 q9 => u_same (hts (.sameField "StatementRules2$Statements" "StatementRules2$Formulas" "code" "LStatementRules2$Code;") k_X7_throwNull_sameField_SR_Statements_SR_Formulas_code_LSR_Code) x9 q9) dX7_throwNull_10 ?_
  refine lv_bipush (v := 63) hx hb dX7_throwNull_13 (by decide) ?_
  refine lv_iconst (v := 1) hx hb dX7_throwNull_15 (by decide) ?_
  obtain ⟨p5, hcp5, hf⟩ := hf_bind hf
  have mo6 : CS.hs p1.2 ≤ CS.hs p5.2 := Mono.go hcp5 (m_X0_add N p1.2 63 1)
  have hr9 : CS.hs p5.2 ≤ CS.hs R.2 := Mono.go hf (mono_some (Nat.le_refl _))
  have hFc := cFree hC hA
  refine va_callv (va_runV (As := [.int 63, .int 1]) (rest := []) ⟨hx, hb, hml, hown, hts⟩ (c_X0_add l dC dI Q N p1.2 63 1 p5 hcp5) (cwV 2 hts hX7_throwNull_X0_add_v176 rfl rfl rfl (by decide +kernel) ⟨(show 2 + 1 ≤ 3 by omega), (show 8 + (3 + 11) + 60 * 2 ≤ 60 * 3 by omega)⟩) ⟨zPre.blind, va_recv hK hC.1 (ci := 0) (q0 := 2) rfl rfl, cPre_go hZ hK hC⟩ rfl rfl hl.1 rfl (lv_room (Nat.le_of_ble_eq_true rfl)) dX7_throwNull_16 (cAcc h4 mo6 hr9)) hC.2.2.1 (fun q _ h => hFc q h) hFc (fun u9 t9 H1 locs ht hvm hw hB hz1 hk1 hS => ?_)
  obtain ⟨⟨hP, hK1, hD1⟩, hsz1⟩ := hB
  rw [ht] at hP hsz1
  have hC : CP dC dI Q A s.heap p5.2 H1 locs := ⟨hP, hD1.weaken (fun _ _ _ h => hFc _ h), hS, hsz1⟩
  generalize H1 = H at hC ⊢
  have h8 : (CS.hs σ) ≤ CS.hs p5.2 := Nat.le_trans h4 mo6
  refine W.widen (k := CS.hs p5.2 - (CS.hs σ)) (n := 17 * (CS.hs p5.2 - (CS.hs σ))) (cAcc2 h4 mo6) (cAcc3 h4 mo6) ?_
  obtain rfl := Option.some.inj hf
  exact W.vret hx hb hr (fun t ht hW => ⟨⟨(), rfl, trivial, ⟨by rw [ht]; exact hC.1, va_K.moved hW.alike hK, hC.2.1⟩, by rw [ht]; exact hC.2.2.2⟩, hC.2.2.1.F ht⟩) hC.2.2.1.2.2 dX7_throwNull_19
theorem k_X7_rowValues_fieldLink_RX7_20_SR_Statements_code_LSR_Code : Cond.fieldLink RX7 20 "StatementRules2$Statements" "code" "LStatementRules2$Code;" ∈ wzX7_rowValues := List.mem_cons_of_mem _ (List.mem_append_right _ (List.mem_append_right _ (List.mem_append_right _ (List.mem_append_right _ (List.mem_append_right _ (List.mem_append_right _ (List.mem_append_right _ (List.mem_append_right _ (List.mem_append_right _ (List.mem_append_right _ (List.mem_append_right _ (List.mem_append_right _ (List.mem_append_right _ (List.mem_append_right _ (List.mem_append_right _ (List.mem_append_right _ (List.mem_append_right _ (List.mem_append_right _ (List.mem_append_right _ (List.mem_append_right _ (List.mem_append_right _ (List.mem_append_right _ (List.mem_append_right _ (List.mem_append_right _ (List.mem_append_right _ (List.mem_append_right _ (List.mem_append_right _ (List.mem_append_right _ (List.mem_append_right _ (List.mem_append_right _ (List.mem_append_right _ (List.mem_append_left _ (List.mem_of_getElem? (i := 0) rfl)))))))))))))))))))))))))))))))))
theorem k_X7_rowValues_sameField_SR_Statements_SR_Formulas_code_LSR_Code : Cond.sameField "StatementRules2$Statements" "StatementRules2$Formulas" "code" "LStatementRules2$Code;" ∈ wzX7_rowValues := List.mem_cons_of_mem _ (List.mem_append_right _ (List.mem_append_right _ (List.mem_append_right _ (List.mem_append_right _ (List.mem_append_right _ (List.mem_append_right _ (List.mem_append_right _ (List.mem_append_right _ (List.mem_append_right _ (List.mem_append_right _ (List.mem_append_right _ (List.mem_append_right _ (List.mem_append_right _ (List.mem_append_right _ (List.mem_append_right _ (List.mem_append_right _ (List.mem_append_right _ (List.mem_append_right _ (List.mem_append_right _ (List.mem_append_right _ (List.mem_append_right _ (List.mem_append_right _ (List.mem_append_right _ (List.mem_append_right _ (List.mem_append_right _ (List.mem_append_right _ (List.mem_append_right _ (List.mem_append_right _ (List.mem_append_right _ (List.mem_append_right _ (List.mem_append_right _ (List.mem_append_left _ (List.mem_of_getElem? (i := 1) rfl)))))))))))))))))))))))))))))))))
theorem i_X7_rowValues_X7 : ∀ w ∈ wsX70, w ∈ wzX7_rowValues := fun _ h => List.mem_cons_of_mem _ (List.mem_append_right _ (List.mem_append_right _ (List.mem_append_right _ (List.mem_append_right _ (List.mem_append_right _ (List.mem_append_right _ (List.mem_append_right _ (List.mem_append_right _ (List.mem_append_right _ (List.mem_append_right _ (List.mem_append_right _ (List.mem_append_right _ (List.mem_append_right _ (List.mem_append_right _ (List.mem_append_right _ (List.mem_append_right _ (List.mem_append_right _ (List.mem_append_right _ (List.mem_append_right _ (List.mem_append_right _ (List.mem_append_right _ (List.mem_append_right _ (List.mem_append_right _ (List.mem_append_right _ (List.mem_append_right _ (List.mem_append_right _ (List.mem_append_right _ (List.mem_append_right _ (List.mem_append_right _ (List.mem_append_right _ (List.mem_append_right _ (List.mem_append_right _ (List.mem_append_right _ (List.mem_append_right _ (List.mem_append_right _ (List.mem_append_right _ (List.mem_append_left _ (h))))))))))))))))))))))))))))))))))))))
set_option maxHeartbeats 4000000 in
set_option maxRecDepth 100000 in
theorem j_X7_rowValues_60 {p : Program} {e : Env} {s : State} {m : MethodId} {args : Array Value} {below : List Frame} {meth : Method} {c : Code} {A : Nat → Prop} (l : Launch) (dC : Nat → ClassId) (dI : Nat → Nat → Nat) (Q : CQ) (N : Nat) (d : Nat) (E1 : CS → Option (Unit × CS)) (E2 : CS → Option (Int32 × CS)) (hE1 : cMF l dC dI Q d E1) (hE2 : cMO l dC dI Q d E2) (hm1 : ∀ σ, Mono (CS.hs σ) (E1 σ)) (hm2 : ∀ σ, Mono (CS.hs σ) (E2 σ)) (z9h : Nat) (R : Int32 × CS) (hx : p.tables.exec = Jvm.exec) (hb : c.code = cX7_rowValues) (hr : meth.sig.returnType = (some .int)) (hml : c.maxLocals = 3) (hown : s.vm.findClass RX7 = some m.cls) (hts : ∀ w ∈ wzX7_rowValues, w.before args s = true) (hlocks : meth.locks = false) (hZ : zAMB s) (hA : ∀ q : Nat, s.heap.size ≤ q → A q) (hK : va_K (dC, dI) vwCl (cT Q) s) : ∀ (σ : CS) (x1 : Int32) (H : Heap) (locs : List Loc) (ls : Array Slot), f_X7_rowValues_60 N E1 E2 σ x1 = some R → z9h ≤ CS.hs σ → CP dC dI Q A s.heap σ H locs → lv_has ls 3 [(0, .ref (Q.o 3)), (1, .int x1)] → W p l e ({ frames := (13 + 40 * d), cells := CS.hs R.2 - z9h, slots := 17 * (CS.hs R.2 - z9h), locals := 60 * (13 + 40 * d) }) s m args below meth c H locs (CS.hs σ - z9h) (17 * (CS.hs σ - z9h)) (MQ below (va_Qi (fun (r : Int32) (_ : Unit) => r = R.1) (fun (_ : Unit) (t : State) => zPost dC dI A (cW Q R.2) (cT Q) t ∧ t.heap.size = CS.hs R.2) A) args s (CS.hs R.2 - z9h) (17 * (CS.hs R.2 - z9h)) A) (F0 m 60 ls []) := by
  intro σ x1 H locs ls hf h0 hC hl
  unfold f_X7_rowValues_60 at hf
  refine lv_aload_n hx hb dX7_rowValues_60 rfl (lv_at hl 0 rfl) ?_
  refine cG_29 hx hb hts i_X7_rowValues_X7 hown hK hC (hts (.fieldLink RX7 20 "StatementRules2$Statements" "code" "LStatementRules2$Code;") k_X7_rowValues_fieldLink_RX7_20_SR_Statements_code_LSR_Code) (fun x9 q9 => u_same (hts (.sameField "StatementRules2$Statements" "StatementRules2$Formulas" "code" "LStatementRules2$Code;") k_X7_rowValues_sameField_SR_Statements_SR_Formulas_code_LSR_Code) x9 q9) dX7_rowValues_61 ?_
  refine lv_iconst (v := 2) hx hb dX7_rowValues_64 (by decide) ?_
  refine lv_iload_n hx hb dX7_rowValues_65 rfl (lv_at hl 1 rfl) ?_
  refine lv_iadd hx hb dX7_rowValues_66 ?_
  obtain ⟨p11, hcp11, hf⟩ := hf_bind hf
  have mo12 : CS.hs σ ≤ CS.hs p11.2 := Mono.go hcp11 (m_X0_newCells N σ (2 + x1))
  have hr9 : CS.hs p11.2 ≤ CS.hs R.2 := Mono.go hf (mono_bind (m_X0_add N p11.2 0 x1) (fun p15 => (mono_bind (m_X0_add N p15.2 36 p11.1) (fun p19 => (mono_some (Nat.le_refl _))))))
  have hFc := cFree hC hA
  refine va_calli (va_runV (As := [.int (2 + x1)]) (rest := []) ⟨hx, hb, hml, hown, hts⟩ (c_X0_newCells l dC dI Q N σ (2 + x1) p11 hcp11) (cwV 1 hts hX7_rowValues_X0_newCells_v41 rfl rfl rfl (by decide +kernel) ⟨(show 1 + 1 ≤ (13 + 40 * d) by omega), (show 8 + (2 + 11) + 60 * 1 ≤ 60 * (13 + 40 * d) by omega)⟩) ⟨zPre.blind, va_recv hK hC.1 (ci := 0) (q0 := 2) rfl rfl, cPre_go hZ hK hC⟩ rfl rfl hl.1 rfl (lv_room (Nat.le_of_ble_eq_true rfl)) dX7_rowValues_67 (cAcc h0 mo12 hr9)) hC.2.2.1 (fun q _ h => hFc q h) hFc (fun r13 u9 t9 H1 locs ht hvm hw hB hz1 hk1 hS => ?_)
  obtain ⟨⟨hP, hK1, hD1⟩, hsz1⟩ := hB
  rw [ht] at hP hsz1
  have hC : CP dC dI Q A s.heap p11.2 H1 locs := ⟨hP, hD1.weaken (fun _ _ _ h => hFc _ h), hS, hsz1⟩
  generalize H1 = H at hC ⊢
  have h14 : z9h ≤ CS.hs p11.2 := Nat.le_trans h0 mo12
  refine W.widen (k := CS.hs p11.2 - z9h) (n := 17 * (CS.hs p11.2 - z9h)) (cAcc2 h0 mo12) (cAcc3 h0 mo12) ?_
  obtain rfl : r13 = p11.1 := hw
  refine lv_istore_n (lv' := [(2, .int p11.1), (0, .ref (Q.o 3)), (1, .int x1)]) hx hb dX7_rowValues_70 rfl hl (by decide) rfl (fun ls hl => ?_)
  refine lv_aload_n hx hb dX7_rowValues_71 rfl (lv_at hl 1 rfl) ?_
  refine cG_29 hx hb hts i_X7_rowValues_X7 hown hK hC (hts (.fieldLink RX7 20 "StatementRules2$Statements" "code" "LStatementRules2$Code;") k_X7_rowValues_fieldLink_RX7_20_SR_Statements_code_LSR_Code) (fun x9 q9 => u_same (hts (.sameField "StatementRules2$Statements" "StatementRules2$Formulas" "code" "LStatementRules2$Code;") k_X7_rowValues_sameField_SR_Statements_SR_Formulas_code_LSR_Code) x9 q9) dX7_rowValues_72 ?_
  refine lv_iconst (v := 0) hx hb dX7_rowValues_75 (by decide) ?_
  refine lv_iload_n hx hb dX7_rowValues_76 rfl (lv_at hl 2 rfl) ?_
  obtain ⟨p15, hcp15, hf⟩ := hf_bind hf
  have mo16 : CS.hs p11.2 ≤ CS.hs p15.2 := Mono.go hcp15 (m_X0_add N p11.2 0 x1)
  have hr9 : CS.hs p15.2 ≤ CS.hs R.2 := Mono.go hf (mono_bind (m_X0_add N p15.2 36 p11.1) (fun p19 => (mono_some (Nat.le_refl _))))
  have hFc := cFree hC hA
  refine va_callv (va_runV (As := [.int 0, .int x1]) (rest := []) ⟨hx, hb, hml, hown, hts⟩ (c_X0_add l dC dI Q N p11.2 0 x1 p15 hcp15) (cwV 2 hts hX7_rowValues_X0_add_v176 rfl rfl rfl (by decide +kernel) ⟨(show 2 + 1 ≤ (13 + 40 * d) by omega), (show 8 + (3 + 11) + 60 * 2 ≤ 60 * (13 + 40 * d) by omega)⟩) ⟨zPre.blind, va_recv hK hC.1 (ci := 0) (q0 := 2) rfl rfl, cPre_go hZ hK hC⟩ rfl rfl hl.1 rfl (lv_room (Nat.le_of_ble_eq_true rfl)) dX7_rowValues_77 (cAcc h14 mo16 hr9)) hC.2.2.1 (fun q _ h => hFc q h) hFc (fun u9 t9 H1 locs ht hvm hw hB hz1 hk1 hS => ?_)
  obtain ⟨⟨hP, hK1, hD1⟩, hsz1⟩ := hB
  rw [ht] at hP hsz1
  have hC : CP dC dI Q A s.heap p15.2 H1 locs := ⟨hP, hD1.weaken (fun _ _ _ h => hFc _ h), hS, hsz1⟩
  generalize H1 = H at hC ⊢
  have h18 : z9h ≤ CS.hs p15.2 := Nat.le_trans h14 mo16
  refine W.widen (k := CS.hs p15.2 - z9h) (n := 17 * (CS.hs p15.2 - z9h)) (cAcc2 h14 mo16) (cAcc3 h14 mo16) ?_
  refine lv_aload_n hx hb dX7_rowValues_80 rfl (lv_at hl 1 rfl) ?_
  refine cG_29 hx hb hts i_X7_rowValues_X7 hown hK hC (hts (.fieldLink RX7 20 "StatementRules2$Statements" "code" "LStatementRules2$Code;") k_X7_rowValues_fieldLink_RX7_20_SR_Statements_code_LSR_Code) (fun x9 q9 => u_same (hts (.sameField "StatementRules2$Statements" "StatementRules2$Formulas" "code" "LStatementRules2$Code;") k_X7_rowValues_sameField_SR_Statements_SR_Formulas_code_LSR_Code) x9 q9) dX7_rowValues_81 ?_
  refine lv_bipush (v := 36) hx hb dX7_rowValues_84 (by decide) ?_
  refine lv_iload_n hx hb dX7_rowValues_86 rfl (lv_at hl 0 rfl) ?_
  obtain ⟨p19, hcp19, hf⟩ := hf_bind hf
  have mo20 : CS.hs p15.2 ≤ CS.hs p19.2 := Mono.go hcp19 (m_X0_add N p15.2 36 p11.1)
  have hr9 : CS.hs p19.2 ≤ CS.hs R.2 := Mono.go hf (mono_some (Nat.le_refl _))
  have hFc := cFree hC hA
  refine va_callv (va_runV (As := [.int 36, .int p11.1]) (rest := []) ⟨hx, hb, hml, hown, hts⟩ (c_X0_add l dC dI Q N p15.2 36 p11.1 p19 hcp19) (cwV 2 hts hX7_rowValues_X0_add_v176 rfl rfl rfl (by decide +kernel) ⟨(show 2 + 1 ≤ (13 + 40 * d) by omega), (show 8 + (3 + 11) + 60 * 2 ≤ 60 * (13 + 40 * d) by omega)⟩) ⟨zPre.blind, va_recv hK hC.1 (ci := 0) (q0 := 2) rfl rfl, cPre_go hZ hK hC⟩ rfl rfl hl.1 rfl (lv_room (Nat.le_of_ble_eq_true rfl)) dX7_rowValues_87 (cAcc h18 mo20 hr9)) hC.2.2.1 (fun q _ h => hFc q h) hFc (fun u9 t9 H1 locs ht hvm hw hB hz1 hk1 hS => ?_)
  obtain ⟨⟨hP, hK1, hD1⟩, hsz1⟩ := hB
  rw [ht] at hP hsz1
  have hC : CP dC dI Q A s.heap p19.2 H1 locs := ⟨hP, hD1.weaken (fun _ _ _ h => hFc _ h), hS, hsz1⟩
  generalize H1 = H at hC ⊢
  have h22 : z9h ≤ CS.hs p19.2 := Nat.le_trans h18 mo20
  refine W.widen (k := CS.hs p19.2 - z9h) (n := 17 * (CS.hs p19.2 - z9h)) (cAcc2 h18 mo20) (cAcc3 h18 mo20) ?_
  refine lv_iload_n hx hb dX7_rowValues_90 rfl (lv_at hl 0 rfl) ?_
  obtain rfl := Option.some.inj hf
  exact W.iret (v := p11.1) hx hb hr (fun t ht hW => ⟨⟨p11.1, (), rfl, rfl, ⟨by rw [ht]; exact hC.1, va_K.moved hW.alike hK, hC.2.1⟩, by rw [ht]; exact hC.2.2.2⟩, hC.2.2.1.F ht⟩) hC.2.2.1.2.2 dX7_rowValues_91
set_option maxHeartbeats 4000000 in
set_option maxRecDepth 100000 in
theorem j_X7_rowValues_31 {p : Program} {e : Env} {s : State} {m : MethodId} {args : Array Value} {below : List Frame} {meth : Method} {c : Code} {A : Nat → Prop} (l : Launch) (dC : Nat → ClassId) (dI : Nat → Nat → Nat) (Q : CQ) (N : Nat) (d : Nat) (E1 : CS → Option (Unit × CS)) (E2 : CS → Option (Int32 × CS)) (hE1 : cMF l dC dI Q d E1) (hE2 : cMO l dC dI Q d E2) (hm1 : ∀ σ, Mono (CS.hs σ) (E1 σ)) (hm2 : ∀ σ, Mono (CS.hs σ) (E2 σ)) (z9h : Nat) (R : Int32 × CS) (hx : p.tables.exec = Jvm.exec) (hb : c.code = cX7_rowValues) (hr : meth.sig.returnType = (some .int)) (hml : c.maxLocals = 3) (hown : s.vm.findClass RX7 = some m.cls) (hts : ∀ w ∈ wzX7_rowValues, w.before args s = true) (hlocks : meth.locks = false) (hZ : zAMB s) (hA : ∀ q : Nat, s.heap.size ≤ q → A q) (hK : va_K (dC, dI) vwCl (cT Q) s) : ∀ (n9 : Nat), ∀ (σ : CS) (x1 : Int32) (x2 : Int32) (H : Heap) (locs : List Loc) (ls : Array Slot), f_X7_rowValues_31 N E1 E2 n9 σ x1 x2 = some R → z9h ≤ CS.hs σ → CP dC dI Q A s.heap σ H locs → lv_has ls 3 [(0, .ref (Q.o 3)), (1, .int x1), (2, .int x2)] → W p l e ({ frames := (13 + 40 * d), cells := CS.hs R.2 - z9h, slots := 17 * (CS.hs R.2 - z9h), locals := 60 * (13 + 40 * d) }) s m args below meth c H locs (CS.hs σ - z9h) (17 * (CS.hs σ - z9h)) (MQ below (va_Qi (fun (r : Int32) (_ : Unit) => r = R.1) (fun (_ : Unit) (t : State) => zPost dC dI A (cW Q R.2) (cT Q) t ∧ t.heap.size = CS.hs R.2) A) args s (CS.hs R.2 - z9h) (17 * (CS.hs R.2 - z9h)) A) (F0 m 31 ls []) := by
  intro n9
  induction n9 with
  | zero => intro σ x1 x2 H locs ls hf; exact absurd hf (by intro q9; cases q9)
  | succ n9 ih =>
    intro σ x1 x2 H locs ls hf h0 hC hl
    replace hf : b_X7_rowValues_31 N E1 E2 (f_X7_rowValues_31 N E1 E2 n9) σ x1 x2 = some R := hf
    unfold b_X7_rowValues_31 at hf
    have hMK := fun (σ : CS) (x1 : Int32) (x2 : Int32) => m_X7_rowValues_31 N E1 E2 hm1 hm2 n9 σ x1 x2
    refine lv_iload_n hx hb dX7_rowValues_31 rfl (lv_at hl 2 rfl) ?_
    refine lv_sipush (v := 900) hx hb dX7_rowValues_32 (by decide) ?_
    refine lv_icmp_ge (tgt := 60) hx hb dX7_rowValues_35 (by decide) (fun c10 => ?_) (fun c10 => ?_)
    ·
      replace hf := (if_pos c10).symm.trans hf
      exact j_X7_rowValues_60 l dC dI Q N d E1 E2 hE1 hE2 hm1 hm2 z9h R hx hb hr hml hown hts hlocks hZ hA hK σ x1 _ _ _ hf h0 hC (lv_sub hl [0, 1] rfl)
    ·
      replace hf := (if_neg c10).symm.trans hf
      refine lv_aload_n hx hb dX7_rowValues_38 rfl (lv_at hl 0 rfl) ?_
      refine lv_bipush (v := 44) hx hb dX7_rowValues_39 (by decide) ?_
      obtain ⟨p23, hcp23, hf⟩ := hf_bind hf
      have mo24 : CS.hs σ ≤ CS.hs p23.2 := Mono.go hcp23 (m_X1_skip N σ 44)
      have hr9 : CS.hs p23.2 ≤ CS.hs R.2 := Mono.go hf (mono_ite (m_X7_rowValues_60 N E1 E2 hm1 hm2 p23.2 x1) (mono_bind (m_X1_expression N E1 E2 hm1 hm2 p23.2) (fun p28 => (hMK p28.2 (x1 + 1) (x2 + 1)))))
      have hFc := cFree hC hA
      refine va_calli (va_runU (As := [.int 44]) (rest := []) ⟨hx, hb, hml, hown, hts⟩ (c_X1_skip l dC dI Q N σ 44 p23 hcp23) (va_cwU 1 hts hX7_rowValues_X1_skip_u205 rfl rfl rfl rfl (by decide +kernel) ⟨(show 4 + 1 ≤ (13 + 40 * d) by omega), (show 8 + (3 + 11) + 60 * 4 ≤ 60 * (13 + 40 * d) by omega)⟩) ⟨zPre.blind, va_recv hK hC.1 (ci := 6) (q0 := 3) rfl rfl, cPre_go hZ hK hC⟩ rfl rfl hl.1 rfl (lv_room (Nat.le_of_ble_eq_true rfl)) dX7_rowValues_41 (cAcc h0 mo24 hr9)) hC.2.2.1 (fun q _ h => hFc q h) hFc (fun r25 u9 t9 H1 locs ht hvm hw hB hz1 hk1 hS => ?_)
      obtain ⟨⟨hP, hK1, hD1⟩, hsz1⟩ := hB
      rw [ht] at hP hsz1
      have hC : CP dC dI Q A s.heap p23.2 H1 locs := ⟨hP, hD1.weaken (fun _ _ _ h => hFc _ h), hS, hsz1⟩
      generalize H1 = H at hC ⊢
      have h26 : z9h ≤ CS.hs p23.2 := Nat.le_trans h0 mo24
      refine W.widen (k := CS.hs p23.2 - z9h) (n := 17 * (CS.hs p23.2 - z9h)) (cAcc2 h0 mo24) (cAcc3 h0 mo24) ?_
      obtain rfl : r25 = p23.1 := hw
      refine lv_if_eq (tgt := 60) hx hb dX7_rowValues_44 (by decide) (fun c27 => ?_) (fun c27 => ?_)
      ·
        replace hf := (if_pos c27).symm.trans hf
        exact j_X7_rowValues_60 l dC dI Q N d E1 E2 hE1 hE2 hm1 hm2 z9h R hx hb hr hml hown hts hlocks hZ hA hK p23.2 x1 _ _ _ hf h26 hC (lv_sub hl [0, 1] rfl)
      ·
        replace hf := (if_neg c27).symm.trans hf
        refine lv_aload_n hx hb dX7_rowValues_47 rfl (lv_at hl 0 rfl) ?_
        obtain ⟨p28, hcp28, hf⟩ := hf_bind hf
        have mo29 : CS.hs p23.2 ≤ CS.hs p28.2 := Mono.go hcp28 (m_X1_expression N E1 E2 hm1 hm2 p23.2)
        have hr9 : CS.hs p28.2 ≤ CS.hs R.2 := Mono.go hf (hMK p28.2 (x1 + 1) (x2 + 1))
        have hFc := cFree hC hA
        refine va_callv (va_runU (As := []) (rest := []) ⟨hx, hb, hml, hown, hts⟩ (c_X1_expression l dC dI Q N d E1 E2 hE1 hE2 hm1 hm2 p23.2 p28 hcp28) (va_cwU 0 hts hX7_rowValues_X1_expression_u211 rfl rfl rfl rfl (by decide +kernel) ⟨(show (12 + 40 * d) + 1 ≤ (13 + 40 * d) by omega), (show 8 + (3 + 11) + 60 * (12 + 40 * d) ≤ 60 * (13 + 40 * d) by omega)⟩) ⟨zPre.blind, va_recv hK hC.1 (ci := 6) (q0 := 3) rfl rfl, cPre_go hZ hK hC⟩ rfl rfl hl.1 rfl (lv_room (Nat.le_of_ble_eq_true rfl)) dX7_rowValues_48 (cAcc h26 mo29 hr9)) hC.2.2.1 (fun q _ h => hFc q h) hFc (fun u9 t9 H1 locs ht hvm hw hB hz1 hk1 hS => ?_)
        obtain ⟨⟨hP, hK1, hD1⟩, hsz1⟩ := hB
        rw [ht] at hP hsz1
        have hC : CP dC dI Q A s.heap p28.2 H1 locs := ⟨hP, hD1.weaken (fun _ _ _ h => hFc _ h), hS, hsz1⟩
        generalize H1 = H at hC ⊢
        have h31 : z9h ≤ CS.hs p28.2 := Nat.le_trans h26 mo29
        refine W.widen (k := CS.hs p28.2 - z9h) (n := 17 * (CS.hs p28.2 - z9h)) (cAcc2 h26 mo29) (cAcc3 h26 mo29) ?_
        refine lv_iinc (v := (x1 + 1)) (lv' := [(1, .int (x1 + 1)), (0, .ref (Q.o 3)), (2, .int x2)]) hx hb dX7_rowValues_51 hl (k := 1) rfl rfl (by decide) rfl (fun ls hl => ?_)
        refine lv_iinc (v := (x2 + 1)) (lv' := [(2, .int (x2 + 1)), (1, .int (x1 + 1)), (0, .ref (Q.o 3))]) hx hb dX7_rowValues_54 hl (k := 2) rfl rfl (by decide) rfl (fun ls hl => ?_)
        refine lv_goto (tgt := 31) hx hb dX7_rowValues_57 (by decide) ?_
        exact ih p28.2 (x1 + 1) (x2 + 1) _ _ _ hf h31 hC (lv_sub hl [2, 1, 0] rfl)
set_option maxHeartbeats 4000000 in
set_option maxRecDepth 100000 in
theorem c_X7_rowValues (l : Launch) (dC : Nat → ClassId) (dI : Nat → Nat → Nat) (Q : CQ) (N : Nat) (d : Nat) (E1 : CS → Option (Unit × CS)) (E2 : CS → Option (Int32 × CS)) (hE1 : cMF l dC dI Q d E1) (hE2 : cMO l dC dI Q d E2) (hm1 : ∀ σ, Mono (CS.hs σ) (E1 σ)) (hm2 : ∀ σ, Mono (CS.hs σ) (E2 σ)) (σ : CS) (R : Int32 × CS) (hf : f_X7_rowValues N E1 E2 σ = some R) : Met l yX7_rowValues wzX7_rowValues ({ frames := (13 + 40 * d), cells := CS.hs R.2 - CS.hs σ, slots := 17 * (CS.hs R.2 - CS.hs σ), locals := 60 * (13 + 40 * d) }) (va_Pc [.ref (Q.o 3)] (zPre dC dI (CS.hs σ) (cW Q σ) (cT Q))) (va_Qi (fun (r : Int32) (_ : Unit) => r = R.1) (fun (_ : Unit) (t : State) => zPost dC dI (va_A (cW Q σ) (CS.hs σ)) (cW Q R.2) (cT Q) t ∧ t.heap.size = CS.hs R.2) (va_A (cW Q σ) (CS.hs σ))) (CS.hs R.2 - CS.hs σ) (17 * (CS.hs R.2 - CS.hs σ)) (va_A (cW Q σ) (CS.hs σ)) := by
  refine Met.ofW (cc := cX7_rowValues) (maxL := 3) (ret := (some .int)) (by decide) rfl ?_
  intro p e s m args below meth c s₁ B hml hv
  obtain ⟨rfl, hsz, hZ, hP, hK, hD0⟩ := hv
  have hx := B.exec
  have hb := B.bytes
  have hr := B.returns
  have hts := atoms_spec (ws := wzX7_rowValues) B.pre
  have hown : s.vm.findClass RX7 = some m.cls := findClass_of_methodNamed B.named
  have hlocks := B.notSynchronized
  have hD := hD0.self (sz := CS.hs σ)
  generalize hAe : va_A (cW Q σ) (CS.hs σ) = A at hD ⊢
  have hA : ∀ q : Nat, s.heap.size ≤ q → A q := fun q h => by rw [← hAe]; exact Or.inr (hsz ▸ h)
  have hC : CP dC dI Q A s.heap σ s.heap [] := ⟨hP, hD, va_S.rf, hsz⟩
  have h0 : CS.hs σ ≤ CS.hs σ := Nat.le_refl _
  have hl := lv_entry ([.ref (Q.o 3)]) (n := 3) (Nat.le_of_ble_eq_true rfl)
  rw [lg_entry_eq]
  generalize (lg_sl ([.ref (Q.o 3)]) ++ List.replicate (3 - (lg_sl ([.ref (Q.o 3)])).length) Slot.unset).toArray = ls at hl ⊢
  have hl : lv_has ls 3 [(0, .ref (Q.o 3))] := hl
  unfold f_X7_rowValues at hf
  refine W.widen (k := CS.hs σ - CS.hs σ) (n := 17 * (CS.hs σ - CS.hs σ)) (Nat.zero_le _) (Nat.zero_le _) ?_
  refine lv_aload_n hx hb dX7_rowValues_0 rfl (lv_at hl 0 rfl) ?_
  refine lv_sipush (v := 224) hx hb dX7_rowValues_1 (by decide) ?_
  obtain ⟨p1, hcp1, hf⟩ := hf_bind hf
  have mo2 : CS.hs σ ≤ CS.hs p1.2 := Mono.go hcp1 (m_X1_skip N σ 224)
  have hr9 : CS.hs p1.2 ≤ CS.hs R.2 := Mono.go hf (mono_ite (mono_bind (m_X1_expression N E1 E2 hm1 hm2 p1.2) (fun p6 => (m_X7_rowValues_31 N E1 E2 hm1 hm2 N p6.2 1 0))) (mono_bind (m_X7_throwNull N p1.2) (fun p32 => (mono_bind (m_X0_newCells N p32.2 2) (fun p36 => (mono_some (Nat.le_refl _)))))))
  have hFc := cFree hC hA
  refine va_calli (va_runU (As := [.int 224]) (rest := []) ⟨hx, hb, hml, hown, hts⟩ (c_X1_skip l dC dI Q N σ 224 p1 hcp1) (va_cwU 1 hts hX7_rowValues_X1_skip_u205 rfl rfl rfl rfl (by decide +kernel) ⟨(show 4 + 1 ≤ (13 + 40 * d) by omega), (show 8 + (3 + 11) + 60 * 4 ≤ 60 * (13 + 40 * d) by omega)⟩) ⟨zPre.blind, va_recv hK hC.1 (ci := 6) (q0 := 3) rfl rfl, cPre_go hZ hK hC⟩ rfl rfl hl.1 rfl (lv_room (Nat.le_of_ble_eq_true rfl)) dX7_rowValues_4 (cAcc h0 mo2 hr9)) hC.2.2.1 (fun q _ h => hFc q h) hFc (fun r3 u9 t9 H1 locs ht hvm hw hB hz1 hk1 hS => ?_)
  obtain ⟨⟨hP, hK1, hD1⟩, hsz1⟩ := hB
  rw [ht] at hP hsz1
  have hC : CP dC dI Q A s.heap p1.2 H1 locs := ⟨hP, hD1.weaken (fun _ _ _ h => hFc _ h), hS, hsz1⟩
  generalize H1 = H at hC ⊢
  have h4 : (CS.hs σ) ≤ CS.hs p1.2 := Nat.le_trans h0 mo2
  refine W.widen (k := CS.hs p1.2 - (CS.hs σ)) (n := 17 * (CS.hs p1.2 - (CS.hs σ))) (cAcc2 h0 mo2) (cAcc3 h0 mo2) ?_
  obtain rfl : r3 = p1.1 := hw
  refine lv_if_eq (tgt := 23) hx hb dX7_rowValues_7 (by decide) (fun c5 => ?_) (fun c5 => ?_)
  ·
    replace hf := (if_pos c5).symm.trans hf
    refine lv_iconst (v := 1) hx hb dX7_rowValues_23 (by decide) ?_
    refine lv_istore_n (lv' := [(1, .int 1), (0, .ref (Q.o 3))]) hx hb dX7_rowValues_24 rfl hl (by decide) rfl (fun ls hl => ?_)
    refine lv_aload_n hx hb dX7_rowValues_25 rfl (lv_at hl 1 rfl) ?_
    obtain ⟨p6, hcp6, hf⟩ := hf_bind hf
    have mo7 : CS.hs p1.2 ≤ CS.hs p6.2 := Mono.go hcp6 (m_X1_expression N E1 E2 hm1 hm2 p1.2)
    have hr9 : CS.hs p6.2 ≤ CS.hs R.2 := Mono.go hf (m_X7_rowValues_31 N E1 E2 hm1 hm2 N p6.2 1 0)
    have hFc := cFree hC hA
    refine va_callv (va_runU (As := []) (rest := []) ⟨hx, hb, hml, hown, hts⟩ (c_X1_expression l dC dI Q N d E1 E2 hE1 hE2 hm1 hm2 p1.2 p6 hcp6) (va_cwU 0 hts hX7_rowValues_X1_expression_u211 rfl rfl rfl rfl (by decide +kernel) ⟨(show (12 + 40 * d) + 1 ≤ (13 + 40 * d) by omega), (show 8 + (3 + 11) + 60 * (12 + 40 * d) ≤ 60 * (13 + 40 * d) by omega)⟩) ⟨zPre.blind, va_recv hK hC.1 (ci := 6) (q0 := 3) rfl rfl, cPre_go hZ hK hC⟩ rfl rfl hl.1 rfl (lv_room (Nat.le_of_ble_eq_true rfl)) dX7_rowValues_26 (cAcc h4 mo7 hr9)) hC.2.2.1 (fun q _ h => hFc q h) hFc (fun u9 t9 H1 locs ht hvm hw hB hz1 hk1 hS => ?_)
    obtain ⟨⟨hP, hK1, hD1⟩, hsz1⟩ := hB
    rw [ht] at hP hsz1
    have hC : CP dC dI Q A s.heap p6.2 H1 locs := ⟨hP, hD1.weaken (fun _ _ _ h => hFc _ h), hS, hsz1⟩
    generalize H1 = H at hC ⊢
    have h9 : (CS.hs σ) ≤ CS.hs p6.2 := Nat.le_trans h4 mo7
    refine W.widen (k := CS.hs p6.2 - (CS.hs σ)) (n := 17 * (CS.hs p6.2 - (CS.hs σ))) (cAcc2 h4 mo7) (cAcc3 h4 mo7) ?_
    refine lv_iconst (v := 0) hx hb dX7_rowValues_29 (by decide) ?_
    refine lv_istore_n (lv' := [(2, .int 0), (1, .int 1), (0, .ref (Q.o 3))]) hx hb dX7_rowValues_30 rfl hl (by decide) rfl (fun ls hl => ?_)
    exact j_X7_rowValues_31 l dC dI Q N d E1 E2 hE1 hE2 hm1 hm2 (CS.hs σ) R hx hb hr hml hown hts hlocks hZ hA hK N p6.2 1 0 _ _ _ hf h9 hC (lv_sub hl [2, 1, 0] rfl)
  ·
    replace hf := (if_neg c5).symm.trans hf
    refine lv_aload_n hx hb dX7_rowValues_10 rfl (lv_at hl 0 rfl) ?_
    obtain ⟨p32, hcp32, hf⟩ := hf_bind hf
    have mo33 : CS.hs p1.2 ≤ CS.hs p32.2 := Mono.go hcp32 (m_X7_throwNull N p1.2)
    have hr9 : CS.hs p32.2 ≤ CS.hs R.2 := Mono.go hf (mono_bind (m_X0_newCells N p32.2 2) (fun p36 => (mono_some (Nat.le_refl _))))
    have hFc := cFree hC hA
    refine va_callv (va_runV (As := []) (rest := []) ⟨hx, hb, hml, hown, hts⟩ (c_X7_throwNull l dC dI Q N p1.2 p32 hcp32) (cwV 0 hts hX7_rowValues_X7_throwNull_v344 rfl rfl rfl (by decide +kernel) ⟨(show 3 + 1 ≤ (13 + 40 * d) by omega), (show 8 + (1 + 11) + 60 * 3 ≤ 60 * (13 + 40 * d) by omega)⟩) ⟨zPre.blind, va_recv hK hC.1 (ci := 6) (q0 := 3) rfl rfl, cPre_go hZ hK hC⟩ rfl rfl hl.1 rfl (lv_room (Nat.le_of_ble_eq_true rfl)) dX7_rowValues_11 (cAcc h4 mo33 hr9)) hC.2.2.1 (fun q _ h => hFc q h) hFc (fun u9 t9 H1 locs ht hvm hw hB hz1 hk1 hS => ?_)
    obtain ⟨⟨hP, hK1, hD1⟩, hsz1⟩ := hB
    rw [ht] at hP hsz1
    have hC : CP dC dI Q A s.heap p32.2 H1 locs := ⟨hP, hD1.weaken (fun _ _ _ h => hFc _ h), hS, hsz1⟩
    generalize H1 = H at hC ⊢
    have h35 : (CS.hs σ) ≤ CS.hs p32.2 := Nat.le_trans h4 mo33
    refine W.widen (k := CS.hs p32.2 - (CS.hs σ)) (n := 17 * (CS.hs p32.2 - (CS.hs σ))) (cAcc2 h4 mo33) (cAcc3 h4 mo33) ?_
    refine lv_aload_n hx hb dX7_rowValues_14 rfl (lv_at hl 0 rfl) ?_
    refine cG_29 hx hb hts i_X7_rowValues_X7 hown hK hC (hts (.fieldLink RX7 20 "StatementRules2$Statements" "code" "LStatementRules2$Code;") k_X7_rowValues_fieldLink_RX7_20_SR_Statements_code_LSR_Code) (fun x9 q9 => u_same (hts (.sameField "StatementRules2$Statements" "StatementRules2$Formulas" "code" "LStatementRules2$Code;") k_X7_rowValues_sameField_SR_Statements_SR_Formulas_code_LSR_Code) x9 q9) dX7_rowValues_15 ?_
    refine lv_iconst (v := 2) hx hb dX7_rowValues_18 (by decide) ?_
    obtain ⟨p36, hcp36, hf⟩ := hf_bind hf
    have mo37 : CS.hs p32.2 ≤ CS.hs p36.2 := Mono.go hcp36 (m_X0_newCells N p32.2 2)
    have hr9 : CS.hs p36.2 ≤ CS.hs R.2 := Mono.go hf (mono_some (Nat.le_refl _))
    have hFc := cFree hC hA
    refine va_calli (va_runV (As := [.int 2]) (rest := []) ⟨hx, hb, hml, hown, hts⟩ (c_X0_newCells l dC dI Q N p32.2 2 p36 hcp36) (cwV 1 hts hX7_rowValues_X0_newCells_v41 rfl rfl rfl (by decide +kernel) ⟨(show 1 + 1 ≤ (13 + 40 * d) by omega), (show 8 + (2 + 11) + 60 * 1 ≤ 60 * (13 + 40 * d) by omega)⟩) ⟨zPre.blind, va_recv hK hC.1 (ci := 0) (q0 := 2) rfl rfl, cPre_go hZ hK hC⟩ rfl rfl hl.1 rfl (lv_room (Nat.le_of_ble_eq_true rfl)) dX7_rowValues_19 (cAcc h35 mo37 hr9)) hC.2.2.1 (fun q _ h => hFc q h) hFc (fun r38 u9 t9 H1 locs ht hvm hw hB hz1 hk1 hS => ?_)
    obtain ⟨⟨hP, hK1, hD1⟩, hsz1⟩ := hB
    rw [ht] at hP hsz1
    have hC : CP dC dI Q A s.heap p36.2 H1 locs := ⟨hP, hD1.weaken (fun _ _ _ h => hFc _ h), hS, hsz1⟩
    generalize H1 = H at hC ⊢
    have h39 : (CS.hs σ) ≤ CS.hs p36.2 := Nat.le_trans h35 mo37
    refine W.widen (k := CS.hs p36.2 - (CS.hs σ)) (n := 17 * (CS.hs p36.2 - (CS.hs σ))) (cAcc2 h35 mo37) (cAcc3 h35 mo37) ?_
    obtain rfl : r38 = p36.1 := hw
    obtain rfl := Option.some.inj hf
    exact W.iret (v := p36.1) hx hb hr (fun t ht hW => ⟨⟨p36.1, (), rfl, rfl, ⟨by rw [ht]; exact hC.1, va_K.moved hW.alike hK, hC.2.1⟩, by rw [ht]; exact hC.2.2.2⟩, hC.2.2.1.F ht⟩) hC.2.2.1.2.2 dX7_rowValues_22
theorem k_X7_rowHead_fieldLink_RX7_20_SR_Statements_code_LSR_Code : Cond.fieldLink RX7 20 "StatementRules2$Statements" "code" "LStatementRules2$Code;" ∈ wzX7_rowHead := List.mem_cons_of_mem _ (List.mem_append_right _ (List.mem_append_right _ (List.mem_append_right _ (List.mem_append_right _ (List.mem_append_right _ (List.mem_append_right _ (List.mem_append_right _ (List.mem_append_right _ (List.mem_append_right _ (List.mem_append_right _ (List.mem_append_right _ (List.mem_append_right _ (List.mem_append_right _ (List.mem_append_right _ (List.mem_append_right _ (List.mem_append_right _ (List.mem_append_right _ (List.mem_append_right _ (List.mem_append_right _ (List.mem_append_right _ (List.mem_append_right _ (List.mem_append_right _ (List.mem_append_right _ (List.mem_append_right _ (List.mem_append_right _ (List.mem_append_right _ (List.mem_append_right _ (List.mem_append_right _ (List.mem_append_right _ (List.mem_append_right _ (List.mem_append_left _ (List.mem_of_getElem? (i := 0) rfl))))))))))))))))))))))))))))))))
theorem k_X7_rowHead_sameField_SR_Statements_SR_Formulas_code_LSR_Code : Cond.sameField "StatementRules2$Statements" "StatementRules2$Formulas" "code" "LStatementRules2$Code;" ∈ wzX7_rowHead := List.mem_cons_of_mem _ (List.mem_append_right _ (List.mem_append_right _ (List.mem_append_right _ (List.mem_append_right _ (List.mem_append_right _ (List.mem_append_right _ (List.mem_append_right _ (List.mem_append_right _ (List.mem_append_right _ (List.mem_append_right _ (List.mem_append_right _ (List.mem_append_right _ (List.mem_append_right _ (List.mem_append_right _ (List.mem_append_right _ (List.mem_append_right _ (List.mem_append_right _ (List.mem_append_right _ (List.mem_append_right _ (List.mem_append_right _ (List.mem_append_right _ (List.mem_append_right _ (List.mem_append_right _ (List.mem_append_right _ (List.mem_append_right _ (List.mem_append_right _ (List.mem_append_right _ (List.mem_append_right _ (List.mem_append_right _ (List.mem_append_right _ (List.mem_append_left _ (List.mem_of_getElem? (i := 1) rfl))))))))))))))))))))))))))))))))
theorem i_X7_rowHead_X7 : ∀ w ∈ wsX70, w ∈ wzX7_rowHead := fun _ h => List.mem_cons_of_mem _ (List.mem_append_right _ (List.mem_append_right _ (List.mem_append_right _ (List.mem_append_right _ (List.mem_append_right _ (List.mem_append_right _ (List.mem_append_right _ (List.mem_append_right _ (List.mem_append_right _ (List.mem_append_right _ (List.mem_append_right _ (List.mem_append_right _ (List.mem_append_right _ (List.mem_append_right _ (List.mem_append_right _ (List.mem_append_right _ (List.mem_append_right _ (List.mem_append_right _ (List.mem_append_right _ (List.mem_append_right _ (List.mem_append_right _ (List.mem_append_right _ (List.mem_append_right _ (List.mem_append_right _ (List.mem_append_right _ (List.mem_append_right _ (List.mem_append_right _ (List.mem_append_right _ (List.mem_append_right _ (List.mem_append_right _ (List.mem_append_right _ (List.mem_append_right _ (List.mem_append_right _ (List.mem_append_right _ (List.mem_append_right _ (List.mem_append_right _ (List.mem_append_left _ (h))))))))))))))))))))))))))))))))))))))
theorem k_X7_rowHead_fieldLink_RX7_71_SR_Statements_tokens_LSR_Tokens : Cond.fieldLink RX7 71 "StatementRules2$Statements" "tokens" "LStatementRules2$Tokens;" ∈ wzX7_rowHead := List.mem_cons_of_mem _ (List.mem_append_right _ (List.mem_append_right _ (List.mem_append_right _ (List.mem_append_right _ (List.mem_append_right _ (List.mem_append_right _ (List.mem_append_right _ (List.mem_append_right _ (List.mem_append_right _ (List.mem_append_right _ (List.mem_append_right _ (List.mem_append_right _ (List.mem_append_right _ (List.mem_append_right _ (List.mem_append_right _ (List.mem_append_right _ (List.mem_append_right _ (List.mem_append_right _ (List.mem_append_right _ (List.mem_append_right _ (List.mem_append_right _ (List.mem_append_right _ (List.mem_append_right _ (List.mem_append_right _ (List.mem_append_right _ (List.mem_append_right _ (List.mem_append_right _ (List.mem_append_right _ (List.mem_append_right _ (List.mem_append_right _ (List.mem_append_left _ (List.mem_of_getElem? (i := 2) rfl))))))))))))))))))))))))))))))))
theorem k_X7_rowHead_sameField_SR_Statements_SR_Formulas_tokens_LSR_Tokens : Cond.sameField "StatementRules2$Statements" "StatementRules2$Formulas" "tokens" "LStatementRules2$Tokens;" ∈ wzX7_rowHead := List.mem_cons_of_mem _ (List.mem_append_right _ (List.mem_append_right _ (List.mem_append_right _ (List.mem_append_right _ (List.mem_append_right _ (List.mem_append_right _ (List.mem_append_right _ (List.mem_append_right _ (List.mem_append_right _ (List.mem_append_right _ (List.mem_append_right _ (List.mem_append_right _ (List.mem_append_right _ (List.mem_append_right _ (List.mem_append_right _ (List.mem_append_right _ (List.mem_append_right _ (List.mem_append_right _ (List.mem_append_right _ (List.mem_append_right _ (List.mem_append_right _ (List.mem_append_right _ (List.mem_append_right _ (List.mem_append_right _ (List.mem_append_right _ (List.mem_append_right _ (List.mem_append_right _ (List.mem_append_right _ (List.mem_append_right _ (List.mem_append_right _ (List.mem_append_left _ (List.mem_of_getElem? (i := 3) rfl))))))))))))))))))))))))))))))))
set_option maxHeartbeats 4000000 in
set_option maxRecDepth 100000 in
theorem c_X7_rowHead (l : Launch) (dC : Nat → ClassId) (dI : Nat → Nat → Nat) (Q : CQ) (N : Nat) (d : Nat) (E1 : CS → Option (Unit × CS)) (E2 : CS → Option (Int32 × CS)) (hE1 : cMF l dC dI Q d E1) (hE2 : cMO l dC dI Q d E2) (hm1 : ∀ σ, Mono (CS.hs σ) (E1 σ)) (hm2 : ∀ σ, Mono (CS.hs σ) (E2 σ)) (σ : CS) (x1 : Int64) (R : Option Nat × CS) (hf : f_X7_rowHead N E1 E2 σ x1 = some R) : Met l yX7_rowHead wzX7_rowHead ({ frames := (14 + 40 * d), cells := CS.hs R.2 - CS.hs σ, slots := 17 * (CS.hs R.2 - CS.hs σ), locals := 60 * (14 + 40 * d) }) (va_Pc [.ref (Q.o 3), .long x1] (zPre dC dI (CS.hs σ) (cW Q σ) (cT Q))) (va_Qq (fun (r : Option Nat) (_ : Unit) => r = R.1) (fun (_ : Unit) (t : State) => zPost dC dI (va_A (cW Q σ) (CS.hs σ)) (cW Q R.2) (cT Q) t ∧ t.heap.size = CS.hs R.2) (va_A (cW Q σ) (CS.hs σ))) (CS.hs R.2 - CS.hs σ) (17 * (CS.hs R.2 - CS.hs σ)) (va_A (cW Q σ) (CS.hs σ)) := by
  refine Met.ofW (cc := cX7_rowHead) (maxL := 6) (ret := (some (.object "StatementRules2$Open"))) (by decide) rfl ?_
  intro p e s m args below meth c s₁ B hml hv
  obtain ⟨rfl, hsz, hZ, hP, hK, hD0⟩ := hv
  have hx := B.exec
  have hb := B.bytes
  have hr := B.returns
  have hts := atoms_spec (ws := wzX7_rowHead) B.pre
  have hown : s.vm.findClass RX7 = some m.cls := findClass_of_methodNamed B.named
  have hlocks := B.notSynchronized
  have hD := hD0.self (sz := CS.hs σ)
  generalize hAe : va_A (cW Q σ) (CS.hs σ) = A at hD ⊢
  have hA : ∀ q : Nat, s.heap.size ≤ q → A q := fun q h => by rw [← hAe]; exact Or.inr (hsz ▸ h)
  have hC : CP dC dI Q A s.heap σ s.heap [] := ⟨hP, hD, va_S.rf, hsz⟩
  have h0 : CS.hs σ ≤ CS.hs σ := Nat.le_refl _
  have hl := lv_entry ([.ref (Q.o 3), .long x1]) (n := 6) (Nat.le_of_ble_eq_true rfl)
  rw [lg_entry_eq]
  generalize (lg_sl ([.ref (Q.o 3), .long x1]) ++ List.replicate (6 - (lg_sl ([.ref (Q.o 3), .long x1])).length) Slot.unset).toArray = ls at hl ⊢
  have hl : lv_has ls 6 [(0, .ref (Q.o 3)), (1, .long x1)] := hl
  unfold f_X7_rowHead at hf
  refine W.widen (k := CS.hs σ - CS.hs σ) (n := 17 * (CS.hs σ - CS.hs σ)) (Nat.zero_le _) (Nat.zero_le _) ?_
  refine lv_aload_n hx hb dX7_rowHead_0 rfl (lv_at hl 0 rfl) ?_
  refine cG_29 hx hb hts i_X7_rowHead_X7 hown hK hC (hts (.fieldLink RX7 20 "StatementRules2$Statements" "code" "LStatementRules2$Code;") k_X7_rowHead_fieldLink_RX7_20_SR_Statements_code_LSR_Code) (fun x9 q9 => u_same (hts (.sameField "StatementRules2$Statements" "StatementRules2$Formulas" "code" "LStatementRules2$Code;") k_X7_rowHead_sameField_SR_Statements_SR_Formulas_code_LSR_Code) x9 q9) dX7_rowHead_1 ?_
  obtain ⟨p1, hcp1, hf⟩ := hf_bind hf
  have mo2 : CS.hs σ ≤ CS.hs p1.2 := Mono.go hcp1 (m_X0_newTarget N σ)
  have hr9 : CS.hs p1.2 ≤ CS.hs R.2 := Mono.go hf (mono_bind (m_X0_newTarget N p1.2) (fun p5 => (mono_bind (m_X9_advance N p5.2) (fun p9 => (mono_bind (m_X7_rowValues N E1 E2 hm1 hm2 p9.2) (fun p13 => (mono_bind (m_X1_close N p13.2 41) (fun p17 => (mono_bind (m_X0_aim N p17.2 p1.1) (fun p21 => (mono_bind (m_X0_add N p21.2 37 p13.1) (fun p25 => (mono_bind (m_X0_add N p25.2 31 p5.1) (fun p29 => (mono_bind (m_X0_add N p29.2 51 0) (fun p33 => (mono_bind (m_X0_add N p33.2 38 p13.1) (fun p37 => (mono_bind (m_X7_tell N p37.2 x1) (fun p41 => (mono_bind (m_X0_add N p41.2 2 p41.1) (fun p45 => (mono_bind (m_X7_pushLoop N p45.2 304 p1.1 p5.1) (fun p49 => (mono_oc (mono_some (Nat.le_refl _)) (fun a54 => (mono_some (Nat.le_refl _))))))))))))))))))))))))))))
  have hFc := cFree hC hA
  refine va_calli (va_runV (As := []) (rest := []) ⟨hx, hb, hml, hown, hts⟩ (c_X0_newTarget l dC dI Q N σ p1 hcp1) (cwV 0 hts hX7_rowHead_X0_newTarget_v136 rfl rfl rfl (by decide +kernel) ⟨(show 2 + 1 ≤ (14 + 40 * d) by omega), (show 8 + (1 + 11) + 60 * 2 ≤ 60 * (14 + 40 * d) by omega)⟩) ⟨zPre.blind, va_recv hK hC.1 (ci := 0) (q0 := 2) rfl rfl, cPre_go hZ hK hC⟩ rfl rfl hl.1 rfl (lv_room (Nat.le_of_ble_eq_true rfl)) dX7_rowHead_4 (cAcc h0 mo2 hr9)) hC.2.2.1 (fun q _ h => hFc q h) hFc (fun r3 u9 t9 H1 locs ht hvm hw hB hz1 hk1 hS => ?_)
  obtain ⟨⟨hP, hK1, hD1⟩, hsz1⟩ := hB
  rw [ht] at hP hsz1
  have hC : CP dC dI Q A s.heap p1.2 H1 locs := ⟨hP, hD1.weaken (fun _ _ _ h => hFc _ h), hS, hsz1⟩
  generalize H1 = H at hC ⊢
  have h4 : (CS.hs σ) ≤ CS.hs p1.2 := Nat.le_trans h0 mo2
  refine W.widen (k := CS.hs p1.2 - (CS.hs σ)) (n := 17 * (CS.hs p1.2 - (CS.hs σ))) (cAcc2 h0 mo2) (cAcc3 h0 mo2) ?_
  obtain rfl : r3 = p1.1 := hw
  refine lv_istore_n (lv' := [(3, .int p1.1), (0, .ref (Q.o 3)), (1, .long x1)]) hx hb dX7_rowHead_7 rfl hl (by decide) rfl (fun ls hl => ?_)
  refine lv_aload_n hx hb dX7_rowHead_8 rfl (lv_at hl 1 rfl) ?_
  refine cG_29 hx hb hts i_X7_rowHead_X7 hown hK hC (hts (.fieldLink RX7 20 "StatementRules2$Statements" "code" "LStatementRules2$Code;") k_X7_rowHead_fieldLink_RX7_20_SR_Statements_code_LSR_Code) (fun x9 q9 => u_same (hts (.sameField "StatementRules2$Statements" "StatementRules2$Formulas" "code" "LStatementRules2$Code;") k_X7_rowHead_sameField_SR_Statements_SR_Formulas_code_LSR_Code) x9 q9) dX7_rowHead_9 ?_
  obtain ⟨p5, hcp5, hf⟩ := hf_bind hf
  have mo6 : CS.hs p1.2 ≤ CS.hs p5.2 := Mono.go hcp5 (m_X0_newTarget N p1.2)
  have hr9 : CS.hs p5.2 ≤ CS.hs R.2 := Mono.go hf (mono_bind (m_X9_advance N p5.2) (fun p9 => (mono_bind (m_X7_rowValues N E1 E2 hm1 hm2 p9.2) (fun p13 => (mono_bind (m_X1_close N p13.2 41) (fun p17 => (mono_bind (m_X0_aim N p17.2 p1.1) (fun p21 => (mono_bind (m_X0_add N p21.2 37 p13.1) (fun p25 => (mono_bind (m_X0_add N p25.2 31 p5.1) (fun p29 => (mono_bind (m_X0_add N p29.2 51 0) (fun p33 => (mono_bind (m_X0_add N p33.2 38 p13.1) (fun p37 => (mono_bind (m_X7_tell N p37.2 x1) (fun p41 => (mono_bind (m_X0_add N p41.2 2 p41.1) (fun p45 => (mono_bind (m_X7_pushLoop N p45.2 304 p1.1 p5.1) (fun p49 => (mono_oc (mono_some (Nat.le_refl _)) (fun a54 => (mono_some (Nat.le_refl _))))))))))))))))))))))))))
  have hFc := cFree hC hA
  refine va_calli (va_runV (As := []) (rest := []) ⟨hx, hb, hml, hown, hts⟩ (c_X0_newTarget l dC dI Q N p1.2 p5 hcp5) (cwV 0 hts hX7_rowHead_X0_newTarget_v136 rfl rfl rfl (by decide +kernel) ⟨(show 2 + 1 ≤ (14 + 40 * d) by omega), (show 8 + (1 + 11) + 60 * 2 ≤ 60 * (14 + 40 * d) by omega)⟩) ⟨zPre.blind, va_recv hK hC.1 (ci := 0) (q0 := 2) rfl rfl, cPre_go hZ hK hC⟩ rfl rfl hl.1 rfl (lv_room (Nat.le_of_ble_eq_true rfl)) dX7_rowHead_12 (cAcc h4 mo6 hr9)) hC.2.2.1 (fun q _ h => hFc q h) hFc (fun r7 u9 t9 H1 locs ht hvm hw hB hz1 hk1 hS => ?_)
  obtain ⟨⟨hP, hK1, hD1⟩, hsz1⟩ := hB
  rw [ht] at hP hsz1
  have hC : CP dC dI Q A s.heap p5.2 H1 locs := ⟨hP, hD1.weaken (fun _ _ _ h => hFc _ h), hS, hsz1⟩
  generalize H1 = H at hC ⊢
  have h8 : (CS.hs σ) ≤ CS.hs p5.2 := Nat.le_trans h4 mo6
  refine W.widen (k := CS.hs p5.2 - (CS.hs σ)) (n := 17 * (CS.hs p5.2 - (CS.hs σ))) (cAcc2 h4 mo6) (cAcc3 h4 mo6) ?_
  obtain rfl : r7 = p5.1 := hw
  refine lv_istore (lv' := [(4, .int p5.1), (3, .int p1.1), (0, .ref (Q.o 3)), (1, .long x1)]) hx hb dX7_rowHead_15 hl (by decide) rfl (fun ls hl => ?_)
  refine lv_aload_n hx hb dX7_rowHead_17 rfl (lv_at hl 2 rfl) ?_
  refine cG_28 hx hb hts i_X7_rowHead_X7 hown hK hC (hts (.fieldLink RX7 71 "StatementRules2$Statements" "tokens" "LStatementRules2$Tokens;") k_X7_rowHead_fieldLink_RX7_71_SR_Statements_tokens_LSR_Tokens) (fun x9 q9 => u_same (hts (.sameField "StatementRules2$Statements" "StatementRules2$Formulas" "tokens" "LStatementRules2$Tokens;") k_X7_rowHead_sameField_SR_Statements_SR_Formulas_tokens_LSR_Tokens) x9 q9) dX7_rowHead_18 ?_
  obtain ⟨p9, hcp9, hf⟩ := hf_bind hf
  have mo10 : CS.hs p5.2 ≤ CS.hs p9.2 := Mono.go hcp9 (m_X9_advance N p5.2)
  have hr9 : CS.hs p9.2 ≤ CS.hs R.2 := Mono.go hf (mono_bind (m_X7_rowValues N E1 E2 hm1 hm2 p9.2) (fun p13 => (mono_bind (m_X1_close N p13.2 41) (fun p17 => (mono_bind (m_X0_aim N p17.2 p1.1) (fun p21 => (mono_bind (m_X0_add N p21.2 37 p13.1) (fun p25 => (mono_bind (m_X0_add N p25.2 31 p5.1) (fun p29 => (mono_bind (m_X0_add N p29.2 51 0) (fun p33 => (mono_bind (m_X0_add N p33.2 38 p13.1) (fun p37 => (mono_bind (m_X7_tell N p37.2 x1) (fun p41 => (mono_bind (m_X0_add N p41.2 2 p41.1) (fun p45 => (mono_bind (m_X7_pushLoop N p45.2 304 p1.1 p5.1) (fun p49 => (mono_oc (mono_some (Nat.le_refl _)) (fun a54 => (mono_some (Nat.le_refl _))))))))))))))))))))))))
  have hFc := cFree hC hA
  refine va_callv (va_runV (As := []) (rest := []) ⟨hx, hb, hml, hown, hts⟩ (c_X9_advance l dC dI Q N p5.2 p9 hcp9) (cwV 0 hts hX7_rowHead_X9_advance_v146 rfl rfl rfl (by decide +kernel) ⟨(show 3 + 1 ≤ (14 + 40 * d) by omega), (show 8 + (2 + 11) + 60 * 3 ≤ 60 * (14 + 40 * d) by omega)⟩) ⟨zPre.blind, va_recv hK hC.1 (ci := 8) (q0 := 4) rfl rfl, cPre_go hZ hK hC⟩ rfl rfl hl.1 rfl (lv_room (Nat.le_of_ble_eq_true rfl)) dX7_rowHead_21 (cAcc h8 mo10 hr9)) hC.2.2.1 (fun q _ h => hFc q h) hFc (fun u9 t9 H1 locs ht hvm hw hB hz1 hk1 hS => ?_)
  obtain ⟨⟨hP, hK1, hD1⟩, hsz1⟩ := hB
  rw [ht] at hP hsz1
  have hC : CP dC dI Q A s.heap p9.2 H1 locs := ⟨hP, hD1.weaken (fun _ _ _ h => hFc _ h), hS, hsz1⟩
  generalize H1 = H at hC ⊢
  have h12 : (CS.hs σ) ≤ CS.hs p9.2 := Nat.le_trans h8 mo10
  refine W.widen (k := CS.hs p9.2 - (CS.hs σ)) (n := 17 * (CS.hs p9.2 - (CS.hs σ))) (cAcc2 h8 mo10) (cAcc3 h8 mo10) ?_
  refine lv_aload_n hx hb dX7_rowHead_24 rfl (lv_at hl 2 rfl) ?_
  obtain ⟨p13, hcp13, hf⟩ := hf_bind hf
  have mo14 : CS.hs p9.2 ≤ CS.hs p13.2 := Mono.go hcp13 (m_X7_rowValues N E1 E2 hm1 hm2 p9.2)
  have hr9 : CS.hs p13.2 ≤ CS.hs R.2 := Mono.go hf (mono_bind (m_X1_close N p13.2 41) (fun p17 => (mono_bind (m_X0_aim N p17.2 p1.1) (fun p21 => (mono_bind (m_X0_add N p21.2 37 p13.1) (fun p25 => (mono_bind (m_X0_add N p25.2 31 p5.1) (fun p29 => (mono_bind (m_X0_add N p29.2 51 0) (fun p33 => (mono_bind (m_X0_add N p33.2 38 p13.1) (fun p37 => (mono_bind (m_X7_tell N p37.2 x1) (fun p41 => (mono_bind (m_X0_add N p41.2 2 p41.1) (fun p45 => (mono_bind (m_X7_pushLoop N p45.2 304 p1.1 p5.1) (fun p49 => (mono_oc (mono_some (Nat.le_refl _)) (fun a54 => (mono_some (Nat.le_refl _))))))))))))))))))))))
  have hFc := cFree hC hA
  refine va_calli (va_runV (As := []) (rest := []) ⟨hx, hb, hml, hown, hts⟩ (c_X7_rowValues l dC dI Q N d E1 E2 hE1 hE2 hm1 hm2 p9.2 p13 hcp13) (cwV 0 hts hX7_rowHead_X7_rowValues_v341 rfl rfl rfl (by decide +kernel) ⟨(show (13 + 40 * d) + 1 ≤ (14 + 40 * d) by omega), (show 8 + (3 + 11) + 60 * (13 + 40 * d) ≤ 60 * (14 + 40 * d) by omega)⟩) ⟨zPre.blind, va_recv hK hC.1 (ci := 6) (q0 := 3) rfl rfl, cPre_go hZ hK hC⟩ rfl rfl hl.1 rfl (lv_room (Nat.le_of_ble_eq_true rfl)) dX7_rowHead_25 (cAcc h12 mo14 hr9)) hC.2.2.1 (fun q _ h => hFc q h) hFc (fun r15 u9 t9 H1 locs ht hvm hw hB hz1 hk1 hS => ?_)
  obtain ⟨⟨hP, hK1, hD1⟩, hsz1⟩ := hB
  rw [ht] at hP hsz1
  have hC : CP dC dI Q A s.heap p13.2 H1 locs := ⟨hP, hD1.weaken (fun _ _ _ h => hFc _ h), hS, hsz1⟩
  generalize H1 = H at hC ⊢
  have h16 : (CS.hs σ) ≤ CS.hs p13.2 := Nat.le_trans h12 mo14
  refine W.widen (k := CS.hs p13.2 - (CS.hs σ)) (n := 17 * (CS.hs p13.2 - (CS.hs σ))) (cAcc2 h12 mo14) (cAcc3 h12 mo14) ?_
  obtain rfl : r15 = p13.1 := hw
  refine lv_istore (lv' := [(5, .int p13.1), (4, .int p5.1), (3, .int p1.1), (0, .ref (Q.o 3)), (1, .long x1)]) hx hb dX7_rowHead_28 hl (by decide) rfl (fun ls hl => ?_)
  refine lv_aload_n hx hb dX7_rowHead_30 rfl (lv_at hl 3 rfl) ?_
  refine lv_bipush (v := 41) hx hb dX7_rowHead_31 (by decide) ?_
  obtain ⟨p17, hcp17, hf⟩ := hf_bind hf
  have mo18 : CS.hs p13.2 ≤ CS.hs p17.2 := Mono.go hcp17 (m_X1_close N p13.2 41)
  have hr9 : CS.hs p17.2 ≤ CS.hs R.2 := Mono.go hf (mono_bind (m_X0_aim N p17.2 p1.1) (fun p21 => (mono_bind (m_X0_add N p21.2 37 p13.1) (fun p25 => (mono_bind (m_X0_add N p25.2 31 p5.1) (fun p29 => (mono_bind (m_X0_add N p29.2 51 0) (fun p33 => (mono_bind (m_X0_add N p33.2 38 p13.1) (fun p37 => (mono_bind (m_X7_tell N p37.2 x1) (fun p41 => (mono_bind (m_X0_add N p41.2 2 p41.1) (fun p45 => (mono_bind (m_X7_pushLoop N p45.2 304 p1.1 p5.1) (fun p49 => (mono_oc (mono_some (Nat.le_refl _)) (fun a54 => (mono_some (Nat.le_refl _))))))))))))))))))))
  have hFc := cFree hC hA
  refine va_callv (va_runU (As := [.int 41]) (rest := []) ⟨hx, hb, hml, hown, hts⟩ (c_X1_close l dC dI Q N p13.2 41 p17 hcp17) (va_cwU 1 hts hX7_rowHead_X1_close_u318 rfl rfl rfl rfl (by decide +kernel) ⟨(show 4 + 1 ≤ (14 + 40 * d) by omega), (show 8 + (2 + 11) + 60 * 4 ≤ 60 * (14 + 40 * d) by omega)⟩) ⟨zPre.blind, va_recv hK hC.1 (ci := 6) (q0 := 3) rfl rfl, cPre_go hZ hK hC⟩ rfl rfl hl.1 rfl (lv_room (Nat.le_of_ble_eq_true rfl)) dX7_rowHead_33 (cAcc h16 mo18 hr9)) hC.2.2.1 (fun q _ h => hFc q h) hFc (fun u9 t9 H1 locs ht hvm hw hB hz1 hk1 hS => ?_)
  obtain ⟨⟨hP, hK1, hD1⟩, hsz1⟩ := hB
  rw [ht] at hP hsz1
  have hC : CP dC dI Q A s.heap p17.2 H1 locs := ⟨hP, hD1.weaken (fun _ _ _ h => hFc _ h), hS, hsz1⟩
  generalize H1 = H at hC ⊢
  have h20 : (CS.hs σ) ≤ CS.hs p17.2 := Nat.le_trans h16 mo18
  refine W.widen (k := CS.hs p17.2 - (CS.hs σ)) (n := 17 * (CS.hs p17.2 - (CS.hs σ))) (cAcc2 h16 mo18) (cAcc3 h16 mo18) ?_
  refine lv_aload_n hx hb dX7_rowHead_36 rfl (lv_at hl 3 rfl) ?_
  refine cG_29 hx hb hts i_X7_rowHead_X7 hown hK hC (hts (.fieldLink RX7 20 "StatementRules2$Statements" "code" "LStatementRules2$Code;") k_X7_rowHead_fieldLink_RX7_20_SR_Statements_code_LSR_Code) (fun x9 q9 => u_same (hts (.sameField "StatementRules2$Statements" "StatementRules2$Formulas" "code" "LStatementRules2$Code;") k_X7_rowHead_sameField_SR_Statements_SR_Formulas_code_LSR_Code) x9 q9) dX7_rowHead_37 ?_
  refine lv_iload_n hx hb dX7_rowHead_40 rfl (lv_at hl 2 rfl) ?_
  obtain ⟨p21, hcp21, hf⟩ := hf_bind hf
  have mo22 : CS.hs p17.2 ≤ CS.hs p21.2 := Mono.go hcp21 (m_X0_aim N p17.2 p1.1)
  have hr9 : CS.hs p21.2 ≤ CS.hs R.2 := Mono.go hf (mono_bind (m_X0_add N p21.2 37 p13.1) (fun p25 => (mono_bind (m_X0_add N p25.2 31 p5.1) (fun p29 => (mono_bind (m_X0_add N p29.2 51 0) (fun p33 => (mono_bind (m_X0_add N p33.2 38 p13.1) (fun p37 => (mono_bind (m_X7_tell N p37.2 x1) (fun p41 => (mono_bind (m_X0_add N p41.2 2 p41.1) (fun p45 => (mono_bind (m_X7_pushLoop N p45.2 304 p1.1 p5.1) (fun p49 => (mono_oc (mono_some (Nat.le_refl _)) (fun a54 => (mono_some (Nat.le_refl _))))))))))))))))))
  have hFc := cFree hC hA
  refine va_callv (va_runV (As := [.int p1.1]) (rest := []) ⟨hx, hb, hml, hown, hts⟩ (c_X0_aim l dC dI Q N p17.2 p1.1 p21 hcp21) (cwV 1 hts hX7_rowHead_X0_aim_v158 rfl rfl rfl (by decide +kernel) ⟨(show 2 + 1 ≤ (14 + 40 * d) by omega), (show 8 + (2 + 11) + 60 * 2 ≤ 60 * (14 + 40 * d) by omega)⟩) ⟨zPre.blind, va_recv hK hC.1 (ci := 0) (q0 := 2) rfl rfl, cPre_go hZ hK hC⟩ rfl rfl hl.1 rfl (lv_room (Nat.le_of_ble_eq_true rfl)) dX7_rowHead_41 (cAcc h20 mo22 hr9)) hC.2.2.1 (fun q _ h => hFc q h) hFc (fun u9 t9 H1 locs ht hvm hw hB hz1 hk1 hS => ?_)
  obtain ⟨⟨hP, hK1, hD1⟩, hsz1⟩ := hB
  rw [ht] at hP hsz1
  have hC : CP dC dI Q A s.heap p21.2 H1 locs := ⟨hP, hD1.weaken (fun _ _ _ h => hFc _ h), hS, hsz1⟩
  generalize H1 = H at hC ⊢
  have h24 : (CS.hs σ) ≤ CS.hs p21.2 := Nat.le_trans h20 mo22
  refine W.widen (k := CS.hs p21.2 - (CS.hs σ)) (n := 17 * (CS.hs p21.2 - (CS.hs σ))) (cAcc2 h20 mo22) (cAcc3 h20 mo22) ?_
  refine lv_aload_n hx hb dX7_rowHead_44 rfl (lv_at hl 3 rfl) ?_
  refine cG_29 hx hb hts i_X7_rowHead_X7 hown hK hC (hts (.fieldLink RX7 20 "StatementRules2$Statements" "code" "LStatementRules2$Code;") k_X7_rowHead_fieldLink_RX7_20_SR_Statements_code_LSR_Code) (fun x9 q9 => u_same (hts (.sameField "StatementRules2$Statements" "StatementRules2$Formulas" "code" "LStatementRules2$Code;") k_X7_rowHead_sameField_SR_Statements_SR_Formulas_code_LSR_Code) x9 q9) dX7_rowHead_45 ?_
  refine lv_bipush (v := 37) hx hb dX7_rowHead_48 (by decide) ?_
  refine lv_iload hx hb dX7_rowHead_50 (lv_at hl 0 rfl) ?_
  obtain ⟨p25, hcp25, hf⟩ := hf_bind hf
  have mo26 : CS.hs p21.2 ≤ CS.hs p25.2 := Mono.go hcp25 (m_X0_add N p21.2 37 p13.1)
  have hr9 : CS.hs p25.2 ≤ CS.hs R.2 := Mono.go hf (mono_bind (m_X0_add N p25.2 31 p5.1) (fun p29 => (mono_bind (m_X0_add N p29.2 51 0) (fun p33 => (mono_bind (m_X0_add N p33.2 38 p13.1) (fun p37 => (mono_bind (m_X7_tell N p37.2 x1) (fun p41 => (mono_bind (m_X0_add N p41.2 2 p41.1) (fun p45 => (mono_bind (m_X7_pushLoop N p45.2 304 p1.1 p5.1) (fun p49 => (mono_oc (mono_some (Nat.le_refl _)) (fun a54 => (mono_some (Nat.le_refl _))))))))))))))))
  have hFc := cFree hC hA
  refine va_callv (va_runV (As := [.int 37, .int p13.1]) (rest := []) ⟨hx, hb, hml, hown, hts⟩ (c_X0_add l dC dI Q N p21.2 37 p13.1 p25 hcp25) (cwV 2 hts hX7_rowHead_X0_add_v176 rfl rfl rfl (by decide +kernel) ⟨(show 2 + 1 ≤ (14 + 40 * d) by omega), (show 8 + (3 + 11) + 60 * 2 ≤ 60 * (14 + 40 * d) by omega)⟩) ⟨zPre.blind, va_recv hK hC.1 (ci := 0) (q0 := 2) rfl rfl, cPre_go hZ hK hC⟩ rfl rfl hl.1 rfl (lv_room (Nat.le_of_ble_eq_true rfl)) dX7_rowHead_52 (cAcc h24 mo26 hr9)) hC.2.2.1 (fun q _ h => hFc q h) hFc (fun u9 t9 H1 locs ht hvm hw hB hz1 hk1 hS => ?_)
  obtain ⟨⟨hP, hK1, hD1⟩, hsz1⟩ := hB
  rw [ht] at hP hsz1
  have hC : CP dC dI Q A s.heap p25.2 H1 locs := ⟨hP, hD1.weaken (fun _ _ _ h => hFc _ h), hS, hsz1⟩
  generalize H1 = H at hC ⊢
  have h28 : (CS.hs σ) ≤ CS.hs p25.2 := Nat.le_trans h24 mo26
  refine W.widen (k := CS.hs p25.2 - (CS.hs σ)) (n := 17 * (CS.hs p25.2 - (CS.hs σ))) (cAcc2 h24 mo26) (cAcc3 h24 mo26) ?_
  refine lv_aload_n hx hb dX7_rowHead_55 rfl (lv_at hl 3 rfl) ?_
  refine cG_29 hx hb hts i_X7_rowHead_X7 hown hK hC (hts (.fieldLink RX7 20 "StatementRules2$Statements" "code" "LStatementRules2$Code;") k_X7_rowHead_fieldLink_RX7_20_SR_Statements_code_LSR_Code) (fun x9 q9 => u_same (hts (.sameField "StatementRules2$Statements" "StatementRules2$Formulas" "code" "LStatementRules2$Code;") k_X7_rowHead_sameField_SR_Statements_SR_Formulas_code_LSR_Code) x9 q9) dX7_rowHead_56 ?_
  refine lv_bipush (v := 31) hx hb dX7_rowHead_59 (by decide) ?_
  refine lv_iload hx hb dX7_rowHead_61 (lv_at hl 1 rfl) ?_
  obtain ⟨p29, hcp29, hf⟩ := hf_bind hf
  have mo30 : CS.hs p25.2 ≤ CS.hs p29.2 := Mono.go hcp29 (m_X0_add N p25.2 31 p5.1)
  have hr9 : CS.hs p29.2 ≤ CS.hs R.2 := Mono.go hf (mono_bind (m_X0_add N p29.2 51 0) (fun p33 => (mono_bind (m_X0_add N p33.2 38 p13.1) (fun p37 => (mono_bind (m_X7_tell N p37.2 x1) (fun p41 => (mono_bind (m_X0_add N p41.2 2 p41.1) (fun p45 => (mono_bind (m_X7_pushLoop N p45.2 304 p1.1 p5.1) (fun p49 => (mono_oc (mono_some (Nat.le_refl _)) (fun a54 => (mono_some (Nat.le_refl _))))))))))))))
  have hFc := cFree hC hA
  refine va_callv (va_runV (As := [.int 31, .int p5.1]) (rest := []) ⟨hx, hb, hml, hown, hts⟩ (c_X0_add l dC dI Q N p25.2 31 p5.1 p29 hcp29) (cwV 2 hts hX7_rowHead_X0_add_v176 rfl rfl rfl (by decide +kernel) ⟨(show 2 + 1 ≤ (14 + 40 * d) by omega), (show 8 + (3 + 11) + 60 * 2 ≤ 60 * (14 + 40 * d) by omega)⟩) ⟨zPre.blind, va_recv hK hC.1 (ci := 0) (q0 := 2) rfl rfl, cPre_go hZ hK hC⟩ rfl rfl hl.1 rfl (lv_room (Nat.le_of_ble_eq_true rfl)) dX7_rowHead_63 (cAcc h28 mo30 hr9)) hC.2.2.1 (fun q _ h => hFc q h) hFc (fun u9 t9 H1 locs ht hvm hw hB hz1 hk1 hS => ?_)
  obtain ⟨⟨hP, hK1, hD1⟩, hsz1⟩ := hB
  rw [ht] at hP hsz1
  have hC : CP dC dI Q A s.heap p29.2 H1 locs := ⟨hP, hD1.weaken (fun _ _ _ h => hFc _ h), hS, hsz1⟩
  generalize H1 = H at hC ⊢
  have h32 : (CS.hs σ) ≤ CS.hs p29.2 := Nat.le_trans h28 mo30
  refine W.widen (k := CS.hs p29.2 - (CS.hs σ)) (n := 17 * (CS.hs p29.2 - (CS.hs σ))) (cAcc2 h28 mo30) (cAcc3 h28 mo30) ?_
  refine lv_aload_n hx hb dX7_rowHead_66 rfl (lv_at hl 3 rfl) ?_
  refine cG_29 hx hb hts i_X7_rowHead_X7 hown hK hC (hts (.fieldLink RX7 20 "StatementRules2$Statements" "code" "LStatementRules2$Code;") k_X7_rowHead_fieldLink_RX7_20_SR_Statements_code_LSR_Code) (fun x9 q9 => u_same (hts (.sameField "StatementRules2$Statements" "StatementRules2$Formulas" "code" "LStatementRules2$Code;") k_X7_rowHead_sameField_SR_Statements_SR_Formulas_code_LSR_Code) x9 q9) dX7_rowHead_67 ?_
  refine lv_bipush (v := 51) hx hb dX7_rowHead_70 (by decide) ?_
  refine lv_iconst (v := 0) hx hb dX7_rowHead_72 (by decide) ?_
  obtain ⟨p33, hcp33, hf⟩ := hf_bind hf
  have mo34 : CS.hs p29.2 ≤ CS.hs p33.2 := Mono.go hcp33 (m_X0_add N p29.2 51 0)
  have hr9 : CS.hs p33.2 ≤ CS.hs R.2 := Mono.go hf (mono_bind (m_X0_add N p33.2 38 p13.1) (fun p37 => (mono_bind (m_X7_tell N p37.2 x1) (fun p41 => (mono_bind (m_X0_add N p41.2 2 p41.1) (fun p45 => (mono_bind (m_X7_pushLoop N p45.2 304 p1.1 p5.1) (fun p49 => (mono_oc (mono_some (Nat.le_refl _)) (fun a54 => (mono_some (Nat.le_refl _))))))))))))
  have hFc := cFree hC hA
  refine va_callv (va_runV (As := [.int 51, .int 0]) (rest := []) ⟨hx, hb, hml, hown, hts⟩ (c_X0_add l dC dI Q N p29.2 51 0 p33 hcp33) (cwV 2 hts hX7_rowHead_X0_add_v176 rfl rfl rfl (by decide +kernel) ⟨(show 2 + 1 ≤ (14 + 40 * d) by omega), (show 8 + (3 + 11) + 60 * 2 ≤ 60 * (14 + 40 * d) by omega)⟩) ⟨zPre.blind, va_recv hK hC.1 (ci := 0) (q0 := 2) rfl rfl, cPre_go hZ hK hC⟩ rfl rfl hl.1 rfl (lv_room (Nat.le_of_ble_eq_true rfl)) dX7_rowHead_73 (cAcc h32 mo34 hr9)) hC.2.2.1 (fun q _ h => hFc q h) hFc (fun u9 t9 H1 locs ht hvm hw hB hz1 hk1 hS => ?_)
  obtain ⟨⟨hP, hK1, hD1⟩, hsz1⟩ := hB
  rw [ht] at hP hsz1
  have hC : CP dC dI Q A s.heap p33.2 H1 locs := ⟨hP, hD1.weaken (fun _ _ _ h => hFc _ h), hS, hsz1⟩
  generalize H1 = H at hC ⊢
  have h36 : (CS.hs σ) ≤ CS.hs p33.2 := Nat.le_trans h32 mo34
  refine W.widen (k := CS.hs p33.2 - (CS.hs σ)) (n := 17 * (CS.hs p33.2 - (CS.hs σ))) (cAcc2 h32 mo34) (cAcc3 h32 mo34) ?_
  refine lv_aload_n hx hb dX7_rowHead_76 rfl (lv_at hl 3 rfl) ?_
  refine cG_29 hx hb hts i_X7_rowHead_X7 hown hK hC (hts (.fieldLink RX7 20 "StatementRules2$Statements" "code" "LStatementRules2$Code;") k_X7_rowHead_fieldLink_RX7_20_SR_Statements_code_LSR_Code) (fun x9 q9 => u_same (hts (.sameField "StatementRules2$Statements" "StatementRules2$Formulas" "code" "LStatementRules2$Code;") k_X7_rowHead_sameField_SR_Statements_SR_Formulas_code_LSR_Code) x9 q9) dX7_rowHead_77 ?_
  refine lv_bipush (v := 38) hx hb dX7_rowHead_80 (by decide) ?_
  refine lv_iload hx hb dX7_rowHead_82 (lv_at hl 0 rfl) ?_
  obtain ⟨p37, hcp37, hf⟩ := hf_bind hf
  have mo38 : CS.hs p33.2 ≤ CS.hs p37.2 := Mono.go hcp37 (m_X0_add N p33.2 38 p13.1)
  have hr9 : CS.hs p37.2 ≤ CS.hs R.2 := Mono.go hf (mono_bind (m_X7_tell N p37.2 x1) (fun p41 => (mono_bind (m_X0_add N p41.2 2 p41.1) (fun p45 => (mono_bind (m_X7_pushLoop N p45.2 304 p1.1 p5.1) (fun p49 => (mono_oc (mono_some (Nat.le_refl _)) (fun a54 => (mono_some (Nat.le_refl _))))))))))
  have hFc := cFree hC hA
  refine va_callv (va_runV (As := [.int 38, .int p13.1]) (rest := []) ⟨hx, hb, hml, hown, hts⟩ (c_X0_add l dC dI Q N p33.2 38 p13.1 p37 hcp37) (cwV 2 hts hX7_rowHead_X0_add_v176 rfl rfl rfl (by decide +kernel) ⟨(show 2 + 1 ≤ (14 + 40 * d) by omega), (show 8 + (3 + 11) + 60 * 2 ≤ 60 * (14 + 40 * d) by omega)⟩) ⟨zPre.blind, va_recv hK hC.1 (ci := 0) (q0 := 2) rfl rfl, cPre_go hZ hK hC⟩ rfl rfl hl.1 rfl (lv_room (Nat.le_of_ble_eq_true rfl)) dX7_rowHead_84 (cAcc h36 mo38 hr9)) hC.2.2.1 (fun q _ h => hFc q h) hFc (fun u9 t9 H1 locs ht hvm hw hB hz1 hk1 hS => ?_)
  obtain ⟨⟨hP, hK1, hD1⟩, hsz1⟩ := hB
  rw [ht] at hP hsz1
  have hC : CP dC dI Q A s.heap p37.2 H1 locs := ⟨hP, hD1.weaken (fun _ _ _ h => hFc _ h), hS, hsz1⟩
  generalize H1 = H at hC ⊢
  have h40 : (CS.hs σ) ≤ CS.hs p37.2 := Nat.le_trans h36 mo38
  refine W.widen (k := CS.hs p37.2 - (CS.hs σ)) (n := 17 * (CS.hs p37.2 - (CS.hs σ))) (cAcc2 h36 mo38) (cAcc3 h36 mo38) ?_
  refine lv_aload_n hx hb dX7_rowHead_87 rfl (lv_at hl 3 rfl) ?_
  refine cG_29 hx hb hts i_X7_rowHead_X7 hown hK hC (hts (.fieldLink RX7 20 "StatementRules2$Statements" "code" "LStatementRules2$Code;") k_X7_rowHead_fieldLink_RX7_20_SR_Statements_code_LSR_Code) (fun x9 q9 => u_same (hts (.sameField "StatementRules2$Statements" "StatementRules2$Formulas" "code" "LStatementRules2$Code;") k_X7_rowHead_sameField_SR_Statements_SR_Formulas_code_LSR_Code) x9 q9) dX7_rowHead_88 ?_
  refine lv_iconst (v := 2) hx hb dX7_rowHead_91 (by decide) ?_
  refine lv_aload_n hx hb dX7_rowHead_92 rfl (lv_at hl 3 rfl) ?_
  refine lv_lload_n hx hb dX7_rowHead_93 rfl (lv_at hl 4 rfl) ?_
  obtain ⟨p41, hcp41, hf⟩ := hf_bind hf
  have mo42 : CS.hs p37.2 ≤ CS.hs p41.2 := Mono.go hcp41 (m_X7_tell N p37.2 x1)
  have hr9 : CS.hs p41.2 ≤ CS.hs R.2 := Mono.go hf (mono_bind (m_X0_add N p41.2 2 p41.1) (fun p45 => (mono_bind (m_X7_pushLoop N p45.2 304 p1.1 p5.1) (fun p49 => (mono_oc (mono_some (Nat.le_refl _)) (fun a54 => (mono_some (Nat.le_refl _))))))))
  have hFc := cFree hC hA
  refine va_calli (va_runV (As := [.long x1]) (rest := [.int 2, .ref (Q.o 2)]) ⟨hx, hb, hml, hown, hts⟩ (c_X7_tell l dC dI Q N p37.2 x1 p41 hcp41) (cwV 1 hts hX7_rowHead_X7_tell_v264 rfl rfl rfl (by decide +kernel) ⟨(show 2 + 1 ≤ (14 + 40 * d) by omega), (show 8 + (4 + 11) + 60 * 2 ≤ 60 * (14 + 40 * d) by omega)⟩) ⟨zPre.blind, va_recv hK hC.1 (ci := 6) (q0 := 3) rfl rfl, cPre_go hZ hK hC⟩ rfl rfl hl.1 rfl (lv_room (Nat.le_of_ble_eq_true rfl)) dX7_rowHead_94 (cAcc h40 mo42 hr9)) hC.2.2.1 (fun q _ h => hFc q h) hFc (fun r43 u9 t9 H1 locs ht hvm hw hB hz1 hk1 hS => ?_)
  obtain ⟨⟨hP, hK1, hD1⟩, hsz1⟩ := hB
  rw [ht] at hP hsz1
  have hC : CP dC dI Q A s.heap p41.2 H1 locs := ⟨hP, hD1.weaken (fun _ _ _ h => hFc _ h), hS, hsz1⟩
  generalize H1 = H at hC ⊢
  have h44 : (CS.hs σ) ≤ CS.hs p41.2 := Nat.le_trans h40 mo42
  refine W.widen (k := CS.hs p41.2 - (CS.hs σ)) (n := 17 * (CS.hs p41.2 - (CS.hs σ))) (cAcc2 h40 mo42) (cAcc3 h40 mo42) ?_
  obtain rfl : r43 = p41.1 := hw
  obtain ⟨p45, hcp45, hf⟩ := hf_bind hf
  have mo46 : CS.hs p41.2 ≤ CS.hs p45.2 := Mono.go hcp45 (m_X0_add N p41.2 2 p41.1)
  have hr9 : CS.hs p45.2 ≤ CS.hs R.2 := Mono.go hf (mono_bind (m_X7_pushLoop N p45.2 304 p1.1 p5.1) (fun p49 => (mono_oc (mono_some (Nat.le_refl _)) (fun a54 => (mono_some (Nat.le_refl _))))))
  have hFc := cFree hC hA
  refine va_callv (va_runV (As := [.int 2, .int p41.1]) (rest := []) ⟨hx, hb, hml, hown, hts⟩ (c_X0_add l dC dI Q N p41.2 2 p41.1 p45 hcp45) (cwV 2 hts hX7_rowHead_X0_add_v176 rfl rfl rfl (by decide +kernel) ⟨(show 2 + 1 ≤ (14 + 40 * d) by omega), (show 8 + (3 + 11) + 60 * 2 ≤ 60 * (14 + 40 * d) by omega)⟩) ⟨zPre.blind, va_recv hK hC.1 (ci := 0) (q0 := 2) rfl rfl, cPre_go hZ hK hC⟩ rfl rfl hl.1 rfl (lv_room (Nat.le_of_ble_eq_true rfl)) dX7_rowHead_97 (cAcc h44 mo46 hr9)) hC.2.2.1 (fun q _ h => hFc q h) hFc (fun u9 t9 H1 locs ht hvm hw hB hz1 hk1 hS => ?_)
  obtain ⟨⟨hP, hK1, hD1⟩, hsz1⟩ := hB
  rw [ht] at hP hsz1
  have hC : CP dC dI Q A s.heap p45.2 H1 locs := ⟨hP, hD1.weaken (fun _ _ _ h => hFc _ h), hS, hsz1⟩
  generalize H1 = H at hC ⊢
  have h48 : (CS.hs σ) ≤ CS.hs p45.2 := Nat.le_trans h44 mo46
  refine W.widen (k := CS.hs p45.2 - (CS.hs σ)) (n := 17 * (CS.hs p45.2 - (CS.hs σ))) (cAcc2 h44 mo46) (cAcc3 h44 mo46) ?_
  refine lv_aload_n hx hb dX7_rowHead_100 rfl (lv_at hl 3 rfl) ?_
  refine lv_sipush (v := 304) hx hb dX7_rowHead_101 (by decide) ?_
  refine lv_iload_n hx hb dX7_rowHead_104 rfl (lv_at hl 2 rfl) ?_
  refine lv_iload hx hb dX7_rowHead_105 (lv_at hl 1 rfl) ?_
  obtain ⟨p49, hcp49, hf⟩ := hf_bind hf
  have mo50 : CS.hs p45.2 ≤ CS.hs p49.2 := Mono.go hcp49 (m_X7_pushLoop N p45.2 304 p1.1 p5.1)
  have hr9 : CS.hs p49.2 ≤ CS.hs R.2 := Mono.go hf (mono_oc (mono_some (Nat.le_refl _)) (fun a54 => (mono_some (Nat.le_refl _))))
  have hFc := cFree hC hA
  refine va_callq (va_runV (As := [.int 304, .int p1.1, .int p5.1]) (rest := []) ⟨hx, hb, hml, hown, hts⟩ (c_X7_pushLoop l dC dI Q N p45.2 304 p1.1 p5.1 p49 hcp49) (cwV 3 hts hX7_rowHead_X7_pushLoop_v321 rfl rfl rfl (by decide +kernel) ⟨(show 3 + 1 ≤ (14 + 40 * d) by omega), (show 8 + (5 + 11) + 60 * 3 ≤ 60 * (14 + 40 * d) by omega)⟩) ⟨zPre.blind, va_recv hK hC.1 (ci := 6) (q0 := 3) rfl rfl, cPre_go hZ hK hC⟩ rfl rfl hl.1 rfl (lv_room (Nat.le_of_ble_eq_true rfl)) dX7_rowHead_107 (cAcc h48 mo50 hr9)) hC.2.2.1 (fun q _ h => hFc q h) hFc (fun r51 u9 t9 H1 locs ht hvm hw hB hz1 hk1 hS => ?_)
  obtain ⟨⟨hP, hK1, hD1⟩, hsz1⟩ := hB
  rw [ht] at hP hsz1
  have hC : CP dC dI Q A s.heap p49.2 H1 locs := ⟨hP, hD1.weaken (fun _ _ _ h => hFc _ h), hS, hsz1⟩
  generalize H1 = H at hC ⊢
  have h52 : (CS.hs σ) ≤ CS.hs p49.2 := Nat.le_trans h48 mo50
  refine W.widen (k := CS.hs p49.2 - (CS.hs σ)) (n := 17 * (CS.hs p49.2 - (CS.hs σ))) (cAcc2 h48 mo50) (cAcc3 h48 mo50) ?_
  obtain rfl : r51 = p49.1 := hw
  rcases hf_oc hf with ⟨q53, hf⟩ | ⟨a54, q53, hf⟩
  ·
    refine W.eq (congrArg (fun v9 => F0 m 110 ls (va_rf v9 :: [])) q53) ?_
    refine W.eq (g2 := F0 m 110 ls (.null :: [])) rfl ?_
    obtain rfl := Option.some.inj hf
    exact W.aret (v := .null) hx hb hr (Or.inl ⟨_, rfl⟩) (Or.inl rfl) (fun t ht hW => ⟨⟨none, (), rfl, rfl, ⟨by rw [ht]; exact hC.1, va_K.moved hW.alike hK, hC.2.1⟩, by rw [ht]; exact hC.2.2.2⟩, hC.2.2.1.F ht⟩) hC.2.2.1.2.2 dX7_rowHead_110
  ·
    refine W.eq (congrArg (fun v9 => F0 m 110 ls (va_rf v9 :: [])) q53) ?_
    refine W.eq (g2 := F0 m 110 ls (.ref a54 :: [])) rfl ?_
    obtain rfl := Option.some.inj hf
    exact W.aret (v := .ref a54) hx hb hr (Or.inl ⟨_, rfl⟩) (Or.inr ⟨_, rfl⟩) (fun t ht hW => ⟨⟨(some a54), (), rfl, rfl, ⟨by rw [ht]; exact hC.1, va_K.moved hW.alike hK, hC.2.1⟩, by rw [ht]; exact hC.2.2.2⟩, hC.2.2.1.F ht⟩) hC.2.2.1.2.2 dX7_rowHead_110
