theorem k_X7_armBlock_fieldLink_RX7_61_SR_Statements_alive_Z : Cond.fieldLink RX7 61 "StatementRules2$Statements" "alive" "Z" ∈ wzX7_armBlock := List.mem_cons_of_mem _ (List.mem_append_right _ (List.mem_append_right _ (List.mem_append_right _ (List.mem_append_right _ (List.mem_append_right _ (List.mem_append_right _ (List.mem_append_right _ (List.mem_append_right _ (List.mem_append_right _ (List.mem_append_right _ (List.mem_append_right _ (List.mem_append_left _ (List.mem_of_getElem? (i := 0) rfl)))))))))))))
theorem i_X7_armBlock_X7 : ∀ w ∈ wsX70, w ∈ wzX7_armBlock := fun _ h => List.mem_cons_of_mem _ (List.mem_append_right _ (List.mem_append_right _ (List.mem_append_right _ (List.mem_append_right _ (List.mem_append_right _ (List.mem_append_right _ (List.mem_append_right _ (List.mem_append_right _ (List.mem_append_right _ (List.mem_append_right _ (List.mem_append_right _ (List.mem_append_right _ (List.mem_append_right _ (List.mem_append_right _ (List.mem_append_right _ (List.mem_append_right _ (List.mem_append_right _ (List.mem_append_right _ (List.mem_append_right _ (List.mem_append_right _ (List.mem_append_right _ (List.mem_append_right _ (List.mem_append_right _ (List.mem_append_right _ (List.mem_append_right _ (List.mem_append_right _ (List.mem_append_right _ (List.mem_append_right _ (List.mem_append_right _ (List.mem_append_right _ (List.mem_append_right _ (List.mem_append_right _ (List.mem_append_right _ (List.mem_append_right _ (List.mem_append_right _ (List.mem_append_right _ (List.mem_append_left _ (h))))))))))))))))))))))))))))))))))))))
theorem k_X7_armBlock_fieldLink_RX7_14_SR_Statements_opens_LSR_Opens : Cond.fieldLink RX7 14 "StatementRules2$Statements" "opens" "LStatementRules2$Opens;" ∈ wzX7_armBlock := List.mem_cons_of_mem _ (List.mem_append_right _ (List.mem_append_right _ (List.mem_append_right _ (List.mem_append_right _ (List.mem_append_right _ (List.mem_append_right _ (List.mem_append_right _ (List.mem_append_right _ (List.mem_append_right _ (List.mem_append_right _ (List.mem_append_right _ (List.mem_append_left _ (List.mem_of_getElem? (i := 1) rfl)))))))))))))
theorem i_X7_armBlock_X6 : ∀ w ∈ wsX60, w ∈ wzX7_armBlock := fun _ h => List.mem_cons_of_mem _ (List.mem_append_right _ (List.mem_append_right _ (List.mem_append_right _ (List.mem_append_right _ (List.mem_append_right _ (List.mem_append_right _ (List.mem_append_right _ (List.mem_append_right _ (List.mem_append_right _ (List.mem_append_right _ (List.mem_append_right _ (List.mem_append_right _ (List.mem_append_right _ (List.mem_append_right _ (List.mem_append_right _ (List.mem_append_right _ (List.mem_append_right _ (List.mem_append_right _ (List.mem_append_right _ (List.mem_append_right _ (List.mem_append_right _ (List.mem_append_right _ (List.mem_append_right _ (List.mem_append_right _ (List.mem_append_right _ (List.mem_append_right _ (List.mem_append_right _ (List.mem_append_right _ (List.mem_append_right _ (List.mem_append_right _ (List.mem_append_right _ (List.mem_append_right _ (List.mem_append_right _ (List.mem_append_right _ (List.mem_append_right _ (List.mem_append_right _ (List.mem_append_right _ (List.mem_append_right _ (List.mem_append_right _ (List.mem_append_left _ (h)))))))))))))))))))))))))))))))))))))))))
theorem k_X7_armBlock_fieldLink_RX7_68_SR_Statements_depth_I : Cond.fieldLink RX7 68 "StatementRules2$Statements" "depth" "I" ∈ wzX7_armBlock := List.mem_cons_of_mem _ (List.mem_append_right _ (List.mem_append_right _ (List.mem_append_right _ (List.mem_append_right _ (List.mem_append_right _ (List.mem_append_right _ (List.mem_append_right _ (List.mem_append_right _ (List.mem_append_right _ (List.mem_append_right _ (List.mem_append_right _ (List.mem_append_left _ (List.mem_of_getElem? (i := 2) rfl)))))))))))))
theorem k_X7_armBlock_fieldLink_RX7_29_SR_Statements_names_LSR_Names : Cond.fieldLink RX7 29 "StatementRules2$Statements" "names" "LStatementRules2$Names;" ∈ wzX7_armBlock := List.mem_cons_of_mem _ (List.mem_append_right _ (List.mem_append_right _ (List.mem_append_right _ (List.mem_append_right _ (List.mem_append_right _ (List.mem_append_right _ (List.mem_append_right _ (List.mem_append_right _ (List.mem_append_right _ (List.mem_append_right _ (List.mem_append_right _ (List.mem_append_left _ (List.mem_of_getElem? (i := 3) rfl)))))))))))))
theorem k_X7_armBlock_sameField_SR_Statements_SR_Formulas_names_LSR_Names : Cond.sameField "StatementRules2$Statements" "StatementRules2$Formulas" "names" "LStatementRules2$Names;" ∈ wzX7_armBlock := List.mem_cons_of_mem _ (List.mem_append_right _ (List.mem_append_right _ (List.mem_append_right _ (List.mem_append_right _ (List.mem_append_right _ (List.mem_append_right _ (List.mem_append_right _ (List.mem_append_right _ (List.mem_append_right _ (List.mem_append_right _ (List.mem_append_right _ (List.mem_append_left _ (List.mem_of_getElem? (i := 4) rfl)))))))))))))
theorem i_X7_armBlock_X4 : ∀ w ∈ wsX40, w ∈ wzX7_armBlock := fun _ h => List.mem_cons_of_mem _ (List.mem_append_right _ (List.mem_append_right _ (List.mem_append_right _ (List.mem_append_right _ (List.mem_append_right _ (List.mem_append_right _ (List.mem_append_right _ (List.mem_append_right _ (List.mem_append_right _ (List.mem_append_right _ (List.mem_append_right _ (List.mem_append_right _ (List.mem_append_right _ (List.mem_append_right _ (List.mem_append_right _ (List.mem_append_right _ (List.mem_append_right _ (List.mem_append_right _ (List.mem_append_right _ (List.mem_append_right _ (List.mem_append_right _ (List.mem_append_right _ (List.mem_append_right _ (List.mem_append_right _ (List.mem_append_right _ (List.mem_append_right _ (List.mem_append_right _ (List.mem_append_right _ (List.mem_append_right _ (List.mem_append_right _ (List.mem_append_right _ (List.mem_append_right _ (List.mem_append_right _ (List.mem_append_right _ (List.mem_append_right _ (List.mem_append_right _ (List.mem_append_right _ (List.mem_append_right _ (List.mem_append_right _ (List.mem_append_right _ (List.mem_append_left _ (h))))))))))))))))))))))))))))))))))))))))))
theorem i_X7_armBlock_X5 : ∀ w ∈ wsX50, w ∈ wzX7_armBlock := fun _ h => List.mem_cons_of_mem _ (List.mem_append_right _ (List.mem_append_right _ (List.mem_append_right _ (List.mem_append_right _ (List.mem_append_right _ (List.mem_append_right _ (List.mem_append_right _ (List.mem_append_right _ (List.mem_append_right _ (List.mem_append_right _ (List.mem_append_right _ (List.mem_append_right _ (List.mem_append_right _ (List.mem_append_right _ (List.mem_append_right _ (List.mem_append_right _ (List.mem_append_right _ (List.mem_append_right _ (List.mem_append_right _ (List.mem_append_right _ (List.mem_append_right _ (List.mem_append_right _ (List.mem_append_right _ (List.mem_append_right _ (List.mem_append_right _ (List.mem_append_right _ (List.mem_append_right _ (List.mem_append_right _ (List.mem_append_right _ (List.mem_append_right _ (List.mem_append_right _ (List.mem_append_right _ (List.mem_append_right _ (List.mem_append_right _ (List.mem_append_right _ (List.mem_append_right _ (List.mem_append_right _ (List.mem_append_right _ (List.mem_append_right _ (List.mem_append_right _ (List.mem_append_right _ (List.mem_append_left _ (h)))))))))))))))))))))))))))))))))))))))))))
set_option maxHeartbeats 4000000 in
set_option maxRecDepth 100000 in
theorem c_X7_armBlock (l : Launch) (dC : Nat → ClassId) (dI : Nat → Nat → Nat) (Q : CQ) (N : Nat) (d : Nat) (E1 : CS → Option (Unit × CS)) (E2 : CS → Option (Int32 × CS)) (hE1 : cMF l dC dI Q d E1) (hE2 : cMO l dC dI Q d E2) (hm1 : ∀ σ, Mono (CS.hs σ) (E1 σ)) (hm2 : ∀ σ, Mono (CS.hs σ) (E2 σ)) (σ : CS) (x1 : Int32) (R : Unit × CS) (hf : f_X7_armBlock N E1 E2 σ x1 = some R) : Met l yX7_armBlock wzX7_armBlock ({ frames := (22 + 40 * d), cells := CS.hs R.2 - CS.hs σ, slots := 17 * (CS.hs R.2 - CS.hs σ), locals := 60 * (22 + 40 * d) }) (va_Pc [.ref (Q.o 3), .int x1] (zPre dC dI (CS.hs σ) (cW Q σ) (cT Q))) (va_Qv (fun (_ : Unit) => True) (fun (_ : Unit) (t : State) => zPost dC dI (va_A (cW Q σ) (CS.hs σ)) (cW Q R.2) (cT Q) t ∧ t.heap.size = CS.hs R.2) (va_A (cW Q σ) (CS.hs σ))) (CS.hs R.2 - CS.hs σ) (17 * (CS.hs R.2 - CS.hs σ)) (va_A (cW Q σ) (CS.hs σ)) := by
  refine Met.ofW (cc := cX7_armBlock) (maxL := 5) (ret := none) (by decide) rfl ?_
  intro p e s m args below meth c s₁ B hml hv
  obtain ⟨rfl, hsz, hZ, hP, hK, hD0⟩ := hv
  have hx := B.exec
  have hb := B.bytes
  have hr := B.returns
  have hts := atoms_spec (ws := wzX7_armBlock) B.pre
  have hown : s.vm.findClass RX7 = some m.cls := findClass_of_methodNamed B.named
  have hlocks := B.notSynchronized
  have hD := hD0.self (sz := CS.hs σ)
  generalize hAe : va_A (cW Q σ) (CS.hs σ) = A at hD ⊢
  have hA : ∀ q : Nat, s.heap.size ≤ q → A q := fun q h => by rw [← hAe]; exact Or.inr (hsz ▸ h)
  have hC : CP dC dI Q A s.heap σ s.heap [] := ⟨hP, hD, va_S.rf, hsz⟩
  have h0 : CS.hs σ ≤ CS.hs σ := Nat.le_refl _
  have hl := lv_entry ([.ref (Q.o 3), .int x1]) (n := 5) (Nat.le_of_ble_eq_true rfl)
  rw [lg_entry_eq]
  generalize (lg_sl ([.ref (Q.o 3), .int x1]) ++ List.replicate (5 - (lg_sl ([.ref (Q.o 3), .int x1])).length) Slot.unset).toArray = ls at hl ⊢
  have hl : lv_has ls 5 [(0, .ref (Q.o 3)), (1, .int x1)] := hl
  unfold f_X7_armBlock at hf
  refine W.widen (k := CS.hs σ - CS.hs σ) (n := 17 * (CS.hs σ - CS.hs σ)) (Nat.zero_le _) (Nat.zero_le _) ?_
  refine lv_aload_n hx hb dX7_armBlock_0 rfl (lv_at hl 0 rfl) ?_
  refine cG_36 (v := (σ.i 36)) hx hb hts i_X7_armBlock_X7 hown hK hC (hts (.fieldLink RX7 61 "StatementRules2$Statements" "alive" "Z") k_X7_armBlock_fieldLink_RX7_61_SR_Statements_alive_Z) (fun _ q9 => q9) dX7_armBlock_1 rfl ?_
  refine lv_istore_n (lv' := [(2, .int (σ.i 36)), (0, .ref (Q.o 3)), (1, .int x1)]) hx hb dX7_armBlock_4 rfl hl (by decide) rfl (fun ls hl => ?_)
  refine lv_aload_n hx hb dX7_armBlock_5 rfl (lv_at hl 1 rfl) ?_
  refine cG_35 hx hb hts i_X7_armBlock_X7 hown hK hC (hts (.fieldLink RX7 14 "StatementRules2$Statements" "opens" "LStatementRules2$Opens;") k_X7_armBlock_fieldLink_RX7_14_SR_Statements_opens_LSR_Opens) (fun _ q9 => q9) dX7_armBlock_6 ?_
  refine cGN_53 (v := (σ.i 53)) hx hb hts i_X7_armBlock_X6 hown hK hC (va_Nw.use rfl (hZ.1 (.fieldLinkNest RX7 92 "StatementRules2$Opens" "count" "I" "StatementRules2") (by decide +kernel))) (fun _ q9 => q9) dX7_armBlock_9 rfl ?_
  refine lv_istore_n (lv' := [(3, .int (σ.i 53)), (2, .int (σ.i 36)), (0, .ref (Q.o 3)), (1, .int x1)]) hx hb dX7_armBlock_12 rfl hl (by decide) rfl (fun ls hl => ?_)
  refine lv_aload_n hx hb dX7_armBlock_13 rfl (lv_at hl 2 rfl) ?_
  refine lv_bipush (v := 123) hx hb dX7_armBlock_14 (by decide) ?_
  obtain ⟨p1, hcp1, hf⟩ := hf_bind hf
  have mo2 : CS.hs σ ≤ CS.hs p1.2 := Mono.go hcp1 (m_X1_open N σ 123)
  have hr9 : CS.hs p1.2 ≤ CS.hs R.2 := Mono.go hf (mono_bind (m_X6_push N p1.2 302 (p1.2.i 38) (p1.2.i 50)) (fun p5 => (mono_oc mono_none (fun a10 => (mono_ite (mono_bind (m_X7_turns N E1 E2 hm1 hm2 (CS.setI (CS.setI (CS.setO (CS.setO p5.2 a10 9 x1) a10 16 (p5.2.i 56)) 56 (σ.i 53)) 36 1) (σ.i 53)) (fun p12 => (mono_ite (mono_ite (mono_some (Nat.le_refl _)) mono_none) mono_none))) mono_none)))))
  have hFc := cFree hC hA
  refine va_callv (va_runU (As := [.int 123]) (rest := []) ⟨hx, hb, hml, hown, hts⟩ (c_X1_open l dC dI Q N σ 123 p1 hcp1) (va_cwU 1 hts hX7_armBlock_X1_open_u173 rfl rfl rfl rfl (by decide +kernel) ⟨(show 4 + 1 ≤ (22 + 40 * d) by omega), (show 8 + (2 + 11) + 60 * 4 ≤ 60 * (22 + 40 * d) by omega)⟩) ⟨zPre.blind, va_recv hK hC.1 (ci := 6) (q0 := 3) rfl rfl, cPre_go hZ hK hC⟩ rfl rfl hl.1 rfl (lv_room (Nat.le_of_ble_eq_true rfl)) dX7_armBlock_16 (cAcc h0 mo2 hr9)) hC.2.2.1 (fun q _ h => hFc q h) hFc (fun u9 t9 H1 locs ht hvm hw hB hz1 hk1 hS => ?_)
  obtain ⟨⟨hP, hK1, hD1⟩, hsz1⟩ := hB
  rw [ht] at hP hsz1
  have hC : CP dC dI Q A s.heap p1.2 H1 locs := ⟨hP, hD1.weaken (fun _ _ _ h => hFc _ h), hS, hsz1⟩
  generalize H1 = H at hC ⊢
  have h4 : (CS.hs σ) ≤ CS.hs p1.2 := Nat.le_trans h0 mo2
  refine W.widen (k := CS.hs p1.2 - (CS.hs σ)) (n := 17 * (CS.hs p1.2 - (CS.hs σ))) (cAcc2 h0 mo2) (cAcc3 h0 mo2) ?_
  refine lv_aload_n hx hb dX7_armBlock_19 rfl (lv_at hl 2 rfl) ?_
  refine cG_35 hx hb hts i_X7_armBlock_X7 hown hK hC (hts (.fieldLink RX7 14 "StatementRules2$Statements" "opens" "LStatementRules2$Opens;") k_X7_armBlock_fieldLink_RX7_14_SR_Statements_opens_LSR_Opens) (fun _ q9 => q9) dX7_armBlock_20 ?_
  refine lv_sipush (v := 302) hx hb dX7_armBlock_23 (by decide) ?_
  refine lv_aload_n hx hb dX7_armBlock_26 rfl (lv_at hl 2 rfl) ?_
  refine cG_38 (v := (p1.2.i 38)) hx hb hts i_X7_armBlock_X7 hown hK hC (hts (.fieldLink RX7 68 "StatementRules2$Statements" "depth" "I") k_X7_armBlock_fieldLink_RX7_68_SR_Statements_depth_I) (fun _ q9 => q9) dX7_armBlock_27 rfl ?_
  refine lv_aload_n hx hb dX7_armBlock_30 rfl (lv_at hl 2 rfl) ?_
  refine cG_31 hx hb hts i_X7_armBlock_X7 hown hK hC (hts (.fieldLink RX7 29 "StatementRules2$Statements" "names" "LStatementRules2$Names;") k_X7_armBlock_fieldLink_RX7_29_SR_Statements_names_LSR_Names) (fun x9 q9 => u_same (hts (.sameField "StatementRules2$Statements" "StatementRules2$Formulas" "names" "LStatementRules2$Names;") k_X7_armBlock_sameField_SR_Statements_SR_Formulas_names_LSR_Names) x9 q9) dX7_armBlock_31 ?_
  refine cGN_50 (v := (p1.2.i 50)) hx hb hts i_X7_armBlock_X4 hown hK hC (va_Nw.use rfl (hZ.1 (.fieldLinkNest RX7 33 "StatementRules2$Names" "count" "I" "StatementRules2") (by decide +kernel))) (fun _ q9 => q9) dX7_armBlock_34 rfl ?_
  obtain ⟨p5, hcp5, hf⟩ := hf_bind hf
  have mo6 : CS.hs p1.2 ≤ CS.hs p5.2 := Mono.go hcp5 (m_X6_push N p1.2 302 (p1.2.i 38) (p1.2.i 50))
  have hr9 : CS.hs p5.2 ≤ CS.hs R.2 := Mono.go hf (mono_oc mono_none (fun a10 => (mono_ite (mono_bind (m_X7_turns N E1 E2 hm1 hm2 (CS.setI (CS.setI (CS.setO (CS.setO p5.2 a10 9 x1) a10 16 (p5.2.i 56)) 56 (σ.i 53)) 36 1) (σ.i 53)) (fun p12 => (mono_ite (mono_ite (mono_some (Nat.le_refl _)) mono_none) mono_none))) mono_none)))
  have hFc := cFree hC hA
  refine va_callq (va_runV (As := [.int 302, .int (p1.2.i 38), .int (p1.2.i 50)]) (rest := []) ⟨hx, hb, hml, hown, hts⟩ (c_X6_push l dC dI Q N p1.2 302 (p1.2.i 38) (p1.2.i 50) p5 hcp5) (cwV 3 hts hX7_armBlock_X6_push_v81 rfl rfl rfl (by decide +kernel) ⟨(show 2 + 1 ≤ (22 + 40 * d) by omega), (show 8 + (6 + 11) + 60 * 2 ≤ 60 * (22 + 40 * d) by omega)⟩) ⟨zPre.blind, va_recv hK hC.1 (ci := 5) (q0 := 6) rfl rfl, cPre_go hZ hK hC⟩ rfl rfl hl.1 rfl (lv_room (Nat.le_of_ble_eq_true rfl)) dX7_armBlock_37 (cAcc h4 mo6 hr9)) hC.2.2.1 (fun q _ h => hFc q h) hFc (fun r7 u9 t9 H1 locs ht hvm hw hB hz1 hk1 hS => ?_)
  obtain ⟨⟨hP, hK1, hD1⟩, hsz1⟩ := hB
  rw [ht] at hP hsz1
  have hC : CP dC dI Q A s.heap p5.2 H1 locs := ⟨hP, hD1.weaken (fun _ _ _ h => hFc _ h), hS, hsz1⟩
  generalize H1 = H at hC ⊢
  have h8 : (CS.hs σ) ≤ CS.hs p5.2 := Nat.le_trans h4 mo6
  refine W.widen (k := CS.hs p5.2 - (CS.hs σ)) (n := 17 * (CS.hs p5.2 - (CS.hs σ))) (cAcc2 h4 mo6) (cAcc3 h4 mo6) ?_
  obtain rfl : r7 = p5.1 := hw
  rcases hf_oc hf with ⟨q9, hf⟩ | ⟨a10, q9, hf⟩
  ·
    refine W.eq (congrArg (fun v9 => F0 m 40 ls (va_rf v9 :: [])) q9) ?_
    refine W.eq (g2 := F0 m 40 ls (.null :: [])) rfl ?_
    refine lv_astoreN (lv' := [(4, .null), (3, .int (σ.i 53)), (2, .int (σ.i 36)), (0, .ref (Q.o 3)), (1, .int x1)]) hx hb dX7_armBlock_40 hl (by decide) rfl (fun ls hl => ?_)
    refine lv_aloadN hx hb dX7_armBlock_42 (lv_at hl 0 rfl) ?_
    refine lv_iload_n hx hb dX7_armBlock_44 rfl (lv_at hl 4 rfl) ?_
    cases hf
  ·
    refine W.eq (congrArg (fun v9 => F0 m 40 ls (va_rf v9 :: [])) q9) ?_
    refine W.eq (g2 := F0 m 40 ls (.ref a10 :: [])) rfl ?_
    refine lv_astore (lv' := [(4, .ref a10), (3, .int (σ.i 53)), (2, .int (σ.i 36)), (0, .ref (Q.o 3)), (1, .int x1)]) hx hb dX7_armBlock_40 hl (by decide) rfl (fun ls hl => ?_)
    refine lv_aload hx hb dX7_armBlock_42 (lv_at hl 0 rfl) ?_
    refine lv_iload_n hx hb dX7_armBlock_44 rfl (lv_at hl 4 rfl) ?_
    obtain ⟨b11, hf⟩ := hf_ite hf
    refine pPN_X5_9 (v := x1) hx hb hts i_X7_armBlock_X5 hown hK hC (va_Nw.use rfl (hZ.1 (.fieldLinkNest RX7 196 "StatementRules2$Open" "exit" "I" "StatementRules2") (by decide +kernel))) (fun _ q9 => q9) dX7_armBlock_45 b11 (fun H locs hC => ?_)
    refine lv_aload hx hb dX7_armBlock_48 (lv_at hl 0 rfl) ?_
    refine lv_aload_n hx hb dX7_armBlock_50 rfl (lv_at hl 3 rfl) ?_
    refine cG_35 hx hb hts i_X7_armBlock_X7 hown hK hC (hts (.fieldLink RX7 14 "StatementRules2$Statements" "opens" "LStatementRules2$Opens;") k_X7_armBlock_fieldLink_RX7_14_SR_Statements_opens_LSR_Opens) (fun _ q9 => q9) dX7_armBlock_51 ?_
    refine cGN_56 (v := (p5.2.i 56)) hx hb hts i_X7_armBlock_X6 hown hK hC (va_Nw.use rfl (hZ.1 (.fieldLinkNest RX7 294 "StatementRules2$Opens" "arm" "I" "StatementRules2") (by decide +kernel))) (fun _ q9 => q9) dX7_armBlock_54 rfl ?_
    refine pPN_X5_16 (v := (p5.2.i 56)) hx hb hts i_X7_armBlock_X5 hown hK hC (va_Nw.use rfl (hZ.1 (.fieldLinkNest RX7 413 "StatementRules2$Open" "outerArm" "I" "StatementRules2") (by decide +kernel))) (fun _ q9 => q9) dX7_armBlock_57 b11 (fun H locs hC => ?_)
    refine lv_aload_n hx hb dX7_armBlock_60 rfl (lv_at hl 3 rfl) ?_
    refine cG_35 hx hb hts i_X7_armBlock_X7 hown hK hC (hts (.fieldLink RX7 14 "StatementRules2$Statements" "opens" "LStatementRules2$Opens;") k_X7_armBlock_fieldLink_RX7_14_SR_Statements_opens_LSR_Opens) (fun _ q9 => q9) dX7_armBlock_61 ?_
    refine lv_iload_n hx hb dX7_armBlock_64 rfl (lv_at hl 1 rfl) ?_
    refine cPN_56 (v := (σ.i 53)) hx hb hts i_X7_armBlock_X6 hown hK hC (va_Nw.use rfl (hZ.1 (.fieldLinkNest RX7 294 "StatementRules2$Opens" "arm" "I" "StatementRules2") (by decide +kernel))) (fun _ q9 => q9) dX7_armBlock_65 (fun H locs hC => ?_)
    refine lv_aload_n hx hb dX7_armBlock_68 rfl (lv_at hl 3 rfl) ?_
    refine lv_iconst (v := 1) hx hb dX7_armBlock_69 (by decide) ?_
    refine cP_36 (v := 1) hx hb hts i_X7_armBlock_X7 hown hK hC (hts (.fieldLink RX7 61 "StatementRules2$Statements" "alive" "Z") k_X7_armBlock_fieldLink_RX7_61_SR_Statements_alive_Z) (fun _ q9 => q9) dX7_armBlock_70 (by decide) (fun H locs hC => ?_)
    refine lv_aload_n hx hb dX7_armBlock_73 rfl (lv_at hl 3 rfl) ?_
    refine lv_iload_n hx hb dX7_armBlock_74 rfl (lv_at hl 1 rfl) ?_
    obtain ⟨p12, hcp12, hf⟩ := hf_bind hf
    have mo13 : CS.hs p5.2 ≤ CS.hs p12.2 := Mono.go hcp12 (m_X7_turns N E1 E2 hm1 hm2 (CS.setI (CS.setI (CS.setO (CS.setO p5.2 a10 9 x1) a10 16 (p5.2.i 56)) 56 (σ.i 53)) 36 1) (σ.i 53))
    have hr9 : CS.hs p12.2 ≤ CS.hs R.2 := Mono.go hf (mono_ite (mono_ite (mono_some (Nat.le_refl _)) mono_none) mono_none)
    have hFc := cFree hC hA
    refine va_callv (va_runV (As := [.int (σ.i 53)]) (rest := []) ⟨hx, hb, hml, hown, hts⟩ (c_X7_turns l dC dI Q N d E1 E2 hE1 hE2 hm1 hm2 (CS.setI (CS.setI (CS.setO (CS.setO p5.2 a10 9 x1) a10 16 (p5.2.i 56)) 56 (σ.i 53)) 36 1) (σ.i 53) p12 hcp12) (cwV 1 hts hX7_armBlock_X7_turns_v85 rfl rfl rfl (by decide +kernel) ⟨(show (21 + 40 * d) + 1 ≤ (22 + 40 * d) by omega), (show 8 + (4 + 11) + 60 * (21 + 40 * d) ≤ 60 * (22 + 40 * d) by omega)⟩) ⟨zPre.blind, va_recv hK hC.1 (ci := 6) (q0 := 3) rfl rfl, cPre_go hZ hK hC⟩ rfl rfl hl.1 rfl (lv_room (Nat.le_of_ble_eq_true rfl)) dX7_armBlock_75 (cAcc h8 mo13 hr9)) hC.2.2.1 (fun q _ h => hFc q h) hFc (fun u9 t9 H1 locs ht hvm hw hB hz1 hk1 hS => ?_)
    obtain ⟨⟨hP, hK1, hD1⟩, hsz1⟩ := hB
    rw [ht] at hP hsz1
    have hC : CP dC dI Q A s.heap p12.2 H1 locs := ⟨hP, hD1.weaken (fun _ _ _ h => hFc _ h), hS, hsz1⟩
    generalize H1 = H at hC ⊢
    have h15 : (CS.hs σ) ≤ CS.hs p12.2 := Nat.le_trans h8 mo13
    refine W.widen (k := CS.hs p12.2 - (CS.hs σ)) (n := 17 * (CS.hs p12.2 - (CS.hs σ))) (cAcc2 h8 mo13) (cAcc3 h8 mo13) ?_
    refine lv_aload_n hx hb dX7_armBlock_78 rfl (lv_at hl 3 rfl) ?_
    refine cG_35 hx hb hts i_X7_armBlock_X7 hown hK hC (hts (.fieldLink RX7 14 "StatementRules2$Statements" "opens" "LStatementRules2$Opens;") k_X7_armBlock_fieldLink_RX7_14_SR_Statements_opens_LSR_Opens) (fun _ q9 => q9) dX7_armBlock_79 ?_
    refine lv_aload hx hb dX7_armBlock_82 (lv_at hl 0 rfl) ?_
    obtain ⟨b16, hf⟩ := hf_ite hf
    refine pGN_X5_16 (v := (CS.o p12.2 a10 16)) hx hb hts i_X7_armBlock_X5 hown hK hC (va_Nw.use rfl (hZ.1 (.fieldLinkNest RX7 413 "StatementRules2$Open" "outerArm" "I" "StatementRules2") (by decide +kernel))) (fun _ q9 => q9) dX7_armBlock_84 b16 rfl ?_
    refine cPN_56 (v := (CS.o p12.2 a10 16)) hx hb hts i_X7_armBlock_X6 hown hK hC (va_Nw.use rfl (hZ.1 (.fieldLinkNest RX7 294 "StatementRules2$Opens" "arm" "I" "StatementRules2") (by decide +kernel))) (fun _ q9 => q9) dX7_armBlock_87 (fun H locs hC => ?_)
    refine lv_aload_n hx hb dX7_armBlock_90 rfl (lv_at hl 3 rfl) ?_
    refine lv_iload_n hx hb dX7_armBlock_91 rfl (lv_at hl 2 rfl) ?_
    obtain ⟨b17, hf⟩ := hf_ite hf
    refine cP_36 (v := (σ.i 36)) hx hb hts i_X7_armBlock_X7 hown hK hC (hts (.fieldLink RX7 61 "StatementRules2$Statements" "alive" "Z") k_X7_armBlock_fieldLink_RX7_61_SR_Statements_alive_Z) (fun _ q9 => q9) dX7_armBlock_92 b17 (fun H locs hC => ?_)
    obtain rfl := Option.some.inj hf
    exact W.vret hx hb hr (fun t ht hW => ⟨⟨(), rfl, trivial, ⟨by rw [ht]; exact hC.1, va_K.moved hW.alike hK, hC.2.1⟩, by rw [ht]; exact hC.2.2.2⟩, hC.2.2.1.F ht⟩) hC.2.2.1.2.2 dX7_armBlock_95
theorem k_X1_arm_fieldLink_RX1_22_SR_Formulas_code_LSR_Code : Cond.fieldLink RX1 22 "StatementRules2$Formulas" "code" "LStatementRules2$Code;" ∈ wzX1_arm := List.mem_cons_of_mem _ (List.mem_append_right _ (List.mem_append_left _ (List.mem_of_getElem? (i := 0) rfl)))
theorem i_X1_arm_X7 : ∀ w ∈ wsX70, w ∈ wzX1_arm := fun _ h => List.mem_cons_of_mem _ (List.mem_append_right _ (List.mem_append_right _ (List.mem_append_right _ (List.mem_append_right _ (List.mem_append_right _ (List.mem_append_right _ (List.mem_append_right _ (List.mem_append_right _ (List.mem_append_right _ (List.mem_append_right _ (List.mem_append_right _ (List.mem_append_right _ (List.mem_append_right _ (List.mem_append_right _ (List.mem_append_right _ (List.mem_append_right _ (List.mem_append_right _ (List.mem_append_right _ (List.mem_append_right _ (List.mem_append_right _ (List.mem_append_right _ (List.mem_append_right _ (List.mem_append_right _ (List.mem_append_right _ (List.mem_append_right _ (List.mem_append_right _ (List.mem_append_right _ (List.mem_append_right _ (List.mem_append_right _ (List.mem_append_right _ (List.mem_append_right _ (List.mem_append_right _ (List.mem_append_right _ (List.mem_append_right _ (List.mem_append_right _ (List.mem_append_right _ (List.mem_append_left _ (h))))))))))))))))))))))))))))))))))))))
theorem k_X1_arm_fieldLink_RX1_18_SR_Formulas_tokens_LSR_Tokens : Cond.fieldLink RX1 18 "StatementRules2$Formulas" "tokens" "LStatementRules2$Tokens;" ∈ wzX1_arm := List.mem_cons_of_mem _ (List.mem_append_right _ (List.mem_append_left _ (List.mem_of_getElem? (i := 1) rfl)))
theorem i_X1_arm_X9 : ∀ w ∈ wsX90, w ∈ wzX1_arm := fun _ h => List.mem_cons_of_mem _ (List.mem_append_right _ (List.mem_append_right _ (List.mem_append_right _ (List.mem_append_right _ (List.mem_append_right _ (List.mem_append_right _ (List.mem_append_right _ (List.mem_append_right _ (List.mem_append_right _ (List.mem_append_right _ (List.mem_append_right _ (List.mem_append_right _ (List.mem_append_right _ (List.mem_append_right _ (List.mem_append_right _ (List.mem_append_right _ (List.mem_append_right _ (List.mem_append_right _ (List.mem_append_right _ (List.mem_append_right _ (List.mem_append_right _ (List.mem_append_right _ (List.mem_append_right _ (List.mem_append_right _ (List.mem_append_right _ (List.mem_append_right _ (List.mem_append_right _ (List.mem_append_right _ (List.mem_append_right _ (List.mem_append_right _ (List.mem_append_right _ (List.mem_append_right _ (List.mem_append_right _ (List.mem_append_right _ (List.mem_append_right _ (List.mem_append_right _ (List.mem_append_right _ (List.mem_append_left _ (h)))))))))))))))))))))))))))))))))))))))
set_option maxHeartbeats 4000000 in
set_option maxRecDepth 100000 in
theorem j_X1_arm_153 {p : Program} {e : Env} {s : State} {m : MethodId} {args : Array Value} {below : List Frame} {meth : Method} {c : Code} {A : Nat → Prop} (l : Launch) (dC : Nat → ClassId) (dI : Nat → Nat → Nat) (Q : CQ) (N : Nat) (d : Nat) (E1 : CS → Option (Unit × CS)) (E2 : CS → Option (Int32 × CS)) (hE1 : cMF l dC dI Q d E1) (hE2 : cMO l dC dI Q d E2) (hm1 : ∀ σ, Mono (CS.hs σ) (E1 σ)) (hm2 : ∀ σ, Mono (CS.hs σ) (E2 σ)) (z9h : Nat) (R : Int32 × CS) (hx : p.tables.exec = Jvm.exec) (hb : c.code = cX1_arm) (hr : meth.sig.returnType = (some .int)) (hml : c.maxLocals = 7) (hown : s.vm.findClass RX1 = some m.cls) (hts : ∀ w ∈ wzX1_arm, w.before args s = true) (hlocks : meth.locks = false) (hZ : zAMB s) (hA : ∀ q : Nat, s.heap.size ≤ q → A q) (hK : va_K (dC, dI) vwCl (cT Q) s) : ∀ (σ : CS) (x5 : Int32) (H : Heap) (locs : List Loc) (ls : Array Slot), f_X1_arm_153 N E1 E2 σ x5 = some R → z9h ≤ CS.hs σ → CP dC dI Q A s.heap σ H locs → lv_has ls 7 [(5, .int x5)] → W p l e ({ frames := (23 + 40 * d), cells := CS.hs R.2 - z9h, slots := 17 * (CS.hs R.2 - z9h), locals := 60 * (23 + 40 * d) }) s m args below meth c H locs (CS.hs σ - z9h) (17 * (CS.hs σ - z9h)) (MQ below (va_Qi (fun (r : Int32) (_ : Unit) => r = R.1) (fun (_ : Unit) (t : State) => zPost dC dI A (cW Q R.2) (cT Q) t ∧ t.heap.size = CS.hs R.2) A) args s (CS.hs R.2 - z9h) (17 * (CS.hs R.2 - z9h)) A) (F0 m 153 ls []) := by
  intro σ x5 H locs ls hf h0 hC hl
  unfold f_X1_arm_153 at hf
  refine lv_iload hx hb dX1_arm_153 (lv_at hl 0 rfl) ?_
  obtain rfl := Option.some.inj hf
  exact W.iret (v := x5) hx hb hr (fun t ht hW => ⟨⟨x5, (), rfl, rfl, ⟨by rw [ht]; exact hC.1, va_K.moved hW.alike hK, hC.2.1⟩, by rw [ht]; exact hC.2.2.2⟩, hC.2.2.1.F ht⟩) hC.2.2.1.2.2 dX1_arm_155
set_option maxHeartbeats 4000000 in
set_option maxRecDepth 100000 in
theorem j_X1_arm_100 {p : Program} {e : Env} {s : State} {m : MethodId} {args : Array Value} {below : List Frame} {meth : Method} {c : Code} {A : Nat → Prop} (l : Launch) (dC : Nat → ClassId) (dI : Nat → Nat → Nat) (Q : CQ) (N : Nat) (d : Nat) (E1 : CS → Option (Unit × CS)) (E2 : CS → Option (Int32 × CS)) (hE1 : cMF l dC dI Q d E1) (hE2 : cMO l dC dI Q d E2) (hm1 : ∀ σ, Mono (CS.hs σ) (E1 σ)) (hm2 : ∀ σ, Mono (CS.hs σ) (E2 σ)) (z9h : Nat) (R : Int32 × CS) (hx : p.tables.exec = Jvm.exec) (hb : c.code = cX1_arm) (hr : meth.sig.returnType = (some .int)) (hml : c.maxLocals = 7) (hown : s.vm.findClass RX1 = some m.cls) (hts : ∀ w ∈ wzX1_arm, w.before args s = true) (hlocks : meth.locks = false) (hZ : zAMB s) (hA : ∀ q : Nat, s.heap.size ≤ q → A q) (hK : va_K (dC, dI) vwCl (cT Q) s) : ∀ (σ : CS) (x3 : Int32) (x4 : Int32) (x5 : Int32) (H : Heap) (locs : List Loc) (ls : Array Slot), f_X1_arm_100 N E1 E2 σ x3 x4 x5 = some R → z9h ≤ CS.hs σ → CP dC dI Q A s.heap σ H locs → lv_has ls 7 [(0, .ref (Q.o 3)), (3, .int x3), (4, .int x4), (5, .int x5)] → W p l e ({ frames := (23 + 40 * d), cells := CS.hs R.2 - z9h, slots := 17 * (CS.hs R.2 - z9h), locals := 60 * (23 + 40 * d) }) s m args below meth c H locs (CS.hs σ - z9h) (17 * (CS.hs σ - z9h)) (MQ below (va_Qi (fun (r : Int32) (_ : Unit) => r = R.1) (fun (_ : Unit) (t : State) => zPost dC dI A (cW Q R.2) (cT Q) t ∧ t.heap.size = CS.hs R.2) A) args s (CS.hs R.2 - z9h) (17 * (CS.hs R.2 - z9h)) A) (F0 m 100 ls []) := by
  intro σ x3 x4 x5 H locs ls hf h0 hC hl
  unfold f_X1_arm_100 at hf
  refine lv_aload_n hx hb dX1_arm_100 rfl (lv_at hl 0 rfl) ?_
  refine lv_sipush (v := 134) hx hb dX1_arm_101 (by decide) ?_
  obtain ⟨p19, hcp19, hf⟩ := hf_bind hf
  have mo20 : CS.hs σ ≤ CS.hs p19.2 := Mono.go hcp19 (m_X1_expect N σ 134)
  have hr9 : CS.hs p19.2 ≤ CS.hs R.2 := Mono.go hf (mono_bind (m_X0_aim N p19.2 x4) (fun p23 => (mono_bind (m_X1_found N p23.2 123) (fun p27 => (mono_ite (mono_bind (m_X1_expression N E1 E2 hm1 hm2 p27.2) (fun p32 => (mono_bind (m_X1_expect N p32.2 59) (fun p36 => (mono_bind (m_X0_add N p36.2 30 x3) (fun p40 => (m_X1_arm_153 N E1 E2 hm1 hm2 p40.2 x5))))))) (mono_bind (m_X7_armBlock N E1 E2 hm1 hm2 p27.2 x3) (fun p44 => (m_X1_arm_153 N E1 E2 hm1 hm2 p44.2 x5))))))))
  have hFc := cFree hC hA
  refine va_callv (va_runU (As := [.int 134]) (rest := []) ⟨hx, hb, hml, hown, hts⟩ (c_X1_expect l dC dI Q N σ 134 p19 hcp19) (va_cwU 1 hts hX1_arm_X1_expect_u133 rfl rfl rfl rfl (by decide +kernel) ⟨(show 4 + 1 ≤ (23 + 40 * d) by omega), (show 8 + (2 + 11) + 60 * 4 ≤ 60 * (23 + 40 * d) by omega)⟩) ⟨zPre.blind, va_recv hK hC.1 (ci := 6) (q0 := 3) rfl rfl, cPre_go hZ hK hC⟩ rfl rfl hl.1 rfl (lv_room (Nat.le_of_ble_eq_true rfl)) dX1_arm_104 (cAcc h0 mo20 hr9)) hC.2.2.1 (fun q _ h => hFc q h) hFc (fun u9 t9 H1 locs ht hvm hw hB hz1 hk1 hS => ?_)
  obtain ⟨⟨hP, hK1, hD1⟩, hsz1⟩ := hB
  rw [ht] at hP hsz1
  have hC : CP dC dI Q A s.heap p19.2 H1 locs := ⟨hP, hD1.weaken (fun _ _ _ h => hFc _ h), hS, hsz1⟩
  generalize H1 = H at hC ⊢
  have h22 : z9h ≤ CS.hs p19.2 := Nat.le_trans h0 mo20
  refine W.widen (k := CS.hs p19.2 - z9h) (n := 17 * (CS.hs p19.2 - z9h)) (cAcc2 h0 mo20) (cAcc3 h0 mo20) ?_
  refine lv_aload_n hx hb dX1_arm_107 rfl (lv_at hl 0 rfl) ?_
  refine cG_29 hx hb hts i_X1_arm_X7 hown hK hC (hts (.fieldLink RX1 22 "StatementRules2$Formulas" "code" "LStatementRules2$Code;") k_X1_arm_fieldLink_RX1_22_SR_Formulas_code_LSR_Code) (fun _ q9 => q9) dX1_arm_108 ?_
  refine lv_iload hx hb dX1_arm_111 (lv_at hl 2 rfl) ?_
  obtain ⟨p23, hcp23, hf⟩ := hf_bind hf
  have mo24 : CS.hs p19.2 ≤ CS.hs p23.2 := Mono.go hcp23 (m_X0_aim N p19.2 x4)
  have hr9 : CS.hs p23.2 ≤ CS.hs R.2 := Mono.go hf (mono_bind (m_X1_found N p23.2 123) (fun p27 => (mono_ite (mono_bind (m_X1_expression N E1 E2 hm1 hm2 p27.2) (fun p32 => (mono_bind (m_X1_expect N p32.2 59) (fun p36 => (mono_bind (m_X0_add N p36.2 30 x3) (fun p40 => (m_X1_arm_153 N E1 E2 hm1 hm2 p40.2 x5))))))) (mono_bind (m_X7_armBlock N E1 E2 hm1 hm2 p27.2 x3) (fun p44 => (m_X1_arm_153 N E1 E2 hm1 hm2 p44.2 x5))))))
  have hFc := cFree hC hA
  refine va_callv (va_runV (As := [.int x4]) (rest := []) ⟨hx, hb, hml, hown, hts⟩ (c_X0_aim l dC dI Q N p19.2 x4 p23 hcp23) (cwV 1 hts hX1_arm_X0_aim_v121 rfl rfl rfl (by decide +kernel) ⟨(show 2 + 1 ≤ (23 + 40 * d) by omega), (show 8 + (2 + 11) + 60 * 2 ≤ 60 * (23 + 40 * d) by omega)⟩) ⟨zPre.blind, va_recv hK hC.1 (ci := 0) (q0 := 2) rfl rfl, cPre_go hZ hK hC⟩ rfl rfl hl.1 rfl (lv_room (Nat.le_of_ble_eq_true rfl)) dX1_arm_113 (cAcc h22 mo24 hr9)) hC.2.2.1 (fun q _ h => hFc q h) hFc (fun u9 t9 H1 locs ht hvm hw hB hz1 hk1 hS => ?_)
  obtain ⟨⟨hP, hK1, hD1⟩, hsz1⟩ := hB
  rw [ht] at hP hsz1
  have hC : CP dC dI Q A s.heap p23.2 H1 locs := ⟨hP, hD1.weaken (fun _ _ _ h => hFc _ h), hS, hsz1⟩
  generalize H1 = H at hC ⊢
  have h26 : z9h ≤ CS.hs p23.2 := Nat.le_trans h22 mo24
  refine W.widen (k := CS.hs p23.2 - z9h) (n := 17 * (CS.hs p23.2 - z9h)) (cAcc2 h22 mo24) (cAcc3 h22 mo24) ?_
  refine lv_aload_n hx hb dX1_arm_116 rfl (lv_at hl 0 rfl) ?_
  refine lv_bipush (v := 123) hx hb dX1_arm_117 (by decide) ?_
  obtain ⟨p27, hcp27, hf⟩ := hf_bind hf
  have mo28 : CS.hs p23.2 ≤ CS.hs p27.2 := Mono.go hcp27 (m_X1_found N p23.2 123)
  have hr9 : CS.hs p27.2 ≤ CS.hs R.2 := Mono.go hf (mono_ite (mono_bind (m_X1_expression N E1 E2 hm1 hm2 p27.2) (fun p32 => (mono_bind (m_X1_expect N p32.2 59) (fun p36 => (mono_bind (m_X0_add N p36.2 30 x3) (fun p40 => (m_X1_arm_153 N E1 E2 hm1 hm2 p40.2 x5))))))) (mono_bind (m_X7_armBlock N E1 E2 hm1 hm2 p27.2 x3) (fun p44 => (m_X1_arm_153 N E1 E2 hm1 hm2 p44.2 x5))))
  have hFc := cFree hC hA
  refine va_calli (va_runU (As := [.int 123]) (rest := []) ⟨hx, hb, hml, hown, hts⟩ (c_X1_found l dC dI Q N p23.2 123 p27 hcp27) (va_cwU 1 hts hX1_arm_X1_found_u42 rfl rfl rfl rfl (by decide +kernel) ⟨(show 1 + 1 ≤ (23 + 40 * d) by omega), (show 8 + (2 + 11) + 60 * 1 ≤ 60 * (23 + 40 * d) by omega)⟩) ⟨zPre.blind, va_recv hK hC.1 (ci := 6) (q0 := 3) rfl rfl, cPre_go hZ hK hC⟩ rfl rfl hl.1 rfl (lv_room (Nat.le_of_ble_eq_true rfl)) dX1_arm_119 (cAcc h26 mo28 hr9)) hC.2.2.1 (fun q _ h => hFc q h) hFc (fun r29 u9 t9 H1 locs ht hvm hw hB hz1 hk1 hS => ?_)
  obtain ⟨⟨hP, hK1, hD1⟩, hsz1⟩ := hB
  rw [ht] at hP hsz1
  have hC : CP dC dI Q A s.heap p27.2 H1 locs := ⟨hP, hD1.weaken (fun _ _ _ h => hFc _ h), hS, hsz1⟩
  generalize H1 = H at hC ⊢
  have h30 : z9h ≤ CS.hs p27.2 := Nat.le_trans h26 mo28
  refine W.widen (k := CS.hs p27.2 - z9h) (n := 17 * (CS.hs p27.2 - z9h)) (cAcc2 h26 mo28) (cAcc3 h26 mo28) ?_
  obtain rfl : r29 = p27.1 := hw
  refine lv_if_eq (tgt := 133) hx hb dX1_arm_122 (by decide) (fun c31 => ?_) (fun c31 => ?_)
  ·
    replace hf := (if_pos c31).symm.trans hf
    refine lv_aload_n hx hb dX1_arm_133 rfl (lv_at hl 0 rfl) ?_
    obtain ⟨p32, hcp32, hf⟩ := hf_bind hf
    have mo33 : CS.hs p27.2 ≤ CS.hs p32.2 := Mono.go hcp32 (m_X1_expression N E1 E2 hm1 hm2 p27.2)
    have hr9 : CS.hs p32.2 ≤ CS.hs R.2 := Mono.go hf (mono_bind (m_X1_expect N p32.2 59) (fun p36 => (mono_bind (m_X0_add N p36.2 30 x3) (fun p40 => (m_X1_arm_153 N E1 E2 hm1 hm2 p40.2 x5)))))
    have hFc := cFree hC hA
    refine va_callv (va_runU (As := []) (rest := []) ⟨hx, hb, hml, hown, hts⟩ (c_X1_expression l dC dI Q N d E1 E2 hE1 hE2 hm1 hm2 p27.2 p32 hcp32) (va_cwU 0 hts hX1_arm_X1_expression_u89 rfl rfl rfl rfl (by decide +kernel) ⟨(show (12 + 40 * d) + 1 ≤ (23 + 40 * d) by omega), (show 8 + (3 + 11) + 60 * (12 + 40 * d) ≤ 60 * (23 + 40 * d) by omega)⟩) ⟨zPre.blind, va_recv hK hC.1 (ci := 6) (q0 := 3) rfl rfl, cPre_go hZ hK hC⟩ rfl rfl hl.1 rfl (lv_room (Nat.le_of_ble_eq_true rfl)) dX1_arm_134 (cAcc h30 mo33 hr9)) hC.2.2.1 (fun q _ h => hFc q h) hFc (fun u9 t9 H1 locs ht hvm hw hB hz1 hk1 hS => ?_)
    obtain ⟨⟨hP, hK1, hD1⟩, hsz1⟩ := hB
    rw [ht] at hP hsz1
    have hC : CP dC dI Q A s.heap p32.2 H1 locs := ⟨hP, hD1.weaken (fun _ _ _ h => hFc _ h), hS, hsz1⟩
    generalize H1 = H at hC ⊢
    have h35 : z9h ≤ CS.hs p32.2 := Nat.le_trans h30 mo33
    refine W.widen (k := CS.hs p32.2 - z9h) (n := 17 * (CS.hs p32.2 - z9h)) (cAcc2 h30 mo33) (cAcc3 h30 mo33) ?_
    refine lv_aload_n hx hb dX1_arm_137 rfl (lv_at hl 0 rfl) ?_
    refine lv_bipush (v := 59) hx hb dX1_arm_138 (by decide) ?_
    obtain ⟨p36, hcp36, hf⟩ := hf_bind hf
    have mo37 : CS.hs p32.2 ≤ CS.hs p36.2 := Mono.go hcp36 (m_X1_expect N p32.2 59)
    have hr9 : CS.hs p36.2 ≤ CS.hs R.2 := Mono.go hf (mono_bind (m_X0_add N p36.2 30 x3) (fun p40 => (m_X1_arm_153 N E1 E2 hm1 hm2 p40.2 x5)))
    have hFc := cFree hC hA
    refine va_callv (va_runU (As := [.int 59]) (rest := []) ⟨hx, hb, hml, hown, hts⟩ (c_X1_expect l dC dI Q N p32.2 59 p36 hcp36) (va_cwU 1 hts hX1_arm_X1_expect_u133 rfl rfl rfl rfl (by decide +kernel) ⟨(show 4 + 1 ≤ (23 + 40 * d) by omega), (show 8 + (2 + 11) + 60 * 4 ≤ 60 * (23 + 40 * d) by omega)⟩) ⟨zPre.blind, va_recv hK hC.1 (ci := 6) (q0 := 3) rfl rfl, cPre_go hZ hK hC⟩ rfl rfl hl.1 rfl (lv_room (Nat.le_of_ble_eq_true rfl)) dX1_arm_140 (cAcc h35 mo37 hr9)) hC.2.2.1 (fun q _ h => hFc q h) hFc (fun u9 t9 H1 locs ht hvm hw hB hz1 hk1 hS => ?_)
    obtain ⟨⟨hP, hK1, hD1⟩, hsz1⟩ := hB
    rw [ht] at hP hsz1
    have hC : CP dC dI Q A s.heap p36.2 H1 locs := ⟨hP, hD1.weaken (fun _ _ _ h => hFc _ h), hS, hsz1⟩
    generalize H1 = H at hC ⊢
    have h39 : z9h ≤ CS.hs p36.2 := Nat.le_trans h35 mo37
    refine W.widen (k := CS.hs p36.2 - z9h) (n := 17 * (CS.hs p36.2 - z9h)) (cAcc2 h35 mo37) (cAcc3 h35 mo37) ?_
    refine lv_aload_n hx hb dX1_arm_143 rfl (lv_at hl 0 rfl) ?_
    refine cG_29 hx hb hts i_X1_arm_X7 hown hK hC (hts (.fieldLink RX1 22 "StatementRules2$Formulas" "code" "LStatementRules2$Code;") k_X1_arm_fieldLink_RX1_22_SR_Formulas_code_LSR_Code) (fun _ q9 => q9) dX1_arm_144 ?_
    refine lv_bipush (v := 30) hx hb dX1_arm_147 (by decide) ?_
    refine lv_iload_n hx hb dX1_arm_149 rfl (lv_at hl 1 rfl) ?_
    obtain ⟨p40, hcp40, hf⟩ := hf_bind hf
    have mo41 : CS.hs p36.2 ≤ CS.hs p40.2 := Mono.go hcp40 (m_X0_add N p36.2 30 x3)
    have hr9 : CS.hs p40.2 ≤ CS.hs R.2 := Mono.go hf (m_X1_arm_153 N E1 E2 hm1 hm2 p40.2 x5)
    have hFc := cFree hC hA
    refine va_callv (va_runV (As := [.int 30, .int x3]) (rest := []) ⟨hx, hb, hml, hown, hts⟩ (c_X0_add l dC dI Q N p36.2 30 x3 p40 hcp40) (cwV 2 hts hX1_arm_X0_add_v68 rfl rfl rfl (by decide +kernel) ⟨(show 2 + 1 ≤ (23 + 40 * d) by omega), (show 8 + (3 + 11) + 60 * 2 ≤ 60 * (23 + 40 * d) by omega)⟩) ⟨zPre.blind, va_recv hK hC.1 (ci := 0) (q0 := 2) rfl rfl, cPre_go hZ hK hC⟩ rfl rfl hl.1 rfl (lv_room (Nat.le_of_ble_eq_true rfl)) dX1_arm_150 (cAcc h39 mo41 hr9)) hC.2.2.1 (fun q _ h => hFc q h) hFc (fun u9 t9 H1 locs ht hvm hw hB hz1 hk1 hS => ?_)
    obtain ⟨⟨hP, hK1, hD1⟩, hsz1⟩ := hB
    rw [ht] at hP hsz1
    have hC : CP dC dI Q A s.heap p40.2 H1 locs := ⟨hP, hD1.weaken (fun _ _ _ h => hFc _ h), hS, hsz1⟩
    generalize H1 = H at hC ⊢
    have h43 : z9h ≤ CS.hs p40.2 := Nat.le_trans h39 mo41
    refine W.widen (k := CS.hs p40.2 - z9h) (n := 17 * (CS.hs p40.2 - z9h)) (cAcc2 h39 mo41) (cAcc3 h39 mo41) ?_
    exact j_X1_arm_153 l dC dI Q N d E1 E2 hE1 hE2 hm1 hm2 z9h R hx hb hr hml hown hts hlocks hZ hA hK p40.2 x5 _ _ _ hf h43 hC (lv_sub hl [3] rfl)
  ·
    replace hf := (if_neg c31).symm.trans hf
    refine lv_aload_n hx hb dX1_arm_125 rfl (lv_at hl 0 rfl) ?_
    refine lv_iload_n hx hb dX1_arm_126 rfl (lv_at hl 1 rfl) ?_
    obtain ⟨p44, hcp44, hf⟩ := hf_bind hf
    have mo45 : CS.hs p27.2 ≤ CS.hs p44.2 := Mono.go hcp44 (m_X7_armBlock N E1 E2 hm1 hm2 p27.2 x3)
    have hr9 : CS.hs p44.2 ≤ CS.hs R.2 := Mono.go hf (m_X1_arm_153 N E1 E2 hm1 hm2 p44.2 x5)
    have hFc := cFree hC hA
    refine va_callv (va_runU (As := [.int x3]) (rest := []) ⟨hx, hb, hml, hown, hts⟩ (c_X7_armBlock l dC dI Q N d E1 E2 hE1 hE2 hm1 hm2 p27.2 x3 p44 hcp44) (va_cwA 1 hts hX1_arm_X7_armBlock_u136 rfl rfl rfl (hZ.1 (.declares ⟨"StatementRules2$Formulas", "armBlock", "(I)V"⟩) (by decide +kernel)) (by decide +kernel) ⟨(show (22 + 40 * d) + 1 ≤ (23 + 40 * d) by omega), (show 8 + (5 + 11) + 60 * (22 + 40 * d) ≤ 60 * (23 + 40 * d) by omega)⟩) ⟨zPre.blind, va_recv hK hC.1 (ci := 6) (q0 := 3) rfl rfl, cPre_go hZ hK hC⟩ rfl rfl hl.1 rfl (lv_room (Nat.le_of_ble_eq_true rfl)) dX1_arm_127 (cAcc h30 mo45 hr9)) hC.2.2.1 (fun q _ h => hFc q h) hFc (fun u9 t9 H1 locs ht hvm hw hB hz1 hk1 hS => ?_)
    obtain ⟨⟨hP, hK1, hD1⟩, hsz1⟩ := hB
    rw [ht] at hP hsz1
    have hC : CP dC dI Q A s.heap p44.2 H1 locs := ⟨hP, hD1.weaken (fun _ _ _ h => hFc _ h), hS, hsz1⟩
    generalize H1 = H at hC ⊢
    have h47 : z9h ≤ CS.hs p44.2 := Nat.le_trans h30 mo45
    refine W.widen (k := CS.hs p44.2 - z9h) (n := 17 * (CS.hs p44.2 - z9h)) (cAcc2 h30 mo45) (cAcc3 h30 mo45) ?_
    refine lv_goto (tgt := 153) hx hb dX1_arm_130 (by decide) ?_
    exact j_X1_arm_153 l dC dI Q N d E1 E2 hE1 hE2 hm1 hm2 z9h R hx hb hr hml hown hts hlocks hZ hA hK p44.2 x5 _ _ _ hf h47 hC (lv_sub hl [3] rfl)
set_option maxHeartbeats 4000000 in
set_option maxRecDepth 100000 in
theorem j_X1_arm_70 {p : Program} {e : Env} {s : State} {m : MethodId} {args : Array Value} {below : List Frame} {meth : Method} {c : Code} {A : Nat → Prop} (l : Launch) (dC : Nat → ClassId) (dI : Nat → Nat → Nat) (Q : CQ) (N : Nat) (d : Nat) (E1 : CS → Option (Unit × CS)) (E2 : CS → Option (Int32 × CS)) (hE1 : cMF l dC dI Q d E1) (hE2 : cMO l dC dI Q d E2) (hm1 : ∀ σ, Mono (CS.hs σ) (E1 σ)) (hm2 : ∀ σ, Mono (CS.hs σ) (E2 σ)) (z9h : Nat) (R : Int32 × CS) (hx : p.tables.exec = Jvm.exec) (hb : c.code = cX1_arm) (hr : meth.sig.returnType = (some .int)) (hml : c.maxLocals = 7) (hown : s.vm.findClass RX1 = some m.cls) (hts : ∀ w ∈ wzX1_arm, w.before args s = true) (hlocks : meth.locks = false) (hZ : zAMB s) (hA : ∀ q : Nat, s.heap.size ≤ q → A q) (hK : va_K (dC, dI) vwCl (cT Q) s) : ∀ (n9 : Nat), ∀ (σ : CS) (x1 : Int32) (x3 : Int32) (x4 : Int32) (x5 : Int32) (x6 : Int32) (H : Heap) (locs : List Loc) (ls : Array Slot), f_X1_arm_70 N E1 E2 n9 σ x1 x3 x4 x5 x6 = some R → z9h ≤ CS.hs σ → CP dC dI Q A s.heap σ H locs → lv_has ls 7 [(0, .ref (Q.o 3)), (1, .int x1), (3, .int x3), (4, .int x4), (5, .int x5), (6, .int x6)] → W p l e ({ frames := (23 + 40 * d), cells := CS.hs R.2 - z9h, slots := 17 * (CS.hs R.2 - z9h), locals := 60 * (23 + 40 * d) }) s m args below meth c H locs (CS.hs σ - z9h) (17 * (CS.hs σ - z9h)) (MQ below (va_Qi (fun (r : Int32) (_ : Unit) => r = R.1) (fun (_ : Unit) (t : State) => zPost dC dI A (cW Q R.2) (cT Q) t ∧ t.heap.size = CS.hs R.2) A) args s (CS.hs R.2 - z9h) (17 * (CS.hs R.2 - z9h)) A) (F0 m 70 ls []) := by
  intro n9
  induction n9 with
  | zero => intro σ x1 x3 x4 x5 x6 H locs ls hf; exact absurd hf (by intro q9; cases q9)
  | succ n9 ih =>
    intro σ x1 x3 x4 x5 x6 H locs ls hf h0 hC hl
    replace hf : b_X1_arm_70 N E1 E2 (f_X1_arm_70 N E1 E2 n9) σ x1 x3 x4 x5 x6 = some R := hf
    unfold b_X1_arm_70 at hf
    have hMK := fun (σ : CS) (x1 : Int32) (x3 : Int32) (x4 : Int32) (x5 : Int32) (x6 : Int32) => m_X1_arm_70 N E1 E2 hm1 hm2 n9 σ x1 x3 x4 x5 x6
    refine lv_iload hx hb dX1_arm_70 (lv_at hl 5 rfl) ?_
    refine lv_sipush (v := 900) hx hb dX1_arm_72 (by decide) ?_
    refine lv_icmp_ge (tgt := 100) hx hb dX1_arm_75 (by decide) (fun c18 => ?_) (fun c18 => ?_)
    ·
      replace hf := (if_pos c18).symm.trans hf
      exact j_X1_arm_100 l dC dI Q N d E1 E2 hE1 hE2 hm1 hm2 z9h R hx hb hr hml hown hts hlocks hZ hA hK σ x3 x4 x5 _ _ _ hf h0 hC (lv_sub hl [0, 2, 3, 4] rfl)
    ·
      replace hf := (if_neg c18).symm.trans hf
      refine lv_aload_n hx hb dX1_arm_78 rfl (lv_at hl 0 rfl) ?_
      refine lv_bipush (v := 44) hx hb dX1_arm_79 (by decide) ?_
      obtain ⟨p48, hcp48, hf⟩ := hf_bind hf
      have mo49 : CS.hs σ ≤ CS.hs p48.2 := Mono.go hcp48 (m_X1_skip N σ 44)
      have hr9 : CS.hs p48.2 ≤ CS.hs R.2 := Mono.go hf (mono_ite (m_X1_arm_100 N E1 E2 hm1 hm2 p48.2 x3 x4 x5) (mono_bind (m_X1_caseNumber N p48.2 x1 x4) (fun p53 => (hMK p53.2 x1 x3 x4 x5 (x6 + 1)))))
      have hFc := cFree hC hA
      refine va_calli (va_runU (As := [.int 44]) (rest := []) ⟨hx, hb, hml, hown, hts⟩ (c_X1_skip l dC dI Q N σ 44 p48 hcp48) (va_cwU 1 hts hX1_arm_X1_skip_u130 rfl rfl rfl rfl (by decide +kernel) ⟨(show 4 + 1 ≤ (23 + 40 * d) by omega), (show 8 + (3 + 11) + 60 * 4 ≤ 60 * (23 + 40 * d) by omega)⟩) ⟨zPre.blind, va_recv hK hC.1 (ci := 6) (q0 := 3) rfl rfl, cPre_go hZ hK hC⟩ rfl rfl hl.1 rfl (lv_room (Nat.le_of_ble_eq_true rfl)) dX1_arm_81 (cAcc h0 mo49 hr9)) hC.2.2.1 (fun q _ h => hFc q h) hFc (fun r50 u9 t9 H1 locs ht hvm hw hB hz1 hk1 hS => ?_)
      obtain ⟨⟨hP, hK1, hD1⟩, hsz1⟩ := hB
      rw [ht] at hP hsz1
      have hC : CP dC dI Q A s.heap p48.2 H1 locs := ⟨hP, hD1.weaken (fun _ _ _ h => hFc _ h), hS, hsz1⟩
      generalize H1 = H at hC ⊢
      have h51 : z9h ≤ CS.hs p48.2 := Nat.le_trans h0 mo49
      refine W.widen (k := CS.hs p48.2 - z9h) (n := 17 * (CS.hs p48.2 - z9h)) (cAcc2 h0 mo49) (cAcc3 h0 mo49) ?_
      obtain rfl : r50 = p48.1 := hw
      refine lv_if_eq (tgt := 100) hx hb dX1_arm_84 (by decide) (fun c52 => ?_) (fun c52 => ?_)
      ·
        replace hf := (if_pos c52).symm.trans hf
        exact j_X1_arm_100 l dC dI Q N d E1 E2 hE1 hE2 hm1 hm2 z9h R hx hb hr hml hown hts hlocks hZ hA hK p48.2 x3 x4 x5 _ _ _ hf h51 hC (lv_sub hl [0, 2, 3, 4] rfl)
      ·
        replace hf := (if_neg c52).symm.trans hf
        refine lv_aload_n hx hb dX1_arm_87 rfl (lv_at hl 0 rfl) ?_
        refine lv_iload_n hx hb dX1_arm_88 rfl (lv_at hl 1 rfl) ?_
        refine lv_iload hx hb dX1_arm_89 (lv_at hl 3 rfl) ?_
        obtain ⟨p53, hcp53, hf⟩ := hf_bind hf
        have mo54 : CS.hs p48.2 ≤ CS.hs p53.2 := Mono.go hcp53 (m_X1_caseNumber N p48.2 x1 x4)
        have hr9 : CS.hs p53.2 ≤ CS.hs R.2 := Mono.go hf (hMK p53.2 x1 x3 x4 x5 (x6 + 1))
        have hFc := cFree hC hA
        refine va_callv (va_runU (As := [.int x1, .int x4]) (rest := []) ⟨hx, hb, hml, hown, hts⟩ (c_X1_caseNumber l dC dI Q N p48.2 x1 x4 p53 hcp53) (va_cwU 2 hts hX1_arm_X1_caseNumber_u127 rfl rfl rfl rfl (by decide +kernel) ⟨(show 5 + 1 ≤ (23 + 40 * d) by omega), (show 8 + (5 + 11) + 60 * 5 ≤ 60 * (23 + 40 * d) by omega)⟩) ⟨zPre.blind, va_recv hK hC.1 (ci := 6) (q0 := 3) rfl rfl, cPre_go hZ hK hC⟩ rfl rfl hl.1 rfl (lv_room (Nat.le_of_ble_eq_true rfl)) dX1_arm_91 (cAcc h51 mo54 hr9)) hC.2.2.1 (fun q _ h => hFc q h) hFc (fun u9 t9 H1 locs ht hvm hw hB hz1 hk1 hS => ?_)
        obtain ⟨⟨hP, hK1, hD1⟩, hsz1⟩ := hB
        rw [ht] at hP hsz1
        have hC : CP dC dI Q A s.heap p53.2 H1 locs := ⟨hP, hD1.weaken (fun _ _ _ h => hFc _ h), hS, hsz1⟩
        generalize H1 = H at hC ⊢
        have h56 : z9h ≤ CS.hs p53.2 := Nat.le_trans h51 mo54
        refine W.widen (k := CS.hs p53.2 - z9h) (n := 17 * (CS.hs p53.2 - z9h)) (cAcc2 h51 mo54) (cAcc3 h51 mo54) ?_
        refine lv_iinc (v := (x6 + 1)) (lv' := [(6, .int (x6 + 1)), (0, .ref (Q.o 3)), (1, .int x1), (3, .int x3), (4, .int x4), (5, .int x5)]) hx hb dX1_arm_94 hl (k := 5) rfl rfl (by decide) rfl (fun ls hl => ?_)
        refine lv_goto (tgt := 70) hx hb dX1_arm_97 (by decide) ?_
        exact ih p53.2 x1 x3 x4 x5 (x6 + 1) _ _ _ hf h56 hC (lv_sub hl [1, 2, 3, 4, 5, 0] rfl)
set_option maxHeartbeats 4000000 in
set_option maxRecDepth 100000 in
theorem j_X1_arm_39 {p : Program} {e : Env} {s : State} {m : MethodId} {args : Array Value} {below : List Frame} {meth : Method} {c : Code} {A : Nat → Prop} (l : Launch) (dC : Nat → ClassId) (dI : Nat → Nat → Nat) (Q : CQ) (N : Nat) (d : Nat) (E1 : CS → Option (Unit × CS)) (E2 : CS → Option (Int32 × CS)) (hE1 : cMF l dC dI Q d E1) (hE2 : cMO l dC dI Q d E2) (hm1 : ∀ σ, Mono (CS.hs σ) (E1 σ)) (hm2 : ∀ σ, Mono (CS.hs σ) (E2 σ)) (z9h : Nat) (R : Int32 × CS) (hx : p.tables.exec = Jvm.exec) (hb : c.code = cX1_arm) (hr : meth.sig.returnType = (some .int)) (hml : c.maxLocals = 7) (hown : s.vm.findClass RX1 = some m.cls) (hts : ∀ w ∈ wzX1_arm, w.before args s = true) (hlocks : meth.locks = false) (hZ : zAMB s) (hA : ∀ q : Nat, s.heap.size ≤ q → A q) (hK : va_K (dC, dI) vwCl (cT Q) s) : ∀ (σ : CS) (x3 : Int32) (x4 : Int32) (H : Heap) (locs : List Loc) (ls : Array Slot), f_X1_arm_39 N E1 E2 σ x3 x4 = some R → z9h ≤ CS.hs σ → CP dC dI Q A s.heap σ H locs → lv_has ls 7 [(0, .ref (Q.o 3)), (3, .int x3), (4, .int x4)] → W p l e ({ frames := (23 + 40 * d), cells := CS.hs R.2 - z9h, slots := 17 * (CS.hs R.2 - z9h), locals := 60 * (23 + 40 * d) }) s m args below meth c H locs (CS.hs σ - z9h) (17 * (CS.hs σ - z9h)) (MQ below (va_Qi (fun (r : Int32) (_ : Unit) => r = R.1) (fun (_ : Unit) (t : State) => zPost dC dI A (cW Q R.2) (cT Q) t ∧ t.heap.size = CS.hs R.2) A) args s (CS.hs R.2 - z9h) (17 * (CS.hs R.2 - z9h)) A) (F0 m 39 ls []) := by
  intro σ x3 x4 H locs ls hf h0 hC hl
  unfold f_X1_arm_39 at hf
  refine lv_iload hx hb dX1_arm_39 (lv_at hl 2 rfl) ?_
  refine lv_istore (lv' := [(5, .int x4), (0, .ref (Q.o 3)), (3, .int x3), (4, .int x4)]) hx hb dX1_arm_41 hl (by decide) rfl (fun ls hl => ?_)
  refine lv_aload_n hx hb dX1_arm_43 rfl (lv_at hl 1 rfl) ?_
  refine cG_28 hx hb hts i_X1_arm_X7 hown hK hC (hts (.fieldLink RX1 18 "StatementRules2$Formulas" "tokens" "LStatementRules2$Tokens;") k_X1_arm_fieldLink_RX1_18_SR_Formulas_tokens_LSR_Tokens) (fun _ q9 => q9) dX1_arm_44 ?_
  obtain ⟨p58, hcp58, hf⟩ := hf_bind hf
  have mo59 : CS.hs σ ≤ CS.hs p58.2 := Mono.go hcp58 (m_X9_advance N σ)
  have hr9 : CS.hs p58.2 ≤ CS.hs R.2 := Mono.go hf (m_X1_arm_100 N E1 E2 hm1 hm2 p58.2 x3 x4 x4)
  have hFc := cFree hC hA
  refine va_callv (va_runV (As := []) (rest := []) ⟨hx, hb, hml, hown, hts⟩ (c_X9_advance l dC dI Q N σ p58 hcp58) (cwV 0 hts hX1_arm_X9_advance_v56 rfl rfl rfl (by decide +kernel) ⟨(show 3 + 1 ≤ (23 + 40 * d) by omega), (show 8 + (2 + 11) + 60 * 3 ≤ 60 * (23 + 40 * d) by omega)⟩) ⟨zPre.blind, va_recv hK hC.1 (ci := 8) (q0 := 4) rfl rfl, cPre_go hZ hK hC⟩ rfl rfl hl.1 rfl (lv_room (Nat.le_of_ble_eq_true rfl)) dX1_arm_47 (cAcc h0 mo59 hr9)) hC.2.2.1 (fun q _ h => hFc q h) hFc (fun u9 t9 H1 locs ht hvm hw hB hz1 hk1 hS => ?_)
  obtain ⟨⟨hP, hK1, hD1⟩, hsz1⟩ := hB
  rw [ht] at hP hsz1
  have hC : CP dC dI Q A s.heap p58.2 H1 locs := ⟨hP, hD1.weaken (fun _ _ _ h => hFc _ h), hS, hsz1⟩
  generalize H1 = H at hC ⊢
  have h61 : z9h ≤ CS.hs p58.2 := Nat.le_trans h0 mo59
  refine W.widen (k := CS.hs p58.2 - z9h) (n := 17 * (CS.hs p58.2 - z9h)) (cAcc2 h0 mo59) (cAcc3 h0 mo59) ?_
  refine lv_goto (tgt := 100) hx hb dX1_arm_50 (by decide) ?_
  exact j_X1_arm_100 l dC dI Q N d E1 E2 hE1 hE2 hm1 hm2 z9h R hx hb hr hml hown hts hlocks hZ hA hK p58.2 x3 x4 x4 _ _ _ hf h61 hC (lv_sub hl [1, 2, 3, 0] rfl)
set_option maxHeartbeats 4000000 in
set_option maxRecDepth 100000 in
theorem c_X1_arm (l : Launch) (dC : Nat → ClassId) (dI : Nat → Nat → Nat) (Q : CQ) (N : Nat) (d : Nat) (E1 : CS → Option (Unit × CS)) (E2 : CS → Option (Int32 × CS)) (hE1 : cMF l dC dI Q d E1) (hE2 : cMO l dC dI Q d E2) (hm1 : ∀ σ, Mono (CS.hs σ) (E1 σ)) (hm2 : ∀ σ, Mono (CS.hs σ) (E2 σ)) (σ : CS) (x1 : Int32) (x2 : Int32) (x3 : Int32) (R : Int32 × CS) (hf : f_X1_arm N E1 E2 σ x1 x2 x3 = some R) : Met l yX1_arm wzX1_arm ({ frames := (23 + 40 * d), cells := CS.hs R.2 - CS.hs σ, slots := 17 * (CS.hs R.2 - CS.hs σ), locals := 60 * (23 + 40 * d) }) (va_Pc [.ref (Q.o 3), .int x1, .int x2, .int x3] (zPre dC dI (CS.hs σ) (cW Q σ) (cT Q))) (va_Qi (fun (r : Int32) (_ : Unit) => r = R.1) (fun (_ : Unit) (t : State) => zPost dC dI (va_A (cW Q σ) (CS.hs σ)) (cW Q R.2) (cT Q) t ∧ t.heap.size = CS.hs R.2) (va_A (cW Q σ) (CS.hs σ))) (CS.hs R.2 - CS.hs σ) (17 * (CS.hs R.2 - CS.hs σ)) (va_A (cW Q σ) (CS.hs σ)) := by
  refine Met.ofW (cc := cX1_arm) (maxL := 7) (ret := (some .int)) (by decide) rfl ?_
  intro p e s m args below meth c s₁ B hml hv
  obtain ⟨rfl, hsz, hZ, hP, hK, hD0⟩ := hv
  have hx := B.exec
  have hb := B.bytes
  have hr := B.returns
  have hts := atoms_spec (ws := wzX1_arm) B.pre
  have hown : s.vm.findClass RX1 = some m.cls := findClass_of_methodNamed B.named
  have hlocks := B.notSynchronized
  have hD := hD0.self (sz := CS.hs σ)
  generalize hAe : va_A (cW Q σ) (CS.hs σ) = A at hD ⊢
  have hA : ∀ q : Nat, s.heap.size ≤ q → A q := fun q h => by rw [← hAe]; exact Or.inr (hsz ▸ h)
  have hC : CP dC dI Q A s.heap σ s.heap [] := ⟨hP, hD, va_S.rf, hsz⟩
  have h0 : CS.hs σ ≤ CS.hs σ := Nat.le_refl _
  have hl := lv_entry ([.ref (Q.o 3), .int x1, .int x2, .int x3]) (n := 7) (Nat.le_of_ble_eq_true rfl)
  rw [lg_entry_eq]
  generalize (lg_sl ([.ref (Q.o 3), .int x1, .int x2, .int x3]) ++ List.replicate (7 - (lg_sl ([.ref (Q.o 3), .int x1, .int x2, .int x3])).length) Slot.unset).toArray = ls at hl ⊢
  have hl : lv_has ls 7 [(0, .ref (Q.o 3)), (1, .int x1), (2, .int x2), (3, .int x3)] := hl
  unfold f_X1_arm at hf
  refine W.widen (k := CS.hs σ - CS.hs σ) (n := 17 * (CS.hs σ - CS.hs σ)) (Nat.zero_le _) (Nat.zero_le _) ?_
  refine lv_aload_n hx hb dX1_arm_0 rfl (lv_at hl 0 rfl) ?_
  refine cG_29 hx hb hts i_X1_arm_X7 hown hK hC (hts (.fieldLink RX1 22 "StatementRules2$Formulas" "code" "LStatementRules2$Code;") k_X1_arm_fieldLink_RX1_22_SR_Formulas_code_LSR_Code) (fun _ q9 => q9) dX1_arm_1 ?_
  obtain ⟨p1, hcp1, hf⟩ := hf_bind hf
  have mo2 : CS.hs σ ≤ CS.hs p1.2 := Mono.go hcp1 (m_X0_newTarget N σ)
  have hr9 : CS.hs p1.2 ≤ CS.hs R.2 := Mono.go hf (mono_bind (m_X1_found N p1.2 220) (fun p5 => (mono_ite (mono_bind (m_X9_advance N p5.2) (fun p10 => (mono_bind (m_X1_caseNumber N p10.2 x1 p1.1) (fun p14 => (m_X1_arm_70 N E1 E2 hm1 hm2 N p14.2 x1 x3 p1.1 x2 0))))) (mono_ite (m_X1_arm_39 N E1 E2 hm1 hm2 p5.2 x3 p1.1) (mono_bind (m_X1_fail N p5.2 4 (p5.2.i 44)) (fun p62 => (m_X1_arm_39 N E1 E2 hm1 hm2 p62.2 x3 p1.1)))))))
  have hFc := cFree hC hA
  refine va_calli (va_runV (As := []) (rest := []) ⟨hx, hb, hml, hown, hts⟩ (c_X0_newTarget l dC dI Q N σ p1 hcp1) (cwV 0 hts hX1_arm_X0_newTarget_v110 rfl rfl rfl (by decide +kernel) ⟨(show 2 + 1 ≤ (23 + 40 * d) by omega), (show 8 + (1 + 11) + 60 * 2 ≤ 60 * (23 + 40 * d) by omega)⟩) ⟨zPre.blind, va_recv hK hC.1 (ci := 0) (q0 := 2) rfl rfl, cPre_go hZ hK hC⟩ rfl rfl hl.1 rfl (lv_room (Nat.le_of_ble_eq_true rfl)) dX1_arm_4 (cAcc h0 mo2 hr9)) hC.2.2.1 (fun q _ h => hFc q h) hFc (fun r3 u9 t9 H1 locs ht hvm hw hB hz1 hk1 hS => ?_)
  obtain ⟨⟨hP, hK1, hD1⟩, hsz1⟩ := hB
  rw [ht] at hP hsz1
  have hC : CP dC dI Q A s.heap p1.2 H1 locs := ⟨hP, hD1.weaken (fun _ _ _ h => hFc _ h), hS, hsz1⟩
  generalize H1 = H at hC ⊢
  have h4 : (CS.hs σ) ≤ CS.hs p1.2 := Nat.le_trans h0 mo2
  refine W.widen (k := CS.hs p1.2 - (CS.hs σ)) (n := 17 * (CS.hs p1.2 - (CS.hs σ))) (cAcc2 h0 mo2) (cAcc3 h0 mo2) ?_
  obtain rfl : r3 = p1.1 := hw
  refine lv_istore (lv' := [(4, .int p1.1), (0, .ref (Q.o 3)), (1, .int x1), (2, .int x2), (3, .int x3)]) hx hb dX1_arm_7 hl (by decide) rfl (fun ls hl => ?_)
  refine lv_iload_n hx hb dX1_arm_9 rfl (lv_at hl 3 rfl) ?_
  refine lv_istore (lv' := [(5, .int x2), (4, .int p1.1), (0, .ref (Q.o 3)), (1, .int x1), (2, .int x2), (3, .int x3)]) hx hb dX1_arm_10 hl (by decide) rfl (fun ls hl => ?_)
  refine lv_aload_n hx hb dX1_arm_12 rfl (lv_at hl 2 rfl) ?_
  refine lv_sipush (v := 220) hx hb dX1_arm_13 (by decide) ?_
  obtain ⟨p5, hcp5, hf⟩ := hf_bind hf
  have mo6 : CS.hs p1.2 ≤ CS.hs p5.2 := Mono.go hcp5 (m_X1_found N p1.2 220)
  have hr9 : CS.hs p5.2 ≤ CS.hs R.2 := Mono.go hf (mono_ite (mono_bind (m_X9_advance N p5.2) (fun p10 => (mono_bind (m_X1_caseNumber N p10.2 x1 p1.1) (fun p14 => (m_X1_arm_70 N E1 E2 hm1 hm2 N p14.2 x1 x3 p1.1 x2 0))))) (mono_ite (m_X1_arm_39 N E1 E2 hm1 hm2 p5.2 x3 p1.1) (mono_bind (m_X1_fail N p5.2 4 (p5.2.i 44)) (fun p62 => (m_X1_arm_39 N E1 E2 hm1 hm2 p62.2 x3 p1.1)))))
  have hFc := cFree hC hA
  refine va_calli (va_runU (As := [.int 220]) (rest := []) ⟨hx, hb, hml, hown, hts⟩ (c_X1_found l dC dI Q N p1.2 220 p5 hcp5) (va_cwU 1 hts hX1_arm_X1_found_u42 rfl rfl rfl rfl (by decide +kernel) ⟨(show 1 + 1 ≤ (23 + 40 * d) by omega), (show 8 + (2 + 11) + 60 * 1 ≤ 60 * (23 + 40 * d) by omega)⟩) ⟨zPre.blind, va_recv hK hC.1 (ci := 6) (q0 := 3) rfl rfl, cPre_go hZ hK hC⟩ rfl rfl hl.1 rfl (lv_room (Nat.le_of_ble_eq_true rfl)) dX1_arm_16 (cAcc h4 mo6 hr9)) hC.2.2.1 (fun q _ h => hFc q h) hFc (fun r7 u9 t9 H1 locs ht hvm hw hB hz1 hk1 hS => ?_)
  obtain ⟨⟨hP, hK1, hD1⟩, hsz1⟩ := hB
  rw [ht] at hP hsz1
  have hC : CP dC dI Q A s.heap p5.2 H1 locs := ⟨hP, hD1.weaken (fun _ _ _ h => hFc _ h), hS, hsz1⟩
  generalize H1 = H at hC ⊢
  have h8 : (CS.hs σ) ≤ CS.hs p5.2 := Nat.le_trans h4 mo6
  refine W.widen (k := CS.hs p5.2 - (CS.hs σ)) (n := 17 * (CS.hs p5.2 - (CS.hs σ))) (cAcc2 h4 mo6) (cAcc3 h4 mo6) ?_
  obtain rfl : r7 = p5.1 := hw
  refine lv_if_eq (tgt := 53) hx hb dX1_arm_19 (by decide) (fun c9 => ?_) (fun c9 => ?_)
  ·
    replace hf := (if_pos c9).symm.trans hf
    refine lv_aload_n hx hb dX1_arm_53 rfl (lv_at hl 2 rfl) ?_
    refine cG_28 hx hb hts i_X1_arm_X7 hown hK hC (hts (.fieldLink RX1 18 "StatementRules2$Formulas" "tokens" "LStatementRules2$Tokens;") k_X1_arm_fieldLink_RX1_18_SR_Formulas_tokens_LSR_Tokens) (fun _ q9 => q9) dX1_arm_54 ?_
    obtain ⟨p10, hcp10, hf⟩ := hf_bind hf
    have mo11 : CS.hs p5.2 ≤ CS.hs p10.2 := Mono.go hcp10 (m_X9_advance N p5.2)
    have hr9 : CS.hs p10.2 ≤ CS.hs R.2 := Mono.go hf (mono_bind (m_X1_caseNumber N p10.2 x1 p1.1) (fun p14 => (m_X1_arm_70 N E1 E2 hm1 hm2 N p14.2 x1 x3 p1.1 x2 0)))
    have hFc := cFree hC hA
    refine va_callv (va_runV (As := []) (rest := []) ⟨hx, hb, hml, hown, hts⟩ (c_X9_advance l dC dI Q N p5.2 p10 hcp10) (cwV 0 hts hX1_arm_X9_advance_v56 rfl rfl rfl (by decide +kernel) ⟨(show 3 + 1 ≤ (23 + 40 * d) by omega), (show 8 + (2 + 11) + 60 * 3 ≤ 60 * (23 + 40 * d) by omega)⟩) ⟨zPre.blind, va_recv hK hC.1 (ci := 8) (q0 := 4) rfl rfl, cPre_go hZ hK hC⟩ rfl rfl hl.1 rfl (lv_room (Nat.le_of_ble_eq_true rfl)) dX1_arm_57 (cAcc h8 mo11 hr9)) hC.2.2.1 (fun q _ h => hFc q h) hFc (fun u9 t9 H1 locs ht hvm hw hB hz1 hk1 hS => ?_)
    obtain ⟨⟨hP, hK1, hD1⟩, hsz1⟩ := hB
    rw [ht] at hP hsz1
    have hC : CP dC dI Q A s.heap p10.2 H1 locs := ⟨hP, hD1.weaken (fun _ _ _ h => hFc _ h), hS, hsz1⟩
    generalize H1 = H at hC ⊢
    have h13 : (CS.hs σ) ≤ CS.hs p10.2 := Nat.le_trans h8 mo11
    refine W.widen (k := CS.hs p10.2 - (CS.hs σ)) (n := 17 * (CS.hs p10.2 - (CS.hs σ))) (cAcc2 h8 mo11) (cAcc3 h8 mo11) ?_
    refine lv_aload_n hx hb dX1_arm_60 rfl (lv_at hl 2 rfl) ?_
    refine lv_iload_n hx hb dX1_arm_61 rfl (lv_at hl 3 rfl) ?_
    refine lv_iload hx hb dX1_arm_62 (lv_at hl 1 rfl) ?_
    obtain ⟨p14, hcp14, hf⟩ := hf_bind hf
    have mo15 : CS.hs p10.2 ≤ CS.hs p14.2 := Mono.go hcp14 (m_X1_caseNumber N p10.2 x1 p1.1)
    have hr9 : CS.hs p14.2 ≤ CS.hs R.2 := Mono.go hf (m_X1_arm_70 N E1 E2 hm1 hm2 N p14.2 x1 x3 p1.1 x2 0)
    have hFc := cFree hC hA
    refine va_callv (va_runU (As := [.int x1, .int p1.1]) (rest := []) ⟨hx, hb, hml, hown, hts⟩ (c_X1_caseNumber l dC dI Q N p10.2 x1 p1.1 p14 hcp14) (va_cwU 2 hts hX1_arm_X1_caseNumber_u127 rfl rfl rfl rfl (by decide +kernel) ⟨(show 5 + 1 ≤ (23 + 40 * d) by omega), (show 8 + (5 + 11) + 60 * 5 ≤ 60 * (23 + 40 * d) by omega)⟩) ⟨zPre.blind, va_recv hK hC.1 (ci := 6) (q0 := 3) rfl rfl, cPre_go hZ hK hC⟩ rfl rfl hl.1 rfl (lv_room (Nat.le_of_ble_eq_true rfl)) dX1_arm_64 (cAcc h13 mo15 hr9)) hC.2.2.1 (fun q _ h => hFc q h) hFc (fun u9 t9 H1 locs ht hvm hw hB hz1 hk1 hS => ?_)
    obtain ⟨⟨hP, hK1, hD1⟩, hsz1⟩ := hB
    rw [ht] at hP hsz1
    have hC : CP dC dI Q A s.heap p14.2 H1 locs := ⟨hP, hD1.weaken (fun _ _ _ h => hFc _ h), hS, hsz1⟩
    generalize H1 = H at hC ⊢
    have h17 : (CS.hs σ) ≤ CS.hs p14.2 := Nat.le_trans h13 mo15
    refine W.widen (k := CS.hs p14.2 - (CS.hs σ)) (n := 17 * (CS.hs p14.2 - (CS.hs σ))) (cAcc2 h13 mo15) (cAcc3 h13 mo15) ?_
    refine lv_iconst (v := 0) hx hb dX1_arm_67 (by decide) ?_
    refine lv_istore (lv' := [(6, .int 0), (5, .int x2), (4, .int p1.1), (0, .ref (Q.o 3)), (1, .int x1), (2, .int x2), (3, .int x3)]) hx hb dX1_arm_68 hl (by decide) rfl (fun ls hl => ?_)
    exact j_X1_arm_70 l dC dI Q N d E1 E2 hE1 hE2 hm1 hm2 (CS.hs σ) R hx hb hr hml hown hts hlocks hZ hA hK N p14.2 x1 x3 p1.1 x2 0 _ _ _ hf h17 hC (lv_sub hl [3, 4, 6, 2, 1, 0] rfl)
  ·
    replace hf := (if_neg c9).symm.trans hf
    refine lv_iload hx hb dX1_arm_22 (lv_at hl 0 rfl) ?_
    refine lv_if_lt (tgt := 39) hx hb dX1_arm_24 (by decide) (fun c57 => ?_) (fun c57 => ?_)
    ·
      replace hf := (if_pos c57).symm.trans hf
      exact j_X1_arm_39 l dC dI Q N d E1 E2 hE1 hE2 hm1 hm2 (CS.hs σ) R hx hb hr hml hown hts hlocks hZ hA hK p5.2 x3 p1.1 _ _ _ hf h8 hC (lv_sub hl [2, 5, 1] rfl)
    ·
      replace hf := (if_neg c57).symm.trans hf
      refine lv_aload_n hx hb dX1_arm_27 rfl (lv_at hl 2 rfl) ?_
      refine lv_iconst (v := 4) hx hb dX1_arm_28 (by decide) ?_
      refine lv_aload_n hx hb dX1_arm_29 rfl (lv_at hl 2 rfl) ?_
      refine cG_28 hx hb hts i_X1_arm_X7 hown hK hC (hts (.fieldLink RX1 18 "StatementRules2$Formulas" "tokens" "LStatementRules2$Tokens;") k_X1_arm_fieldLink_RX1_18_SR_Formulas_tokens_LSR_Tokens) (fun _ q9 => q9) dX1_arm_30 ?_
      refine cGN_44 (v := (p5.2.i 44)) hx hb hts i_X1_arm_X9 hown hK hC (va_Nw.use rfl (hZ.1 (.fieldLinkNest RX1 46 "StatementRules2$Tokens" "place" "I" "StatementRules2") (by decide +kernel))) (fun _ q9 => q9) dX1_arm_33 rfl ?_
      obtain ⟨p62, hcp62, hf⟩ := hf_bind hf
      have mo63 : CS.hs p5.2 ≤ CS.hs p62.2 := Mono.go hcp62 (m_X1_fail N p5.2 4 (p5.2.i 44))
      have hr9 : CS.hs p62.2 ≤ CS.hs R.2 := Mono.go hf (m_X1_arm_39 N E1 E2 hm1 hm2 p62.2 x3 p1.1)
      have hFc := cFree hC hA
      refine va_callv (va_runU (As := [.int 4, .int (p5.2.i 44)]) (rest := []) ⟨hx, hb, hml, hown, hts⟩ (c_X1_fail l dC dI Q N p5.2 4 (p5.2.i 44) p62 hcp62) (va_cwU 2 hts hX1_arm_X1_fail_u49 rfl rfl rfl rfl (by decide +kernel) ⟨(show 2 + 1 ≤ (23 + 40 * d) by omega), (show 8 + (3 + 11) + 60 * 2 ≤ 60 * (23 + 40 * d) by omega)⟩) ⟨zPre.blind, va_recv hK hC.1 (ci := 6) (q0 := 3) rfl rfl, cPre_go hZ hK hC⟩ rfl rfl hl.1 rfl (lv_room (Nat.le_of_ble_eq_true rfl)) dX1_arm_36 (cAcc h8 mo63 hr9)) hC.2.2.1 (fun q _ h => hFc q h) hFc (fun u9 t9 H1 locs ht hvm hw hB hz1 hk1 hS => ?_)
      obtain ⟨⟨hP, hK1, hD1⟩, hsz1⟩ := hB
      rw [ht] at hP hsz1
      have hC : CP dC dI Q A s.heap p62.2 H1 locs := ⟨hP, hD1.weaken (fun _ _ _ h => hFc _ h), hS, hsz1⟩
      generalize H1 = H at hC ⊢
      have h65 : (CS.hs σ) ≤ CS.hs p62.2 := Nat.le_trans h8 mo63
      refine W.widen (k := CS.hs p62.2 - (CS.hs σ)) (n := 17 * (CS.hs p62.2 - (CS.hs σ))) (cAcc2 h8 mo63) (cAcc3 h8 mo63) ?_
      exact j_X1_arm_39 l dC dI Q N d E1 E2 hE1 hE2 hm1 hm2 (CS.hs σ) R hx hb hr hml hown hts hlocks hZ hA hK p62.2 x3 p1.1 _ _ _ hf h65 hC (lv_sub hl [2, 5, 1] rfl)
theorem k_X1_choice_fieldLink_RX1_18_SR_Formulas_tokens_LSR_Tokens : Cond.fieldLink RX1 18 "StatementRules2$Formulas" "tokens" "LStatementRules2$Tokens;" ∈ wzX1_choice := List.mem_cons_of_mem _ (List.mem_append_right _ (List.mem_append_right _ (List.mem_append_left _ (List.mem_of_getElem? (i := 0) rfl))))
theorem i_X1_choice_X7 : ∀ w ∈ wsX70, w ∈ wzX1_choice := fun _ h => List.mem_cons_of_mem _ (List.mem_append_right _ (List.mem_append_right _ (List.mem_append_right _ (List.mem_append_right _ (List.mem_append_right _ (List.mem_append_right _ (List.mem_append_right _ (List.mem_append_right _ (List.mem_append_right _ (List.mem_append_right _ (List.mem_append_right _ (List.mem_append_right _ (List.mem_append_right _ (List.mem_append_right _ (List.mem_append_right _ (List.mem_append_right _ (List.mem_append_right _ (List.mem_append_right _ (List.mem_append_right _ (List.mem_append_right _ (List.mem_append_right _ (List.mem_append_right _ (List.mem_append_right _ (List.mem_append_right _ (List.mem_append_right _ (List.mem_append_right _ (List.mem_append_right _ (List.mem_append_right _ (List.mem_append_right _ (List.mem_append_right _ (List.mem_append_right _ (List.mem_append_right _ (List.mem_append_right _ (List.mem_append_right _ (List.mem_append_right _ (List.mem_append_right _ (List.mem_append_left _ (h))))))))))))))))))))))))))))))))))))))
theorem k_X1_choice_fieldLink_RX1_22_SR_Formulas_code_LSR_Code : Cond.fieldLink RX1 22 "StatementRules2$Formulas" "code" "LStatementRules2$Code;" ∈ wzX1_choice := List.mem_cons_of_mem _ (List.mem_append_right _ (List.mem_append_right _ (List.mem_append_left _ (List.mem_of_getElem? (i := 1) rfl))))
theorem i_X1_choice_X0 : ∀ w ∈ wsX00, w ∈ wzX1_choice := fun _ h => List.mem_cons_of_mem _ (List.mem_append_right _ (List.mem_append_right _ (List.mem_append_right _ (List.mem_append_right _ (List.mem_append_right _ (List.mem_append_right _ (List.mem_append_right _ (List.mem_append_right _ (List.mem_append_right _ (List.mem_append_right _ (List.mem_append_right _ (List.mem_append_right _ (List.mem_append_right _ (List.mem_append_right _ (List.mem_append_right _ (List.mem_append_right _ (List.mem_append_right _ (List.mem_append_right _ (List.mem_append_right _ (List.mem_append_right _ (List.mem_append_right _ (List.mem_append_right _ (List.mem_append_right _ (List.mem_append_right _ (List.mem_append_right _ (List.mem_append_right _ (List.mem_append_right _ (List.mem_append_right _ (List.mem_append_right _ (List.mem_append_right _ (List.mem_append_right _ (List.mem_append_right _ (List.mem_append_right _ (List.mem_append_right _ (List.mem_append_right _ (List.mem_append_right _ (List.mem_append_right _ (List.mem_append_right _ (List.mem_append_left _ (h))))))))))))))))))))))))))))))))))))))))
set_option maxHeartbeats 4000000 in
set_option maxRecDepth 100000 in
theorem j_X1_choice_122 {p : Program} {e : Env} {s : State} {m : MethodId} {args : Array Value} {below : List Frame} {meth : Method} {c : Code} {A : Nat → Prop} (l : Launch) (dC : Nat → ClassId) (dI : Nat → Nat → Nat) (Q : CQ) (N : Nat) (d : Nat) (E1 : CS → Option (Unit × CS)) (E2 : CS → Option (Int32 × CS)) (hE1 : cMF l dC dI Q d E1) (hE2 : cMO l dC dI Q d E2) (hm1 : ∀ σ, Mono (CS.hs σ) (E1 σ)) (hm2 : ∀ σ, Mono (CS.hs σ) (E2 σ)) (z9h : Nat) (R : Unit × CS) (hx : p.tables.exec = Jvm.exec) (hb : c.code = cX1_choice) (hr : meth.sig.returnType = none) (hml : c.maxLocals = 6) (hown : s.vm.findClass RX1 = some m.cls) (hts : ∀ w ∈ wzX1_choice, w.before args s = true) (hlocks : meth.locks = false) (hZ : zAMB s) (hA : ∀ q : Nat, s.heap.size ≤ q → A q) (hK : va_K (dC, dI) vwCl (cT Q) s) : ∀ (σ : CS) (x1 : Int32) (x2 : Int32) (x3 : Int32) (x4 : Int32) (H : Heap) (locs : List Loc) (ls : Array Slot), f_X1_choice_122 N E1 E2 σ x1 x2 x3 x4 = some R → z9h ≤ CS.hs σ → CP dC dI Q A s.heap σ H locs → lv_has ls 6 [(0, .ref (Q.o 3)), (1, .int x1), (2, .int x2), (3, .int x3), (4, .int x4)] → W p l e ({ frames := (24 + 40 * d), cells := CS.hs R.2 - z9h, slots := 17 * (CS.hs R.2 - z9h), locals := 60 * (24 + 40 * d) }) s m args below meth c H locs (CS.hs σ - z9h) (17 * (CS.hs σ - z9h)) (MQ below (va_Qv (fun (_ : Unit) => True) (fun (_ : Unit) (t : State) => zPost dC dI A (cW Q R.2) (cT Q) t ∧ t.heap.size = CS.hs R.2) A) args s (CS.hs R.2 - z9h) (17 * (CS.hs R.2 - z9h)) A) (F0 m 122 ls []) := by
  intro σ x1 x2 x3 x4 H locs ls hf h0 hC hl
  unfold f_X1_choice_122 at hf
  refine lv_aload_n hx hb dX1_choice_122 rfl (lv_at hl 0 rfl) ?_
  refine lv_bipush (v := 125) hx hb dX1_choice_123 (by decide) ?_
  obtain ⟨p35, hcp35, hf⟩ := hf_bind hf
  have mo36 : CS.hs σ ≤ CS.hs p35.2 := Mono.go hcp35 (m_X1_close N σ 125)
  have hr9 : CS.hs p35.2 ≤ CS.hs R.2 := Mono.go hf (mono_bind (m_X0_aim N p35.2 x1) (fun p39 => (mono_bind (m_X0_addCases N p39.2 x3 x4) (fun p43 => (mono_bind (m_X0_aim N p43.2 x2) (fun p47 => (mono_some (Nat.le_refl _))))))))
  have hFc := cFree hC hA
  refine va_callv (va_runU (As := [.int 125]) (rest := []) ⟨hx, hb, hml, hown, hts⟩ (c_X1_close l dC dI Q N σ 125 p35 hcp35) (va_cwU 1 hts hX1_choice_X1_close_u92 rfl rfl rfl rfl (by decide +kernel) ⟨(show 4 + 1 ≤ (24 + 40 * d) by omega), (show 8 + (2 + 11) + 60 * 4 ≤ 60 * (24 + 40 * d) by omega)⟩) ⟨zPre.blind, va_recv hK hC.1 (ci := 6) (q0 := 3) rfl rfl, cPre_go hZ hK hC⟩ rfl rfl hl.1 rfl (lv_room (Nat.le_of_ble_eq_true rfl)) dX1_choice_125 (cAcc h0 mo36 hr9)) hC.2.2.1 (fun q _ h => hFc q h) hFc (fun u9 t9 H1 locs ht hvm hw hB hz1 hk1 hS => ?_)
  obtain ⟨⟨hP, hK1, hD1⟩, hsz1⟩ := hB
  rw [ht] at hP hsz1
  have hC : CP dC dI Q A s.heap p35.2 H1 locs := ⟨hP, hD1.weaken (fun _ _ _ h => hFc _ h), hS, hsz1⟩
  generalize H1 = H at hC ⊢
  have h38 : z9h ≤ CS.hs p35.2 := Nat.le_trans h0 mo36
  refine W.widen (k := CS.hs p35.2 - z9h) (n := 17 * (CS.hs p35.2 - z9h)) (cAcc2 h0 mo36) (cAcc3 h0 mo36) ?_
  refine lv_aload_n hx hb dX1_choice_128 rfl (lv_at hl 0 rfl) ?_
  refine cG_29 hx hb hts i_X1_choice_X7 hown hK hC (hts (.fieldLink RX1 22 "StatementRules2$Formulas" "code" "LStatementRules2$Code;") k_X1_choice_fieldLink_RX1_22_SR_Formulas_code_LSR_Code) (fun _ q9 => q9) dX1_choice_129 ?_
  refine lv_iload_n hx hb dX1_choice_132 rfl (lv_at hl 1 rfl) ?_
  obtain ⟨p39, hcp39, hf⟩ := hf_bind hf
  have mo40 : CS.hs p35.2 ≤ CS.hs p39.2 := Mono.go hcp39 (m_X0_aim N p35.2 x1)
  have hr9 : CS.hs p39.2 ≤ CS.hs R.2 := Mono.go hf (mono_bind (m_X0_addCases N p39.2 x3 x4) (fun p43 => (mono_bind (m_X0_aim N p43.2 x2) (fun p47 => (mono_some (Nat.le_refl _))))))
  have hFc := cFree hC hA
  refine va_callv (va_runV (As := [.int x1]) (rest := []) ⟨hx, hb, hml, hown, hts⟩ (c_X0_aim l dC dI Q N p35.2 x1 p39 hcp39) (cwV 1 hts hX1_choice_X0_aim_v121 rfl rfl rfl (by decide +kernel) ⟨(show 2 + 1 ≤ (24 + 40 * d) by omega), (show 8 + (2 + 11) + 60 * 2 ≤ 60 * (24 + 40 * d) by omega)⟩) ⟨zPre.blind, va_recv hK hC.1 (ci := 0) (q0 := 2) rfl rfl, cPre_go hZ hK hC⟩ rfl rfl hl.1 rfl (lv_room (Nat.le_of_ble_eq_true rfl)) dX1_choice_133 (cAcc h38 mo40 hr9)) hC.2.2.1 (fun q _ h => hFc q h) hFc (fun u9 t9 H1 locs ht hvm hw hB hz1 hk1 hS => ?_)
  obtain ⟨⟨hP, hK1, hD1⟩, hsz1⟩ := hB
  rw [ht] at hP hsz1
  have hC : CP dC dI Q A s.heap p39.2 H1 locs := ⟨hP, hD1.weaken (fun _ _ _ h => hFc _ h), hS, hsz1⟩
  generalize H1 = H at hC ⊢
  have h42 : z9h ≤ CS.hs p39.2 := Nat.le_trans h38 mo40
  refine W.widen (k := CS.hs p39.2 - z9h) (n := 17 * (CS.hs p39.2 - z9h)) (cAcc2 h38 mo40) (cAcc3 h38 mo40) ?_
  refine lv_aload_n hx hb dX1_choice_136 rfl (lv_at hl 0 rfl) ?_
  refine cG_29 hx hb hts i_X1_choice_X7 hown hK hC (hts (.fieldLink RX1 22 "StatementRules2$Formulas" "code" "LStatementRules2$Code;") k_X1_choice_fieldLink_RX1_22_SR_Formulas_code_LSR_Code) (fun _ q9 => q9) dX1_choice_137 ?_
  refine lv_iload_n hx hb dX1_choice_140 rfl (lv_at hl 3 rfl) ?_
  refine lv_iload hx hb dX1_choice_141 (lv_at hl 4 rfl) ?_
  obtain ⟨p43, hcp43, hf⟩ := hf_bind hf
  have mo44 : CS.hs p39.2 ≤ CS.hs p43.2 := Mono.go hcp43 (m_X0_addCases N p39.2 x3 x4)
  have hr9 : CS.hs p43.2 ≤ CS.hs R.2 := Mono.go hf (mono_bind (m_X0_aim N p43.2 x2) (fun p47 => (mono_some (Nat.le_refl _))))
  have hFc := cFree hC hA
  refine va_callv (va_runV (As := [.int x3, .int x4]) (rest := []) ⟨hx, hb, hml, hown, hts⟩ (c_X0_addCases l dC dI Q N p39.2 x3 x4 p43 hcp43) (cwV 2 hts hX1_choice_X0_addCases_v124 rfl rfl rfl (by decide +kernel) ⟨(show 3 + 1 ≤ (24 + 40 * d) by omega), (show 8 + (4 + 11) + 60 * 3 ≤ 60 * (24 + 40 * d) by omega)⟩) ⟨zPre.blind, va_recv hK hC.1 (ci := 0) (q0 := 2) rfl rfl, cPre_go hZ hK hC⟩ rfl rfl hl.1 rfl (lv_room (Nat.le_of_ble_eq_true rfl)) dX1_choice_143 (cAcc h42 mo44 hr9)) hC.2.2.1 (fun q _ h => hFc q h) hFc (fun u9 t9 H1 locs ht hvm hw hB hz1 hk1 hS => ?_)
  obtain ⟨⟨hP, hK1, hD1⟩, hsz1⟩ := hB
  rw [ht] at hP hsz1
  have hC : CP dC dI Q A s.heap p43.2 H1 locs := ⟨hP, hD1.weaken (fun _ _ _ h => hFc _ h), hS, hsz1⟩
  generalize H1 = H at hC ⊢
  have h46 : z9h ≤ CS.hs p43.2 := Nat.le_trans h42 mo44
  refine W.widen (k := CS.hs p43.2 - z9h) (n := 17 * (CS.hs p43.2 - z9h)) (cAcc2 h42 mo44) (cAcc3 h42 mo44) ?_
  refine lv_aload_n hx hb dX1_choice_146 rfl (lv_at hl 0 rfl) ?_
  refine cG_29 hx hb hts i_X1_choice_X7 hown hK hC (hts (.fieldLink RX1 22 "StatementRules2$Formulas" "code" "LStatementRules2$Code;") k_X1_choice_fieldLink_RX1_22_SR_Formulas_code_LSR_Code) (fun _ q9 => q9) dX1_choice_147 ?_
  refine lv_iload_n hx hb dX1_choice_150 rfl (lv_at hl 2 rfl) ?_
  obtain ⟨p47, hcp47, hf⟩ := hf_bind hf
  have mo48 : CS.hs p43.2 ≤ CS.hs p47.2 := Mono.go hcp47 (m_X0_aim N p43.2 x2)
  have hr9 : CS.hs p47.2 ≤ CS.hs R.2 := Mono.go hf (mono_some (Nat.le_refl _))
  have hFc := cFree hC hA
  refine va_callv (va_runV (As := [.int x2]) (rest := []) ⟨hx, hb, hml, hown, hts⟩ (c_X0_aim l dC dI Q N p43.2 x2 p47 hcp47) (cwV 1 hts hX1_choice_X0_aim_v121 rfl rfl rfl (by decide +kernel) ⟨(show 2 + 1 ≤ (24 + 40 * d) by omega), (show 8 + (2 + 11) + 60 * 2 ≤ 60 * (24 + 40 * d) by omega)⟩) ⟨zPre.blind, va_recv hK hC.1 (ci := 0) (q0 := 2) rfl rfl, cPre_go hZ hK hC⟩ rfl rfl hl.1 rfl (lv_room (Nat.le_of_ble_eq_true rfl)) dX1_choice_151 (cAcc h46 mo48 hr9)) hC.2.2.1 (fun q _ h => hFc q h) hFc (fun u9 t9 H1 locs ht hvm hw hB hz1 hk1 hS => ?_)
  obtain ⟨⟨hP, hK1, hD1⟩, hsz1⟩ := hB
  rw [ht] at hP hsz1
  have hC : CP dC dI Q A s.heap p47.2 H1 locs := ⟨hP, hD1.weaken (fun _ _ _ h => hFc _ h), hS, hsz1⟩
  generalize H1 = H at hC ⊢
  have h50 : z9h ≤ CS.hs p47.2 := Nat.le_trans h46 mo48
  refine W.widen (k := CS.hs p47.2 - z9h) (n := 17 * (CS.hs p47.2 - z9h)) (cAcc2 h46 mo48) (cAcc3 h46 mo48) ?_
  obtain rfl := Option.some.inj hf
  exact W.vret hx hb hr (fun t ht hW => ⟨⟨(), rfl, trivial, ⟨by rw [ht]; exact hC.1, va_K.moved hW.alike hK, hC.2.1⟩, by rw [ht]; exact hC.2.2.2⟩, hC.2.2.1.F ht⟩) hC.2.2.1.2.2 dX1_choice_154
set_option maxHeartbeats 4000000 in
set_option maxRecDepth 100000 in
theorem j_X1_choice_113 {p : Program} {e : Env} {s : State} {m : MethodId} {args : Array Value} {below : List Frame} {meth : Method} {c : Code} {A : Nat → Prop} (l : Launch) (dC : Nat → ClassId) (dI : Nat → Nat → Nat) (Q : CQ) (N : Nat) (d : Nat) (E1 : CS → Option (Unit × CS)) (E2 : CS → Option (Int32 × CS)) (hE1 : cMF l dC dI Q d E1) (hE2 : cMO l dC dI Q d E2) (hm1 : ∀ σ, Mono (CS.hs σ) (E1 σ)) (hm2 : ∀ σ, Mono (CS.hs σ) (E2 σ)) (z9h : Nat) (R : Unit × CS) (hx : p.tables.exec = Jvm.exec) (hb : c.code = cX1_choice) (hr : meth.sig.returnType = none) (hml : c.maxLocals = 6) (hown : s.vm.findClass RX1 = some m.cls) (hts : ∀ w ∈ wzX1_choice, w.before args s = true) (hlocks : meth.locks = false) (hZ : zAMB s) (hA : ∀ q : Nat, s.heap.size ≤ q → A q) (hK : va_K (dC, dI) vwCl (cT Q) s) : ∀ (σ : CS) (x1 : Int32) (x2 : Int32) (x3 : Int32) (x4 : Int32) (H : Heap) (locs : List Loc) (ls : Array Slot), f_X1_choice_113 N E1 E2 σ x1 x2 x3 x4 = some R → z9h ≤ CS.hs σ → CP dC dI Q A s.heap σ H locs → lv_has ls 6 [(0, .ref (Q.o 3)), (1, .int x1), (2, .int x2), (3, .int x3), (4, .int x4)] → W p l e ({ frames := (24 + 40 * d), cells := CS.hs R.2 - z9h, slots := 17 * (CS.hs R.2 - z9h), locals := 60 * (24 + 40 * d) }) s m args below meth c H locs (CS.hs σ - z9h) (17 * (CS.hs σ - z9h)) (MQ below (va_Qv (fun (_ : Unit) => True) (fun (_ : Unit) (t : State) => zPost dC dI A (cW Q R.2) (cT Q) t ∧ t.heap.size = CS.hs R.2) A) args s (CS.hs R.2 - z9h) (17 * (CS.hs R.2 - z9h)) A) (F0 m 113 ls []) := by
  intro σ x1 x2 x3 x4 H locs ls hf h0 hC hl
  unfold f_X1_choice_113 at hf
  refine lv_iload hx hb dX1_choice_113 (lv_at hl 4 rfl) ?_
  refine lv_if_ge (tgt := 122) hx hb dX1_choice_115 (by decide) (fun c34 => ?_) (fun c34 => ?_)
  ·
    replace hf := (if_pos c34).symm.trans hf
    exact j_X1_choice_122 l dC dI Q N d E1 E2 hE1 hE2 hm1 hm2 z9h R hx hb hr hml hown hts hlocks hZ hA hK σ x1 x2 x3 x4 _ _ _ hf h0 hC (lv_sub hl [0, 1, 2, 3, 4] rfl)
  ·
    replace hf := (if_neg c34).symm.trans hf
    refine lv_aload_n hx hb dX1_choice_118 rfl (lv_at hl 0 rfl) ?_
    obtain ⟨p51, hcp51, hf⟩ := hf_bind hf
    have mo52 : CS.hs σ ≤ CS.hs p51.2 := Mono.go hcp51 (m_X1_misplaced N σ)
    have hr9 : CS.hs p51.2 ≤ CS.hs R.2 := Mono.go hf (m_X1_choice_122 N E1 E2 hm1 hm2 p51.2 x1 x2 x3 x4)
    have hFc := cFree hC hA
    refine va_callv (va_runU (As := []) (rest := []) ⟨hx, hb, hml, hown, hts⟩ (c_X1_misplaced l dC dI Q N σ p51 hcp51) (va_cwU 0 hts hX1_choice_X1_misplaced_u59 rfl rfl rfl rfl (by decide +kernel) ⟨(show 3 + 1 ≤ (24 + 40 * d) by omega), (show 8 + (1 + 11) + 60 * 3 ≤ 60 * (24 + 40 * d) by omega)⟩) ⟨zPre.blind, va_recv hK hC.1 (ci := 6) (q0 := 3) rfl rfl, cPre_go hZ hK hC⟩ rfl rfl hl.1 rfl (lv_room (Nat.le_of_ble_eq_true rfl)) dX1_choice_119 (cAcc h0 mo52 hr9)) hC.2.2.1 (fun q _ h => hFc q h) hFc (fun u9 t9 H1 locs ht hvm hw hB hz1 hk1 hS => ?_)
    obtain ⟨⟨hP, hK1, hD1⟩, hsz1⟩ := hB
    rw [ht] at hP hsz1
    have hC : CP dC dI Q A s.heap p51.2 H1 locs := ⟨hP, hD1.weaken (fun _ _ _ h => hFc _ h), hS, hsz1⟩
    generalize H1 = H at hC ⊢
    have h54 : z9h ≤ CS.hs p51.2 := Nat.le_trans h0 mo52
    refine W.widen (k := CS.hs p51.2 - z9h) (n := 17 * (CS.hs p51.2 - z9h)) (cAcc2 h0 mo52) (cAcc3 h0 mo52) ?_
    exact j_X1_choice_122 l dC dI Q N d E1 E2 hE1 hE2 hm1 hm2 z9h R hx hb hr hml hown hts hlocks hZ hA hK p51.2 x1 x2 x3 x4 _ _ _ hf h54 hC (lv_sub hl [0, 1, 2, 3, 4] rfl)
set_option maxHeartbeats 4000000 in
set_option maxRecDepth 100000 in
theorem j_X1_choice_69 {p : Program} {e : Env} {s : State} {m : MethodId} {args : Array Value} {below : List Frame} {meth : Method} {c : Code} {A : Nat → Prop} (l : Launch) (dC : Nat → ClassId) (dI : Nat → Nat → Nat) (Q : CQ) (N : Nat) (d : Nat) (E1 : CS → Option (Unit × CS)) (E2 : CS → Option (Int32 × CS)) (hE1 : cMF l dC dI Q d E1) (hE2 : cMO l dC dI Q d E2) (hm1 : ∀ σ, Mono (CS.hs σ) (E1 σ)) (hm2 : ∀ σ, Mono (CS.hs σ) (E2 σ)) (z9h : Nat) (R : Unit × CS) (hx : p.tables.exec = Jvm.exec) (hb : c.code = cX1_choice) (hr : meth.sig.returnType = none) (hml : c.maxLocals = 6) (hown : s.vm.findClass RX1 = some m.cls) (hts : ∀ w ∈ wzX1_choice, w.before args s = true) (hlocks : meth.locks = false) (hZ : zAMB s) (hA : ∀ q : Nat, s.heap.size ≤ q → A q) (hK : va_K (dC, dI) vwCl (cT Q) s) : ∀ (n9 : Nat), ∀ (σ : CS) (x1 : Int32) (x2 : Int32) (x3 : Int32) (x4 : Int32) (x5 : Int32) (H : Heap) (locs : List Loc) (ls : Array Slot), f_X1_choice_69 N E1 E2 n9 σ x1 x2 x3 x4 x5 = some R → z9h ≤ CS.hs σ → CP dC dI Q A s.heap σ H locs → lv_has ls 6 [(0, .ref (Q.o 3)), (1, .int x1), (2, .int x2), (3, .int x3), (4, .int x4), (5, .int x5)] → W p l e ({ frames := (24 + 40 * d), cells := CS.hs R.2 - z9h, slots := 17 * (CS.hs R.2 - z9h), locals := 60 * (24 + 40 * d) }) s m args below meth c H locs (CS.hs σ - z9h) (17 * (CS.hs σ - z9h)) (MQ below (va_Qv (fun (_ : Unit) => True) (fun (_ : Unit) (t : State) => zPost dC dI A (cW Q R.2) (cT Q) t ∧ t.heap.size = CS.hs R.2) A) args s (CS.hs R.2 - z9h) (17 * (CS.hs R.2 - z9h)) A) (F0 m 69 ls []) := by
  intro n9
  induction n9 with
  | zero => intro σ x1 x2 x3 x4 x5 H locs ls hf; exact absurd hf (by intro q9; cases q9)
  | succ n9 ih =>
    intro σ x1 x2 x3 x4 x5 H locs ls hf h0 hC hl
    replace hf : b_X1_choice_69 N E1 E2 (f_X1_choice_69 N E1 E2 n9) σ x1 x2 x3 x4 x5 = some R := hf
    unfold b_X1_choice_69 at hf
    have hMK := fun (σ : CS) (x1 : Int32) (x2 : Int32) (x3 : Int32) (x4 : Int32) (x5 : Int32) => m_X1_choice_69 N E1 E2 hm1 hm2 n9 σ x1 x2 x3 x4 x5
    refine lv_iload hx hb dX1_choice_69 (lv_at hl 5 rfl) ?_
    refine lv_sipush (v := 900) hx hb dX1_choice_71 (by decide) ?_
    refine lv_icmp_ge (tgt := 113) hx hb dX1_choice_74 (by decide) (fun c33 => ?_) (fun c33 => ?_)
    ·
      replace hf := (if_pos c33).symm.trans hf
      exact j_X1_choice_113 l dC dI Q N d E1 E2 hE1 hE2 hm1 hm2 z9h R hx hb hr hml hown hts hlocks hZ hA hK σ x1 x2 x3 x4 _ _ _ hf h0 hC (lv_sub hl [0, 1, 2, 3, 4] rfl)
    ·
      replace hf := (if_neg c33).symm.trans hf
      refine lv_aload_n hx hb dX1_choice_77 rfl (lv_at hl 0 rfl) ?_
      refine lv_sipush (v := 219) hx hb dX1_choice_78 (by decide) ?_
      obtain ⟨p55, hcp55, hf⟩ := hf_bind hf
      have mo56 : CS.hs σ ≤ CS.hs p55.2 := Mono.go hcp55 (m_X1_found N σ 219)
      have hr9 : CS.hs p55.2 ≤ CS.hs R.2 := Mono.go hf (mono_ite (mono_bind (m_X1_found N p55.2 220) (fun p64 => (mono_ite (m_X1_choice_113 N E1 E2 hm1 hm2 p64.2 x1 x2 x3 x4) (mono_bind (m_X1_arm N E1 E2 hm1 hm2 p64.2 x3 x4 x2) (fun p69 => (hMK p69.2 x1 x2 x3 p69.1 (x5 + 1))))))) (mono_bind (m_X1_arm N E1 E2 hm1 hm2 p55.2 x3 x4 x2) (fun p60 => (hMK p60.2 x1 x2 x3 p60.1 (x5 + 1)))))
      have hFc := cFree hC hA
      refine va_calli (va_runU (As := [.int 219]) (rest := []) ⟨hx, hb, hml, hown, hts⟩ (c_X1_found l dC dI Q N σ 219 p55 hcp55) (va_cwU 1 hts hX1_choice_X1_found_u42 rfl rfl rfl rfl (by decide +kernel) ⟨(show 1 + 1 ≤ (24 + 40 * d) by omega), (show 8 + (2 + 11) + 60 * 1 ≤ 60 * (24 + 40 * d) by omega)⟩) ⟨zPre.blind, va_recv hK hC.1 (ci := 6) (q0 := 3) rfl rfl, cPre_go hZ hK hC⟩ rfl rfl hl.1 rfl (lv_room (Nat.le_of_ble_eq_true rfl)) dX1_choice_81 (cAcc h0 mo56 hr9)) hC.2.2.1 (fun q _ h => hFc q h) hFc (fun r57 u9 t9 H1 locs ht hvm hw hB hz1 hk1 hS => ?_)
      obtain ⟨⟨hP, hK1, hD1⟩, hsz1⟩ := hB
      rw [ht] at hP hsz1
      have hC : CP dC dI Q A s.heap p55.2 H1 locs := ⟨hP, hD1.weaken (fun _ _ _ h => hFc _ h), hS, hsz1⟩
      generalize H1 = H at hC ⊢
      have h58 : z9h ≤ CS.hs p55.2 := Nat.le_trans h0 mo56
      refine W.widen (k := CS.hs p55.2 - z9h) (n := 17 * (CS.hs p55.2 - z9h)) (cAcc2 h0 mo56) (cAcc3 h0 mo56) ?_
      obtain rfl : r57 = p55.1 := hw
      refine lv_if_ne (tgt := 97) hx hb dX1_choice_84 (by decide) (fun c59 => ?_) (fun c59 => ?_)
      ·
        replace hf := (if_neg c59).symm.trans hf
        refine lv_aload_n hx hb dX1_choice_97 rfl (lv_at hl 0 rfl) ?_
        refine lv_iload_n hx hb dX1_choice_98 rfl (lv_at hl 3 rfl) ?_
        refine lv_iload hx hb dX1_choice_99 (lv_at hl 4 rfl) ?_
        refine lv_iload_n hx hb dX1_choice_101 rfl (lv_at hl 2 rfl) ?_
        obtain ⟨p60, hcp60, hf⟩ := hf_bind hf
        have mo61 : CS.hs p55.2 ≤ CS.hs p60.2 := Mono.go hcp60 (m_X1_arm N E1 E2 hm1 hm2 p55.2 x3 x4 x2)
        have hr9 : CS.hs p60.2 ≤ CS.hs R.2 := Mono.go hf (hMK p60.2 x1 x2 x3 p60.1 (x5 + 1))
        have hFc := cFree hC hA
        refine va_calli (va_runU (As := [.int x3, .int x4, .int x2]) (rest := []) ⟨hx, hb, hml, hown, hts⟩ (c_X1_arm l dC dI Q N d E1 E2 hE1 hE2 hm1 hm2 p55.2 x3 x4 x2 p60 hcp60) (va_cwU 3 hts hX1_choice_X1_arm_u117 rfl rfl rfl rfl (by decide +kernel) ⟨(show (23 + 40 * d) + 1 ≤ (24 + 40 * d) by omega), (show 8 + (7 + 11) + 60 * (23 + 40 * d) ≤ 60 * (24 + 40 * d) by omega)⟩) ⟨zPre.blind, va_recv hK hC.1 (ci := 6) (q0 := 3) rfl rfl, cPre_go hZ hK hC⟩ rfl rfl hl.1 rfl (lv_room (Nat.le_of_ble_eq_true rfl)) dX1_choice_102 (cAcc h58 mo61 hr9)) hC.2.2.1 (fun q _ h => hFc q h) hFc (fun r62 u9 t9 H1 locs ht hvm hw hB hz1 hk1 hS => ?_)
        obtain ⟨⟨hP, hK1, hD1⟩, hsz1⟩ := hB
        rw [ht] at hP hsz1
        have hC : CP dC dI Q A s.heap p60.2 H1 locs := ⟨hP, hD1.weaken (fun _ _ _ h => hFc _ h), hS, hsz1⟩
        generalize H1 = H at hC ⊢
        have h63 : z9h ≤ CS.hs p60.2 := Nat.le_trans h58 mo61
        refine W.widen (k := CS.hs p60.2 - z9h) (n := 17 * (CS.hs p60.2 - z9h)) (cAcc2 h58 mo61) (cAcc3 h58 mo61) ?_
        obtain rfl : r62 = p60.1 := hw
        refine lv_istore (lv' := [(4, .int p60.1), (0, .ref (Q.o 3)), (1, .int x1), (2, .int x2), (3, .int x3), (5, .int x5)]) hx hb dX1_choice_105 hl (by decide) rfl (fun ls hl => ?_)
        refine lv_iinc (v := (x5 + 1)) (lv' := [(5, .int (x5 + 1)), (4, .int p60.1), (0, .ref (Q.o 3)), (1, .int x1), (2, .int x2), (3, .int x3)]) hx hb dX1_choice_107 hl (k := 5) rfl rfl (by decide) rfl (fun ls hl => ?_)
        refine lv_goto (tgt := 69) hx hb dX1_choice_110 (by decide) ?_
        exact ih p60.2 x1 x2 x3 p60.1 (x5 + 1) _ _ _ hf h63 hC (lv_sub hl [2, 3, 4, 5, 1, 0] rfl)
      ·
        replace hf := (if_pos c59).symm.trans hf
        refine lv_aload_n hx hb dX1_choice_87 rfl (lv_at hl 0 rfl) ?_
        refine lv_sipush (v := 220) hx hb dX1_choice_88 (by decide) ?_
        obtain ⟨p64, hcp64, hf⟩ := hf_bind hf
        have mo65 : CS.hs p55.2 ≤ CS.hs p64.2 := Mono.go hcp64 (m_X1_found N p55.2 220)
        have hr9 : CS.hs p64.2 ≤ CS.hs R.2 := Mono.go hf (mono_ite (m_X1_choice_113 N E1 E2 hm1 hm2 p64.2 x1 x2 x3 x4) (mono_bind (m_X1_arm N E1 E2 hm1 hm2 p64.2 x3 x4 x2) (fun p69 => (hMK p69.2 x1 x2 x3 p69.1 (x5 + 1)))))
        have hFc := cFree hC hA
        refine va_calli (va_runU (As := [.int 220]) (rest := []) ⟨hx, hb, hml, hown, hts⟩ (c_X1_found l dC dI Q N p55.2 220 p64 hcp64) (va_cwU 1 hts hX1_choice_X1_found_u42 rfl rfl rfl rfl (by decide +kernel) ⟨(show 1 + 1 ≤ (24 + 40 * d) by omega), (show 8 + (2 + 11) + 60 * 1 ≤ 60 * (24 + 40 * d) by omega)⟩) ⟨zPre.blind, va_recv hK hC.1 (ci := 6) (q0 := 3) rfl rfl, cPre_go hZ hK hC⟩ rfl rfl hl.1 rfl (lv_room (Nat.le_of_ble_eq_true rfl)) dX1_choice_91 (cAcc h58 mo65 hr9)) hC.2.2.1 (fun q _ h => hFc q h) hFc (fun r66 u9 t9 H1 locs ht hvm hw hB hz1 hk1 hS => ?_)
        obtain ⟨⟨hP, hK1, hD1⟩, hsz1⟩ := hB
        rw [ht] at hP hsz1
        have hC : CP dC dI Q A s.heap p64.2 H1 locs := ⟨hP, hD1.weaken (fun _ _ _ h => hFc _ h), hS, hsz1⟩
        generalize H1 = H at hC ⊢
        have h67 : z9h ≤ CS.hs p64.2 := Nat.le_trans h58 mo65
        refine W.widen (k := CS.hs p64.2 - z9h) (n := 17 * (CS.hs p64.2 - z9h)) (cAcc2 h58 mo65) (cAcc3 h58 mo65) ?_
        obtain rfl : r66 = p64.1 := hw
        refine lv_if_eq (tgt := 113) hx hb dX1_choice_94 (by decide) (fun c68 => ?_) (fun c68 => ?_)
        ·
          replace hf := (if_pos c68).symm.trans hf
          exact j_X1_choice_113 l dC dI Q N d E1 E2 hE1 hE2 hm1 hm2 z9h R hx hb hr hml hown hts hlocks hZ hA hK p64.2 x1 x2 x3 x4 _ _ _ hf h67 hC (lv_sub hl [0, 1, 2, 3, 4] rfl)
        ·
          replace hf := (if_neg c68).symm.trans hf
          refine lv_aload_n hx hb dX1_choice_97 rfl (lv_at hl 0 rfl) ?_
          refine lv_iload_n hx hb dX1_choice_98 rfl (lv_at hl 3 rfl) ?_
          refine lv_iload hx hb dX1_choice_99 (lv_at hl 4 rfl) ?_
          refine lv_iload_n hx hb dX1_choice_101 rfl (lv_at hl 2 rfl) ?_
          obtain ⟨p69, hcp69, hf⟩ := hf_bind hf
          have mo70 : CS.hs p64.2 ≤ CS.hs p69.2 := Mono.go hcp69 (m_X1_arm N E1 E2 hm1 hm2 p64.2 x3 x4 x2)
          have hr9 : CS.hs p69.2 ≤ CS.hs R.2 := Mono.go hf (hMK p69.2 x1 x2 x3 p69.1 (x5 + 1))
          have hFc := cFree hC hA
          refine va_calli (va_runU (As := [.int x3, .int x4, .int x2]) (rest := []) ⟨hx, hb, hml, hown, hts⟩ (c_X1_arm l dC dI Q N d E1 E2 hE1 hE2 hm1 hm2 p64.2 x3 x4 x2 p69 hcp69) (va_cwU 3 hts hX1_choice_X1_arm_u117 rfl rfl rfl rfl (by decide +kernel) ⟨(show (23 + 40 * d) + 1 ≤ (24 + 40 * d) by omega), (show 8 + (7 + 11) + 60 * (23 + 40 * d) ≤ 60 * (24 + 40 * d) by omega)⟩) ⟨zPre.blind, va_recv hK hC.1 (ci := 6) (q0 := 3) rfl rfl, cPre_go hZ hK hC⟩ rfl rfl hl.1 rfl (lv_room (Nat.le_of_ble_eq_true rfl)) dX1_choice_102 (cAcc h67 mo70 hr9)) hC.2.2.1 (fun q _ h => hFc q h) hFc (fun r71 u9 t9 H1 locs ht hvm hw hB hz1 hk1 hS => ?_)
          obtain ⟨⟨hP, hK1, hD1⟩, hsz1⟩ := hB
          rw [ht] at hP hsz1
          have hC : CP dC dI Q A s.heap p69.2 H1 locs := ⟨hP, hD1.weaken (fun _ _ _ h => hFc _ h), hS, hsz1⟩
          generalize H1 = H at hC ⊢
          have h72 : z9h ≤ CS.hs p69.2 := Nat.le_trans h67 mo70
          refine W.widen (k := CS.hs p69.2 - z9h) (n := 17 * (CS.hs p69.2 - z9h)) (cAcc2 h67 mo70) (cAcc3 h67 mo70) ?_
          obtain rfl : r71 = p69.1 := hw
          refine lv_istore (lv' := [(4, .int p69.1), (0, .ref (Q.o 3)), (1, .int x1), (2, .int x2), (3, .int x3), (5, .int x5)]) hx hb dX1_choice_105 hl (by decide) rfl (fun ls hl => ?_)
          refine lv_iinc (v := (x5 + 1)) (lv' := [(5, .int (x5 + 1)), (4, .int p69.1), (0, .ref (Q.o 3)), (1, .int x1), (2, .int x2), (3, .int x3)]) hx hb dX1_choice_107 hl (k := 5) rfl rfl (by decide) rfl (fun ls hl => ?_)
          refine lv_goto (tgt := 69) hx hb dX1_choice_110 (by decide) ?_
          exact ih p69.2 x1 x2 x3 p69.1 (x5 + 1) _ _ _ hf h72 hC (lv_sub hl [2, 3, 4, 5, 1, 0] rfl)
set_option maxHeartbeats 4000000 in
set_option maxRecDepth 100000 in
theorem c_X1_choice (l : Launch) (dC : Nat → ClassId) (dI : Nat → Nat → Nat) (Q : CQ) (N : Nat) (d : Nat) (E1 : CS → Option (Unit × CS)) (E2 : CS → Option (Int32 × CS)) (hE1 : cMF l dC dI Q d E1) (hE2 : cMO l dC dI Q d E2) (hm1 : ∀ σ, Mono (CS.hs σ) (E1 σ)) (hm2 : ∀ σ, Mono (CS.hs σ) (E2 σ)) (σ : CS) (R : Unit × CS) (hf : f_X1_choice N E1 E2 σ = some R) : Met l yX1_choice wzX1_choice ({ frames := (24 + 40 * d), cells := CS.hs R.2 - CS.hs σ, slots := 17 * (CS.hs R.2 - CS.hs σ), locals := 60 * (24 + 40 * d) }) (va_Pc [.ref (Q.o 3)] (zPre dC dI (CS.hs σ) (cW Q σ) (cT Q))) (va_Qv (fun (_ : Unit) => True) (fun (_ : Unit) (t : State) => zPost dC dI (va_A (cW Q σ) (CS.hs σ)) (cW Q R.2) (cT Q) t ∧ t.heap.size = CS.hs R.2) (va_A (cW Q σ) (CS.hs σ))) (CS.hs R.2 - CS.hs σ) (17 * (CS.hs R.2 - CS.hs σ)) (va_A (cW Q σ) (CS.hs σ)) := by
  refine Met.ofW (cc := cX1_choice) (maxL := 6) (ret := none) (by decide) rfl ?_
  intro p e s m args below meth c s₁ B hml hv
  obtain ⟨rfl, hsz, hZ, hP, hK, hD0⟩ := hv
  have hx := B.exec
  have hb := B.bytes
  have hr := B.returns
  have hts := atoms_spec (ws := wzX1_choice) B.pre
  have hown : s.vm.findClass RX1 = some m.cls := findClass_of_methodNamed B.named
  have hlocks := B.notSynchronized
  have hD := hD0.self (sz := CS.hs σ)
  generalize hAe : va_A (cW Q σ) (CS.hs σ) = A at hD ⊢
  have hA : ∀ q : Nat, s.heap.size ≤ q → A q := fun q h => by rw [← hAe]; exact Or.inr (hsz ▸ h)
  have hC : CP dC dI Q A s.heap σ s.heap [] := ⟨hP, hD, va_S.rf, hsz⟩
  have h0 : CS.hs σ ≤ CS.hs σ := Nat.le_refl _
  have hl := lv_entry ([.ref (Q.o 3)]) (n := 6) (Nat.le_of_ble_eq_true rfl)
  rw [lg_entry_eq]
  generalize (lg_sl ([.ref (Q.o 3)]) ++ List.replicate (6 - (lg_sl ([.ref (Q.o 3)])).length) Slot.unset).toArray = ls at hl ⊢
  have hl : lv_has ls 6 [(0, .ref (Q.o 3))] := hl
  unfold f_X1_choice at hf
  refine W.widen (k := CS.hs σ - CS.hs σ) (n := 17 * (CS.hs σ - CS.hs σ)) (Nat.zero_le _) (Nat.zero_le _) ?_
  refine lv_aload_n hx hb dX1_choice_0 rfl (lv_at hl 0 rfl) ?_
  refine cG_28 hx hb hts i_X1_choice_X7 hown hK hC (hts (.fieldLink RX1 18 "StatementRules2$Formulas" "tokens" "LStatementRules2$Tokens;") k_X1_choice_fieldLink_RX1_18_SR_Formulas_tokens_LSR_Tokens) (fun _ q9 => q9) dX1_choice_1 ?_
  obtain ⟨p1, hcp1, hf⟩ := hf_bind hf
  have mo2 : CS.hs σ ≤ CS.hs p1.2 := Mono.go hcp1 (m_X9_advance N σ)
  have hr9 : CS.hs p1.2 ≤ CS.hs R.2 := Mono.go hf (mono_bind (m_X1_open N p1.2 40) (fun p5 => (mono_bind (m_X1_expression N E1 E2 hm1 hm2 p5.2) (fun p9 => (mono_bind (m_X1_close N p9.2 41) (fun p13 => (mono_bind (m_X1_open N p13.2 123) (fun p17 => (mono_bind (m_X0_newTarget N p17.2) (fun p21 => (mono_bind (m_X0_newTarget N p21.2) (fun p25 => (mono_bind (m_X0_add N p25.2 30 p21.1) (fun p29 => (m_X1_choice_69 N E1 E2 hm1 hm2 N p29.2 p21.1 p25.1 (p25.2.i 22) (-1) 0)))))))))))))))
  have hFc := cFree hC hA
  refine va_callv (va_runV (As := []) (rest := []) ⟨hx, hb, hml, hown, hts⟩ (c_X9_advance l dC dI Q N σ p1 hcp1) (cwV 0 hts hX1_choice_X9_advance_v56 rfl rfl rfl (by decide +kernel) ⟨(show 3 + 1 ≤ (24 + 40 * d) by omega), (show 8 + (2 + 11) + 60 * 3 ≤ 60 * (24 + 40 * d) by omega)⟩) ⟨zPre.blind, va_recv hK hC.1 (ci := 8) (q0 := 4) rfl rfl, cPre_go hZ hK hC⟩ rfl rfl hl.1 rfl (lv_room (Nat.le_of_ble_eq_true rfl)) dX1_choice_4 (cAcc h0 mo2 hr9)) hC.2.2.1 (fun q _ h => hFc q h) hFc (fun u9 t9 H1 locs ht hvm hw hB hz1 hk1 hS => ?_)
  obtain ⟨⟨hP, hK1, hD1⟩, hsz1⟩ := hB
  rw [ht] at hP hsz1
  have hC : CP dC dI Q A s.heap p1.2 H1 locs := ⟨hP, hD1.weaken (fun _ _ _ h => hFc _ h), hS, hsz1⟩
  generalize H1 = H at hC ⊢
  have h4 : (CS.hs σ) ≤ CS.hs p1.2 := Nat.le_trans h0 mo2
  refine W.widen (k := CS.hs p1.2 - (CS.hs σ)) (n := 17 * (CS.hs p1.2 - (CS.hs σ))) (cAcc2 h0 mo2) (cAcc3 h0 mo2) ?_
  refine lv_aload_n hx hb dX1_choice_7 rfl (lv_at hl 0 rfl) ?_
  refine lv_bipush (v := 40) hx hb dX1_choice_8 (by decide) ?_
  obtain ⟨p5, hcp5, hf⟩ := hf_bind hf
  have mo6 : CS.hs p1.2 ≤ CS.hs p5.2 := Mono.go hcp5 (m_X1_open N p1.2 40)
  have hr9 : CS.hs p5.2 ≤ CS.hs R.2 := Mono.go hf (mono_bind (m_X1_expression N E1 E2 hm1 hm2 p5.2) (fun p9 => (mono_bind (m_X1_close N p9.2 41) (fun p13 => (mono_bind (m_X1_open N p13.2 123) (fun p17 => (mono_bind (m_X0_newTarget N p17.2) (fun p21 => (mono_bind (m_X0_newTarget N p21.2) (fun p25 => (mono_bind (m_X0_add N p25.2 30 p21.1) (fun p29 => (m_X1_choice_69 N E1 E2 hm1 hm2 N p29.2 p21.1 p25.1 (p25.2.i 22) (-1) 0)))))))))))))
  have hFc := cFree hC hA
  refine va_callv (va_runU (As := [.int 40]) (rest := []) ⟨hx, hb, hml, hown, hts⟩ (c_X1_open l dC dI Q N p1.2 40 p5 hcp5) (va_cwU 1 hts hX1_choice_X1_open_u85 rfl rfl rfl rfl (by decide +kernel) ⟨(show 4 + 1 ≤ (24 + 40 * d) by omega), (show 8 + (2 + 11) + 60 * 4 ≤ 60 * (24 + 40 * d) by omega)⟩) ⟨zPre.blind, va_recv hK hC.1 (ci := 6) (q0 := 3) rfl rfl, cPre_go hZ hK hC⟩ rfl rfl hl.1 rfl (lv_room (Nat.le_of_ble_eq_true rfl)) dX1_choice_10 (cAcc h4 mo6 hr9)) hC.2.2.1 (fun q _ h => hFc q h) hFc (fun u9 t9 H1 locs ht hvm hw hB hz1 hk1 hS => ?_)
  obtain ⟨⟨hP, hK1, hD1⟩, hsz1⟩ := hB
  rw [ht] at hP hsz1
  have hC : CP dC dI Q A s.heap p5.2 H1 locs := ⟨hP, hD1.weaken (fun _ _ _ h => hFc _ h), hS, hsz1⟩
  generalize H1 = H at hC ⊢
  have h8 : (CS.hs σ) ≤ CS.hs p5.2 := Nat.le_trans h4 mo6
  refine W.widen (k := CS.hs p5.2 - (CS.hs σ)) (n := 17 * (CS.hs p5.2 - (CS.hs σ))) (cAcc2 h4 mo6) (cAcc3 h4 mo6) ?_
  refine lv_aload_n hx hb dX1_choice_13 rfl (lv_at hl 0 rfl) ?_
  obtain ⟨p9, hcp9, hf⟩ := hf_bind hf
  have mo10 : CS.hs p5.2 ≤ CS.hs p9.2 := Mono.go hcp9 (m_X1_expression N E1 E2 hm1 hm2 p5.2)
  have hr9 : CS.hs p9.2 ≤ CS.hs R.2 := Mono.go hf (mono_bind (m_X1_close N p9.2 41) (fun p13 => (mono_bind (m_X1_open N p13.2 123) (fun p17 => (mono_bind (m_X0_newTarget N p17.2) (fun p21 => (mono_bind (m_X0_newTarget N p21.2) (fun p25 => (mono_bind (m_X0_add N p25.2 30 p21.1) (fun p29 => (m_X1_choice_69 N E1 E2 hm1 hm2 N p29.2 p21.1 p25.1 (p25.2.i 22) (-1) 0)))))))))))
  have hFc := cFree hC hA
  refine va_callv (va_runU (As := []) (rest := []) ⟨hx, hb, hml, hown, hts⟩ (c_X1_expression l dC dI Q N d E1 E2 hE1 hE2 hm1 hm2 p5.2 p9 hcp9) (va_cwU 0 hts hX1_choice_X1_expression_u89 rfl rfl rfl rfl (by decide +kernel) ⟨(show (12 + 40 * d) + 1 ≤ (24 + 40 * d) by omega), (show 8 + (3 + 11) + 60 * (12 + 40 * d) ≤ 60 * (24 + 40 * d) by omega)⟩) ⟨zPre.blind, va_recv hK hC.1 (ci := 6) (q0 := 3) rfl rfl, cPre_go hZ hK hC⟩ rfl rfl hl.1 rfl (lv_room (Nat.le_of_ble_eq_true rfl)) dX1_choice_14 (cAcc h8 mo10 hr9)) hC.2.2.1 (fun q _ h => hFc q h) hFc (fun u9 t9 H1 locs ht hvm hw hB hz1 hk1 hS => ?_)
  obtain ⟨⟨hP, hK1, hD1⟩, hsz1⟩ := hB
  rw [ht] at hP hsz1
  have hC : CP dC dI Q A s.heap p9.2 H1 locs := ⟨hP, hD1.weaken (fun _ _ _ h => hFc _ h), hS, hsz1⟩
  generalize H1 = H at hC ⊢
  have h12 : (CS.hs σ) ≤ CS.hs p9.2 := Nat.le_trans h8 mo10
  refine W.widen (k := CS.hs p9.2 - (CS.hs σ)) (n := 17 * (CS.hs p9.2 - (CS.hs σ))) (cAcc2 h8 mo10) (cAcc3 h8 mo10) ?_
  refine lv_aload_n hx hb dX1_choice_17 rfl (lv_at hl 0 rfl) ?_
  refine lv_bipush (v := 41) hx hb dX1_choice_18 (by decide) ?_
  obtain ⟨p13, hcp13, hf⟩ := hf_bind hf
  have mo14 : CS.hs p9.2 ≤ CS.hs p13.2 := Mono.go hcp13 (m_X1_close N p9.2 41)
  have hr9 : CS.hs p13.2 ≤ CS.hs R.2 := Mono.go hf (mono_bind (m_X1_open N p13.2 123) (fun p17 => (mono_bind (m_X0_newTarget N p17.2) (fun p21 => (mono_bind (m_X0_newTarget N p21.2) (fun p25 => (mono_bind (m_X0_add N p25.2 30 p21.1) (fun p29 => (m_X1_choice_69 N E1 E2 hm1 hm2 N p29.2 p21.1 p25.1 (p25.2.i 22) (-1) 0)))))))))
  have hFc := cFree hC hA
  refine va_callv (va_runU (As := [.int 41]) (rest := []) ⟨hx, hb, hml, hown, hts⟩ (c_X1_close l dC dI Q N p9.2 41 p13 hcp13) (va_cwU 1 hts hX1_choice_X1_close_u92 rfl rfl rfl rfl (by decide +kernel) ⟨(show 4 + 1 ≤ (24 + 40 * d) by omega), (show 8 + (2 + 11) + 60 * 4 ≤ 60 * (24 + 40 * d) by omega)⟩) ⟨zPre.blind, va_recv hK hC.1 (ci := 6) (q0 := 3) rfl rfl, cPre_go hZ hK hC⟩ rfl rfl hl.1 rfl (lv_room (Nat.le_of_ble_eq_true rfl)) dX1_choice_20 (cAcc h12 mo14 hr9)) hC.2.2.1 (fun q _ h => hFc q h) hFc (fun u9 t9 H1 locs ht hvm hw hB hz1 hk1 hS => ?_)
  obtain ⟨⟨hP, hK1, hD1⟩, hsz1⟩ := hB
  rw [ht] at hP hsz1
  have hC : CP dC dI Q A s.heap p13.2 H1 locs := ⟨hP, hD1.weaken (fun _ _ _ h => hFc _ h), hS, hsz1⟩
  generalize H1 = H at hC ⊢
  have h16 : (CS.hs σ) ≤ CS.hs p13.2 := Nat.le_trans h12 mo14
  refine W.widen (k := CS.hs p13.2 - (CS.hs σ)) (n := 17 * (CS.hs p13.2 - (CS.hs σ))) (cAcc2 h12 mo14) (cAcc3 h12 mo14) ?_
  refine lv_aload_n hx hb dX1_choice_23 rfl (lv_at hl 0 rfl) ?_
  refine lv_bipush (v := 123) hx hb dX1_choice_24 (by decide) ?_
  obtain ⟨p17, hcp17, hf⟩ := hf_bind hf
  have mo18 : CS.hs p13.2 ≤ CS.hs p17.2 := Mono.go hcp17 (m_X1_open N p13.2 123)
  have hr9 : CS.hs p17.2 ≤ CS.hs R.2 := Mono.go hf (mono_bind (m_X0_newTarget N p17.2) (fun p21 => (mono_bind (m_X0_newTarget N p21.2) (fun p25 => (mono_bind (m_X0_add N p25.2 30 p21.1) (fun p29 => (m_X1_choice_69 N E1 E2 hm1 hm2 N p29.2 p21.1 p25.1 (p25.2.i 22) (-1) 0)))))))
  have hFc := cFree hC hA
  refine va_callv (va_runU (As := [.int 123]) (rest := []) ⟨hx, hb, hml, hown, hts⟩ (c_X1_open l dC dI Q N p13.2 123 p17 hcp17) (va_cwU 1 hts hX1_choice_X1_open_u85 rfl rfl rfl rfl (by decide +kernel) ⟨(show 4 + 1 ≤ (24 + 40 * d) by omega), (show 8 + (2 + 11) + 60 * 4 ≤ 60 * (24 + 40 * d) by omega)⟩) ⟨zPre.blind, va_recv hK hC.1 (ci := 6) (q0 := 3) rfl rfl, cPre_go hZ hK hC⟩ rfl rfl hl.1 rfl (lv_room (Nat.le_of_ble_eq_true rfl)) dX1_choice_26 (cAcc h16 mo18 hr9)) hC.2.2.1 (fun q _ h => hFc q h) hFc (fun u9 t9 H1 locs ht hvm hw hB hz1 hk1 hS => ?_)
  obtain ⟨⟨hP, hK1, hD1⟩, hsz1⟩ := hB
  rw [ht] at hP hsz1
  have hC : CP dC dI Q A s.heap p17.2 H1 locs := ⟨hP, hD1.weaken (fun _ _ _ h => hFc _ h), hS, hsz1⟩
  generalize H1 = H at hC ⊢
  have h20 : (CS.hs σ) ≤ CS.hs p17.2 := Nat.le_trans h16 mo18
  refine W.widen (k := CS.hs p17.2 - (CS.hs σ)) (n := 17 * (CS.hs p17.2 - (CS.hs σ))) (cAcc2 h16 mo18) (cAcc3 h16 mo18) ?_
  refine lv_aload_n hx hb dX1_choice_29 rfl (lv_at hl 0 rfl) ?_
  refine cG_29 hx hb hts i_X1_choice_X7 hown hK hC (hts (.fieldLink RX1 22 "StatementRules2$Formulas" "code" "LStatementRules2$Code;") k_X1_choice_fieldLink_RX1_22_SR_Formulas_code_LSR_Code) (fun _ q9 => q9) dX1_choice_30 ?_
  obtain ⟨p21, hcp21, hf⟩ := hf_bind hf
  have mo22 : CS.hs p17.2 ≤ CS.hs p21.2 := Mono.go hcp21 (m_X0_newTarget N p17.2)
  have hr9 : CS.hs p21.2 ≤ CS.hs R.2 := Mono.go hf (mono_bind (m_X0_newTarget N p21.2) (fun p25 => (mono_bind (m_X0_add N p25.2 30 p21.1) (fun p29 => (m_X1_choice_69 N E1 E2 hm1 hm2 N p29.2 p21.1 p25.1 (p25.2.i 22) (-1) 0)))))
  have hFc := cFree hC hA
  refine va_calli (va_runV (As := []) (rest := []) ⟨hx, hb, hml, hown, hts⟩ (c_X0_newTarget l dC dI Q N p17.2 p21 hcp21) (cwV 0 hts hX1_choice_X0_newTarget_v110 rfl rfl rfl (by decide +kernel) ⟨(show 2 + 1 ≤ (24 + 40 * d) by omega), (show 8 + (1 + 11) + 60 * 2 ≤ 60 * (24 + 40 * d) by omega)⟩) ⟨zPre.blind, va_recv hK hC.1 (ci := 0) (q0 := 2) rfl rfl, cPre_go hZ hK hC⟩ rfl rfl hl.1 rfl (lv_room (Nat.le_of_ble_eq_true rfl)) dX1_choice_33 (cAcc h20 mo22 hr9)) hC.2.2.1 (fun q _ h => hFc q h) hFc (fun r23 u9 t9 H1 locs ht hvm hw hB hz1 hk1 hS => ?_)
  obtain ⟨⟨hP, hK1, hD1⟩, hsz1⟩ := hB
  rw [ht] at hP hsz1
  have hC : CP dC dI Q A s.heap p21.2 H1 locs := ⟨hP, hD1.weaken (fun _ _ _ h => hFc _ h), hS, hsz1⟩
  generalize H1 = H at hC ⊢
  have h24 : (CS.hs σ) ≤ CS.hs p21.2 := Nat.le_trans h20 mo22
  refine W.widen (k := CS.hs p21.2 - (CS.hs σ)) (n := 17 * (CS.hs p21.2 - (CS.hs σ))) (cAcc2 h20 mo22) (cAcc3 h20 mo22) ?_
  obtain rfl : r23 = p21.1 := hw
  refine lv_istore_n (lv' := [(1, .int p21.1), (0, .ref (Q.o 3))]) hx hb dX1_choice_36 rfl hl (by decide) rfl (fun ls hl => ?_)
  refine lv_aload_n hx hb dX1_choice_37 rfl (lv_at hl 1 rfl) ?_
  refine cG_29 hx hb hts i_X1_choice_X7 hown hK hC (hts (.fieldLink RX1 22 "StatementRules2$Formulas" "code" "LStatementRules2$Code;") k_X1_choice_fieldLink_RX1_22_SR_Formulas_code_LSR_Code) (fun _ q9 => q9) dX1_choice_38 ?_
  obtain ⟨p25, hcp25, hf⟩ := hf_bind hf
  have mo26 : CS.hs p21.2 ≤ CS.hs p25.2 := Mono.go hcp25 (m_X0_newTarget N p21.2)
  have hr9 : CS.hs p25.2 ≤ CS.hs R.2 := Mono.go hf (mono_bind (m_X0_add N p25.2 30 p21.1) (fun p29 => (m_X1_choice_69 N E1 E2 hm1 hm2 N p29.2 p21.1 p25.1 (p25.2.i 22) (-1) 0)))
  have hFc := cFree hC hA
  refine va_calli (va_runV (As := []) (rest := []) ⟨hx, hb, hml, hown, hts⟩ (c_X0_newTarget l dC dI Q N p21.2 p25 hcp25) (cwV 0 hts hX1_choice_X0_newTarget_v110 rfl rfl rfl (by decide +kernel) ⟨(show 2 + 1 ≤ (24 + 40 * d) by omega), (show 8 + (1 + 11) + 60 * 2 ≤ 60 * (24 + 40 * d) by omega)⟩) ⟨zPre.blind, va_recv hK hC.1 (ci := 0) (q0 := 2) rfl rfl, cPre_go hZ hK hC⟩ rfl rfl hl.1 rfl (lv_room (Nat.le_of_ble_eq_true rfl)) dX1_choice_41 (cAcc h24 mo26 hr9)) hC.2.2.1 (fun q _ h => hFc q h) hFc (fun r27 u9 t9 H1 locs ht hvm hw hB hz1 hk1 hS => ?_)
  obtain ⟨⟨hP, hK1, hD1⟩, hsz1⟩ := hB
  rw [ht] at hP hsz1
  have hC : CP dC dI Q A s.heap p25.2 H1 locs := ⟨hP, hD1.weaken (fun _ _ _ h => hFc _ h), hS, hsz1⟩
  generalize H1 = H at hC ⊢
  have h28 : (CS.hs σ) ≤ CS.hs p25.2 := Nat.le_trans h24 mo26
  refine W.widen (k := CS.hs p25.2 - (CS.hs σ)) (n := 17 * (CS.hs p25.2 - (CS.hs σ))) (cAcc2 h24 mo26) (cAcc3 h24 mo26) ?_
  obtain rfl : r27 = p25.1 := hw
  refine lv_istore_n (lv' := [(2, .int p25.1), (1, .int p21.1), (0, .ref (Q.o 3))]) hx hb dX1_choice_44 rfl hl (by decide) rfl (fun ls hl => ?_)
  refine lv_aload_n hx hb dX1_choice_45 rfl (lv_at hl 2 rfl) ?_
  refine cG_29 hx hb hts i_X1_choice_X7 hown hK hC (hts (.fieldLink RX1 22 "StatementRules2$Formulas" "code" "LStatementRules2$Code;") k_X1_choice_fieldLink_RX1_22_SR_Formulas_code_LSR_Code) (fun _ q9 => q9) dX1_choice_46 ?_
  refine cGN_22 (v := (p25.2.i 22)) hx hb hts i_X1_choice_X0 hown hK hC (va_Nw.use rfl (hZ.1 (.fieldLinkNest RX1 114 "StatementRules2$Code" "caseCount" "I" "StatementRules2") (by decide +kernel))) (fun _ q9 => q9) dX1_choice_49 rfl ?_
  refine lv_istore_n (lv' := [(3, .int (p25.2.i 22)), (2, .int p25.1), (1, .int p21.1), (0, .ref (Q.o 3))]) hx hb dX1_choice_52 rfl hl (by decide) rfl (fun ls hl => ?_)
  refine lv_iconst (v := (-1)) hx hb dX1_choice_53 (by decide) ?_
  refine lv_istore (lv' := [(4, .int (-1)), (3, .int (p25.2.i 22)), (2, .int p25.1), (1, .int p21.1), (0, .ref (Q.o 3))]) hx hb dX1_choice_54 hl (by decide) rfl (fun ls hl => ?_)
  refine lv_aload_n hx hb dX1_choice_56 rfl (lv_at hl 4 rfl) ?_
  refine cG_29 hx hb hts i_X1_choice_X7 hown hK hC (hts (.fieldLink RX1 22 "StatementRules2$Formulas" "code" "LStatementRules2$Code;") k_X1_choice_fieldLink_RX1_22_SR_Formulas_code_LSR_Code) (fun _ q9 => q9) dX1_choice_57 ?_
  refine lv_bipush (v := 30) hx hb dX1_choice_60 (by decide) ?_
  refine lv_iload_n hx hb dX1_choice_62 rfl (lv_at hl 3 rfl) ?_
  obtain ⟨p29, hcp29, hf⟩ := hf_bind hf
  have mo30 : CS.hs p25.2 ≤ CS.hs p29.2 := Mono.go hcp29 (m_X0_add N p25.2 30 p21.1)
  have hr9 : CS.hs p29.2 ≤ CS.hs R.2 := Mono.go hf (m_X1_choice_69 N E1 E2 hm1 hm2 N p29.2 p21.1 p25.1 (p25.2.i 22) (-1) 0)
  have hFc := cFree hC hA
  refine va_callv (va_runV (As := [.int 30, .int p21.1]) (rest := []) ⟨hx, hb, hml, hown, hts⟩ (c_X0_add l dC dI Q N p25.2 30 p21.1 p29 hcp29) (cwV 2 hts hX1_choice_X0_add_v68 rfl rfl rfl (by decide +kernel) ⟨(show 2 + 1 ≤ (24 + 40 * d) by omega), (show 8 + (3 + 11) + 60 * 2 ≤ 60 * (24 + 40 * d) by omega)⟩) ⟨zPre.blind, va_recv hK hC.1 (ci := 0) (q0 := 2) rfl rfl, cPre_go hZ hK hC⟩ rfl rfl hl.1 rfl (lv_room (Nat.le_of_ble_eq_true rfl)) dX1_choice_63 (cAcc h28 mo30 hr9)) hC.2.2.1 (fun q _ h => hFc q h) hFc (fun u9 t9 H1 locs ht hvm hw hB hz1 hk1 hS => ?_)
  obtain ⟨⟨hP, hK1, hD1⟩, hsz1⟩ := hB
  rw [ht] at hP hsz1
  have hC : CP dC dI Q A s.heap p29.2 H1 locs := ⟨hP, hD1.weaken (fun _ _ _ h => hFc _ h), hS, hsz1⟩
  generalize H1 = H at hC ⊢
  have h32 : (CS.hs σ) ≤ CS.hs p29.2 := Nat.le_trans h28 mo30
  refine W.widen (k := CS.hs p29.2 - (CS.hs σ)) (n := 17 * (CS.hs p29.2 - (CS.hs σ))) (cAcc2 h28 mo30) (cAcc3 h28 mo30) ?_
  refine lv_iconst (v := 0) hx hb dX1_choice_66 (by decide) ?_
  refine lv_istore (lv' := [(5, .int 0), (4, .int (-1)), (3, .int (p25.2.i 22)), (2, .int p25.1), (1, .int p21.1), (0, .ref (Q.o 3))]) hx hb dX1_choice_67 hl (by decide) rfl (fun ls hl => ?_)
  exact j_X1_choice_69 l dC dI Q N d E1 E2 hE1 hE2 hm1 hm2 (CS.hs σ) R hx hb hr hml hown hts hlocks hZ hA hK N p29.2 p21.1 p25.1 (p25.2.i 22) (-1) 0 _ _ _ hf h32 hC (lv_sub hl [5, 4, 3, 2, 1, 0] rfl)
