theorem k_X7_compound_fieldLink_RX7_71_SR_Statements_tokens_LSR_Tokens : Cond.fieldLink RX7 71 "StatementRules2$Statements" "tokens" "LStatementRules2$Tokens;" ∈ wzX7_compound := List.mem_cons_of_mem _ (List.mem_append_right _ (List.mem_append_right _ (List.mem_append_right _ (List.mem_append_right _ (List.mem_append_right _ (List.mem_append_right _ (List.mem_append_right _ (List.mem_append_right _ (List.mem_append_right _ (List.mem_append_right _ (List.mem_append_right _ (List.mem_append_right _ (List.mem_append_right _ (List.mem_append_right _ (List.mem_append_right _ (List.mem_append_right _ (List.mem_append_right _ (List.mem_append_right _ (List.mem_append_right _ (List.mem_append_right _ (List.mem_append_left _ (List.mem_of_getElem? (i := 0) rfl))))))))))))))))))))))
theorem k_X7_compound_sameField_SR_Statements_SR_Formulas_tokens_LSR_Tokens : Cond.sameField "StatementRules2$Statements" "StatementRules2$Formulas" "tokens" "LStatementRules2$Tokens;" ∈ wzX7_compound := List.mem_cons_of_mem _ (List.mem_append_right _ (List.mem_append_right _ (List.mem_append_right _ (List.mem_append_right _ (List.mem_append_right _ (List.mem_append_right _ (List.mem_append_right _ (List.mem_append_right _ (List.mem_append_right _ (List.mem_append_right _ (List.mem_append_right _ (List.mem_append_right _ (List.mem_append_right _ (List.mem_append_right _ (List.mem_append_right _ (List.mem_append_right _ (List.mem_append_right _ (List.mem_append_right _ (List.mem_append_right _ (List.mem_append_right _ (List.mem_append_left _ (List.mem_of_getElem? (i := 1) rfl))))))))))))))))))))))
theorem i_X7_compound_X7 : ∀ w ∈ wsX70, w ∈ wzX7_compound := fun _ h => List.mem_cons_of_mem _ (List.mem_append_right _ (List.mem_append_right _ (List.mem_append_right _ (List.mem_append_right _ (List.mem_append_right _ (List.mem_append_right _ (List.mem_append_right _ (List.mem_append_right _ (List.mem_append_right _ (List.mem_append_right _ (List.mem_append_right _ (List.mem_append_right _ (List.mem_append_right _ (List.mem_append_right _ (List.mem_append_right _ (List.mem_append_right _ (List.mem_append_right _ (List.mem_append_right _ (List.mem_append_right _ (List.mem_append_right _ (List.mem_append_right _ (List.mem_append_right _ (List.mem_append_right _ (List.mem_append_right _ (List.mem_append_right _ (List.mem_append_right _ (List.mem_append_right _ (List.mem_append_right _ (List.mem_append_right _ (List.mem_append_right _ (List.mem_append_right _ (List.mem_append_right _ (List.mem_append_right _ (List.mem_append_right _ (List.mem_append_right _ (List.mem_append_right _ (List.mem_append_left _ (h))))))))))))))))))))))))))))))))))))))
theorem i_X7_compound_X9 : ∀ w ∈ wsX90, w ∈ wzX7_compound := fun _ h => List.mem_cons_of_mem _ (List.mem_append_right _ (List.mem_append_right _ (List.mem_append_right _ (List.mem_append_right _ (List.mem_append_right _ (List.mem_append_right _ (List.mem_append_right _ (List.mem_append_right _ (List.mem_append_right _ (List.mem_append_right _ (List.mem_append_right _ (List.mem_append_right _ (List.mem_append_right _ (List.mem_append_right _ (List.mem_append_right _ (List.mem_append_right _ (List.mem_append_right _ (List.mem_append_right _ (List.mem_append_right _ (List.mem_append_right _ (List.mem_append_right _ (List.mem_append_right _ (List.mem_append_right _ (List.mem_append_right _ (List.mem_append_right _ (List.mem_append_right _ (List.mem_append_right _ (List.mem_append_right _ (List.mem_append_right _ (List.mem_append_right _ (List.mem_append_right _ (List.mem_append_right _ (List.mem_append_right _ (List.mem_append_right _ (List.mem_append_right _ (List.mem_append_right _ (List.mem_append_right _ (List.mem_append_left _ (h)))))))))))))))))))))))))))))))))))))))
set_option maxHeartbeats 4000000 in
set_option maxRecDepth 100000 in
theorem c_X7_compound (l : Launch) (dC : Nat → ClassId) (dI : Nat → Nat → Nat) (Q : CQ) (N : Nat) (d : Nat) (E1 : CS → Option (Unit × CS)) (E2 : CS → Option (Int32 × CS)) (hE1 : cMF l dC dI Q d E1) (hE2 : cMO l dC dI Q d E2) (hm1 : ∀ σ, Mono (CS.hs σ) (E1 σ)) (hm2 : ∀ σ, Mono (CS.hs σ) (E2 σ)) (σ : CS) (R : Unit × CS) (hf : f_X7_compound N E1 E2 σ = some R) : Met l yX7_compound wzX7_compound ({ frames := (17 + 40 * d), cells := CS.hs R.2 - CS.hs σ, slots := 17 * (CS.hs R.2 - CS.hs σ), locals := 60 * (17 + 40 * d) }) (va_Pc [.ref (Q.o 3)] (zPre dC dI (CS.hs σ) (cW Q σ) (cT Q))) (va_Qv (fun (_ : Unit) => True) (fun (_ : Unit) (t : State) => zPost dC dI (va_A (cW Q σ) (CS.hs σ)) (cW Q R.2) (cT Q) t ∧ t.heap.size = CS.hs R.2) (va_A (cW Q σ) (CS.hs σ))) (CS.hs R.2 - CS.hs σ) (17 * (CS.hs R.2 - CS.hs σ)) (va_A (cW Q σ) (CS.hs σ)) := by
  refine Met.ofW (cc := cX7_compound) (maxL := 1) (ret := none) (by decide) rfl ?_
  intro p e s m args below meth c s₁ B hml hv
  obtain ⟨rfl, hsz, hZ, hP, hK, hD0⟩ := hv
  have hx := B.exec
  have hb := B.bytes
  have hr := B.returns
  have hts := atoms_spec (ws := wzX7_compound) B.pre
  have hown : s.vm.findClass RX7 = some m.cls := findClass_of_methodNamed B.named
  have hlocks := B.notSynchronized
  have hD := hD0.self (sz := CS.hs σ)
  generalize hAe : va_A (cW Q σ) (CS.hs σ) = A at hD ⊢
  have hA : ∀ q : Nat, s.heap.size ≤ q → A q := fun q h => by rw [← hAe]; exact Or.inr (hsz ▸ h)
  have hC : CP dC dI Q A s.heap σ s.heap [] := ⟨hP, hD, va_S.rf, hsz⟩
  have h0 : CS.hs σ ≤ CS.hs σ := Nat.le_refl _
  have hl := lv_entry ([.ref (Q.o 3)]) (n := 1) (Nat.le_of_ble_eq_true rfl)
  rw [lg_entry_eq]
  generalize (lg_sl ([.ref (Q.o 3)]) ++ List.replicate (1 - (lg_sl ([.ref (Q.o 3)])).length) Slot.unset).toArray = ls at hl ⊢
  have hl : lv_has ls 1 [(0, .ref (Q.o 3))] := hl
  unfold f_X7_compound at hf
  refine W.widen (k := CS.hs σ - CS.hs σ) (n := 17 * (CS.hs σ - CS.hs σ)) (Nat.zero_le _) (Nat.zero_le _) ?_
  refine lv_aload_n hx hb dX7_compound_0 rfl (lv_at hl 0 rfl) ?_
  refine cG_28 hx hb hts i_X7_compound_X7 hown hK hC (hts (.fieldLink RX7 71 "StatementRules2$Statements" "tokens" "LStatementRules2$Tokens;") k_X7_compound_fieldLink_RX7_71_SR_Statements_tokens_LSR_Tokens) (fun x9 q9 => u_same (hts (.sameField "StatementRules2$Statements" "StatementRules2$Formulas" "tokens" "LStatementRules2$Tokens;") k_X7_compound_sameField_SR_Statements_SR_Formulas_tokens_LSR_Tokens) x9 q9) dX7_compound_1 ?_
  refine cGN_43 (v := (σ.i 43)) hx hb hts i_X7_compound_X9 hown hK hC (va_Nw.use rfl (hZ.1 (.fieldLinkNest RX7 214 "StatementRules2$Tokens" "type" "I" "StatementRules2") (by decide +kernel))) (fun _ q9 => q9) dX7_compound_4 rfl ?_
  by_cases c1 : (σ.i 43) = 203
  ·
    replace hf := (if_pos c1).symm.trans hf
    refine lv_tableIn (off := 77) (tgt := 84) hx hb dX7_compound_7 (by rw [c1]; decide) (by rw [c1]; decide) (by rw [c1]; decide) (by decide) ?_
    refine lv_aload_n hx hb dX7_compound_84 rfl (lv_at hl 0 rfl) ?_
    obtain ⟨p2, hcp2, hf⟩ := hf_bind hf
    have mo3 : CS.hs σ ≤ CS.hs p2.2 := Mono.go hcp2 (m_X7_beginIf N E1 E2 hm1 hm2 σ)
    have hr9 : CS.hs p2.2 ≤ CS.hs R.2 := Mono.go hf (mono_some (Nat.le_refl _))
    have hFc := cFree hC hA
    refine va_callv (va_runV (As := []) (rest := []) ⟨hx, hb, hml, hown, hts⟩ (c_X7_beginIf l dC dI Q N d E1 E2 hE1 hE2 hm1 hm2 σ p2 hcp2) (cwV 0 hts hX7_compound_X7_beginIf_v243 rfl rfl rfl (by decide +kernel) ⟨(show (14 + 40 * d) + 1 ≤ (17 + 40 * d) by omega), (show 8 + (2 + 11) + 60 * (14 + 40 * d) ≤ 60 * (17 + 40 * d) by omega)⟩) ⟨zPre.blind, va_recv hK hC.1 (ci := 6) (q0 := 3) rfl rfl, cPre_go hZ hK hC⟩ rfl rfl hl.1 rfl (lv_room (Nat.le_of_ble_eq_true rfl)) dX7_compound_85 (cAcc h0 mo3 hr9)) hC.2.2.1 (fun q _ h => hFc q h) hFc (fun u9 t9 H1 locs ht hvm hw hB hz1 hk1 hS => ?_)
    obtain ⟨⟨hP, hK1, hD1⟩, hsz1⟩ := hB
    rw [ht] at hP hsz1
    have hC : CP dC dI Q A s.heap p2.2 H1 locs := ⟨hP, hD1.weaken (fun _ _ _ h => hFc _ h), hS, hsz1⟩
    generalize H1 = H at hC ⊢
    have h5 : (CS.hs σ) ≤ CS.hs p2.2 := Nat.le_trans h0 mo3
    refine W.widen (k := CS.hs p2.2 - (CS.hs σ)) (n := 17 * (CS.hs p2.2 - (CS.hs σ))) (cAcc2 h0 mo3) (cAcc3 h0 mo3) ?_
    refine lv_goto (tgt := 137) hx hb dX7_compound_88 (by decide) ?_
    obtain rfl := Option.some.inj hf
    exact W.vret hx hb hr (fun t ht hW => ⟨⟨(), rfl, trivial, ⟨by rw [ht]; exact hC.1, va_K.moved hW.alike hK, hC.2.1⟩, by rw [ht]; exact hC.2.2.2⟩, hC.2.2.1.F ht⟩) hC.2.2.1.2.2 dX7_compound_137
  replace hf := (if_neg c1).symm.trans hf
  by_cases c6 : (σ.i 43) = 204
  ·
    replace hf := (if_pos c6).symm.trans hf
    refine lv_tableIn (off := 126) (tgt := 133) hx hb dX7_compound_7 (by rw [c6]; decide) (by rw [c6]; decide) (by rw [c6]; decide) (by decide) ?_
    refine lv_aload_n hx hb dX7_compound_133 rfl (lv_at hl 0 rfl) ?_
    obtain ⟨p7, hcp7, hf⟩ := hf_bind hf
    have mo8 : CS.hs σ ≤ CS.hs p7.2 := Mono.go hcp7 (m_X1_misplaced N σ)
    have hr9 : CS.hs p7.2 ≤ CS.hs R.2 := Mono.go hf (mono_some (Nat.le_refl _))
    have hFc := cFree hC hA
    refine va_callv (va_runU (As := []) (rest := []) ⟨hx, hb, hml, hown, hts⟩ (c_X1_misplaced l dC dI Q N σ p7 hcp7) (va_cwU 0 hts hX7_compound_X1_misplaced_u161 rfl rfl rfl rfl (by decide +kernel) ⟨(show 3 + 1 ≤ (17 + 40 * d) by omega), (show 8 + (1 + 11) + 60 * 3 ≤ 60 * (17 + 40 * d) by omega)⟩) ⟨zPre.blind, va_recv hK hC.1 (ci := 6) (q0 := 3) rfl rfl, cPre_go hZ hK hC⟩ rfl rfl hl.1 rfl (lv_room (Nat.le_of_ble_eq_true rfl)) dX7_compound_134 (cAcc h0 mo8 hr9)) hC.2.2.1 (fun q _ h => hFc q h) hFc (fun u9 t9 H1 locs ht hvm hw hB hz1 hk1 hS => ?_)
    obtain ⟨⟨hP, hK1, hD1⟩, hsz1⟩ := hB
    rw [ht] at hP hsz1
    have hC : CP dC dI Q A s.heap p7.2 H1 locs := ⟨hP, hD1.weaken (fun _ _ _ h => hFc _ h), hS, hsz1⟩
    generalize H1 = H at hC ⊢
    have h10 : (CS.hs σ) ≤ CS.hs p7.2 := Nat.le_trans h0 mo8
    refine W.widen (k := CS.hs p7.2 - (CS.hs σ)) (n := 17 * (CS.hs p7.2 - (CS.hs σ))) (cAcc2 h0 mo8) (cAcc3 h0 mo8) ?_
    obtain rfl := Option.some.inj hf
    exact W.vret hx hb hr (fun t ht hW => ⟨⟨(), rfl, trivial, ⟨by rw [ht]; exact hC.1, va_K.moved hW.alike hK, hC.2.1⟩, by rw [ht]; exact hC.2.2.2⟩, hC.2.2.1.F ht⟩) hC.2.2.1.2.2 dX7_compound_137
  replace hf := (if_neg c6).symm.trans hf
  by_cases c11 : (σ.i 43) = 205
  ·
    replace hf := (if_pos c11).symm.trans hf
    refine lv_tableIn (off := 84) (tgt := 91) hx hb dX7_compound_7 (by rw [c11]; decide) (by rw [c11]; decide) (by rw [c11]; decide) (by decide) ?_
    refine lv_aload_n hx hb dX7_compound_91 rfl (lv_at hl 0 rfl) ?_
    obtain ⟨p12, hcp12, hf⟩ := hf_bind hf
    have mo13 : CS.hs σ ≤ CS.hs p12.2 := Mono.go hcp12 (m_X7_beginWhile N E1 E2 hm1 hm2 σ)
    have hr9 : CS.hs p12.2 ≤ CS.hs R.2 := Mono.go hf (mono_some (Nat.le_refl _))
    have hFc := cFree hC hA
    refine va_callv (va_runV (As := []) (rest := []) ⟨hx, hb, hml, hown, hts⟩ (c_X7_beginWhile l dC dI Q N d E1 E2 hE1 hE2 hm1 hm2 σ p12 hcp12) (cwV 0 hts hX7_compound_X7_beginWhile_v246 rfl rfl rfl (by decide +kernel) ⟨(show (14 + 40 * d) + 1 ≤ (17 + 40 * d) by omega), (show 8 + (4 + 11) + 60 * (14 + 40 * d) ≤ 60 * (17 + 40 * d) by omega)⟩) ⟨zPre.blind, va_recv hK hC.1 (ci := 6) (q0 := 3) rfl rfl, cPre_go hZ hK hC⟩ rfl rfl hl.1 rfl (lv_room (Nat.le_of_ble_eq_true rfl)) dX7_compound_92 (cAcc h0 mo13 hr9)) hC.2.2.1 (fun q _ h => hFc q h) hFc (fun u9 t9 H1 locs ht hvm hw hB hz1 hk1 hS => ?_)
    obtain ⟨⟨hP, hK1, hD1⟩, hsz1⟩ := hB
    rw [ht] at hP hsz1
    have hC : CP dC dI Q A s.heap p12.2 H1 locs := ⟨hP, hD1.weaken (fun _ _ _ h => hFc _ h), hS, hsz1⟩
    generalize H1 = H at hC ⊢
    have h15 : (CS.hs σ) ≤ CS.hs p12.2 := Nat.le_trans h0 mo13
    refine W.widen (k := CS.hs p12.2 - (CS.hs σ)) (n := 17 * (CS.hs p12.2 - (CS.hs σ))) (cAcc2 h0 mo13) (cAcc3 h0 mo13) ?_
    refine lv_goto (tgt := 137) hx hb dX7_compound_95 (by decide) ?_
    obtain rfl := Option.some.inj hf
    exact W.vret hx hb hr (fun t ht hW => ⟨⟨(), rfl, trivial, ⟨by rw [ht]; exact hC.1, va_K.moved hW.alike hK, hC.2.1⟩, by rw [ht]; exact hC.2.2.2⟩, hC.2.2.1.F ht⟩) hC.2.2.1.2.2 dX7_compound_137
  replace hf := (if_neg c11).symm.trans hf
  by_cases c16 : (σ.i 43) = 206
  ·
    replace hf := (if_pos c16).symm.trans hf
    refine lv_tableIn (off := 91) (tgt := 98) hx hb dX7_compound_7 (by rw [c16]; decide) (by rw [c16]; decide) (by rw [c16]; decide) (by decide) ?_
    refine lv_aload_n hx hb dX7_compound_98 rfl (lv_at hl 0 rfl) ?_
    obtain ⟨p17, hcp17, hf⟩ := hf_bind hf
    have mo18 : CS.hs σ ≤ CS.hs p17.2 := Mono.go hcp17 (m_X7_beginDo N σ)
    have hr9 : CS.hs p17.2 ≤ CS.hs R.2 := Mono.go hf (mono_some (Nat.le_refl _))
    have hFc := cFree hC hA
    refine va_callv (va_runV (As := []) (rest := []) ⟨hx, hb, hml, hown, hts⟩ (c_X7_beginDo l dC dI Q N σ p17 hcp17) (cwV 0 hts hX7_compound_X7_beginDo_v249 rfl rfl rfl (by decide +kernel) ⟨(show 4 + 1 ≤ (17 + 40 * d) by omega), (show 8 + (2 + 11) + 60 * 4 ≤ 60 * (17 + 40 * d) by omega)⟩) ⟨zPre.blind, va_recv hK hC.1 (ci := 6) (q0 := 3) rfl rfl, cPre_go hZ hK hC⟩ rfl rfl hl.1 rfl (lv_room (Nat.le_of_ble_eq_true rfl)) dX7_compound_99 (cAcc h0 mo18 hr9)) hC.2.2.1 (fun q _ h => hFc q h) hFc (fun u9 t9 H1 locs ht hvm hw hB hz1 hk1 hS => ?_)
    obtain ⟨⟨hP, hK1, hD1⟩, hsz1⟩ := hB
    rw [ht] at hP hsz1
    have hC : CP dC dI Q A s.heap p17.2 H1 locs := ⟨hP, hD1.weaken (fun _ _ _ h => hFc _ h), hS, hsz1⟩
    generalize H1 = H at hC ⊢
    have h20 : (CS.hs σ) ≤ CS.hs p17.2 := Nat.le_trans h0 mo18
    refine W.widen (k := CS.hs p17.2 - (CS.hs σ)) (n := 17 * (CS.hs p17.2 - (CS.hs σ))) (cAcc2 h0 mo18) (cAcc3 h0 mo18) ?_
    refine lv_goto (tgt := 137) hx hb dX7_compound_102 (by decide) ?_
    obtain rfl := Option.some.inj hf
    exact W.vret hx hb hr (fun t ht hW => ⟨⟨(), rfl, trivial, ⟨by rw [ht]; exact hC.1, va_K.moved hW.alike hK, hC.2.1⟩, by rw [ht]; exact hC.2.2.2⟩, hC.2.2.1.F ht⟩) hC.2.2.1.2.2 dX7_compound_137
  replace hf := (if_neg c16).symm.trans hf
  by_cases c21 : (σ.i 43) = 207
  ·
    replace hf := (if_pos c21).symm.trans hf
    refine lv_tableIn (off := 98) (tgt := 105) hx hb dX7_compound_7 (by rw [c21]; decide) (by rw [c21]; decide) (by rw [c21]; decide) (by decide) ?_
    refine lv_aload_n hx hb dX7_compound_105 rfl (lv_at hl 0 rfl) ?_
    obtain ⟨p22, hcp22, hf⟩ := hf_bind hf
    have mo23 : CS.hs σ ≤ CS.hs p22.2 := Mono.go hcp22 (m_X7_beginFor N E1 E2 hm1 hm2 σ)
    have hr9 : CS.hs p22.2 ≤ CS.hs R.2 := Mono.go hf (mono_some (Nat.le_refl _))
    have hFc := cFree hC hA
    refine va_callv (va_runV (As := []) (rest := []) ⟨hx, hb, hml, hown, hts⟩ (c_X7_beginFor l dC dI Q N d E1 E2 hE1 hE2 hm1 hm2 σ p22 hcp22) (cwV 0 hts hX7_compound_X7_beginFor_v252 rfl rfl rfl (by decide +kernel) ⟨(show (16 + 40 * d) + 1 ≤ (17 + 40 * d) by omega), (show 8 + (5 + 11) + 60 * (16 + 40 * d) ≤ 60 * (17 + 40 * d) by omega)⟩) ⟨zPre.blind, va_recv hK hC.1 (ci := 6) (q0 := 3) rfl rfl, cPre_go hZ hK hC⟩ rfl rfl hl.1 rfl (lv_room (Nat.le_of_ble_eq_true rfl)) dX7_compound_106 (cAcc h0 mo23 hr9)) hC.2.2.1 (fun q _ h => hFc q h) hFc (fun u9 t9 H1 locs ht hvm hw hB hz1 hk1 hS => ?_)
    obtain ⟨⟨hP, hK1, hD1⟩, hsz1⟩ := hB
    rw [ht] at hP hsz1
    have hC : CP dC dI Q A s.heap p22.2 H1 locs := ⟨hP, hD1.weaken (fun _ _ _ h => hFc _ h), hS, hsz1⟩
    generalize H1 = H at hC ⊢
    have h25 : (CS.hs σ) ≤ CS.hs p22.2 := Nat.le_trans h0 mo23
    refine W.widen (k := CS.hs p22.2 - (CS.hs σ)) (n := 17 * (CS.hs p22.2 - (CS.hs σ))) (cAcc2 h0 mo23) (cAcc3 h0 mo23) ?_
    refine lv_goto (tgt := 137) hx hb dX7_compound_109 (by decide) ?_
    obtain rfl := Option.some.inj hf
    exact W.vret hx hb hr (fun t ht hW => ⟨⟨(), rfl, trivial, ⟨by rw [ht]; exact hC.1, va_K.moved hW.alike hK, hC.2.1⟩, by rw [ht]; exact hC.2.2.2⟩, hC.2.2.1.F ht⟩) hC.2.2.1.2.2 dX7_compound_137
  replace hf := (if_neg c21).symm.trans hf
  by_cases c26 : (σ.i 43) = 208
  ·
    replace hf := (if_pos c26).symm.trans hf
    refine lv_tableIn (off := 126) (tgt := 133) hx hb dX7_compound_7 (by rw [c26]; decide) (by rw [c26]; decide) (by rw [c26]; decide) (by decide) ?_
    refine lv_aload_n hx hb dX7_compound_133 rfl (lv_at hl 0 rfl) ?_
    obtain ⟨p27, hcp27, hf⟩ := hf_bind hf
    have mo28 : CS.hs σ ≤ CS.hs p27.2 := Mono.go hcp27 (m_X1_misplaced N σ)
    have hr9 : CS.hs p27.2 ≤ CS.hs R.2 := Mono.go hf (mono_some (Nat.le_refl _))
    have hFc := cFree hC hA
    refine va_callv (va_runU (As := []) (rest := []) ⟨hx, hb, hml, hown, hts⟩ (c_X1_misplaced l dC dI Q N σ p27 hcp27) (va_cwU 0 hts hX7_compound_X1_misplaced_u161 rfl rfl rfl rfl (by decide +kernel) ⟨(show 3 + 1 ≤ (17 + 40 * d) by omega), (show 8 + (1 + 11) + 60 * 3 ≤ 60 * (17 + 40 * d) by omega)⟩) ⟨zPre.blind, va_recv hK hC.1 (ci := 6) (q0 := 3) rfl rfl, cPre_go hZ hK hC⟩ rfl rfl hl.1 rfl (lv_room (Nat.le_of_ble_eq_true rfl)) dX7_compound_134 (cAcc h0 mo28 hr9)) hC.2.2.1 (fun q _ h => hFc q h) hFc (fun u9 t9 H1 locs ht hvm hw hB hz1 hk1 hS => ?_)
    obtain ⟨⟨hP, hK1, hD1⟩, hsz1⟩ := hB
    rw [ht] at hP hsz1
    have hC : CP dC dI Q A s.heap p27.2 H1 locs := ⟨hP, hD1.weaken (fun _ _ _ h => hFc _ h), hS, hsz1⟩
    generalize H1 = H at hC ⊢
    have h30 : (CS.hs σ) ≤ CS.hs p27.2 := Nat.le_trans h0 mo28
    refine W.widen (k := CS.hs p27.2 - (CS.hs σ)) (n := 17 * (CS.hs p27.2 - (CS.hs σ))) (cAcc2 h0 mo28) (cAcc3 h0 mo28) ?_
    obtain rfl := Option.some.inj hf
    exact W.vret hx hb hr (fun t ht hW => ⟨⟨(), rfl, trivial, ⟨by rw [ht]; exact hC.1, va_K.moved hW.alike hK, hC.2.1⟩, by rw [ht]; exact hC.2.2.2⟩, hC.2.2.1.F ht⟩) hC.2.2.1.2.2 dX7_compound_137
  replace hf := (if_neg c26).symm.trans hf
  by_cases c31 : (σ.i 43) = 209
  ·
    replace hf := (if_pos c31).symm.trans hf
    refine lv_tableIn (off := 126) (tgt := 133) hx hb dX7_compound_7 (by rw [c31]; decide) (by rw [c31]; decide) (by rw [c31]; decide) (by decide) ?_
    refine lv_aload_n hx hb dX7_compound_133 rfl (lv_at hl 0 rfl) ?_
    obtain ⟨p32, hcp32, hf⟩ := hf_bind hf
    have mo33 : CS.hs σ ≤ CS.hs p32.2 := Mono.go hcp32 (m_X1_misplaced N σ)
    have hr9 : CS.hs p32.2 ≤ CS.hs R.2 := Mono.go hf (mono_some (Nat.le_refl _))
    have hFc := cFree hC hA
    refine va_callv (va_runU (As := []) (rest := []) ⟨hx, hb, hml, hown, hts⟩ (c_X1_misplaced l dC dI Q N σ p32 hcp32) (va_cwU 0 hts hX7_compound_X1_misplaced_u161 rfl rfl rfl rfl (by decide +kernel) ⟨(show 3 + 1 ≤ (17 + 40 * d) by omega), (show 8 + (1 + 11) + 60 * 3 ≤ 60 * (17 + 40 * d) by omega)⟩) ⟨zPre.blind, va_recv hK hC.1 (ci := 6) (q0 := 3) rfl rfl, cPre_go hZ hK hC⟩ rfl rfl hl.1 rfl (lv_room (Nat.le_of_ble_eq_true rfl)) dX7_compound_134 (cAcc h0 mo33 hr9)) hC.2.2.1 (fun q _ h => hFc q h) hFc (fun u9 t9 H1 locs ht hvm hw hB hz1 hk1 hS => ?_)
    obtain ⟨⟨hP, hK1, hD1⟩, hsz1⟩ := hB
    rw [ht] at hP hsz1
    have hC : CP dC dI Q A s.heap p32.2 H1 locs := ⟨hP, hD1.weaken (fun _ _ _ h => hFc _ h), hS, hsz1⟩
    generalize H1 = H at hC ⊢
    have h35 : (CS.hs σ) ≤ CS.hs p32.2 := Nat.le_trans h0 mo33
    refine W.widen (k := CS.hs p32.2 - (CS.hs σ)) (n := 17 * (CS.hs p32.2 - (CS.hs σ))) (cAcc2 h0 mo33) (cAcc3 h0 mo33) ?_
    obtain rfl := Option.some.inj hf
    exact W.vret hx hb hr (fun t ht hW => ⟨⟨(), rfl, trivial, ⟨by rw [ht]; exact hC.1, va_K.moved hW.alike hK, hC.2.1⟩, by rw [ht]; exact hC.2.2.2⟩, hC.2.2.1.F ht⟩) hC.2.2.1.2.2 dX7_compound_137
  replace hf := (if_neg c31).symm.trans hf
  by_cases c36 : (σ.i 43) = 210
  ·
    replace hf := (if_pos c36).symm.trans hf
    refine lv_tableIn (off := 126) (tgt := 133) hx hb dX7_compound_7 (by rw [c36]; decide) (by rw [c36]; decide) (by rw [c36]; decide) (by decide) ?_
    refine lv_aload_n hx hb dX7_compound_133 rfl (lv_at hl 0 rfl) ?_
    obtain ⟨p37, hcp37, hf⟩ := hf_bind hf
    have mo38 : CS.hs σ ≤ CS.hs p37.2 := Mono.go hcp37 (m_X1_misplaced N σ)
    have hr9 : CS.hs p37.2 ≤ CS.hs R.2 := Mono.go hf (mono_some (Nat.le_refl _))
    have hFc := cFree hC hA
    refine va_callv (va_runU (As := []) (rest := []) ⟨hx, hb, hml, hown, hts⟩ (c_X1_misplaced l dC dI Q N σ p37 hcp37) (va_cwU 0 hts hX7_compound_X1_misplaced_u161 rfl rfl rfl rfl (by decide +kernel) ⟨(show 3 + 1 ≤ (17 + 40 * d) by omega), (show 8 + (1 + 11) + 60 * 3 ≤ 60 * (17 + 40 * d) by omega)⟩) ⟨zPre.blind, va_recv hK hC.1 (ci := 6) (q0 := 3) rfl rfl, cPre_go hZ hK hC⟩ rfl rfl hl.1 rfl (lv_room (Nat.le_of_ble_eq_true rfl)) dX7_compound_134 (cAcc h0 mo38 hr9)) hC.2.2.1 (fun q _ h => hFc q h) hFc (fun u9 t9 H1 locs ht hvm hw hB hz1 hk1 hS => ?_)
    obtain ⟨⟨hP, hK1, hD1⟩, hsz1⟩ := hB
    rw [ht] at hP hsz1
    have hC : CP dC dI Q A s.heap p37.2 H1 locs := ⟨hP, hD1.weaken (fun _ _ _ h => hFc _ h), hS, hsz1⟩
    generalize H1 = H at hC ⊢
    have h40 : (CS.hs σ) ≤ CS.hs p37.2 := Nat.le_trans h0 mo38
    refine W.widen (k := CS.hs p37.2 - (CS.hs σ)) (n := 17 * (CS.hs p37.2 - (CS.hs σ))) (cAcc2 h0 mo38) (cAcc3 h0 mo38) ?_
    obtain rfl := Option.some.inj hf
    exact W.vret hx hb hr (fun t ht hW => ⟨⟨(), rfl, trivial, ⟨by rw [ht]; exact hC.1, va_K.moved hW.alike hK, hC.2.1⟩, by rw [ht]; exact hC.2.2.2⟩, hC.2.2.1.F ht⟩) hC.2.2.1.2.2 dX7_compound_137
  replace hf := (if_neg c36).symm.trans hf
  by_cases c41 : (σ.i 43) = 211
  ·
    replace hf := (if_pos c41).symm.trans hf
    refine lv_tableIn (off := 126) (tgt := 133) hx hb dX7_compound_7 (by rw [c41]; decide) (by rw [c41]; decide) (by rw [c41]; decide) (by decide) ?_
    refine lv_aload_n hx hb dX7_compound_133 rfl (lv_at hl 0 rfl) ?_
    obtain ⟨p42, hcp42, hf⟩ := hf_bind hf
    have mo43 : CS.hs σ ≤ CS.hs p42.2 := Mono.go hcp42 (m_X1_misplaced N σ)
    have hr9 : CS.hs p42.2 ≤ CS.hs R.2 := Mono.go hf (mono_some (Nat.le_refl _))
    have hFc := cFree hC hA
    refine va_callv (va_runU (As := []) (rest := []) ⟨hx, hb, hml, hown, hts⟩ (c_X1_misplaced l dC dI Q N σ p42 hcp42) (va_cwU 0 hts hX7_compound_X1_misplaced_u161 rfl rfl rfl rfl (by decide +kernel) ⟨(show 3 + 1 ≤ (17 + 40 * d) by omega), (show 8 + (1 + 11) + 60 * 3 ≤ 60 * (17 + 40 * d) by omega)⟩) ⟨zPre.blind, va_recv hK hC.1 (ci := 6) (q0 := 3) rfl rfl, cPre_go hZ hK hC⟩ rfl rfl hl.1 rfl (lv_room (Nat.le_of_ble_eq_true rfl)) dX7_compound_134 (cAcc h0 mo43 hr9)) hC.2.2.1 (fun q _ h => hFc q h) hFc (fun u9 t9 H1 locs ht hvm hw hB hz1 hk1 hS => ?_)
    obtain ⟨⟨hP, hK1, hD1⟩, hsz1⟩ := hB
    rw [ht] at hP hsz1
    have hC : CP dC dI Q A s.heap p42.2 H1 locs := ⟨hP, hD1.weaken (fun _ _ _ h => hFc _ h), hS, hsz1⟩
    generalize H1 = H at hC ⊢
    have h45 : (CS.hs σ) ≤ CS.hs p42.2 := Nat.le_trans h0 mo43
    refine W.widen (k := CS.hs p42.2 - (CS.hs σ)) (n := 17 * (CS.hs p42.2 - (CS.hs σ))) (cAcc2 h0 mo43) (cAcc3 h0 mo43) ?_
    obtain rfl := Option.some.inj hf
    exact W.vret hx hb hr (fun t ht hW => ⟨⟨(), rfl, trivial, ⟨by rw [ht]; exact hC.1, va_K.moved hW.alike hK, hC.2.1⟩, by rw [ht]; exact hC.2.2.2⟩, hC.2.2.1.F ht⟩) hC.2.2.1.2.2 dX7_compound_137
  replace hf := (if_neg c41).symm.trans hf
  by_cases c46 : (σ.i 43) = 212
  ·
    replace hf := (if_pos c46).symm.trans hf
    refine lv_tableIn (off := 105) (tgt := 112) hx hb dX7_compound_7 (by rw [c46]; decide) (by rw [c46]; decide) (by rw [c46]; decide) (by decide) ?_
    refine lv_aload_n hx hb dX7_compound_112 rfl (lv_at hl 0 rfl) ?_
    obtain ⟨p47, hcp47, hf⟩ := hf_bind hf
    have mo48 : CS.hs σ ≤ CS.hs p47.2 := Mono.go hcp47 (m_X7_beginLock N σ)
    have hr9 : CS.hs p47.2 ≤ CS.hs R.2 := Mono.go hf (mono_some (Nat.le_refl _))
    have hFc := cFree hC hA
    refine va_callv (va_runV (As := []) (rest := []) ⟨hx, hb, hml, hown, hts⟩ (c_X7_beginLock l dC dI Q N σ p47 hcp47) (cwV 0 hts hX7_compound_X7_beginLock_v255 rfl rfl rfl (by decide +kernel) ⟨(show 5 + 1 ≤ (17 + 40 * d) by omega), (show 8 + (2 + 11) + 60 * 5 ≤ 60 * (17 + 40 * d) by omega)⟩) ⟨zPre.blind, va_recv hK hC.1 (ci := 6) (q0 := 3) rfl rfl, cPre_go hZ hK hC⟩ rfl rfl hl.1 rfl (lv_room (Nat.le_of_ble_eq_true rfl)) dX7_compound_113 (cAcc h0 mo48 hr9)) hC.2.2.1 (fun q _ h => hFc q h) hFc (fun u9 t9 H1 locs ht hvm hw hB hz1 hk1 hS => ?_)
    obtain ⟨⟨hP, hK1, hD1⟩, hsz1⟩ := hB
    rw [ht] at hP hsz1
    have hC : CP dC dI Q A s.heap p47.2 H1 locs := ⟨hP, hD1.weaken (fun _ _ _ h => hFc _ h), hS, hsz1⟩
    generalize H1 = H at hC ⊢
    have h50 : (CS.hs σ) ≤ CS.hs p47.2 := Nat.le_trans h0 mo48
    refine W.widen (k := CS.hs p47.2 - (CS.hs σ)) (n := 17 * (CS.hs p47.2 - (CS.hs σ))) (cAcc2 h0 mo48) (cAcc3 h0 mo48) ?_
    refine lv_goto (tgt := 137) hx hb dX7_compound_116 (by decide) ?_
    obtain rfl := Option.some.inj hf
    exact W.vret hx hb hr (fun t ht hW => ⟨⟨(), rfl, trivial, ⟨by rw [ht]; exact hC.1, va_K.moved hW.alike hK, hC.2.1⟩, by rw [ht]; exact hC.2.2.2⟩, hC.2.2.1.F ht⟩) hC.2.2.1.2.2 dX7_compound_137
  replace hf := (if_neg c46).symm.trans hf
  by_cases c51 : (σ.i 43) = 213
  ·
    replace hf := (if_pos c51).symm.trans hf
    refine lv_tableIn (off := 119) (tgt := 126) hx hb dX7_compound_7 (by rw [c51]; decide) (by rw [c51]; decide) (by rw [c51]; decide) (by decide) ?_
    refine lv_aload_n hx hb dX7_compound_126 rfl (lv_at hl 0 rfl) ?_
    obtain ⟨p52, hcp52, hf⟩ := hf_bind hf
    have mo53 : CS.hs σ ≤ CS.hs p52.2 := Mono.go hcp52 (m_X7_beginTry N σ)
    have hr9 : CS.hs p52.2 ≤ CS.hs R.2 := Mono.go hf (mono_some (Nat.le_refl _))
    have hFc := cFree hC hA
    refine va_callv (va_runV (As := []) (rest := []) ⟨hx, hb, hml, hown, hts⟩ (c_X7_beginTry l dC dI Q N σ p52 hcp52) (cwV 0 hts hX7_compound_X7_beginTry_v261 rfl rfl rfl (by decide +kernel) ⟨(show 5 + 1 ≤ (17 + 40 * d) by omega), (show 8 + (3 + 11) + 60 * 5 ≤ 60 * (17 + 40 * d) by omega)⟩) ⟨zPre.blind, va_recv hK hC.1 (ci := 6) (q0 := 3) rfl rfl, cPre_go hZ hK hC⟩ rfl rfl hl.1 rfl (lv_room (Nat.le_of_ble_eq_true rfl)) dX7_compound_127 (cAcc h0 mo53 hr9)) hC.2.2.1 (fun q _ h => hFc q h) hFc (fun u9 t9 H1 locs ht hvm hw hB hz1 hk1 hS => ?_)
    obtain ⟨⟨hP, hK1, hD1⟩, hsz1⟩ := hB
    rw [ht] at hP hsz1
    have hC : CP dC dI Q A s.heap p52.2 H1 locs := ⟨hP, hD1.weaken (fun _ _ _ h => hFc _ h), hS, hsz1⟩
    generalize H1 = H at hC ⊢
    have h55 : (CS.hs σ) ≤ CS.hs p52.2 := Nat.le_trans h0 mo53
    refine W.widen (k := CS.hs p52.2 - (CS.hs σ)) (n := 17 * (CS.hs p52.2 - (CS.hs σ))) (cAcc2 h0 mo53) (cAcc3 h0 mo53) ?_
    refine lv_goto (tgt := 137) hx hb dX7_compound_130 (by decide) ?_
    obtain rfl := Option.some.inj hf
    exact W.vret hx hb hr (fun t ht hW => ⟨⟨(), rfl, trivial, ⟨by rw [ht]; exact hC.1, va_K.moved hW.alike hK, hC.2.1⟩, by rw [ht]; exact hC.2.2.2⟩, hC.2.2.1.F ht⟩) hC.2.2.1.2.2 dX7_compound_137
  replace hf := (if_neg c51).symm.trans hf
  by_cases c56 : (σ.i 43) = 214
  ·
    replace hf := (if_pos c56).symm.trans hf
    refine lv_tableIn (off := 126) (tgt := 133) hx hb dX7_compound_7 (by rw [c56]; decide) (by rw [c56]; decide) (by rw [c56]; decide) (by decide) ?_
    refine lv_aload_n hx hb dX7_compound_133 rfl (lv_at hl 0 rfl) ?_
    obtain ⟨p57, hcp57, hf⟩ := hf_bind hf
    have mo58 : CS.hs σ ≤ CS.hs p57.2 := Mono.go hcp57 (m_X1_misplaced N σ)
    have hr9 : CS.hs p57.2 ≤ CS.hs R.2 := Mono.go hf (mono_some (Nat.le_refl _))
    have hFc := cFree hC hA
    refine va_callv (va_runU (As := []) (rest := []) ⟨hx, hb, hml, hown, hts⟩ (c_X1_misplaced l dC dI Q N σ p57 hcp57) (va_cwU 0 hts hX7_compound_X1_misplaced_u161 rfl rfl rfl rfl (by decide +kernel) ⟨(show 3 + 1 ≤ (17 + 40 * d) by omega), (show 8 + (1 + 11) + 60 * 3 ≤ 60 * (17 + 40 * d) by omega)⟩) ⟨zPre.blind, va_recv hK hC.1 (ci := 6) (q0 := 3) rfl rfl, cPre_go hZ hK hC⟩ rfl rfl hl.1 rfl (lv_room (Nat.le_of_ble_eq_true rfl)) dX7_compound_134 (cAcc h0 mo58 hr9)) hC.2.2.1 (fun q _ h => hFc q h) hFc (fun u9 t9 H1 locs ht hvm hw hB hz1 hk1 hS => ?_)
    obtain ⟨⟨hP, hK1, hD1⟩, hsz1⟩ := hB
    rw [ht] at hP hsz1
    have hC : CP dC dI Q A s.heap p57.2 H1 locs := ⟨hP, hD1.weaken (fun _ _ _ h => hFc _ h), hS, hsz1⟩
    generalize H1 = H at hC ⊢
    have h60 : (CS.hs σ) ≤ CS.hs p57.2 := Nat.le_trans h0 mo58
    refine W.widen (k := CS.hs p57.2 - (CS.hs σ)) (n := 17 * (CS.hs p57.2 - (CS.hs σ))) (cAcc2 h0 mo58) (cAcc3 h0 mo58) ?_
    obtain rfl := Option.some.inj hf
    exact W.vret hx hb hr (fun t ht hW => ⟨⟨(), rfl, trivial, ⟨by rw [ht]; exact hC.1, va_K.moved hW.alike hK, hC.2.1⟩, by rw [ht]; exact hC.2.2.2⟩, hC.2.2.1.F ht⟩) hC.2.2.1.2.2 dX7_compound_137
  replace hf := (if_neg c56).symm.trans hf
  by_cases c61 : (σ.i 43) = 215
  ·
    replace hf := (if_pos c61).symm.trans hf
    refine lv_tableIn (off := 126) (tgt := 133) hx hb dX7_compound_7 (by rw [c61]; decide) (by rw [c61]; decide) (by rw [c61]; decide) (by decide) ?_
    refine lv_aload_n hx hb dX7_compound_133 rfl (lv_at hl 0 rfl) ?_
    obtain ⟨p62, hcp62, hf⟩ := hf_bind hf
    have mo63 : CS.hs σ ≤ CS.hs p62.2 := Mono.go hcp62 (m_X1_misplaced N σ)
    have hr9 : CS.hs p62.2 ≤ CS.hs R.2 := Mono.go hf (mono_some (Nat.le_refl _))
    have hFc := cFree hC hA
    refine va_callv (va_runU (As := []) (rest := []) ⟨hx, hb, hml, hown, hts⟩ (c_X1_misplaced l dC dI Q N σ p62 hcp62) (va_cwU 0 hts hX7_compound_X1_misplaced_u161 rfl rfl rfl rfl (by decide +kernel) ⟨(show 3 + 1 ≤ (17 + 40 * d) by omega), (show 8 + (1 + 11) + 60 * 3 ≤ 60 * (17 + 40 * d) by omega)⟩) ⟨zPre.blind, va_recv hK hC.1 (ci := 6) (q0 := 3) rfl rfl, cPre_go hZ hK hC⟩ rfl rfl hl.1 rfl (lv_room (Nat.le_of_ble_eq_true rfl)) dX7_compound_134 (cAcc h0 mo63 hr9)) hC.2.2.1 (fun q _ h => hFc q h) hFc (fun u9 t9 H1 locs ht hvm hw hB hz1 hk1 hS => ?_)
    obtain ⟨⟨hP, hK1, hD1⟩, hsz1⟩ := hB
    rw [ht] at hP hsz1
    have hC : CP dC dI Q A s.heap p62.2 H1 locs := ⟨hP, hD1.weaken (fun _ _ _ h => hFc _ h), hS, hsz1⟩
    generalize H1 = H at hC ⊢
    have h65 : (CS.hs σ) ≤ CS.hs p62.2 := Nat.le_trans h0 mo63
    refine W.widen (k := CS.hs p62.2 - (CS.hs σ)) (n := 17 * (CS.hs p62.2 - (CS.hs σ))) (cAcc2 h0 mo63) (cAcc3 h0 mo63) ?_
    obtain rfl := Option.some.inj hf
    exact W.vret hx hb hr (fun t ht hW => ⟨⟨(), rfl, trivial, ⟨by rw [ht]; exact hC.1, va_K.moved hW.alike hK, hC.2.1⟩, by rw [ht]; exact hC.2.2.2⟩, hC.2.2.1.F ht⟩) hC.2.2.1.2.2 dX7_compound_137
  replace hf := (if_neg c61).symm.trans hf
  by_cases c66 : (σ.i 43) = 216
  ·
    replace hf := (if_pos c66).symm.trans hf
    refine lv_tableIn (off := 126) (tgt := 133) hx hb dX7_compound_7 (by rw [c66]; decide) (by rw [c66]; decide) (by rw [c66]; decide) (by decide) ?_
    refine lv_aload_n hx hb dX7_compound_133 rfl (lv_at hl 0 rfl) ?_
    obtain ⟨p67, hcp67, hf⟩ := hf_bind hf
    have mo68 : CS.hs σ ≤ CS.hs p67.2 := Mono.go hcp67 (m_X1_misplaced N σ)
    have hr9 : CS.hs p67.2 ≤ CS.hs R.2 := Mono.go hf (mono_some (Nat.le_refl _))
    have hFc := cFree hC hA
    refine va_callv (va_runU (As := []) (rest := []) ⟨hx, hb, hml, hown, hts⟩ (c_X1_misplaced l dC dI Q N σ p67 hcp67) (va_cwU 0 hts hX7_compound_X1_misplaced_u161 rfl rfl rfl rfl (by decide +kernel) ⟨(show 3 + 1 ≤ (17 + 40 * d) by omega), (show 8 + (1 + 11) + 60 * 3 ≤ 60 * (17 + 40 * d) by omega)⟩) ⟨zPre.blind, va_recv hK hC.1 (ci := 6) (q0 := 3) rfl rfl, cPre_go hZ hK hC⟩ rfl rfl hl.1 rfl (lv_room (Nat.le_of_ble_eq_true rfl)) dX7_compound_134 (cAcc h0 mo68 hr9)) hC.2.2.1 (fun q _ h => hFc q h) hFc (fun u9 t9 H1 locs ht hvm hw hB hz1 hk1 hS => ?_)
    obtain ⟨⟨hP, hK1, hD1⟩, hsz1⟩ := hB
    rw [ht] at hP hsz1
    have hC : CP dC dI Q A s.heap p67.2 H1 locs := ⟨hP, hD1.weaken (fun _ _ _ h => hFc _ h), hS, hsz1⟩
    generalize H1 = H at hC ⊢
    have h70 : (CS.hs σ) ≤ CS.hs p67.2 := Nat.le_trans h0 mo68
    refine W.widen (k := CS.hs p67.2 - (CS.hs σ)) (n := 17 * (CS.hs p67.2 - (CS.hs σ))) (cAcc2 h0 mo68) (cAcc3 h0 mo68) ?_
    obtain rfl := Option.some.inj hf
    exact W.vret hx hb hr (fun t ht hW => ⟨⟨(), rfl, trivial, ⟨by rw [ht]; exact hC.1, va_K.moved hW.alike hK, hC.2.1⟩, by rw [ht]; exact hC.2.2.2⟩, hC.2.2.1.F ht⟩) hC.2.2.1.2.2 dX7_compound_137
  replace hf := (if_neg c66).symm.trans hf
  by_cases c71 : (σ.i 43) = 217
  ·
    replace hf := (if_pos c71).symm.trans hf
    refine lv_tableIn (off := 126) (tgt := 133) hx hb dX7_compound_7 (by rw [c71]; decide) (by rw [c71]; decide) (by rw [c71]; decide) (by decide) ?_
    refine lv_aload_n hx hb dX7_compound_133 rfl (lv_at hl 0 rfl) ?_
    obtain ⟨p72, hcp72, hf⟩ := hf_bind hf
    have mo73 : CS.hs σ ≤ CS.hs p72.2 := Mono.go hcp72 (m_X1_misplaced N σ)
    have hr9 : CS.hs p72.2 ≤ CS.hs R.2 := Mono.go hf (mono_some (Nat.le_refl _))
    have hFc := cFree hC hA
    refine va_callv (va_runU (As := []) (rest := []) ⟨hx, hb, hml, hown, hts⟩ (c_X1_misplaced l dC dI Q N σ p72 hcp72) (va_cwU 0 hts hX7_compound_X1_misplaced_u161 rfl rfl rfl rfl (by decide +kernel) ⟨(show 3 + 1 ≤ (17 + 40 * d) by omega), (show 8 + (1 + 11) + 60 * 3 ≤ 60 * (17 + 40 * d) by omega)⟩) ⟨zPre.blind, va_recv hK hC.1 (ci := 6) (q0 := 3) rfl rfl, cPre_go hZ hK hC⟩ rfl rfl hl.1 rfl (lv_room (Nat.le_of_ble_eq_true rfl)) dX7_compound_134 (cAcc h0 mo73 hr9)) hC.2.2.1 (fun q _ h => hFc q h) hFc (fun u9 t9 H1 locs ht hvm hw hB hz1 hk1 hS => ?_)
    obtain ⟨⟨hP, hK1, hD1⟩, hsz1⟩ := hB
    rw [ht] at hP hsz1
    have hC : CP dC dI Q A s.heap p72.2 H1 locs := ⟨hP, hD1.weaken (fun _ _ _ h => hFc _ h), hS, hsz1⟩
    generalize H1 = H at hC ⊢
    have h75 : (CS.hs σ) ≤ CS.hs p72.2 := Nat.le_trans h0 mo73
    refine W.widen (k := CS.hs p72.2 - (CS.hs σ)) (n := 17 * (CS.hs p72.2 - (CS.hs σ))) (cAcc2 h0 mo73) (cAcc3 h0 mo73) ?_
    obtain rfl := Option.some.inj hf
    exact W.vret hx hb hr (fun t ht hW => ⟨⟨(), rfl, trivial, ⟨by rw [ht]; exact hC.1, va_K.moved hW.alike hK, hC.2.1⟩, by rw [ht]; exact hC.2.2.2⟩, hC.2.2.1.F ht⟩) hC.2.2.1.2.2 dX7_compound_137
  replace hf := (if_neg c71).symm.trans hf
  by_cases c76 : (σ.i 43) = 218
  ·
    replace hf := (if_pos c76).symm.trans hf
    refine lv_tableIn (off := 112) (tgt := 119) hx hb dX7_compound_7 (by rw [c76]; decide) (by rw [c76]; decide) (by rw [c76]; decide) (by decide) ?_
    refine lv_aload_n hx hb dX7_compound_119 rfl (lv_at hl 0 rfl) ?_
    obtain ⟨p77, hcp77, hf⟩ := hf_bind hf
    have mo78 : CS.hs σ ≤ CS.hs p77.2 := Mono.go hcp77 (m_X7_beginSwitch N E1 E2 hm1 hm2 σ)
    have hr9 : CS.hs p77.2 ≤ CS.hs R.2 := Mono.go hf (mono_some (Nat.le_refl _))
    have hFc := cFree hC hA
    refine va_callv (va_runV (As := []) (rest := []) ⟨hx, hb, hml, hown, hts⟩ (c_X7_beginSwitch l dC dI Q N d E1 E2 hE1 hE2 hm1 hm2 σ p77 hcp77) (cwV 0 hts hX7_compound_X7_beginSwitch_v258 rfl rfl rfl (by decide +kernel) ⟨(show (13 + 40 * d) + 1 ≤ (17 + 40 * d) by omega), (show 8 + (2 + 11) + 60 * (13 + 40 * d) ≤ 60 * (17 + 40 * d) by omega)⟩) ⟨zPre.blind, va_recv hK hC.1 (ci := 6) (q0 := 3) rfl rfl, cPre_go hZ hK hC⟩ rfl rfl hl.1 rfl (lv_room (Nat.le_of_ble_eq_true rfl)) dX7_compound_120 (cAcc h0 mo78 hr9)) hC.2.2.1 (fun q _ h => hFc q h) hFc (fun u9 t9 H1 locs ht hvm hw hB hz1 hk1 hS => ?_)
    obtain ⟨⟨hP, hK1, hD1⟩, hsz1⟩ := hB
    rw [ht] at hP hsz1
    have hC : CP dC dI Q A s.heap p77.2 H1 locs := ⟨hP, hD1.weaken (fun _ _ _ h => hFc _ h), hS, hsz1⟩
    generalize H1 = H at hC ⊢
    have h80 : (CS.hs σ) ≤ CS.hs p77.2 := Nat.le_trans h0 mo78
    refine W.widen (k := CS.hs p77.2 - (CS.hs σ)) (n := 17 * (CS.hs p77.2 - (CS.hs σ))) (cAcc2 h0 mo78) (cAcc3 h0 mo78) ?_
    refine lv_goto (tgt := 137) hx hb dX7_compound_123 (by decide) ?_
    obtain rfl := Option.some.inj hf
    exact W.vret hx hb hr (fun t ht hW => ⟨⟨(), rfl, trivial, ⟨by rw [ht]; exact hC.1, va_K.moved hW.alike hK, hC.2.1⟩, by rw [ht]; exact hC.2.2.2⟩, hC.2.2.1.F ht⟩) hC.2.2.1.2.2 dX7_compound_137
  replace hf := (if_neg c76).symm.trans hf
  refine lv_tableOut (tgt := 133) hx hb dX7_compound_7 (by have := z_ton (a := 203) c1 (by decide); have := z_ton (a := 204) c6 (by decide); have := z_ton (a := 205) c11 (by decide); have := z_ton (a := 206) c16 (by decide); have := z_ton (a := 207) c21 (by decide); have := z_ton (a := 208) c26 (by decide); have := z_ton (a := 209) c31 (by decide); have := z_ton (a := 210) c36 (by decide); have := z_ton (a := 211) c41 (by decide); have := z_ton (a := 212) c46 (by decide); have := z_ton (a := 213) c51 (by decide); have := z_ton (a := 214) c56 (by decide); have := z_ton (a := 215) c61 (by decide); have := z_ton (a := 216) c66 (by decide); have := z_ton (a := 217) c71 (by decide); have := z_ton (a := 218) c76 (by decide); omega) (by decide) ?_
  refine lv_aload_n hx hb dX7_compound_133 rfl (lv_at hl 0 rfl) ?_
  obtain ⟨p81, hcp81, hf⟩ := hf_bind hf
  have mo82 : CS.hs σ ≤ CS.hs p81.2 := Mono.go hcp81 (m_X1_misplaced N σ)
  have hr9 : CS.hs p81.2 ≤ CS.hs R.2 := Mono.go hf (mono_some (Nat.le_refl _))
  have hFc := cFree hC hA
  refine va_callv (va_runU (As := []) (rest := []) ⟨hx, hb, hml, hown, hts⟩ (c_X1_misplaced l dC dI Q N σ p81 hcp81) (va_cwU 0 hts hX7_compound_X1_misplaced_u161 rfl rfl rfl rfl (by decide +kernel) ⟨(show 3 + 1 ≤ (17 + 40 * d) by omega), (show 8 + (1 + 11) + 60 * 3 ≤ 60 * (17 + 40 * d) by omega)⟩) ⟨zPre.blind, va_recv hK hC.1 (ci := 6) (q0 := 3) rfl rfl, cPre_go hZ hK hC⟩ rfl rfl hl.1 rfl (lv_room (Nat.le_of_ble_eq_true rfl)) dX7_compound_134 (cAcc h0 mo82 hr9)) hC.2.2.1 (fun q _ h => hFc q h) hFc (fun u9 t9 H1 locs ht hvm hw hB hz1 hk1 hS => ?_)
  obtain ⟨⟨hP, hK1, hD1⟩, hsz1⟩ := hB
  rw [ht] at hP hsz1
  have hC : CP dC dI Q A s.heap p81.2 H1 locs := ⟨hP, hD1.weaken (fun _ _ _ h => hFc _ h), hS, hsz1⟩
  generalize H1 = H at hC ⊢
  have h84 : (CS.hs σ) ≤ CS.hs p81.2 := Nat.le_trans h0 mo82
  refine W.widen (k := CS.hs p81.2 - (CS.hs σ)) (n := 17 * (CS.hs p81.2 - (CS.hs σ))) (cAcc2 h0 mo82) (cAcc3 h0 mo82) ?_
  obtain rfl := Option.some.inj hf
  exact W.vret hx hb hr (fun t ht hW => ⟨⟨(), rfl, trivial, ⟨by rw [ht]; exact hC.1, va_K.moved hW.alike hK, hC.2.1⟩, by rw [ht]; exact hC.2.2.2⟩, hC.2.2.1.F ht⟩) hC.2.2.1.2.2 dX7_compound_137
theorem k_X7_plain_fieldLink_RX7_71_SR_Statements_tokens_LSR_Tokens : Cond.fieldLink RX7 71 "StatementRules2$Statements" "tokens" "LStatementRules2$Tokens;" ∈ wzX7_plain := List.mem_cons_of_mem _ (List.mem_append_right _ (List.mem_append_right _ (List.mem_append_right _ (List.mem_append_right _ (List.mem_append_right _ (List.mem_append_right _ (List.mem_append_right _ (List.mem_append_right _ (List.mem_append_right _ (List.mem_append_right _ (List.mem_append_right _ (List.mem_append_right _ (List.mem_append_right _ (List.mem_append_right _ (List.mem_append_right _ (List.mem_append_right _ (List.mem_append_right _ (List.mem_append_right _ (List.mem_append_right _ (List.mem_append_right _ (List.mem_append_right _ (List.mem_append_right _ (List.mem_append_right _ (List.mem_append_right _ (List.mem_append_right _ (List.mem_append_right _ (List.mem_append_right _ (List.mem_append_right _ (List.mem_append_right _ (List.mem_append_left _ (List.mem_of_getElem? (i := 0) rfl)))))))))))))))))))))))))))))))
theorem k_X7_plain_sameField_SR_Statements_SR_Formulas_tokens_LSR_Tokens : Cond.sameField "StatementRules2$Statements" "StatementRules2$Formulas" "tokens" "LStatementRules2$Tokens;" ∈ wzX7_plain := List.mem_cons_of_mem _ (List.mem_append_right _ (List.mem_append_right _ (List.mem_append_right _ (List.mem_append_right _ (List.mem_append_right _ (List.mem_append_right _ (List.mem_append_right _ (List.mem_append_right _ (List.mem_append_right _ (List.mem_append_right _ (List.mem_append_right _ (List.mem_append_right _ (List.mem_append_right _ (List.mem_append_right _ (List.mem_append_right _ (List.mem_append_right _ (List.mem_append_right _ (List.mem_append_right _ (List.mem_append_right _ (List.mem_append_right _ (List.mem_append_right _ (List.mem_append_right _ (List.mem_append_right _ (List.mem_append_right _ (List.mem_append_right _ (List.mem_append_right _ (List.mem_append_right _ (List.mem_append_right _ (List.mem_append_right _ (List.mem_append_left _ (List.mem_of_getElem? (i := 1) rfl)))))))))))))))))))))))))))))))
theorem i_X7_plain_X7 : ∀ w ∈ wsX70, w ∈ wzX7_plain := fun _ h => List.mem_cons_of_mem _ (List.mem_append_right _ (List.mem_append_right _ (List.mem_append_right _ (List.mem_append_right _ (List.mem_append_right _ (List.mem_append_right _ (List.mem_append_right _ (List.mem_append_right _ (List.mem_append_right _ (List.mem_append_right _ (List.mem_append_right _ (List.mem_append_right _ (List.mem_append_right _ (List.mem_append_right _ (List.mem_append_right _ (List.mem_append_right _ (List.mem_append_right _ (List.mem_append_right _ (List.mem_append_right _ (List.mem_append_right _ (List.mem_append_right _ (List.mem_append_right _ (List.mem_append_right _ (List.mem_append_right _ (List.mem_append_right _ (List.mem_append_right _ (List.mem_append_right _ (List.mem_append_right _ (List.mem_append_right _ (List.mem_append_right _ (List.mem_append_right _ (List.mem_append_right _ (List.mem_append_right _ (List.mem_append_right _ (List.mem_append_right _ (List.mem_append_right _ (List.mem_append_left _ (h))))))))))))))))))))))))))))))))))))))
theorem i_X7_plain_X9 : ∀ w ∈ wsX90, w ∈ wzX7_plain := fun _ h => List.mem_cons_of_mem _ (List.mem_append_right _ (List.mem_append_right _ (List.mem_append_right _ (List.mem_append_right _ (List.mem_append_right _ (List.mem_append_right _ (List.mem_append_right _ (List.mem_append_right _ (List.mem_append_right _ (List.mem_append_right _ (List.mem_append_right _ (List.mem_append_right _ (List.mem_append_right _ (List.mem_append_right _ (List.mem_append_right _ (List.mem_append_right _ (List.mem_append_right _ (List.mem_append_right _ (List.mem_append_right _ (List.mem_append_right _ (List.mem_append_right _ (List.mem_append_right _ (List.mem_append_right _ (List.mem_append_right _ (List.mem_append_right _ (List.mem_append_right _ (List.mem_append_right _ (List.mem_append_right _ (List.mem_append_right _ (List.mem_append_right _ (List.mem_append_right _ (List.mem_append_right _ (List.mem_append_right _ (List.mem_append_right _ (List.mem_append_right _ (List.mem_append_right _ (List.mem_append_right _ (List.mem_append_left _ (h)))))))))))))))))))))))))))))))))))))))
theorem k_X7_plain_fieldLink_RX7_20_SR_Statements_code_LSR_Code : Cond.fieldLink RX7 20 "StatementRules2$Statements" "code" "LStatementRules2$Code;" ∈ wzX7_plain := List.mem_cons_of_mem _ (List.mem_append_right _ (List.mem_append_right _ (List.mem_append_right _ (List.mem_append_right _ (List.mem_append_right _ (List.mem_append_right _ (List.mem_append_right _ (List.mem_append_right _ (List.mem_append_right _ (List.mem_append_right _ (List.mem_append_right _ (List.mem_append_right _ (List.mem_append_right _ (List.mem_append_right _ (List.mem_append_right _ (List.mem_append_right _ (List.mem_append_right _ (List.mem_append_right _ (List.mem_append_right _ (List.mem_append_right _ (List.mem_append_right _ (List.mem_append_right _ (List.mem_append_right _ (List.mem_append_right _ (List.mem_append_right _ (List.mem_append_right _ (List.mem_append_right _ (List.mem_append_right _ (List.mem_append_right _ (List.mem_append_left _ (List.mem_of_getElem? (i := 2) rfl)))))))))))))))))))))))))))))))
theorem k_X7_plain_sameField_SR_Statements_SR_Formulas_code_LSR_Code : Cond.sameField "StatementRules2$Statements" "StatementRules2$Formulas" "code" "LStatementRules2$Code;" ∈ wzX7_plain := List.mem_cons_of_mem _ (List.mem_append_right _ (List.mem_append_right _ (List.mem_append_right _ (List.mem_append_right _ (List.mem_append_right _ (List.mem_append_right _ (List.mem_append_right _ (List.mem_append_right _ (List.mem_append_right _ (List.mem_append_right _ (List.mem_append_right _ (List.mem_append_right _ (List.mem_append_right _ (List.mem_append_right _ (List.mem_append_right _ (List.mem_append_right _ (List.mem_append_right _ (List.mem_append_right _ (List.mem_append_right _ (List.mem_append_right _ (List.mem_append_right _ (List.mem_append_right _ (List.mem_append_right _ (List.mem_append_right _ (List.mem_append_right _ (List.mem_append_right _ (List.mem_append_right _ (List.mem_append_right _ (List.mem_append_right _ (List.mem_append_left _ (List.mem_of_getElem? (i := 3) rfl)))))))))))))))))))))))))))))))
set_option maxHeartbeats 4000000 in
set_option maxRecDepth 100000 in
theorem c_X7_plain (l : Launch) (dC : Nat → ClassId) (dI : Nat → Nat → Nat) (Q : CQ) (N : Nat) (d : Nat) (E1 : CS → Option (Unit × CS)) (E2 : CS → Option (Int32 × CS)) (hE1 : cMF l dC dI Q d E1) (hE2 : cMO l dC dI Q d E2) (hm1 : ∀ σ, Mono (CS.hs σ) (E1 σ)) (hm2 : ∀ σ, Mono (CS.hs σ) (E2 σ)) (σ : CS) (R : Unit × CS) (hf : f_X7_plain N E1 E2 σ = some R) : Met l yX7_plain wzX7_plain ({ frames := (18 + 40 * d), cells := CS.hs R.2 - CS.hs σ, slots := 17 * (CS.hs R.2 - CS.hs σ), locals := 60 * (18 + 40 * d) }) (va_Pc [.ref (Q.o 3)] (zPre dC dI (CS.hs σ) (cW Q σ) (cT Q))) (va_Qv (fun (_ : Unit) => True) (fun (_ : Unit) (t : State) => zPost dC dI (va_A (cW Q σ) (CS.hs σ)) (cW Q R.2) (cT Q) t ∧ t.heap.size = CS.hs R.2) (va_A (cW Q σ) (CS.hs σ))) (CS.hs R.2 - CS.hs σ) (17 * (CS.hs R.2 - CS.hs σ)) (va_A (cW Q σ) (CS.hs σ)) := by
  refine Met.ofW (cc := cX7_plain) (maxL := 1) (ret := none) (by decide) rfl ?_
  intro p e s m args below meth c s₁ B hml hv
  obtain ⟨rfl, hsz, hZ, hP, hK, hD0⟩ := hv
  have hx := B.exec
  have hb := B.bytes
  have hr := B.returns
  have hts := atoms_spec (ws := wzX7_plain) B.pre
  have hown : s.vm.findClass RX7 = some m.cls := findClass_of_methodNamed B.named
  have hlocks := B.notSynchronized
  have hD := hD0.self (sz := CS.hs σ)
  generalize hAe : va_A (cW Q σ) (CS.hs σ) = A at hD ⊢
  have hA : ∀ q : Nat, s.heap.size ≤ q → A q := fun q h => by rw [← hAe]; exact Or.inr (hsz ▸ h)
  have hC : CP dC dI Q A s.heap σ s.heap [] := ⟨hP, hD, va_S.rf, hsz⟩
  have h0 : CS.hs σ ≤ CS.hs σ := Nat.le_refl _
  have hl := lv_entry ([.ref (Q.o 3)]) (n := 1) (Nat.le_of_ble_eq_true rfl)
  rw [lg_entry_eq]
  generalize (lg_sl ([.ref (Q.o 3)]) ++ List.replicate (1 - (lg_sl ([.ref (Q.o 3)])).length) Slot.unset).toArray = ls at hl ⊢
  have hl : lv_has ls 1 [(0, .ref (Q.o 3))] := hl
  unfold f_X7_plain at hf
  refine W.widen (k := CS.hs σ - CS.hs σ) (n := 17 * (CS.hs σ - CS.hs σ)) (Nat.zero_le _) (Nat.zero_le _) ?_
  refine lv_aload_n hx hb dX7_plain_0 rfl (lv_at hl 0 rfl) ?_
  refine cG_28 hx hb hts i_X7_plain_X7 hown hK hC (hts (.fieldLink RX7 71 "StatementRules2$Statements" "tokens" "LStatementRules2$Tokens;") k_X7_plain_fieldLink_RX7_71_SR_Statements_tokens_LSR_Tokens) (fun x9 q9 => u_same (hts (.sameField "StatementRules2$Statements" "StatementRules2$Formulas" "tokens" "LStatementRules2$Tokens;") k_X7_plain_sameField_SR_Statements_SR_Formulas_tokens_LSR_Tokens) x9 q9) dX7_plain_1 ?_
  refine cGN_43 (v := (σ.i 43)) hx hb hts i_X7_plain_X9 hown hK hC (va_Nw.use rfl (hZ.1 (.fieldLinkNest RX7 214 "StatementRules2$Tokens" "type" "I" "StatementRules2") (by decide +kernel))) (fun _ q9 => q9) dX7_plain_4 rfl ?_
  by_cases c1 : (σ.i 43) = 59
  ·
    replace hf := (if_pos c1).symm.trans hf
    refine lv_lookup (off := 89) (tgt := 96) hx hb dX7_plain_7 (by decide) (by rw [c1]; decide) (by decide) ?_
    refine lv_aload_n hx hb dX7_plain_96 rfl (lv_at hl 0 rfl) ?_
    refine cG_28 hx hb hts i_X7_plain_X7 hown hK hC (hts (.fieldLink RX7 71 "StatementRules2$Statements" "tokens" "LStatementRules2$Tokens;") k_X7_plain_fieldLink_RX7_71_SR_Statements_tokens_LSR_Tokens) (fun x9 q9 => u_same (hts (.sameField "StatementRules2$Statements" "StatementRules2$Formulas" "tokens" "LStatementRules2$Tokens;") k_X7_plain_sameField_SR_Statements_SR_Formulas_tokens_LSR_Tokens) x9 q9) dX7_plain_97 ?_
    obtain ⟨p2, hcp2, hf⟩ := hf_bind hf
    have mo3 : CS.hs σ ≤ CS.hs p2.2 := Mono.go hcp2 (m_X9_advance N σ)
    have hr9 : CS.hs p2.2 ≤ CS.hs R.2 := Mono.go hf (mono_some (Nat.le_refl _))
    have hFc := cFree hC hA
    refine va_callv (va_runV (As := []) (rest := []) ⟨hx, hb, hml, hown, hts⟩ (c_X9_advance l dC dI Q N σ p2 hcp2) (cwV 0 hts hX7_plain_X9_advance_v146 rfl rfl rfl (by decide +kernel) ⟨(show 3 + 1 ≤ (18 + 40 * d) by omega), (show 8 + (2 + 11) + 60 * 3 ≤ 60 * (18 + 40 * d) by omega)⟩) ⟨zPre.blind, va_recv hK hC.1 (ci := 8) (q0 := 4) rfl rfl, cPre_go hZ hK hC⟩ rfl rfl hl.1 rfl (lv_room (Nat.le_of_ble_eq_true rfl)) dX7_plain_100 (cAcc h0 mo3 hr9)) hC.2.2.1 (fun q _ h => hFc q h) hFc (fun u9 t9 H1 locs ht hvm hw hB hz1 hk1 hS => ?_)
    obtain ⟨⟨hP, hK1, hD1⟩, hsz1⟩ := hB
    rw [ht] at hP hsz1
    have hC : CP dC dI Q A s.heap p2.2 H1 locs := ⟨hP, hD1.weaken (fun _ _ _ h => hFc _ h), hS, hsz1⟩
    generalize H1 = H at hC ⊢
    have h5 : (CS.hs σ) ≤ CS.hs p2.2 := Nat.le_trans h0 mo3
    refine W.widen (k := CS.hs p2.2 - (CS.hs σ)) (n := 17 * (CS.hs p2.2 - (CS.hs σ))) (cAcc2 h0 mo3) (cAcc3 h0 mo3) ?_
    refine lv_goto (tgt := 199) hx hb dX7_plain_103 (by decide) ?_
    obtain rfl := Option.some.inj hf
    exact W.vret hx hb hr (fun t ht hW => ⟨⟨(), rfl, trivial, ⟨by rw [ht]; exact hC.1, va_K.moved hW.alike hK, hC.2.1⟩, by rw [ht]; exact hC.2.2.2⟩, hC.2.2.1.F ht⟩) hC.2.2.1.2.2 dX7_plain_199
  replace hf := (if_neg c1).symm.trans hf
  by_cases c6 : (σ.i 43) = 200
  ·
    replace hf := (if_pos c6).symm.trans hf
    refine lv_lookup (off := 99) (tgt := 106) hx hb dX7_plain_7 (by decide) (by rw [c6]; decide) (by decide) ?_
    refine lv_aload_n hx hb dX7_plain_106 rfl (lv_at hl 0 rfl) ?_
    refine cG_28 hx hb hts i_X7_plain_X7 hown hK hC (hts (.fieldLink RX7 71 "StatementRules2$Statements" "tokens" "LStatementRules2$Tokens;") k_X7_plain_fieldLink_RX7_71_SR_Statements_tokens_LSR_Tokens) (fun x9 q9 => u_same (hts (.sameField "StatementRules2$Statements" "StatementRules2$Formulas" "tokens" "LStatementRules2$Tokens;") k_X7_plain_sameField_SR_Statements_SR_Formulas_tokens_LSR_Tokens) x9 q9) dX7_plain_107 ?_
    obtain ⟨p7, hcp7, hf⟩ := hf_bind hf
    have mo8 : CS.hs σ ≤ CS.hs p7.2 := Mono.go hcp7 (m_X9_advance N σ)
    have hr9 : CS.hs p7.2 ≤ CS.hs R.2 := Mono.go hf (mono_bind (m_X7_newName N p7.2) (fun p11 => (mono_bind (m_X7_define N E1 E2 hm1 hm2 p11.2 p11.1) (fun p15 => (mono_bind (m_X1_expect N p15.2 59) (fun p19 => (mono_some (Nat.le_refl _))))))))
    have hFc := cFree hC hA
    refine va_callv (va_runV (As := []) (rest := []) ⟨hx, hb, hml, hown, hts⟩ (c_X9_advance l dC dI Q N σ p7 hcp7) (cwV 0 hts hX7_plain_X9_advance_v146 rfl rfl rfl (by decide +kernel) ⟨(show 3 + 1 ≤ (18 + 40 * d) by omega), (show 8 + (2 + 11) + 60 * 3 ≤ 60 * (18 + 40 * d) by omega)⟩) ⟨zPre.blind, va_recv hK hC.1 (ci := 8) (q0 := 4) rfl rfl, cPre_go hZ hK hC⟩ rfl rfl hl.1 rfl (lv_room (Nat.le_of_ble_eq_true rfl)) dX7_plain_110 (cAcc h0 mo8 hr9)) hC.2.2.1 (fun q _ h => hFc q h) hFc (fun u9 t9 H1 locs ht hvm hw hB hz1 hk1 hS => ?_)
    obtain ⟨⟨hP, hK1, hD1⟩, hsz1⟩ := hB
    rw [ht] at hP hsz1
    have hC : CP dC dI Q A s.heap p7.2 H1 locs := ⟨hP, hD1.weaken (fun _ _ _ h => hFc _ h), hS, hsz1⟩
    generalize H1 = H at hC ⊢
    have h10 : (CS.hs σ) ≤ CS.hs p7.2 := Nat.le_trans h0 mo8
    refine W.widen (k := CS.hs p7.2 - (CS.hs σ)) (n := 17 * (CS.hs p7.2 - (CS.hs σ))) (cAcc2 h0 mo8) (cAcc3 h0 mo8) ?_
    refine lv_aload_n hx hb dX7_plain_113 rfl (lv_at hl 0 rfl) ?_
    refine lv_aload_n hx hb dX7_plain_114 rfl (lv_at hl 0 rfl) ?_
    obtain ⟨p11, hcp11, hf⟩ := hf_bind hf
    have mo12 : CS.hs p7.2 ≤ CS.hs p11.2 := Mono.go hcp11 (m_X7_newName N p7.2)
    have hr9 : CS.hs p11.2 ≤ CS.hs R.2 := Mono.go hf (mono_bind (m_X7_define N E1 E2 hm1 hm2 p11.2 p11.1) (fun p15 => (mono_bind (m_X1_expect N p15.2 59) (fun p19 => (mono_some (Nat.le_refl _))))))
    have hFc := cFree hC hA
    refine va_calll (va_runV (As := []) (rest := [.ref (Q.o 3)]) ⟨hx, hb, hml, hown, hts⟩ (c_X7_newName l dC dI Q N p7.2 p11 hcp11) (cwV 0 hts hX7_plain_X7_newName_v217 rfl rfl rfl (by decide +kernel) ⟨(show 4 + 1 ≤ (18 + 40 * d) by omega), (show 8 + (3 + 11) + 60 * 4 ≤ 60 * (18 + 40 * d) by omega)⟩) ⟨zPre.blind, va_recv hK hC.1 (ci := 6) (q0 := 3) rfl rfl, cPre_go hZ hK hC⟩ rfl rfl hl.1 rfl (lv_room (Nat.le_of_ble_eq_true rfl)) dX7_plain_115 (cAcc h10 mo12 hr9)) hC.2.2.1 (fun q _ h => hFc q h) hFc (fun r13 u9 t9 H1 locs ht hvm hw hB hz1 hk1 hS => ?_)
    obtain ⟨⟨hP, hK1, hD1⟩, hsz1⟩ := hB
    rw [ht] at hP hsz1
    have hC : CP dC dI Q A s.heap p11.2 H1 locs := ⟨hP, hD1.weaken (fun _ _ _ h => hFc _ h), hS, hsz1⟩
    generalize H1 = H at hC ⊢
    have h14 : (CS.hs σ) ≤ CS.hs p11.2 := Nat.le_trans h10 mo12
    refine W.widen (k := CS.hs p11.2 - (CS.hs σ)) (n := 17 * (CS.hs p11.2 - (CS.hs σ))) (cAcc2 h10 mo12) (cAcc3 h10 mo12) ?_
    obtain rfl : r13 = p11.1 := hw
    obtain ⟨p15, hcp15, hf⟩ := hf_bind hf
    have mo16 : CS.hs p11.2 ≤ CS.hs p15.2 := Mono.go hcp15 (m_X7_define N E1 E2 hm1 hm2 p11.2 p11.1)
    have hr9 : CS.hs p15.2 ≤ CS.hs R.2 := Mono.go hf (mono_bind (m_X1_expect N p15.2 59) (fun p19 => (mono_some (Nat.le_refl _))))
    have hFc := cFree hC hA
    refine va_callv (va_runV (As := [.long p11.1]) (rest := []) ⟨hx, hb, hml, hown, hts⟩ (c_X7_define l dC dI Q N d E1 E2 hE1 hE2 hm1 hm2 p11.2 p11.1 p15 hcp15) (cwV 1 hts hX7_plain_X7_define_v221 rfl rfl rfl (by decide +kernel) ⟨(show (13 + 40 * d) + 1 ≤ (18 + 40 * d) by omega), (show 8 + (3 + 11) + 60 * (13 + 40 * d) ≤ 60 * (18 + 40 * d) by omega)⟩) ⟨zPre.blind, va_recv hK hC.1 (ci := 6) (q0 := 3) rfl rfl, cPre_go hZ hK hC⟩ rfl rfl hl.1 rfl (lv_room (Nat.le_of_ble_eq_true rfl)) dX7_plain_118 (cAcc h14 mo16 hr9)) hC.2.2.1 (fun q _ h => hFc q h) hFc (fun u9 t9 H1 locs ht hvm hw hB hz1 hk1 hS => ?_)
    obtain ⟨⟨hP, hK1, hD1⟩, hsz1⟩ := hB
    rw [ht] at hP hsz1
    have hC : CP dC dI Q A s.heap p15.2 H1 locs := ⟨hP, hD1.weaken (fun _ _ _ h => hFc _ h), hS, hsz1⟩
    generalize H1 = H at hC ⊢
    have h18 : (CS.hs σ) ≤ CS.hs p15.2 := Nat.le_trans h14 mo16
    refine W.widen (k := CS.hs p15.2 - (CS.hs σ)) (n := 17 * (CS.hs p15.2 - (CS.hs σ))) (cAcc2 h14 mo16) (cAcc3 h14 mo16) ?_
    refine lv_aload_n hx hb dX7_plain_121 rfl (lv_at hl 0 rfl) ?_
    refine lv_bipush (v := 59) hx hb dX7_plain_122 (by decide) ?_
    obtain ⟨p19, hcp19, hf⟩ := hf_bind hf
    have mo20 : CS.hs p15.2 ≤ CS.hs p19.2 := Mono.go hcp19 (m_X1_expect N p15.2 59)
    have hr9 : CS.hs p19.2 ≤ CS.hs R.2 := Mono.go hf (mono_some (Nat.le_refl _))
    have hFc := cFree hC hA
    refine va_callv (va_runU (As := [.int 59]) (rest := []) ⟨hx, hb, hml, hown, hts⟩ (c_X1_expect l dC dI Q N p15.2 59 p19 hcp19) (va_cwU 1 hts hX7_plain_X1_expect_u155 rfl rfl rfl rfl (by decide +kernel) ⟨(show 4 + 1 ≤ (18 + 40 * d) by omega), (show 8 + (2 + 11) + 60 * 4 ≤ 60 * (18 + 40 * d) by omega)⟩) ⟨zPre.blind, va_recv hK hC.1 (ci := 6) (q0 := 3) rfl rfl, cPre_go hZ hK hC⟩ rfl rfl hl.1 rfl (lv_room (Nat.le_of_ble_eq_true rfl)) dX7_plain_124 (cAcc h18 mo20 hr9)) hC.2.2.1 (fun q _ h => hFc q h) hFc (fun u9 t9 H1 locs ht hvm hw hB hz1 hk1 hS => ?_)
    obtain ⟨⟨hP, hK1, hD1⟩, hsz1⟩ := hB
    rw [ht] at hP hsz1
    have hC : CP dC dI Q A s.heap p19.2 H1 locs := ⟨hP, hD1.weaken (fun _ _ _ h => hFc _ h), hS, hsz1⟩
    generalize H1 = H at hC ⊢
    have h22 : (CS.hs σ) ≤ CS.hs p19.2 := Nat.le_trans h18 mo20
    refine W.widen (k := CS.hs p19.2 - (CS.hs σ)) (n := 17 * (CS.hs p19.2 - (CS.hs σ))) (cAcc2 h18 mo20) (cAcc3 h18 mo20) ?_
    refine lv_goto (tgt := 199) hx hb dX7_plain_127 (by decide) ?_
    obtain rfl := Option.some.inj hf
    exact W.vret hx hb hr (fun t ht hW => ⟨⟨(), rfl, trivial, ⟨by rw [ht]; exact hC.1, va_K.moved hW.alike hK, hC.2.1⟩, by rw [ht]; exact hC.2.2.2⟩, hC.2.2.1.F ht⟩) hC.2.2.1.2.2 dX7_plain_199
  replace hf := (if_neg c6).symm.trans hf
  by_cases c23 : (σ.i 43) = 201
  ·
    replace hf := (if_pos c23).symm.trans hf
    refine lv_lookup (off := 99) (tgt := 106) hx hb dX7_plain_7 (by decide) (by rw [c23]; decide) (by decide) ?_
    refine lv_aload_n hx hb dX7_plain_106 rfl (lv_at hl 0 rfl) ?_
    refine cG_28 hx hb hts i_X7_plain_X7 hown hK hC (hts (.fieldLink RX7 71 "StatementRules2$Statements" "tokens" "LStatementRules2$Tokens;") k_X7_plain_fieldLink_RX7_71_SR_Statements_tokens_LSR_Tokens) (fun x9 q9 => u_same (hts (.sameField "StatementRules2$Statements" "StatementRules2$Formulas" "tokens" "LStatementRules2$Tokens;") k_X7_plain_sameField_SR_Statements_SR_Formulas_tokens_LSR_Tokens) x9 q9) dX7_plain_107 ?_
    obtain ⟨p24, hcp24, hf⟩ := hf_bind hf
    have mo25 : CS.hs σ ≤ CS.hs p24.2 := Mono.go hcp24 (m_X9_advance N σ)
    have hr9 : CS.hs p24.2 ≤ CS.hs R.2 := Mono.go hf (mono_bind (m_X7_newName N p24.2) (fun p28 => (mono_bind (m_X7_define N E1 E2 hm1 hm2 p28.2 p28.1) (fun p32 => (mono_bind (m_X1_expect N p32.2 59) (fun p36 => (mono_some (Nat.le_refl _))))))))
    have hFc := cFree hC hA
    refine va_callv (va_runV (As := []) (rest := []) ⟨hx, hb, hml, hown, hts⟩ (c_X9_advance l dC dI Q N σ p24 hcp24) (cwV 0 hts hX7_plain_X9_advance_v146 rfl rfl rfl (by decide +kernel) ⟨(show 3 + 1 ≤ (18 + 40 * d) by omega), (show 8 + (2 + 11) + 60 * 3 ≤ 60 * (18 + 40 * d) by omega)⟩) ⟨zPre.blind, va_recv hK hC.1 (ci := 8) (q0 := 4) rfl rfl, cPre_go hZ hK hC⟩ rfl rfl hl.1 rfl (lv_room (Nat.le_of_ble_eq_true rfl)) dX7_plain_110 (cAcc h0 mo25 hr9)) hC.2.2.1 (fun q _ h => hFc q h) hFc (fun u9 t9 H1 locs ht hvm hw hB hz1 hk1 hS => ?_)
    obtain ⟨⟨hP, hK1, hD1⟩, hsz1⟩ := hB
    rw [ht] at hP hsz1
    have hC : CP dC dI Q A s.heap p24.2 H1 locs := ⟨hP, hD1.weaken (fun _ _ _ h => hFc _ h), hS, hsz1⟩
    generalize H1 = H at hC ⊢
    have h27 : (CS.hs σ) ≤ CS.hs p24.2 := Nat.le_trans h0 mo25
    refine W.widen (k := CS.hs p24.2 - (CS.hs σ)) (n := 17 * (CS.hs p24.2 - (CS.hs σ))) (cAcc2 h0 mo25) (cAcc3 h0 mo25) ?_
    refine lv_aload_n hx hb dX7_plain_113 rfl (lv_at hl 0 rfl) ?_
    refine lv_aload_n hx hb dX7_plain_114 rfl (lv_at hl 0 rfl) ?_
    obtain ⟨p28, hcp28, hf⟩ := hf_bind hf
    have mo29 : CS.hs p24.2 ≤ CS.hs p28.2 := Mono.go hcp28 (m_X7_newName N p24.2)
    have hr9 : CS.hs p28.2 ≤ CS.hs R.2 := Mono.go hf (mono_bind (m_X7_define N E1 E2 hm1 hm2 p28.2 p28.1) (fun p32 => (mono_bind (m_X1_expect N p32.2 59) (fun p36 => (mono_some (Nat.le_refl _))))))
    have hFc := cFree hC hA
    refine va_calll (va_runV (As := []) (rest := [.ref (Q.o 3)]) ⟨hx, hb, hml, hown, hts⟩ (c_X7_newName l dC dI Q N p24.2 p28 hcp28) (cwV 0 hts hX7_plain_X7_newName_v217 rfl rfl rfl (by decide +kernel) ⟨(show 4 + 1 ≤ (18 + 40 * d) by omega), (show 8 + (3 + 11) + 60 * 4 ≤ 60 * (18 + 40 * d) by omega)⟩) ⟨zPre.blind, va_recv hK hC.1 (ci := 6) (q0 := 3) rfl rfl, cPre_go hZ hK hC⟩ rfl rfl hl.1 rfl (lv_room (Nat.le_of_ble_eq_true rfl)) dX7_plain_115 (cAcc h27 mo29 hr9)) hC.2.2.1 (fun q _ h => hFc q h) hFc (fun r30 u9 t9 H1 locs ht hvm hw hB hz1 hk1 hS => ?_)
    obtain ⟨⟨hP, hK1, hD1⟩, hsz1⟩ := hB
    rw [ht] at hP hsz1
    have hC : CP dC dI Q A s.heap p28.2 H1 locs := ⟨hP, hD1.weaken (fun _ _ _ h => hFc _ h), hS, hsz1⟩
    generalize H1 = H at hC ⊢
    have h31 : (CS.hs σ) ≤ CS.hs p28.2 := Nat.le_trans h27 mo29
    refine W.widen (k := CS.hs p28.2 - (CS.hs σ)) (n := 17 * (CS.hs p28.2 - (CS.hs σ))) (cAcc2 h27 mo29) (cAcc3 h27 mo29) ?_
    obtain rfl : r30 = p28.1 := hw
    obtain ⟨p32, hcp32, hf⟩ := hf_bind hf
    have mo33 : CS.hs p28.2 ≤ CS.hs p32.2 := Mono.go hcp32 (m_X7_define N E1 E2 hm1 hm2 p28.2 p28.1)
    have hr9 : CS.hs p32.2 ≤ CS.hs R.2 := Mono.go hf (mono_bind (m_X1_expect N p32.2 59) (fun p36 => (mono_some (Nat.le_refl _))))
    have hFc := cFree hC hA
    refine va_callv (va_runV (As := [.long p28.1]) (rest := []) ⟨hx, hb, hml, hown, hts⟩ (c_X7_define l dC dI Q N d E1 E2 hE1 hE2 hm1 hm2 p28.2 p28.1 p32 hcp32) (cwV 1 hts hX7_plain_X7_define_v221 rfl rfl rfl (by decide +kernel) ⟨(show (13 + 40 * d) + 1 ≤ (18 + 40 * d) by omega), (show 8 + (3 + 11) + 60 * (13 + 40 * d) ≤ 60 * (18 + 40 * d) by omega)⟩) ⟨zPre.blind, va_recv hK hC.1 (ci := 6) (q0 := 3) rfl rfl, cPre_go hZ hK hC⟩ rfl rfl hl.1 rfl (lv_room (Nat.le_of_ble_eq_true rfl)) dX7_plain_118 (cAcc h31 mo33 hr9)) hC.2.2.1 (fun q _ h => hFc q h) hFc (fun u9 t9 H1 locs ht hvm hw hB hz1 hk1 hS => ?_)
    obtain ⟨⟨hP, hK1, hD1⟩, hsz1⟩ := hB
    rw [ht] at hP hsz1
    have hC : CP dC dI Q A s.heap p32.2 H1 locs := ⟨hP, hD1.weaken (fun _ _ _ h => hFc _ h), hS, hsz1⟩
    generalize H1 = H at hC ⊢
    have h35 : (CS.hs σ) ≤ CS.hs p32.2 := Nat.le_trans h31 mo33
    refine W.widen (k := CS.hs p32.2 - (CS.hs σ)) (n := 17 * (CS.hs p32.2 - (CS.hs σ))) (cAcc2 h31 mo33) (cAcc3 h31 mo33) ?_
    refine lv_aload_n hx hb dX7_plain_121 rfl (lv_at hl 0 rfl) ?_
    refine lv_bipush (v := 59) hx hb dX7_plain_122 (by decide) ?_
    obtain ⟨p36, hcp36, hf⟩ := hf_bind hf
    have mo37 : CS.hs p32.2 ≤ CS.hs p36.2 := Mono.go hcp36 (m_X1_expect N p32.2 59)
    have hr9 : CS.hs p36.2 ≤ CS.hs R.2 := Mono.go hf (mono_some (Nat.le_refl _))
    have hFc := cFree hC hA
    refine va_callv (va_runU (As := [.int 59]) (rest := []) ⟨hx, hb, hml, hown, hts⟩ (c_X1_expect l dC dI Q N p32.2 59 p36 hcp36) (va_cwU 1 hts hX7_plain_X1_expect_u155 rfl rfl rfl rfl (by decide +kernel) ⟨(show 4 + 1 ≤ (18 + 40 * d) by omega), (show 8 + (2 + 11) + 60 * 4 ≤ 60 * (18 + 40 * d) by omega)⟩) ⟨zPre.blind, va_recv hK hC.1 (ci := 6) (q0 := 3) rfl rfl, cPre_go hZ hK hC⟩ rfl rfl hl.1 rfl (lv_room (Nat.le_of_ble_eq_true rfl)) dX7_plain_124 (cAcc h35 mo37 hr9)) hC.2.2.1 (fun q _ h => hFc q h) hFc (fun u9 t9 H1 locs ht hvm hw hB hz1 hk1 hS => ?_)
    obtain ⟨⟨hP, hK1, hD1⟩, hsz1⟩ := hB
    rw [ht] at hP hsz1
    have hC : CP dC dI Q A s.heap p36.2 H1 locs := ⟨hP, hD1.weaken (fun _ _ _ h => hFc _ h), hS, hsz1⟩
    generalize H1 = H at hC ⊢
    have h39 : (CS.hs σ) ≤ CS.hs p36.2 := Nat.le_trans h35 mo37
    refine W.widen (k := CS.hs p36.2 - (CS.hs σ)) (n := 17 * (CS.hs p36.2 - (CS.hs σ))) (cAcc2 h35 mo37) (cAcc3 h35 mo37) ?_
    refine lv_goto (tgt := 199) hx hb dX7_plain_127 (by decide) ?_
    obtain rfl := Option.some.inj hf
    exact W.vret hx hb hr (fun t ht hW => ⟨⟨(), rfl, trivial, ⟨by rw [ht]; exact hC.1, va_K.moved hW.alike hK, hC.2.1⟩, by rw [ht]; exact hC.2.2.2⟩, hC.2.2.1.F ht⟩) hC.2.2.1.2.2 dX7_plain_199
  replace hf := (if_neg c23).symm.trans hf
  by_cases c40 : (σ.i 43) = 202
  ·
    replace hf := (if_pos c40).symm.trans hf
    refine lv_lookup (off := 123) (tgt := 130) hx hb dX7_plain_7 (by decide) (by rw [c40]; decide) (by decide) ?_
    refine lv_aload_n hx hb dX7_plain_130 rfl (lv_at hl 0 rfl) ?_
    refine cG_28 hx hb hts i_X7_plain_X7 hown hK hC (hts (.fieldLink RX7 71 "StatementRules2$Statements" "tokens" "LStatementRules2$Tokens;") k_X7_plain_fieldLink_RX7_71_SR_Statements_tokens_LSR_Tokens) (fun x9 q9 => u_same (hts (.sameField "StatementRules2$Statements" "StatementRules2$Formulas" "tokens" "LStatementRules2$Tokens;") k_X7_plain_sameField_SR_Statements_SR_Formulas_tokens_LSR_Tokens) x9 q9) dX7_plain_131 ?_
    obtain ⟨p41, hcp41, hf⟩ := hf_bind hf
    have mo42 : CS.hs σ ≤ CS.hs p41.2 := Mono.go hcp41 (m_X9_advance N σ)
    have hr9 : CS.hs p41.2 ≤ CS.hs R.2 := Mono.go hf (mono_bind (m_X1_expression N E1 E2 hm1 hm2 p41.2) (fun p45 => (mono_bind (m_X0_add N p45.2 52 0) (fun p49 => (mono_bind (m_X1_expect N p49.2 59) (fun p53 => (mono_some (Nat.le_refl _))))))))
    have hFc := cFree hC hA
    refine va_callv (va_runV (As := []) (rest := []) ⟨hx, hb, hml, hown, hts⟩ (c_X9_advance l dC dI Q N σ p41 hcp41) (cwV 0 hts hX7_plain_X9_advance_v146 rfl rfl rfl (by decide +kernel) ⟨(show 3 + 1 ≤ (18 + 40 * d) by omega), (show 8 + (2 + 11) + 60 * 3 ≤ 60 * (18 + 40 * d) by omega)⟩) ⟨zPre.blind, va_recv hK hC.1 (ci := 8) (q0 := 4) rfl rfl, cPre_go hZ hK hC⟩ rfl rfl hl.1 rfl (lv_room (Nat.le_of_ble_eq_true rfl)) dX7_plain_134 (cAcc h0 mo42 hr9)) hC.2.2.1 (fun q _ h => hFc q h) hFc (fun u9 t9 H1 locs ht hvm hw hB hz1 hk1 hS => ?_)
    obtain ⟨⟨hP, hK1, hD1⟩, hsz1⟩ := hB
    rw [ht] at hP hsz1
    have hC : CP dC dI Q A s.heap p41.2 H1 locs := ⟨hP, hD1.weaken (fun _ _ _ h => hFc _ h), hS, hsz1⟩
    generalize H1 = H at hC ⊢
    have h44 : (CS.hs σ) ≤ CS.hs p41.2 := Nat.le_trans h0 mo42
    refine W.widen (k := CS.hs p41.2 - (CS.hs σ)) (n := 17 * (CS.hs p41.2 - (CS.hs σ))) (cAcc2 h0 mo42) (cAcc3 h0 mo42) ?_
    refine lv_aload_n hx hb dX7_plain_137 rfl (lv_at hl 0 rfl) ?_
    obtain ⟨p45, hcp45, hf⟩ := hf_bind hf
    have mo46 : CS.hs p41.2 ≤ CS.hs p45.2 := Mono.go hcp45 (m_X1_expression N E1 E2 hm1 hm2 p41.2)
    have hr9 : CS.hs p45.2 ≤ CS.hs R.2 := Mono.go hf (mono_bind (m_X0_add N p45.2 52 0) (fun p49 => (mono_bind (m_X1_expect N p49.2 59) (fun p53 => (mono_some (Nat.le_refl _))))))
    have hFc := cFree hC hA
    refine va_callv (va_runU (As := []) (rest := []) ⟨hx, hb, hml, hown, hts⟩ (c_X1_expression l dC dI Q N d E1 E2 hE1 hE2 hm1 hm2 p41.2 p45 hcp45) (va_cwU 0 hts hX7_plain_X1_expression_u211 rfl rfl rfl rfl (by decide +kernel) ⟨(show (12 + 40 * d) + 1 ≤ (18 + 40 * d) by omega), (show 8 + (3 + 11) + 60 * (12 + 40 * d) ≤ 60 * (18 + 40 * d) by omega)⟩) ⟨zPre.blind, va_recv hK hC.1 (ci := 6) (q0 := 3) rfl rfl, cPre_go hZ hK hC⟩ rfl rfl hl.1 rfl (lv_room (Nat.le_of_ble_eq_true rfl)) dX7_plain_138 (cAcc h44 mo46 hr9)) hC.2.2.1 (fun q _ h => hFc q h) hFc (fun u9 t9 H1 locs ht hvm hw hB hz1 hk1 hS => ?_)
    obtain ⟨⟨hP, hK1, hD1⟩, hsz1⟩ := hB
    rw [ht] at hP hsz1
    have hC : CP dC dI Q A s.heap p45.2 H1 locs := ⟨hP, hD1.weaken (fun _ _ _ h => hFc _ h), hS, hsz1⟩
    generalize H1 = H at hC ⊢
    have h48 : (CS.hs σ) ≤ CS.hs p45.2 := Nat.le_trans h44 mo46
    refine W.widen (k := CS.hs p45.2 - (CS.hs σ)) (n := 17 * (CS.hs p45.2 - (CS.hs σ))) (cAcc2 h44 mo46) (cAcc3 h44 mo46) ?_
    refine lv_aload_n hx hb dX7_plain_141 rfl (lv_at hl 0 rfl) ?_
    refine cG_29 hx hb hts i_X7_plain_X7 hown hK hC (hts (.fieldLink RX7 20 "StatementRules2$Statements" "code" "LStatementRules2$Code;") k_X7_plain_fieldLink_RX7_20_SR_Statements_code_LSR_Code) (fun x9 q9 => u_same (hts (.sameField "StatementRules2$Statements" "StatementRules2$Formulas" "code" "LStatementRules2$Code;") k_X7_plain_sameField_SR_Statements_SR_Formulas_code_LSR_Code) x9 q9) dX7_plain_142 ?_
    refine lv_bipush (v := 52) hx hb dX7_plain_145 (by decide) ?_
    refine lv_iconst (v := 0) hx hb dX7_plain_147 (by decide) ?_
    obtain ⟨p49, hcp49, hf⟩ := hf_bind hf
    have mo50 : CS.hs p45.2 ≤ CS.hs p49.2 := Mono.go hcp49 (m_X0_add N p45.2 52 0)
    have hr9 : CS.hs p49.2 ≤ CS.hs R.2 := Mono.go hf (mono_bind (m_X1_expect N p49.2 59) (fun p53 => (mono_some (Nat.le_refl _))))
    have hFc := cFree hC hA
    refine va_callv (va_runV (As := [.int 52, .int 0]) (rest := []) ⟨hx, hb, hml, hown, hts⟩ (c_X0_add l dC dI Q N p45.2 52 0 p49 hcp49) (cwV 2 hts hX7_plain_X0_add_v176 rfl rfl rfl (by decide +kernel) ⟨(show 2 + 1 ≤ (18 + 40 * d) by omega), (show 8 + (3 + 11) + 60 * 2 ≤ 60 * (18 + 40 * d) by omega)⟩) ⟨zPre.blind, va_recv hK hC.1 (ci := 0) (q0 := 2) rfl rfl, cPre_go hZ hK hC⟩ rfl rfl hl.1 rfl (lv_room (Nat.le_of_ble_eq_true rfl)) dX7_plain_148 (cAcc h48 mo50 hr9)) hC.2.2.1 (fun q _ h => hFc q h) hFc (fun u9 t9 H1 locs ht hvm hw hB hz1 hk1 hS => ?_)
    obtain ⟨⟨hP, hK1, hD1⟩, hsz1⟩ := hB
    rw [ht] at hP hsz1
    have hC : CP dC dI Q A s.heap p49.2 H1 locs := ⟨hP, hD1.weaken (fun _ _ _ h => hFc _ h), hS, hsz1⟩
    generalize H1 = H at hC ⊢
    have h52 : (CS.hs σ) ≤ CS.hs p49.2 := Nat.le_trans h48 mo50
    refine W.widen (k := CS.hs p49.2 - (CS.hs σ)) (n := 17 * (CS.hs p49.2 - (CS.hs σ))) (cAcc2 h48 mo50) (cAcc3 h48 mo50) ?_
    refine lv_aload_n hx hb dX7_plain_151 rfl (lv_at hl 0 rfl) ?_
    refine lv_bipush (v := 59) hx hb dX7_plain_152 (by decide) ?_
    obtain ⟨p53, hcp53, hf⟩ := hf_bind hf
    have mo54 : CS.hs p49.2 ≤ CS.hs p53.2 := Mono.go hcp53 (m_X1_expect N p49.2 59)
    have hr9 : CS.hs p53.2 ≤ CS.hs R.2 := Mono.go hf (mono_some (Nat.le_refl _))
    have hFc := cFree hC hA
    refine va_callv (va_runU (As := [.int 59]) (rest := []) ⟨hx, hb, hml, hown, hts⟩ (c_X1_expect l dC dI Q N p49.2 59 p53 hcp53) (va_cwU 1 hts hX7_plain_X1_expect_u155 rfl rfl rfl rfl (by decide +kernel) ⟨(show 4 + 1 ≤ (18 + 40 * d) by omega), (show 8 + (2 + 11) + 60 * 4 ≤ 60 * (18 + 40 * d) by omega)⟩) ⟨zPre.blind, va_recv hK hC.1 (ci := 6) (q0 := 3) rfl rfl, cPre_go hZ hK hC⟩ rfl rfl hl.1 rfl (lv_room (Nat.le_of_ble_eq_true rfl)) dX7_plain_154 (cAcc h52 mo54 hr9)) hC.2.2.1 (fun q _ h => hFc q h) hFc (fun u9 t9 H1 locs ht hvm hw hB hz1 hk1 hS => ?_)
    obtain ⟨⟨hP, hK1, hD1⟩, hsz1⟩ := hB
    rw [ht] at hP hsz1
    have hC : CP dC dI Q A s.heap p53.2 H1 locs := ⟨hP, hD1.weaken (fun _ _ _ h => hFc _ h), hS, hsz1⟩
    generalize H1 = H at hC ⊢
    have h56 : (CS.hs σ) ≤ CS.hs p53.2 := Nat.le_trans h52 mo54
    refine W.widen (k := CS.hs p53.2 - (CS.hs σ)) (n := 17 * (CS.hs p53.2 - (CS.hs σ))) (cAcc2 h52 mo54) (cAcc3 h52 mo54) ?_
    refine lv_goto (tgt := 199) hx hb dX7_plain_157 (by decide) ?_
    obtain rfl := Option.some.inj hf
    exact W.vret hx hb hr (fun t ht hW => ⟨⟨(), rfl, trivial, ⟨by rw [ht]; exact hC.1, va_K.moved hW.alike hK, hC.2.1⟩, by rw [ht]; exact hC.2.2.2⟩, hC.2.2.1.F ht⟩) hC.2.2.1.2.2 dX7_plain_199
  replace hf := (if_neg c40).symm.trans hf
  by_cases c57 : (σ.i 43) = 208
  ·
    replace hf := (if_pos c57).symm.trans hf
    refine lv_lookup (off := 153) (tgt := 160) hx hb dX7_plain_7 (by decide) (by rw [c57]; decide) (by decide) ?_
    refine lv_aload_n hx hb dX7_plain_160 rfl (lv_at hl 0 rfl) ?_
    obtain ⟨p58, hcp58, hf⟩ := hf_bind hf
    have mo59 : CS.hs σ ≤ CS.hs p58.2 := Mono.go hcp58 (m_X7_jump N σ)
    have hr9 : CS.hs p58.2 ≤ CS.hs R.2 := Mono.go hf (mono_some (Nat.le_refl _))
    have hFc := cFree hC hA
    refine va_callv (va_runV (As := []) (rest := []) ⟨hx, hb, hml, hown, hts⟩ (c_X7_jump l dC dI Q N σ p58 hcp58) (cwV 0 hts hX7_plain_X7_jump_v225 rfl rfl rfl (by decide +kernel) ⟨(show 5 + 1 ≤ (18 + 40 * d) by omega), (show 8 + (5 + 11) + 60 * 5 ≤ 60 * (18 + 40 * d) by omega)⟩) ⟨zPre.blind, va_recv hK hC.1 (ci := 6) (q0 := 3) rfl rfl, cPre_go hZ hK hC⟩ rfl rfl hl.1 rfl (lv_room (Nat.le_of_ble_eq_true rfl)) dX7_plain_161 (cAcc h0 mo59 hr9)) hC.2.2.1 (fun q _ h => hFc q h) hFc (fun u9 t9 H1 locs ht hvm hw hB hz1 hk1 hS => ?_)
    obtain ⟨⟨hP, hK1, hD1⟩, hsz1⟩ := hB
    rw [ht] at hP hsz1
    have hC : CP dC dI Q A s.heap p58.2 H1 locs := ⟨hP, hD1.weaken (fun _ _ _ h => hFc _ h), hS, hsz1⟩
    generalize H1 = H at hC ⊢
    have h61 : (CS.hs σ) ≤ CS.hs p58.2 := Nat.le_trans h0 mo59
    refine W.widen (k := CS.hs p58.2 - (CS.hs σ)) (n := 17 * (CS.hs p58.2 - (CS.hs σ))) (cAcc2 h0 mo59) (cAcc3 h0 mo59) ?_
    refine lv_goto (tgt := 199) hx hb dX7_plain_164 (by decide) ?_
    obtain rfl := Option.some.inj hf
    exact W.vret hx hb hr (fun t ht hW => ⟨⟨(), rfl, trivial, ⟨by rw [ht]; exact hC.1, va_K.moved hW.alike hK, hC.2.1⟩, by rw [ht]; exact hC.2.2.2⟩, hC.2.2.1.F ht⟩) hC.2.2.1.2.2 dX7_plain_199
  replace hf := (if_neg c57).symm.trans hf
  by_cases c62 : (σ.i 43) = 209
  ·
    replace hf := (if_pos c62).symm.trans hf
    refine lv_lookup (off := 153) (tgt := 160) hx hb dX7_plain_7 (by decide) (by rw [c62]; decide) (by decide) ?_
    refine lv_aload_n hx hb dX7_plain_160 rfl (lv_at hl 0 rfl) ?_
    obtain ⟨p63, hcp63, hf⟩ := hf_bind hf
    have mo64 : CS.hs σ ≤ CS.hs p63.2 := Mono.go hcp63 (m_X7_jump N σ)
    have hr9 : CS.hs p63.2 ≤ CS.hs R.2 := Mono.go hf (mono_some (Nat.le_refl _))
    have hFc := cFree hC hA
    refine va_callv (va_runV (As := []) (rest := []) ⟨hx, hb, hml, hown, hts⟩ (c_X7_jump l dC dI Q N σ p63 hcp63) (cwV 0 hts hX7_plain_X7_jump_v225 rfl rfl rfl (by decide +kernel) ⟨(show 5 + 1 ≤ (18 + 40 * d) by omega), (show 8 + (5 + 11) + 60 * 5 ≤ 60 * (18 + 40 * d) by omega)⟩) ⟨zPre.blind, va_recv hK hC.1 (ci := 6) (q0 := 3) rfl rfl, cPre_go hZ hK hC⟩ rfl rfl hl.1 rfl (lv_room (Nat.le_of_ble_eq_true rfl)) dX7_plain_161 (cAcc h0 mo64 hr9)) hC.2.2.1 (fun q _ h => hFc q h) hFc (fun u9 t9 H1 locs ht hvm hw hB hz1 hk1 hS => ?_)
    obtain ⟨⟨hP, hK1, hD1⟩, hsz1⟩ := hB
    rw [ht] at hP hsz1
    have hC : CP dC dI Q A s.heap p63.2 H1 locs := ⟨hP, hD1.weaken (fun _ _ _ h => hFc _ h), hS, hsz1⟩
    generalize H1 = H at hC ⊢
    have h66 : (CS.hs σ) ≤ CS.hs p63.2 := Nat.le_trans h0 mo64
    refine W.widen (k := CS.hs p63.2 - (CS.hs σ)) (n := 17 * (CS.hs p63.2 - (CS.hs σ))) (cAcc2 h0 mo64) (cAcc3 h0 mo64) ?_
    refine lv_goto (tgt := 199) hx hb dX7_plain_164 (by decide) ?_
    obtain rfl := Option.some.inj hf
    exact W.vret hx hb hr (fun t ht hW => ⟨⟨(), rfl, trivial, ⟨by rw [ht]; exact hC.1, va_K.moved hW.alike hK, hC.2.1⟩, by rw [ht]; exact hC.2.2.2⟩, hC.2.2.1.F ht⟩) hC.2.2.1.2.2 dX7_plain_199
  replace hf := (if_neg c62).symm.trans hf
  by_cases c67 : (σ.i 43) = 210
  ·
    replace hf := (if_pos c67).symm.trans hf
    refine lv_lookup (off := 160) (tgt := 167) hx hb dX7_plain_7 (by decide) (by rw [c67]; decide) (by decide) ?_
    refine lv_aload_n hx hb dX7_plain_167 rfl (lv_at hl 0 rfl) ?_
    obtain ⟨p68, hcp68, hf⟩ := hf_bind hf
    have mo69 : CS.hs σ ≤ CS.hs p68.2 := Mono.go hcp68 (m_X7_giveBack N E1 E2 hm1 hm2 σ)
    have hr9 : CS.hs p68.2 ≤ CS.hs R.2 := Mono.go hf (mono_some (Nat.le_refl _))
    have hFc := cFree hC hA
    refine va_callv (va_runV (As := []) (rest := []) ⟨hx, hb, hml, hown, hts⟩ (c_X7_giveBack l dC dI Q N d E1 E2 hE1 hE2 hm1 hm2 σ p68 hcp68) (cwV 0 hts hX7_plain_X7_giveBack_v228 rfl rfl rfl (by decide +kernel) ⟨(show (13 + 40 * d) + 1 ≤ (18 + 40 * d) by omega), (show 8 + (1 + 11) + 60 * (13 + 40 * d) ≤ 60 * (18 + 40 * d) by omega)⟩) ⟨zPre.blind, va_recv hK hC.1 (ci := 6) (q0 := 3) rfl rfl, cPre_go hZ hK hC⟩ rfl rfl hl.1 rfl (lv_room (Nat.le_of_ble_eq_true rfl)) dX7_plain_168 (cAcc h0 mo69 hr9)) hC.2.2.1 (fun q _ h => hFc q h) hFc (fun u9 t9 H1 locs ht hvm hw hB hz1 hk1 hS => ?_)
    obtain ⟨⟨hP, hK1, hD1⟩, hsz1⟩ := hB
    rw [ht] at hP hsz1
    have hC : CP dC dI Q A s.heap p68.2 H1 locs := ⟨hP, hD1.weaken (fun _ _ _ h => hFc _ h), hS, hsz1⟩
    generalize H1 = H at hC ⊢
    have h71 : (CS.hs σ) ≤ CS.hs p68.2 := Nat.le_trans h0 mo69
    refine W.widen (k := CS.hs p68.2 - (CS.hs σ)) (n := 17 * (CS.hs p68.2 - (CS.hs σ))) (cAcc2 h0 mo69) (cAcc3 h0 mo69) ?_
    refine lv_goto (tgt := 199) hx hb dX7_plain_171 (by decide) ?_
    obtain rfl := Option.some.inj hf
    exact W.vret hx hb hr (fun t ht hW => ⟨⟨(), rfl, trivial, ⟨by rw [ht]; exact hC.1, va_K.moved hW.alike hK, hC.2.1⟩, by rw [ht]; exact hC.2.2.2⟩, hC.2.2.1.F ht⟩) hC.2.2.1.2.2 dX7_plain_199
  replace hf := (if_neg c67).symm.trans hf
  by_cases c72 : (σ.i 43) = 211
  ·
    replace hf := (if_pos c72).symm.trans hf
    refine lv_lookup (off := 174) (tgt := 181) hx hb dX7_plain_7 (by decide) (by rw [c72]; decide) (by decide) ?_
    refine lv_aload_n hx hb dX7_plain_181 rfl (lv_at hl 0 rfl) ?_
    obtain ⟨p73, hcp73, hf⟩ := hf_bind hf
    have mo74 : CS.hs σ ≤ CS.hs p73.2 := Mono.go hcp73 (m_X7_throwOne N E1 E2 hm1 hm2 σ)
    have hr9 : CS.hs p73.2 ≤ CS.hs R.2 := Mono.go hf (mono_some (Nat.le_refl _))
    have hFc := cFree hC hA
    refine va_callv (va_runV (As := []) (rest := []) ⟨hx, hb, hml, hown, hts⟩ (c_X7_throwOne l dC dI Q N d E1 E2 hE1 hE2 hm1 hm2 σ p73 hcp73) (cwV 0 hts hX7_plain_X7_throwOne_v234 rfl rfl rfl (by decide +kernel) ⟨(show (13 + 40 * d) + 1 ≤ (18 + 40 * d) by omega), (show 8 + (2 + 11) + 60 * (13 + 40 * d) ≤ 60 * (18 + 40 * d) by omega)⟩) ⟨zPre.blind, va_recv hK hC.1 (ci := 6) (q0 := 3) rfl rfl, cPre_go hZ hK hC⟩ rfl rfl hl.1 rfl (lv_room (Nat.le_of_ble_eq_true rfl)) dX7_plain_182 (cAcc h0 mo74 hr9)) hC.2.2.1 (fun q _ h => hFc q h) hFc (fun u9 t9 H1 locs ht hvm hw hB hz1 hk1 hS => ?_)
    obtain ⟨⟨hP, hK1, hD1⟩, hsz1⟩ := hB
    rw [ht] at hP hsz1
    have hC : CP dC dI Q A s.heap p73.2 H1 locs := ⟨hP, hD1.weaken (fun _ _ _ h => hFc _ h), hS, hsz1⟩
    generalize H1 = H at hC ⊢
    have h76 : (CS.hs σ) ≤ CS.hs p73.2 := Nat.le_trans h0 mo74
    refine W.widen (k := CS.hs p73.2 - (CS.hs σ)) (n := 17 * (CS.hs p73.2 - (CS.hs σ))) (cAcc2 h0 mo74) (cAcc3 h0 mo74) ?_
    refine lv_goto (tgt := 199) hx hb dX7_plain_185 (by decide) ?_
    obtain rfl := Option.some.inj hf
    exact W.vret hx hb hr (fun t ht hW => ⟨⟨(), rfl, trivial, ⟨by rw [ht]; exact hC.1, va_K.moved hW.alike hK, hC.2.1⟩, by rw [ht]; exact hC.2.2.2⟩, hC.2.2.1.F ht⟩) hC.2.2.1.2.2 dX7_plain_199
  replace hf := (if_neg c72).symm.trans hf
  by_cases c77 : (σ.i 43) = 217
  ·
    replace hf := (if_pos c77).symm.trans hf
    refine lv_lookup (off := 181) (tgt := 188) hx hb dX7_plain_7 (by decide) (by rw [c77]; decide) (by decide) ?_
    refine lv_aload_n hx hb dX7_plain_188 rfl (lv_at hl 0 rfl) ?_
    obtain ⟨p78, hcp78, hf⟩ := hf_bind hf
    have mo79 : CS.hs σ ≤ CS.hs p78.2 := Mono.go hcp78 (m_X7_claim N E1 E2 hm1 hm2 σ)
    have hr9 : CS.hs p78.2 ≤ CS.hs R.2 := Mono.go hf (mono_some (Nat.le_refl _))
    have hFc := cFree hC hA
    refine va_callv (va_runV (As := []) (rest := []) ⟨hx, hb, hml, hown, hts⟩ (c_X7_claim l dC dI Q N d E1 E2 hE1 hE2 hm1 hm2 σ p78 hcp78) (cwV 0 hts hX7_plain_X7_claim_v237 rfl rfl rfl (by decide +kernel) ⟨(show (13 + 40 * d) + 1 ≤ (18 + 40 * d) by omega), (show 8 + (2 + 11) + 60 * (13 + 40 * d) ≤ 60 * (18 + 40 * d) by omega)⟩) ⟨zPre.blind, va_recv hK hC.1 (ci := 6) (q0 := 3) rfl rfl, cPre_go hZ hK hC⟩ rfl rfl hl.1 rfl (lv_room (Nat.le_of_ble_eq_true rfl)) dX7_plain_189 (cAcc h0 mo79 hr9)) hC.2.2.1 (fun q _ h => hFc q h) hFc (fun u9 t9 H1 locs ht hvm hw hB hz1 hk1 hS => ?_)
    obtain ⟨⟨hP, hK1, hD1⟩, hsz1⟩ := hB
    rw [ht] at hP hsz1
    have hC : CP dC dI Q A s.heap p78.2 H1 locs := ⟨hP, hD1.weaken (fun _ _ _ h => hFc _ h), hS, hsz1⟩
    generalize H1 = H at hC ⊢
    have h81 : (CS.hs σ) ≤ CS.hs p78.2 := Nat.le_trans h0 mo79
    refine W.widen (k := CS.hs p78.2 - (CS.hs σ)) (n := 17 * (CS.hs p78.2 - (CS.hs σ))) (cAcc2 h0 mo79) (cAcc3 h0 mo79) ?_
    refine lv_goto (tgt := 199) hx hb dX7_plain_192 (by decide) ?_
    obtain rfl := Option.some.inj hf
    exact W.vret hx hb hr (fun t ht hW => ⟨⟨(), rfl, trivial, ⟨by rw [ht]; exact hC.1, va_K.moved hW.alike hK, hC.2.1⟩, by rw [ht]; exact hC.2.2.2⟩, hC.2.2.1.F ht⟩) hC.2.2.1.2.2 dX7_plain_199
  replace hf := (if_neg c77).symm.trans hf
  by_cases c82 : (σ.i 43) = 221
  ·
    replace hf := (if_pos c82).symm.trans hf
    refine lv_lookup (off := 167) (tgt := 174) hx hb dX7_plain_7 (by decide) (by rw [c82]; decide) (by decide) ?_
    refine lv_aload_n hx hb dX7_plain_174 rfl (lv_at hl 0 rfl) ?_
    obtain ⟨p83, hcp83, hf⟩ := hf_bind hf
    have mo84 : CS.hs σ ≤ CS.hs p83.2 := Mono.go hcp83 (m_X7_yieldValue N E1 E2 hm1 hm2 σ)
    have hr9 : CS.hs p83.2 ≤ CS.hs R.2 := Mono.go hf (mono_some (Nat.le_refl _))
    have hFc := cFree hC hA
    refine va_callv (va_runV (As := []) (rest := []) ⟨hx, hb, hml, hown, hts⟩ (c_X7_yieldValue l dC dI Q N d E1 E2 hE1 hE2 hm1 hm2 σ p83 hcp83) (cwV 0 hts hX7_plain_X7_yieldValue_v231 rfl rfl rfl (by decide +kernel) ⟨(show (13 + 40 * d) + 1 ≤ (18 + 40 * d) by omega), (show 8 + (2 + 11) + 60 * (13 + 40 * d) ≤ 60 * (18 + 40 * d) by omega)⟩) ⟨zPre.blind, va_recv hK hC.1 (ci := 6) (q0 := 3) rfl rfl, cPre_go hZ hK hC⟩ rfl rfl hl.1 rfl (lv_room (Nat.le_of_ble_eq_true rfl)) dX7_plain_175 (cAcc h0 mo84 hr9)) hC.2.2.1 (fun q _ h => hFc q h) hFc (fun u9 t9 H1 locs ht hvm hw hB hz1 hk1 hS => ?_)
    obtain ⟨⟨hP, hK1, hD1⟩, hsz1⟩ := hB
    rw [ht] at hP hsz1
    have hC : CP dC dI Q A s.heap p83.2 H1 locs := ⟨hP, hD1.weaken (fun _ _ _ h => hFc _ h), hS, hsz1⟩
    generalize H1 = H at hC ⊢
    have h86 : (CS.hs σ) ≤ CS.hs p83.2 := Nat.le_trans h0 mo84
    refine W.widen (k := CS.hs p83.2 - (CS.hs σ)) (n := 17 * (CS.hs p83.2 - (CS.hs σ))) (cAcc2 h0 mo84) (cAcc3 h0 mo84) ?_
    refine lv_goto (tgt := 199) hx hb dX7_plain_178 (by decide) ?_
    obtain rfl := Option.some.inj hf
    exact W.vret hx hb hr (fun t ht hW => ⟨⟨(), rfl, trivial, ⟨by rw [ht]; exact hC.1, va_K.moved hW.alike hK, hC.2.1⟩, by rw [ht]; exact hC.2.2.2⟩, hC.2.2.1.F ht⟩) hC.2.2.1.2.2 dX7_plain_199
  replace hf := (if_neg c82).symm.trans hf
  refine lv_lookup (off := 188) (tgt := 195) hx hb dX7_plain_7 (by decide) (by show Op.lookupswitch.offset [(59, 89), (200, 99), (201, 99), (202, 123), (208, 153), (209, 153), (210, 160), (211, 174), (217, 181), (221, 167)] 188 ((σ.i 43) : Int32).toInt = 188; rw [lv_osw (k := 59) (a := 59) c1 (by decide), lv_osw (k := 200) (a := 200) c6 (by decide), lv_osw (k := 201) (a := 201) c23 (by decide), lv_osw (k := 202) (a := 202) c40 (by decide), lv_osw (k := 208) (a := 208) c57 (by decide), lv_osw (k := 209) (a := 209) c62 (by decide), lv_osw (k := 210) (a := 210) c67 (by decide), lv_osw (k := 211) (a := 211) c72 (by decide), lv_osw (k := 217) (a := 217) c77 (by decide), lv_osw (k := 221) (a := 221) c82 (by decide)]; rfl) (by decide) ?_
  refine lv_aload_n hx hb dX7_plain_195 rfl (lv_at hl 0 rfl) ?_
  obtain ⟨p87, hcp87, hf⟩ := hf_bind hf
  have mo88 : CS.hs σ ≤ CS.hs p87.2 := Mono.go hcp87 (m_X7_compound N E1 E2 hm1 hm2 σ)
  have hr9 : CS.hs p87.2 ≤ CS.hs R.2 := Mono.go hf (mono_some (Nat.le_refl _))
  have hFc := cFree hC hA
  refine va_callv (va_runV (As := []) (rest := []) ⟨hx, hb, hml, hown, hts⟩ (c_X7_compound l dC dI Q N d E1 E2 hE1 hE2 hm1 hm2 σ p87 hcp87) (cwV 0 hts hX7_plain_X7_compound_v240 rfl rfl rfl (by decide +kernel) ⟨(show (17 + 40 * d) + 1 ≤ (18 + 40 * d) by omega), (show 8 + (1 + 11) + 60 * (17 + 40 * d) ≤ 60 * (18 + 40 * d) by omega)⟩) ⟨zPre.blind, va_recv hK hC.1 (ci := 6) (q0 := 3) rfl rfl, cPre_go hZ hK hC⟩ rfl rfl hl.1 rfl (lv_room (Nat.le_of_ble_eq_true rfl)) dX7_plain_196 (cAcc h0 mo88 hr9)) hC.2.2.1 (fun q _ h => hFc q h) hFc (fun u9 t9 H1 locs ht hvm hw hB hz1 hk1 hS => ?_)
  obtain ⟨⟨hP, hK1, hD1⟩, hsz1⟩ := hB
  rw [ht] at hP hsz1
  have hC : CP dC dI Q A s.heap p87.2 H1 locs := ⟨hP, hD1.weaken (fun _ _ _ h => hFc _ h), hS, hsz1⟩
  generalize H1 = H at hC ⊢
  have h90 : (CS.hs σ) ≤ CS.hs p87.2 := Nat.le_trans h0 mo88
  refine W.widen (k := CS.hs p87.2 - (CS.hs σ)) (n := 17 * (CS.hs p87.2 - (CS.hs σ))) (cAcc2 h0 mo88) (cAcc3 h0 mo88) ?_
  obtain rfl := Option.some.inj hf
  exact W.vret hx hb hr (fun t ht hW => ⟨⟨(), rfl, trivial, ⟨by rw [ht]; exact hC.1, va_K.moved hW.alike hK, hC.2.1⟩, by rw [ht]; exact hC.2.2.2⟩, hC.2.2.1.F ht⟩) hC.2.2.1.2.2 dX7_plain_199
theorem k_X7_statement_fieldLink_RX7_61_SR_Statements_alive_Z : Cond.fieldLink RX7 61 "StatementRules2$Statements" "alive" "Z" ∈ wzX7_statement := List.mem_cons_of_mem _ (List.mem_append_right _ (List.mem_append_right _ (List.mem_append_right _ (List.mem_append_right _ (List.mem_append_right _ (List.mem_append_right _ (List.mem_append_right _ (List.mem_append_right _ (List.mem_append_right _ (List.mem_append_right _ (List.mem_append_right _ (List.mem_append_right _ (List.mem_append_right _ (List.mem_append_right _ (List.mem_append_right _ (List.mem_append_right _ (List.mem_append_right _ (List.mem_append_right _ (List.mem_append_right _ (List.mem_append_right _ (List.mem_append_right _ (List.mem_append_right _ (List.mem_append_right _ (List.mem_append_right _ (List.mem_append_right _ (List.mem_append_right _ (List.mem_append_right _ (List.mem_append_right _ (List.mem_append_right _ (List.mem_append_right _ (List.mem_append_right _ (List.mem_append_right _ (List.mem_append_left _ (List.mem_of_getElem? (i := 0) rfl))))))))))))))))))))))))))))))))))
theorem i_X7_statement_X7 : ∀ w ∈ wsX70, w ∈ wzX7_statement := fun _ h => List.mem_cons_of_mem _ (List.mem_append_right _ (List.mem_append_right _ (List.mem_append_right _ (List.mem_append_right _ (List.mem_append_right _ (List.mem_append_right _ (List.mem_append_right _ (List.mem_append_right _ (List.mem_append_right _ (List.mem_append_right _ (List.mem_append_right _ (List.mem_append_right _ (List.mem_append_right _ (List.mem_append_right _ (List.mem_append_right _ (List.mem_append_right _ (List.mem_append_right _ (List.mem_append_right _ (List.mem_append_right _ (List.mem_append_right _ (List.mem_append_right _ (List.mem_append_right _ (List.mem_append_right _ (List.mem_append_right _ (List.mem_append_right _ (List.mem_append_right _ (List.mem_append_right _ (List.mem_append_right _ (List.mem_append_right _ (List.mem_append_right _ (List.mem_append_right _ (List.mem_append_right _ (List.mem_append_right _ (List.mem_append_right _ (List.mem_append_right _ (List.mem_append_right _ (List.mem_append_left _ (h))))))))))))))))))))))))))))))))))))))
theorem k_X7_statement_fieldLink_RX7_20_SR_Statements_code_LSR_Code : Cond.fieldLink RX7 20 "StatementRules2$Statements" "code" "LStatementRules2$Code;" ∈ wzX7_statement := List.mem_cons_of_mem _ (List.mem_append_right _ (List.mem_append_right _ (List.mem_append_right _ (List.mem_append_right _ (List.mem_append_right _ (List.mem_append_right _ (List.mem_append_right _ (List.mem_append_right _ (List.mem_append_right _ (List.mem_append_right _ (List.mem_append_right _ (List.mem_append_right _ (List.mem_append_right _ (List.mem_append_right _ (List.mem_append_right _ (List.mem_append_right _ (List.mem_append_right _ (List.mem_append_right _ (List.mem_append_right _ (List.mem_append_right _ (List.mem_append_right _ (List.mem_append_right _ (List.mem_append_right _ (List.mem_append_right _ (List.mem_append_right _ (List.mem_append_right _ (List.mem_append_right _ (List.mem_append_right _ (List.mem_append_right _ (List.mem_append_right _ (List.mem_append_right _ (List.mem_append_right _ (List.mem_append_left _ (List.mem_of_getElem? (i := 1) rfl))))))))))))))))))))))))))))))))))
theorem k_X7_statement_sameField_SR_Statements_SR_Formulas_code_LSR_Code : Cond.sameField "StatementRules2$Statements" "StatementRules2$Formulas" "code" "LStatementRules2$Code;" ∈ wzX7_statement := List.mem_cons_of_mem _ (List.mem_append_right _ (List.mem_append_right _ (List.mem_append_right _ (List.mem_append_right _ (List.mem_append_right _ (List.mem_append_right _ (List.mem_append_right _ (List.mem_append_right _ (List.mem_append_right _ (List.mem_append_right _ (List.mem_append_right _ (List.mem_append_right _ (List.mem_append_right _ (List.mem_append_right _ (List.mem_append_right _ (List.mem_append_right _ (List.mem_append_right _ (List.mem_append_right _ (List.mem_append_right _ (List.mem_append_right _ (List.mem_append_right _ (List.mem_append_right _ (List.mem_append_right _ (List.mem_append_right _ (List.mem_append_right _ (List.mem_append_right _ (List.mem_append_right _ (List.mem_append_right _ (List.mem_append_right _ (List.mem_append_right _ (List.mem_append_right _ (List.mem_append_right _ (List.mem_append_left _ (List.mem_of_getElem? (i := 2) rfl))))))))))))))))))))))))))))))))))
theorem i_X7_statement_X0 : ∀ w ∈ wsX00, w ∈ wzX7_statement := fun _ h => List.mem_cons_of_mem _ (List.mem_append_right _ (List.mem_append_right _ (List.mem_append_right _ (List.mem_append_right _ (List.mem_append_right _ (List.mem_append_right _ (List.mem_append_right _ (List.mem_append_right _ (List.mem_append_right _ (List.mem_append_right _ (List.mem_append_right _ (List.mem_append_right _ (List.mem_append_right _ (List.mem_append_right _ (List.mem_append_right _ (List.mem_append_right _ (List.mem_append_right _ (List.mem_append_right _ (List.mem_append_right _ (List.mem_append_right _ (List.mem_append_right _ (List.mem_append_right _ (List.mem_append_right _ (List.mem_append_right _ (List.mem_append_right _ (List.mem_append_right _ (List.mem_append_right _ (List.mem_append_right _ (List.mem_append_right _ (List.mem_append_right _ (List.mem_append_right _ (List.mem_append_right _ (List.mem_append_right _ (List.mem_append_right _ (List.mem_append_right _ (List.mem_append_right _ (List.mem_append_right _ (List.mem_append_right _ (List.mem_append_left _ (h))))))))))))))))))))))))))))))))))))))))
theorem k_X7_statement_fieldLink_RX7_14_SR_Statements_opens_LSR_Opens : Cond.fieldLink RX7 14 "StatementRules2$Statements" "opens" "LStatementRules2$Opens;" ∈ wzX7_statement := List.mem_cons_of_mem _ (List.mem_append_right _ (List.mem_append_right _ (List.mem_append_right _ (List.mem_append_right _ (List.mem_append_right _ (List.mem_append_right _ (List.mem_append_right _ (List.mem_append_right _ (List.mem_append_right _ (List.mem_append_right _ (List.mem_append_right _ (List.mem_append_right _ (List.mem_append_right _ (List.mem_append_right _ (List.mem_append_right _ (List.mem_append_right _ (List.mem_append_right _ (List.mem_append_right _ (List.mem_append_right _ (List.mem_append_right _ (List.mem_append_right _ (List.mem_append_right _ (List.mem_append_right _ (List.mem_append_right _ (List.mem_append_right _ (List.mem_append_right _ (List.mem_append_right _ (List.mem_append_right _ (List.mem_append_right _ (List.mem_append_right _ (List.mem_append_right _ (List.mem_append_right _ (List.mem_append_left _ (List.mem_of_getElem? (i := 3) rfl))))))))))))))))))))))))))))))))))
theorem k_X7_statement_fieldLink_RX7_68_SR_Statements_depth_I : Cond.fieldLink RX7 68 "StatementRules2$Statements" "depth" "I" ∈ wzX7_statement := List.mem_cons_of_mem _ (List.mem_append_right _ (List.mem_append_right _ (List.mem_append_right _ (List.mem_append_right _ (List.mem_append_right _ (List.mem_append_right _ (List.mem_append_right _ (List.mem_append_right _ (List.mem_append_right _ (List.mem_append_right _ (List.mem_append_right _ (List.mem_append_right _ (List.mem_append_right _ (List.mem_append_right _ (List.mem_append_right _ (List.mem_append_right _ (List.mem_append_right _ (List.mem_append_right _ (List.mem_append_right _ (List.mem_append_right _ (List.mem_append_right _ (List.mem_append_right _ (List.mem_append_right _ (List.mem_append_right _ (List.mem_append_right _ (List.mem_append_right _ (List.mem_append_right _ (List.mem_append_right _ (List.mem_append_right _ (List.mem_append_right _ (List.mem_append_right _ (List.mem_append_right _ (List.mem_append_left _ (List.mem_of_getElem? (i := 4) rfl))))))))))))))))))))))))))))))))))
theorem k_X7_statement_fieldLink_RX7_29_SR_Statements_names_LSR_Names : Cond.fieldLink RX7 29 "StatementRules2$Statements" "names" "LStatementRules2$Names;" ∈ wzX7_statement := List.mem_cons_of_mem _ (List.mem_append_right _ (List.mem_append_right _ (List.mem_append_right _ (List.mem_append_right _ (List.mem_append_right _ (List.mem_append_right _ (List.mem_append_right _ (List.mem_append_right _ (List.mem_append_right _ (List.mem_append_right _ (List.mem_append_right _ (List.mem_append_right _ (List.mem_append_right _ (List.mem_append_right _ (List.mem_append_right _ (List.mem_append_right _ (List.mem_append_right _ (List.mem_append_right _ (List.mem_append_right _ (List.mem_append_right _ (List.mem_append_right _ (List.mem_append_right _ (List.mem_append_right _ (List.mem_append_right _ (List.mem_append_right _ (List.mem_append_right _ (List.mem_append_right _ (List.mem_append_right _ (List.mem_append_right _ (List.mem_append_right _ (List.mem_append_right _ (List.mem_append_right _ (List.mem_append_left _ (List.mem_of_getElem? (i := 5) rfl))))))))))))))))))))))))))))))))))
theorem k_X7_statement_sameField_SR_Statements_SR_Formulas_names_LSR_Names : Cond.sameField "StatementRules2$Statements" "StatementRules2$Formulas" "names" "LStatementRules2$Names;" ∈ wzX7_statement := List.mem_cons_of_mem _ (List.mem_append_right _ (List.mem_append_right _ (List.mem_append_right _ (List.mem_append_right _ (List.mem_append_right _ (List.mem_append_right _ (List.mem_append_right _ (List.mem_append_right _ (List.mem_append_right _ (List.mem_append_right _ (List.mem_append_right _ (List.mem_append_right _ (List.mem_append_right _ (List.mem_append_right _ (List.mem_append_right _ (List.mem_append_right _ (List.mem_append_right _ (List.mem_append_right _ (List.mem_append_right _ (List.mem_append_right _ (List.mem_append_right _ (List.mem_append_right _ (List.mem_append_right _ (List.mem_append_right _ (List.mem_append_right _ (List.mem_append_right _ (List.mem_append_right _ (List.mem_append_right _ (List.mem_append_right _ (List.mem_append_right _ (List.mem_append_right _ (List.mem_append_right _ (List.mem_append_left _ (List.mem_of_getElem? (i := 6) rfl))))))))))))))))))))))))))))))))))
theorem i_X7_statement_X4 : ∀ w ∈ wsX40, w ∈ wzX7_statement := fun _ h => List.mem_cons_of_mem _ (List.mem_append_right _ (List.mem_append_right _ (List.mem_append_right _ (List.mem_append_right _ (List.mem_append_right _ (List.mem_append_right _ (List.mem_append_right _ (List.mem_append_right _ (List.mem_append_right _ (List.mem_append_right _ (List.mem_append_right _ (List.mem_append_right _ (List.mem_append_right _ (List.mem_append_right _ (List.mem_append_right _ (List.mem_append_right _ (List.mem_append_right _ (List.mem_append_right _ (List.mem_append_right _ (List.mem_append_right _ (List.mem_append_right _ (List.mem_append_right _ (List.mem_append_right _ (List.mem_append_right _ (List.mem_append_right _ (List.mem_append_right _ (List.mem_append_right _ (List.mem_append_right _ (List.mem_append_right _ (List.mem_append_right _ (List.mem_append_right _ (List.mem_append_right _ (List.mem_append_right _ (List.mem_append_right _ (List.mem_append_right _ (List.mem_append_right _ (List.mem_append_right _ (List.mem_append_right _ (List.mem_append_right _ (List.mem_append_right _ (List.mem_append_left _ (h))))))))))))))))))))))))))))))))))))))))))
theorem k_X7_statement_fieldLink_RX7_71_SR_Statements_tokens_LSR_Tokens : Cond.fieldLink RX7 71 "StatementRules2$Statements" "tokens" "LStatementRules2$Tokens;" ∈ wzX7_statement := List.mem_cons_of_mem _ (List.mem_append_right _ (List.mem_append_right _ (List.mem_append_right _ (List.mem_append_right _ (List.mem_append_right _ (List.mem_append_right _ (List.mem_append_right _ (List.mem_append_right _ (List.mem_append_right _ (List.mem_append_right _ (List.mem_append_right _ (List.mem_append_right _ (List.mem_append_right _ (List.mem_append_right _ (List.mem_append_right _ (List.mem_append_right _ (List.mem_append_right _ (List.mem_append_right _ (List.mem_append_right _ (List.mem_append_right _ (List.mem_append_right _ (List.mem_append_right _ (List.mem_append_right _ (List.mem_append_right _ (List.mem_append_right _ (List.mem_append_right _ (List.mem_append_right _ (List.mem_append_right _ (List.mem_append_right _ (List.mem_append_right _ (List.mem_append_right _ (List.mem_append_right _ (List.mem_append_left _ (List.mem_of_getElem? (i := 7) rfl))))))))))))))))))))))))))))))))))
theorem k_X7_statement_sameField_SR_Statements_SR_Formulas_tokens_LSR_Tokens : Cond.sameField "StatementRules2$Statements" "StatementRules2$Formulas" "tokens" "LStatementRules2$Tokens;" ∈ wzX7_statement := List.mem_cons_of_mem _ (List.mem_append_right _ (List.mem_append_right _ (List.mem_append_right _ (List.mem_append_right _ (List.mem_append_right _ (List.mem_append_right _ (List.mem_append_right _ (List.mem_append_right _ (List.mem_append_right _ (List.mem_append_right _ (List.mem_append_right _ (List.mem_append_right _ (List.mem_append_right _ (List.mem_append_right _ (List.mem_append_right _ (List.mem_append_right _ (List.mem_append_right _ (List.mem_append_right _ (List.mem_append_right _ (List.mem_append_right _ (List.mem_append_right _ (List.mem_append_right _ (List.mem_append_right _ (List.mem_append_right _ (List.mem_append_right _ (List.mem_append_right _ (List.mem_append_right _ (List.mem_append_right _ (List.mem_append_right _ (List.mem_append_right _ (List.mem_append_right _ (List.mem_append_right _ (List.mem_append_left _ (List.mem_of_getElem? (i := 8) rfl))))))))))))))))))))))))))))))))))
theorem i_X7_statement_X9 : ∀ w ∈ wsX90, w ∈ wzX7_statement := fun _ h => List.mem_cons_of_mem _ (List.mem_append_right _ (List.mem_append_right _ (List.mem_append_right _ (List.mem_append_right _ (List.mem_append_right _ (List.mem_append_right _ (List.mem_append_right _ (List.mem_append_right _ (List.mem_append_right _ (List.mem_append_right _ (List.mem_append_right _ (List.mem_append_right _ (List.mem_append_right _ (List.mem_append_right _ (List.mem_append_right _ (List.mem_append_right _ (List.mem_append_right _ (List.mem_append_right _ (List.mem_append_right _ (List.mem_append_right _ (List.mem_append_right _ (List.mem_append_right _ (List.mem_append_right _ (List.mem_append_right _ (List.mem_append_right _ (List.mem_append_right _ (List.mem_append_right _ (List.mem_append_right _ (List.mem_append_right _ (List.mem_append_right _ (List.mem_append_right _ (List.mem_append_right _ (List.mem_append_right _ (List.mem_append_right _ (List.mem_append_right _ (List.mem_append_right _ (List.mem_append_right _ (List.mem_append_left _ (h)))))))))))))))))))))))))))))))))))))))
set_option maxHeartbeats 4000000 in
set_option maxRecDepth 100000 in
theorem j_X7_statement_122 {p : Program} {e : Env} {s : State} {m : MethodId} {args : Array Value} {below : List Frame} {meth : Method} {c : Code} {A : Nat → Prop} (l : Launch) (dC : Nat → ClassId) (dI : Nat → Nat → Nat) (Q : CQ) (N : Nat) (d : Nat) (E1 : CS → Option (Unit × CS)) (E2 : CS → Option (Int32 × CS)) (hE1 : cMF l dC dI Q d E1) (hE2 : cMO l dC dI Q d E2) (hm1 : ∀ σ, Mono (CS.hs σ) (E1 σ)) (hm2 : ∀ σ, Mono (CS.hs σ) (E2 σ)) (z9h : Nat) (R : Unit × CS) (hx : p.tables.exec = Jvm.exec) (hb : c.code = cX7_statement) (hr : meth.sig.returnType = none) (hml : c.maxLocals = 2) (hown : s.vm.findClass RX7 = some m.cls) (hts : ∀ w ∈ wzX7_statement, w.before args s = true) (hlocks : meth.locks = false) (hZ : zAMB s) (hA : ∀ q : Nat, s.heap.size ≤ q → A q) (hK : va_K (dC, dI) vwCl (cT Q) s) : ∀ (σ : CS) (H : Heap) (locs : List Loc) (ls : Array Slot), f_X7_statement_122 N E1 E2 σ = some R → z9h ≤ CS.hs σ → CP dC dI Q A s.heap σ H locs → lv_has ls 2 [(0, .ref (Q.o 3))] → W p l e ({ frames := (19 + 40 * d), cells := CS.hs R.2 - z9h, slots := 17 * (CS.hs R.2 - z9h), locals := 60 * (19 + 40 * d) }) s m args below meth c H locs (CS.hs σ - z9h) (17 * (CS.hs σ - z9h)) (MQ below (va_Qv (fun (_ : Unit) => True) (fun (_ : Unit) (t : State) => zPost dC dI A (cW Q R.2) (cT Q) t ∧ t.heap.size = CS.hs R.2) A) args s (CS.hs R.2 - z9h) (17 * (CS.hs R.2 - z9h)) A) (F0 m 122 ls []) := by
  intro σ  H locs ls hf h0 hC hl
  unfold f_X7_statement_122 at hf
  refine lv_aload_n hx hb dX7_statement_122 rfl (lv_at hl 0 rfl) ?_
  refine cG_29 hx hb hts i_X7_statement_X7 hown hK hC (hts (.fieldLink RX7 20 "StatementRules2$Statements" "code" "LStatementRules2$Code;") k_X7_statement_fieldLink_RX7_20_SR_Statements_code_LSR_Code) (fun x9 q9 => u_same (hts (.sameField "StatementRules2$Statements" "StatementRules2$Formulas" "code" "LStatementRules2$Code;") k_X7_statement_sameField_SR_Statements_SR_Formulas_code_LSR_Code) x9 q9) dX7_statement_123 ?_
  refine lv_bipush (v := 51) hx hb dX7_statement_126 (by decide) ?_
  refine lv_iconst (v := 0) hx hb dX7_statement_128 (by decide) ?_
  obtain ⟨p13, hcp13, hf⟩ := hf_bind hf
  have mo14 : CS.hs σ ≤ CS.hs p13.2 := Mono.go hcp13 (m_X0_add N σ 51 0)
  have hr9 : CS.hs p13.2 ≤ CS.hs R.2 := Mono.go hf (mono_bind (m_X7_plain N E1 E2 hm1 hm2 p13.2) (fun p17 => (mono_some (Nat.le_refl _))))
  have hFc := cFree hC hA
  refine va_callv (va_runV (As := [.int 51, .int 0]) (rest := []) ⟨hx, hb, hml, hown, hts⟩ (c_X0_add l dC dI Q N σ 51 0 p13 hcp13) (cwV 2 hts hX7_statement_X0_add_v176 rfl rfl rfl (by decide +kernel) ⟨(show 2 + 1 ≤ (19 + 40 * d) by omega), (show 8 + (3 + 11) + 60 * 2 ≤ 60 * (19 + 40 * d) by omega)⟩) ⟨zPre.blind, va_recv hK hC.1 (ci := 0) (q0 := 2) rfl rfl, cPre_go hZ hK hC⟩ rfl rfl hl.1 rfl (lv_room (Nat.le_of_ble_eq_true rfl)) dX7_statement_129 (cAcc h0 mo14 hr9)) hC.2.2.1 (fun q _ h => hFc q h) hFc (fun u9 t9 H1 locs ht hvm hw hB hz1 hk1 hS => ?_)
  obtain ⟨⟨hP, hK1, hD1⟩, hsz1⟩ := hB
  rw [ht] at hP hsz1
  have hC : CP dC dI Q A s.heap p13.2 H1 locs := ⟨hP, hD1.weaken (fun _ _ _ h => hFc _ h), hS, hsz1⟩
  generalize H1 = H at hC ⊢
  have h16 : z9h ≤ CS.hs p13.2 := Nat.le_trans h0 mo14
  refine W.widen (k := CS.hs p13.2 - z9h) (n := 17 * (CS.hs p13.2 - z9h)) (cAcc2 h0 mo14) (cAcc3 h0 mo14) ?_
  refine lv_aload_n hx hb dX7_statement_132 rfl (lv_at hl 0 rfl) ?_
  obtain ⟨p17, hcp17, hf⟩ := hf_bind hf
  have mo18 : CS.hs p13.2 ≤ CS.hs p17.2 := Mono.go hcp17 (m_X7_plain N E1 E2 hm1 hm2 p13.2)
  have hr9 : CS.hs p17.2 ≤ CS.hs R.2 := Mono.go hf (mono_some (Nat.le_refl _))
  have hFc := cFree hC hA
  refine va_callv (va_runV (As := []) (rest := []) ⟨hx, hb, hml, hown, hts⟩ (c_X7_plain l dC dI Q N d E1 E2 hE1 hE2 hm1 hm2 p13.2 p17 hcp17) (cwV 0 hts hX7_statement_X7_plain_v178 rfl rfl rfl (by decide +kernel) ⟨(show (18 + 40 * d) + 1 ≤ (19 + 40 * d) by omega), (show 8 + (1 + 11) + 60 * (18 + 40 * d) ≤ 60 * (19 + 40 * d) by omega)⟩) ⟨zPre.blind, va_recv hK hC.1 (ci := 6) (q0 := 3) rfl rfl, cPre_go hZ hK hC⟩ rfl rfl hl.1 rfl (lv_room (Nat.le_of_ble_eq_true rfl)) dX7_statement_133 (cAcc h16 mo18 hr9)) hC.2.2.1 (fun q _ h => hFc q h) hFc (fun u9 t9 H1 locs ht hvm hw hB hz1 hk1 hS => ?_)
  obtain ⟨⟨hP, hK1, hD1⟩, hsz1⟩ := hB
  rw [ht] at hP hsz1
  have hC : CP dC dI Q A s.heap p17.2 H1 locs := ⟨hP, hD1.weaken (fun _ _ _ h => hFc _ h), hS, hsz1⟩
  generalize H1 = H at hC ⊢
  have h20 : z9h ≤ CS.hs p17.2 := Nat.le_trans h16 mo18
  refine W.widen (k := CS.hs p17.2 - z9h) (n := 17 * (CS.hs p17.2 - z9h)) (cAcc2 h16 mo18) (cAcc3 h16 mo18) ?_
  obtain rfl := Option.some.inj hf
  exact W.vret hx hb hr (fun t ht hW => ⟨⟨(), rfl, trivial, ⟨by rw [ht]; exact hC.1, va_K.moved hW.alike hK, hC.2.1⟩, by rw [ht]; exact hC.2.2.2⟩, hC.2.2.1.F ht⟩) hC.2.2.1.2.2 dX7_statement_136
set_option maxHeartbeats 4000000 in
set_option maxRecDepth 100000 in
theorem j_X7_statement_115 {p : Program} {e : Env} {s : State} {m : MethodId} {args : Array Value} {below : List Frame} {meth : Method} {c : Code} {A : Nat → Prop} (l : Launch) (dC : Nat → ClassId) (dI : Nat → Nat → Nat) (Q : CQ) (N : Nat) (d : Nat) (E1 : CS → Option (Unit × CS)) (E2 : CS → Option (Int32 × CS)) (hE1 : cMF l dC dI Q d E1) (hE2 : cMO l dC dI Q d E2) (hm1 : ∀ σ, Mono (CS.hs σ) (E1 σ)) (hm2 : ∀ σ, Mono (CS.hs σ) (E2 σ)) (z9h : Nat) (R : Unit × CS) (hx : p.tables.exec = Jvm.exec) (hb : c.code = cX7_statement) (hr : meth.sig.returnType = none) (hml : c.maxLocals = 2) (hown : s.vm.findClass RX7 = some m.cls) (hts : ∀ w ∈ wzX7_statement, w.before args s = true) (hlocks : meth.locks = false) (hZ : zAMB s) (hA : ∀ q : Nat, s.heap.size ≤ q → A q) (hK : va_K (dC, dI) vwCl (cT Q) s) : ∀ (σ : CS) (H : Heap) (locs : List Loc) (ls : Array Slot), f_X7_statement_115 N E1 E2 σ = some R → z9h ≤ CS.hs σ → CP dC dI Q A s.heap σ H locs → lv_has ls 2 [(0, .ref (Q.o 3))] → W p l e ({ frames := (19 + 40 * d), cells := CS.hs R.2 - z9h, slots := 17 * (CS.hs R.2 - z9h), locals := 60 * (19 + 40 * d) }) s m args below meth c H locs (CS.hs σ - z9h) (17 * (CS.hs σ - z9h)) (MQ below (va_Qv (fun (_ : Unit) => True) (fun (_ : Unit) (t : State) => zPost dC dI A (cW Q R.2) (cT Q) t ∧ t.heap.size = CS.hs R.2) A) args s (CS.hs R.2 - z9h) (17 * (CS.hs R.2 - z9h)) A) (F0 m 115 ls []) := by
  intro σ  H locs ls hf h0 hC hl
  unfold f_X7_statement_115 at hf
  refine lv_aload_n hx hb dX7_statement_115 rfl (lv_at hl 0 rfl) ?_
  obtain ⟨p26, hcp26, hf⟩ := hf_bind hf
  have mo27 : CS.hs σ ≤ CS.hs p26.2 := Mono.go hcp26 (m_X1_misplaced N σ)
  have hr9 : CS.hs p26.2 ≤ CS.hs R.2 := Mono.go hf (mono_some (Nat.le_refl _))
  have hFc := cFree hC hA
  refine va_callv (va_runU (As := []) (rest := []) ⟨hx, hb, hml, hown, hts⟩ (c_X1_misplaced l dC dI Q N σ p26 hcp26) (va_cwU 0 hts hX7_statement_X1_misplaced_u161 rfl rfl rfl rfl (by decide +kernel) ⟨(show 3 + 1 ≤ (19 + 40 * d) by omega), (show 8 + (1 + 11) + 60 * 3 ≤ 60 * (19 + 40 * d) by omega)⟩) ⟨zPre.blind, va_recv hK hC.1 (ci := 6) (q0 := 3) rfl rfl, cPre_go hZ hK hC⟩ rfl rfl hl.1 rfl (lv_room (Nat.le_of_ble_eq_true rfl)) dX7_statement_116 (cAcc h0 mo27 hr9)) hC.2.2.1 (fun q _ h => hFc q h) hFc (fun u9 t9 H1 locs ht hvm hw hB hz1 hk1 hS => ?_)
  obtain ⟨⟨hP, hK1, hD1⟩, hsz1⟩ := hB
  rw [ht] at hP hsz1
  have hC : CP dC dI Q A s.heap p26.2 H1 locs := ⟨hP, hD1.weaken (fun _ _ _ h => hFc _ h), hS, hsz1⟩
  generalize H1 = H at hC ⊢
  have h29 : z9h ≤ CS.hs p26.2 := Nat.le_trans h0 mo27
  refine W.widen (k := CS.hs p26.2 - z9h) (n := 17 * (CS.hs p26.2 - z9h)) (cAcc2 h0 mo27) (cAcc3 h0 mo27) ?_
  refine lv_goto (tgt := 136) hx hb dX7_statement_119 (by decide) ?_
  obtain rfl := Option.some.inj hf
  exact W.vret hx hb hr (fun t ht hW => ⟨⟨(), rfl, trivial, ⟨by rw [ht]; exact hC.1, va_K.moved hW.alike hK, hC.2.1⟩, by rw [ht]; exact hC.2.2.2⟩, hC.2.2.1.F ht⟩) hC.2.2.1.2.2 dX7_statement_136
set_option maxHeartbeats 4000000 in
set_option maxRecDepth 100000 in
theorem j_X7_statement_18 {p : Program} {e : Env} {s : State} {m : MethodId} {args : Array Value} {below : List Frame} {meth : Method} {c : Code} {A : Nat → Prop} (l : Launch) (dC : Nat → ClassId) (dI : Nat → Nat → Nat) (Q : CQ) (N : Nat) (d : Nat) (E1 : CS → Option (Unit × CS)) (E2 : CS → Option (Int32 × CS)) (hE1 : cMF l dC dI Q d E1) (hE2 : cMO l dC dI Q d E2) (hm1 : ∀ σ, Mono (CS.hs σ) (E1 σ)) (hm2 : ∀ σ, Mono (CS.hs σ) (E2 σ)) (z9h : Nat) (R : Unit × CS) (hx : p.tables.exec = Jvm.exec) (hb : c.code = cX7_statement) (hr : meth.sig.returnType = none) (hml : c.maxLocals = 2) (hown : s.vm.findClass RX7 = some m.cls) (hts : ∀ w ∈ wzX7_statement, w.before args s = true) (hlocks : meth.locks = false) (hZ : zAMB s) (hA : ∀ q : Nat, s.heap.size ≤ q → A q) (hK : va_K (dC, dI) vwCl (cT Q) s) : ∀ (σ : CS) (x1 : Int32) (H : Heap) (locs : List Loc) (ls : Array Slot), f_X7_statement_18 N E1 E2 σ x1 = some R → z9h ≤ CS.hs σ → CP dC dI Q A s.heap σ H locs → lv_has ls 2 [(0, .ref (Q.o 3)), (1, .int x1)] → W p l e ({ frames := (19 + 40 * d), cells := CS.hs R.2 - z9h, slots := 17 * (CS.hs R.2 - z9h), locals := 60 * (19 + 40 * d) }) s m args below meth c H locs (CS.hs σ - z9h) (17 * (CS.hs σ - z9h)) (MQ below (va_Qv (fun (_ : Unit) => True) (fun (_ : Unit) (t : State) => zPost dC dI A (cW Q R.2) (cT Q) t ∧ t.heap.size = CS.hs R.2) A) args s (CS.hs R.2 - z9h) (17 * (CS.hs R.2 - z9h)) A) (F0 m 18 ls []) := by
  intro σ x1 H locs ls hf h0 hC hl
  unfold f_X7_statement_18 at hf
  refine lv_aload_n hx hb dX7_statement_18 rfl (lv_at hl 0 rfl) ?_
  refine lv_iconst (v := 1) hx hb dX7_statement_19 (by decide) ?_
  refine cP_36 (v := 1) hx hb hts i_X7_statement_X7 hown hK hC (hts (.fieldLink RX7 61 "StatementRules2$Statements" "alive" "Z") k_X7_statement_fieldLink_RX7_61_SR_Statements_alive_Z) (fun _ q9 => q9) dX7_statement_20 (by decide) (fun H locs hC => ?_)
  refine lv_aload_n hx hb dX7_statement_23 rfl (lv_at hl 0 rfl) ?_
  refine cG_29 hx hb hts i_X7_statement_X7 hown hK hC (hts (.fieldLink RX7 20 "StatementRules2$Statements" "code" "LStatementRules2$Code;") k_X7_statement_fieldLink_RX7_20_SR_Statements_code_LSR_Code) (fun x9 q9 => u_same (hts (.sameField "StatementRules2$Statements" "StatementRules2$Formulas" "code" "LStatementRules2$Code;") k_X7_statement_sameField_SR_Statements_SR_Formulas_code_LSR_Code) x9 q9) dX7_statement_24 ?_
  refine lv_dup hx hb dX7_statement_27 rfl ?_
  refine cGN_24 (v := (σ.i 24)) hx hb hts i_X7_statement_X0 hown hK hC (va_Nw.use rfl (hZ.1 (.fieldLinkNest RX7 167 "StatementRules2$Code" "statements" "I" "StatementRules2") (by decide +kernel))) (fun _ q9 => q9) dX7_statement_28 rfl ?_
  refine lv_iconst (v := 1) hx hb dX7_statement_31 (by decide) ?_
  refine lv_iadd hx hb dX7_statement_32 ?_
  refine cPN_24 (v := ((σ.i 24) + 1)) hx hb hts i_X7_statement_X0 hown hK hC (va_Nw.use rfl (hZ.1 (.fieldLinkNest RX7 167 "StatementRules2$Code" "statements" "I" "StatementRules2") (by decide +kernel))) (fun _ q9 => q9) dX7_statement_33 (fun H locs hC => ?_)
  refine lv_aload_n hx hb dX7_statement_36 rfl (lv_at hl 0 rfl) ?_
  refine lv_iconst (v := 2) hx hb dX7_statement_37 (by decide) ?_
  obtain ⟨p2, hcp2, hf⟩ := hf_bind hf
  have mo3 : CS.hs σ ≤ CS.hs p2.2 := Mono.go hcp2 (m_X1_found N (CS.setI (CS.setI σ 36 1) 24 ((σ.i 24) + 1)) 2)
  have hr9 : CS.hs p2.2 ≤ CS.hs R.2 := Mono.go hf (mono_ite (mono_bind (m_X1_found N p2.2 123) (fun p7 => (mono_ite (mono_ite (m_X7_statement_122 N E1 E2 hm1 hm2 p7.2) (mono_bind (m_X1_found N p7.2 200) (fun p21 => (mono_ite (mono_bind (m_X1_found N p21.2 201) (fun p30 => (mono_ite (m_X7_statement_122 N E1 E2 hm1 hm2 p30.2) (m_X7_statement_115 N E1 E2 hm1 hm2 p30.2)))) (m_X7_statement_115 N E1 E2 hm1 hm2 p21.2))))) (mono_bind (m_X1_open N p7.2 123) (fun p35 => (mono_bind (m_X6_push N p35.2 301 (p35.2.i 38) (p35.2.i 50)) (fun p39 => (mono_oc (mono_some (Nat.le_refl _)) (fun a44 => (mono_some (Nat.le_refl _))))))))))) (mono_bind (m_X7_named N E1 E2 hm1 hm2 p2.2) (fun p45 => (mono_some (Nat.le_refl _)))))
  have hFc := cFree hC hA
  refine va_calli (va_runU (As := [.int 2]) (rest := []) ⟨hx, hb, hml, hown, hts⟩ (c_X1_found l dC dI Q N (CS.setI (CS.setI σ 36 1) 24 ((σ.i 24) + 1)) 2 p2 hcp2) (va_cwU 1 hts hX7_statement_X1_found_u110 rfl rfl rfl rfl (by decide +kernel) ⟨(show 1 + 1 ≤ (19 + 40 * d) by omega), (show 8 + (2 + 11) + 60 * 1 ≤ 60 * (19 + 40 * d) by omega)⟩) ⟨zPre.blind, va_recv hK hC.1 (ci := 6) (q0 := 3) rfl rfl, cPre_go hZ hK hC⟩ rfl rfl hl.1 rfl (lv_room (Nat.le_of_ble_eq_true rfl)) dX7_statement_38 (cAcc h0 mo3 hr9)) hC.2.2.1 (fun q _ h => hFc q h) hFc (fun r4 u9 t9 H1 locs ht hvm hw hB hz1 hk1 hS => ?_)
  obtain ⟨⟨hP, hK1, hD1⟩, hsz1⟩ := hB
  rw [ht] at hP hsz1
  have hC : CP dC dI Q A s.heap p2.2 H1 locs := ⟨hP, hD1.weaken (fun _ _ _ h => hFc _ h), hS, hsz1⟩
  generalize H1 = H at hC ⊢
  have h5 : z9h ≤ CS.hs p2.2 := Nat.le_trans h0 mo3
  refine W.widen (k := CS.hs p2.2 - z9h) (n := 17 * (CS.hs p2.2 - z9h)) (cAcc2 h0 mo3) (cAcc3 h0 mo3) ?_
  obtain rfl : r4 = p2.1 := hw
  refine lv_if_eq (tgt := 51) hx hb dX7_statement_41 (by decide) (fun c6 => ?_) (fun c6 => ?_)
  ·
    replace hf := (if_pos c6).symm.trans hf
    refine lv_aload_n hx hb dX7_statement_51 rfl (lv_at hl 0 rfl) ?_
    refine lv_bipush (v := 123) hx hb dX7_statement_52 (by decide) ?_
    obtain ⟨p7, hcp7, hf⟩ := hf_bind hf
    have mo8 : CS.hs p2.2 ≤ CS.hs p7.2 := Mono.go hcp7 (m_X1_found N p2.2 123)
    have hr9 : CS.hs p7.2 ≤ CS.hs R.2 := Mono.go hf (mono_ite (mono_ite (m_X7_statement_122 N E1 E2 hm1 hm2 p7.2) (mono_bind (m_X1_found N p7.2 200) (fun p21 => (mono_ite (mono_bind (m_X1_found N p21.2 201) (fun p30 => (mono_ite (m_X7_statement_122 N E1 E2 hm1 hm2 p30.2) (m_X7_statement_115 N E1 E2 hm1 hm2 p30.2)))) (m_X7_statement_115 N E1 E2 hm1 hm2 p21.2))))) (mono_bind (m_X1_open N p7.2 123) (fun p35 => (mono_bind (m_X6_push N p35.2 301 (p35.2.i 38) (p35.2.i 50)) (fun p39 => (mono_oc (mono_some (Nat.le_refl _)) (fun a44 => (mono_some (Nat.le_refl _)))))))))
    have hFc := cFree hC hA
    refine va_calli (va_runU (As := [.int 123]) (rest := []) ⟨hx, hb, hml, hown, hts⟩ (c_X1_found l dC dI Q N p2.2 123 p7 hcp7) (va_cwU 1 hts hX7_statement_X1_found_u110 rfl rfl rfl rfl (by decide +kernel) ⟨(show 1 + 1 ≤ (19 + 40 * d) by omega), (show 8 + (2 + 11) + 60 * 1 ≤ 60 * (19 + 40 * d) by omega)⟩) ⟨zPre.blind, va_recv hK hC.1 (ci := 6) (q0 := 3) rfl rfl, cPre_go hZ hK hC⟩ rfl rfl hl.1 rfl (lv_room (Nat.le_of_ble_eq_true rfl)) dX7_statement_54 (cAcc h5 mo8 hr9)) hC.2.2.1 (fun q _ h => hFc q h) hFc (fun r9 u9 t9 H1 locs ht hvm hw hB hz1 hk1 hS => ?_)
    obtain ⟨⟨hP, hK1, hD1⟩, hsz1⟩ := hB
    rw [ht] at hP hsz1
    have hC : CP dC dI Q A s.heap p7.2 H1 locs := ⟨hP, hD1.weaken (fun _ _ _ h => hFc _ h), hS, hsz1⟩
    generalize H1 = H at hC ⊢
    have h10 : z9h ≤ CS.hs p7.2 := Nat.le_trans h5 mo8
    refine W.widen (k := CS.hs p7.2 - z9h) (n := 17 * (CS.hs p7.2 - z9h)) (cAcc2 h5 mo8) (cAcc3 h5 mo8) ?_
    obtain rfl : r9 = p7.1 := hw
    refine lv_if_eq (tgt := 91) hx hb dX7_statement_57 (by decide) (fun c11 => ?_) (fun c11 => ?_)
    ·
      replace hf := (if_pos c11).symm.trans hf
      refine lv_iload_n hx hb dX7_statement_91 rfl (lv_at hl 1 rfl) ?_
      refine lv_if_eq (tgt := 122) hx hb dX7_statement_92 (by decide) (fun c12 => ?_) (fun c12 => ?_)
      ·
        replace hf := (if_pos c12).symm.trans hf
        exact j_X7_statement_122 l dC dI Q N d E1 E2 hE1 hE2 hm1 hm2 z9h R hx hb hr hml hown hts hlocks hZ hA hK p7.2 _ _ _ hf h10 hC (lv_sub hl [0] rfl)
      ·
        replace hf := (if_neg c12).symm.trans hf
        refine lv_aload_n hx hb dX7_statement_95 rfl (lv_at hl 0 rfl) ?_
        refine lv_sipush (v := 200) hx hb dX7_statement_96 (by decide) ?_
        obtain ⟨p21, hcp21, hf⟩ := hf_bind hf
        have mo22 : CS.hs p7.2 ≤ CS.hs p21.2 := Mono.go hcp21 (m_X1_found N p7.2 200)
        have hr9 : CS.hs p21.2 ≤ CS.hs R.2 := Mono.go hf (mono_ite (mono_bind (m_X1_found N p21.2 201) (fun p30 => (mono_ite (m_X7_statement_122 N E1 E2 hm1 hm2 p30.2) (m_X7_statement_115 N E1 E2 hm1 hm2 p30.2)))) (m_X7_statement_115 N E1 E2 hm1 hm2 p21.2))
        have hFc := cFree hC hA
        refine va_calli (va_runU (As := [.int 200]) (rest := []) ⟨hx, hb, hml, hown, hts⟩ (c_X1_found l dC dI Q N p7.2 200 p21 hcp21) (va_cwU 1 hts hX7_statement_X1_found_u110 rfl rfl rfl rfl (by decide +kernel) ⟨(show 1 + 1 ≤ (19 + 40 * d) by omega), (show 8 + (2 + 11) + 60 * 1 ≤ 60 * (19 + 40 * d) by omega)⟩) ⟨zPre.blind, va_recv hK hC.1 (ci := 6) (q0 := 3) rfl rfl, cPre_go hZ hK hC⟩ rfl rfl hl.1 rfl (lv_room (Nat.le_of_ble_eq_true rfl)) dX7_statement_99 (cAcc h10 mo22 hr9)) hC.2.2.1 (fun q _ h => hFc q h) hFc (fun r23 u9 t9 H1 locs ht hvm hw hB hz1 hk1 hS => ?_)
        obtain ⟨⟨hP, hK1, hD1⟩, hsz1⟩ := hB
        rw [ht] at hP hsz1
        have hC : CP dC dI Q A s.heap p21.2 H1 locs := ⟨hP, hD1.weaken (fun _ _ _ h => hFc _ h), hS, hsz1⟩
        generalize H1 = H at hC ⊢
        have h24 : z9h ≤ CS.hs p21.2 := Nat.le_trans h10 mo22
        refine W.widen (k := CS.hs p21.2 - z9h) (n := 17 * (CS.hs p21.2 - z9h)) (cAcc2 h10 mo22) (cAcc3 h10 mo22) ?_
        obtain rfl : r23 = p21.1 := hw
        refine lv_if_ne (tgt := 115) hx hb dX7_statement_102 (by decide) (fun c25 => ?_) (fun c25 => ?_)
        ·
          replace hf := (if_neg c25).symm.trans hf
          exact j_X7_statement_115 l dC dI Q N d E1 E2 hE1 hE2 hm1 hm2 z9h R hx hb hr hml hown hts hlocks hZ hA hK p21.2 _ _ _ hf h24 hC (lv_sub hl [0] rfl)
        ·
          replace hf := (if_pos c25).symm.trans hf
          refine lv_aload_n hx hb dX7_statement_105 rfl (lv_at hl 0 rfl) ?_
          refine lv_sipush (v := 201) hx hb dX7_statement_106 (by decide) ?_
          obtain ⟨p30, hcp30, hf⟩ := hf_bind hf
          have mo31 : CS.hs p21.2 ≤ CS.hs p30.2 := Mono.go hcp30 (m_X1_found N p21.2 201)
          have hr9 : CS.hs p30.2 ≤ CS.hs R.2 := Mono.go hf (mono_ite (m_X7_statement_122 N E1 E2 hm1 hm2 p30.2) (m_X7_statement_115 N E1 E2 hm1 hm2 p30.2))
          have hFc := cFree hC hA
          refine va_calli (va_runU (As := [.int 201]) (rest := []) ⟨hx, hb, hml, hown, hts⟩ (c_X1_found l dC dI Q N p21.2 201 p30 hcp30) (va_cwU 1 hts hX7_statement_X1_found_u110 rfl rfl rfl rfl (by decide +kernel) ⟨(show 1 + 1 ≤ (19 + 40 * d) by omega), (show 8 + (2 + 11) + 60 * 1 ≤ 60 * (19 + 40 * d) by omega)⟩) ⟨zPre.blind, va_recv hK hC.1 (ci := 6) (q0 := 3) rfl rfl, cPre_go hZ hK hC⟩ rfl rfl hl.1 rfl (lv_room (Nat.le_of_ble_eq_true rfl)) dX7_statement_109 (cAcc h24 mo31 hr9)) hC.2.2.1 (fun q _ h => hFc q h) hFc (fun r32 u9 t9 H1 locs ht hvm hw hB hz1 hk1 hS => ?_)
          obtain ⟨⟨hP, hK1, hD1⟩, hsz1⟩ := hB
          rw [ht] at hP hsz1
          have hC : CP dC dI Q A s.heap p30.2 H1 locs := ⟨hP, hD1.weaken (fun _ _ _ h => hFc _ h), hS, hsz1⟩
          generalize H1 = H at hC ⊢
          have h33 : z9h ≤ CS.hs p30.2 := Nat.le_trans h24 mo31
          refine W.widen (k := CS.hs p30.2 - z9h) (n := 17 * (CS.hs p30.2 - z9h)) (cAcc2 h24 mo31) (cAcc3 h24 mo31) ?_
          obtain rfl : r32 = p30.1 := hw
          refine lv_if_eq (tgt := 122) hx hb dX7_statement_112 (by decide) (fun c34 => ?_) (fun c34 => ?_)
          ·
            replace hf := (if_pos c34).symm.trans hf
            exact j_X7_statement_122 l dC dI Q N d E1 E2 hE1 hE2 hm1 hm2 z9h R hx hb hr hml hown hts hlocks hZ hA hK p30.2 _ _ _ hf h33 hC (lv_sub hl [0] rfl)
          ·
            replace hf := (if_neg c34).symm.trans hf
            exact j_X7_statement_115 l dC dI Q N d E1 E2 hE1 hE2 hm1 hm2 z9h R hx hb hr hml hown hts hlocks hZ hA hK p30.2 _ _ _ hf h33 hC (lv_sub hl [0] rfl)
    ·
      replace hf := (if_neg c11).symm.trans hf
      refine lv_aload_n hx hb dX7_statement_60 rfl (lv_at hl 0 rfl) ?_
      refine lv_bipush (v := 123) hx hb dX7_statement_61 (by decide) ?_
      obtain ⟨p35, hcp35, hf⟩ := hf_bind hf
      have mo36 : CS.hs p7.2 ≤ CS.hs p35.2 := Mono.go hcp35 (m_X1_open N p7.2 123)
      have hr9 : CS.hs p35.2 ≤ CS.hs R.2 := Mono.go hf (mono_bind (m_X6_push N p35.2 301 (p35.2.i 38) (p35.2.i 50)) (fun p39 => (mono_oc (mono_some (Nat.le_refl _)) (fun a44 => (mono_some (Nat.le_refl _))))))
      have hFc := cFree hC hA
      refine va_callv (va_runU (As := [.int 123]) (rest := []) ⟨hx, hb, hml, hown, hts⟩ (c_X1_open l dC dI Q N p7.2 123 p35 hcp35) (va_cwU 1 hts hX7_statement_X1_open_u173 rfl rfl rfl rfl (by decide +kernel) ⟨(show 4 + 1 ≤ (19 + 40 * d) by omega), (show 8 + (2 + 11) + 60 * 4 ≤ 60 * (19 + 40 * d) by omega)⟩) ⟨zPre.blind, va_recv hK hC.1 (ci := 6) (q0 := 3) rfl rfl, cPre_go hZ hK hC⟩ rfl rfl hl.1 rfl (lv_room (Nat.le_of_ble_eq_true rfl)) dX7_statement_63 (cAcc h10 mo36 hr9)) hC.2.2.1 (fun q _ h => hFc q h) hFc (fun u9 t9 H1 locs ht hvm hw hB hz1 hk1 hS => ?_)
      obtain ⟨⟨hP, hK1, hD1⟩, hsz1⟩ := hB
      rw [ht] at hP hsz1
      have hC : CP dC dI Q A s.heap p35.2 H1 locs := ⟨hP, hD1.weaken (fun _ _ _ h => hFc _ h), hS, hsz1⟩
      generalize H1 = H at hC ⊢
      have h38 : z9h ≤ CS.hs p35.2 := Nat.le_trans h10 mo36
      refine W.widen (k := CS.hs p35.2 - z9h) (n := 17 * (CS.hs p35.2 - z9h)) (cAcc2 h10 mo36) (cAcc3 h10 mo36) ?_
      refine lv_aload_n hx hb dX7_statement_66 rfl (lv_at hl 0 rfl) ?_
      refine cG_35 hx hb hts i_X7_statement_X7 hown hK hC (hts (.fieldLink RX7 14 "StatementRules2$Statements" "opens" "LStatementRules2$Opens;") k_X7_statement_fieldLink_RX7_14_SR_Statements_opens_LSR_Opens) (fun _ q9 => q9) dX7_statement_67 ?_
      refine lv_sipush (v := 301) hx hb dX7_statement_70 (by decide) ?_
      refine lv_aload_n hx hb dX7_statement_73 rfl (lv_at hl 0 rfl) ?_
      refine cG_38 (v := (p35.2.i 38)) hx hb hts i_X7_statement_X7 hown hK hC (hts (.fieldLink RX7 68 "StatementRules2$Statements" "depth" "I") k_X7_statement_fieldLink_RX7_68_SR_Statements_depth_I) (fun _ q9 => q9) dX7_statement_74 rfl ?_
      refine lv_aload_n hx hb dX7_statement_77 rfl (lv_at hl 0 rfl) ?_
      refine cG_31 hx hb hts i_X7_statement_X7 hown hK hC (hts (.fieldLink RX7 29 "StatementRules2$Statements" "names" "LStatementRules2$Names;") k_X7_statement_fieldLink_RX7_29_SR_Statements_names_LSR_Names) (fun x9 q9 => u_same (hts (.sameField "StatementRules2$Statements" "StatementRules2$Formulas" "names" "LStatementRules2$Names;") k_X7_statement_sameField_SR_Statements_SR_Formulas_names_LSR_Names) x9 q9) dX7_statement_78 ?_
      refine cGN_50 (v := (p35.2.i 50)) hx hb hts i_X7_statement_X4 hown hK hC (va_Nw.use rfl (hZ.1 (.fieldLinkNest RX7 33 "StatementRules2$Names" "count" "I" "StatementRules2") (by decide +kernel))) (fun _ q9 => q9) dX7_statement_81 rfl ?_
      obtain ⟨p39, hcp39, hf⟩ := hf_bind hf
      have mo40 : CS.hs p35.2 ≤ CS.hs p39.2 := Mono.go hcp39 (m_X6_push N p35.2 301 (p35.2.i 38) (p35.2.i 50))
      have hr9 : CS.hs p39.2 ≤ CS.hs R.2 := Mono.go hf (mono_oc (mono_some (Nat.le_refl _)) (fun a44 => (mono_some (Nat.le_refl _))))
      have hFc := cFree hC hA
      refine va_callq (va_runV (As := [.int 301, .int (p35.2.i 38), .int (p35.2.i 50)]) (rest := []) ⟨hx, hb, hml, hown, hts⟩ (c_X6_push l dC dI Q N p35.2 301 (p35.2.i 38) (p35.2.i 50) p39 hcp39) (cwV 3 hts hX7_statement_X6_push_v81 rfl rfl rfl (by decide +kernel) ⟨(show 2 + 1 ≤ (19 + 40 * d) by omega), (show 8 + (6 + 11) + 60 * 2 ≤ 60 * (19 + 40 * d) by omega)⟩) ⟨zPre.blind, va_recv hK hC.1 (ci := 5) (q0 := 6) rfl rfl, cPre_go hZ hK hC⟩ rfl rfl hl.1 rfl (lv_room (Nat.le_of_ble_eq_true rfl)) dX7_statement_84 (cAcc h38 mo40 hr9)) hC.2.2.1 (fun q _ h => hFc q h) hFc (fun r41 u9 t9 H1 locs ht hvm hw hB hz1 hk1 hS => ?_)
      obtain ⟨⟨hP, hK1, hD1⟩, hsz1⟩ := hB
      rw [ht] at hP hsz1
      have hC : CP dC dI Q A s.heap p39.2 H1 locs := ⟨hP, hD1.weaken (fun _ _ _ h => hFc _ h), hS, hsz1⟩
      generalize H1 = H at hC ⊢
      have h42 : z9h ≤ CS.hs p39.2 := Nat.le_trans h38 mo40
      refine W.widen (k := CS.hs p39.2 - z9h) (n := 17 * (CS.hs p39.2 - z9h)) (cAcc2 h38 mo40) (cAcc3 h38 mo40) ?_
      obtain rfl : r41 = p39.1 := hw
      rcases hf_oc hf with ⟨q43, hf⟩ | ⟨a44, q43, hf⟩
      ·
        refine W.eq (congrArg (fun v9 => F0 m 87 ls (va_rf v9 :: [])) q43) ?_
        refine W.eq (g2 := F0 m 87 ls (.null :: [])) rfl ?_
        refine lv_pop hx hb dX7_statement_87 rfl ?_
        refine lv_goto (tgt := 136) hx hb dX7_statement_88 (by decide) ?_
        obtain rfl := Option.some.inj hf
        exact W.vret hx hb hr (fun t ht hW => ⟨⟨(), rfl, trivial, ⟨by rw [ht]; exact hC.1, va_K.moved hW.alike hK, hC.2.1⟩, by rw [ht]; exact hC.2.2.2⟩, hC.2.2.1.F ht⟩) hC.2.2.1.2.2 dX7_statement_136
      ·
        refine W.eq (congrArg (fun v9 => F0 m 87 ls (va_rf v9 :: [])) q43) ?_
        refine W.eq (g2 := F0 m 87 ls (.ref a44 :: [])) rfl ?_
        refine lv_pop hx hb dX7_statement_87 rfl ?_
        refine lv_goto (tgt := 136) hx hb dX7_statement_88 (by decide) ?_
        obtain rfl := Option.some.inj hf
        exact W.vret hx hb hr (fun t ht hW => ⟨⟨(), rfl, trivial, ⟨by rw [ht]; exact hC.1, va_K.moved hW.alike hK, hC.2.1⟩, by rw [ht]; exact hC.2.2.2⟩, hC.2.2.1.F ht⟩) hC.2.2.1.2.2 dX7_statement_136
  ·
    replace hf := (if_neg c6).symm.trans hf
    refine lv_aload_n hx hb dX7_statement_44 rfl (lv_at hl 0 rfl) ?_
    obtain ⟨p45, hcp45, hf⟩ := hf_bind hf
    have mo46 : CS.hs p2.2 ≤ CS.hs p45.2 := Mono.go hcp45 (m_X7_named N E1 E2 hm1 hm2 p2.2)
    have hr9 : CS.hs p45.2 ≤ CS.hs R.2 := Mono.go hf (mono_some (Nat.le_refl _))
    have hFc := cFree hC hA
    refine va_callv (va_runV (As := []) (rest := []) ⟨hx, hb, hml, hown, hts⟩ (c_X7_named l dC dI Q N d E1 E2 hE1 hE2 hm1 hm2 p2.2 p45 hcp45) (cwV 0 hts hX7_statement_X7_named_v170 rfl rfl rfl (by decide +kernel) ⟨(show (14 + 40 * d) + 1 ≤ (19 + 40 * d) by omega), (show 8 + (5 + 11) + 60 * (14 + 40 * d) ≤ 60 * (19 + 40 * d) by omega)⟩) ⟨zPre.blind, va_recv hK hC.1 (ci := 6) (q0 := 3) rfl rfl, cPre_go hZ hK hC⟩ rfl rfl hl.1 rfl (lv_room (Nat.le_of_ble_eq_true rfl)) dX7_statement_45 (cAcc h5 mo46 hr9)) hC.2.2.1 (fun q _ h => hFc q h) hFc (fun u9 t9 H1 locs ht hvm hw hB hz1 hk1 hS => ?_)
    obtain ⟨⟨hP, hK1, hD1⟩, hsz1⟩ := hB
    rw [ht] at hP hsz1
    have hC : CP dC dI Q A s.heap p45.2 H1 locs := ⟨hP, hD1.weaken (fun _ _ _ h => hFc _ h), hS, hsz1⟩
    generalize H1 = H at hC ⊢
    have h48 : z9h ≤ CS.hs p45.2 := Nat.le_trans h5 mo46
    refine W.widen (k := CS.hs p45.2 - z9h) (n := 17 * (CS.hs p45.2 - z9h)) (cAcc2 h5 mo46) (cAcc3 h5 mo46) ?_
    refine lv_goto (tgt := 136) hx hb dX7_statement_48 (by decide) ?_
    obtain rfl := Option.some.inj hf
    exact W.vret hx hb hr (fun t ht hW => ⟨⟨(), rfl, trivial, ⟨by rw [ht]; exact hC.1, va_K.moved hW.alike hK, hC.2.1⟩, by rw [ht]; exact hC.2.2.2⟩, hC.2.2.1.F ht⟩) hC.2.2.1.2.2 dX7_statement_136
set_option maxHeartbeats 4000000 in
set_option maxRecDepth 100000 in
theorem c_X7_statement (l : Launch) (dC : Nat → ClassId) (dI : Nat → Nat → Nat) (Q : CQ) (N : Nat) (d : Nat) (E1 : CS → Option (Unit × CS)) (E2 : CS → Option (Int32 × CS)) (hE1 : cMF l dC dI Q d E1) (hE2 : cMO l dC dI Q d E2) (hm1 : ∀ σ, Mono (CS.hs σ) (E1 σ)) (hm2 : ∀ σ, Mono (CS.hs σ) (E2 σ)) (σ : CS) (x1 : Int32) (R : Unit × CS) (hf : f_X7_statement N E1 E2 σ x1 = some R) : Met l yX7_statement wzX7_statement ({ frames := (19 + 40 * d), cells := CS.hs R.2 - CS.hs σ, slots := 17 * (CS.hs R.2 - CS.hs σ), locals := 60 * (19 + 40 * d) }) (va_Pc [.ref (Q.o 3), .int x1] (zPre dC dI (CS.hs σ) (cW Q σ) (cT Q))) (va_Qv (fun (_ : Unit) => True) (fun (_ : Unit) (t : State) => zPost dC dI (va_A (cW Q σ) (CS.hs σ)) (cW Q R.2) (cT Q) t ∧ t.heap.size = CS.hs R.2) (va_A (cW Q σ) (CS.hs σ))) (CS.hs R.2 - CS.hs σ) (17 * (CS.hs R.2 - CS.hs σ)) (va_A (cW Q σ) (CS.hs σ)) := by
  refine Met.ofW (cc := cX7_statement) (maxL := 2) (ret := none) (by decide) rfl ?_
  intro p e s m args below meth c s₁ B hml hv
  obtain ⟨rfl, hsz, hZ, hP, hK, hD0⟩ := hv
  have hx := B.exec
  have hb := B.bytes
  have hr := B.returns
  have hts := atoms_spec (ws := wzX7_statement) B.pre
  have hown : s.vm.findClass RX7 = some m.cls := findClass_of_methodNamed B.named
  have hlocks := B.notSynchronized
  have hD := hD0.self (sz := CS.hs σ)
  generalize hAe : va_A (cW Q σ) (CS.hs σ) = A at hD ⊢
  have hA : ∀ q : Nat, s.heap.size ≤ q → A q := fun q h => by rw [← hAe]; exact Or.inr (hsz ▸ h)
  have hC : CP dC dI Q A s.heap σ s.heap [] := ⟨hP, hD, va_S.rf, hsz⟩
  have h0 : CS.hs σ ≤ CS.hs σ := Nat.le_refl _
  have hl := lv_entry ([.ref (Q.o 3), .int x1]) (n := 2) (Nat.le_of_ble_eq_true rfl)
  rw [lg_entry_eq]
  generalize (lg_sl ([.ref (Q.o 3), .int x1]) ++ List.replicate (2 - (lg_sl ([.ref (Q.o 3), .int x1])).length) Slot.unset).toArray = ls at hl ⊢
  have hl : lv_has ls 2 [(0, .ref (Q.o 3)), (1, .int x1)] := hl
  unfold f_X7_statement at hf
  refine W.widen (k := CS.hs σ - CS.hs σ) (n := 17 * (CS.hs σ - CS.hs σ)) (Nat.zero_le _) (Nat.zero_le _) ?_
  refine lv_aload_n hx hb dX7_statement_0 rfl (lv_at hl 0 rfl) ?_
  refine cG_36 (v := (σ.i 36)) hx hb hts i_X7_statement_X7 hown hK hC (hts (.fieldLink RX7 61 "StatementRules2$Statements" "alive" "Z") k_X7_statement_fieldLink_RX7_61_SR_Statements_alive_Z) (fun _ q9 => q9) dX7_statement_1 rfl ?_
  refine lv_if_ne (tgt := 18) hx hb dX7_statement_4 (by decide) (fun c1 => ?_) (fun c1 => ?_)
  ·
    replace hf := (if_neg c1).symm.trans hf
    exact j_X7_statement_18 l dC dI Q N d E1 E2 hE1 hE2 hm1 hm2 (CS.hs σ) R hx hb hr hml hown hts hlocks hZ hA hK σ x1 _ _ _ hf h0 hC (lv_sub hl [0, 1] rfl)
  ·
    replace hf := (if_pos c1).symm.trans hf
    refine lv_aload_n hx hb dX7_statement_7 rfl (lv_at hl 0 rfl) ?_
    refine lv_aload_n hx hb dX7_statement_8 rfl (lv_at hl 0 rfl) ?_
    refine cG_28 hx hb hts i_X7_statement_X7 hown hK hC (hts (.fieldLink RX7 71 "StatementRules2$Statements" "tokens" "LStatementRules2$Tokens;") k_X7_statement_fieldLink_RX7_71_SR_Statements_tokens_LSR_Tokens) (fun x9 q9 => u_same (hts (.sameField "StatementRules2$Statements" "StatementRules2$Formulas" "tokens" "LStatementRules2$Tokens;") k_X7_statement_sameField_SR_Statements_SR_Formulas_tokens_LSR_Tokens) x9 q9) dX7_statement_9 ?_
    refine cGN_44 (v := (σ.i 44)) hx hb hts i_X7_statement_X9 hown hK hC (va_Nw.use rfl (hZ.1 (.fieldLinkNest RX7 143 "StatementRules2$Tokens" "place" "I" "StatementRules2") (by decide +kernel))) (fun _ q9 => q9) dX7_statement_12 rfl ?_
    obtain ⟨p49, hcp49, hf⟩ := hf_bind hf
    have mo50 : CS.hs σ ≤ CS.hs p49.2 := Mono.go hcp49 (m_X7_notReached N σ (σ.i 44))
    have hr9 : CS.hs p49.2 ≤ CS.hs R.2 := Mono.go hf (m_X7_statement_18 N E1 E2 hm1 hm2 p49.2 x1)
    have hFc := cFree hC hA
    refine va_callv (va_runV (As := [.int (σ.i 44)]) (rest := []) ⟨hx, hb, hml, hown, hts⟩ (c_X7_notReached l dC dI Q N σ (σ.i 44) p49 hcp49) (cwV 1 hts hX7_statement_X7_notReached_v164 rfl rfl rfl (by decide +kernel) ⟨(show 1 + 1 ≤ (19 + 40 * d) by omega), (show 8 + (2 + 11) + 60 * 1 ≤ 60 * (19 + 40 * d) by omega)⟩) ⟨zPre.blind, va_recv hK hC.1 (ci := 6) (q0 := 3) rfl rfl, cPre_go hZ hK hC⟩ rfl rfl hl.1 rfl (lv_room (Nat.le_of_ble_eq_true rfl)) dX7_statement_15 (cAcc h0 mo50 hr9)) hC.2.2.1 (fun q _ h => hFc q h) hFc (fun u9 t9 H1 locs ht hvm hw hB hz1 hk1 hS => ?_)
    obtain ⟨⟨hP, hK1, hD1⟩, hsz1⟩ := hB
    rw [ht] at hP hsz1
    have hC : CP dC dI Q A s.heap p49.2 H1 locs := ⟨hP, hD1.weaken (fun _ _ _ h => hFc _ h), hS, hsz1⟩
    generalize H1 = H at hC ⊢
    have h52 : (CS.hs σ) ≤ CS.hs p49.2 := Nat.le_trans h0 mo50
    refine W.widen (k := CS.hs p49.2 - (CS.hs σ)) (n := 17 * (CS.hs p49.2 - (CS.hs σ))) (cAcc2 h0 mo50) (cAcc3 h0 mo50) ?_
    exact j_X7_statement_18 l dC dI Q N d E1 E2 hE1 hE2 hm1 hm2 (CS.hs σ) R hx hb hr hml hown hts hlocks hZ hA hK p49.2 x1 _ _ _ hf h52 hC (lv_sub hl [0, 1] rfl)
