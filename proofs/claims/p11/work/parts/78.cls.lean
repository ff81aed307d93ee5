theorem k_X1_factor_fieldLink_RX1_18_SR_Formulas_tokens_LSR_Tokens : Cond.fieldLink RX1 18 "StatementRules2$Formulas" "tokens" "LStatementRules2$Tokens;" ∈ wzX1_factor := List.mem_cons_of_mem _ (List.mem_append_right _ (List.mem_append_right _ (List.mem_append_right _ (List.mem_append_right _ (List.mem_append_right _ (List.mem_append_right _ (List.mem_append_right _ (List.mem_append_left _ (List.mem_of_getElem? (i := 0) rfl)))))))))
theorem i_X1_factor_X7 : ∀ w ∈ wsX70, w ∈ wzX1_factor := fun _ h => List.mem_cons_of_mem _ (List.mem_append_right _ (List.mem_append_right _ (List.mem_append_right _ (List.mem_append_right _ (List.mem_append_right _ (List.mem_append_right _ (List.mem_append_right _ (List.mem_append_right _ (List.mem_append_right _ (List.mem_append_right _ (List.mem_append_right _ (List.mem_append_right _ (List.mem_append_right _ (List.mem_append_right _ (List.mem_append_right _ (List.mem_append_right _ (List.mem_append_right _ (List.mem_append_right _ (List.mem_append_right _ (List.mem_append_right _ (List.mem_append_right _ (List.mem_append_right _ (List.mem_append_right _ (List.mem_append_right _ (List.mem_append_right _ (List.mem_append_right _ (List.mem_append_right _ (List.mem_append_right _ (List.mem_append_right _ (List.mem_append_right _ (List.mem_append_right _ (List.mem_append_right _ (List.mem_append_right _ (List.mem_append_right _ (List.mem_append_right _ (List.mem_append_right _ (List.mem_append_left _ (h))))))))))))))))))))))))))))))))))))))
theorem i_X1_factor_X9 : ∀ w ∈ wsX90, w ∈ wzX1_factor := fun _ h => List.mem_cons_of_mem _ (List.mem_append_right _ (List.mem_append_right _ (List.mem_append_right _ (List.mem_append_right _ (List.mem_append_right _ (List.mem_append_right _ (List.mem_append_right _ (List.mem_append_right _ (List.mem_append_right _ (List.mem_append_right _ (List.mem_append_right _ (List.mem_append_right _ (List.mem_append_right _ (List.mem_append_right _ (List.mem_append_right _ (List.mem_append_right _ (List.mem_append_right _ (List.mem_append_right _ (List.mem_append_right _ (List.mem_append_right _ (List.mem_append_right _ (List.mem_append_right _ (List.mem_append_right _ (List.mem_append_right _ (List.mem_append_right _ (List.mem_append_right _ (List.mem_append_right _ (List.mem_append_right _ (List.mem_append_right _ (List.mem_append_right _ (List.mem_append_right _ (List.mem_append_right _ (List.mem_append_right _ (List.mem_append_right _ (List.mem_append_right _ (List.mem_append_right _ (List.mem_append_right _ (List.mem_append_left _ (h)))))))))))))))))))))))))))))))))))))))
theorem k_X1_factor_fieldLink_RX1_22_SR_Formulas_code_LSR_Code : Cond.fieldLink RX1 22 "StatementRules2$Formulas" "code" "LStatementRules2$Code;" ∈ wzX1_factor := List.mem_cons_of_mem _ (List.mem_append_right _ (List.mem_append_right _ (List.mem_append_right _ (List.mem_append_right _ (List.mem_append_right _ (List.mem_append_right _ (List.mem_append_right _ (List.mem_append_left _ (List.mem_of_getElem? (i := 1) rfl)))))))))
set_option maxHeartbeats 4000000 in
set_option maxRecDepth 100000 in
theorem c_X1_factor (l : Launch) (dC : Nat → ClassId) (dI : Nat → Nat → Nat) (Q : CQ) (N : Nat) (d : Nat) (E1 : CS → Option (Unit × CS)) (E2 : CS → Option (Int32 × CS)) (hE1 : cMF l dC dI Q d E1) (hE2 : cMO l dC dI Q d E2) (hm1 : ∀ σ, Mono (CS.hs σ) (E1 σ)) (hm2 : ∀ σ, Mono (CS.hs σ) (E2 σ)) (σ : CS) (R : Unit × CS) (hf : f_X1_factor N E1 E2 σ = some R) : Met l yX1_factor wzX1_factor ({ frames := (50 + 40 * d), cells := CS.hs R.2 - CS.hs σ, slots := 17 * (CS.hs R.2 - CS.hs σ), locals := 60 * (50 + 40 * d) }) (va_Pc [.ref (Q.o 3)] (zPre dC dI (CS.hs σ) (cW Q σ) (cT Q))) (va_Qv (fun (_ : Unit) => True) (fun (_ : Unit) (t : State) => zPost dC dI (va_A (cW Q σ) (CS.hs σ)) (cW Q R.2) (cT Q) t ∧ t.heap.size = CS.hs R.2) (va_A (cW Q σ) (CS.hs σ))) (CS.hs R.2 - CS.hs σ) (17 * (CS.hs R.2 - CS.hs σ)) (va_A (cW Q σ) (CS.hs σ)) := by
  refine Met.ofW (cc := cX1_factor) (maxL := 1) (ret := none) (by decide) rfl ?_
  intro p e s m args below meth c s₁ B hml hv
  obtain ⟨rfl, hsz, hZ, hP, hK, hD0⟩ := hv
  have hx := B.exec
  have hb := B.bytes
  have hr := B.returns
  have hts := atoms_spec (ws := wzX1_factor) B.pre
  have hown : s.vm.findClass RX1 = some m.cls := findClass_of_methodNamed B.named
  have hlocks := B.notSynchronized
  have hD := hD0.self (sz := CS.hs σ)
  generalize hAe : va_A (cW Q σ) (CS.hs σ) = A at hD ⊢
  have hA : ∀ q : Nat, s.heap.size ≤ q → A q := fun q h => by rw [← hAe]; exact Or.inr (hsz ▸ h)
  have hC : CP dC dI Q A s.heap σ s.heap [] := ⟨hP, hD, va_S.rf, hsz⟩
  have h0 : CS.hs σ ≤ CS.hs σ := Nat.le_refl _
  have hl := lv_entry ([.ref (Q.o 3)]) (n := 1) (Nat.le_of_ble_eq_true rfl)
  rw [lg_entry_eq]
  generalize (lg_sl ([.ref (Q.o 3)]) ++ List.replicate (1 - (lg_sl ([.ref (Q.o 3)])).length) Slot.unset).toArray = ls at hl ⊢
  have hl : lv_has ls 1 [(0, .ref (Q.o 3))] := hl
  unfold f_X1_factor at hf
  refine W.widen (k := CS.hs σ - CS.hs σ) (n := 17 * (CS.hs σ - CS.hs σ)) (Nat.zero_le _) (Nat.zero_le _) ?_
  refine lv_aload_n hx hb dX1_factor_0 rfl (lv_at hl 0 rfl) ?_
  refine cG_28 hx hb hts i_X1_factor_X7 hown hK hC (hts (.fieldLink RX1 18 "StatementRules2$Formulas" "tokens" "LStatementRules2$Tokens;") k_X1_factor_fieldLink_RX1_18_SR_Formulas_tokens_LSR_Tokens) (fun _ q9 => q9) dX1_factor_1 ?_
  refine cGN_43 (v := (σ.i 43)) hx hb hts i_X1_factor_X9 hown hK hC (va_Nw.use rfl (hZ.1 (.fieldLinkNest RX1 53 "StatementRules2$Tokens" "type" "I" "StatementRules2") (by decide +kernel))) (fun _ q9 => q9) dX1_factor_4 rfl ?_
  by_cases c1 : (σ.i 43) = 1
  ·
    replace hf := (if_pos c1).symm.trans hf
    refine lv_lookup (off := 49) (tgt := 56) hx hb dX1_factor_7 (by decide) (by rw [c1]; decide) (by decide) ?_
    refine lv_aload_n hx hb dX1_factor_56 rfl (lv_at hl 0 rfl) ?_
    refine cG_29 hx hb hts i_X1_factor_X7 hown hK hC (hts (.fieldLink RX1 22 "StatementRules2$Formulas" "code" "LStatementRules2$Code;") k_X1_factor_fieldLink_RX1_22_SR_Formulas_code_LSR_Code) (fun _ q9 => q9) dX1_factor_57 ?_
    refine lv_iconst (v := 0) hx hb dX1_factor_60 (by decide) ?_
    refine lv_aload_n hx hb dX1_factor_61 rfl (lv_at hl 0 rfl) ?_
    refine cG_28 hx hb hts i_X1_factor_X7 hown hK hC (hts (.fieldLink RX1 18 "StatementRules2$Formulas" "tokens" "LStatementRules2$Tokens;") k_X1_factor_fieldLink_RX1_18_SR_Formulas_tokens_LSR_Tokens) (fun _ q9 => q9) dX1_factor_62 ?_
    refine cGN_45 (v := (σ.i 45)) hx hb hts i_X1_factor_X9 hown hK hC (va_Nw.use rfl (hZ.1 (.fieldLinkNest RX1 76 "StatementRules2$Tokens" "value" "I" "StatementRules2") (by decide +kernel))) (fun _ q9 => q9) dX1_factor_65 rfl ?_
    obtain ⟨p2, hcp2, hf⟩ := hf_bind hf
    have mo3 : CS.hs σ ≤ CS.hs p2.2 := Mono.go hcp2 (m_X0_add N σ 0 (σ.i 45))
    have hr9 : CS.hs p2.2 ≤ CS.hs R.2 := Mono.go hf (mono_bind (m_X9_advance N p2.2) (fun p6 => (mono_some (Nat.le_refl _))))
    have hFc := cFree hC hA
    refine va_callv (va_runV (As := [.int 0, .int (σ.i 45)]) (rest := []) ⟨hx, hb, hml, hown, hts⟩ (c_X0_add l dC dI Q N σ 0 (σ.i 45) p2 hcp2) (cwV 2 hts hX1_factor_X0_add_v68 rfl rfl rfl (by decide +kernel) ⟨(show 2 + 1 ≤ (50 + 40 * d) by omega), (show 8 + (3 + 11) + 60 * 2 ≤ 60 * (50 + 40 * d) by omega)⟩) ⟨zPre.blind, va_recv hK hC.1 (ci := 0) (q0 := 2) rfl rfl, cPre_go hZ hK hC⟩ rfl rfl hl.1 rfl (lv_room (Nat.le_of_ble_eq_true rfl)) dX1_factor_68 (cAcc h0 mo3 hr9)) hC.2.2.1 (fun q _ h => hFc q h) hFc (fun u9 t9 H1 locs ht hvm hw hB hz1 hk1 hS => ?_)
    obtain ⟨⟨hP, hK1, hD1⟩, hsz1⟩ := hB
    rw [ht] at hP hsz1
    have hC : CP dC dI Q A s.heap p2.2 H1 locs := ⟨hP, hD1.weaken (fun _ _ _ h => hFc _ h), hS, hsz1⟩
    generalize H1 = H at hC ⊢
    have h5 : (CS.hs σ) ≤ CS.hs p2.2 := Nat.le_trans h0 mo3
    refine W.widen (k := CS.hs p2.2 - (CS.hs σ)) (n := 17 * (CS.hs p2.2 - (CS.hs σ))) (cAcc2 h0 mo3) (cAcc3 h0 mo3) ?_
    refine lv_aload_n hx hb dX1_factor_71 rfl (lv_at hl 0 rfl) ?_
    refine cG_28 hx hb hts i_X1_factor_X7 hown hK hC (hts (.fieldLink RX1 18 "StatementRules2$Formulas" "tokens" "LStatementRules2$Tokens;") k_X1_factor_fieldLink_RX1_18_SR_Formulas_tokens_LSR_Tokens) (fun _ q9 => q9) dX1_factor_72 ?_
    obtain ⟨p6, hcp6, hf⟩ := hf_bind hf
    have mo7 : CS.hs p2.2 ≤ CS.hs p6.2 := Mono.go hcp6 (m_X9_advance N p2.2)
    have hr9 : CS.hs p6.2 ≤ CS.hs R.2 := Mono.go hf (mono_some (Nat.le_refl _))
    have hFc := cFree hC hA
    refine va_callv (va_runV (As := []) (rest := []) ⟨hx, hb, hml, hown, hts⟩ (c_X9_advance l dC dI Q N p2.2 p6 hcp6) (cwV 0 hts hX1_factor_X9_advance_v56 rfl rfl rfl (by decide +kernel) ⟨(show 3 + 1 ≤ (50 + 40 * d) by omega), (show 8 + (2 + 11) + 60 * 3 ≤ 60 * (50 + 40 * d) by omega)⟩) ⟨zPre.blind, va_recv hK hC.1 (ci := 8) (q0 := 4) rfl rfl, cPre_go hZ hK hC⟩ rfl rfl hl.1 rfl (lv_room (Nat.le_of_ble_eq_true rfl)) dX1_factor_75 (cAcc h5 mo7 hr9)) hC.2.2.1 (fun q _ h => hFc q h) hFc (fun u9 t9 H1 locs ht hvm hw hB hz1 hk1 hS => ?_)
    obtain ⟨⟨hP, hK1, hD1⟩, hsz1⟩ := hB
    rw [ht] at hP hsz1
    have hC : CP dC dI Q A s.heap p6.2 H1 locs := ⟨hP, hD1.weaken (fun _ _ _ h => hFc _ h), hS, hsz1⟩
    generalize H1 = H at hC ⊢
    have h9 : (CS.hs σ) ≤ CS.hs p6.2 := Nat.le_trans h5 mo7
    refine W.widen (k := CS.hs p6.2 - (CS.hs σ)) (n := 17 * (CS.hs p6.2 - (CS.hs σ))) (cAcc2 h5 mo7) (cAcc3 h5 mo7) ?_
    refine lv_goto (tgt := 125) hx hb dX1_factor_78 (by decide) ?_
    obtain rfl := Option.some.inj hf
    exact W.vret hx hb hr (fun t ht hW => ⟨⟨(), rfl, trivial, ⟨by rw [ht]; exact hC.1, va_K.moved hW.alike hK, hC.2.1⟩, by rw [ht]; exact hC.2.2.2⟩, hC.2.2.1.F ht⟩) hC.2.2.1.2.2 dX1_factor_125
  replace hf := (if_neg c1).symm.trans hf
  by_cases c10 : (σ.i 43) = 2
  ·
    replace hf := (if_pos c10).symm.trans hf
    refine lv_lookup (off := 74) (tgt := 81) hx hb dX1_factor_7 (by decide) (by rw [c10]; decide) (by decide) ?_
    refine lv_aload_n hx hb dX1_factor_81 rfl (lv_at hl 0 rfl) ?_
    obtain ⟨p11, hcp11, hf⟩ := hf_bind hf
    have mo12 : CS.hs σ ≤ CS.hs p11.2 := Mono.go hcp11 (m_X1_loadName N σ)
    have hr9 : CS.hs p11.2 ≤ CS.hs R.2 := Mono.go hf (mono_some (Nat.le_refl _))
    have hFc := cFree hC hA
    refine va_callv (va_runU (As := []) (rest := []) ⟨hx, hb, hml, hown, hts⟩ (c_X1_loadName l dC dI Q N σ p11 hcp11) (va_cwU 0 hts hX1_factor_X1_loadName_u79 rfl rfl rfl rfl (by decide +kernel) ⟨(show 4 + 1 ≤ (50 + 40 * d) by omega), (show 8 + (2 + 11) + 60 * 4 ≤ 60 * (50 + 40 * d) by omega)⟩) ⟨zPre.blind, va_recv hK hC.1 (ci := 6) (q0 := 3) rfl rfl, cPre_go hZ hK hC⟩ rfl rfl hl.1 rfl (lv_room (Nat.le_of_ble_eq_true rfl)) dX1_factor_82 (cAcc h0 mo12 hr9)) hC.2.2.1 (fun q _ h => hFc q h) hFc (fun u9 t9 H1 locs ht hvm hw hB hz1 hk1 hS => ?_)
    obtain ⟨⟨hP, hK1, hD1⟩, hsz1⟩ := hB
    rw [ht] at hP hsz1
    have hC : CP dC dI Q A s.heap p11.2 H1 locs := ⟨hP, hD1.weaken (fun _ _ _ h => hFc _ h), hS, hsz1⟩
    generalize H1 = H at hC ⊢
    have h14 : (CS.hs σ) ≤ CS.hs p11.2 := Nat.le_trans h0 mo12
    refine W.widen (k := CS.hs p11.2 - (CS.hs σ)) (n := 17 * (CS.hs p11.2 - (CS.hs σ))) (cAcc2 h0 mo12) (cAcc3 h0 mo12) ?_
    refine lv_goto (tgt := 125) hx hb dX1_factor_85 (by decide) ?_
    obtain rfl := Option.some.inj hf
    exact W.vret hx hb hr (fun t ht hW => ⟨⟨(), rfl, trivial, ⟨by rw [ht]; exact hC.1, va_K.moved hW.alike hK, hC.2.1⟩, by rw [ht]; exact hC.2.2.2⟩, hC.2.2.1.F ht⟩) hC.2.2.1.2.2 dX1_factor_125
  replace hf := (if_neg c10).symm.trans hf
  by_cases c15 : (σ.i 43) = 40
  ·
    replace hf := (if_pos c15).symm.trans hf
    refine lv_lookup (off := 88) (tgt := 95) hx hb dX1_factor_7 (by decide) (by rw [c15]; decide) (by decide) ?_
    refine lv_aload_n hx hb dX1_factor_95 rfl (lv_at hl 0 rfl) ?_
    refine lv_bipush (v := 40) hx hb dX1_factor_96 (by decide) ?_
    obtain ⟨p16, hcp16, hf⟩ := hf_bind hf
    have mo17 : CS.hs σ ≤ CS.hs p16.2 := Mono.go hcp16 (m_X1_open N σ 40)
    have hr9 : CS.hs p16.2 ≤ CS.hs R.2 := Mono.go hf (mono_bind (m_X1_expression N E1 E2 hm1 hm2 p16.2) (fun p20 => (mono_bind (m_X1_close N p20.2 41) (fun p24 => (mono_some (Nat.le_refl _))))))
    have hFc := cFree hC hA
    refine va_callv (va_runU (As := [.int 40]) (rest := []) ⟨hx, hb, hml, hown, hts⟩ (c_X1_open l dC dI Q N σ 40 p16 hcp16) (va_cwU 1 hts hX1_factor_X1_open_u85 rfl rfl rfl rfl (by decide +kernel) ⟨(show 4 + 1 ≤ (50 + 40 * d) by omega), (show 8 + (2 + 11) + 60 * 4 ≤ 60 * (50 + 40 * d) by omega)⟩) ⟨zPre.blind, va_recv hK hC.1 (ci := 6) (q0 := 3) rfl rfl, cPre_go hZ hK hC⟩ rfl rfl hl.1 rfl (lv_room (Nat.le_of_ble_eq_true rfl)) dX1_factor_98 (cAcc h0 mo17 hr9)) hC.2.2.1 (fun q _ h => hFc q h) hFc (fun u9 t9 H1 locs ht hvm hw hB hz1 hk1 hS => ?_)
    obtain ⟨⟨hP, hK1, hD1⟩, hsz1⟩ := hB
    rw [ht] at hP hsz1
    have hC : CP dC dI Q A s.heap p16.2 H1 locs := ⟨hP, hD1.weaken (fun _ _ _ h => hFc _ h), hS, hsz1⟩
    generalize H1 = H at hC ⊢
    have h19 : (CS.hs σ) ≤ CS.hs p16.2 := Nat.le_trans h0 mo17
    refine W.widen (k := CS.hs p16.2 - (CS.hs σ)) (n := 17 * (CS.hs p16.2 - (CS.hs σ))) (cAcc2 h0 mo17) (cAcc3 h0 mo17) ?_
    refine lv_aload_n hx hb dX1_factor_101 rfl (lv_at hl 0 rfl) ?_
    obtain ⟨p20, hcp20, hf⟩ := hf_bind hf
    have mo21 : CS.hs p16.2 ≤ CS.hs p20.2 := Mono.go hcp20 (m_X1_expression N E1 E2 hm1 hm2 p16.2)
    have hr9 : CS.hs p20.2 ≤ CS.hs R.2 := Mono.go hf (mono_bind (m_X1_close N p20.2 41) (fun p24 => (mono_some (Nat.le_refl _))))
    have hFc := cFree hC hA
    refine va_callv (va_runU (As := []) (rest := []) ⟨hx, hb, hml, hown, hts⟩ (c_X1_expression l dC dI Q N d E1 E2 hE1 hE2 hm1 hm2 p16.2 p20 hcp20) (va_cwU 0 hts hX1_factor_X1_expression_u89 rfl rfl rfl rfl (by decide +kernel) ⟨(show (12 + 40 * d) + 1 ≤ (50 + 40 * d) by omega), (show 8 + (3 + 11) + 60 * (12 + 40 * d) ≤ 60 * (50 + 40 * d) by omega)⟩) ⟨zPre.blind, va_recv hK hC.1 (ci := 6) (q0 := 3) rfl rfl, cPre_go hZ hK hC⟩ rfl rfl hl.1 rfl (lv_room (Nat.le_of_ble_eq_true rfl)) dX1_factor_102 (cAcc h19 mo21 hr9)) hC.2.2.1 (fun q _ h => hFc q h) hFc (fun u9 t9 H1 locs ht hvm hw hB hz1 hk1 hS => ?_)
    obtain ⟨⟨hP, hK1, hD1⟩, hsz1⟩ := hB
    rw [ht] at hP hsz1
    have hC : CP dC dI Q A s.heap p20.2 H1 locs := ⟨hP, hD1.weaken (fun _ _ _ h => hFc _ h), hS, hsz1⟩
    generalize H1 = H at hC ⊢
    have h23 : (CS.hs σ) ≤ CS.hs p20.2 := Nat.le_trans h19 mo21
    refine W.widen (k := CS.hs p20.2 - (CS.hs σ)) (n := 17 * (CS.hs p20.2 - (CS.hs σ))) (cAcc2 h19 mo21) (cAcc3 h19 mo21) ?_
    refine lv_aload_n hx hb dX1_factor_105 rfl (lv_at hl 0 rfl) ?_
    refine lv_bipush (v := 41) hx hb dX1_factor_106 (by decide) ?_
    obtain ⟨p24, hcp24, hf⟩ := hf_bind hf
    have mo25 : CS.hs p20.2 ≤ CS.hs p24.2 := Mono.go hcp24 (m_X1_close N p20.2 41)
    have hr9 : CS.hs p24.2 ≤ CS.hs R.2 := Mono.go hf (mono_some (Nat.le_refl _))
    have hFc := cFree hC hA
    refine va_callv (va_runU (As := [.int 41]) (rest := []) ⟨hx, hb, hml, hown, hts⟩ (c_X1_close l dC dI Q N p20.2 41 p24 hcp24) (va_cwU 1 hts hX1_factor_X1_close_u92 rfl rfl rfl rfl (by decide +kernel) ⟨(show 4 + 1 ≤ (50 + 40 * d) by omega), (show 8 + (2 + 11) + 60 * 4 ≤ 60 * (50 + 40 * d) by omega)⟩) ⟨zPre.blind, va_recv hK hC.1 (ci := 6) (q0 := 3) rfl rfl, cPre_go hZ hK hC⟩ rfl rfl hl.1 rfl (lv_room (Nat.le_of_ble_eq_true rfl)) dX1_factor_108 (cAcc h23 mo25 hr9)) hC.2.2.1 (fun q _ h => hFc q h) hFc (fun u9 t9 H1 locs ht hvm hw hB hz1 hk1 hS => ?_)
    obtain ⟨⟨hP, hK1, hD1⟩, hsz1⟩ := hB
    rw [ht] at hP hsz1
    have hC : CP dC dI Q A s.heap p24.2 H1 locs := ⟨hP, hD1.weaken (fun _ _ _ h => hFc _ h), hS, hsz1⟩
    generalize H1 = H at hC ⊢
    have h27 : (CS.hs σ) ≤ CS.hs p24.2 := Nat.le_trans h23 mo25
    refine W.widen (k := CS.hs p24.2 - (CS.hs σ)) (n := 17 * (CS.hs p24.2 - (CS.hs σ))) (cAcc2 h23 mo25) (cAcc3 h23 mo25) ?_
    refine lv_goto (tgt := 125) hx hb dX1_factor_111 (by decide) ?_
    obtain rfl := Option.some.inj hf
    exact W.vret hx hb hr (fun t ht hW => ⟨⟨(), rfl, trivial, ⟨by rw [ht]; exact hC.1, va_K.moved hW.alike hK, hC.2.1⟩, by rw [ht]; exact hC.2.2.2⟩, hC.2.2.1.F ht⟩) hC.2.2.1.2.2 dX1_factor_125
  replace hf := (if_neg c15).symm.trans hf
  by_cases c28 : (σ.i 43) = 45
  ·
    replace hf := (if_pos c28).symm.trans hf
    refine lv_lookup (off := 81) (tgt := 88) hx hb dX1_factor_7 (by decide) (by rw [c28]; decide) (by decide) ?_
    refine lv_aload_n hx hb dX1_factor_88 rfl (lv_at hl 0 rfl) ?_
    obtain ⟨p29, hcp29, hf⟩ := hf_bind hf
    have mo30 : CS.hs σ ≤ CS.hs p29.2 := Mono.go hcp29 (m_X1_negated N E1 E2 hm1 hm2 σ)
    have hr9 : CS.hs p29.2 ≤ CS.hs R.2 := Mono.go hf (mono_some (Nat.le_refl _))
    have hFc := cFree hC hA
    refine va_callv (va_runU (As := []) (rest := []) ⟨hx, hb, hml, hown, hts⟩ (c_X1_negated l dC dI Q N d E1 E2 hE1 hE2 hm1 hm2 σ p29 hcp29) (va_cwU 0 hts hX1_factor_X1_negated_u82 rfl rfl rfl rfl (by decide +kernel) ⟨(show (11 + 40 * d) + 1 ≤ (50 + 40 * d) by omega), (show 8 + (1 + 11) + 60 * (11 + 40 * d) ≤ 60 * (50 + 40 * d) by omega)⟩) ⟨zPre.blind, va_recv hK hC.1 (ci := 6) (q0 := 3) rfl rfl, cPre_go hZ hK hC⟩ rfl rfl hl.1 rfl (lv_room (Nat.le_of_ble_eq_true rfl)) dX1_factor_89 (cAcc h0 mo30 hr9)) hC.2.2.1 (fun q _ h => hFc q h) hFc (fun u9 t9 H1 locs ht hvm hw hB hz1 hk1 hS => ?_)
    obtain ⟨⟨hP, hK1, hD1⟩, hsz1⟩ := hB
    rw [ht] at hP hsz1
    have hC : CP dC dI Q A s.heap p29.2 H1 locs := ⟨hP, hD1.weaken (fun _ _ _ h => hFc _ h), hS, hsz1⟩
    generalize H1 = H at hC ⊢
    have h32 : (CS.hs σ) ≤ CS.hs p29.2 := Nat.le_trans h0 mo30
    refine W.widen (k := CS.hs p29.2 - (CS.hs σ)) (n := 17 * (CS.hs p29.2 - (CS.hs σ))) (cAcc2 h0 mo30) (cAcc3 h0 mo30) ?_
    refine lv_goto (tgt := 125) hx hb dX1_factor_92 (by decide) ?_
    obtain rfl := Option.some.inj hf
    exact W.vret hx hb hr (fun t ht hW => ⟨⟨(), rfl, trivial, ⟨by rw [ht]; exact hC.1, va_K.moved hW.alike hK, hC.2.1⟩, by rw [ht]; exact hC.2.2.2⟩, hC.2.2.1.F ht⟩) hC.2.2.1.2.2 dX1_factor_125
  replace hf := (if_neg c28).symm.trans hf
  by_cases c33 : (σ.i 43) = 218
  ·
    replace hf := (if_pos c33).symm.trans hf
    refine lv_lookup (off := 107) (tgt := 114) hx hb dX1_factor_7 (by decide) (by rw [c33]; decide) (by decide) ?_
    refine lv_aload_n hx hb dX1_factor_114 rfl (lv_at hl 0 rfl) ?_
    obtain ⟨p34, hcp34, hf⟩ := hf_bind hf
    have mo35 : CS.hs σ ≤ CS.hs p34.2 := Mono.go hcp34 (m_X1_choice N E1 E2 hm1 hm2 σ)
    have hr9 : CS.hs p34.2 ≤ CS.hs R.2 := Mono.go hf (mono_some (Nat.le_refl _))
    have hFc := cFree hC hA
    refine va_callv (va_runU (As := []) (rest := []) ⟨hx, hb, hml, hown, hts⟩ (c_X1_choice l dC dI Q N d E1 E2 hE1 hE2 hm1 hm2 σ p34 hcp34) (va_cwU 0 hts hX1_factor_X1_choice_u95 rfl rfl rfl rfl (by decide +kernel) ⟨(show (24 + 40 * d) + 1 ≤ (50 + 40 * d) by omega), (show 8 + (6 + 11) + 60 * (24 + 40 * d) ≤ 60 * (50 + 40 * d) by omega)⟩) ⟨zPre.blind, va_recv hK hC.1 (ci := 6) (q0 := 3) rfl rfl, cPre_go hZ hK hC⟩ rfl rfl hl.1 rfl (lv_room (Nat.le_of_ble_eq_true rfl)) dX1_factor_115 (cAcc h0 mo35 hr9)) hC.2.2.1 (fun q _ h => hFc q h) hFc (fun u9 t9 H1 locs ht hvm hw hB hz1 hk1 hS => ?_)
    obtain ⟨⟨hP, hK1, hD1⟩, hsz1⟩ := hB
    rw [ht] at hP hsz1
    have hC : CP dC dI Q A s.heap p34.2 H1 locs := ⟨hP, hD1.weaken (fun _ _ _ h => hFc _ h), hS, hsz1⟩
    generalize H1 = H at hC ⊢
    have h37 : (CS.hs σ) ≤ CS.hs p34.2 := Nat.le_trans h0 mo35
    refine W.widen (k := CS.hs p34.2 - (CS.hs σ)) (n := 17 * (CS.hs p34.2 - (CS.hs σ))) (cAcc2 h0 mo35) (cAcc3 h0 mo35) ?_
    refine lv_goto (tgt := 125) hx hb dX1_factor_118 (by decide) ?_
    obtain rfl := Option.some.inj hf
    exact W.vret hx hb hr (fun t ht hW => ⟨⟨(), rfl, trivial, ⟨by rw [ht]; exact hC.1, va_K.moved hW.alike hK, hC.2.1⟩, by rw [ht]; exact hC.2.2.2⟩, hC.2.2.1.F ht⟩) hC.2.2.1.2.2 dX1_factor_125
  replace hf := (if_neg c33).symm.trans hf
  refine lv_lookup (off := 114) (tgt := 121) hx hb dX1_factor_7 (by decide) (by show Op.lookupswitch.offset [(1, 49), (2, 74), (40, 88), (45, 81), (218, 107)] 114 ((σ.i 43) : Int32).toInt = 114; rw [lv_osw (k := 1) (a := 1) c1 (by decide), lv_osw (k := 2) (a := 2) c10 (by decide), lv_osw (k := 40) (a := 40) c15 (by decide), lv_osw (k := 45) (a := 45) c28 (by decide), lv_osw (k := 218) (a := 218) c33 (by decide)]; rfl) (by decide) ?_
  refine lv_aload_n hx hb dX1_factor_121 rfl (lv_at hl 0 rfl) ?_
  obtain ⟨p38, hcp38, hf⟩ := hf_bind hf
  have mo39 : CS.hs σ ≤ CS.hs p38.2 := Mono.go hcp38 (m_X1_misplaced N σ)
  have hr9 : CS.hs p38.2 ≤ CS.hs R.2 := Mono.go hf (mono_some (Nat.le_refl _))
  have hFc := cFree hC hA
  refine va_callv (va_runU (As := []) (rest := []) ⟨hx, hb, hml, hown, hts⟩ (c_X1_misplaced l dC dI Q N σ p38 hcp38) (va_cwU 0 hts hX1_factor_X1_misplaced_u59 rfl rfl rfl rfl (by decide +kernel) ⟨(show 3 + 1 ≤ (50 + 40 * d) by omega), (show 8 + (1 + 11) + 60 * 3 ≤ 60 * (50 + 40 * d) by omega)⟩) ⟨zPre.blind, va_recv hK hC.1 (ci := 6) (q0 := 3) rfl rfl, cPre_go hZ hK hC⟩ rfl rfl hl.1 rfl (lv_room (Nat.le_of_ble_eq_true rfl)) dX1_factor_122 (cAcc h0 mo39 hr9)) hC.2.2.1 (fun q _ h => hFc q h) hFc (fun u9 t9 H1 locs ht hvm hw hB hz1 hk1 hS => ?_)
  obtain ⟨⟨hP, hK1, hD1⟩, hsz1⟩ := hB
  rw [ht] at hP hsz1
  have hC : CP dC dI Q A s.heap p38.2 H1 locs := ⟨hP, hD1.weaken (fun _ _ _ h => hFc _ h), hS, hsz1⟩
  generalize H1 = H at hC ⊢
  have h41 : (CS.hs σ) ≤ CS.hs p38.2 := Nat.le_trans h0 mo39
  refine W.widen (k := CS.hs p38.2 - (CS.hs σ)) (n := 17 * (CS.hs p38.2 - (CS.hs σ))) (cAcc2 h0 mo39) (cAcc3 h0 mo39) ?_
  obtain rfl := Option.some.inj hf
  exact W.vret hx hb hr (fun t ht hW => ⟨⟨(), rfl, trivial, ⟨by rw [ht]; exact hC.1, va_K.moved hW.alike hK, hC.2.1⟩, by rw [ht]; exact hC.2.2.2⟩, hC.2.2.1.F ht⟩) hC.2.2.1.2.2 dX1_factor_125
set_option maxHeartbeats 4000000 in
set_option maxRecDepth 100000 in
theorem c_X1_comparing (l : Launch) (dC : Nat → ClassId) (dI : Nat → Nat → Nat) (Q : CQ) (N : Nat) (σ : CS) (x0 : Int32) (R : Int32 × CS) (hf : f_X1_comparing N σ x0 = some R) : Met l yX1_comparing wzX1_comparing ({ frames := 1, cells := CS.hs R.2 - CS.hs σ, slots := 17 * (CS.hs R.2 - CS.hs σ), locals := 60 * 1 }) (va_Pc [.int x0] (zPre dC dI (CS.hs σ) (cW Q σ) (cT Q))) (va_Qi (fun (r : Int32) (_ : Unit) => r = R.1) (fun (_ : Unit) (t : State) => zPost dC dI (va_A (cW Q σ) (CS.hs σ)) (cW Q R.2) (cT Q) t ∧ t.heap.size = CS.hs R.2) (va_A (cW Q σ) (CS.hs σ))) (CS.hs R.2 - CS.hs σ) (17 * (CS.hs R.2 - CS.hs σ)) (va_A (cW Q σ) (CS.hs σ)) := by
  refine Met.ofW (cc := cX1_comparing) (maxL := 1) (ret := (some .int)) (by decide) rfl ?_
  intro p e s m args below meth c s₁ B hml hv
  obtain ⟨rfl, hsz, hZ, hP, hK, hD0⟩ := hv
  have hx := B.exec
  have hb := B.bytes
  have hr := B.returns
  have hts := atoms_spec (ws := wzX1_comparing) B.pre
  have hown : s.vm.findClass RX1 = some m.cls := findClass_of_methodNamed B.named
  have hlocks := B.notSynchronized
  have hD := hD0.self (sz := CS.hs σ)
  generalize hAe : va_A (cW Q σ) (CS.hs σ) = A at hD ⊢
  have hA : ∀ q : Nat, s.heap.size ≤ q → A q := fun q h => by rw [← hAe]; exact Or.inr (hsz ▸ h)
  have hC : CP dC dI Q A s.heap σ s.heap [] := ⟨hP, hD, va_S.rf, hsz⟩
  have h0 : CS.hs σ ≤ CS.hs σ := Nat.le_refl _
  have hl := lv_entry ([.int x0]) (n := 1) (Nat.le_of_ble_eq_true rfl)
  rw [lg_entry_eq]
  generalize (lg_sl ([.int x0]) ++ List.replicate (1 - (lg_sl ([.int x0])).length) Slot.unset).toArray = ls at hl ⊢
  have hl : lv_has ls 1 [(0, .int x0)] := hl
  unfold f_X1_comparing at hf
  refine W.widen (k := CS.hs σ - CS.hs σ) (n := 17 * (CS.hs σ - CS.hs σ)) (Nat.zero_le _) (Nat.zero_le _) ?_
  refine lv_iload_n hx hb dX1_comparing_0 rfl (lv_at hl 0 rfl) ?_
  by_cases c1 : x0 = 60
  ·
    replace hf := (if_pos c1).symm.trans hf
    refine lv_lookup (off := 59) (tgt := 60) hx hb dX1_comparing_1 (by decide) (by rw [c1]; decide) (by decide) ?_
    refine lv_bipush (v := 12) hx hb dX1_comparing_60 (by decide) ?_
    obtain rfl := Option.some.inj hf
    exact W.iret (v := 12) hx hb hr (fun t ht hW => ⟨⟨12, (), rfl, rfl, ⟨by rw [ht]; exact hC.1, va_K.moved hW.alike hK, hC.2.1⟩, by rw [ht]; exact hC.2.2.2⟩, hC.2.2.1.F ht⟩) hC.2.2.1.2.2 dX1_comparing_62
  replace hf := (if_neg c1).symm.trans hf
  by_cases c2 : x0 = 62
  ·
    replace hf := (if_pos c2).symm.trans hf
    refine lv_lookup (off := 65) (tgt := 66) hx hb dX1_comparing_1 (by decide) (by rw [c2]; decide) (by decide) ?_
    refine lv_bipush (v := 14) hx hb dX1_comparing_66 (by decide) ?_
    obtain rfl := Option.some.inj hf
    exact W.iret (v := 14) hx hb hr (fun t ht hW => ⟨⟨14, (), rfl, rfl, ⟨by rw [ht]; exact hC.1, va_K.moved hW.alike hK, hC.2.1⟩, by rw [ht]; exact hC.2.2.2⟩, hC.2.2.1.F ht⟩) hC.2.2.1.2.2 dX1_comparing_68
  replace hf := (if_neg c2).symm.trans hf
  by_cases c3 : x0 = 128
  ·
    replace hf := (if_pos c3).symm.trans hf
    refine lv_lookup (off := 62) (tgt := 63) hx hb dX1_comparing_1 (by decide) (by rw [c3]; decide) (by decide) ?_
    refine lv_bipush (v := 13) hx hb dX1_comparing_63 (by decide) ?_
    obtain rfl := Option.some.inj hf
    exact W.iret (v := 13) hx hb hr (fun t ht hW => ⟨⟨13, (), rfl, rfl, ⟨by rw [ht]; exact hC.1, va_K.moved hW.alike hK, hC.2.1⟩, by rw [ht]; exact hC.2.2.2⟩, hC.2.2.1.F ht⟩) hC.2.2.1.2.2 dX1_comparing_65
  replace hf := (if_neg c3).symm.trans hf
  by_cases c4 : x0 = 129
  ·
    replace hf := (if_pos c4).symm.trans hf
    refine lv_lookup (off := 68) (tgt := 69) hx hb dX1_comparing_1 (by decide) (by rw [c4]; decide) (by decide) ?_
    refine lv_bipush (v := 15) hx hb dX1_comparing_69 (by decide) ?_
    obtain rfl := Option.some.inj hf
    exact W.iret (v := 15) hx hb hr (fun t ht hW => ⟨⟨15, (), rfl, rfl, ⟨by rw [ht]; exact hC.1, va_K.moved hW.alike hK, hC.2.1⟩, by rw [ht]; exact hC.2.2.2⟩, hC.2.2.1.F ht⟩) hC.2.2.1.2.2 dX1_comparing_71
  replace hf := (if_neg c4).symm.trans hf
  by_cases c5 : x0 = 130
  ·
    replace hf := (if_pos c5).symm.trans hf
    refine lv_lookup (off := 71) (tgt := 72) hx hb dX1_comparing_1 (by decide) (by rw [c5]; decide) (by decide) ?_
    refine lv_bipush (v := 16) hx hb dX1_comparing_72 (by decide) ?_
    obtain rfl := Option.some.inj hf
    exact W.iret (v := 16) hx hb hr (fun t ht hW => ⟨⟨16, (), rfl, rfl, ⟨by rw [ht]; exact hC.1, va_K.moved hW.alike hK, hC.2.1⟩, by rw [ht]; exact hC.2.2.2⟩, hC.2.2.1.F ht⟩) hC.2.2.1.2.2 dX1_comparing_74
  replace hf := (if_neg c5).symm.trans hf
  by_cases c6 : x0 = 131
  ·
    replace hf := (if_pos c6).symm.trans hf
    refine lv_lookup (off := 74) (tgt := 75) hx hb dX1_comparing_1 (by decide) (by rw [c6]; decide) (by decide) ?_
    refine lv_bipush (v := 17) hx hb dX1_comparing_75 (by decide) ?_
    obtain rfl := Option.some.inj hf
    exact W.iret (v := 17) hx hb hr (fun t ht hW => ⟨⟨17, (), rfl, rfl, ⟨by rw [ht]; exact hC.1, va_K.moved hW.alike hK, hC.2.1⟩, by rw [ht]; exact hC.2.2.2⟩, hC.2.2.1.F ht⟩) hC.2.2.1.2.2 dX1_comparing_77
  replace hf := (if_neg c6).symm.trans hf
  refine lv_lookup (off := 77) (tgt := 78) hx hb dX1_comparing_1 (by decide) (by show Op.lookupswitch.offset [(60, 59), (62, 65), (128, 62), (129, 68), (130, 71), (131, 74)] 77 (x0 : Int32).toInt = 77; rw [lv_osw (k := 60) (a := 60) c1 (by decide), lv_osw (k := 62) (a := 62) c2 (by decide), lv_osw (k := 128) (a := 128) c3 (by decide), lv_osw (k := 129) (a := 129) c4 (by decide), lv_osw (k := 130) (a := 130) c5 (by decide), lv_osw (k := 131) (a := 131) c6 (by decide)]; rfl) (by decide) ?_
  refine lv_iconst (v := (-1)) hx hb dX1_comparing_78 (by decide) ?_
  obtain rfl := Option.some.inj hf
  exact W.iret (v := (-1)) hx hb hr (fun t ht hW => ⟨⟨(-1), (), rfl, rfl, ⟨by rw [ht]; exact hC.1, va_K.moved hW.alike hK, hC.2.1⟩, by rw [ht]; exact hC.2.2.2⟩, hC.2.2.1.F ht⟩) hC.2.2.1.2.2 dX1_comparing_79
theorem k_X1_comparison_fieldLink_RX1_18_SR_Formulas_tokens_LSR_Tokens : Cond.fieldLink RX1 18 "StatementRules2$Formulas" "tokens" "LStatementRules2$Tokens;" ∈ wzX1_comparison := List.mem_cons_of_mem _ (List.mem_append_right _ (List.mem_append_right _ (List.mem_append_right _ (List.mem_append_left _ (List.mem_of_getElem? (i := 0) rfl)))))
theorem i_X1_comparison_X7 : ∀ w ∈ wsX70, w ∈ wzX1_comparison := fun _ h => List.mem_cons_of_mem _ (List.mem_append_right _ (List.mem_append_right _ (List.mem_append_right _ (List.mem_append_right _ (List.mem_append_right _ (List.mem_append_right _ (List.mem_append_right _ (List.mem_append_right _ (List.mem_append_right _ (List.mem_append_right _ (List.mem_append_right _ (List.mem_append_right _ (List.mem_append_right _ (List.mem_append_right _ (List.mem_append_right _ (List.mem_append_right _ (List.mem_append_right _ (List.mem_append_right _ (List.mem_append_right _ (List.mem_append_right _ (List.mem_append_right _ (List.mem_append_right _ (List.mem_append_right _ (List.mem_append_right _ (List.mem_append_right _ (List.mem_append_right _ (List.mem_append_right _ (List.mem_append_right _ (List.mem_append_right _ (List.mem_append_right _ (List.mem_append_right _ (List.mem_append_right _ (List.mem_append_right _ (List.mem_append_right _ (List.mem_append_right _ (List.mem_append_right _ (List.mem_append_left _ (h))))))))))))))))))))))))))))))))))))))
theorem i_X1_comparison_X9 : ∀ w ∈ wsX90, w ∈ wzX1_comparison := fun _ h => List.mem_cons_of_mem _ (List.mem_append_right _ (List.mem_append_right _ (List.mem_append_right _ (List.mem_append_right _ (List.mem_append_right _ (List.mem_append_right _ (List.mem_append_right _ (List.mem_append_right _ (List.mem_append_right _ (List.mem_append_right _ (List.mem_append_right _ (List.mem_append_right _ (List.mem_append_right _ (List.mem_append_right _ (List.mem_append_right _ (List.mem_append_right _ (List.mem_append_right _ (List.mem_append_right _ (List.mem_append_right _ (List.mem_append_right _ (List.mem_append_right _ (List.mem_append_right _ (List.mem_append_right _ (List.mem_append_right _ (List.mem_append_right _ (List.mem_append_right _ (List.mem_append_right _ (List.mem_append_right _ (List.mem_append_right _ (List.mem_append_right _ (List.mem_append_right _ (List.mem_append_right _ (List.mem_append_right _ (List.mem_append_right _ (List.mem_append_right _ (List.mem_append_right _ (List.mem_append_right _ (List.mem_append_left _ (h)))))))))))))))))))))))))))))))))))))))
theorem k_X1_comparison_fieldLink_RX1_22_SR_Formulas_code_LSR_Code : Cond.fieldLink RX1 22 "StatementRules2$Formulas" "code" "LStatementRules2$Code;" ∈ wzX1_comparison := List.mem_cons_of_mem _ (List.mem_append_right _ (List.mem_append_right _ (List.mem_append_right _ (List.mem_append_left _ (List.mem_of_getElem? (i := 1) rfl)))))
set_option maxHeartbeats 4000000 in
set_option maxRecDepth 100000 in
theorem c_X1_comparison (l : Launch) (dC : Nat → ClassId) (dI : Nat → Nat → Nat) (Q : CQ) (N : Nat) (d : Nat) (E1 : CS → Option (Unit × CS)) (E2 : CS → Option (Int32 × CS)) (hE1 : cMF l dC dI Q d E1) (hE2 : cMO l dC dI Q d E2) (hm1 : ∀ σ, Mono (CS.hs σ) (E1 σ)) (hm2 : ∀ σ, Mono (CS.hs σ) (E2 σ)) (σ : CS) (R : Unit × CS) (hf : f_X1_comparison N E1 E2 σ = some R) : Met l yX1_comparison wzX1_comparison ({ frames := (13 + 40 * d), cells := CS.hs R.2 - CS.hs σ, slots := 17 * (CS.hs R.2 - CS.hs σ), locals := 60 * (13 + 40 * d) }) (va_Pc [.ref (Q.o 3)] (zPre dC dI (CS.hs σ) (cW Q σ) (cT Q))) (va_Qv (fun (_ : Unit) => True) (fun (_ : Unit) (t : State) => zPost dC dI (va_A (cW Q σ) (CS.hs σ)) (cW Q R.2) (cT Q) t ∧ t.heap.size = CS.hs R.2) (va_A (cW Q σ) (CS.hs σ))) (CS.hs R.2 - CS.hs σ) (17 * (CS.hs R.2 - CS.hs σ)) (va_A (cW Q σ) (CS.hs σ)) := by
  refine Met.ofW (cc := cX1_comparison) (maxL := 2) (ret := none) (by decide) rfl ?_
  intro p e s m args below meth c s₁ B hml hv
  obtain ⟨rfl, hsz, hZ, hP, hK, hD0⟩ := hv
  have hx := B.exec
  have hb := B.bytes
  have hr := B.returns
  have hts := atoms_spec (ws := wzX1_comparison) B.pre
  have hown : s.vm.findClass RX1 = some m.cls := findClass_of_methodNamed B.named
  have hlocks := B.notSynchronized
  have hD := hD0.self (sz := CS.hs σ)
  generalize hAe : va_A (cW Q σ) (CS.hs σ) = A at hD ⊢
  have hA : ∀ q : Nat, s.heap.size ≤ q → A q := fun q h => by rw [← hAe]; exact Or.inr (hsz ▸ h)
  have hC : CP dC dI Q A s.heap σ s.heap [] := ⟨hP, hD, va_S.rf, hsz⟩
  have h0 : CS.hs σ ≤ CS.hs σ := Nat.le_refl _
  have hl := lv_entry ([.ref (Q.o 3)]) (n := 2) (Nat.le_of_ble_eq_true rfl)
  rw [lg_entry_eq]
  generalize (lg_sl ([.ref (Q.o 3)]) ++ List.replicate (2 - (lg_sl ([.ref (Q.o 3)])).length) Slot.unset).toArray = ls at hl ⊢
  have hl : lv_has ls 2 [(0, .ref (Q.o 3))] := hl
  unfold f_X1_comparison at hf
  refine W.widen (k := CS.hs σ - CS.hs σ) (n := 17 * (CS.hs σ - CS.hs σ)) (Nat.zero_le _) (Nat.zero_le _) ?_
  refine lv_aload_n hx hb dX1_comparison_0 rfl (lv_at hl 0 rfl) ?_
  obtain ⟨p1, hcp1, hf⟩ := hf_bind hf
  have mo2 : CS.hs σ ≤ CS.hs p1.2 := Mono.go hcp1 (m_X1_expression N E1 E2 hm1 hm2 σ)
  have hr9 : CS.hs p1.2 ≤ CS.hs R.2 := Mono.go hf (mono_bind (m_X1_comparing N p1.2 (p1.2.i 43)) (fun p5 => (mono_ite (mono_bind (m_X9_advance N p5.2) (fun p10 => (mono_bind (m_X1_expression N E1 E2 hm1 hm2 p10.2) (fun p14 => (mono_bind (m_X0_add N p14.2 p5.1 0) (fun p18 => (mono_some (Nat.le_refl _)))))))) (mono_bind (m_X1_misplaced N p5.2) (fun p22 => (mono_some (Nat.le_refl _)))))))
  have hFc := cFree hC hA
  refine va_callv (va_runU (As := []) (rest := []) ⟨hx, hb, hml, hown, hts⟩ (c_X1_expression l dC dI Q N d E1 E2 hE1 hE2 hm1 hm2 σ p1 hcp1) (va_cwU 0 hts hX1_comparison_X1_expression_u89 rfl rfl rfl rfl (by decide +kernel) ⟨(show (12 + 40 * d) + 1 ≤ (13 + 40 * d) by omega), (show 8 + (3 + 11) + 60 * (12 + 40 * d) ≤ 60 * (13 + 40 * d) by omega)⟩) ⟨zPre.blind, va_recv hK hC.1 (ci := 6) (q0 := 3) rfl rfl, cPre_go hZ hK hC⟩ rfl rfl hl.1 rfl (lv_room (Nat.le_of_ble_eq_true rfl)) dX1_comparison_1 (cAcc h0 mo2 hr9)) hC.2.2.1 (fun q _ h => hFc q h) hFc (fun u9 t9 H1 locs ht hvm hw hB hz1 hk1 hS => ?_)
  obtain ⟨⟨hP, hK1, hD1⟩, hsz1⟩ := hB
  rw [ht] at hP hsz1
  have hC : CP dC dI Q A s.heap p1.2 H1 locs := ⟨hP, hD1.weaken (fun _ _ _ h => hFc _ h), hS, hsz1⟩
  generalize H1 = H at hC ⊢
  have h4 : (CS.hs σ) ≤ CS.hs p1.2 := Nat.le_trans h0 mo2
  refine W.widen (k := CS.hs p1.2 - (CS.hs σ)) (n := 17 * (CS.hs p1.2 - (CS.hs σ))) (cAcc2 h0 mo2) (cAcc3 h0 mo2) ?_
  refine lv_aload_n hx hb dX1_comparison_4 rfl (lv_at hl 0 rfl) ?_
  refine cG_28 hx hb hts i_X1_comparison_X7 hown hK hC (hts (.fieldLink RX1 18 "StatementRules2$Formulas" "tokens" "LStatementRules2$Tokens;") k_X1_comparison_fieldLink_RX1_18_SR_Formulas_tokens_LSR_Tokens) (fun _ q9 => q9) dX1_comparison_5 ?_
  refine cGN_43 (v := (p1.2.i 43)) hx hb hts i_X1_comparison_X9 hown hK hC (va_Nw.use rfl (hZ.1 (.fieldLinkNest RX1 53 "StatementRules2$Tokens" "type" "I" "StatementRules2") (by decide +kernel))) (fun _ q9 => q9) dX1_comparison_8 rfl ?_
  obtain ⟨p5, hcp5, hf⟩ := hf_bind hf
  have mo6 : CS.hs p1.2 ≤ CS.hs p5.2 := Mono.go hcp5 (m_X1_comparing N p1.2 (p1.2.i 43))
  have hr9 : CS.hs p5.2 ≤ CS.hs R.2 := Mono.go hf (mono_ite (mono_bind (m_X9_advance N p5.2) (fun p10 => (mono_bind (m_X1_expression N E1 E2 hm1 hm2 p10.2) (fun p14 => (mono_bind (m_X0_add N p14.2 p5.1 0) (fun p18 => (mono_some (Nat.le_refl _)))))))) (mono_bind (m_X1_misplaced N p5.2) (fun p22 => (mono_some (Nat.le_refl _)))))
  have hFc := cFree hC hA
  refine va_calli (va_runS (As := [.int (p1.2.i 43)]) (rest := []) ⟨hx, hb, hml, hown, hts⟩ (c_X1_comparing l dC dI Q N p1.2 (p1.2.i 43) p5 hcp5) (va_cwS 1 hts hX1_comparison_X1_comparing_s159 rfl rfl rfl (by decide +kernel) ⟨(show 1 + 1 ≤ (13 + 40 * d) by omega), (show 8 + (1 + 11) + 60 * 1 ≤ 60 * (13 + 40 * d) by omega)⟩) ⟨zPre.blind, cPre_go hZ hK hC⟩ rfl rfl hl.1 rfl (lv_room (Nat.le_of_ble_eq_true rfl)) dX1_comparison_11 (cAcc h4 mo6 hr9)) hC.2.2.1 (fun q _ h => hFc q h) hFc (fun r7 u9 t9 H1 locs ht hvm hw hB hz1 hk1 hS => ?_)
  obtain ⟨⟨hP, hK1, hD1⟩, hsz1⟩ := hB
  rw [ht] at hP hsz1
  have hC : CP dC dI Q A s.heap p5.2 H1 locs := ⟨hP, hD1.weaken (fun _ _ _ h => hFc _ h), hS, hsz1⟩
  generalize H1 = H at hC ⊢
  have h8 : (CS.hs σ) ≤ CS.hs p5.2 := Nat.le_trans h4 mo6
  refine W.widen (k := CS.hs p5.2 - (CS.hs σ)) (n := 17 * (CS.hs p5.2 - (CS.hs σ))) (cAcc2 h4 mo6) (cAcc3 h4 mo6) ?_
  obtain rfl : r7 = p5.1 := hw
  refine lv_istore_n (lv' := [(1, .int p5.1), (0, .ref (Q.o 3))]) hx hb dX1_comparison_14 rfl hl (by decide) rfl (fun ls hl => ?_)
  refine lv_iload_n hx hb dX1_comparison_15 rfl (lv_at hl 0 rfl) ?_
  refine lv_if_ge (tgt := 24) hx hb dX1_comparison_16 (by decide) (fun c9 => ?_) (fun c9 => ?_)
  ·
    replace hf := (if_pos c9).symm.trans hf
    refine lv_aload_n hx hb dX1_comparison_24 rfl (lv_at hl 1 rfl) ?_
    refine cG_28 hx hb hts i_X1_comparison_X7 hown hK hC (hts (.fieldLink RX1 18 "StatementRules2$Formulas" "tokens" "LStatementRules2$Tokens;") k_X1_comparison_fieldLink_RX1_18_SR_Formulas_tokens_LSR_Tokens) (fun _ q9 => q9) dX1_comparison_25 ?_
    obtain ⟨p10, hcp10, hf⟩ := hf_bind hf
    have mo11 : CS.hs p5.2 ≤ CS.hs p10.2 := Mono.go hcp10 (m_X9_advance N p5.2)
    have hr9 : CS.hs p10.2 ≤ CS.hs R.2 := Mono.go hf (mono_bind (m_X1_expression N E1 E2 hm1 hm2 p10.2) (fun p14 => (mono_bind (m_X0_add N p14.2 p5.1 0) (fun p18 => (mono_some (Nat.le_refl _))))))
    have hFc := cFree hC hA
    refine va_callv (va_runV (As := []) (rest := []) ⟨hx, hb, hml, hown, hts⟩ (c_X9_advance l dC dI Q N p5.2 p10 hcp10) (cwV 0 hts hX1_comparison_X9_advance_v56 rfl rfl rfl (by decide +kernel) ⟨(show 3 + 1 ≤ (13 + 40 * d) by omega), (show 8 + (2 + 11) + 60 * 3 ≤ 60 * (13 + 40 * d) by omega)⟩) ⟨zPre.blind, va_recv hK hC.1 (ci := 8) (q0 := 4) rfl rfl, cPre_go hZ hK hC⟩ rfl rfl hl.1 rfl (lv_room (Nat.le_of_ble_eq_true rfl)) dX1_comparison_28 (cAcc h8 mo11 hr9)) hC.2.2.1 (fun q _ h => hFc q h) hFc (fun u9 t9 H1 locs ht hvm hw hB hz1 hk1 hS => ?_)
    obtain ⟨⟨hP, hK1, hD1⟩, hsz1⟩ := hB
    rw [ht] at hP hsz1
    have hC : CP dC dI Q A s.heap p10.2 H1 locs := ⟨hP, hD1.weaken (fun _ _ _ h => hFc _ h), hS, hsz1⟩
    generalize H1 = H at hC ⊢
    have h13 : (CS.hs σ) ≤ CS.hs p10.2 := Nat.le_trans h8 mo11
    refine W.widen (k := CS.hs p10.2 - (CS.hs σ)) (n := 17 * (CS.hs p10.2 - (CS.hs σ))) (cAcc2 h8 mo11) (cAcc3 h8 mo11) ?_
    refine lv_aload_n hx hb dX1_comparison_31 rfl (lv_at hl 1 rfl) ?_
    obtain ⟨p14, hcp14, hf⟩ := hf_bind hf
    have mo15 : CS.hs p10.2 ≤ CS.hs p14.2 := Mono.go hcp14 (m_X1_expression N E1 E2 hm1 hm2 p10.2)
    have hr9 : CS.hs p14.2 ≤ CS.hs R.2 := Mono.go hf (mono_bind (m_X0_add N p14.2 p5.1 0) (fun p18 => (mono_some (Nat.le_refl _))))
    have hFc := cFree hC hA
    refine va_callv (va_runU (As := []) (rest := []) ⟨hx, hb, hml, hown, hts⟩ (c_X1_expression l dC dI Q N d E1 E2 hE1 hE2 hm1 hm2 p10.2 p14 hcp14) (va_cwU 0 hts hX1_comparison_X1_expression_u89 rfl rfl rfl rfl (by decide +kernel) ⟨(show (12 + 40 * d) + 1 ≤ (13 + 40 * d) by omega), (show 8 + (3 + 11) + 60 * (12 + 40 * d) ≤ 60 * (13 + 40 * d) by omega)⟩) ⟨zPre.blind, va_recv hK hC.1 (ci := 6) (q0 := 3) rfl rfl, cPre_go hZ hK hC⟩ rfl rfl hl.1 rfl (lv_room (Nat.le_of_ble_eq_true rfl)) dX1_comparison_32 (cAcc h13 mo15 hr9)) hC.2.2.1 (fun q _ h => hFc q h) hFc (fun u9 t9 H1 locs ht hvm hw hB hz1 hk1 hS => ?_)
    obtain ⟨⟨hP, hK1, hD1⟩, hsz1⟩ := hB
    rw [ht] at hP hsz1
    have hC : CP dC dI Q A s.heap p14.2 H1 locs := ⟨hP, hD1.weaken (fun _ _ _ h => hFc _ h), hS, hsz1⟩
    generalize H1 = H at hC ⊢
    have h17 : (CS.hs σ) ≤ CS.hs p14.2 := Nat.le_trans h13 mo15
    refine W.widen (k := CS.hs p14.2 - (CS.hs σ)) (n := 17 * (CS.hs p14.2 - (CS.hs σ))) (cAcc2 h13 mo15) (cAcc3 h13 mo15) ?_
    refine lv_aload_n hx hb dX1_comparison_35 rfl (lv_at hl 1 rfl) ?_
    refine cG_29 hx hb hts i_X1_comparison_X7 hown hK hC (hts (.fieldLink RX1 22 "StatementRules2$Formulas" "code" "LStatementRules2$Code;") k_X1_comparison_fieldLink_RX1_22_SR_Formulas_code_LSR_Code) (fun _ q9 => q9) dX1_comparison_36 ?_
    refine lv_iload_n hx hb dX1_comparison_39 rfl (lv_at hl 0 rfl) ?_
    refine lv_iconst (v := 0) hx hb dX1_comparison_40 (by decide) ?_
    obtain ⟨p18, hcp18, hf⟩ := hf_bind hf
    have mo19 : CS.hs p14.2 ≤ CS.hs p18.2 := Mono.go hcp18 (m_X0_add N p14.2 p5.1 0)
    have hr9 : CS.hs p18.2 ≤ CS.hs R.2 := Mono.go hf (mono_some (Nat.le_refl _))
    have hFc := cFree hC hA
    refine va_callv (va_runV (As := [.int p5.1, .int 0]) (rest := []) ⟨hx, hb, hml, hown, hts⟩ (c_X0_add l dC dI Q N p14.2 p5.1 0 p18 hcp18) (cwV 2 hts hX1_comparison_X0_add_v68 rfl rfl rfl (by decide +kernel) ⟨(show 2 + 1 ≤ (13 + 40 * d) by omega), (show 8 + (3 + 11) + 60 * 2 ≤ 60 * (13 + 40 * d) by omega)⟩) ⟨zPre.blind, va_recv hK hC.1 (ci := 0) (q0 := 2) rfl rfl, cPre_go hZ hK hC⟩ rfl rfl hl.1 rfl (lv_room (Nat.le_of_ble_eq_true rfl)) dX1_comparison_41 (cAcc h17 mo19 hr9)) hC.2.2.1 (fun q _ h => hFc q h) hFc (fun u9 t9 H1 locs ht hvm hw hB hz1 hk1 hS => ?_)
    obtain ⟨⟨hP, hK1, hD1⟩, hsz1⟩ := hB
    rw [ht] at hP hsz1
    have hC : CP dC dI Q A s.heap p18.2 H1 locs := ⟨hP, hD1.weaken (fun _ _ _ h => hFc _ h), hS, hsz1⟩
    generalize H1 = H at hC ⊢
    have h21 : (CS.hs σ) ≤ CS.hs p18.2 := Nat.le_trans h17 mo19
    refine W.widen (k := CS.hs p18.2 - (CS.hs σ)) (n := 17 * (CS.hs p18.2 - (CS.hs σ))) (cAcc2 h17 mo19) (cAcc3 h17 mo19) ?_
    obtain rfl := Option.some.inj hf
    exact W.vret hx hb hr (fun t ht hW => ⟨⟨(), rfl, trivial, ⟨by rw [ht]; exact hC.1, va_K.moved hW.alike hK, hC.2.1⟩, by rw [ht]; exact hC.2.2.2⟩, hC.2.2.1.F ht⟩) hC.2.2.1.2.2 dX1_comparison_44
  ·
    replace hf := (if_neg c9).symm.trans hf
    refine lv_aload_n hx hb dX1_comparison_19 rfl (lv_at hl 1 rfl) ?_
    obtain ⟨p22, hcp22, hf⟩ := hf_bind hf
    have mo23 : CS.hs p5.2 ≤ CS.hs p22.2 := Mono.go hcp22 (m_X1_misplaced N p5.2)
    have hr9 : CS.hs p22.2 ≤ CS.hs R.2 := Mono.go hf (mono_some (Nat.le_refl _))
    have hFc := cFree hC hA
    refine va_callv (va_runU (As := []) (rest := []) ⟨hx, hb, hml, hown, hts⟩ (c_X1_misplaced l dC dI Q N p5.2 p22 hcp22) (va_cwU 0 hts hX1_comparison_X1_misplaced_u59 rfl rfl rfl rfl (by decide +kernel) ⟨(show 3 + 1 ≤ (13 + 40 * d) by omega), (show 8 + (1 + 11) + 60 * 3 ≤ 60 * (13 + 40 * d) by omega)⟩) ⟨zPre.blind, va_recv hK hC.1 (ci := 6) (q0 := 3) rfl rfl, cPre_go hZ hK hC⟩ rfl rfl hl.1 rfl (lv_room (Nat.le_of_ble_eq_true rfl)) dX1_comparison_20 (cAcc h8 mo23 hr9)) hC.2.2.1 (fun q _ h => hFc q h) hFc (fun u9 t9 H1 locs ht hvm hw hB hz1 hk1 hS => ?_)
    obtain ⟨⟨hP, hK1, hD1⟩, hsz1⟩ := hB
    rw [ht] at hP hsz1
    have hC : CP dC dI Q A s.heap p22.2 H1 locs := ⟨hP, hD1.weaken (fun _ _ _ h => hFc _ h), hS, hsz1⟩
    generalize H1 = H at hC ⊢
    have h25 : (CS.hs σ) ≤ CS.hs p22.2 := Nat.le_trans h8 mo23
    refine W.widen (k := CS.hs p22.2 - (CS.hs σ)) (n := 17 * (CS.hs p22.2 - (CS.hs σ))) (cAcc2 h8 mo23) (cAcc3 h8 mo23) ?_
    obtain rfl := Option.some.inj hf
    exact W.vret hx hb hr (fun t ht hW => ⟨⟨(), rfl, trivial, ⟨by rw [ht]; exact hC.1, va_K.moved hW.alike hK, hC.2.1⟩, by rw [ht]; exact hC.2.2.2⟩, hC.2.2.1.F ht⟩) hC.2.2.1.2.2 dX1_comparison_23
theorem k_X1_one_fieldLink_RX1_18_SR_Formulas_tokens_LSR_Tokens : Cond.fieldLink RX1 18 "StatementRules2$Formulas" "tokens" "LStatementRules2$Tokens;" ∈ wzX1_one := List.mem_cons_of_mem _ (List.mem_append_right _ (List.mem_append_right _ (List.mem_append_right _ (List.mem_append_right _ (List.mem_append_right _ (List.mem_append_right _ (List.mem_append_right _ (List.mem_append_right _ (List.mem_append_right _ (List.mem_append_left _ (List.mem_of_getElem? (i := 0) rfl)))))))))))
theorem i_X1_one_X7 : ∀ w ∈ wsX70, w ∈ wzX1_one := fun _ h => List.mem_cons_of_mem _ (List.mem_append_right _ (List.mem_append_right _ (List.mem_append_right _ (List.mem_append_right _ (List.mem_append_right _ (List.mem_append_right _ (List.mem_append_right _ (List.mem_append_right _ (List.mem_append_right _ (List.mem_append_right _ (List.mem_append_right _ (List.mem_append_right _ (List.mem_append_right _ (List.mem_append_right _ (List.mem_append_right _ (List.mem_append_right _ (List.mem_append_right _ (List.mem_append_right _ (List.mem_append_right _ (List.mem_append_right _ (List.mem_append_right _ (List.mem_append_right _ (List.mem_append_right _ (List.mem_append_right _ (List.mem_append_right _ (List.mem_append_right _ (List.mem_append_right _ (List.mem_append_right _ (List.mem_append_right _ (List.mem_append_right _ (List.mem_append_right _ (List.mem_append_right _ (List.mem_append_right _ (List.mem_append_right _ (List.mem_append_right _ (List.mem_append_right _ (List.mem_append_left _ (h))))))))))))))))))))))))))))))))))))))
theorem i_X1_one_X9 : ∀ w ∈ wsX90, w ∈ wzX1_one := fun _ h => List.mem_cons_of_mem _ (List.mem_append_right _ (List.mem_append_right _ (List.mem_append_right _ (List.mem_append_right _ (List.mem_append_right _ (List.mem_append_right _ (List.mem_append_right _ (List.mem_append_right _ (List.mem_append_right _ (List.mem_append_right _ (List.mem_append_right _ (List.mem_append_right _ (List.mem_append_right _ (List.mem_append_right _ (List.mem_append_right _ (List.mem_append_right _ (List.mem_append_right _ (List.mem_append_right _ (List.mem_append_right _ (List.mem_append_right _ (List.mem_append_right _ (List.mem_append_right _ (List.mem_append_right _ (List.mem_append_right _ (List.mem_append_right _ (List.mem_append_right _ (List.mem_append_right _ (List.mem_append_right _ (List.mem_append_right _ (List.mem_append_right _ (List.mem_append_right _ (List.mem_append_right _ (List.mem_append_right _ (List.mem_append_right _ (List.mem_append_right _ (List.mem_append_right _ (List.mem_append_right _ (List.mem_append_left _ (h)))))))))))))))))))))))))))))))))))))))
theorem k_X1_one_fieldLink_RX1_30_SR_Formulas_faultNumber_I : Cond.fieldLink RX1 30 "StatementRules2$Formulas" "faultNumber" "I" ∈ wzX1_one := List.mem_cons_of_mem _ (List.mem_append_right _ (List.mem_append_right _ (List.mem_append_right _ (List.mem_append_right _ (List.mem_append_right _ (List.mem_append_right _ (List.mem_append_right _ (List.mem_append_right _ (List.mem_append_right _ (List.mem_append_left _ (List.mem_of_getElem? (i := 1) rfl)))))))))))
theorem k_X1_one_fieldLink_RX1_62_SR_Formulas_openSigns_I : Cond.fieldLink RX1 62 "StatementRules2$Formulas" "openSigns" "I" ∈ wzX1_one := List.mem_cons_of_mem _ (List.mem_append_right _ (List.mem_append_right _ (List.mem_append_right _ (List.mem_append_right _ (List.mem_append_right _ (List.mem_append_right _ (List.mem_append_right _ (List.mem_append_right _ (List.mem_append_right _ (List.mem_append_left _ (List.mem_of_getElem? (i := 2) rfl)))))))))))
theorem k_X1_one_fieldLink_RX1_22_SR_Formulas_code_LSR_Code : Cond.fieldLink RX1 22 "StatementRules2$Formulas" "code" "LStatementRules2$Code;" ∈ wzX1_one := List.mem_cons_of_mem _ (List.mem_append_right _ (List.mem_append_right _ (List.mem_append_right _ (List.mem_append_right _ (List.mem_append_right _ (List.mem_append_right _ (List.mem_append_right _ (List.mem_append_right _ (List.mem_append_right _ (List.mem_append_left _ (List.mem_of_getElem? (i := 3) rfl)))))))))))
set_option maxHeartbeats 4000000 in
set_option maxRecDepth 100000 in
theorem j_X1_one_66 {p : Program} {e : Env} {s : State} {m : MethodId} {args : Array Value} {below : List Frame} {meth : Method} {c : Code} {A : Nat → Prop} (l : Launch) (dC : Nat → ClassId) (dI : Nat → Nat → Nat) (Q : CQ) (N : Nat) (d : Nat) (E1 : CS → Option (Unit × CS)) (E2 : CS → Option (Int32 × CS)) (hE1 : cMF l dC dI Q d E1) (hE2 : cMO l dC dI Q d E2) (hm1 : ∀ σ, Mono (CS.hs σ) (E1 σ)) (hm2 : ∀ σ, Mono (CS.hs σ) (E2 σ)) (z9h : Nat) (R : Int32 × CS) (hx : p.tables.exec = Jvm.exec) (hb : c.code = cX1_one) (hr : meth.sig.returnType = (some .boolean)) (hml : c.maxLocals = 1) (hown : s.vm.findClass RX1 = some m.cls) (hts : ∀ w ∈ wzX1_one, w.before args s = true) (hlocks : meth.locks = false) (hZ : zAMB s) (hA : ∀ q : Nat, s.heap.size ≤ q → A q) (hK : va_K (dC, dI) vwCl (cT Q) s) : ∀ (σ : CS) (H : Heap) (locs : List Loc) (ls : Array Slot), f_X1_one_66 N E1 E2 σ = some R → z9h ≤ CS.hs σ → CP dC dI Q A s.heap σ H locs → lv_has ls 1 [(0, .ref (Q.o 3))] → W p l e ({ frames := (50 + 40 * d), cells := CS.hs R.2 - z9h, slots := 17 * (CS.hs R.2 - z9h), locals := 60 * (50 + 40 * d) }) s m args below meth c H locs (CS.hs σ - z9h) (17 * (CS.hs σ - z9h)) (MQ below (va_Qi (fun (r : Int32) (_ : Unit) => r = R.1) (fun (_ : Unit) (t : State) => zPost dC dI A (cW Q R.2) (cT Q) t ∧ t.heap.size = CS.hs R.2) A) args s (CS.hs R.2 - z9h) (17 * (CS.hs R.2 - z9h)) A) (F0 m 66 ls []) := by
  intro σ  H locs ls hf h0 hC hl
  unfold f_X1_one_66 at hf
  refine lv_aload_n hx hb dX1_one_66 rfl (lv_at hl 0 rfl) ?_
  refine lv_dup hx hb dX1_one_67 rfl ?_
  refine cG_34 (v := (σ.i 34)) hx hb hts i_X1_one_X7 hown hK hC (hts (.fieldLink RX1 62 "StatementRules2$Formulas" "openSigns" "I") k_X1_one_fieldLink_RX1_62_SR_Formulas_openSigns_I) (fun _ q9 => q9) dX1_one_68 rfl ?_
  refine lv_iconst (v := 1) hx hb dX1_one_71 (by decide) ?_
  refine lv_isub hx hb dX1_one_72 ?_
  refine cP_34 (v := ((σ.i 34) - 1)) hx hb hts i_X1_one_X7 hown hK hC (hts (.fieldLink RX1 62 "StatementRules2$Formulas" "openSigns" "I") k_X1_one_fieldLink_RX1_62_SR_Formulas_openSigns_I) (fun _ q9 => q9) dX1_one_73 (fun H locs hC => ?_)
  refine lv_aload_n hx hb dX1_one_76 rfl (lv_at hl 0 rfl) ?_
  refine cG_29 hx hb hts i_X1_one_X7 hown hK hC (hts (.fieldLink RX1 22 "StatementRules2$Formulas" "code" "LStatementRules2$Code;") k_X1_one_fieldLink_RX1_22_SR_Formulas_code_LSR_Code) (fun _ q9 => q9) dX1_one_77 ?_
  refine lv_iconst (v := 5) hx hb dX1_one_80 (by decide) ?_
  refine lv_iconst (v := 0) hx hb dX1_one_81 (by decide) ?_
  obtain ⟨p7, hcp7, hf⟩ := hf_bind hf
  have mo8 : CS.hs σ ≤ CS.hs p7.2 := Mono.go hcp7 (m_X0_add N (CS.setI σ 34 ((σ.i 34) - 1)) 5 0)
  have hr9 : CS.hs p7.2 ≤ CS.hs R.2 := Mono.go hf (mono_some (Nat.le_refl _))
  have hFc := cFree hC hA
  refine va_callv (va_runV (As := [.int 5, .int 0]) (rest := []) ⟨hx, hb, hml, hown, hts⟩ (c_X0_add l dC dI Q N (CS.setI σ 34 ((σ.i 34) - 1)) 5 0 p7 hcp7) (cwV 2 hts hX1_one_X0_add_v68 rfl rfl rfl (by decide +kernel) ⟨(show 2 + 1 ≤ (50 + 40 * d) by omega), (show 8 + (3 + 11) + 60 * 2 ≤ 60 * (50 + 40 * d) by omega)⟩) ⟨zPre.blind, va_recv hK hC.1 (ci := 0) (q0 := 2) rfl rfl, cPre_go hZ hK hC⟩ rfl rfl hl.1 rfl (lv_room (Nat.le_of_ble_eq_true rfl)) dX1_one_82 (cAcc h0 mo8 hr9)) hC.2.2.1 (fun q _ h => hFc q h) hFc (fun u9 t9 H1 locs ht hvm hw hB hz1 hk1 hS => ?_)
  obtain ⟨⟨hP, hK1, hD1⟩, hsz1⟩ := hB
  rw [ht] at hP hsz1
  have hC : CP dC dI Q A s.heap p7.2 H1 locs := ⟨hP, hD1.weaken (fun _ _ _ h => hFc _ h), hS, hsz1⟩
  generalize H1 = H at hC ⊢
  have h10 : z9h ≤ CS.hs p7.2 := Nat.le_trans h0 mo8
  refine W.widen (k := CS.hs p7.2 - z9h) (n := 17 * (CS.hs p7.2 - z9h)) (cAcc2 h0 mo8) (cAcc3 h0 mo8) ?_
  refine lv_iconst (v := 0) hx hb dX1_one_85 (by decide) ?_
  obtain rfl := Option.some.inj hf
  exact W.zret (v := 0) hx hb hr (rfl) (fun t ht hW => ⟨⟨0, (), rfl, rfl, ⟨by rw [ht]; exact hC.1, va_K.moved hW.alike hK, hC.2.1⟩, by rw [ht]; exact hC.2.2.2⟩, hC.2.2.1.F ht⟩) hC.2.2.1.2.2 dX1_one_86
set_option maxHeartbeats 4000000 in
set_option maxRecDepth 100000 in
theorem c_X1_one (l : Launch) (dC : Nat → ClassId) (dI : Nat → Nat → Nat) (Q : CQ) (N : Nat) (d : Nat) (E1 : CS → Option (Unit × CS)) (E2 : CS → Option (Int32 × CS)) (hE1 : cMF l dC dI Q d E1) (hE2 : cMO l dC dI Q d E2) (hm1 : ∀ σ, Mono (CS.hs σ) (E1 σ)) (hm2 : ∀ σ, Mono (CS.hs σ) (E2 σ)) (σ : CS) (R : Int32 × CS) (hf : f_X1_one N E1 E2 σ = some R) : Met l yX1_one wzX1_one ({ frames := (50 + 40 * d), cells := CS.hs R.2 - CS.hs σ, slots := 17 * (CS.hs R.2 - CS.hs σ), locals := 60 * (50 + 40 * d) }) (va_Pc [.ref (Q.o 3)] (zPre dC dI (CS.hs σ) (cW Q σ) (cT Q))) (va_Qi (fun (r : Int32) (_ : Unit) => r = R.1) (fun (_ : Unit) (t : State) => zPost dC dI (va_A (cW Q σ) (CS.hs σ)) (cW Q R.2) (cT Q) t ∧ t.heap.size = CS.hs R.2) (va_A (cW Q σ) (CS.hs σ))) (CS.hs R.2 - CS.hs σ) (17 * (CS.hs R.2 - CS.hs σ)) (va_A (cW Q σ) (CS.hs σ)) := by
  refine Met.ofW (cc := cX1_one) (maxL := 1) (ret := (some .boolean)) (by decide) rfl ?_
  intro p e s m args below meth c s₁ B hml hv
  obtain ⟨rfl, hsz, hZ, hP, hK, hD0⟩ := hv
  have hx := B.exec
  have hb := B.bytes
  have hr := B.returns
  have hts := atoms_spec (ws := wzX1_one) B.pre
  have hown : s.vm.findClass RX1 = some m.cls := findClass_of_methodNamed B.named
  have hlocks := B.notSynchronized
  have hD := hD0.self (sz := CS.hs σ)
  generalize hAe : va_A (cW Q σ) (CS.hs σ) = A at hD ⊢
  have hA : ∀ q : Nat, s.heap.size ≤ q → A q := fun q h => by rw [← hAe]; exact Or.inr (hsz ▸ h)
  have hC : CP dC dI Q A s.heap σ s.heap [] := ⟨hP, hD, va_S.rf, hsz⟩
  have h0 : CS.hs σ ≤ CS.hs σ := Nat.le_refl _
  have hl := lv_entry ([.ref (Q.o 3)]) (n := 1) (Nat.le_of_ble_eq_true rfl)
  rw [lg_entry_eq]
  generalize (lg_sl ([.ref (Q.o 3)]) ++ List.replicate (1 - (lg_sl ([.ref (Q.o 3)])).length) Slot.unset).toArray = ls at hl ⊢
  have hl : lv_has ls 1 [(0, .ref (Q.o 3))] := hl
  unfold f_X1_one at hf
  refine W.widen (k := CS.hs σ - CS.hs σ) (n := 17 * (CS.hs σ - CS.hs σ)) (Nat.zero_le _) (Nat.zero_le _) ?_
  refine lv_aload_n hx hb dX1_one_0 rfl (lv_at hl 0 rfl) ?_
  refine cG_28 hx hb hts i_X1_one_X7 hown hK hC (hts (.fieldLink RX1 18 "StatementRules2$Formulas" "tokens" "LStatementRules2$Tokens;") k_X1_one_fieldLink_RX1_18_SR_Formulas_tokens_LSR_Tokens) (fun _ q9 => q9) dX1_one_1 ?_
  refine cGN_43 (v := (σ.i 43)) hx hb hts i_X1_one_X9 hown hK hC (va_Nw.use rfl (hZ.1 (.fieldLinkNest RX1 53 "StatementRules2$Tokens" "type" "I" "StatementRules2") (by decide +kernel))) (fun _ q9 => q9) dX1_one_4 rfl ?_
  by_cases c1 : (σ.i 43) = 33
  ·
    replace hf := (if_pos c1).symm.trans hf
    refine lv_lookup (off := 41) (tgt := 48) hx hb dX1_one_7 (by decide) (by rw [c1]; decide) (by decide) ?_
    refine lv_aload_n hx hb dX1_one_48 rfl (lv_at hl 0 rfl) ?_
    refine lv_bipush (v := 33) hx hb dX1_one_49 (by decide) ?_
    obtain ⟨p2, hcp2, hf⟩ := hf_bind hf
    have mo3 : CS.hs σ ≤ CS.hs p2.2 := Mono.go hcp2 (m_X1_open N σ 33)
    have hr9 : CS.hs p2.2 ≤ CS.hs R.2 := Mono.go hf (mono_ite (mono_bind (hm2 p2.2) (fun p11 => (m_X1_one_66 N E1 E2 hm1 hm2 p11.2))) (m_X1_one_66 N E1 E2 hm1 hm2 p2.2))
    have hFc := cFree hC hA
    refine va_callv (va_runU (As := [.int 33]) (rest := []) ⟨hx, hb, hml, hown, hts⟩ (c_X1_open l dC dI Q N σ 33 p2 hcp2) (va_cwU 1 hts hX1_one_X1_open_u85 rfl rfl rfl rfl (by decide +kernel) ⟨(show 4 + 1 ≤ (50 + 40 * d) by omega), (show 8 + (2 + 11) + 60 * 4 ≤ 60 * (50 + 40 * d) by omega)⟩) ⟨zPre.blind, va_recv hK hC.1 (ci := 6) (q0 := 3) rfl rfl, cPre_go hZ hK hC⟩ rfl rfl hl.1 rfl (lv_room (Nat.le_of_ble_eq_true rfl)) dX1_one_51 (cAcc h0 mo3 hr9)) hC.2.2.1 (fun q _ h => hFc q h) hFc (fun u9 t9 H1 locs ht hvm hw hB hz1 hk1 hS => ?_)
    obtain ⟨⟨hP, hK1, hD1⟩, hsz1⟩ := hB
    rw [ht] at hP hsz1
    have hC : CP dC dI Q A s.heap p2.2 H1 locs := ⟨hP, hD1.weaken (fun _ _ _ h => hFc _ h), hS, hsz1⟩
    generalize H1 = H at hC ⊢
    have h5 : (CS.hs σ) ≤ CS.hs p2.2 := Nat.le_trans h0 mo3
    refine W.widen (k := CS.hs p2.2 - (CS.hs σ)) (n := 17 * (CS.hs p2.2 - (CS.hs σ))) (cAcc2 h0 mo3) (cAcc3 h0 mo3) ?_
    refine lv_aload_n hx hb dX1_one_54 rfl (lv_at hl 0 rfl) ?_
    refine cG_32 (v := (p2.2.i 32)) hx hb hts i_X1_one_X7 hown hK hC (hts (.fieldLink RX1 30 "StatementRules2$Formulas" "faultNumber" "I") k_X1_one_fieldLink_RX1_30_SR_Formulas_faultNumber_I) (fun _ q9 => q9) dX1_one_55 rfl ?_
    refine lv_if_ne (tgt := 66) hx hb dX1_one_58 (by decide) (fun c6 => ?_) (fun c6 => ?_)
    ·
      replace hf := (if_neg c6).symm.trans hf
      exact j_X1_one_66 l dC dI Q N d E1 E2 hE1 hE2 hm1 hm2 (CS.hs σ) R hx hb hr hml hown hts hlocks hZ hA hK p2.2 _ _ _ hf h5 hC (lv_sub hl [0] rfl)
    ·
      replace hf := (if_pos c6).symm.trans hf
      refine lv_aload_n hx hb dX1_one_61 rfl (lv_at hl 0 rfl) ?_
      obtain ⟨p11, hcp11, hf⟩ := hf_bind hf
      have mo12 : CS.hs p2.2 ≤ CS.hs p11.2 := Mono.go hcp11 (hm2 p2.2)
      have hr9 : CS.hs p11.2 ≤ CS.hs R.2 := Mono.go hf (m_X1_one_66 N E1 E2 hm1 hm2 p11.2)
      have hFc := cFree hC hA
      refine va_calli (va_runU (As := []) (rest := []) ⟨hx, hb, hml, hown, hts⟩ (hE2 p2.2 p11 hcp11) (va_cwU 0 hts hX1_one_X1_one_u150 rfl rfl rfl rfl (by decide +kernel) ⟨(show (10 + 40 * d) + 1 ≤ (50 + 40 * d) by omega), (show 8 + (1 + 11) + 60 * (10 + 40 * d) ≤ 60 * (50 + 40 * d) by omega)⟩) ⟨zPre.blind, va_recv hK hC.1 (ci := 6) (q0 := 3) rfl rfl, cPre_go hZ hK hC⟩ rfl rfl hl.1 rfl (lv_room (Nat.le_of_ble_eq_true rfl)) dX1_one_62 (cAcc h5 mo12 hr9)) hC.2.2.1 (fun q _ h => hFc q h) hFc (fun r13 u9 t9 H1 locs ht hvm hw hB hz1 hk1 hS => ?_)
      obtain ⟨⟨hP, hK1, hD1⟩, hsz1⟩ := hB
      rw [ht] at hP hsz1
      have hC : CP dC dI Q A s.heap p11.2 H1 locs := ⟨hP, hD1.weaken (fun _ _ _ h => hFc _ h), hS, hsz1⟩
      generalize H1 = H at hC ⊢
      have h14 : (CS.hs σ) ≤ CS.hs p11.2 := Nat.le_trans h5 mo12
      refine W.widen (k := CS.hs p11.2 - (CS.hs σ)) (n := 17 * (CS.hs p11.2 - (CS.hs σ))) (cAcc2 h5 mo12) (cAcc3 h5 mo12) ?_
      obtain rfl : r13 = p11.1 := hw
      refine lv_pop hx hb dX1_one_65 rfl ?_
      exact j_X1_one_66 l dC dI Q N d E1 E2 hE1 hE2 hm1 hm2 (CS.hs σ) R hx hb hr hml hown hts hlocks hZ hA hK p11.2 _ _ _ hf h14 hC (lv_sub hl [0] rfl)
  replace hf := (if_neg c1).symm.trans hf
  by_cases c15 : (σ.i 43) = 91
  ·
    replace hf := (if_pos c15).symm.trans hf
    refine lv_lookup (off := 116) (tgt := 123) hx hb dX1_one_7 (by decide) (by rw [c15]; decide) (by decide) ?_
    refine lv_aload_n hx hb dX1_one_123 rfl (lv_at hl 0 rfl) ?_
    refine lv_bipush (v := 91) hx hb dX1_one_124 (by decide) ?_
    obtain ⟨p16, hcp16, hf⟩ := hf_bind hf
    have mo17 : CS.hs σ ≤ CS.hs p16.2 := Mono.go hcp16 (m_X1_open N σ 91)
    have hr9 : CS.hs p16.2 ≤ CS.hs R.2 := Mono.go hf (mono_bind (m_X1_condition N E1 E2 hm1 hm2 p16.2) (fun p20 => (mono_bind (m_X1_close N p20.2 93) (fun p24 => (mono_some (Nat.le_refl _))))))
    have hFc := cFree hC hA
    refine va_callv (va_runU (As := [.int 91]) (rest := []) ⟨hx, hb, hml, hown, hts⟩ (c_X1_open l dC dI Q N σ 91 p16 hcp16) (va_cwU 1 hts hX1_one_X1_open_u85 rfl rfl rfl rfl (by decide +kernel) ⟨(show 4 + 1 ≤ (50 + 40 * d) by omega), (show 8 + (2 + 11) + 60 * 4 ≤ 60 * (50 + 40 * d) by omega)⟩) ⟨zPre.blind, va_recv hK hC.1 (ci := 6) (q0 := 3) rfl rfl, cPre_go hZ hK hC⟩ rfl rfl hl.1 rfl (lv_room (Nat.le_of_ble_eq_true rfl)) dX1_one_126 (cAcc h0 mo17 hr9)) hC.2.2.1 (fun q _ h => hFc q h) hFc (fun u9 t9 H1 locs ht hvm hw hB hz1 hk1 hS => ?_)
    obtain ⟨⟨hP, hK1, hD1⟩, hsz1⟩ := hB
    rw [ht] at hP hsz1
    have hC : CP dC dI Q A s.heap p16.2 H1 locs := ⟨hP, hD1.weaken (fun _ _ _ h => hFc _ h), hS, hsz1⟩
    generalize H1 = H at hC ⊢
    have h19 : (CS.hs σ) ≤ CS.hs p16.2 := Nat.le_trans h0 mo17
    refine W.widen (k := CS.hs p16.2 - (CS.hs σ)) (n := 17 * (CS.hs p16.2 - (CS.hs σ))) (cAcc2 h0 mo17) (cAcc3 h0 mo17) ?_
    refine lv_aload_n hx hb dX1_one_129 rfl (lv_at hl 0 rfl) ?_
    obtain ⟨p20, hcp20, hf⟩ := hf_bind hf
    have mo21 : CS.hs p16.2 ≤ CS.hs p20.2 := Mono.go hcp20 (m_X1_condition N E1 E2 hm1 hm2 p16.2)
    have hr9 : CS.hs p20.2 ≤ CS.hs R.2 := Mono.go hf (mono_bind (m_X1_close N p20.2 93) (fun p24 => (mono_some (Nat.le_refl _))))
    have hFc := cFree hC hA
    refine va_calli (va_runU (As := []) (rest := []) ⟨hx, hb, hml, hown, hts⟩ (c_X1_condition l dC dI Q N d E1 E2 hE1 hE2 hm1 hm2 p16.2 p20 hcp20) (va_cwU 0 hts hX1_one_X1_condition_u153 rfl rfl rfl rfl (by decide +kernel) ⟨(show (12 + 40 * d) + 1 ≤ (50 + 40 * d) by omega), (show 8 + (4 + 11) + 60 * (12 + 40 * d) ≤ 60 * (50 + 40 * d) by omega)⟩) ⟨zPre.blind, va_recv hK hC.1 (ci := 6) (q0 := 3) rfl rfl, cPre_go hZ hK hC⟩ rfl rfl hl.1 rfl (lv_room (Nat.le_of_ble_eq_true rfl)) dX1_one_130 (cAcc h19 mo21 hr9)) hC.2.2.1 (fun q _ h => hFc q h) hFc (fun r22 u9 t9 H1 locs ht hvm hw hB hz1 hk1 hS => ?_)
    obtain ⟨⟨hP, hK1, hD1⟩, hsz1⟩ := hB
    rw [ht] at hP hsz1
    have hC : CP dC dI Q A s.heap p20.2 H1 locs := ⟨hP, hD1.weaken (fun _ _ _ h => hFc _ h), hS, hsz1⟩
    generalize H1 = H at hC ⊢
    have h23 : (CS.hs σ) ≤ CS.hs p20.2 := Nat.le_trans h19 mo21
    refine W.widen (k := CS.hs p20.2 - (CS.hs σ)) (n := 17 * (CS.hs p20.2 - (CS.hs σ))) (cAcc2 h19 mo21) (cAcc3 h19 mo21) ?_
    obtain rfl : r22 = p20.1 := hw
    refine lv_pop hx hb dX1_one_133 rfl ?_
    refine lv_aload_n hx hb dX1_one_134 rfl (lv_at hl 0 rfl) ?_
    refine lv_bipush (v := 93) hx hb dX1_one_135 (by decide) ?_
    obtain ⟨p24, hcp24, hf⟩ := hf_bind hf
    have mo25 : CS.hs p20.2 ≤ CS.hs p24.2 := Mono.go hcp24 (m_X1_close N p20.2 93)
    have hr9 : CS.hs p24.2 ≤ CS.hs R.2 := Mono.go hf (mono_some (Nat.le_refl _))
    have hFc := cFree hC hA
    refine va_callv (va_runU (As := [.int 93]) (rest := []) ⟨hx, hb, hml, hown, hts⟩ (c_X1_close l dC dI Q N p20.2 93 p24 hcp24) (va_cwU 1 hts hX1_one_X1_close_u92 rfl rfl rfl rfl (by decide +kernel) ⟨(show 4 + 1 ≤ (50 + 40 * d) by omega), (show 8 + (2 + 11) + 60 * 4 ≤ 60 * (50 + 40 * d) by omega)⟩) ⟨zPre.blind, va_recv hK hC.1 (ci := 6) (q0 := 3) rfl rfl, cPre_go hZ hK hC⟩ rfl rfl hl.1 rfl (lv_room (Nat.le_of_ble_eq_true rfl)) dX1_one_137 (cAcc h23 mo25 hr9)) hC.2.2.1 (fun q _ h => hFc q h) hFc (fun u9 t9 H1 locs ht hvm hw hB hz1 hk1 hS => ?_)
    obtain ⟨⟨hP, hK1, hD1⟩, hsz1⟩ := hB
    rw [ht] at hP hsz1
    have hC : CP dC dI Q A s.heap p24.2 H1 locs := ⟨hP, hD1.weaken (fun _ _ _ h => hFc _ h), hS, hsz1⟩
    generalize H1 = H at hC ⊢
    have h27 : (CS.hs σ) ≤ CS.hs p24.2 := Nat.le_trans h23 mo25
    refine W.widen (k := CS.hs p24.2 - (CS.hs σ)) (n := 17 * (CS.hs p24.2 - (CS.hs σ))) (cAcc2 h23 mo25) (cAcc3 h23 mo25) ?_
    refine lv_iconst (v := 0) hx hb dX1_one_140 (by decide) ?_
    obtain rfl := Option.some.inj hf
    exact W.zret (v := 0) hx hb hr (rfl) (fun t ht hW => ⟨⟨0, (), rfl, rfl, ⟨by rw [ht]; exact hC.1, va_K.moved hW.alike hK, hC.2.1⟩, by rw [ht]; exact hC.2.2.2⟩, hC.2.2.1.F ht⟩) hC.2.2.1.2.2 dX1_one_141
  replace hf := (if_neg c15).symm.trans hf
  by_cases c28 : (σ.i 43) = 222
  ·
    replace hf := (if_pos c28).symm.trans hf
    refine lv_lookup (off := 80) (tgt := 87) hx hb dX1_one_7 (by decide) (by rw [c28]; decide) (by decide) ?_
    refine lv_aload_n hx hb dX1_one_87 rfl (lv_at hl 0 rfl) ?_
    refine cG_29 hx hb hts i_X1_one_X7 hown hK hC (hts (.fieldLink RX1 22 "StatementRules2$Formulas" "code" "LStatementRules2$Code;") k_X1_one_fieldLink_RX1_22_SR_Formulas_code_LSR_Code) (fun _ q9 => q9) dX1_one_88 ?_
    refine lv_iconst (v := 0) hx hb dX1_one_91 (by decide) ?_
    refine lv_iconst (v := 1) hx hb dX1_one_92 (by decide) ?_
    obtain ⟨p29, hcp29, hf⟩ := hf_bind hf
    have mo30 : CS.hs σ ≤ CS.hs p29.2 := Mono.go hcp29 (m_X0_add N σ 0 1)
    have hr9 : CS.hs p29.2 ≤ CS.hs R.2 := Mono.go hf (mono_bind (m_X9_advance N p29.2) (fun p33 => (mono_some (Nat.le_refl _))))
    have hFc := cFree hC hA
    refine va_callv (va_runV (As := [.int 0, .int 1]) (rest := []) ⟨hx, hb, hml, hown, hts⟩ (c_X0_add l dC dI Q N σ 0 1 p29 hcp29) (cwV 2 hts hX1_one_X0_add_v68 rfl rfl rfl (by decide +kernel) ⟨(show 2 + 1 ≤ (50 + 40 * d) by omega), (show 8 + (3 + 11) + 60 * 2 ≤ 60 * (50 + 40 * d) by omega)⟩) ⟨zPre.blind, va_recv hK hC.1 (ci := 0) (q0 := 2) rfl rfl, cPre_go hZ hK hC⟩ rfl rfl hl.1 rfl (lv_room (Nat.le_of_ble_eq_true rfl)) dX1_one_93 (cAcc h0 mo30 hr9)) hC.2.2.1 (fun q _ h => hFc q h) hFc (fun u9 t9 H1 locs ht hvm hw hB hz1 hk1 hS => ?_)
    obtain ⟨⟨hP, hK1, hD1⟩, hsz1⟩ := hB
    rw [ht] at hP hsz1
    have hC : CP dC dI Q A s.heap p29.2 H1 locs := ⟨hP, hD1.weaken (fun _ _ _ h => hFc _ h), hS, hsz1⟩
    generalize H1 = H at hC ⊢
    have h32 : (CS.hs σ) ≤ CS.hs p29.2 := Nat.le_trans h0 mo30
    refine W.widen (k := CS.hs p29.2 - (CS.hs σ)) (n := 17 * (CS.hs p29.2 - (CS.hs σ))) (cAcc2 h0 mo30) (cAcc3 h0 mo30) ?_
    refine lv_aload_n hx hb dX1_one_96 rfl (lv_at hl 0 rfl) ?_
    refine cG_28 hx hb hts i_X1_one_X7 hown hK hC (hts (.fieldLink RX1 18 "StatementRules2$Formulas" "tokens" "LStatementRules2$Tokens;") k_X1_one_fieldLink_RX1_18_SR_Formulas_tokens_LSR_Tokens) (fun _ q9 => q9) dX1_one_97 ?_
    obtain ⟨p33, hcp33, hf⟩ := hf_bind hf
    have mo34 : CS.hs p29.2 ≤ CS.hs p33.2 := Mono.go hcp33 (m_X9_advance N p29.2)
    have hr9 : CS.hs p33.2 ≤ CS.hs R.2 := Mono.go hf (mono_some (Nat.le_refl _))
    have hFc := cFree hC hA
    refine va_callv (va_runV (As := []) (rest := []) ⟨hx, hb, hml, hown, hts⟩ (c_X9_advance l dC dI Q N p29.2 p33 hcp33) (cwV 0 hts hX1_one_X9_advance_v56 rfl rfl rfl (by decide +kernel) ⟨(show 3 + 1 ≤ (50 + 40 * d) by omega), (show 8 + (2 + 11) + 60 * 3 ≤ 60 * (50 + 40 * d) by omega)⟩) ⟨zPre.blind, va_recv hK hC.1 (ci := 8) (q0 := 4) rfl rfl, cPre_go hZ hK hC⟩ rfl rfl hl.1 rfl (lv_room (Nat.le_of_ble_eq_true rfl)) dX1_one_100 (cAcc h32 mo34 hr9)) hC.2.2.1 (fun q _ h => hFc q h) hFc (fun u9 t9 H1 locs ht hvm hw hB hz1 hk1 hS => ?_)
    obtain ⟨⟨hP, hK1, hD1⟩, hsz1⟩ := hB
    rw [ht] at hP hsz1
    have hC : CP dC dI Q A s.heap p33.2 H1 locs := ⟨hP, hD1.weaken (fun _ _ _ h => hFc _ h), hS, hsz1⟩
    generalize H1 = H at hC ⊢
    have h36 : (CS.hs σ) ≤ CS.hs p33.2 := Nat.le_trans h32 mo34
    refine W.widen (k := CS.hs p33.2 - (CS.hs σ)) (n := 17 * (CS.hs p33.2 - (CS.hs σ))) (cAcc2 h32 mo34) (cAcc3 h32 mo34) ?_
    refine lv_iconst (v := 1) hx hb dX1_one_103 (by decide) ?_
    obtain rfl := Option.some.inj hf
    exact W.zret (v := 1) hx hb hr (rfl) (fun t ht hW => ⟨⟨1, (), rfl, rfl, ⟨by rw [ht]; exact hC.1, va_K.moved hW.alike hK, hC.2.1⟩, by rw [ht]; exact hC.2.2.2⟩, hC.2.2.1.F ht⟩) hC.2.2.1.2.2 dX1_one_104
  replace hf := (if_neg c28).symm.trans hf
  by_cases c37 : (σ.i 43) = 223
  ·
    replace hf := (if_pos c37).symm.trans hf
    refine lv_lookup (off := 98) (tgt := 105) hx hb dX1_one_7 (by decide) (by rw [c37]; decide) (by decide) ?_
    refine lv_aload_n hx hb dX1_one_105 rfl (lv_at hl 0 rfl) ?_
    refine cG_29 hx hb hts i_X1_one_X7 hown hK hC (hts (.fieldLink RX1 22 "StatementRules2$Formulas" "code" "LStatementRules2$Code;") k_X1_one_fieldLink_RX1_22_SR_Formulas_code_LSR_Code) (fun _ q9 => q9) dX1_one_106 ?_
    refine lv_iconst (v := 0) hx hb dX1_one_109 (by decide) ?_
    refine lv_iconst (v := 0) hx hb dX1_one_110 (by decide) ?_
    obtain ⟨p38, hcp38, hf⟩ := hf_bind hf
    have mo39 : CS.hs σ ≤ CS.hs p38.2 := Mono.go hcp38 (m_X0_add N σ 0 0)
    have hr9 : CS.hs p38.2 ≤ CS.hs R.2 := Mono.go hf (mono_bind (m_X9_advance N p38.2) (fun p42 => (mono_some (Nat.le_refl _))))
    have hFc := cFree hC hA
    refine va_callv (va_runV (As := [.int 0, .int 0]) (rest := []) ⟨hx, hb, hml, hown, hts⟩ (c_X0_add l dC dI Q N σ 0 0 p38 hcp38) (cwV 2 hts hX1_one_X0_add_v68 rfl rfl rfl (by decide +kernel) ⟨(show 2 + 1 ≤ (50 + 40 * d) by omega), (show 8 + (3 + 11) + 60 * 2 ≤ 60 * (50 + 40 * d) by omega)⟩) ⟨zPre.blind, va_recv hK hC.1 (ci := 0) (q0 := 2) rfl rfl, cPre_go hZ hK hC⟩ rfl rfl hl.1 rfl (lv_room (Nat.le_of_ble_eq_true rfl)) dX1_one_111 (cAcc h0 mo39 hr9)) hC.2.2.1 (fun q _ h => hFc q h) hFc (fun u9 t9 H1 locs ht hvm hw hB hz1 hk1 hS => ?_)
    obtain ⟨⟨hP, hK1, hD1⟩, hsz1⟩ := hB
    rw [ht] at hP hsz1
    have hC : CP dC dI Q A s.heap p38.2 H1 locs := ⟨hP, hD1.weaken (fun _ _ _ h => hFc _ h), hS, hsz1⟩
    generalize H1 = H at hC ⊢
    have h41 : (CS.hs σ) ≤ CS.hs p38.2 := Nat.le_trans h0 mo39
    refine W.widen (k := CS.hs p38.2 - (CS.hs σ)) (n := 17 * (CS.hs p38.2 - (CS.hs σ))) (cAcc2 h0 mo39) (cAcc3 h0 mo39) ?_
    refine lv_aload_n hx hb dX1_one_114 rfl (lv_at hl 0 rfl) ?_
    refine cG_28 hx hb hts i_X1_one_X7 hown hK hC (hts (.fieldLink RX1 18 "StatementRules2$Formulas" "tokens" "LStatementRules2$Tokens;") k_X1_one_fieldLink_RX1_18_SR_Formulas_tokens_LSR_Tokens) (fun _ q9 => q9) dX1_one_115 ?_
    obtain ⟨p42, hcp42, hf⟩ := hf_bind hf
    have mo43 : CS.hs p38.2 ≤ CS.hs p42.2 := Mono.go hcp42 (m_X9_advance N p38.2)
    have hr9 : CS.hs p42.2 ≤ CS.hs R.2 := Mono.go hf (mono_some (Nat.le_refl _))
    have hFc := cFree hC hA
    refine va_callv (va_runV (As := []) (rest := []) ⟨hx, hb, hml, hown, hts⟩ (c_X9_advance l dC dI Q N p38.2 p42 hcp42) (cwV 0 hts hX1_one_X9_advance_v56 rfl rfl rfl (by decide +kernel) ⟨(show 3 + 1 ≤ (50 + 40 * d) by omega), (show 8 + (2 + 11) + 60 * 3 ≤ 60 * (50 + 40 * d) by omega)⟩) ⟨zPre.blind, va_recv hK hC.1 (ci := 8) (q0 := 4) rfl rfl, cPre_go hZ hK hC⟩ rfl rfl hl.1 rfl (lv_room (Nat.le_of_ble_eq_true rfl)) dX1_one_118 (cAcc h41 mo43 hr9)) hC.2.2.1 (fun q _ h => hFc q h) hFc (fun u9 t9 H1 locs ht hvm hw hB hz1 hk1 hS => ?_)
    obtain ⟨⟨hP, hK1, hD1⟩, hsz1⟩ := hB
    rw [ht] at hP hsz1
    have hC : CP dC dI Q A s.heap p42.2 H1 locs := ⟨hP, hD1.weaken (fun _ _ _ h => hFc _ h), hS, hsz1⟩
    generalize H1 = H at hC ⊢
    have h45 : (CS.hs σ) ≤ CS.hs p42.2 := Nat.le_trans h41 mo43
    refine W.widen (k := CS.hs p42.2 - (CS.hs σ)) (n := 17 * (CS.hs p42.2 - (CS.hs σ))) (cAcc2 h41 mo43) (cAcc3 h41 mo43) ?_
    refine lv_iconst (v := 0) hx hb dX1_one_121 (by decide) ?_
    obtain rfl := Option.some.inj hf
    exact W.zret (v := 0) hx hb hr (rfl) (fun t ht hW => ⟨⟨0, (), rfl, rfl, ⟨by rw [ht]; exact hC.1, va_K.moved hW.alike hK, hC.2.1⟩, by rw [ht]; exact hC.2.2.2⟩, hC.2.2.1.F ht⟩) hC.2.2.1.2.2 dX1_one_122
  replace hf := (if_neg c37).symm.trans hf
  refine lv_lookup (off := 135) (tgt := 142) hx hb dX1_one_7 (by decide) (by show Op.lookupswitch.offset [(33, 41), (91, 116), (222, 80), (223, 98)] 135 ((σ.i 43) : Int32).toInt = 135; rw [lv_osw (k := 33) (a := 33) c1 (by decide), lv_osw (k := 91) (a := 91) c15 (by decide), lv_osw (k := 222) (a := 222) c28 (by decide), lv_osw (k := 223) (a := 223) c37 (by decide)]; rfl) (by decide) ?_
  refine lv_aload_n hx hb dX1_one_142 rfl (lv_at hl 0 rfl) ?_
  obtain ⟨p46, hcp46, hf⟩ := hf_bind hf
  have mo47 : CS.hs σ ≤ CS.hs p46.2 := Mono.go hcp46 (m_X1_comparison N E1 E2 hm1 hm2 σ)
  have hr9 : CS.hs p46.2 ≤ CS.hs R.2 := Mono.go hf (mono_some (Nat.le_refl _))
  have hFc := cFree hC hA
  refine va_callv (va_runU (As := []) (rest := []) ⟨hx, hb, hml, hown, hts⟩ (c_X1_comparison l dC dI Q N d E1 E2 hE1 hE2 hm1 hm2 σ p46 hcp46) (va_cwU 0 hts hX1_one_X1_comparison_u156 rfl rfl rfl rfl (by decide +kernel) ⟨(show (13 + 40 * d) + 1 ≤ (50 + 40 * d) by omega), (show 8 + (2 + 11) + 60 * (13 + 40 * d) ≤ 60 * (50 + 40 * d) by omega)⟩) ⟨zPre.blind, va_recv hK hC.1 (ci := 6) (q0 := 3) rfl rfl, cPre_go hZ hK hC⟩ rfl rfl hl.1 rfl (lv_room (Nat.le_of_ble_eq_true rfl)) dX1_one_143 (cAcc h0 mo47 hr9)) hC.2.2.1 (fun q _ h => hFc q h) hFc (fun u9 t9 H1 locs ht hvm hw hB hz1 hk1 hS => ?_)
  obtain ⟨⟨hP, hK1, hD1⟩, hsz1⟩ := hB
  rw [ht] at hP hsz1
  have hC : CP dC dI Q A s.heap p46.2 H1 locs := ⟨hP, hD1.weaken (fun _ _ _ h => hFc _ h), hS, hsz1⟩
  generalize H1 = H at hC ⊢
  have h49 : (CS.hs σ) ≤ CS.hs p46.2 := Nat.le_trans h0 mo47
  refine W.widen (k := CS.hs p46.2 - (CS.hs σ)) (n := 17 * (CS.hs p46.2 - (CS.hs σ))) (cAcc2 h0 mo47) (cAcc3 h0 mo47) ?_
  refine lv_iconst (v := 0) hx hb dX1_one_146 (by decide) ?_
  obtain rfl := Option.some.inj hf
  exact W.zret (v := 0) hx hb hr (rfl) (fun t ht hW => ⟨⟨0, (), rfl, rfl, ⟨by rw [ht]; exact hC.1, va_K.moved hW.alike hK, hC.2.1⟩, by rw [ht]; exact hC.2.2.2⟩, hC.2.2.1.F ht⟩) hC.2.2.1.2.2 dX1_one_147
theorem k_X2_init_methodLink_RX2_1_objectInit : Cond.methodLink RX2 1 objectInit ∈ wzX2_init := List.mem_cons_of_mem _ (List.mem_append_left _ (List.mem_of_getElem? (i := 0) rfl))
theorem k_X2_init_instanceMethod_objectInit : Cond.instanceMethod objectInit ∈ wzX2_init := List.mem_cons_of_mem _ (List.mem_append_left _ (List.mem_of_getElem? (i := 1) rfl))
theorem k_X2_init_code_objectInit_0xb1_1_none : Cond.code objectInit ⟨#[0xb1]⟩ 1 none ∈ wzX2_init := List.mem_cons_of_mem _ (List.mem_append_left _ (List.mem_of_getElem? (i := 2) rfl))
set_option maxHeartbeats 4000000 in
set_option maxRecDepth 100000 in
theorem c_X2_init (l : Launch) (dC : Nat → ClassId) (dI : Nat → Nat → Nat) (Q : CQ) (N : Nat) (σ : CS) (x0 : Nat) (R : Unit × CS) (hf : f_X2_init N σ x0 = some R) : Met l yX2_init wzX2_init ({ frames := 1, cells := CS.hs R.2 - CS.hs σ, slots := 17 * (CS.hs R.2 - CS.hs σ), locals := 60 * 1 }) (va_Pc [.ref x0] (zPre dC dI (CS.hs σ) (cW Q σ) (cT Q))) (va_Qv (fun (_ : Unit) => True) (fun (_ : Unit) (t : State) => zPost dC dI (va_A (cW Q σ) (CS.hs σ)) (cW Q R.2) (cT Q) t ∧ t.heap.size = CS.hs R.2) (va_A (cW Q σ) (CS.hs σ))) (CS.hs R.2 - CS.hs σ) (17 * (CS.hs R.2 - CS.hs σ)) (va_A (cW Q σ) (CS.hs σ)) := by
  refine Met.ofW (cc := cX2_init) (maxL := 1) (ret := none) (by decide) rfl ?_
  intro p e s m args below meth c s₁ B hml hv
  obtain ⟨rfl, hsz, hZ, hP, hK, hD0⟩ := hv
  have hx := B.exec
  have hb := B.bytes
  have hr := B.returns
  have hts := atoms_spec (ws := wzX2_init) B.pre
  have hown : s.vm.findClass RX2 = some m.cls := findClass_of_methodNamed B.named
  have hlocks := B.notSynchronized
  have hin : meth.name = "<init>" := (name_of_methodNamed B.named B.method).1
  have hD := hD0.self (sz := CS.hs σ)
  generalize hAe : va_A (cW Q σ) (CS.hs σ) = A at hD ⊢
  have hA : ∀ q : Nat, s.heap.size ≤ q → A q := fun q h => by rw [← hAe]; exact Or.inr (hsz ▸ h)
  have hC : CP dC dI Q A s.heap σ s.heap [] := ⟨hP, hD, va_S.rf, hsz⟩
  have h0 : CS.hs σ ≤ CS.hs σ := Nat.le_refl _
  have hl := lv_entry ([.ref x0]) (n := 1) (Nat.le_of_ble_eq_true rfl)
  rw [lg_entry_eq]
  generalize (lg_sl ([.ref x0]) ++ List.replicate (1 - (lg_sl ([.ref x0])).length) Slot.unset).toArray = ls at hl ⊢
  have hl : lv_has ls 1 [(0, .ref x0)] := hl
  unfold f_X2_init at hf
  refine W.widen (k := CS.hs σ - CS.hs σ) (n := 17 * (CS.hs σ - CS.hs σ)) (Nat.zero_le _) (Nat.zero_le _) ?_
  refine lv_aload_n hx hb dX2_init_0 rfl (lv_at hl 0 rfl) ?_
  refine W.objInit hx hb hown (hts (.methodLink RX2 1 objectInit) k_X2_init_methodLink_RX2_1_objectInit) (hts (.instanceMethod objectInit) k_X2_init_instanceMethod_objectInit) (hts (.code objectInit ⟨#[0xb1]⟩ 1 none) k_X2_init_code_objectInit_0xb1_1_none) rfl (by rw [hml]; exact hl.1) rfl dX2_init_1 (Nat.le_of_ble_eq_true rfl) (Nat.le_of_ble_eq_true rfl) ?_
  refine W.eq (g2 := F0 m 4 ls []) rfl ?_
  obtain rfl := Option.some.inj hf
  exact W.vret hx hb hr (fun t ht hW => ⟨⟨(), rfl, trivial, ⟨by rw [ht]; exact hC.1, va_K.moved hW.alike hK, hC.2.1⟩, by rw [ht]; exact hC.2.2.2⟩, hC.2.2.1.F ht⟩) hC.2.2.1.2.2 dX2_init_4
theorem k_X3_push_fieldLink_RX3_15_SR_Machine_values_I : Cond.fieldLink RX3 15 "StatementRules2$Machine" "values" "[I" ∈ wzX3_push := List.mem_cons_of_mem _ (List.mem_append_left _ (List.mem_of_getElem? (i := 0) rfl))
theorem i_X3_push_X3 : ∀ w ∈ wsX30, w ∈ wzX3_push := fun _ h => List.mem_cons_of_mem _ (List.mem_append_right _ (List.mem_append_left _ (h)))
theorem k_X3_push_fieldLink_RX3_54_SR_Machine_height_I : Cond.fieldLink RX3 54 "StatementRules2$Machine" "height" "I" ∈ wzX3_push := List.mem_cons_of_mem _ (List.mem_append_left _ (List.mem_of_getElem? (i := 1) rfl))
theorem k_X3_push_initialized_RX11 : Cond.initialized RX11 ∈ wzX3_push := List.mem_cons_of_mem _ (List.mem_append_left _ (List.mem_of_getElem? (i := 2) rfl))
theorem k_X3_push_static_yX11_put : Cond.static yX11_put ∈ wzX3_push := List.mem_cons_of_mem _ (List.mem_append_left _ (List.mem_of_getElem? (i := 3) rfl))
set_option maxHeartbeats 4000000 in
set_option maxRecDepth 100000 in
theorem c_X3_push (l : Launch) (dC : Nat → ClassId) (dI : Nat → Nat → Nat) (Q : CQ) (N : Nat) (σ : CS) (x1 : Int32) (R : Unit × CS) (hf : f_X3_push N σ x1 = some R) : Met l yX3_push wzX3_push ({ frames := 2, cells := CS.hs R.2 - CS.hs σ, slots := 17 * (CS.hs R.2 - CS.hs σ), locals := 60 * 2 }) (va_Pc [.ref (Q.o 7), .int x1] (zPre dC dI (CS.hs σ) (cW Q σ) (cT Q))) (va_Qv (fun (_ : Unit) => True) (fun (_ : Unit) (t : State) => zPost dC dI (va_A (cW Q σ) (CS.hs σ)) (cW Q R.2) (cT Q) t ∧ t.heap.size = CS.hs R.2) (va_A (cW Q σ) (CS.hs σ))) (CS.hs R.2 - CS.hs σ) (17 * (CS.hs R.2 - CS.hs σ)) (va_A (cW Q σ) (CS.hs σ)) := by
  refine Met.ofW (cc := cX3_push) (maxL := 2) (ret := none) (by decide) rfl ?_
  intro p e s m args below meth c s₁ B hml hv
  obtain ⟨rfl, hsz, hZ, hP, hK, hD0⟩ := hv
  have hx := B.exec
  have hb := B.bytes
  have hr := B.returns
  have hts := atoms_spec (ws := wzX3_push) B.pre
  have hown : s.vm.findClass RX3 = some m.cls := findClass_of_methodNamed B.named
  have hlocks := B.notSynchronized
  have hD := hD0.self (sz := CS.hs σ)
  generalize hAe : va_A (cW Q σ) (CS.hs σ) = A at hD ⊢
  have hA : ∀ q : Nat, s.heap.size ≤ q → A q := fun q h => by rw [← hAe]; exact Or.inr (hsz ▸ h)
  have hC : CP dC dI Q A s.heap σ s.heap [] := ⟨hP, hD, va_S.rf, hsz⟩
  have h0 : CS.hs σ ≤ CS.hs σ := Nat.le_refl _
  have hl := lv_entry ([.ref (Q.o 7), .int x1]) (n := 2) (Nat.le_of_ble_eq_true rfl)
  rw [lg_entry_eq]
  generalize (lg_sl ([.ref (Q.o 7), .int x1]) ++ List.replicate (2 - (lg_sl ([.ref (Q.o 7), .int x1])).length) Slot.unset).toArray = ls at hl ⊢
  have hl : lv_has ls 2 [(0, .ref (Q.o 7)), (1, .int x1)] := hl
  unfold f_X3_push at hf
  refine W.widen (k := CS.hs σ - CS.hs σ) (n := 17 * (CS.hs σ - CS.hs σ)) (Nat.zero_le _) (Nat.zero_le _) ?_
  refine lv_aload_n hx hb dX3_push_0 rfl (lv_at hl 0 rfl) ?_
  refine cG_60 hx hb hts i_X3_push_X3 hown hK hC (hts (.fieldLink RX3 15 "StatementRules2$Machine" "values" "[I") k_X3_push_fieldLink_RX3_15_SR_Machine_values_I) (fun _ q9 => q9) dX3_push_1 ?_
  refine lv_aload_n hx hb dX3_push_4 rfl (lv_at hl 0 rfl) ?_
  refine cG_65 (v := (σ.i 65)) hx hb hts i_X3_push_X3 hown hK hC (hts (.fieldLink RX3 54 "StatementRules2$Machine" "height" "I") k_X3_push_fieldLink_RX3_54_SR_Machine_height_I) (fun _ q9 => q9) dX3_push_5 rfl ?_
  refine lv_iload_n hx hb dX3_push_8 rfl (lv_at hl 1 rfl) ?_
  have he9 := (cArr_60 (Q := Q) (σ := σ))
  have hFc := cFree1 hC hA he9
  have hr9 : CS.hs σ ≤ CS.hs R.2 := Mono.go hf (mono_some (Nat.le_refl _))
  refine va_callv (va_runSN (As := [.ref (Q.q 60), .int (σ.i 65), .int x1]) (rest := []) ⟨hx, hb, hml, hown, hts⟩ (c_X11_put l dC dI _ (Q.q 60) (Q.c 0) 600 (σ.a 60) (σ.i 65) x1 (by decide)) ⟨va_cnB 3 hts hX3_push_X11_put_n50 rfl rfl rfl (hZ.1 (.methodLinkNest RX3 50 yX11_put "StatementRules2") (by decide +kernel)) (hts (.initialized RX11) k_X3_push_initialized_RX11) (by decide +kernel) ⟨(show 1 + 1 ≤ 2 by omega), (show 8 + (3 + 11) + 60 * 1 ≤ 60 * 2 by omega)⟩, (hts (.static yX11_put) k_X3_push_static_yX11_put), trivial⟩ ⟨zPre.blind, zPre.go hZ (cOne hC.1 he9) (hK.sub (tys' := [(Q.c 0, .int)]) [0] rfl) (cOneD hC.2.1 he9)⟩ rfl rfl hl.1 rfl (lv_room (Nat.le_of_ble_eq_true rfl)) dX3_push_9 ⟨cAcc4 h0 hr9, cAcc5 h0 hr9⟩) hC.2.2.1 (fun q _ h => hFc q h) hFc (fun u9 t9 H1 locs ht hvm hw hB hz1 hk1 hS => ?_)
  obtain ⟨⟨hP1, hK1, hD1⟩, hsz1⟩ := hB
  rw [ht] at hP1 hsz1
  have hC := cBack (σ' := CS.putA σ 60 (gPut (σ.a 60) 600 (σ.i 65) x1)) hC he9 cPutA_60 (cPutA_h _ _ _) hk1 hP1 hsz1 hS
  generalize H1 = H at hC ⊢
  refine lv_aload_n hx hb dX3_push_12 rfl (lv_at hl 0 rfl) ?_
  refine lv_dup hx hb dX3_push_13 rfl ?_
  refine cG_65 (v := (σ.i 65)) hx hb hts i_X3_push_X3 hown hK hC (hts (.fieldLink RX3 54 "StatementRules2$Machine" "height" "I") k_X3_push_fieldLink_RX3_54_SR_Machine_height_I) (fun _ q9 => q9) dX3_push_14 rfl ?_
  refine lv_iconst (v := 1) hx hb dX3_push_17 (by decide) ?_
  refine lv_iadd hx hb dX3_push_18 ?_
  refine cP_65 (v := ((σ.i 65) + 1)) hx hb hts i_X3_push_X3 hown hK hC (hts (.fieldLink RX3 54 "StatementRules2$Machine" "height" "I") k_X3_push_fieldLink_RX3_54_SR_Machine_height_I) (fun _ q9 => q9) dX3_push_19 (fun H locs hC => ?_)
  obtain rfl := Option.some.inj hf
  exact W.vret hx hb hr (fun t ht hW => ⟨⟨(), rfl, trivial, ⟨by rw [ht]; exact hC.1, va_K.moved hW.alike hK, hC.2.1⟩, by rw [ht]; exact hC.2.2.2⟩, hC.2.2.1.F ht⟩) hC.2.2.1.2.2 dX3_push_22
theorem k_X3_pop_fieldLink_RX3_54_SR_Machine_height_I : Cond.fieldLink RX3 54 "StatementRules2$Machine" "height" "I" ∈ wzX3_pop := List.mem_cons_of_mem _ (List.mem_append_left _ (List.mem_of_getElem? (i := 0) rfl))
theorem i_X3_pop_X3 : ∀ w ∈ wsX30, w ∈ wzX3_pop := fun _ h => List.mem_cons_of_mem _ (List.mem_append_right _ (List.mem_append_left _ (h)))
theorem k_X3_pop_fieldLink_RX3_15_SR_Machine_values_I : Cond.fieldLink RX3 15 "StatementRules2$Machine" "values" "[I" ∈ wzX3_pop := List.mem_cons_of_mem _ (List.mem_append_left _ (List.mem_of_getElem? (i := 1) rfl))
theorem k_X3_pop_initialized_RX11 : Cond.initialized RX11 ∈ wzX3_pop := List.mem_cons_of_mem _ (List.mem_append_left _ (List.mem_of_getElem? (i := 2) rfl))
theorem k_X3_pop_static_yX11_at : Cond.static yX11_at ∈ wzX3_pop := List.mem_cons_of_mem _ (List.mem_append_left _ (List.mem_of_getElem? (i := 3) rfl))
set_option maxHeartbeats 4000000 in
set_option maxRecDepth 100000 in
theorem c_X3_pop (l : Launch) (dC : Nat → ClassId) (dI : Nat → Nat → Nat) (Q : CQ) (N : Nat) (σ : CS) (R : Int32 × CS) (hf : f_X3_pop N σ = some R) : Met l yX3_pop wzX3_pop ({ frames := 2, cells := CS.hs R.2 - CS.hs σ, slots := 17 * (CS.hs R.2 - CS.hs σ), locals := 60 * 2 }) (va_Pc [.ref (Q.o 7)] (zPre dC dI (CS.hs σ) (cW Q σ) (cT Q))) (va_Qi (fun (r : Int32) (_ : Unit) => r = R.1) (fun (_ : Unit) (t : State) => zPost dC dI (va_A (cW Q σ) (CS.hs σ)) (cW Q R.2) (cT Q) t ∧ t.heap.size = CS.hs R.2) (va_A (cW Q σ) (CS.hs σ))) (CS.hs R.2 - CS.hs σ) (17 * (CS.hs R.2 - CS.hs σ)) (va_A (cW Q σ) (CS.hs σ)) := by
  refine Met.ofW (cc := cX3_pop) (maxL := 1) (ret := (some .int)) (by decide) rfl ?_
  intro p e s m args below meth c s₁ B hml hv
  obtain ⟨rfl, hsz, hZ, hP, hK, hD0⟩ := hv
  have hx := B.exec
  have hb := B.bytes
  have hr := B.returns
  have hts := atoms_spec (ws := wzX3_pop) B.pre
  have hown : s.vm.findClass RX3 = some m.cls := findClass_of_methodNamed B.named
  have hlocks := B.notSynchronized
  have hD := hD0.self (sz := CS.hs σ)
  generalize hAe : va_A (cW Q σ) (CS.hs σ) = A at hD ⊢
  have hA : ∀ q : Nat, s.heap.size ≤ q → A q := fun q h => by rw [← hAe]; exact Or.inr (hsz ▸ h)
  have hC : CP dC dI Q A s.heap σ s.heap [] := ⟨hP, hD, va_S.rf, hsz⟩
  have h0 : CS.hs σ ≤ CS.hs σ := Nat.le_refl _
  have hl := lv_entry ([.ref (Q.o 7)]) (n := 1) (Nat.le_of_ble_eq_true rfl)
  rw [lg_entry_eq]
  generalize (lg_sl ([.ref (Q.o 7)]) ++ List.replicate (1 - (lg_sl ([.ref (Q.o 7)])).length) Slot.unset).toArray = ls at hl ⊢
  have hl : lv_has ls 1 [(0, .ref (Q.o 7))] := hl
  unfold f_X3_pop at hf
  refine W.widen (k := CS.hs σ - CS.hs σ) (n := 17 * (CS.hs σ - CS.hs σ)) (Nat.zero_le _) (Nat.zero_le _) ?_
  refine lv_aload_n hx hb dX3_pop_0 rfl (lv_at hl 0 rfl) ?_
  refine lv_dup hx hb dX3_pop_1 rfl ?_
  refine cG_65 (v := (σ.i 65)) hx hb hts i_X3_pop_X3 hown hK hC (hts (.fieldLink RX3 54 "StatementRules2$Machine" "height" "I") k_X3_pop_fieldLink_RX3_54_SR_Machine_height_I) (fun _ q9 => q9) dX3_pop_2 rfl ?_
  refine lv_iconst (v := 1) hx hb dX3_pop_5 (by decide) ?_
  refine lv_isub hx hb dX3_pop_6 ?_
  refine cP_65 (v := ((σ.i 65) - 1)) hx hb hts i_X3_pop_X3 hown hK hC (hts (.fieldLink RX3 54 "StatementRules2$Machine" "height" "I") k_X3_pop_fieldLink_RX3_54_SR_Machine_height_I) (fun _ q9 => q9) dX3_pop_7 (fun H locs hC => ?_)
  refine lv_aload_n hx hb dX3_pop_10 rfl (lv_at hl 0 rfl) ?_
  refine cG_60 hx hb hts i_X3_pop_X3 hown hK hC (hts (.fieldLink RX3 15 "StatementRules2$Machine" "values" "[I") k_X3_pop_fieldLink_RX3_15_SR_Machine_values_I) (fun _ q9 => q9) dX3_pop_11 ?_
  refine lv_aload_n hx hb dX3_pop_14 rfl (lv_at hl 0 rfl) ?_
  refine cG_65 (v := ((σ.i 65) - 1)) hx hb hts i_X3_pop_X3 hown hK hC (hts (.fieldLink RX3 54 "StatementRules2$Machine" "height" "I") k_X3_pop_fieldLink_RX3_54_SR_Machine_height_I) (fun _ q9 => q9) dX3_pop_15 rfl ?_
  have he9 := (cArr_60 (Q := Q) (σ := CS.setI σ 65 ((σ.i 65) - 1)))
  have hFc := cFree1 hC hA he9
  have hr9 : CS.hs σ ≤ CS.hs R.2 := Mono.go hf (mono_some (Nat.le_refl _))
  refine va_calli (va_runSN (As := [.ref (Q.q 60), .int ((σ.i 65) - 1)]) (rest := []) ⟨hx, hb, hml, hown, hts⟩ (c_X11_at l dC dI _ (Q.q 60) (Q.c 0) 600 (CS.a (CS.setI σ 65 ((σ.i 65) - 1)) 60) ((σ.i 65) - 1) (by decide)) ⟨va_cnB 2 hts hX3_pop_X11_at_n111 rfl rfl rfl (hZ.1 (.methodLinkNest RX3 111 yX11_at "StatementRules2") (by decide +kernel)) (hts (.initialized RX11) k_X3_pop_initialized_RX11) (by decide +kernel) ⟨(show 1 + 1 ≤ 2 by omega), (show 8 + (2 + 11) + 60 * 1 ≤ 60 * 2 by omega)⟩, (hts (.static yX11_at) k_X3_pop_static_yX11_at), trivial⟩ ⟨zPre.blind, zPre.go hZ (cOne hC.1 he9) (hK.sub (tys' := [(Q.c 0, .int)]) [0] rfl) (cOneD hC.2.1 he9)⟩ rfl rfl hl.1 rfl (lv_room (Nat.le_of_ble_eq_true rfl)) dX3_pop_18 ⟨cAcc4 h0 hr9, cAcc5 h0 hr9⟩) hC.2.2.1 (fun q _ h => hFc q h) hFc (fun r1 u9 t9 H1 locs ht hvm hw hB hz1 hk1 hS => ?_)
  obtain ⟨⟨hP1, hK1, hD1⟩, hsz1⟩ := hB
  rw [ht] at hP1 hsz1
  have hC := cBack (σ' := CS.setI σ 65 ((σ.i 65) - 1)) hC he9 (cSelf he9) (Eq.refl (CS.hs (CS.setI σ 65 ((σ.i 65) - 1)))) hk1 hP1 hsz1 hS
  generalize H1 = H at hC ⊢
  obtain rfl : r1 = (gAt (CS.a (CS.setI σ 65 ((σ.i 65) - 1)) 60) 600 ((σ.i 65) - 1)) := hw
  obtain rfl := Option.some.inj hf
  exact W.iret (v := (gAt (CS.a (CS.setI σ 65 ((σ.i 65) - 1)) 60) 600 ((σ.i 65) - 1))) hx hb hr (fun t ht hW => ⟨⟨(gAt (CS.a (CS.setI σ 65 ((σ.i 65) - 1)) 60) 600 ((σ.i 65) - 1)), (), rfl, rfl, ⟨by rw [ht]; exact hC.1, va_K.moved hW.alike hK, hC.2.1⟩, by rw [ht]; exact hC.2.2.2⟩, hC.2.2.1.F ht⟩) hC.2.2.1.2.2 dX3_pop_21
theorem k_X3_move_fieldLink_RX3_9_SR_Machine_cells_I : Cond.fieldLink RX3 9 "StatementRules2$Machine" "cells" "[I" ∈ wzX3_move := List.mem_cons_of_mem _ (List.mem_append_left _ (List.mem_of_getElem? (i := 0) rfl))
theorem i_X3_move_X3 : ∀ w ∈ wsX30, w ∈ wzX3_move := fun _ h => List.mem_cons_of_mem _ (List.mem_append_right _ (List.mem_append_left _ (h)))
theorem k_X3_move_initialized_RX11 : Cond.initialized RX11 ∈ wzX3_move := List.mem_cons_of_mem _ (List.mem_append_left _ (List.mem_of_getElem? (i := 1) rfl))
theorem k_X3_move_static_yX11_at : Cond.static yX11_at ∈ wzX3_move := List.mem_cons_of_mem _ (List.mem_append_left _ (List.mem_of_getElem? (i := 2) rfl))
theorem k_X3_move_static_yX11_put : Cond.static yX11_put ∈ wzX3_move := List.mem_cons_of_mem _ (List.mem_append_left _ (List.mem_of_getElem? (i := 3) rfl))
set_option maxHeartbeats 4000000 in
set_option maxRecDepth 100000 in
theorem c_X3_move (l : Launch) (dC : Nat → ClassId) (dI : Nat → Nat → Nat) (Q : CQ) (N : Nat) (σ : CS) (x1 : Int32) (x2 : Int32) (R : Unit × CS) (hf : f_X3_move N σ x1 x2 = some R) : Met l yX3_move wzX3_move ({ frames := 3, cells := CS.hs R.2 - CS.hs σ, slots := 17 * (CS.hs R.2 - CS.hs σ), locals := 60 * 3 }) (va_Pc [.ref (Q.o 7), .int x1, .int x2] (zPre dC dI (CS.hs σ) (cW Q σ) (cT Q))) (va_Qv (fun (_ : Unit) => True) (fun (_ : Unit) (t : State) => zPost dC dI (va_A (cW Q σ) (CS.hs σ)) (cW Q R.2) (cT Q) t ∧ t.heap.size = CS.hs R.2) (va_A (cW Q σ) (CS.hs σ))) (CS.hs R.2 - CS.hs σ) (17 * (CS.hs R.2 - CS.hs σ)) (va_A (cW Q σ) (CS.hs σ)) := by
  refine Met.ofW (cc := cX3_move) (maxL := 3) (ret := none) (by decide) rfl ?_
  intro p e s m args below meth c s₁ B hml hv
  obtain ⟨rfl, hsz, hZ, hP, hK, hD0⟩ := hv
  have hx := B.exec
  have hb := B.bytes
  have hr := B.returns
  have hts := atoms_spec (ws := wzX3_move) B.pre
  have hown : s.vm.findClass RX3 = some m.cls := findClass_of_methodNamed B.named
  have hlocks := B.notSynchronized
  have hD := hD0.self (sz := CS.hs σ)
  generalize hAe : va_A (cW Q σ) (CS.hs σ) = A at hD ⊢
  have hA : ∀ q : Nat, s.heap.size ≤ q → A q := fun q h => by rw [← hAe]; exact Or.inr (hsz ▸ h)
  have hC : CP dC dI Q A s.heap σ s.heap [] := ⟨hP, hD, va_S.rf, hsz⟩
  have h0 : CS.hs σ ≤ CS.hs σ := Nat.le_refl _
  have hl := lv_entry ([.ref (Q.o 7), .int x1, .int x2]) (n := 3) (Nat.le_of_ble_eq_true rfl)
  rw [lg_entry_eq]
  generalize (lg_sl ([.ref (Q.o 7), .int x1, .int x2]) ++ List.replicate (3 - (lg_sl ([.ref (Q.o 7), .int x1, .int x2])).length) Slot.unset).toArray = ls at hl ⊢
  have hl : lv_has ls 3 [(0, .ref (Q.o 7)), (1, .int x1), (2, .int x2)] := hl
  unfold f_X3_move at hf
  refine W.widen (k := CS.hs σ - CS.hs σ) (n := 17 * (CS.hs σ - CS.hs σ)) (Nat.zero_le _) (Nat.zero_le _) ?_
  refine lv_iload_n hx hb dX3_move_0 rfl (lv_at hl 1 rfl) ?_
  by_cases c1 : x1 = 0
  ·
    replace hf := (if_pos c1).symm.trans hf
    refine lv_tableIn (off := 39) (tgt := 40) hx hb dX3_move_1 (by rw [c1]; decide) (by rw [c1]; decide) (by rw [c1]; decide) (by decide) ?_
    refine lv_aload_n hx hb dX3_move_40 rfl (lv_at hl 0 rfl) ?_
    refine lv_iload_n hx hb dX3_move_41 rfl (lv_at hl 2 rfl) ?_
    obtain ⟨p2, hcp2, hf⟩ := hf_bind hf
    have mo3 : CS.hs σ ≤ CS.hs p2.2 := Mono.go hcp2 (m_X3_push N σ x2)
    have hr9 : CS.hs p2.2 ≤ CS.hs R.2 := Mono.go hf (mono_some (Nat.le_refl _))
    have hFc := cFree hC hA
    refine va_callv (va_runV (As := [.int x2]) (rest := []) ⟨hx, hb, hml, hown, hts⟩ (c_X3_push l dC dI Q N σ x2 p2 hcp2) (cwV 1 hts hX3_move_X3_push_v135 rfl rfl rfl (by decide +kernel) ⟨(show 2 + 1 ≤ 3 by omega), (show 8 + (2 + 11) + 60 * 2 ≤ 60 * 3 by omega)⟩) ⟨zPre.blind, va_recv hK hC.1 (ci := 2) (q0 := 7) rfl rfl, cPre_go hZ hK hC⟩ rfl rfl hl.1 rfl (lv_room (Nat.le_of_ble_eq_true rfl)) dX3_move_42 (cAcc h0 mo3 hr9)) hC.2.2.1 (fun q _ h => hFc q h) hFc (fun u9 t9 H1 locs ht hvm hw hB hz1 hk1 hS => ?_)
    obtain ⟨⟨hP, hK1, hD1⟩, hsz1⟩ := hB
    rw [ht] at hP hsz1
    have hC : CP dC dI Q A s.heap p2.2 H1 locs := ⟨hP, hD1.weaken (fun _ _ _ h => hFc _ h), hS, hsz1⟩
    generalize H1 = H at hC ⊢
    have h5 : (CS.hs σ) ≤ CS.hs p2.2 := Nat.le_trans h0 mo3
    refine W.widen (k := CS.hs p2.2 - (CS.hs σ)) (n := 17 * (CS.hs p2.2 - (CS.hs σ))) (cAcc2 h0 mo3) (cAcc3 h0 mo3) ?_
    refine lv_goto (tgt := 129) hx hb dX3_move_45 (by decide) ?_
    obtain rfl := Option.some.inj hf
    exact W.vret hx hb hr (fun t ht hW => ⟨⟨(), rfl, trivial, ⟨by rw [ht]; exact hC.1, va_K.moved hW.alike hK, hC.2.1⟩, by rw [ht]; exact hC.2.2.2⟩, hC.2.2.1.F ht⟩) hC.2.2.1.2.2 dX3_move_129
  replace hf := (if_neg c1).symm.trans hf
  by_cases c6 : x1 = 1
  ·
    replace hf := (if_pos c6).symm.trans hf
    refine lv_tableIn (off := 47) (tgt := 48) hx hb dX3_move_1 (by rw [c6]; decide) (by rw [c6]; decide) (by rw [c6]; decide) (by decide) ?_
    refine lv_aload_n hx hb dX3_move_48 rfl (lv_at hl 0 rfl) ?_
    refine lv_aload_n hx hb dX3_move_49 rfl (lv_at hl 0 rfl) ?_
    refine cG_59 hx hb hts i_X3_move_X3 hown hK hC (hts (.fieldLink RX3 9 "StatementRules2$Machine" "cells" "[I") k_X3_move_fieldLink_RX3_9_SR_Machine_cells_I) (fun _ q9 => q9) dX3_move_50 ?_
    refine lv_iload_n hx hb dX3_move_53 rfl (lv_at hl 2 rfl) ?_
    have he9 := (cArr_59 (Q := Q) (σ := σ))
    have hFc := cFree1 hC hA he9
    have hr9 : CS.hs σ ≤ CS.hs R.2 := Mono.go hf (mono_bind (m_X3_push N σ (gAt (σ.a 59) 720 x2)) (fun p8 => (mono_some (Nat.le_refl _))))
    refine va_calli (va_runSN (As := [.ref (Q.q 59), .int x2]) (rest := [.ref (Q.o 7)]) ⟨hx, hb, hml, hown, hts⟩ (c_X11_at l dC dI _ (Q.q 59) (Q.c 0) 720 (σ.a 59) x2 (by decide)) ⟨va_cnB 2 hts hX3_move_X11_at_n111 rfl rfl rfl (hZ.1 (.methodLinkNest RX3 111 yX11_at "StatementRules2") (by decide +kernel)) (hts (.initialized RX11) k_X3_move_initialized_RX11) (by decide +kernel) ⟨(show 1 + 1 ≤ 3 by omega), (show 8 + (2 + 11) + 60 * 1 ≤ 60 * 3 by omega)⟩, (hts (.static yX11_at) k_X3_move_static_yX11_at), trivial⟩ ⟨zPre.blind, zPre.go hZ (cOne hC.1 he9) (hK.sub (tys' := [(Q.c 0, .int)]) [0] rfl) (cOneD hC.2.1 he9)⟩ rfl rfl hl.1 rfl (lv_room (Nat.le_of_ble_eq_true rfl)) dX3_move_54 ⟨cAcc4 h0 hr9, cAcc5 h0 hr9⟩) hC.2.2.1 (fun q _ h => hFc q h) hFc (fun r7 u9 t9 H1 locs ht hvm hw hB hz1 hk1 hS => ?_)
    obtain ⟨⟨hP1, hK1, hD1⟩, hsz1⟩ := hB
    rw [ht] at hP1 hsz1
    have hC := cBack (σ' := σ) hC he9 (cSelf he9) (Eq.refl (CS.hs σ)) hk1 hP1 hsz1 hS
    generalize H1 = H at hC ⊢
    obtain rfl : r7 = (gAt (σ.a 59) 720 x2) := hw
    obtain ⟨p8, hcp8, hf⟩ := hf_bind hf
    have mo9 : CS.hs σ ≤ CS.hs p8.2 := Mono.go hcp8 (m_X3_push N σ (gAt (σ.a 59) 720 x2))
    have hr9 : CS.hs p8.2 ≤ CS.hs R.2 := Mono.go hf (mono_some (Nat.le_refl _))
    have hFc := cFree hC hA
    refine va_callv (va_runV (As := [.int (gAt (σ.a 59) 720 x2)]) (rest := []) ⟨hx, hb, hml, hown, hts⟩ (c_X3_push l dC dI Q N σ (gAt (σ.a 59) 720 x2) p8 hcp8) (cwV 1 hts hX3_move_X3_push_v135 rfl rfl rfl (by decide +kernel) ⟨(show 2 + 1 ≤ 3 by omega), (show 8 + (2 + 11) + 60 * 2 ≤ 60 * 3 by omega)⟩) ⟨zPre.blind, va_recv hK hC.1 (ci := 2) (q0 := 7) rfl rfl, cPre_go hZ hK hC⟩ rfl rfl hl.1 rfl (lv_room (Nat.le_of_ble_eq_true rfl)) dX3_move_57 (cAcc h0 mo9 hr9)) hC.2.2.1 (fun q _ h => hFc q h) hFc (fun u9 t9 H1 locs ht hvm hw hB hz1 hk1 hS => ?_)
    obtain ⟨⟨hP, hK1, hD1⟩, hsz1⟩ := hB
    rw [ht] at hP hsz1
    have hC : CP dC dI Q A s.heap p8.2 H1 locs := ⟨hP, hD1.weaken (fun _ _ _ h => hFc _ h), hS, hsz1⟩
    generalize H1 = H at hC ⊢
    have h11 : (CS.hs σ) ≤ CS.hs p8.2 := Nat.le_trans h0 mo9
    refine W.widen (k := CS.hs p8.2 - (CS.hs σ)) (n := 17 * (CS.hs p8.2 - (CS.hs σ))) (cAcc2 h0 mo9) (cAcc3 h0 mo9) ?_
    refine lv_goto (tgt := 129) hx hb dX3_move_60 (by decide) ?_
    obtain rfl := Option.some.inj hf
    exact W.vret hx hb hr (fun t ht hW => ⟨⟨(), rfl, trivial, ⟨by rw [ht]; exact hC.1, va_K.moved hW.alike hK, hC.2.1⟩, by rw [ht]; exact hC.2.2.2⟩, hC.2.2.1.F ht⟩) hC.2.2.1.2.2 dX3_move_129
  replace hf := (if_neg c6).symm.trans hf
  by_cases c12 : x1 = 2
  ·
    replace hf := (if_pos c12).symm.trans hf
    refine lv_tableIn (off := 62) (tgt := 63) hx hb dX3_move_1 (by rw [c12]; decide) (by rw [c12]; decide) (by rw [c12]; decide) (by decide) ?_
    refine lv_aload_n hx hb dX3_move_63 rfl (lv_at hl 0 rfl) ?_
    refine cG_59 hx hb hts i_X3_move_X3 hown hK hC (hts (.fieldLink RX3 9 "StatementRules2$Machine" "cells" "[I") k_X3_move_fieldLink_RX3_9_SR_Machine_cells_I) (fun _ q9 => q9) dX3_move_64 ?_
    refine lv_iload_n hx hb dX3_move_67 rfl (lv_at hl 2 rfl) ?_
    refine lv_aload_n hx hb dX3_move_68 rfl (lv_at hl 0 rfl) ?_
    obtain ⟨p13, hcp13, hf⟩ := hf_bind hf
    have mo14 : CS.hs σ ≤ CS.hs p13.2 := Mono.go hcp13 (m_X3_pop N σ)
    have hr9 : CS.hs p13.2 ≤ CS.hs R.2 := Mono.go hf (mono_some (Nat.le_refl _))
    have hFc := cFree hC hA
    refine va_calli (va_runV (As := []) (rest := [.int x2, .ref (Q.q 59)]) ⟨hx, hb, hml, hown, hts⟩ (c_X3_pop l dC dI Q N σ p13 hcp13) (cwV 0 hts hX3_move_X3_pop_v138 rfl rfl rfl (by decide +kernel) ⟨(show 2 + 1 ≤ 3 by omega), (show 8 + (1 + 11) + 60 * 2 ≤ 60 * 3 by omega)⟩) ⟨zPre.blind, va_recv hK hC.1 (ci := 2) (q0 := 7) rfl rfl, cPre_go hZ hK hC⟩ rfl rfl hl.1 rfl (lv_room (Nat.le_of_ble_eq_true rfl)) dX3_move_69 (cAcc h0 mo14 hr9)) hC.2.2.1 (fun q _ h => hFc q h) hFc (fun r15 u9 t9 H1 locs ht hvm hw hB hz1 hk1 hS => ?_)
    obtain ⟨⟨hP, hK1, hD1⟩, hsz1⟩ := hB
    rw [ht] at hP hsz1
    have hC : CP dC dI Q A s.heap p13.2 H1 locs := ⟨hP, hD1.weaken (fun _ _ _ h => hFc _ h), hS, hsz1⟩
    generalize H1 = H at hC ⊢
    have h16 : (CS.hs σ) ≤ CS.hs p13.2 := Nat.le_trans h0 mo14
    refine W.widen (k := CS.hs p13.2 - (CS.hs σ)) (n := 17 * (CS.hs p13.2 - (CS.hs σ))) (cAcc2 h0 mo14) (cAcc3 h0 mo14) ?_
    obtain rfl : r15 = p13.1 := hw
    have he9 := (cArr_59 (Q := Q) (σ := p13.2))
    have hFc := cFree1 hC hA he9
    have hr9 : CS.hs p13.2 ≤ CS.hs R.2 := Mono.go hf (mono_some (Nat.le_refl _))
    refine va_callv (va_runSN (As := [.ref (Q.q 59), .int x2, .int p13.1]) (rest := []) ⟨hx, hb, hml, hown, hts⟩ (c_X11_put l dC dI _ (Q.q 59) (Q.c 0) 720 (p13.2.a 59) x2 p13.1 (by decide)) ⟨va_cnB 3 hts hX3_move_X11_put_n50 rfl rfl rfl (hZ.1 (.methodLinkNest RX3 50 yX11_put "StatementRules2") (by decide +kernel)) (hts (.initialized RX11) k_X3_move_initialized_RX11) (by decide +kernel) ⟨(show 1 + 1 ≤ 3 by omega), (show 8 + (3 + 11) + 60 * 1 ≤ 60 * 3 by omega)⟩, (hts (.static yX11_put) k_X3_move_static_yX11_put), trivial⟩ ⟨zPre.blind, zPre.go hZ (cOne hC.1 he9) (hK.sub (tys' := [(Q.c 0, .int)]) [0] rfl) (cOneD hC.2.1 he9)⟩ rfl rfl hl.1 rfl (lv_room (Nat.le_of_ble_eq_true rfl)) dX3_move_72 ⟨cAcc4 h16 hr9, cAcc5 h16 hr9⟩) hC.2.2.1 (fun q _ h => hFc q h) hFc (fun u9 t9 H1 locs ht hvm hw hB hz1 hk1 hS => ?_)
    obtain ⟨⟨hP1, hK1, hD1⟩, hsz1⟩ := hB
    rw [ht] at hP1 hsz1
    have hC := cBack (σ' := CS.putA p13.2 59 (gPut (p13.2.a 59) 720 x2 p13.1)) hC he9 cPutA_59 (cPutA_h _ _ _) hk1 hP1 hsz1 hS
    generalize H1 = H at hC ⊢
    refine lv_goto (tgt := 129) hx hb dX3_move_75 (by decide) ?_
    obtain rfl := Option.some.inj hf
    exact W.vret hx hb hr (fun t ht hW => ⟨⟨(), rfl, trivial, ⟨by rw [ht]; exact hC.1, va_K.moved hW.alike hK, hC.2.1⟩, by rw [ht]; exact hC.2.2.2⟩, hC.2.2.1.F ht⟩) hC.2.2.1.2.2 dX3_move_129
  replace hf := (if_neg c12).symm.trans hf
  by_cases c17 : x1 = 3
  ·
    replace hf := (if_pos c17).symm.trans hf
    refine lv_tableIn (off := 77) (tgt := 78) hx hb dX3_move_1 (by rw [c17]; decide) (by rw [c17]; decide) (by rw [c17]; decide) (by decide) ?_
    refine lv_aload_n hx hb dX3_move_78 rfl (lv_at hl 0 rfl) ?_
    refine cG_59 hx hb hts i_X3_move_X3 hown hK hC (hts (.fieldLink RX3 9 "StatementRules2$Machine" "cells" "[I") k_X3_move_fieldLink_RX3_9_SR_Machine_cells_I) (fun _ q9 => q9) dX3_move_79 ?_
    refine lv_iload_n hx hb dX3_move_82 rfl (lv_at hl 2 rfl) ?_
    refine lv_aload_n hx hb dX3_move_83 rfl (lv_at hl 0 rfl) ?_
    refine cG_59 hx hb hts i_X3_move_X3 hown hK hC (hts (.fieldLink RX3 9 "StatementRules2$Machine" "cells" "[I") k_X3_move_fieldLink_RX3_9_SR_Machine_cells_I) (fun _ q9 => q9) dX3_move_84 ?_
    refine lv_iload_n hx hb dX3_move_87 rfl (lv_at hl 2 rfl) ?_
    have he9 := (cArr_59 (Q := Q) (σ := σ))
    have hFc := cFree1 hC hA he9
    have hr9 : CS.hs σ ≤ CS.hs R.2 := Mono.go hf (mono_some (Nat.le_refl _))
    refine va_calli (va_runSN (As := [.ref (Q.q 59), .int x2]) (rest := [.int x2, .ref (Q.q 59)]) ⟨hx, hb, hml, hown, hts⟩ (c_X11_at l dC dI _ (Q.q 59) (Q.c 0) 720 (σ.a 59) x2 (by decide)) ⟨va_cnB 2 hts hX3_move_X11_at_n111 rfl rfl rfl (hZ.1 (.methodLinkNest RX3 111 yX11_at "StatementRules2") (by decide +kernel)) (hts (.initialized RX11) k_X3_move_initialized_RX11) (by decide +kernel) ⟨(show 1 + 1 ≤ 3 by omega), (show 8 + (2 + 11) + 60 * 1 ≤ 60 * 3 by omega)⟩, (hts (.static yX11_at) k_X3_move_static_yX11_at), trivial⟩ ⟨zPre.blind, zPre.go hZ (cOne hC.1 he9) (hK.sub (tys' := [(Q.c 0, .int)]) [0] rfl) (cOneD hC.2.1 he9)⟩ rfl rfl hl.1 rfl (lv_room (Nat.le_of_ble_eq_true rfl)) dX3_move_88 ⟨cAcc4 h0 hr9, cAcc5 h0 hr9⟩) hC.2.2.1 (fun q _ h => hFc q h) hFc (fun r18 u9 t9 H1 locs ht hvm hw hB hz1 hk1 hS => ?_)
    obtain ⟨⟨hP1, hK1, hD1⟩, hsz1⟩ := hB
    rw [ht] at hP1 hsz1
    have hC := cBack (σ' := σ) hC he9 (cSelf he9) (Eq.refl (CS.hs σ)) hk1 hP1 hsz1 hS
    generalize H1 = H at hC ⊢
    obtain rfl : r18 = (gAt (σ.a 59) 720 x2) := hw
    refine lv_iconst (v := 1) hx hb dX3_move_91 (by decide) ?_
    refine lv_iadd hx hb dX3_move_92 ?_
    have he9 := (cArr_59 (Q := Q) (σ := σ))
    have hFc := cFree1 hC hA he9
    have hr9 : CS.hs σ ≤ CS.hs R.2 := Mono.go hf (mono_some (Nat.le_refl _))
    refine va_callv (va_runSN (As := [.ref (Q.q 59), .int x2, .int ((gAt (σ.a 59) 720 x2) + 1)]) (rest := []) ⟨hx, hb, hml, hown, hts⟩ (c_X11_put l dC dI _ (Q.q 59) (Q.c 0) 720 (σ.a 59) x2 ((gAt (σ.a 59) 720 x2) + 1) (by decide)) ⟨va_cnB 3 hts hX3_move_X11_put_n50 rfl rfl rfl (hZ.1 (.methodLinkNest RX3 50 yX11_put "StatementRules2") (by decide +kernel)) (hts (.initialized RX11) k_X3_move_initialized_RX11) (by decide +kernel) ⟨(show 1 + 1 ≤ 3 by omega), (show 8 + (3 + 11) + 60 * 1 ≤ 60 * 3 by omega)⟩, (hts (.static yX11_put) k_X3_move_static_yX11_put), trivial⟩ ⟨zPre.blind, zPre.go hZ (cOne hC.1 he9) (hK.sub (tys' := [(Q.c 0, .int)]) [0] rfl) (cOneD hC.2.1 he9)⟩ rfl rfl hl.1 rfl (lv_room (Nat.le_of_ble_eq_true rfl)) dX3_move_93 ⟨cAcc4 h0 hr9, cAcc5 h0 hr9⟩) hC.2.2.1 (fun q _ h => hFc q h) hFc (fun u9 t9 H1 locs ht hvm hw hB hz1 hk1 hS => ?_)
    obtain ⟨⟨hP1, hK1, hD1⟩, hsz1⟩ := hB
    rw [ht] at hP1 hsz1
    have hC := cBack (σ' := CS.putA σ 59 (gPut (σ.a 59) 720 x2 ((gAt (σ.a 59) 720 x2) + 1))) hC he9 cPutA_59 (cPutA_h _ _ _) hk1 hP1 hsz1 hS
    generalize H1 = H at hC ⊢
    refine lv_goto (tgt := 129) hx hb dX3_move_96 (by decide) ?_
    obtain rfl := Option.some.inj hf
    exact W.vret hx hb hr (fun t ht hW => ⟨⟨(), rfl, trivial, ⟨by rw [ht]; exact hC.1, va_K.moved hW.alike hK, hC.2.1⟩, by rw [ht]; exact hC.2.2.2⟩, hC.2.2.1.F ht⟩) hC.2.2.1.2.2 dX3_move_129
  replace hf := (if_neg c17).symm.trans hf
  by_cases c19 : x1 = 4
  ·
    replace hf := (if_pos c19).symm.trans hf
    refine lv_tableIn (off := 98) (tgt := 99) hx hb dX3_move_1 (by rw [c19]; decide) (by rw [c19]; decide) (by rw [c19]; decide) (by decide) ?_
    refine lv_aload_n hx hb dX3_move_99 rfl (lv_at hl 0 rfl) ?_
    refine lv_aload_n hx hb dX3_move_100 rfl (lv_at hl 0 rfl) ?_
    obtain ⟨p20, hcp20, hf⟩ := hf_bind hf
    have mo21 : CS.hs σ ≤ CS.hs p20.2 := Mono.go hcp20 (m_X3_pop N σ)
    have hr9 : CS.hs p20.2 ≤ CS.hs R.2 := Mono.go hf (mono_bind (m_X3_push N p20.2 (-p20.1)) (fun p24 => (mono_some (Nat.le_refl _))))
    have hFc := cFree hC hA
    refine va_calli (va_runV (As := []) (rest := [.ref (Q.o 7)]) ⟨hx, hb, hml, hown, hts⟩ (c_X3_pop l dC dI Q N σ p20 hcp20) (cwV 0 hts hX3_move_X3_pop_v138 rfl rfl rfl (by decide +kernel) ⟨(show 2 + 1 ≤ 3 by omega), (show 8 + (1 + 11) + 60 * 2 ≤ 60 * 3 by omega)⟩) ⟨zPre.blind, va_recv hK hC.1 (ci := 2) (q0 := 7) rfl rfl, cPre_go hZ hK hC⟩ rfl rfl hl.1 rfl (lv_room (Nat.le_of_ble_eq_true rfl)) dX3_move_101 (cAcc h0 mo21 hr9)) hC.2.2.1 (fun q _ h => hFc q h) hFc (fun r22 u9 t9 H1 locs ht hvm hw hB hz1 hk1 hS => ?_)
    obtain ⟨⟨hP, hK1, hD1⟩, hsz1⟩ := hB
    rw [ht] at hP hsz1
    have hC : CP dC dI Q A s.heap p20.2 H1 locs := ⟨hP, hD1.weaken (fun _ _ _ h => hFc _ h), hS, hsz1⟩
    generalize H1 = H at hC ⊢
    have h23 : (CS.hs σ) ≤ CS.hs p20.2 := Nat.le_trans h0 mo21
    refine W.widen (k := CS.hs p20.2 - (CS.hs σ)) (n := 17 * (CS.hs p20.2 - (CS.hs σ))) (cAcc2 h0 mo21) (cAcc3 h0 mo21) ?_
    obtain rfl : r22 = p20.1 := hw
    refine lv_ineg hx hb dX3_move_104 ?_
    obtain ⟨p24, hcp24, hf⟩ := hf_bind hf
    have mo25 : CS.hs p20.2 ≤ CS.hs p24.2 := Mono.go hcp24 (m_X3_push N p20.2 (-p20.1))
    have hr9 : CS.hs p24.2 ≤ CS.hs R.2 := Mono.go hf (mono_some (Nat.le_refl _))
    have hFc := cFree hC hA
    refine va_callv (va_runV (As := [.int (-p20.1)]) (rest := []) ⟨hx, hb, hml, hown, hts⟩ (c_X3_push l dC dI Q N p20.2 (-p20.1) p24 hcp24) (cwV 1 hts hX3_move_X3_push_v135 rfl rfl rfl (by decide +kernel) ⟨(show 2 + 1 ≤ 3 by omega), (show 8 + (2 + 11) + 60 * 2 ≤ 60 * 3 by omega)⟩) ⟨zPre.blind, va_recv hK hC.1 (ci := 2) (q0 := 7) rfl rfl, cPre_go hZ hK hC⟩ rfl rfl hl.1 rfl (lv_room (Nat.le_of_ble_eq_true rfl)) dX3_move_105 (cAcc h23 mo25 hr9)) hC.2.2.1 (fun q _ h => hFc q h) hFc (fun u9 t9 H1 locs ht hvm hw hB hz1 hk1 hS => ?_)
    obtain ⟨⟨hP, hK1, hD1⟩, hsz1⟩ := hB
    rw [ht] at hP hsz1
    have hC : CP dC dI Q A s.heap p24.2 H1 locs := ⟨hP, hD1.weaken (fun _ _ _ h => hFc _ h), hS, hsz1⟩
    generalize H1 = H at hC ⊢
    have h27 : (CS.hs σ) ≤ CS.hs p24.2 := Nat.le_trans h23 mo25
    refine W.widen (k := CS.hs p24.2 - (CS.hs σ)) (n := 17 * (CS.hs p24.2 - (CS.hs σ))) (cAcc2 h23 mo25) (cAcc3 h23 mo25) ?_
    refine lv_goto (tgt := 129) hx hb dX3_move_108 (by decide) ?_
    obtain rfl := Option.some.inj hf
    exact W.vret hx hb hr (fun t ht hW => ⟨⟨(), rfl, trivial, ⟨by rw [ht]; exact hC.1, va_K.moved hW.alike hK, hC.2.1⟩, by rw [ht]; exact hC.2.2.2⟩, hC.2.2.1.F ht⟩) hC.2.2.1.2.2 dX3_move_129
  replace hf := (if_neg c19).symm.trans hf
  by_cases c28 : x1 = 5
  ·
    replace hf := (if_pos c28).symm.trans hf
    refine lv_tableIn (off := 110) (tgt := 111) hx hb dX3_move_1 (by rw [c28]; decide) (by rw [c28]; decide) (by rw [c28]; decide) (by decide) ?_
    refine lv_aload_n hx hb dX3_move_111 rfl (lv_at hl 0 rfl) ?_
    refine lv_iconst (v := 1) hx hb dX3_move_112 (by decide) ?_
    refine lv_aload_n hx hb dX3_move_113 rfl (lv_at hl 0 rfl) ?_
    obtain ⟨p29, hcp29, hf⟩ := hf_bind hf
    have mo30 : CS.hs σ ≤ CS.hs p29.2 := Mono.go hcp29 (m_X3_pop N σ)
    have hr9 : CS.hs p29.2 ≤ CS.hs R.2 := Mono.go hf (mono_bind (m_X3_push N p29.2 (1 - p29.1)) (fun p33 => (mono_some (Nat.le_refl _))))
    have hFc := cFree hC hA
    refine va_calli (va_runV (As := []) (rest := [.int 1, .ref (Q.o 7)]) ⟨hx, hb, hml, hown, hts⟩ (c_X3_pop l dC dI Q N σ p29 hcp29) (cwV 0 hts hX3_move_X3_pop_v138 rfl rfl rfl (by decide +kernel) ⟨(show 2 + 1 ≤ 3 by omega), (show 8 + (1 + 11) + 60 * 2 ≤ 60 * 3 by omega)⟩) ⟨zPre.blind, va_recv hK hC.1 (ci := 2) (q0 := 7) rfl rfl, cPre_go hZ hK hC⟩ rfl rfl hl.1 rfl (lv_room (Nat.le_of_ble_eq_true rfl)) dX3_move_114 (cAcc h0 mo30 hr9)) hC.2.2.1 (fun q _ h => hFc q h) hFc (fun r31 u9 t9 H1 locs ht hvm hw hB hz1 hk1 hS => ?_)
    obtain ⟨⟨hP, hK1, hD1⟩, hsz1⟩ := hB
    rw [ht] at hP hsz1
    have hC : CP dC dI Q A s.heap p29.2 H1 locs := ⟨hP, hD1.weaken (fun _ _ _ h => hFc _ h), hS, hsz1⟩
    generalize H1 = H at hC ⊢
    have h32 : (CS.hs σ) ≤ CS.hs p29.2 := Nat.le_trans h0 mo30
    refine W.widen (k := CS.hs p29.2 - (CS.hs σ)) (n := 17 * (CS.hs p29.2 - (CS.hs σ))) (cAcc2 h0 mo30) (cAcc3 h0 mo30) ?_
    obtain rfl : r31 = p29.1 := hw
    refine lv_isub hx hb dX3_move_117 ?_
    obtain ⟨p33, hcp33, hf⟩ := hf_bind hf
    have mo34 : CS.hs p29.2 ≤ CS.hs p33.2 := Mono.go hcp33 (m_X3_push N p29.2 (1 - p29.1))
    have hr9 : CS.hs p33.2 ≤ CS.hs R.2 := Mono.go hf (mono_some (Nat.le_refl _))
    have hFc := cFree hC hA
    refine va_callv (va_runV (As := [.int (1 - p29.1)]) (rest := []) ⟨hx, hb, hml, hown, hts⟩ (c_X3_push l dC dI Q N p29.2 (1 - p29.1) p33 hcp33) (cwV 1 hts hX3_move_X3_push_v135 rfl rfl rfl (by decide +kernel) ⟨(show 2 + 1 ≤ 3 by omega), (show 8 + (2 + 11) + 60 * 2 ≤ 60 * 3 by omega)⟩) ⟨zPre.blind, va_recv hK hC.1 (ci := 2) (q0 := 7) rfl rfl, cPre_go hZ hK hC⟩ rfl rfl hl.1 rfl (lv_room (Nat.le_of_ble_eq_true rfl)) dX3_move_118 (cAcc h32 mo34 hr9)) hC.2.2.1 (fun q _ h => hFc q h) hFc (fun u9 t9 H1 locs ht hvm hw hB hz1 hk1 hS => ?_)
    obtain ⟨⟨hP, hK1, hD1⟩, hsz1⟩ := hB
    rw [ht] at hP hsz1
    have hC : CP dC dI Q A s.heap p33.2 H1 locs := ⟨hP, hD1.weaken (fun _ _ _ h => hFc _ h), hS, hsz1⟩
    generalize H1 = H at hC ⊢
    have h36 : (CS.hs σ) ≤ CS.hs p33.2 := Nat.le_trans h32 mo34
    refine W.widen (k := CS.hs p33.2 - (CS.hs σ)) (n := 17 * (CS.hs p33.2 - (CS.hs σ))) (cAcc2 h32 mo34) (cAcc3 h32 mo34) ?_
    refine lv_goto (tgt := 129) hx hb dX3_move_121 (by decide) ?_
    obtain rfl := Option.some.inj hf
    exact W.vret hx hb hr (fun t ht hW => ⟨⟨(), rfl, trivial, ⟨by rw [ht]; exact hC.1, va_K.moved hW.alike hK, hC.2.1⟩, by rw [ht]; exact hC.2.2.2⟩, hC.2.2.1.F ht⟩) hC.2.2.1.2.2 dX3_move_129
  replace hf := (if_neg c28).symm.trans hf
  refine lv_tableOut (tgt := 124) hx hb dX3_move_1 (by have := z_ton (a := 0) c1 (by decide); have := z_ton (a := 1) c6 (by decide); have := z_ton (a := 2) c12 (by decide); have := z_ton (a := 3) c17 (by decide); have := z_ton (a := 4) c19 (by decide); have := z_ton (a := 5) c28 (by decide); omega) (by decide) ?_
  refine lv_aload_n hx hb dX3_move_124 rfl (lv_at hl 0 rfl) ?_
  obtain ⟨p37, hcp37, hf⟩ := hf_bind hf
  have mo38 : CS.hs σ ≤ CS.hs p37.2 := Mono.go hcp37 (m_X3_pop N σ)
  have hr9 : CS.hs p37.2 ≤ CS.hs R.2 := Mono.go hf (mono_some (Nat.le_refl _))
  have hFc := cFree hC hA
  refine va_calli (va_runV (As := []) (rest := []) ⟨hx, hb, hml, hown, hts⟩ (c_X3_pop l dC dI Q N σ p37 hcp37) (cwV 0 hts hX3_move_X3_pop_v138 rfl rfl rfl (by decide +kernel) ⟨(show 2 + 1 ≤ 3 by omega), (show 8 + (1 + 11) + 60 * 2 ≤ 60 * 3 by omega)⟩) ⟨zPre.blind, va_recv hK hC.1 (ci := 2) (q0 := 7) rfl rfl, cPre_go hZ hK hC⟩ rfl rfl hl.1 rfl (lv_room (Nat.le_of_ble_eq_true rfl)) dX3_move_125 (cAcc h0 mo38 hr9)) hC.2.2.1 (fun q _ h => hFc q h) hFc (fun r39 u9 t9 H1 locs ht hvm hw hB hz1 hk1 hS => ?_)
  obtain ⟨⟨hP, hK1, hD1⟩, hsz1⟩ := hB
  rw [ht] at hP hsz1
  have hC : CP dC dI Q A s.heap p37.2 H1 locs := ⟨hP, hD1.weaken (fun _ _ _ h => hFc _ h), hS, hsz1⟩
  generalize H1 = H at hC ⊢
  have h40 : (CS.hs σ) ≤ CS.hs p37.2 := Nat.le_trans h0 mo38
  refine W.widen (k := CS.hs p37.2 - (CS.hs σ)) (n := 17 * (CS.hs p37.2 - (CS.hs σ))) (cAcc2 h0 mo38) (cAcc3 h0 mo38) ?_
  obtain rfl : r39 = p37.1 := hw
  refine lv_pop hx hb dX3_move_128 rfl ?_
  obtain rfl := Option.some.inj hf
  exact W.vret hx hb hr (fun t ht hW => ⟨⟨(), rfl, trivial, ⟨by rw [ht]; exact hC.1, va_K.moved hW.alike hK, hC.2.1⟩, by rw [ht]; exact hC.2.2.2⟩, hC.2.2.1.F ht⟩) hC.2.2.1.2.2 dX3_move_129
