theorem i_X7_endIf_X5 : ∀ w ∈ wsX50, w ∈ wzX7_endIf := fun _ h => List.mem_cons_of_mem _ (List.mem_append_right _ (List.mem_append_left _ (h)))
theorem k_X7_endIf_fieldLink_RX7_61_SR_Statements_alive_Z : Cond.fieldLink RX7 61 "StatementRules2$Statements" "alive" "Z" ∈ wzX7_endIf := List.mem_cons_of_mem _ (List.mem_append_left _ (List.mem_of_getElem? (i := 0) rfl))
theorem i_X7_endIf_X7 : ∀ w ∈ wsX70, w ∈ wzX7_endIf := fun _ h => List.mem_cons_of_mem _ (List.mem_append_right _ (List.mem_append_right _ (List.mem_append_left _ (h))))
theorem k_X7_endIf_fieldLink_RX7_20_SR_Statements_code_LSR_Code : Cond.fieldLink RX7 20 "StatementRules2$Statements" "code" "LStatementRules2$Code;" ∈ wzX7_endIf := List.mem_cons_of_mem _ (List.mem_append_left _ (List.mem_of_getElem? (i := 1) rfl))
theorem k_X7_endIf_sameField_SR_Statements_SR_Formulas_code_LSR_Code : Cond.sameField "StatementRules2$Statements" "StatementRules2$Formulas" "code" "LStatementRules2$Code;" ∈ wzX7_endIf := List.mem_cons_of_mem _ (List.mem_append_left _ (List.mem_of_getElem? (i := 2) rfl))
theorem k_X7_endIf_fieldLink_RX7_14_SR_Statements_opens_LSR_Opens : Cond.fieldLink RX7 14 "StatementRules2$Statements" "opens" "LStatementRules2$Opens;" ∈ wzX7_endIf := List.mem_cons_of_mem _ (List.mem_append_left _ (List.mem_of_getElem? (i := 3) rfl))
set_option maxHeartbeats 4000000 in
set_option maxRecDepth 100000 in
theorem c_X7_endIf (l : Launch) (dC : Nat → ClassId) (dI : Nat → Nat → Nat) (Q : CQ) (N : Nat) (σ : CS) (x1 : Nat) (R : Unit × CS) (hf : f_X7_endIf N σ x1 = some R) : Met l yX7_endIf wzX7_endIf ({ frames := 5, cells := CS.hs R.2 - CS.hs σ, slots := 17 * (CS.hs R.2 - CS.hs σ), locals := 60 * 5 }) (va_Pc [.ref (Q.o 3), .ref x1] (zPre dC dI (CS.hs σ) (cW Q σ) (cT Q))) (va_Qv (fun (_ : Unit) => True) (fun (_ : Unit) (t : State) => zPost dC dI (va_A (cW Q σ) (CS.hs σ)) (cW Q R.2) (cT Q) t ∧ t.heap.size = CS.hs R.2) (va_A (cW Q σ) (CS.hs σ))) (CS.hs R.2 - CS.hs σ) (17 * (CS.hs R.2 - CS.hs σ)) (va_A (cW Q σ) (CS.hs σ)) := by
  refine Met.ofW (cc := cX7_endIf) (maxL := 2) (ret := none) (by decide) rfl ?_
  intro p e s m args below meth c s₁ B hml hv
  obtain ⟨rfl, hsz, hZ, hP, hK, hD0⟩ := hv
  have hx := B.exec
  have hb := B.bytes
  have hr := B.returns
  have hts := atoms_spec (ws := wzX7_endIf) B.pre
  have hown : s.vm.findClass RX7 = some m.cls := findClass_of_methodNamed B.named
  have hlocks := B.notSynchronized
  have hD := hD0.self (sz := CS.hs σ)
  generalize hAe : va_A (cW Q σ) (CS.hs σ) = A at hD ⊢
  have hA : ∀ q : Nat, s.heap.size ≤ q → A q := fun q h => by rw [← hAe]; exact Or.inr (hsz ▸ h)
  have hC : CP dC dI Q A s.heap σ s.heap [] := ⟨hP, hD, va_S.rf, hsz⟩
  have h0 : CS.hs σ ≤ CS.hs σ := Nat.le_refl _
  have hl := lv_entry ([.ref (Q.o 3), .ref x1]) (n := 2) (Nat.le_of_ble_eq_true rfl)
  rw [lg_entry_eq]
  generalize (lg_sl ([.ref (Q.o 3), .ref x1]) ++ List.replicate (2 - (lg_sl ([.ref (Q.o 3), .ref x1])).length) Slot.unset).toArray = ls at hl ⊢
  have hl : lv_has ls 2 [(0, .ref (Q.o 3)), (1, .ref x1)] := hl
  unfold f_X7_endIf at hf
  refine W.widen (k := CS.hs σ - CS.hs σ) (n := 17 * (CS.hs σ - CS.hs σ)) (Nat.zero_le _) (Nat.zero_le _) ?_
  refine lv_aload_n hx hb dX7_endIf_0 rfl (lv_at hl 0 rfl) ?_
  refine lv_sipush (v := 204) hx hb dX7_endIf_1 (by decide) ?_
  obtain ⟨p1, hcp1, hf⟩ := hf_bind hf
  have hm2 : CS.hs σ ≤ CS.hs p1.2 := Mono.go hcp1 (m_X1_skip N σ 204)
  have hr9 : CS.hs p1.2 ≤ CS.hs R.2 := Mono.go hf (mono_ite (mono_ite (mono_bind (m_X0_aim N p1.2 (CS.o p1.2 x1 10)) (fun p23 => (mono_bind (m_X6_pop N (CS.setI p23.2 36 1)) (fun p27 => (mono_some (Nat.le_refl _)))))) mono_none) (mono_ite (mono_ite (mono_bind (m_X0_newTarget N (CS.setO (CS.setO (CS.setO p1.2 x1 0 204) x1 5 0) x1 6 (p1.2.i 36))) (fun p8 => (mono_ite (mono_bind (m_X0_add N (CS.setO p8.2 x1 9 p8.1) 30 (CS.o (CS.setO p8.2 x1 9 p8.1) x1 9)) (fun p13 => (mono_ite (mono_bind (m_X0_aim N p13.2 (CS.o p13.2 x1 10)) (fun p18 => (mono_some (Nat.le_refl _)))) mono_none))) mono_none))) mono_none) mono_none))
  have hFc := cFree hC hA
  refine va_calli (va_runU (As := [.int 204]) (rest := []) ⟨hx, hb, hml, hown, hts⟩ (c_X1_skip l dC dI Q N σ 204 p1 hcp1) (va_cwU 1 hts hX7_endIf_X1_skip_u205 rfl rfl rfl rfl (by decide +kernel) ⟨(show 4 + 1 ≤ 5 by omega), (show 8 + (3 + 11) + 60 * 4 ≤ 60 * 5 by omega)⟩) ⟨zPre.blind, va_recv hK hC.1 (ci := 6) (q0 := 3) rfl rfl, cPre_go hZ hK hC⟩ rfl rfl hl.1 rfl (lv_room (Nat.le_of_ble_eq_true rfl)) dX7_endIf_4 (cAcc h0 hm2 hr9)) hC.2.2.1 (fun q _ h => hFc q h) hFc (fun r3 u9 t9 H1 locs ht hvm hw hB hz1 hk1 hS => ?_)
  obtain ⟨⟨hP, hK1, hD1⟩, hsz1⟩ := hB
  rw [ht] at hP hsz1
  have hC : CP dC dI Q A s.heap p1.2 H1 locs := ⟨hP, hD1.weaken (fun _ _ _ h => hFc _ h), hS, hsz1⟩
  generalize H1 = H at hC ⊢
  have h4 : (CS.hs σ) ≤ CS.hs p1.2 := Nat.le_trans h0 hm2
  refine W.widen (k := CS.hs p1.2 - (CS.hs σ)) (n := 17 * (CS.hs p1.2 - (CS.hs σ))) (cAcc2 h0 hm2) (cAcc3 h0 hm2) ?_
  obtain rfl : r3 = p1.1 := hw
  refine lv_if_ne (tgt := 34) hx hb dX7_endIf_7 (by decide) (fun c5 => ?_) (fun c5 => ?_)
  ·
    replace hf := (if_neg c5).symm.trans hf
    refine lv_aload_n hx hb dX7_endIf_34 rfl (lv_at hl 1 rfl) ?_
    refine lv_sipush (v := 204) hx hb dX7_endIf_35 (by decide) ?_
    obtain ⟨b6, hf⟩ := hf_ite hf
    refine pPN_X5_0 (v := 204) hx hb hts i_X7_endIf_X5 hown hK hC (va_Nw.use rfl (hZ.1 (.fieldLinkNest RX7 107 "StatementRules2$Open" "sort" "I" "StatementRules2") (by decide +kernel))) (fun _ q9 => q9) dX7_endIf_38 b6 (fun H locs hC => ?_)
    refine lv_aload_n hx hb dX7_endIf_41 rfl (lv_at hl 1 rfl) ?_
    refine lv_iconst (v := 0) hx hb dX7_endIf_42 (by decide) ?_
    refine pPN_X5_5 (v := 0) hx hb hts i_X7_endIf_X5 hown hK hC (va_Nw.use rfl (hZ.1 (.fieldLinkNest RX7 130 "StatementRules2$Open" "begun" "Z" "StatementRules2") (by decide +kernel))) (fun _ q9 => q9) dX7_endIf_43 b6 (by decide) (fun H locs hC => ?_)
    refine lv_aload_n hx hb dX7_endIf_46 rfl (lv_at hl 1 rfl) ?_
    refine lv_aload_n hx hb dX7_endIf_47 rfl (lv_at hl 0 rfl) ?_
    refine cG_36 (v := (p1.2.i 36)) hx hb hts i_X7_endIf_X7 hown hK hC (hts (.fieldLink RX7 61 "StatementRules2$Statements" "alive" "Z") k_X7_endIf_fieldLink_RX7_61_SR_Statements_alive_Z) (fun _ q9 => q9) dX7_endIf_48 rfl ?_
    obtain ⟨b7, hf⟩ := hf_ite hf
    refine pPN_X5_6 (v := (p1.2.i 36)) hx hb hts i_X7_endIf_X5 hown hK hC (va_Nw.use rfl (hZ.1 (.fieldLinkNest RX7 359 "StatementRules2$Open" "ends" "Z" "StatementRules2") (by decide +kernel))) (fun _ q9 => q9) dX7_endIf_51 b6 b7 (fun H locs hC => ?_)
    refine lv_aload_n hx hb dX7_endIf_54 rfl (lv_at hl 1 rfl) ?_
    refine lv_aload_n hx hb dX7_endIf_55 rfl (lv_at hl 0 rfl) ?_
    refine cG_29 hx hb hts i_X7_endIf_X7 hown hK hC (hts (.fieldLink RX7 20 "StatementRules2$Statements" "code" "LStatementRules2$Code;") k_X7_endIf_fieldLink_RX7_20_SR_Statements_code_LSR_Code) (fun x9 q9 => u_same (hts (.sameField "StatementRules2$Statements" "StatementRules2$Formulas" "code" "LStatementRules2$Code;") k_X7_endIf_sameField_SR_Statements_SR_Formulas_code_LSR_Code) x9 q9) dX7_endIf_56 ?_
    obtain ⟨p8, hcp8, hf⟩ := hf_bind hf
    have hm9 : CS.hs p1.2 ≤ CS.hs p8.2 := Mono.go hcp8 (m_X0_newTarget N (CS.setO (CS.setO (CS.setO p1.2 x1 0 204) x1 5 0) x1 6 (p1.2.i 36)))
    have hr9 : CS.hs p8.2 ≤ CS.hs R.2 := Mono.go hf (mono_ite (mono_bind (m_X0_add N (CS.setO p8.2 x1 9 p8.1) 30 (CS.o (CS.setO p8.2 x1 9 p8.1) x1 9)) (fun p13 => (mono_ite (mono_bind (m_X0_aim N p13.2 (CS.o p13.2 x1 10)) (fun p18 => (mono_some (Nat.le_refl _)))) mono_none))) mono_none)
    have hFc := cFree hC hA
    refine va_calli (va_runV (As := []) (rest := [.ref x1]) ⟨hx, hb, hml, hown, hts⟩ (c_X0_newTarget l dC dI Q N (CS.setO (CS.setO (CS.setO p1.2 x1 0 204) x1 5 0) x1 6 (p1.2.i 36)) p8 hcp8) (cwV 0 hts hX7_endIf_X0_newTarget_v136 rfl rfl rfl (by decide +kernel) ⟨(show 2 + 1 ≤ 5 by omega), (show 8 + (1 + 11) + 60 * 2 ≤ 60 * 5 by omega)⟩) ⟨zPre.blind, va_recv hK hC.1 (ci := 0) (q0 := 2) rfl rfl, cPre_go hZ hK hC⟩ rfl rfl hl.1 rfl (lv_room (Nat.le_of_ble_eq_true rfl)) dX7_endIf_59 (cAcc h4 hm9 hr9)) hC.2.2.1 (fun q _ h => hFc q h) hFc (fun r10 u9 t9 H1 locs ht hvm hw hB hz1 hk1 hS => ?_)
    obtain ⟨⟨hP, hK1, hD1⟩, hsz1⟩ := hB
    rw [ht] at hP hsz1
    have hC : CP dC dI Q A s.heap p8.2 H1 locs := ⟨hP, hD1.weaken (fun _ _ _ h => hFc _ h), hS, hsz1⟩
    generalize H1 = H at hC ⊢
    have h11 : (CS.hs σ) ≤ CS.hs p8.2 := Nat.le_trans h4 hm9
    refine W.widen (k := CS.hs p8.2 - (CS.hs σ)) (n := 17 * (CS.hs p8.2 - (CS.hs σ))) (cAcc2 h4 hm9) (cAcc3 h4 hm9) ?_
    obtain rfl : r10 = p8.1 := hw
    obtain ⟨b12, hf⟩ := hf_ite hf
    refine pPN_X5_9 (v := p8.1) hx hb hts i_X7_endIf_X5 hown hK hC (va_Nw.use rfl (hZ.1 (.fieldLinkNest RX7 196 "StatementRules2$Open" "exit" "I" "StatementRules2") (by decide +kernel))) (fun _ q9 => q9) dX7_endIf_62 b12 (fun H locs hC => ?_)
    refine lv_aload_n hx hb dX7_endIf_65 rfl (lv_at hl 0 rfl) ?_
    refine cG_29 hx hb hts i_X7_endIf_X7 hown hK hC (hts (.fieldLink RX7 20 "StatementRules2$Statements" "code" "LStatementRules2$Code;") k_X7_endIf_fieldLink_RX7_20_SR_Statements_code_LSR_Code) (fun x9 q9 => u_same (hts (.sameField "StatementRules2$Statements" "StatementRules2$Formulas" "code" "LStatementRules2$Code;") k_X7_endIf_sameField_SR_Statements_SR_Formulas_code_LSR_Code) x9 q9) dX7_endIf_66 ?_
    refine lv_bipush (v := 30) hx hb dX7_endIf_69 (by decide) ?_
    refine lv_aload_n hx hb dX7_endIf_71 rfl (lv_at hl 1 rfl) ?_
    refine pGN_X5_9 (v := (CS.o (CS.setO p8.2 x1 9 p8.1) x1 9)) hx hb hts i_X7_endIf_X5 hown hK hC (va_Nw.use rfl (hZ.1 (.fieldLinkNest RX7 196 "StatementRules2$Open" "exit" "I" "StatementRules2") (by decide +kernel))) (fun _ q9 => q9) dX7_endIf_72 b12 rfl ?_
    obtain ⟨p13, hcp13, hf⟩ := hf_bind hf
    have hm14 : CS.hs p8.2 ≤ CS.hs p13.2 := Mono.go hcp13 (m_X0_add N (CS.setO p8.2 x1 9 p8.1) 30 (CS.o (CS.setO p8.2 x1 9 p8.1) x1 9))
    have hr9 : CS.hs p13.2 ≤ CS.hs R.2 := Mono.go hf (mono_ite (mono_bind (m_X0_aim N p13.2 (CS.o p13.2 x1 10)) (fun p18 => (mono_some (Nat.le_refl _)))) mono_none)
    have hFc := cFree hC hA
    refine va_callv (va_runV (As := [.int 30, .int (CS.o (CS.setO p8.2 x1 9 p8.1) x1 9)]) (rest := []) ⟨hx, hb, hml, hown, hts⟩ (c_X0_add l dC dI Q N (CS.setO p8.2 x1 9 p8.1) 30 (CS.o (CS.setO p8.2 x1 9 p8.1) x1 9) p13 hcp13) (cwV 2 hts hX7_endIf_X0_add_v176 rfl rfl rfl (by decide +kernel) ⟨(show 2 + 1 ≤ 5 by omega), (show 8 + (3 + 11) + 60 * 2 ≤ 60 * 5 by omega)⟩) ⟨zPre.blind, va_recv hK hC.1 (ci := 0) (q0 := 2) rfl rfl, cPre_go hZ hK hC⟩ rfl rfl hl.1 rfl (lv_room (Nat.le_of_ble_eq_true rfl)) dX7_endIf_75 (cAcc h11 hm14 hr9)) hC.2.2.1 (fun q _ h => hFc q h) hFc (fun u9 t9 H1 locs ht hvm hw hB hz1 hk1 hS => ?_)
    obtain ⟨⟨hP, hK1, hD1⟩, hsz1⟩ := hB
    rw [ht] at hP hsz1
    have hC : CP dC dI Q A s.heap p13.2 H1 locs := ⟨hP, hD1.weaken (fun _ _ _ h => hFc _ h), hS, hsz1⟩
    generalize H1 = H at hC ⊢
    have h16 : (CS.hs σ) ≤ CS.hs p13.2 := Nat.le_trans h11 hm14
    refine W.widen (k := CS.hs p13.2 - (CS.hs σ)) (n := 17 * (CS.hs p13.2 - (CS.hs σ))) (cAcc2 h11 hm14) (cAcc3 h11 hm14) ?_
    refine lv_aload_n hx hb dX7_endIf_78 rfl (lv_at hl 0 rfl) ?_
    refine cG_29 hx hb hts i_X7_endIf_X7 hown hK hC (hts (.fieldLink RX7 20 "StatementRules2$Statements" "code" "LStatementRules2$Code;") k_X7_endIf_fieldLink_RX7_20_SR_Statements_code_LSR_Code) (fun x9 q9 => u_same (hts (.sameField "StatementRules2$Statements" "StatementRules2$Formulas" "code" "LStatementRules2$Code;") k_X7_endIf_sameField_SR_Statements_SR_Formulas_code_LSR_Code) x9 q9) dX7_endIf_79 ?_
    refine lv_aload_n hx hb dX7_endIf_82 rfl (lv_at hl 1 rfl) ?_
    obtain ⟨b17, hf⟩ := hf_ite hf
    refine pGN_X5_10 (v := (CS.o p13.2 x1 10)) hx hb hts i_X7_endIf_X5 hown hK hC (va_Nw.use rfl (hZ.1 (.fieldLinkNest RX7 284 "StatementRules2$Open" "next" "I" "StatementRules2") (by decide +kernel))) (fun _ q9 => q9) dX7_endIf_83 b17 rfl ?_
    obtain ⟨p18, hcp18, hf⟩ := hf_bind hf
    have hm19 : CS.hs p13.2 ≤ CS.hs p18.2 := Mono.go hcp18 (m_X0_aim N p13.2 (CS.o p13.2 x1 10))
    have hr9 : CS.hs p18.2 ≤ CS.hs R.2 := Mono.go hf (mono_some (Nat.le_refl _))
    have hFc := cFree hC hA
    refine va_callv (va_runV (As := [.int (CS.o p13.2 x1 10)]) (rest := []) ⟨hx, hb, hml, hown, hts⟩ (c_X0_aim l dC dI Q N p13.2 (CS.o p13.2 x1 10) p18 hcp18) (cwV 1 hts hX7_endIf_X0_aim_v158 rfl rfl rfl (by decide +kernel) ⟨(show 2 + 1 ≤ 5 by omega), (show 8 + (2 + 11) + 60 * 2 ≤ 60 * 5 by omega)⟩) ⟨zPre.blind, va_recv hK hC.1 (ci := 0) (q0 := 2) rfl rfl, cPre_go hZ hK hC⟩ rfl rfl hl.1 rfl (lv_room (Nat.le_of_ble_eq_true rfl)) dX7_endIf_86 (cAcc h16 hm19 hr9)) hC.2.2.1 (fun q _ h => hFc q h) hFc (fun u9 t9 H1 locs ht hvm hw hB hz1 hk1 hS => ?_)
    obtain ⟨⟨hP, hK1, hD1⟩, hsz1⟩ := hB
    rw [ht] at hP hsz1
    have hC : CP dC dI Q A s.heap p18.2 H1 locs := ⟨hP, hD1.weaken (fun _ _ _ h => hFc _ h), hS, hsz1⟩
    generalize H1 = H at hC ⊢
    have h21 : (CS.hs σ) ≤ CS.hs p18.2 := Nat.le_trans h16 hm19
    refine W.widen (k := CS.hs p18.2 - (CS.hs σ)) (n := 17 * (CS.hs p18.2 - (CS.hs σ))) (cAcc2 h16 hm19) (cAcc3 h16 hm19) ?_
    refine lv_aload_n hx hb dX7_endIf_89 rfl (lv_at hl 0 rfl) ?_
    refine lv_iconst (v := 1) hx hb dX7_endIf_90 (by decide) ?_
    refine cP_36 (v := 1) hx hb hts i_X7_endIf_X7 hown hK hC (hts (.fieldLink RX7 61 "StatementRules2$Statements" "alive" "Z") k_X7_endIf_fieldLink_RX7_61_SR_Statements_alive_Z) (fun _ q9 => q9) dX7_endIf_91 (by decide) (fun H locs hC => ?_)
    obtain rfl := Option.some.inj hf
    exact W.vret hx hb hr (fun t ht hW => ⟨⟨(), rfl, trivial, ⟨by rw [ht]; exact hC.1, va_K.moved hW.alike hK, hC.2.1⟩, by rw [ht]; exact hC.2.2.2⟩, hC.2.2.1.F ht⟩) hC.2.2.1.2.2 dX7_endIf_94
  ·
    replace hf := (if_pos c5).symm.trans hf
    refine lv_aload_n hx hb dX7_endIf_10 rfl (lv_at hl 0 rfl) ?_
    refine cG_29 hx hb hts i_X7_endIf_X7 hown hK hC (hts (.fieldLink RX7 20 "StatementRules2$Statements" "code" "LStatementRules2$Code;") k_X7_endIf_fieldLink_RX7_20_SR_Statements_code_LSR_Code) (fun x9 q9 => u_same (hts (.sameField "StatementRules2$Statements" "StatementRules2$Formulas" "code" "LStatementRules2$Code;") k_X7_endIf_sameField_SR_Statements_SR_Formulas_code_LSR_Code) x9 q9) dX7_endIf_11 ?_
    refine lv_aload_n hx hb dX7_endIf_14 rfl (lv_at hl 1 rfl) ?_
    obtain ⟨b22, hf⟩ := hf_ite hf
    refine pGN_X5_10 (v := (CS.o p1.2 x1 10)) hx hb hts i_X7_endIf_X5 hown hK hC (va_Nw.use rfl (hZ.1 (.fieldLinkNest RX7 284 "StatementRules2$Open" "next" "I" "StatementRules2") (by decide +kernel))) (fun _ q9 => q9) dX7_endIf_15 b22 rfl ?_
    obtain ⟨p23, hcp23, hf⟩ := hf_bind hf
    have hm24 : CS.hs p1.2 ≤ CS.hs p23.2 := Mono.go hcp23 (m_X0_aim N p1.2 (CS.o p1.2 x1 10))
    have hr9 : CS.hs p23.2 ≤ CS.hs R.2 := Mono.go hf (mono_bind (m_X6_pop N (CS.setI p23.2 36 1)) (fun p27 => (mono_some (Nat.le_refl _))))
    have hFc := cFree hC hA
    refine va_callv (va_runV (As := [.int (CS.o p1.2 x1 10)]) (rest := []) ⟨hx, hb, hml, hown, hts⟩ (c_X0_aim l dC dI Q N p1.2 (CS.o p1.2 x1 10) p23 hcp23) (cwV 1 hts hX7_endIf_X0_aim_v158 rfl rfl rfl (by decide +kernel) ⟨(show 2 + 1 ≤ 5 by omega), (show 8 + (2 + 11) + 60 * 2 ≤ 60 * 5 by omega)⟩) ⟨zPre.blind, va_recv hK hC.1 (ci := 0) (q0 := 2) rfl rfl, cPre_go hZ hK hC⟩ rfl rfl hl.1 rfl (lv_room (Nat.le_of_ble_eq_true rfl)) dX7_endIf_18 (cAcc h4 hm24 hr9)) hC.2.2.1 (fun q _ h => hFc q h) hFc (fun u9 t9 H1 locs ht hvm hw hB hz1 hk1 hS => ?_)
    obtain ⟨⟨hP, hK1, hD1⟩, hsz1⟩ := hB
    rw [ht] at hP hsz1
    have hC : CP dC dI Q A s.heap p23.2 H1 locs := ⟨hP, hD1.weaken (fun _ _ _ h => hFc _ h), hS, hsz1⟩
    generalize H1 = H at hC ⊢
    have h26 : (CS.hs σ) ≤ CS.hs p23.2 := Nat.le_trans h4 hm24
    refine W.widen (k := CS.hs p23.2 - (CS.hs σ)) (n := 17 * (CS.hs p23.2 - (CS.hs σ))) (cAcc2 h4 hm24) (cAcc3 h4 hm24) ?_
    refine lv_aload_n hx hb dX7_endIf_21 rfl (lv_at hl 0 rfl) ?_
    refine lv_iconst (v := 1) hx hb dX7_endIf_22 (by decide) ?_
    refine cP_36 (v := 1) hx hb hts i_X7_endIf_X7 hown hK hC (hts (.fieldLink RX7 61 "StatementRules2$Statements" "alive" "Z") k_X7_endIf_fieldLink_RX7_61_SR_Statements_alive_Z) (fun _ q9 => q9) dX7_endIf_23 (by decide) (fun H locs hC => ?_)
    refine lv_aload_n hx hb dX7_endIf_26 rfl (lv_at hl 0 rfl) ?_
    refine cG_35 hx hb hts i_X7_endIf_X7 hown hK hC (hts (.fieldLink RX7 14 "StatementRules2$Statements" "opens" "LStatementRules2$Opens;") k_X7_endIf_fieldLink_RX7_14_SR_Statements_opens_LSR_Opens) (fun _ q9 => q9) dX7_endIf_27 ?_
    obtain ⟨p27, hcp27, hf⟩ := hf_bind hf
    have hm28 : CS.hs p23.2 ≤ CS.hs p27.2 := Mono.go hcp27 (m_X6_pop N (CS.setI p23.2 36 1))
    have hr9 : CS.hs p27.2 ≤ CS.hs R.2 := Mono.go hf (mono_some (Nat.le_refl _))
    have hFc := cFree hC hA
    refine va_callv (va_runV (As := []) (rest := []) ⟨hx, hb, hml, hown, hts⟩ (c_X6_pop l dC dI Q N (CS.setI p23.2 36 1) p27 hcp27) (cwV 0 hts hX7_endIf_X6_pop_v369 rfl rfl rfl (by decide +kernel) ⟨(show 1 + 1 ≤ 5 by omega), (show 8 + (1 + 11) + 60 * 1 ≤ 60 * 5 by omega)⟩) ⟨zPre.blind, va_recv hK hC.1 (ci := 5) (q0 := 6) rfl rfl, cPre_go hZ hK hC⟩ rfl rfl hl.1 rfl (lv_room (Nat.le_of_ble_eq_true rfl)) dX7_endIf_30 (cAcc h26 hm28 hr9)) hC.2.2.1 (fun q _ h => hFc q h) hFc (fun u9 t9 H1 locs ht hvm hw hB hz1 hk1 hS => ?_)
    obtain ⟨⟨hP, hK1, hD1⟩, hsz1⟩ := hB
    rw [ht] at hP hsz1
    have hC : CP dC dI Q A s.heap p27.2 H1 locs := ⟨hP, hD1.weaken (fun _ _ _ h => hFc _ h), hS, hsz1⟩
    generalize H1 = H at hC ⊢
    have h30 : (CS.hs σ) ≤ CS.hs p27.2 := Nat.le_trans h26 hm28
    refine W.widen (k := CS.hs p27.2 - (CS.hs σ)) (n := 17 * (CS.hs p27.2 - (CS.hs σ))) (cAcc2 h26 hm28) (cAcc3 h26 hm28) ?_
    obtain rfl := Option.some.inj hf
    exact W.vret hx hb hr (fun t ht hW => ⟨⟨(), rfl, trivial, ⟨by rw [ht]; exact hC.1, va_K.moved hW.alike hK, hC.2.1⟩, by rw [ht]; exact hC.2.2.2⟩, hC.2.2.1.F ht⟩) hC.2.2.1.2.2 dX7_endIf_33
theorem i_X7_endLock_X5 : ∀ w ∈ wsX50, w ∈ wzX7_endLock := fun _ h => List.mem_cons_of_mem _ (List.mem_append_right _ (List.mem_append_left _ (h)))
theorem k_X7_endLock_fieldLink_RX7_20_SR_Statements_code_LSR_Code : Cond.fieldLink RX7 20 "StatementRules2$Statements" "code" "LStatementRules2$Code;" ∈ wzX7_endLock := List.mem_cons_of_mem _ (List.mem_append_left _ (List.mem_of_getElem? (i := 0) rfl))
theorem k_X7_endLock_sameField_SR_Statements_SR_Formulas_code_LSR_Code : Cond.sameField "StatementRules2$Statements" "StatementRules2$Formulas" "code" "LStatementRules2$Code;" ∈ wzX7_endLock := List.mem_cons_of_mem _ (List.mem_append_left _ (List.mem_of_getElem? (i := 1) rfl))
theorem i_X7_endLock_X7 : ∀ w ∈ wsX70, w ∈ wzX7_endLock := fun _ h => List.mem_cons_of_mem _ (List.mem_append_right _ (List.mem_append_right _ (List.mem_append_left _ (h))))
theorem k_X7_endLock_fieldLink_RX7_68_SR_Statements_depth_I : Cond.fieldLink RX7 68 "StatementRules2$Statements" "depth" "I" ∈ wzX7_endLock := List.mem_cons_of_mem _ (List.mem_append_left _ (List.mem_of_getElem? (i := 2) rfl))
theorem k_X7_endLock_fieldLink_RX7_14_SR_Statements_opens_LSR_Opens : Cond.fieldLink RX7 14 "StatementRules2$Statements" "opens" "LStatementRules2$Opens;" ∈ wzX7_endLock := List.mem_cons_of_mem _ (List.mem_append_left _ (List.mem_of_getElem? (i := 3) rfl))
set_option maxHeartbeats 4000000 in
set_option maxRecDepth 100000 in
theorem c_X7_endLock (l : Launch) (dC : Nat → ClassId) (dI : Nat → Nat → Nat) (Q : CQ) (N : Nat) (σ : CS) (x1 : Nat) (R : Unit × CS) (hf : f_X7_endLock N σ x1 = some R) : Met l yX7_endLock wzX7_endLock ({ frames := 4, cells := CS.hs R.2 - CS.hs σ, slots := 17 * (CS.hs R.2 - CS.hs σ), locals := 60 * 4 }) (va_Pc [.ref (Q.o 3), .ref x1] (zPre dC dI (CS.hs σ) (cW Q σ) (cT Q))) (va_Qv (fun (_ : Unit) => True) (fun (_ : Unit) (t : State) => zPost dC dI (va_A (cW Q σ) (CS.hs σ)) (cW Q R.2) (cT Q) t ∧ t.heap.size = CS.hs R.2) (va_A (cW Q σ) (CS.hs σ))) (CS.hs R.2 - CS.hs σ) (17 * (CS.hs R.2 - CS.hs σ)) (va_A (cW Q σ) (CS.hs σ)) := by
  refine Met.ofW (cc := cX7_endLock) (maxL := 2) (ret := none) (by decide) rfl ?_
  intro p e s m args below meth c s₁ B hml hv
  obtain ⟨rfl, hsz, hZ, hP, hK, hD0⟩ := hv
  have hx := B.exec
  have hb := B.bytes
  have hr := B.returns
  have hts := atoms_spec (ws := wzX7_endLock) B.pre
  have hown : s.vm.findClass RX7 = some m.cls := findClass_of_methodNamed B.named
  have hlocks := B.notSynchronized
  have hD := hD0.self (sz := CS.hs σ)
  generalize hAe : va_A (cW Q σ) (CS.hs σ) = A at hD ⊢
  have hA : ∀ q : Nat, s.heap.size ≤ q → A q := fun q h => by rw [← hAe]; exact Or.inr (hsz ▸ h)
  have hC : CP dC dI Q A s.heap σ s.heap [] := ⟨hP, hD, va_S.rf, hsz⟩
  have h0 : CS.hs σ ≤ CS.hs σ := Nat.le_refl _
  have hl := lv_entry ([.ref (Q.o 3), .ref x1]) (n := 2) (Nat.le_of_ble_eq_true rfl)
  rw [lg_entry_eq]
  generalize (lg_sl ([.ref (Q.o 3), .ref x1]) ++ List.replicate (2 - (lg_sl ([.ref (Q.o 3), .ref x1])).length) Slot.unset).toArray = ls at hl ⊢
  have hl : lv_has ls 2 [(0, .ref (Q.o 3)), (1, .ref x1)] := hl
  unfold f_X7_endLock at hf
  refine W.widen (k := CS.hs σ - CS.hs σ) (n := 17 * (CS.hs σ - CS.hs σ)) (Nat.zero_le _) (Nat.zero_le _) ?_
  refine lv_aload_n hx hb dX7_endLock_0 rfl (lv_at hl 0 rfl) ?_
  refine lv_aload_n hx hb dX7_endLock_1 rfl (lv_at hl 1 rfl) ?_
  obtain ⟨b1, hf⟩ := hf_ite hf
  refine pGN_X5_9 (v := (CS.o σ x1 9)) hx hb hts i_X7_endLock_X5 hown hK hC (va_Nw.use rfl (hZ.1 (.fieldLinkNest RX7 196 "StatementRules2$Open" "exit" "I" "StatementRules2") (by decide +kernel))) (fun _ q9 => q9) dX7_endLock_2 b1 rfl ?_
  refine lv_aload_n hx hb dX7_endLock_5 rfl (lv_at hl 1 rfl) ?_
  refine pGN_X5_2 (v := (CS.o σ x1 2)) hx hb hts i_X7_endLock_X5 hown hK hC (va_Nw.use rfl (hZ.1 (.fieldLinkNest RX7 287 "StatementRules2$Open" "depth" "I" "StatementRules2") (by decide +kernel))) (fun _ q9 => q9) dX7_endLock_6 b1 rfl ?_
  obtain ⟨p2, hcp2, hf⟩ := hf_bind hf
  have hm3 : CS.hs σ ≤ CS.hs p2.2 := Mono.go hcp2 (m_X7_leave N σ (CS.o σ x1 9) (CS.o σ x1 2))
  have hr9 : CS.hs p2.2 ≤ CS.hs R.2 := Mono.go hf (mono_ite (mono_bind (m_X0_aim N p2.2 (CS.o p2.2 x1 9)) (fun p7 => (mono_bind (m_X6_pop N (CS.setI p7.2 38 ((p7.2.i 38) - 1))) (fun p11 => (mono_some (Nat.le_refl _)))))) mono_none)
  have hFc := cFree hC hA
  refine va_callv (va_runV (As := [.int (CS.o σ x1 9), .int (CS.o σ x1 2)]) (rest := []) ⟨hx, hb, hml, hown, hts⟩ (c_X7_leave l dC dI Q N σ (CS.o σ x1 9) (CS.o σ x1 2) p2 hcp2) (cwV 2 hts hX7_endLock_X7_leave_v288 rfl rfl rfl (by decide +kernel) ⟨(show 3 + 1 ≤ 4 by omega), (show 8 + (3 + 11) + 60 * 3 ≤ 60 * 4 by omega)⟩) ⟨zPre.blind, va_recv hK hC.1 (ci := 6) (q0 := 3) rfl rfl, cPre_go hZ hK hC⟩ rfl rfl hl.1 rfl (lv_room (Nat.le_of_ble_eq_true rfl)) dX7_endLock_9 (cAcc h0 hm3 hr9)) hC.2.2.1 (fun q _ h => hFc q h) hFc (fun u9 t9 H1 locs ht hvm hw hB hz1 hk1 hS => ?_)
  obtain ⟨⟨hP, hK1, hD1⟩, hsz1⟩ := hB
  rw [ht] at hP hsz1
  have hC : CP dC dI Q A s.heap p2.2 H1 locs := ⟨hP, hD1.weaken (fun _ _ _ h => hFc _ h), hS, hsz1⟩
  generalize H1 = H at hC ⊢
  have h5 : (CS.hs σ) ≤ CS.hs p2.2 := Nat.le_trans h0 hm3
  refine W.widen (k := CS.hs p2.2 - (CS.hs σ)) (n := 17 * (CS.hs p2.2 - (CS.hs σ))) (cAcc2 h0 hm3) (cAcc3 h0 hm3) ?_
  refine lv_aload_n hx hb dX7_endLock_12 rfl (lv_at hl 0 rfl) ?_
  refine cG_29 hx hb hts i_X7_endLock_X7 hown hK hC (hts (.fieldLink RX7 20 "StatementRules2$Statements" "code" "LStatementRules2$Code;") k_X7_endLock_fieldLink_RX7_20_SR_Statements_code_LSR_Code) (fun x9 q9 => u_same (hts (.sameField "StatementRules2$Statements" "StatementRules2$Formulas" "code" "LStatementRules2$Code;") k_X7_endLock_sameField_SR_Statements_SR_Formulas_code_LSR_Code) x9 q9) dX7_endLock_13 ?_
  refine lv_aload_n hx hb dX7_endLock_16 rfl (lv_at hl 1 rfl) ?_
  obtain ⟨b6, hf⟩ := hf_ite hf
  refine pGN_X5_9 (v := (CS.o p2.2 x1 9)) hx hb hts i_X7_endLock_X5 hown hK hC (va_Nw.use rfl (hZ.1 (.fieldLinkNest RX7 196 "StatementRules2$Open" "exit" "I" "StatementRules2") (by decide +kernel))) (fun _ q9 => q9) dX7_endLock_17 b6 rfl ?_
  obtain ⟨p7, hcp7, hf⟩ := hf_bind hf
  have hm8 : CS.hs p2.2 ≤ CS.hs p7.2 := Mono.go hcp7 (m_X0_aim N p2.2 (CS.o p2.2 x1 9))
  have hr9 : CS.hs p7.2 ≤ CS.hs R.2 := Mono.go hf (mono_bind (m_X6_pop N (CS.setI p7.2 38 ((p7.2.i 38) - 1))) (fun p11 => (mono_some (Nat.le_refl _))))
  have hFc := cFree hC hA
  refine va_callv (va_runV (As := [.int (CS.o p2.2 x1 9)]) (rest := []) ⟨hx, hb, hml, hown, hts⟩ (c_X0_aim l dC dI Q N p2.2 (CS.o p2.2 x1 9) p7 hcp7) (cwV 1 hts hX7_endLock_X0_aim_v158 rfl rfl rfl (by decide +kernel) ⟨(show 2 + 1 ≤ 4 by omega), (show 8 + (2 + 11) + 60 * 2 ≤ 60 * 4 by omega)⟩) ⟨zPre.blind, va_recv hK hC.1 (ci := 0) (q0 := 2) rfl rfl, cPre_go hZ hK hC⟩ rfl rfl hl.1 rfl (lv_room (Nat.le_of_ble_eq_true rfl)) dX7_endLock_20 (cAcc h5 hm8 hr9)) hC.2.2.1 (fun q _ h => hFc q h) hFc (fun u9 t9 H1 locs ht hvm hw hB hz1 hk1 hS => ?_)
  obtain ⟨⟨hP, hK1, hD1⟩, hsz1⟩ := hB
  rw [ht] at hP hsz1
  have hC : CP dC dI Q A s.heap p7.2 H1 locs := ⟨hP, hD1.weaken (fun _ _ _ h => hFc _ h), hS, hsz1⟩
  generalize H1 = H at hC ⊢
  have h10 : (CS.hs σ) ≤ CS.hs p7.2 := Nat.le_trans h5 hm8
  refine W.widen (k := CS.hs p7.2 - (CS.hs σ)) (n := 17 * (CS.hs p7.2 - (CS.hs σ))) (cAcc2 h5 hm8) (cAcc3 h5 hm8) ?_
  refine lv_aload_n hx hb dX7_endLock_23 rfl (lv_at hl 0 rfl) ?_
  refine lv_dup hx hb dX7_endLock_24 rfl ?_
  refine cG_38 (v := (p7.2.i 38)) hx hb hts i_X7_endLock_X7 hown hK hC (hts (.fieldLink RX7 68 "StatementRules2$Statements" "depth" "I") k_X7_endLock_fieldLink_RX7_68_SR_Statements_depth_I) (fun _ q9 => q9) dX7_endLock_25 rfl ?_
  refine lv_iconst (v := 1) hx hb dX7_endLock_28 (by decide) ?_
  refine lv_isub hx hb dX7_endLock_29 ?_
  refine cP_38 (v := ((p7.2.i 38) - 1)) hx hb hts i_X7_endLock_X7 hown hK hC (hts (.fieldLink RX7 68 "StatementRules2$Statements" "depth" "I") k_X7_endLock_fieldLink_RX7_68_SR_Statements_depth_I) (fun _ q9 => q9) dX7_endLock_30 (fun H locs hC => ?_)
  refine lv_aload_n hx hb dX7_endLock_33 rfl (lv_at hl 0 rfl) ?_
  refine cG_35 hx hb hts i_X7_endLock_X7 hown hK hC (hts (.fieldLink RX7 14 "StatementRules2$Statements" "opens" "LStatementRules2$Opens;") k_X7_endLock_fieldLink_RX7_14_SR_Statements_opens_LSR_Opens) (fun _ q9 => q9) dX7_endLock_34 ?_
  obtain ⟨p11, hcp11, hf⟩ := hf_bind hf
  have hm12 : CS.hs p7.2 ≤ CS.hs p11.2 := Mono.go hcp11 (m_X6_pop N (CS.setI p7.2 38 ((p7.2.i 38) - 1)))
  have hr9 : CS.hs p11.2 ≤ CS.hs R.2 := Mono.go hf (mono_some (Nat.le_refl _))
  have hFc := cFree hC hA
  refine va_callv (va_runV (As := []) (rest := []) ⟨hx, hb, hml, hown, hts⟩ (c_X6_pop l dC dI Q N (CS.setI p7.2 38 ((p7.2.i 38) - 1)) p11 hcp11) (cwV 0 hts hX7_endLock_X6_pop_v369 rfl rfl rfl (by decide +kernel) ⟨(show 1 + 1 ≤ 4 by omega), (show 8 + (1 + 11) + 60 * 1 ≤ 60 * 4 by omega)⟩) ⟨zPre.blind, va_recv hK hC.1 (ci := 5) (q0 := 6) rfl rfl, cPre_go hZ hK hC⟩ rfl rfl hl.1 rfl (lv_room (Nat.le_of_ble_eq_true rfl)) dX7_endLock_37 (cAcc h10 hm12 hr9)) hC.2.2.1 (fun q _ h => hFc q h) hFc (fun u9 t9 H1 locs ht hvm hw hB hz1 hk1 hS => ?_)
  obtain ⟨⟨hP, hK1, hD1⟩, hsz1⟩ := hB
  rw [ht] at hP hsz1
  have hC : CP dC dI Q A s.heap p11.2 H1 locs := ⟨hP, hD1.weaken (fun _ _ _ h => hFc _ h), hS, hsz1⟩
  generalize H1 = H at hC ⊢
  have h14 : (CS.hs σ) ≤ CS.hs p11.2 := Nat.le_trans h10 hm12
  refine W.widen (k := CS.hs p11.2 - (CS.hs σ)) (n := 17 * (CS.hs p11.2 - (CS.hs σ))) (cAcc2 h10 hm12) (cAcc3 h10 hm12) ?_
  obtain rfl := Option.some.inj hf
  exact W.vret hx hb hr (fun t ht hW => ⟨⟨(), rfl, trivial, ⟨by rw [ht]; exact hC.1, va_K.moved hW.alike hK, hC.2.1⟩, by rw [ht]; exact hC.2.2.2⟩, hC.2.2.1.F ht⟩) hC.2.2.1.2.2 dX7_endLock_40
theorem k_X7_endSwitch_fieldLink_RX7_20_SR_Statements_code_LSR_Code : Cond.fieldLink RX7 20 "StatementRules2$Statements" "code" "LStatementRules2$Code;" ∈ wzX7_endSwitch := List.mem_cons_of_mem _ (List.mem_append_left _ (List.mem_of_getElem? (i := 0) rfl))
theorem k_X7_endSwitch_sameField_SR_Statements_SR_Formulas_code_LSR_Code : Cond.sameField "StatementRules2$Statements" "StatementRules2$Formulas" "code" "LStatementRules2$Code;" ∈ wzX7_endSwitch := List.mem_cons_of_mem _ (List.mem_append_left _ (List.mem_of_getElem? (i := 1) rfl))
theorem i_X7_endSwitch_X7 : ∀ w ∈ wsX70, w ∈ wzX7_endSwitch := fun _ h => List.mem_cons_of_mem _ (List.mem_append_right _ (List.mem_append_left _ (h)))
theorem i_X7_endSwitch_X5 : ∀ w ∈ wsX50, w ∈ wzX7_endSwitch := fun _ h => List.mem_cons_of_mem _ (List.mem_append_right _ (List.mem_append_right _ (List.mem_append_left _ (h))))
theorem k_X7_endSwitch_fieldLink_RX7_61_SR_Statements_alive_Z : Cond.fieldLink RX7 61 "StatementRules2$Statements" "alive" "Z" ∈ wzX7_endSwitch := List.mem_cons_of_mem _ (List.mem_append_left _ (List.mem_of_getElem? (i := 2) rfl))
theorem k_X7_endSwitch_fieldLink_RX7_14_SR_Statements_opens_LSR_Opens : Cond.fieldLink RX7 14 "StatementRules2$Statements" "opens" "LStatementRules2$Opens;" ∈ wzX7_endSwitch := List.mem_cons_of_mem _ (List.mem_append_left _ (List.mem_of_getElem? (i := 3) rfl))
set_option maxHeartbeats 4000000 in
set_option maxRecDepth 100000 in
theorem j_X7_endSwitch_99 {p : Program} {e : Env} {s : State} {m : MethodId} {args : Array Value} {below : List Frame} {meth : Method} {c : Code} {A : Nat → Prop} (l : Launch) (dC : Nat → ClassId) (dI : Nat → Nat → Nat) (Q : CQ) (N : Nat) (z9h : Nat) (R : Unit × CS) (hx : p.tables.exec = Jvm.exec) (hb : c.code = cX7_endSwitch) (hr : meth.sig.returnType = none) (hml : c.maxLocals = 2) (hown : s.vm.findClass RX7 = some m.cls) (hts : ∀ w ∈ wzX7_endSwitch, w.before args s = true) (hlocks : meth.locks = false) (hZ : zAMB s) (hA : ∀ q : Nat, s.heap.size ≤ q → A q) (hK : va_K (dC, dI) vwCl (cT Q) s) : ∀ (σ : CS) (H : Heap) (locs : List Loc) (ls : Array Slot), f_X7_endSwitch_99 N σ = some R → z9h ≤ CS.hs σ → CP dC dI Q A s.heap σ H locs → lv_has ls 2 [(0, .ref (Q.o 3))] → W p l e ({ frames := 4, cells := CS.hs R.2 - z9h, slots := 17 * (CS.hs R.2 - z9h), locals := 60 * 4 }) s m args below meth c H locs (CS.hs σ - z9h) (17 * (CS.hs σ - z9h)) (MQ below (va_Qv (fun (_ : Unit) => True) (fun (_ : Unit) (t : State) => zPost dC dI A (cW Q R.2) (cT Q) t ∧ t.heap.size = CS.hs R.2) A) args s (CS.hs R.2 - z9h) (17 * (CS.hs R.2 - z9h)) A) (F0 m 99 ls []) := by
  intro σ  H locs ls hf h0 hC hl
  unfold f_X7_endSwitch_99 at hf
  refine lv_aload_n hx hb dX7_endSwitch_99 rfl (lv_at hl 0 rfl) ?_
  refine cG_35 hx hb hts i_X7_endSwitch_X7 hown hK hC (hts (.fieldLink RX7 14 "StatementRules2$Statements" "opens" "LStatementRules2$Opens;") k_X7_endSwitch_fieldLink_RX7_14_SR_Statements_opens_LSR_Opens) (fun _ q9 => q9) dX7_endSwitch_100 ?_
  obtain ⟨p23, hcp23, hf⟩ := hf_bind hf
  have hm24 : CS.hs σ ≤ CS.hs p23.2 := Mono.go hcp23 (m_X6_pop N σ)
  have hr9 : CS.hs p23.2 ≤ CS.hs R.2 := Mono.go hf (mono_some (Nat.le_refl _))
  have hFc := cFree hC hA
  refine va_callv (va_runV (As := []) (rest := []) ⟨hx, hb, hml, hown, hts⟩ (c_X6_pop l dC dI Q N σ p23 hcp23) (cwV 0 hts hX7_endSwitch_X6_pop_v369 rfl rfl rfl (by decide +kernel) ⟨(show 1 + 1 ≤ 4 by omega), (show 8 + (1 + 11) + 60 * 1 ≤ 60 * 4 by omega)⟩) ⟨zPre.blind, va_recv hK hC.1 (ci := 5) (q0 := 6) rfl rfl, cPre_go hZ hK hC⟩ rfl rfl hl.1 rfl (lv_room (Nat.le_of_ble_eq_true rfl)) dX7_endSwitch_103 (cAcc h0 hm24 hr9)) hC.2.2.1 (fun q _ h => hFc q h) hFc (fun u9 t9 H1 locs ht hvm hw hB hz1 hk1 hS => ?_)
  obtain ⟨⟨hP, hK1, hD1⟩, hsz1⟩ := hB
  rw [ht] at hP hsz1
  have hC : CP dC dI Q A s.heap p23.2 H1 locs := ⟨hP, hD1.weaken (fun _ _ _ h => hFc _ h), hS, hsz1⟩
  generalize H1 = H at hC ⊢
  have h26 : z9h ≤ CS.hs p23.2 := Nat.le_trans h0 hm24
  refine W.widen (k := CS.hs p23.2 - z9h) (n := 17 * (CS.hs p23.2 - z9h)) (cAcc2 h0 hm24) (cAcc3 h0 hm24) ?_
  obtain rfl := Option.some.inj hf
  exact W.vret hx hb hr (fun t ht hW => ⟨⟨(), rfl, trivial, ⟨by rw [ht]; exact hC.1, va_K.moved hW.alike hK, hC.2.1⟩, by rw [ht]; exact hC.2.2.2⟩, hC.2.2.1.F ht⟩) hC.2.2.1.2.2 dX7_endSwitch_106
set_option maxHeartbeats 4000000 in
set_option maxRecDepth 100000 in
theorem j_X7_endSwitch_53 {p : Program} {e : Env} {s : State} {m : MethodId} {args : Array Value} {below : List Frame} {meth : Method} {c : Code} {A : Nat → Prop} (l : Launch) (dC : Nat → ClassId) (dI : Nat → Nat → Nat) (Q : CQ) (N : Nat) (z9h : Nat) (R : Unit × CS) (hx : p.tables.exec = Jvm.exec) (hb : c.code = cX7_endSwitch) (hr : meth.sig.returnType = none) (hml : c.maxLocals = 2) (hown : s.vm.findClass RX7 = some m.cls) (hts : ∀ w ∈ wzX7_endSwitch, w.before args s = true) (hlocks : meth.locks = false) (hZ : zAMB s) (hA : ∀ q : Nat, s.heap.size ≤ q → A q) (hK : va_K (dC, dI) vwCl (cT Q) s) : ∀ (σ : CS) (x1 : Nat) (H : Heap) (locs : List Loc) (ls : Array Slot), f_X7_endSwitch_53 N σ x1 = some R → z9h ≤ CS.hs σ → CP dC dI Q A s.heap σ H locs → lv_has ls 2 [(0, .ref (Q.o 3)), (1, .ref x1)] → W p l e ({ frames := 4, cells := CS.hs R.2 - z9h, slots := 17 * (CS.hs R.2 - z9h), locals := 60 * 4 }) s m args below meth c H locs (CS.hs σ - z9h) (17 * (CS.hs σ - z9h)) (MQ below (va_Qv (fun (_ : Unit) => True) (fun (_ : Unit) (t : State) => zPost dC dI A (cW Q R.2) (cT Q) t ∧ t.heap.size = CS.hs R.2) A) args s (CS.hs R.2 - z9h) (17 * (CS.hs R.2 - z9h)) A) (F0 m 53 ls []) := by
  intro σ x1 H locs ls hf h0 hC hl
  unfold f_X7_endSwitch_53 at hf
  refine lv_aload_n hx hb dX7_endSwitch_53 rfl (lv_at hl 0 rfl) ?_
  refine cG_29 hx hb hts i_X7_endSwitch_X7 hown hK hC (hts (.fieldLink RX7 20 "StatementRules2$Statements" "code" "LStatementRules2$Code;") k_X7_endSwitch_fieldLink_RX7_20_SR_Statements_code_LSR_Code) (fun x9 q9 => u_same (hts (.sameField "StatementRules2$Statements" "StatementRules2$Formulas" "code" "LStatementRules2$Code;") k_X7_endSwitch_sameField_SR_Statements_SR_Formulas_code_LSR_Code) x9 q9) dX7_endSwitch_54 ?_
  refine lv_aload_n hx hb dX7_endSwitch_57 rfl (lv_at hl 1 rfl) ?_
  obtain ⟨b17, hf⟩ := hf_ite hf
  refine pGN_X5_9 (v := (CS.o σ x1 9)) hx hb hts i_X7_endSwitch_X5 hown hK hC (va_Nw.use rfl (hZ.1 (.fieldLinkNest RX7 196 "StatementRules2$Open" "exit" "I" "StatementRules2") (by decide +kernel))) (fun _ q9 => q9) dX7_endSwitch_58 b17 rfl ?_
  obtain ⟨p18, hcp18, hf⟩ := hf_bind hf
  have hm19 : CS.hs σ ≤ CS.hs p18.2 := Mono.go hcp18 (m_X0_aim N σ (CS.o σ x1 9))
  have hr9 : CS.hs p18.2 ≤ CS.hs R.2 := Mono.go hf (mono_ite (mono_ite (mono_ite (m_X7_endSwitch_99 N (CS.setI p18.2 36 1)) (mono_bind (m_X6_isGoneTo N p18.2 x1 0) (fun p29 => (mono_ite (m_X7_endSwitch_99 N (CS.setI p29.2 36 0)) (m_X7_endSwitch_99 N (CS.setI p29.2 36 1)))))) mono_none) (m_X7_endSwitch_99 N (CS.setI p18.2 36 1)))
  have hFc := cFree hC hA
  refine va_callv (va_runV (As := [.int (CS.o σ x1 9)]) (rest := []) ⟨hx, hb, hml, hown, hts⟩ (c_X0_aim l dC dI Q N σ (CS.o σ x1 9) p18 hcp18) (cwV 1 hts hX7_endSwitch_X0_aim_v158 rfl rfl rfl (by decide +kernel) ⟨(show 2 + 1 ≤ 4 by omega), (show 8 + (2 + 11) + 60 * 2 ≤ 60 * 4 by omega)⟩) ⟨zPre.blind, va_recv hK hC.1 (ci := 0) (q0 := 2) rfl rfl, cPre_go hZ hK hC⟩ rfl rfl hl.1 rfl (lv_room (Nat.le_of_ble_eq_true rfl)) dX7_endSwitch_61 (cAcc h0 hm19 hr9)) hC.2.2.1 (fun q _ h => hFc q h) hFc (fun u9 t9 H1 locs ht hvm hw hB hz1 hk1 hS => ?_)
  obtain ⟨⟨hP, hK1, hD1⟩, hsz1⟩ := hB
  rw [ht] at hP hsz1
  have hC : CP dC dI Q A s.heap p18.2 H1 locs := ⟨hP, hD1.weaken (fun _ _ _ h => hFc _ h), hS, hsz1⟩
  generalize H1 = H at hC ⊢
  have h21 : z9h ≤ CS.hs p18.2 := Nat.le_trans h0 hm19
  refine W.widen (k := CS.hs p18.2 - z9h) (n := 17 * (CS.hs p18.2 - z9h)) (cAcc2 h0 hm19) (cAcc3 h0 hm19) ?_
  refine lv_aload_n hx hb dX7_endSwitch_64 rfl (lv_at hl 0 rfl) ?_
  refine lv_aload_n hx hb dX7_endSwitch_65 rfl (lv_at hl 0 rfl) ?_
  refine cG_36 (v := (p18.2.i 36)) hx hb hts i_X7_endSwitch_X7 hown hK hC (hts (.fieldLink RX7 61 "StatementRules2$Statements" "alive" "Z") k_X7_endSwitch_fieldLink_RX7_61_SR_Statements_alive_Z) (fun _ q9 => q9) dX7_endSwitch_66 rfl ?_
  refine lv_if_ne (tgt := 91) hx hb dX7_endSwitch_69 (by decide) (fun c22 => ?_) (fun c22 => ?_)
  ·
    replace hf := (if_neg c22).symm.trans hf
    refine lv_iconst (v := 1) hx hb dX7_endSwitch_91 (by decide) ?_
    refine lv_goto (tgt := 96) hx hb dX7_endSwitch_92 (by decide) ?_
    refine cP_36 (v := 1) hx hb hts i_X7_endSwitch_X7 hown hK hC (hts (.fieldLink RX7 61 "StatementRules2$Statements" "alive" "Z") k_X7_endSwitch_fieldLink_RX7_61_SR_Statements_alive_Z) (fun _ q9 => q9) dX7_endSwitch_96 (by decide) (fun H locs hC => ?_)
    exact j_X7_endSwitch_99 l dC dI Q N z9h R hx hb hr hml hown hts hlocks hZ hA hK (CS.setI p18.2 36 1) _ _ _ hf h21 hC (lv_sub hl [0] rfl)
  ·
    replace hf := (if_pos c22).symm.trans hf
    refine lv_aload_n hx hb dX7_endSwitch_72 rfl (lv_at hl 1 rfl) ?_
    obtain ⟨b27, hf⟩ := hf_ite hf
    refine pGN_X5_11 (v := (CS.o p18.2 x1 11)) hx hb hts i_X7_endSwitch_X5 hown hK hC (va_Nw.use rfl (hZ.1 (.fieldLinkNest RX7 140 "StatementRules2$Open" "other" "I" "StatementRules2") (by decide +kernel))) (fun _ q9 => q9) dX7_endSwitch_73 b27 rfl ?_
    refine lv_if_lt (tgt := 91) hx hb dX7_endSwitch_76 (by decide) (fun c28 => ?_) (fun c28 => ?_)
    ·
      replace hf := (if_pos c28).symm.trans hf
      refine lv_iconst (v := 1) hx hb dX7_endSwitch_91 (by decide) ?_
      refine lv_goto (tgt := 96) hx hb dX7_endSwitch_92 (by decide) ?_
      refine cP_36 (v := 1) hx hb hts i_X7_endSwitch_X7 hown hK hC (hts (.fieldLink RX7 61 "StatementRules2$Statements" "alive" "Z") k_X7_endSwitch_fieldLink_RX7_61_SR_Statements_alive_Z) (fun _ q9 => q9) dX7_endSwitch_96 (by decide) (fun H locs hC => ?_)
      exact j_X7_endSwitch_99 l dC dI Q N z9h R hx hb hr hml hown hts hlocks hZ hA hK (CS.setI p18.2 36 1) _ _ _ hf h21 hC (lv_sub hl [0] rfl)
    ·
      replace hf := (if_neg c28).symm.trans hf
      refine lv_aload_n hx hb dX7_endSwitch_79 rfl (lv_at hl 0 rfl) ?_
      refine cG_35 hx hb hts i_X7_endSwitch_X7 hown hK hC (hts (.fieldLink RX7 14 "StatementRules2$Statements" "opens" "LStatementRules2$Opens;") k_X7_endSwitch_fieldLink_RX7_14_SR_Statements_opens_LSR_Opens) (fun _ q9 => q9) dX7_endSwitch_80 ?_
      refine lv_aload_n hx hb dX7_endSwitch_83 rfl (lv_at hl 1 rfl) ?_
      refine lv_iconst (v := 0) hx hb dX7_endSwitch_84 (by decide) ?_
      obtain ⟨p29, hcp29, hf⟩ := hf_bind hf
      have hm30 : CS.hs p18.2 ≤ CS.hs p29.2 := Mono.go hcp29 (m_X6_isGoneTo N p18.2 x1 0)
      have hr9 : CS.hs p29.2 ≤ CS.hs R.2 := Mono.go hf (mono_ite (m_X7_endSwitch_99 N (CS.setI p29.2 36 0)) (m_X7_endSwitch_99 N (CS.setI p29.2 36 1)))
      have hFc := cFree hC hA
      refine va_calli (va_runV (As := [.ref x1, .int 0]) (rest := [.ref (Q.o 3)]) ⟨hx, hb, hml, hown, hts⟩ (c_X6_isGoneTo l dC dI Q N p18.2 x1 0 p29 hcp29) (cwV 2 hts hX7_endSwitch_X6_isGoneTo_v362 rfl rfl rfl (by decide +kernel) ⟨(show 2 + 1 ≤ 4 by omega), (show 8 + (4 + 11) + 60 * 2 ≤ 60 * 4 by omega)⟩) ⟨zPre.blind, va_recv hK hC.1 (ci := 5) (q0 := 6) rfl rfl, cPre_go hZ hK hC⟩ rfl rfl hl.1 rfl (lv_room (Nat.le_of_ble_eq_true rfl)) dX7_endSwitch_85 (cAcc h21 hm30 hr9)) hC.2.2.1 (fun q _ h => hFc q h) hFc (fun r31 u9 t9 H1 locs ht hvm hw hB hz1 hk1 hS => ?_)
      obtain ⟨⟨hP, hK1, hD1⟩, hsz1⟩ := hB
      rw [ht] at hP hsz1
      have hC : CP dC dI Q A s.heap p29.2 H1 locs := ⟨hP, hD1.weaken (fun _ _ _ h => hFc _ h), hS, hsz1⟩
      generalize H1 = H at hC ⊢
      have h32 : z9h ≤ CS.hs p29.2 := Nat.le_trans h21 hm30
      refine W.widen (k := CS.hs p29.2 - z9h) (n := 17 * (CS.hs p29.2 - z9h)) (cAcc2 h21 hm30) (cAcc3 h21 hm30) ?_
      obtain rfl : r31 = p29.1 := hw
      refine lv_if_eq (tgt := 95) hx hb dX7_endSwitch_88 (by decide) (fun c33 => ?_) (fun c33 => ?_)
      ·
        replace hf := (if_pos c33).symm.trans hf
        refine lv_iconst (v := 0) hx hb dX7_endSwitch_95 (by decide) ?_
        refine cP_36 (v := 0) hx hb hts i_X7_endSwitch_X7 hown hK hC (hts (.fieldLink RX7 61 "StatementRules2$Statements" "alive" "Z") k_X7_endSwitch_fieldLink_RX7_61_SR_Statements_alive_Z) (fun _ q9 => q9) dX7_endSwitch_96 (by decide) (fun H locs hC => ?_)
        exact j_X7_endSwitch_99 l dC dI Q N z9h R hx hb hr hml hown hts hlocks hZ hA hK (CS.setI p29.2 36 0) _ _ _ hf h32 hC (lv_sub hl [0] rfl)
      ·
        replace hf := (if_neg c33).symm.trans hf
        refine lv_iconst (v := 1) hx hb dX7_endSwitch_91 (by decide) ?_
        refine lv_goto (tgt := 96) hx hb dX7_endSwitch_92 (by decide) ?_
        refine cP_36 (v := 1) hx hb hts i_X7_endSwitch_X7 hown hK hC (hts (.fieldLink RX7 61 "StatementRules2$Statements" "alive" "Z") k_X7_endSwitch_fieldLink_RX7_61_SR_Statements_alive_Z) (fun _ q9 => q9) dX7_endSwitch_96 (by decide) (fun H locs hC => ?_)
        exact j_X7_endSwitch_99 l dC dI Q N z9h R hx hb hr hml hown hts hlocks hZ hA hK (CS.setI p29.2 36 1) _ _ _ hf h32 hC (lv_sub hl [0] rfl)
set_option maxHeartbeats 4000000 in
set_option maxRecDepth 100000 in
theorem c_X7_endSwitch (l : Launch) (dC : Nat → ClassId) (dI : Nat → Nat → Nat) (Q : CQ) (N : Nat) (σ : CS) (x1 : Nat) (R : Unit × CS) (hf : f_X7_endSwitch N σ x1 = some R) : Met l yX7_endSwitch wzX7_endSwitch ({ frames := 4, cells := CS.hs R.2 - CS.hs σ, slots := 17 * (CS.hs R.2 - CS.hs σ), locals := 60 * 4 }) (va_Pc [.ref (Q.o 3), .ref x1] (zPre dC dI (CS.hs σ) (cW Q σ) (cT Q))) (va_Qv (fun (_ : Unit) => True) (fun (_ : Unit) (t : State) => zPost dC dI (va_A (cW Q σ) (CS.hs σ)) (cW Q R.2) (cT Q) t ∧ t.heap.size = CS.hs R.2) (va_A (cW Q σ) (CS.hs σ))) (CS.hs R.2 - CS.hs σ) (17 * (CS.hs R.2 - CS.hs σ)) (va_A (cW Q σ) (CS.hs σ)) := by
  refine Met.ofW (cc := cX7_endSwitch) (maxL := 2) (ret := none) (by decide) rfl ?_
  intro p e s m args below meth c s₁ B hml hv
  obtain ⟨rfl, hsz, hZ, hP, hK, hD0⟩ := hv
  have hx := B.exec
  have hb := B.bytes
  have hr := B.returns
  have hts := atoms_spec (ws := wzX7_endSwitch) B.pre
  have hown : s.vm.findClass RX7 = some m.cls := findClass_of_methodNamed B.named
  have hlocks := B.notSynchronized
  have hD := hD0.self (sz := CS.hs σ)
  generalize hAe : va_A (cW Q σ) (CS.hs σ) = A at hD ⊢
  have hA : ∀ q : Nat, s.heap.size ≤ q → A q := fun q h => by rw [← hAe]; exact Or.inr (hsz ▸ h)
  have hC : CP dC dI Q A s.heap σ s.heap [] := ⟨hP, hD, va_S.rf, hsz⟩
  have h0 : CS.hs σ ≤ CS.hs σ := Nat.le_refl _
  have hl := lv_entry ([.ref (Q.o 3), .ref x1]) (n := 2) (Nat.le_of_ble_eq_true rfl)
  rw [lg_entry_eq]
  generalize (lg_sl ([.ref (Q.o 3), .ref x1]) ++ List.replicate (2 - (lg_sl ([.ref (Q.o 3), .ref x1])).length) Slot.unset).toArray = ls at hl ⊢
  have hl : lv_has ls 2 [(0, .ref (Q.o 3)), (1, .ref x1)] := hl
  unfold f_X7_endSwitch at hf
  refine W.widen (k := CS.hs σ - CS.hs σ) (n := 17 * (CS.hs σ - CS.hs σ)) (Nat.zero_le _) (Nat.zero_le _) ?_
  refine lv_aload_n hx hb dX7_endSwitch_0 rfl (lv_at hl 0 rfl) ?_
  refine cG_29 hx hb hts i_X7_endSwitch_X7 hown hK hC (hts (.fieldLink RX7 20 "StatementRules2$Statements" "code" "LStatementRules2$Code;") k_X7_endSwitch_fieldLink_RX7_20_SR_Statements_code_LSR_Code) (fun x9 q9 => u_same (hts (.sameField "StatementRules2$Statements" "StatementRules2$Formulas" "code" "LStatementRules2$Code;") k_X7_endSwitch_sameField_SR_Statements_SR_Formulas_code_LSR_Code) x9 q9) dX7_endSwitch_1 ?_
  refine lv_bipush (v := 30) hx hb dX7_endSwitch_4 (by decide) ?_
  refine lv_aload_n hx hb dX7_endSwitch_6 rfl (lv_at hl 1 rfl) ?_
  obtain ⟨b1, hf⟩ := hf_ite hf
  refine pGN_X5_9 (v := (CS.o σ x1 9)) hx hb hts i_X7_endSwitch_X5 hown hK hC (va_Nw.use rfl (hZ.1 (.fieldLinkNest RX7 196 "StatementRules2$Open" "exit" "I" "StatementRules2") (by decide +kernel))) (fun _ q9 => q9) dX7_endSwitch_7 b1 rfl ?_
  obtain ⟨p2, hcp2, hf⟩ := hf_bind hf
  have hm3 : CS.hs σ ≤ CS.hs p2.2 := Mono.go hcp2 (m_X0_add N σ 30 (CS.o σ x1 9))
  have hr9 : CS.hs p2.2 ≤ CS.hs R.2 := Mono.go hf (mono_ite (mono_bind (m_X0_aim N p2.2 (CS.o p2.2 x1 10)) (fun p7 => (mono_ite (mono_ite (mono_bind (m_X0_addCases N p7.2 (CS.o p7.2 x1 13) (CS.o p7.2 x1 9)) (fun p13 => (m_X7_endSwitch_53 N p13.2 x1))) (mono_bind (m_X0_addCases N p7.2 (CS.o p7.2 x1 13) (CS.o p7.2 x1 11)) (fun p34 => (m_X7_endSwitch_53 N p34.2 x1)))) mono_none))) mono_none)
  have hFc := cFree hC hA
  refine va_callv (va_runV (As := [.int 30, .int (CS.o σ x1 9)]) (rest := []) ⟨hx, hb, hml, hown, hts⟩ (c_X0_add l dC dI Q N σ 30 (CS.o σ x1 9) p2 hcp2) (cwV 2 hts hX7_endSwitch_X0_add_v176 rfl rfl rfl (by decide +kernel) ⟨(show 2 + 1 ≤ 4 by omega), (show 8 + (3 + 11) + 60 * 2 ≤ 60 * 4 by omega)⟩) ⟨zPre.blind, va_recv hK hC.1 (ci := 0) (q0 := 2) rfl rfl, cPre_go hZ hK hC⟩ rfl rfl hl.1 rfl (lv_room (Nat.le_of_ble_eq_true rfl)) dX7_endSwitch_10 (cAcc h0 hm3 hr9)) hC.2.2.1 (fun q _ h => hFc q h) hFc (fun u9 t9 H1 locs ht hvm hw hB hz1 hk1 hS => ?_)
  obtain ⟨⟨hP, hK1, hD1⟩, hsz1⟩ := hB
  rw [ht] at hP hsz1
  have hC : CP dC dI Q A s.heap p2.2 H1 locs := ⟨hP, hD1.weaken (fun _ _ _ h => hFc _ h), hS, hsz1⟩
  generalize H1 = H at hC ⊢
  have h5 : (CS.hs σ) ≤ CS.hs p2.2 := Nat.le_trans h0 hm3
  refine W.widen (k := CS.hs p2.2 - (CS.hs σ)) (n := 17 * (CS.hs p2.2 - (CS.hs σ))) (cAcc2 h0 hm3) (cAcc3 h0 hm3) ?_
  refine lv_aload_n hx hb dX7_endSwitch_13 rfl (lv_at hl 0 rfl) ?_
  refine cG_29 hx hb hts i_X7_endSwitch_X7 hown hK hC (hts (.fieldLink RX7 20 "StatementRules2$Statements" "code" "LStatementRules2$Code;") k_X7_endSwitch_fieldLink_RX7_20_SR_Statements_code_LSR_Code) (fun x9 q9 => u_same (hts (.sameField "StatementRules2$Statements" "StatementRules2$Formulas" "code" "LStatementRules2$Code;") k_X7_endSwitch_sameField_SR_Statements_SR_Formulas_code_LSR_Code) x9 q9) dX7_endSwitch_14 ?_
  refine lv_aload_n hx hb dX7_endSwitch_17 rfl (lv_at hl 1 rfl) ?_
  obtain ⟨b6, hf⟩ := hf_ite hf
  refine pGN_X5_10 (v := (CS.o p2.2 x1 10)) hx hb hts i_X7_endSwitch_X5 hown hK hC (va_Nw.use rfl (hZ.1 (.fieldLinkNest RX7 284 "StatementRules2$Open" "next" "I" "StatementRules2") (by decide +kernel))) (fun _ q9 => q9) dX7_endSwitch_18 b6 rfl ?_
  obtain ⟨p7, hcp7, hf⟩ := hf_bind hf
  have hm8 : CS.hs p2.2 ≤ CS.hs p7.2 := Mono.go hcp7 (m_X0_aim N p2.2 (CS.o p2.2 x1 10))
  have hr9 : CS.hs p7.2 ≤ CS.hs R.2 := Mono.go hf (mono_ite (mono_ite (mono_bind (m_X0_addCases N p7.2 (CS.o p7.2 x1 13) (CS.o p7.2 x1 9)) (fun p13 => (m_X7_endSwitch_53 N p13.2 x1))) (mono_bind (m_X0_addCases N p7.2 (CS.o p7.2 x1 13) (CS.o p7.2 x1 11)) (fun p34 => (m_X7_endSwitch_53 N p34.2 x1)))) mono_none)
  have hFc := cFree hC hA
  refine va_callv (va_runV (As := [.int (CS.o p2.2 x1 10)]) (rest := []) ⟨hx, hb, hml, hown, hts⟩ (c_X0_aim l dC dI Q N p2.2 (CS.o p2.2 x1 10) p7 hcp7) (cwV 1 hts hX7_endSwitch_X0_aim_v158 rfl rfl rfl (by decide +kernel) ⟨(show 2 + 1 ≤ 4 by omega), (show 8 + (2 + 11) + 60 * 2 ≤ 60 * 4 by omega)⟩) ⟨zPre.blind, va_recv hK hC.1 (ci := 0) (q0 := 2) rfl rfl, cPre_go hZ hK hC⟩ rfl rfl hl.1 rfl (lv_room (Nat.le_of_ble_eq_true rfl)) dX7_endSwitch_21 (cAcc h5 hm8 hr9)) hC.2.2.1 (fun q _ h => hFc q h) hFc (fun u9 t9 H1 locs ht hvm hw hB hz1 hk1 hS => ?_)
  obtain ⟨⟨hP, hK1, hD1⟩, hsz1⟩ := hB
  rw [ht] at hP hsz1
  have hC : CP dC dI Q A s.heap p7.2 H1 locs := ⟨hP, hD1.weaken (fun _ _ _ h => hFc _ h), hS, hsz1⟩
  generalize H1 = H at hC ⊢
  have h10 : (CS.hs σ) ≤ CS.hs p7.2 := Nat.le_trans h5 hm8
  refine W.widen (k := CS.hs p7.2 - (CS.hs σ)) (n := 17 * (CS.hs p7.2 - (CS.hs σ))) (cAcc2 h5 hm8) (cAcc3 h5 hm8) ?_
  refine lv_aload_n hx hb dX7_endSwitch_24 rfl (lv_at hl 0 rfl) ?_
  refine cG_29 hx hb hts i_X7_endSwitch_X7 hown hK hC (hts (.fieldLink RX7 20 "StatementRules2$Statements" "code" "LStatementRules2$Code;") k_X7_endSwitch_fieldLink_RX7_20_SR_Statements_code_LSR_Code) (fun x9 q9 => u_same (hts (.sameField "StatementRules2$Statements" "StatementRules2$Formulas" "code" "LStatementRules2$Code;") k_X7_endSwitch_sameField_SR_Statements_SR_Formulas_code_LSR_Code) x9 q9) dX7_endSwitch_25 ?_
  refine lv_aload_n hx hb dX7_endSwitch_28 rfl (lv_at hl 1 rfl) ?_
  obtain ⟨b11, hf⟩ := hf_ite hf
  refine pGN_X5_13 (v := (CS.o p7.2 x1 13)) hx hb hts i_X7_endSwitch_X5 hown hK hC (va_Nw.use rfl (hZ.1 (.fieldLinkNest RX7 149 "StatementRules2$Open" "firstCase" "I" "StatementRules2") (by decide +kernel))) (fun _ q9 => q9) dX7_endSwitch_29 b11 rfl ?_
  refine lv_aload_n hx hb dX7_endSwitch_32 rfl (lv_at hl 1 rfl) ?_
  refine pGN_X5_11 (v := (CS.o p7.2 x1 11)) hx hb hts i_X7_endSwitch_X5 hown hK hC (va_Nw.use rfl (hZ.1 (.fieldLinkNest RX7 140 "StatementRules2$Open" "other" "I" "StatementRules2") (by decide +kernel))) (fun _ q9 => q9) dX7_endSwitch_33 b11 rfl ?_
  refine lv_if_lt (tgt := 46) hx hb dX7_endSwitch_36 (by decide) (fun c12 => ?_) (fun c12 => ?_)
  ·
    replace hf := (if_pos c12).symm.trans hf
    refine lv_aload_n hx hb dX7_endSwitch_46 rfl (lv_at hl 1 rfl) ?_
    refine pGN_X5_9 (v := (CS.o p7.2 x1 9)) hx hb hts i_X7_endSwitch_X5 hown hK hC (va_Nw.use rfl (hZ.1 (.fieldLinkNest RX7 196 "StatementRules2$Open" "exit" "I" "StatementRules2") (by decide +kernel))) (fun _ q9 => q9) dX7_endSwitch_47 b11 rfl ?_
    obtain ⟨p13, hcp13, hf⟩ := hf_bind hf
    have hm14 : CS.hs p7.2 ≤ CS.hs p13.2 := Mono.go hcp13 (m_X0_addCases N p7.2 (CS.o p7.2 x1 13) (CS.o p7.2 x1 9))
    have hr9 : CS.hs p13.2 ≤ CS.hs R.2 := Mono.go hf (m_X7_endSwitch_53 N p13.2 x1)
    have hFc := cFree hC hA
    refine va_callv (va_runV (As := [.int (CS.o p7.2 x1 13), .int (CS.o p7.2 x1 9)]) (rest := []) ⟨hx, hb, hml, hown, hts⟩ (c_X0_addCases l dC dI Q N p7.2 (CS.o p7.2 x1 13) (CS.o p7.2 x1 9) p13 hcp13) (cwV 2 hts hX7_endSwitch_X0_addCases_v387 rfl rfl rfl (by decide +kernel) ⟨(show 3 + 1 ≤ 4 by omega), (show 8 + (4 + 11) + 60 * 3 ≤ 60 * 4 by omega)⟩) ⟨zPre.blind, va_recv hK hC.1 (ci := 0) (q0 := 2) rfl rfl, cPre_go hZ hK hC⟩ rfl rfl hl.1 rfl (lv_room (Nat.le_of_ble_eq_true rfl)) dX7_endSwitch_50 (cAcc h10 hm14 hr9)) hC.2.2.1 (fun q _ h => hFc q h) hFc (fun u9 t9 H1 locs ht hvm hw hB hz1 hk1 hS => ?_)
    obtain ⟨⟨hP, hK1, hD1⟩, hsz1⟩ := hB
    rw [ht] at hP hsz1
    have hC : CP dC dI Q A s.heap p13.2 H1 locs := ⟨hP, hD1.weaken (fun _ _ _ h => hFc _ h), hS, hsz1⟩
    generalize H1 = H at hC ⊢
    have h16 : (CS.hs σ) ≤ CS.hs p13.2 := Nat.le_trans h10 hm14
    refine W.widen (k := CS.hs p13.2 - (CS.hs σ)) (n := 17 * (CS.hs p13.2 - (CS.hs σ))) (cAcc2 h10 hm14) (cAcc3 h10 hm14) ?_
    exact j_X7_endSwitch_53 l dC dI Q N (CS.hs σ) R hx hb hr hml hown hts hlocks hZ hA hK p13.2 x1 _ _ _ hf h16 hC (lv_sub hl [0, 1] rfl)
  ·
    replace hf := (if_neg c12).symm.trans hf
    refine lv_aload_n hx hb dX7_endSwitch_39 rfl (lv_at hl 1 rfl) ?_
    refine pGN_X5_11 (v := (CS.o p7.2 x1 11)) hx hb hts i_X7_endSwitch_X5 hown hK hC (va_Nw.use rfl (hZ.1 (.fieldLinkNest RX7 140 "StatementRules2$Open" "other" "I" "StatementRules2") (by decide +kernel))) (fun _ q9 => q9) dX7_endSwitch_40 b11 rfl ?_
    refine lv_goto (tgt := 50) hx hb dX7_endSwitch_43 (by decide) ?_
    obtain ⟨p34, hcp34, hf⟩ := hf_bind hf
    have hm35 : CS.hs p7.2 ≤ CS.hs p34.2 := Mono.go hcp34 (m_X0_addCases N p7.2 (CS.o p7.2 x1 13) (CS.o p7.2 x1 11))
    have hr9 : CS.hs p34.2 ≤ CS.hs R.2 := Mono.go hf (m_X7_endSwitch_53 N p34.2 x1)
    have hFc := cFree hC hA
    refine va_callv (va_runV (As := [.int (CS.o p7.2 x1 13), .int (CS.o p7.2 x1 11)]) (rest := []) ⟨hx, hb, hml, hown, hts⟩ (c_X0_addCases l dC dI Q N p7.2 (CS.o p7.2 x1 13) (CS.o p7.2 x1 11) p34 hcp34) (cwV 2 hts hX7_endSwitch_X0_addCases_v387 rfl rfl rfl (by decide +kernel) ⟨(show 3 + 1 ≤ 4 by omega), (show 8 + (4 + 11) + 60 * 3 ≤ 60 * 4 by omega)⟩) ⟨zPre.blind, va_recv hK hC.1 (ci := 0) (q0 := 2) rfl rfl, cPre_go hZ hK hC⟩ rfl rfl hl.1 rfl (lv_room (Nat.le_of_ble_eq_true rfl)) dX7_endSwitch_50 (cAcc h10 hm35 hr9)) hC.2.2.1 (fun q _ h => hFc q h) hFc (fun u9 t9 H1 locs ht hvm hw hB hz1 hk1 hS => ?_)
    obtain ⟨⟨hP, hK1, hD1⟩, hsz1⟩ := hB
    rw [ht] at hP hsz1
    have hC : CP dC dI Q A s.heap p34.2 H1 locs := ⟨hP, hD1.weaken (fun _ _ _ h => hFc _ h), hS, hsz1⟩
    generalize H1 = H at hC ⊢
    have h37 : (CS.hs σ) ≤ CS.hs p34.2 := Nat.le_trans h10 hm35
    refine W.widen (k := CS.hs p34.2 - (CS.hs σ)) (n := 17 * (CS.hs p34.2 - (CS.hs σ))) (cAcc2 h10 hm35) (cAcc3 h10 hm35) ?_
    exact j_X7_endSwitch_53 l dC dI Q N (CS.hs σ) R hx hb hr hml hown hts hlocks hZ hA hK p34.2 x1 _ _ _ hf h37 hC (lv_sub hl [0, 1] rfl)
theorem i_X7_endGuarded_X5 : ∀ w ∈ wsX50, w ∈ wzX7_endGuarded := fun _ h => List.mem_cons_of_mem _ (List.mem_append_right _ (List.mem_append_left _ (h)))
theorem k_X7_endGuarded_fieldLink_RX7_20_SR_Statements_code_LSR_Code : Cond.fieldLink RX7 20 "StatementRules2$Statements" "code" "LStatementRules2$Code;" ∈ wzX7_endGuarded := List.mem_cons_of_mem _ (List.mem_append_left _ (List.mem_of_getElem? (i := 0) rfl))
theorem k_X7_endGuarded_sameField_SR_Statements_SR_Formulas_code_LSR_Code : Cond.sameField "StatementRules2$Statements" "StatementRules2$Formulas" "code" "LStatementRules2$Code;" ∈ wzX7_endGuarded := List.mem_cons_of_mem _ (List.mem_append_left _ (List.mem_of_getElem? (i := 1) rfl))
theorem i_X7_endGuarded_X7 : ∀ w ∈ wsX70, w ∈ wzX7_endGuarded := fun _ h => List.mem_cons_of_mem _ (List.mem_append_right _ (List.mem_append_right _ (List.mem_append_left _ (h))))
theorem k_X7_endGuarded_fieldLink_RX7_61_SR_Statements_alive_Z : Cond.fieldLink RX7 61 "StatementRules2$Statements" "alive" "Z" ∈ wzX7_endGuarded := List.mem_cons_of_mem _ (List.mem_append_left _ (List.mem_of_getElem? (i := 2) rfl))
theorem k_X7_endGuarded_fieldLink_RX7_68_SR_Statements_depth_I : Cond.fieldLink RX7 68 "StatementRules2$Statements" "depth" "I" ∈ wzX7_endGuarded := List.mem_cons_of_mem _ (List.mem_append_left _ (List.mem_of_getElem? (i := 3) rfl))
theorem k_X7_endGuarded_fieldLink_RX7_14_SR_Statements_opens_LSR_Opens : Cond.fieldLink RX7 14 "StatementRules2$Statements" "opens" "LStatementRules2$Opens;" ∈ wzX7_endGuarded := List.mem_cons_of_mem _ (List.mem_append_left _ (List.mem_of_getElem? (i := 4) rfl))
set_option maxHeartbeats 4000000 in
set_option maxRecDepth 100000 in
theorem j_X7_endGuarded_66 {p : Program} {e : Env} {s : State} {m : MethodId} {args : Array Value} {below : List Frame} {meth : Method} {c : Code} {A : Nat → Prop} (l : Launch) (dC : Nat → ClassId) (dI : Nat → Nat → Nat) (Q : CQ) (N : Nat) (z9h : Nat) (R : Unit × CS) (hx : p.tables.exec = Jvm.exec) (hb : c.code = cX7_endGuarded) (hr : meth.sig.returnType = none) (hml : c.maxLocals = 2) (hown : s.vm.findClass RX7 = some m.cls) (hts : ∀ w ∈ wzX7_endGuarded, w.before args s = true) (hlocks : meth.locks = false) (hZ : zAMB s) (hA : ∀ q : Nat, s.heap.size ≤ q → A q) (hK : va_K (dC, dI) vwCl (cT Q) s) : ∀ (σ : CS) (x1 : Nat) (H : Heap) (locs : List Loc) (ls : Array Slot), f_X7_endGuarded_66 N σ x1 = some R → z9h ≤ CS.hs σ → CP dC dI Q A s.heap σ H locs → lv_has ls 2 [(1, .ref x1)] → W p l e ({ frames := 4, cells := CS.hs R.2 - z9h, slots := 17 * (CS.hs R.2 - z9h), locals := 60 * 4 }) s m args below meth c H locs (CS.hs σ - z9h) (17 * (CS.hs σ - z9h)) (MQ below (va_Qv (fun (_ : Unit) => True) (fun (_ : Unit) (t : State) => zPost dC dI A (cW Q R.2) (cT Q) t ∧ t.heap.size = CS.hs R.2) A) args s (CS.hs R.2 - z9h) (17 * (CS.hs R.2 - z9h)) A) (F0 m 66 ls []) := by
  intro σ x1 H locs ls hf h0 hC hl
  unfold f_X7_endGuarded_66 at hf
  refine lv_aload_n hx hb dX7_endGuarded_66 rfl (lv_at hl 0 rfl) ?_
  refine lv_sipush (v := 305) hx hb dX7_endGuarded_67 (by decide) ?_
  obtain ⟨b18, hf⟩ := hf_ite hf
  refine pPN_X5_0 (v := 305) hx hb hts i_X7_endGuarded_X5 hown hK hC (va_Nw.use rfl (hZ.1 (.fieldLinkNest RX7 107 "StatementRules2$Open" "sort" "I" "StatementRules2") (by decide +kernel))) (fun _ q9 => q9) dX7_endGuarded_70 b18 (fun H locs hC => ?_)
  refine lv_goto (tgt := 136) hx hb dX7_endGuarded_73 (by decide) ?_
  obtain rfl := Option.some.inj hf
  exact W.vret hx hb hr (fun t ht hW => ⟨⟨(), rfl, trivial, ⟨by rw [ht]; exact hC.1, va_K.moved hW.alike hK, hC.2.1⟩, by rw [ht]; exact hC.2.2.2⟩, hC.2.2.1.F ht⟩) hC.2.2.1.2.2 dX7_endGuarded_136
set_option maxHeartbeats 4000000 in
set_option maxRecDepth 100000 in
theorem j_X7_endGuarded_46 {p : Program} {e : Env} {s : State} {m : MethodId} {args : Array Value} {below : List Frame} {meth : Method} {c : Code} {A : Nat → Prop} (l : Launch) (dC : Nat → ClassId) (dI : Nat → Nat → Nat) (Q : CQ) (N : Nat) (z9h : Nat) (R : Unit × CS) (hx : p.tables.exec = Jvm.exec) (hb : c.code = cX7_endGuarded) (hr : meth.sig.returnType = none) (hml : c.maxLocals = 2) (hown : s.vm.findClass RX7 = some m.cls) (hts : ∀ w ∈ wzX7_endGuarded, w.before args s = true) (hlocks : meth.locks = false) (hZ : zAMB s) (hA : ∀ q : Nat, s.heap.size ≤ q → A q) (hK : va_K (dC, dI) vwCl (cT Q) s) : ∀ (σ : CS) (x1 : Nat) (H : Heap) (locs : List Loc) (ls : Array Slot), f_X7_endGuarded_46 N σ x1 = some R → z9h ≤ CS.hs σ → CP dC dI Q A s.heap σ H locs → lv_has ls 2 [(0, .ref (Q.o 3)), (1, .ref x1)] → W p l e ({ frames := 4, cells := CS.hs R.2 - z9h, slots := 17 * (CS.hs R.2 - z9h), locals := 60 * 4 }) s m args below meth c H locs (CS.hs σ - z9h) (17 * (CS.hs σ - z9h)) (MQ below (va_Qv (fun (_ : Unit) => True) (fun (_ : Unit) (t : State) => zPost dC dI A (cW Q R.2) (cT Q) t ∧ t.heap.size = CS.hs R.2) A) args s (CS.hs R.2 - z9h) (17 * (CS.hs R.2 - z9h)) A) (F0 m 46 ls []) := by
  intro σ x1 H locs ls hf h0 hC hl
  unfold f_X7_endGuarded_46 at hf
  refine lv_aload_n hx hb dX7_endGuarded_46 rfl (lv_at hl 0 rfl) ?_
  refine lv_sipush (v := 215) hx hb dX7_endGuarded_47 (by decide) ?_
  obtain ⟨p13, hcp13, hf⟩ := hf_bind hf
  have hm14 : CS.hs σ ≤ CS.hs p13.2 := Mono.go hcp13 (m_X1_found N σ 215)
  have hr9 : CS.hs p13.2 ≤ CS.hs R.2 := Mono.go hf (mono_ite (mono_bind (m_X1_found N p13.2 216) (fun p19 => (mono_ite (mono_ite (mono_ite (mono_bind (m_X1_misplaced N p19.2) (fun p26 => (mono_some (Nat.le_refl _)))) (mono_bind (m_X0_add N p19.2 58 0) (fun p30 => (mono_ite (mono_bind (m_X0_aim N p30.2 (CS.o p30.2 x1 9)) (fun p35 => (mono_ite (mono_ite (mono_bind (m_X6_pop N (CS.setI (CS.setI p35.2 36 (CS.o p35.2 x1 6)) 38 ((p35.2.i 38) - 1))) (fun p41 => (mono_some (Nat.le_refl _)))) mono_none) mono_none))) mono_none)))) mono_none) (m_X7_endGuarded_66 N p19.2 x1)))) (m_X7_endGuarded_66 N p13.2 x1))
  have hFc := cFree hC hA
  refine va_calli (va_runU (As := [.int 215]) (rest := []) ⟨hx, hb, hml, hown, hts⟩ (c_X1_found l dC dI Q N σ 215 p13 hcp13) (va_cwU 1 hts hX7_endGuarded_X1_found_u110 rfl rfl rfl rfl (by decide +kernel) ⟨(show 1 + 1 ≤ 4 by omega), (show 8 + (2 + 11) + 60 * 1 ≤ 60 * 4 by omega)⟩) ⟨zPre.blind, va_recv hK hC.1 (ci := 6) (q0 := 3) rfl rfl, cPre_go hZ hK hC⟩ rfl rfl hl.1 rfl (lv_room (Nat.le_of_ble_eq_true rfl)) dX7_endGuarded_50 (cAcc h0 hm14 hr9)) hC.2.2.1 (fun q _ h => hFc q h) hFc (fun r15 u9 t9 H1 locs ht hvm hw hB hz1 hk1 hS => ?_)
  obtain ⟨⟨hP, hK1, hD1⟩, hsz1⟩ := hB
  rw [ht] at hP hsz1
  have hC : CP dC dI Q A s.heap p13.2 H1 locs := ⟨hP, hD1.weaken (fun _ _ _ h => hFc _ h), hS, hsz1⟩
  generalize H1 = H at hC ⊢
  have h16 : z9h ≤ CS.hs p13.2 := Nat.le_trans h0 hm14
  refine W.widen (k := CS.hs p13.2 - z9h) (n := 17 * (CS.hs p13.2 - z9h)) (cAcc2 h0 hm14) (cAcc3 h0 hm14) ?_
  obtain rfl : r15 = p13.1 := hw
  refine lv_if_ne (tgt := 66) hx hb dX7_endGuarded_53 (by decide) (fun c17 => ?_) (fun c17 => ?_)
  ·
    replace hf := (if_neg c17).symm.trans hf
    exact j_X7_endGuarded_66 l dC dI Q N z9h R hx hb hr hml hown hts hlocks hZ hA hK p13.2 x1 _ _ _ hf h16 hC (lv_sub hl [1] rfl)
  ·
    replace hf := (if_pos c17).symm.trans hf
    refine lv_aload_n hx hb dX7_endGuarded_56 rfl (lv_at hl 0 rfl) ?_
    refine lv_sipush (v := 216) hx hb dX7_endGuarded_57 (by decide) ?_
    obtain ⟨p19, hcp19, hf⟩ := hf_bind hf
    have hm20 : CS.hs p13.2 ≤ CS.hs p19.2 := Mono.go hcp19 (m_X1_found N p13.2 216)
    have hr9 : CS.hs p19.2 ≤ CS.hs R.2 := Mono.go hf (mono_ite (mono_ite (mono_ite (mono_bind (m_X1_misplaced N p19.2) (fun p26 => (mono_some (Nat.le_refl _)))) (mono_bind (m_X0_add N p19.2 58 0) (fun p30 => (mono_ite (mono_bind (m_X0_aim N p30.2 (CS.o p30.2 x1 9)) (fun p35 => (mono_ite (mono_ite (mono_bind (m_X6_pop N (CS.setI (CS.setI p35.2 36 (CS.o p35.2 x1 6)) 38 ((p35.2.i 38) - 1))) (fun p41 => (mono_some (Nat.le_refl _)))) mono_none) mono_none))) mono_none)))) mono_none) (m_X7_endGuarded_66 N p19.2 x1))
    have hFc := cFree hC hA
    refine va_calli (va_runU (As := [.int 216]) (rest := []) ⟨hx, hb, hml, hown, hts⟩ (c_X1_found l dC dI Q N p13.2 216 p19 hcp19) (va_cwU 1 hts hX7_endGuarded_X1_found_u110 rfl rfl rfl rfl (by decide +kernel) ⟨(show 1 + 1 ≤ 4 by omega), (show 8 + (2 + 11) + 60 * 1 ≤ 60 * 4 by omega)⟩) ⟨zPre.blind, va_recv hK hC.1 (ci := 6) (q0 := 3) rfl rfl, cPre_go hZ hK hC⟩ rfl rfl hl.1 rfl (lv_room (Nat.le_of_ble_eq_true rfl)) dX7_endGuarded_60 (cAcc h16 hm20 hr9)) hC.2.2.1 (fun q _ h => hFc q h) hFc (fun r21 u9 t9 H1 locs ht hvm hw hB hz1 hk1 hS => ?_)
    obtain ⟨⟨hP, hK1, hD1⟩, hsz1⟩ := hB
    rw [ht] at hP hsz1
    have hC : CP dC dI Q A s.heap p19.2 H1 locs := ⟨hP, hD1.weaken (fun _ _ _ h => hFc _ h), hS, hsz1⟩
    generalize H1 = H at hC ⊢
    have h22 : z9h ≤ CS.hs p19.2 := Nat.le_trans h16 hm20
    refine W.widen (k := CS.hs p19.2 - z9h) (n := 17 * (CS.hs p19.2 - z9h)) (cAcc2 h16 hm20) (cAcc3 h16 hm20) ?_
    obtain rfl : r21 = p19.1 := hw
    refine lv_if_eq (tgt := 76) hx hb dX7_endGuarded_63 (by decide) (fun c23 => ?_) (fun c23 => ?_)
    ·
      replace hf := (if_pos c23).symm.trans hf
      refine lv_aload_n hx hb dX7_endGuarded_76 rfl (lv_at hl 1 rfl) ?_
      obtain ⟨b24, hf⟩ := hf_ite hf
      refine pGN_X5_8 (v := (CS.o p19.2 x1 8)) hx hb hts i_X7_endGuarded_X5 hown hK hC (va_Nw.use rfl (hZ.1 (.fieldLinkNest RX7 350 "StatementRules2$Open" "whole" "Z" "StatementRules2") (by decide +kernel))) (fun _ q9 => q9) dX7_endGuarded_77 b24 rfl ?_
      refine lv_if_eq (tgt := 132) hx hb dX7_endGuarded_80 (by decide) (fun c25 => ?_) (fun c25 => ?_)
      ·
        replace hf := (if_pos c25).symm.trans hf
        refine lv_aload_n hx hb dX7_endGuarded_132 rfl (lv_at hl 0 rfl) ?_
        obtain ⟨p26, hcp26, hf⟩ := hf_bind hf
        have hm27 : CS.hs p19.2 ≤ CS.hs p26.2 := Mono.go hcp26 (m_X1_misplaced N p19.2)
        have hr9 : CS.hs p26.2 ≤ CS.hs R.2 := Mono.go hf (mono_some (Nat.le_refl _))
        have hFc := cFree hC hA
        refine va_callv (va_runU (As := []) (rest := []) ⟨hx, hb, hml, hown, hts⟩ (c_X1_misplaced l dC dI Q N p19.2 p26 hcp26) (va_cwU 0 hts hX7_endGuarded_X1_misplaced_u161 rfl rfl rfl rfl (by decide +kernel) ⟨(show 3 + 1 ≤ 4 by omega), (show 8 + (1 + 11) + 60 * 3 ≤ 60 * 4 by omega)⟩) ⟨zPre.blind, va_recv hK hC.1 (ci := 6) (q0 := 3) rfl rfl, cPre_go hZ hK hC⟩ rfl rfl hl.1 rfl (lv_room (Nat.le_of_ble_eq_true rfl)) dX7_endGuarded_133 (cAcc h22 hm27 hr9)) hC.2.2.1 (fun q _ h => hFc q h) hFc (fun u9 t9 H1 locs ht hvm hw hB hz1 hk1 hS => ?_)
        obtain ⟨⟨hP, hK1, hD1⟩, hsz1⟩ := hB
        rw [ht] at hP hsz1
        have hC : CP dC dI Q A s.heap p26.2 H1 locs := ⟨hP, hD1.weaken (fun _ _ _ h => hFc _ h), hS, hsz1⟩
        generalize H1 = H at hC ⊢
        have h29 : z9h ≤ CS.hs p26.2 := Nat.le_trans h22 hm27
        refine W.widen (k := CS.hs p26.2 - z9h) (n := 17 * (CS.hs p26.2 - z9h)) (cAcc2 h22 hm27) (cAcc3 h22 hm27) ?_
        obtain rfl := Option.some.inj hf
        exact W.vret hx hb hr (fun t ht hW => ⟨⟨(), rfl, trivial, ⟨by rw [ht]; exact hC.1, va_K.moved hW.alike hK, hC.2.1⟩, by rw [ht]; exact hC.2.2.2⟩, hC.2.2.1.F ht⟩) hC.2.2.1.2.2 dX7_endGuarded_136
      ·
        replace hf := (if_neg c25).symm.trans hf
        refine lv_aload_n hx hb dX7_endGuarded_83 rfl (lv_at hl 0 rfl) ?_
        refine cG_29 hx hb hts i_X7_endGuarded_X7 hown hK hC (hts (.fieldLink RX7 20 "StatementRules2$Statements" "code" "LStatementRules2$Code;") k_X7_endGuarded_fieldLink_RX7_20_SR_Statements_code_LSR_Code) (fun x9 q9 => u_same (hts (.sameField "StatementRules2$Statements" "StatementRules2$Formulas" "code" "LStatementRules2$Code;") k_X7_endGuarded_sameField_SR_Statements_SR_Formulas_code_LSR_Code) x9 q9) dX7_endGuarded_84 ?_
        refine lv_bipush (v := 58) hx hb dX7_endGuarded_87 (by decide) ?_
        refine lv_iconst (v := 0) hx hb dX7_endGuarded_89 (by decide) ?_
        obtain ⟨p30, hcp30, hf⟩ := hf_bind hf
        have hm31 : CS.hs p19.2 ≤ CS.hs p30.2 := Mono.go hcp30 (m_X0_add N p19.2 58 0)
        have hr9 : CS.hs p30.2 ≤ CS.hs R.2 := Mono.go hf (mono_ite (mono_bind (m_X0_aim N p30.2 (CS.o p30.2 x1 9)) (fun p35 => (mono_ite (mono_ite (mono_bind (m_X6_pop N (CS.setI (CS.setI p35.2 36 (CS.o p35.2 x1 6)) 38 ((p35.2.i 38) - 1))) (fun p41 => (mono_some (Nat.le_refl _)))) mono_none) mono_none))) mono_none)
        have hFc := cFree hC hA
        refine va_callv (va_runV (As := [.int 58, .int 0]) (rest := []) ⟨hx, hb, hml, hown, hts⟩ (c_X0_add l dC dI Q N p19.2 58 0 p30 hcp30) (cwV 2 hts hX7_endGuarded_X0_add_v176 rfl rfl rfl (by decide +kernel) ⟨(show 2 + 1 ≤ 4 by omega), (show 8 + (3 + 11) + 60 * 2 ≤ 60 * 4 by omega)⟩) ⟨zPre.blind, va_recv hK hC.1 (ci := 0) (q0 := 2) rfl rfl, cPre_go hZ hK hC⟩ rfl rfl hl.1 rfl (lv_room (Nat.le_of_ble_eq_true rfl)) dX7_endGuarded_90 (cAcc h22 hm31 hr9)) hC.2.2.1 (fun q _ h => hFc q h) hFc (fun u9 t9 H1 locs ht hvm hw hB hz1 hk1 hS => ?_)
        obtain ⟨⟨hP, hK1, hD1⟩, hsz1⟩ := hB
        rw [ht] at hP hsz1
        have hC : CP dC dI Q A s.heap p30.2 H1 locs := ⟨hP, hD1.weaken (fun _ _ _ h => hFc _ h), hS, hsz1⟩
        generalize H1 = H at hC ⊢
        have h33 : z9h ≤ CS.hs p30.2 := Nat.le_trans h22 hm31
        refine W.widen (k := CS.hs p30.2 - z9h) (n := 17 * (CS.hs p30.2 - z9h)) (cAcc2 h22 hm31) (cAcc3 h22 hm31) ?_
        refine lv_aload_n hx hb dX7_endGuarded_93 rfl (lv_at hl 0 rfl) ?_
        refine cG_29 hx hb hts i_X7_endGuarded_X7 hown hK hC (hts (.fieldLink RX7 20 "StatementRules2$Statements" "code" "LStatementRules2$Code;") k_X7_endGuarded_fieldLink_RX7_20_SR_Statements_code_LSR_Code) (fun x9 q9 => u_same (hts (.sameField "StatementRules2$Statements" "StatementRules2$Formulas" "code" "LStatementRules2$Code;") k_X7_endGuarded_sameField_SR_Statements_SR_Formulas_code_LSR_Code) x9 q9) dX7_endGuarded_94 ?_
        refine lv_aload_n hx hb dX7_endGuarded_97 rfl (lv_at hl 1 rfl) ?_
        obtain ⟨b34, hf⟩ := hf_ite hf
        refine pGN_X5_9 (v := (CS.o p30.2 x1 9)) hx hb hts i_X7_endGuarded_X5 hown hK hC (va_Nw.use rfl (hZ.1 (.fieldLinkNest RX7 196 "StatementRules2$Open" "exit" "I" "StatementRules2") (by decide +kernel))) (fun _ q9 => q9) dX7_endGuarded_98 b34 rfl ?_
        obtain ⟨p35, hcp35, hf⟩ := hf_bind hf
        have hm36 : CS.hs p30.2 ≤ CS.hs p35.2 := Mono.go hcp35 (m_X0_aim N p30.2 (CS.o p30.2 x1 9))
        have hr9 : CS.hs p35.2 ≤ CS.hs R.2 := Mono.go hf (mono_ite (mono_ite (mono_bind (m_X6_pop N (CS.setI (CS.setI p35.2 36 (CS.o p35.2 x1 6)) 38 ((p35.2.i 38) - 1))) (fun p41 => (mono_some (Nat.le_refl _)))) mono_none) mono_none)
        have hFc := cFree hC hA
        refine va_callv (va_runV (As := [.int (CS.o p30.2 x1 9)]) (rest := []) ⟨hx, hb, hml, hown, hts⟩ (c_X0_aim l dC dI Q N p30.2 (CS.o p30.2 x1 9) p35 hcp35) (cwV 1 hts hX7_endGuarded_X0_aim_v158 rfl rfl rfl (by decide +kernel) ⟨(show 2 + 1 ≤ 4 by omega), (show 8 + (2 + 11) + 60 * 2 ≤ 60 * 4 by omega)⟩) ⟨zPre.blind, va_recv hK hC.1 (ci := 0) (q0 := 2) rfl rfl, cPre_go hZ hK hC⟩ rfl rfl hl.1 rfl (lv_room (Nat.le_of_ble_eq_true rfl)) dX7_endGuarded_101 (cAcc h33 hm36 hr9)) hC.2.2.1 (fun q _ h => hFc q h) hFc (fun u9 t9 H1 locs ht hvm hw hB hz1 hk1 hS => ?_)
        obtain ⟨⟨hP, hK1, hD1⟩, hsz1⟩ := hB
        rw [ht] at hP hsz1
        have hC : CP dC dI Q A s.heap p35.2 H1 locs := ⟨hP, hD1.weaken (fun _ _ _ h => hFc _ h), hS, hsz1⟩
        generalize H1 = H at hC ⊢
        have h38 : z9h ≤ CS.hs p35.2 := Nat.le_trans h33 hm36
        refine W.widen (k := CS.hs p35.2 - z9h) (n := 17 * (CS.hs p35.2 - z9h)) (cAcc2 h33 hm36) (cAcc3 h33 hm36) ?_
        refine lv_aload_n hx hb dX7_endGuarded_104 rfl (lv_at hl 0 rfl) ?_
        refine lv_aload_n hx hb dX7_endGuarded_105 rfl (lv_at hl 1 rfl) ?_
        obtain ⟨b39, hf⟩ := hf_ite hf
        refine pGN_X5_6 (v := (CS.o p35.2 x1 6)) hx hb hts i_X7_endGuarded_X5 hown hK hC (va_Nw.use rfl (hZ.1 (.fieldLinkNest RX7 359 "StatementRules2$Open" "ends" "Z" "StatementRules2") (by decide +kernel))) (fun _ q9 => q9) dX7_endGuarded_106 b39 rfl ?_
        obtain ⟨b40, hf⟩ := hf_ite hf
        refine cP_36 (v := (CS.o p35.2 x1 6)) hx hb hts i_X7_endGuarded_X7 hown hK hC (hts (.fieldLink RX7 61 "StatementRules2$Statements" "alive" "Z") k_X7_endGuarded_fieldLink_RX7_61_SR_Statements_alive_Z) (fun _ q9 => q9) dX7_endGuarded_109 b40 (fun H locs hC => ?_)
        refine lv_aload_n hx hb dX7_endGuarded_112 rfl (lv_at hl 0 rfl) ?_
        refine lv_dup hx hb dX7_endGuarded_113 rfl ?_
        refine cG_38 (v := (p35.2.i 38)) hx hb hts i_X7_endGuarded_X7 hown hK hC (hts (.fieldLink RX7 68 "StatementRules2$Statements" "depth" "I") k_X7_endGuarded_fieldLink_RX7_68_SR_Statements_depth_I) (fun _ q9 => q9) dX7_endGuarded_114 rfl ?_
        refine lv_iconst (v := 1) hx hb dX7_endGuarded_117 (by decide) ?_
        refine lv_isub hx hb dX7_endGuarded_118 ?_
        refine cP_38 (v := ((p35.2.i 38) - 1)) hx hb hts i_X7_endGuarded_X7 hown hK hC (hts (.fieldLink RX7 68 "StatementRules2$Statements" "depth" "I") k_X7_endGuarded_fieldLink_RX7_68_SR_Statements_depth_I) (fun _ q9 => q9) dX7_endGuarded_119 (fun H locs hC => ?_)
        refine lv_aload_n hx hb dX7_endGuarded_122 rfl (lv_at hl 0 rfl) ?_
        refine cG_35 hx hb hts i_X7_endGuarded_X7 hown hK hC (hts (.fieldLink RX7 14 "StatementRules2$Statements" "opens" "LStatementRules2$Opens;") k_X7_endGuarded_fieldLink_RX7_14_SR_Statements_opens_LSR_Opens) (fun _ q9 => q9) dX7_endGuarded_123 ?_
        obtain ⟨p41, hcp41, hf⟩ := hf_bind hf
        have hm42 : CS.hs p35.2 ≤ CS.hs p41.2 := Mono.go hcp41 (m_X6_pop N (CS.setI (CS.setI p35.2 36 (CS.o p35.2 x1 6)) 38 ((p35.2.i 38) - 1)))
        have hr9 : CS.hs p41.2 ≤ CS.hs R.2 := Mono.go hf (mono_some (Nat.le_refl _))
        have hFc := cFree hC hA
        refine va_callv (va_runV (As := []) (rest := []) ⟨hx, hb, hml, hown, hts⟩ (c_X6_pop l dC dI Q N (CS.setI (CS.setI p35.2 36 (CS.o p35.2 x1 6)) 38 ((p35.2.i 38) - 1)) p41 hcp41) (cwV 0 hts hX7_endGuarded_X6_pop_v369 rfl rfl rfl (by decide +kernel) ⟨(show 1 + 1 ≤ 4 by omega), (show 8 + (1 + 11) + 60 * 1 ≤ 60 * 4 by omega)⟩) ⟨zPre.blind, va_recv hK hC.1 (ci := 5) (q0 := 6) rfl rfl, cPre_go hZ hK hC⟩ rfl rfl hl.1 rfl (lv_room (Nat.le_of_ble_eq_true rfl)) dX7_endGuarded_126 (cAcc h38 hm42 hr9)) hC.2.2.1 (fun q _ h => hFc q h) hFc (fun u9 t9 H1 locs ht hvm hw hB hz1 hk1 hS => ?_)
        obtain ⟨⟨hP, hK1, hD1⟩, hsz1⟩ := hB
        rw [ht] at hP hsz1
        have hC : CP dC dI Q A s.heap p41.2 H1 locs := ⟨hP, hD1.weaken (fun _ _ _ h => hFc _ h), hS, hsz1⟩
        generalize H1 = H at hC ⊢
        have h44 : z9h ≤ CS.hs p41.2 := Nat.le_trans h38 hm42
        refine W.widen (k := CS.hs p41.2 - z9h) (n := 17 * (CS.hs p41.2 - z9h)) (cAcc2 h38 hm42) (cAcc3 h38 hm42) ?_
        refine lv_goto (tgt := 136) hx hb dX7_endGuarded_129 (by decide) ?_
        obtain rfl := Option.some.inj hf
        exact W.vret hx hb hr (fun t ht hW => ⟨⟨(), rfl, trivial, ⟨by rw [ht]; exact hC.1, va_K.moved hW.alike hK, hC.2.1⟩, by rw [ht]; exact hC.2.2.2⟩, hC.2.2.1.F ht⟩) hC.2.2.1.2.2 dX7_endGuarded_136
    ·
      replace hf := (if_neg c23).symm.trans hf
      exact j_X7_endGuarded_66 l dC dI Q N z9h R hx hb hr hml hown hts hlocks hZ hA hK p19.2 x1 _ _ _ hf h22 hC (lv_sub hl [1] rfl)
set_option maxHeartbeats 4000000 in
set_option maxRecDepth 100000 in
theorem c_X7_endGuarded (l : Launch) (dC : Nat → ClassId) (dI : Nat → Nat → Nat) (Q : CQ) (N : Nat) (σ : CS) (x1 : Nat) (R : Unit × CS) (hf : f_X7_endGuarded N σ x1 = some R) : Met l yX7_endGuarded wzX7_endGuarded ({ frames := 4, cells := CS.hs R.2 - CS.hs σ, slots := 17 * (CS.hs R.2 - CS.hs σ), locals := 60 * 4 }) (va_Pc [.ref (Q.o 3), .ref x1] (zPre dC dI (CS.hs σ) (cW Q σ) (cT Q))) (va_Qv (fun (_ : Unit) => True) (fun (_ : Unit) (t : State) => zPost dC dI (va_A (cW Q σ) (CS.hs σ)) (cW Q R.2) (cT Q) t ∧ t.heap.size = CS.hs R.2) (va_A (cW Q σ) (CS.hs σ))) (CS.hs R.2 - CS.hs σ) (17 * (CS.hs R.2 - CS.hs σ)) (va_A (cW Q σ) (CS.hs σ)) := by
  refine Met.ofW (cc := cX7_endGuarded) (maxL := 2) (ret := none) (by decide) rfl ?_
  intro p e s m args below meth c s₁ B hml hv
  obtain ⟨rfl, hsz, hZ, hP, hK, hD0⟩ := hv
  have hx := B.exec
  have hb := B.bytes
  have hr := B.returns
  have hts := atoms_spec (ws := wzX7_endGuarded) B.pre
  have hown : s.vm.findClass RX7 = some m.cls := findClass_of_methodNamed B.named
  have hlocks := B.notSynchronized
  have hD := hD0.self (sz := CS.hs σ)
  generalize hAe : va_A (cW Q σ) (CS.hs σ) = A at hD ⊢
  have hA : ∀ q : Nat, s.heap.size ≤ q → A q := fun q h => by rw [← hAe]; exact Or.inr (hsz ▸ h)
  have hC : CP dC dI Q A s.heap σ s.heap [] := ⟨hP, hD, va_S.rf, hsz⟩
  have h0 : CS.hs σ ≤ CS.hs σ := Nat.le_refl _
  have hl := lv_entry ([.ref (Q.o 3), .ref x1]) (n := 2) (Nat.le_of_ble_eq_true rfl)
  rw [lg_entry_eq]
  generalize (lg_sl ([.ref (Q.o 3), .ref x1]) ++ List.replicate (2 - (lg_sl ([.ref (Q.o 3), .ref x1])).length) Slot.unset).toArray = ls at hl ⊢
  have hl : lv_has ls 2 [(0, .ref (Q.o 3)), (1, .ref x1)] := hl
  unfold f_X7_endGuarded at hf
  refine W.widen (k := CS.hs σ - CS.hs σ) (n := 17 * (CS.hs σ - CS.hs σ)) (Nat.zero_le _) (Nat.zero_le _) ?_
  refine lv_aload_n hx hb dX7_endGuarded_0 rfl (lv_at hl 0 rfl) ?_
  refine lv_aload_n hx hb dX7_endGuarded_1 rfl (lv_at hl 1 rfl) ?_
  obtain ⟨b1, hf⟩ := hf_ite hf
  refine pGN_X5_9 (v := (CS.o σ x1 9)) hx hb hts i_X7_endGuarded_X5 hown hK hC (va_Nw.use rfl (hZ.1 (.fieldLinkNest RX7 196 "StatementRules2$Open" "exit" "I" "StatementRules2") (by decide +kernel))) (fun _ q9 => q9) dX7_endGuarded_2 b1 rfl ?_
  refine lv_aload_n hx hb dX7_endGuarded_5 rfl (lv_at hl 1 rfl) ?_
  refine pGN_X5_2 (v := (CS.o σ x1 2)) hx hb hts i_X7_endGuarded_X5 hown hK hC (va_Nw.use rfl (hZ.1 (.fieldLinkNest RX7 287 "StatementRules2$Open" "depth" "I" "StatementRules2") (by decide +kernel))) (fun _ q9 => q9) dX7_endGuarded_6 b1 rfl ?_
  obtain ⟨p2, hcp2, hf⟩ := hf_bind hf
  have hm3 : CS.hs σ ≤ CS.hs p2.2 := Mono.go hcp2 (m_X7_leave N σ (CS.o σ x1 9) (CS.o σ x1 2))
  have hr9 : CS.hs p2.2 ≤ CS.hs R.2 := Mono.go hf (mono_ite (mono_bind (m_X0_aim N p2.2 (CS.o p2.2 x1 10)) (fun p7 => (mono_ite (mono_ite (mono_ite (m_X7_endGuarded_46 N (CS.setO p7.2 x1 6 0) x1) (m_X7_endGuarded_46 N (CS.setO p7.2 x1 6 1) x1)) (m_X7_endGuarded_46 N (CS.setO p7.2 x1 6 1) x1)) mono_none))) mono_none)
  have hFc := cFree hC hA
  refine va_callv (va_runV (As := [.int (CS.o σ x1 9), .int (CS.o σ x1 2)]) (rest := []) ⟨hx, hb, hml, hown, hts⟩ (c_X7_leave l dC dI Q N σ (CS.o σ x1 9) (CS.o σ x1 2) p2 hcp2) (cwV 2 hts hX7_endGuarded_X7_leave_v288 rfl rfl rfl (by decide +kernel) ⟨(show 3 + 1 ≤ 4 by omega), (show 8 + (3 + 11) + 60 * 3 ≤ 60 * 4 by omega)⟩) ⟨zPre.blind, va_recv hK hC.1 (ci := 6) (q0 := 3) rfl rfl, cPre_go hZ hK hC⟩ rfl rfl hl.1 rfl (lv_room (Nat.le_of_ble_eq_true rfl)) dX7_endGuarded_9 (cAcc h0 hm3 hr9)) hC.2.2.1 (fun q _ h => hFc q h) hFc (fun u9 t9 H1 locs ht hvm hw hB hz1 hk1 hS => ?_)
  obtain ⟨⟨hP, hK1, hD1⟩, hsz1⟩ := hB
  rw [ht] at hP hsz1
  have hC : CP dC dI Q A s.heap p2.2 H1 locs := ⟨hP, hD1.weaken (fun _ _ _ h => hFc _ h), hS, hsz1⟩
  generalize H1 = H at hC ⊢
  have h5 : (CS.hs σ) ≤ CS.hs p2.2 := Nat.le_trans h0 hm3
  refine W.widen (k := CS.hs p2.2 - (CS.hs σ)) (n := 17 * (CS.hs p2.2 - (CS.hs σ))) (cAcc2 h0 hm3) (cAcc3 h0 hm3) ?_
  refine lv_aload_n hx hb dX7_endGuarded_12 rfl (lv_at hl 0 rfl) ?_
  refine cG_29 hx hb hts i_X7_endGuarded_X7 hown hK hC (hts (.fieldLink RX7 20 "StatementRules2$Statements" "code" "LStatementRules2$Code;") k_X7_endGuarded_fieldLink_RX7_20_SR_Statements_code_LSR_Code) (fun x9 q9 => u_same (hts (.sameField "StatementRules2$Statements" "StatementRules2$Formulas" "code" "LStatementRules2$Code;") k_X7_endGuarded_sameField_SR_Statements_SR_Formulas_code_LSR_Code) x9 q9) dX7_endGuarded_13 ?_
  refine lv_aload_n hx hb dX7_endGuarded_16 rfl (lv_at hl 1 rfl) ?_
  obtain ⟨b6, hf⟩ := hf_ite hf
  refine pGN_X5_10 (v := (CS.o p2.2 x1 10)) hx hb hts i_X7_endGuarded_X5 hown hK hC (va_Nw.use rfl (hZ.1 (.fieldLinkNest RX7 284 "StatementRules2$Open" "next" "I" "StatementRules2") (by decide +kernel))) (fun _ q9 => q9) dX7_endGuarded_17 b6 rfl ?_
  obtain ⟨p7, hcp7, hf⟩ := hf_bind hf
  have hm8 : CS.hs p2.2 ≤ CS.hs p7.2 := Mono.go hcp7 (m_X0_aim N p2.2 (CS.o p2.2 x1 10))
  have hr9 : CS.hs p7.2 ≤ CS.hs R.2 := Mono.go hf (mono_ite (mono_ite (mono_ite (m_X7_endGuarded_46 N (CS.setO p7.2 x1 6 0) x1) (m_X7_endGuarded_46 N (CS.setO p7.2 x1 6 1) x1)) (m_X7_endGuarded_46 N (CS.setO p7.2 x1 6 1) x1)) mono_none)
  have hFc := cFree hC hA
  refine va_callv (va_runV (As := [.int (CS.o p2.2 x1 10)]) (rest := []) ⟨hx, hb, hml, hown, hts⟩ (c_X0_aim l dC dI Q N p2.2 (CS.o p2.2 x1 10) p7 hcp7) (cwV 1 hts hX7_endGuarded_X0_aim_v158 rfl rfl rfl (by decide +kernel) ⟨(show 2 + 1 ≤ 4 by omega), (show 8 + (2 + 11) + 60 * 2 ≤ 60 * 4 by omega)⟩) ⟨zPre.blind, va_recv hK hC.1 (ci := 0) (q0 := 2) rfl rfl, cPre_go hZ hK hC⟩ rfl rfl hl.1 rfl (lv_room (Nat.le_of_ble_eq_true rfl)) dX7_endGuarded_20 (cAcc h5 hm8 hr9)) hC.2.2.1 (fun q _ h => hFc q h) hFc (fun u9 t9 H1 locs ht hvm hw hB hz1 hk1 hS => ?_)
  obtain ⟨⟨hP, hK1, hD1⟩, hsz1⟩ := hB
  rw [ht] at hP hsz1
  have hC : CP dC dI Q A s.heap p7.2 H1 locs := ⟨hP, hD1.weaken (fun _ _ _ h => hFc _ h), hS, hsz1⟩
  generalize H1 = H at hC ⊢
  have h10 : (CS.hs σ) ≤ CS.hs p7.2 := Nat.le_trans h5 hm8
  refine W.widen (k := CS.hs p7.2 - (CS.hs σ)) (n := 17 * (CS.hs p7.2 - (CS.hs σ))) (cAcc2 h5 hm8) (cAcc3 h5 hm8) ?_
  refine lv_aload_n hx hb dX7_endGuarded_23 rfl (lv_at hl 1 rfl) ?_
  refine lv_aload_n hx hb dX7_endGuarded_24 rfl (lv_at hl 1 rfl) ?_
  obtain ⟨b11, hf⟩ := hf_ite hf
  refine pGN_X5_6 (v := (CS.o p7.2 x1 6)) hx hb hts i_X7_endGuarded_X5 hown hK hC (va_Nw.use rfl (hZ.1 (.fieldLinkNest RX7 359 "StatementRules2$Open" "ends" "Z" "StatementRules2") (by decide +kernel))) (fun _ q9 => q9) dX7_endGuarded_25 b11 rfl ?_
  refine lv_if_ne (tgt := 38) hx hb dX7_endGuarded_28 (by decide) (fun c12 => ?_) (fun c12 => ?_)
  ·
    replace hf := (if_neg c12).symm.trans hf
    refine lv_iconst (v := 1) hx hb dX7_endGuarded_38 (by decide) ?_
    refine lv_goto (tgt := 43) hx hb dX7_endGuarded_39 (by decide) ?_
    refine pPN_X5_6 (v := 1) hx hb hts i_X7_endGuarded_X5 hown hK hC (va_Nw.use rfl (hZ.1 (.fieldLinkNest RX7 359 "StatementRules2$Open" "ends" "Z" "StatementRules2") (by decide +kernel))) (fun _ q9 => q9) dX7_endGuarded_43 b11 (by decide) (fun H locs hC => ?_)
    exact j_X7_endGuarded_46 l dC dI Q N (CS.hs σ) R hx hb hr hml hown hts hlocks hZ hA hK (CS.setO p7.2 x1 6 1) x1 _ _ _ hf h10 hC (lv_sub hl [0, 1] rfl)
  ·
    replace hf := (if_pos c12).symm.trans hf
    refine lv_aload_n hx hb dX7_endGuarded_31 rfl (lv_at hl 0 rfl) ?_
    refine cG_36 (v := (p7.2.i 36)) hx hb hts i_X7_endGuarded_X7 hown hK hC (hts (.fieldLink RX7 61 "StatementRules2$Statements" "alive" "Z") k_X7_endGuarded_fieldLink_RX7_61_SR_Statements_alive_Z) (fun _ q9 => q9) dX7_endGuarded_32 rfl ?_
    refine lv_if_eq (tgt := 42) hx hb dX7_endGuarded_35 (by decide) (fun c45 => ?_) (fun c45 => ?_)
    ·
      replace hf := (if_pos c45).symm.trans hf
      refine lv_iconst (v := 0) hx hb dX7_endGuarded_42 (by decide) ?_
      refine pPN_X5_6 (v := 0) hx hb hts i_X7_endGuarded_X5 hown hK hC (va_Nw.use rfl (hZ.1 (.fieldLinkNest RX7 359 "StatementRules2$Open" "ends" "Z" "StatementRules2") (by decide +kernel))) (fun _ q9 => q9) dX7_endGuarded_43 b11 (by decide) (fun H locs hC => ?_)
      exact j_X7_endGuarded_46 l dC dI Q N (CS.hs σ) R hx hb hr hml hown hts hlocks hZ hA hK (CS.setO p7.2 x1 6 0) x1 _ _ _ hf h10 hC (lv_sub hl [0, 1] rfl)
    ·
      replace hf := (if_neg c45).symm.trans hf
      refine lv_iconst (v := 1) hx hb dX7_endGuarded_38 (by decide) ?_
      refine lv_goto (tgt := 43) hx hb dX7_endGuarded_39 (by decide) ?_
      refine pPN_X5_6 (v := 1) hx hb hts i_X7_endGuarded_X5 hown hK hC (va_Nw.use rfl (hZ.1 (.fieldLinkNest RX7 359 "StatementRules2$Open" "ends" "Z" "StatementRules2") (by decide +kernel))) (fun _ q9 => q9) dX7_endGuarded_43 b11 (by decide) (fun H locs hC => ?_)
      exact j_X7_endGuarded_46 l dC dI Q N (CS.hs σ) R hx hb hr hml hown hts hlocks hZ hA hK (CS.setO p7.2 x1 6 1) x1 _ _ _ hf h10 hC (lv_sub hl [0, 1] rfl)
theorem k_X7_endFinally_fieldLink_RX7_20_SR_Statements_code_LSR_Code : Cond.fieldLink RX7 20 "StatementRules2$Statements" "code" "LStatementRules2$Code;" ∈ wzX7_endFinally := List.mem_cons_of_mem _ (List.mem_append_left _ (List.mem_of_getElem? (i := 0) rfl))
theorem k_X7_endFinally_sameField_SR_Statements_SR_Formulas_code_LSR_Code : Cond.sameField "StatementRules2$Statements" "StatementRules2$Formulas" "code" "LStatementRules2$Code;" ∈ wzX7_endFinally := List.mem_cons_of_mem _ (List.mem_append_left _ (List.mem_of_getElem? (i := 1) rfl))
theorem i_X7_endFinally_X7 : ∀ w ∈ wsX70, w ∈ wzX7_endFinally := fun _ h => List.mem_cons_of_mem _ (List.mem_append_right _ (List.mem_append_left _ (h)))
theorem i_X7_endFinally_X5 : ∀ w ∈ wsX50, w ∈ wzX7_endFinally := fun _ h => List.mem_cons_of_mem _ (List.mem_append_right _ (List.mem_append_right _ (List.mem_append_left _ (h))))
theorem k_X7_endFinally_fieldLink_RX7_61_SR_Statements_alive_Z : Cond.fieldLink RX7 61 "StatementRules2$Statements" "alive" "Z" ∈ wzX7_endFinally := List.mem_cons_of_mem _ (List.mem_append_left _ (List.mem_of_getElem? (i := 2) rfl))
theorem k_X7_endFinally_fieldLink_RX7_68_SR_Statements_depth_I : Cond.fieldLink RX7 68 "StatementRules2$Statements" "depth" "I" ∈ wzX7_endFinally := List.mem_cons_of_mem _ (List.mem_append_left _ (List.mem_of_getElem? (i := 3) rfl))
theorem k_X7_endFinally_fieldLink_RX7_14_SR_Statements_opens_LSR_Opens : Cond.fieldLink RX7 14 "StatementRules2$Statements" "opens" "LStatementRules2$Opens;" ∈ wzX7_endFinally := List.mem_cons_of_mem _ (List.mem_append_left _ (List.mem_of_getElem? (i := 4) rfl))
set_option maxHeartbeats 4000000 in
set_option maxRecDepth 100000 in
theorem j_X7_endFinally_66 {p : Program} {e : Env} {s : State} {m : MethodId} {args : Array Value} {below : List Frame} {meth : Method} {c : Code} {A : Nat → Prop} (l : Launch) (dC : Nat → ClassId) (dI : Nat → Nat → Nat) (Q : CQ) (N : Nat) (z9h : Nat) (R : Unit × CS) (hx : p.tables.exec = Jvm.exec) (hb : c.code = cX7_endFinally) (hr : meth.sig.returnType = none) (hml : c.maxLocals = 2) (hown : s.vm.findClass RX7 = some m.cls) (hts : ∀ w ∈ wzX7_endFinally, w.before args s = true) (hlocks : meth.locks = false) (hZ : zAMB s) (hA : ∀ q : Nat, s.heap.size ≤ q → A q) (hK : va_K (dC, dI) vwCl (cT Q) s) : ∀ (σ : CS) (H : Heap) (locs : List Loc) (ls : Array Slot), f_X7_endFinally_66 N σ = some R → z9h ≤ CS.hs σ → CP dC dI Q A s.heap σ H locs → lv_has ls 2 [(0, .ref (Q.o 3))] → W p l e ({ frames := 3, cells := CS.hs R.2 - z9h, slots := 17 * (CS.hs R.2 - z9h), locals := 60 * 3 }) s m args below meth c H locs (CS.hs σ - z9h) (17 * (CS.hs σ - z9h)) (MQ below (va_Qv (fun (_ : Unit) => True) (fun (_ : Unit) (t : State) => zPost dC dI A (cW Q R.2) (cT Q) t ∧ t.heap.size = CS.hs R.2) A) args s (CS.hs R.2 - z9h) (17 * (CS.hs R.2 - z9h)) A) (F0 m 66 ls []) := by
  intro σ  H locs ls hf h0 hC hl
  unfold f_X7_endFinally_66 at hf
  refine lv_aload_n hx hb dX7_endFinally_66 rfl (lv_at hl 0 rfl) ?_
  refine lv_dup hx hb dX7_endFinally_67 rfl ?_
  refine cG_38 (v := (σ.i 38)) hx hb hts i_X7_endFinally_X7 hown hK hC (hts (.fieldLink RX7 68 "StatementRules2$Statements" "depth" "I") k_X7_endFinally_fieldLink_RX7_68_SR_Statements_depth_I) (fun _ q9 => q9) dX7_endFinally_68 rfl ?_
  refine lv_iconst (v := 1) hx hb dX7_endFinally_71 (by decide) ?_
  refine lv_isub hx hb dX7_endFinally_72 ?_
  refine cP_38 (v := ((σ.i 38) - 1)) hx hb hts i_X7_endFinally_X7 hown hK hC (hts (.fieldLink RX7 68 "StatementRules2$Statements" "depth" "I") k_X7_endFinally_fieldLink_RX7_68_SR_Statements_depth_I) (fun _ q9 => q9) dX7_endFinally_73 (fun H locs hC => ?_)
  refine lv_aload_n hx hb dX7_endFinally_76 rfl (lv_at hl 0 rfl) ?_
  refine cG_35 hx hb hts i_X7_endFinally_X7 hown hK hC (hts (.fieldLink RX7 14 "StatementRules2$Statements" "opens" "LStatementRules2$Opens;") k_X7_endFinally_fieldLink_RX7_14_SR_Statements_opens_LSR_Opens) (fun _ q9 => q9) dX7_endFinally_77 ?_
  obtain ⟨p12, hcp12, hf⟩ := hf_bind hf
  have hm13 : CS.hs σ ≤ CS.hs p12.2 := Mono.go hcp12 (m_X6_pop N (CS.setI σ 38 ((σ.i 38) - 1)))
  have hr9 : CS.hs p12.2 ≤ CS.hs R.2 := Mono.go hf (mono_some (Nat.le_refl _))
  have hFc := cFree hC hA
  refine va_callv (va_runV (As := []) (rest := []) ⟨hx, hb, hml, hown, hts⟩ (c_X6_pop l dC dI Q N (CS.setI σ 38 ((σ.i 38) - 1)) p12 hcp12) (cwV 0 hts hX7_endFinally_X6_pop_v369 rfl rfl rfl (by decide +kernel) ⟨(show 1 + 1 ≤ 3 by omega), (show 8 + (1 + 11) + 60 * 1 ≤ 60 * 3 by omega)⟩) ⟨zPre.blind, va_recv hK hC.1 (ci := 5) (q0 := 6) rfl rfl, cPre_go hZ hK hC⟩ rfl rfl hl.1 rfl (lv_room (Nat.le_of_ble_eq_true rfl)) dX7_endFinally_80 (cAcc h0 hm13 hr9)) hC.2.2.1 (fun q _ h => hFc q h) hFc (fun u9 t9 H1 locs ht hvm hw hB hz1 hk1 hS => ?_)
  obtain ⟨⟨hP, hK1, hD1⟩, hsz1⟩ := hB
  rw [ht] at hP hsz1
  have hC : CP dC dI Q A s.heap p12.2 H1 locs := ⟨hP, hD1.weaken (fun _ _ _ h => hFc _ h), hS, hsz1⟩
  generalize H1 = H at hC ⊢
  have h15 : z9h ≤ CS.hs p12.2 := Nat.le_trans h0 hm13
  refine W.widen (k := CS.hs p12.2 - z9h) (n := 17 * (CS.hs p12.2 - z9h)) (cAcc2 h0 hm13) (cAcc3 h0 hm13) ?_
  obtain rfl := Option.some.inj hf
  exact W.vret hx hb hr (fun t ht hW => ⟨⟨(), rfl, trivial, ⟨by rw [ht]; exact hC.1, va_K.moved hW.alike hK, hC.2.1⟩, by rw [ht]; exact hC.2.2.2⟩, hC.2.2.1.F ht⟩) hC.2.2.1.2.2 dX7_endFinally_83
set_option maxHeartbeats 4000000 in
set_option maxRecDepth 100000 in
theorem j_X7_endFinally_43 {p : Program} {e : Env} {s : State} {m : MethodId} {args : Array Value} {below : List Frame} {meth : Method} {c : Code} {A : Nat → Prop} (l : Launch) (dC : Nat → ClassId) (dI : Nat → Nat → Nat) (Q : CQ) (N : Nat) (z9h : Nat) (R : Unit × CS) (hx : p.tables.exec = Jvm.exec) (hb : c.code = cX7_endFinally) (hr : meth.sig.returnType = none) (hml : c.maxLocals = 2) (hown : s.vm.findClass RX7 = some m.cls) (hts : ∀ w ∈ wzX7_endFinally, w.before args s = true) (hlocks : meth.locks = false) (hZ : zAMB s) (hA : ∀ q : Nat, s.heap.size ≤ q → A q) (hK : va_K (dC, dI) vwCl (cT Q) s) : ∀ (σ : CS) (x1 : Nat) (H : Heap) (locs : List Loc) (ls : Array Slot), f_X7_endFinally_43 N σ x1 = some R → z9h ≤ CS.hs σ → CP dC dI Q A s.heap σ H locs → lv_has ls 2 [(0, .ref (Q.o 3)), (1, .ref x1)] → W p l e ({ frames := 3, cells := CS.hs R.2 - z9h, slots := 17 * (CS.hs R.2 - z9h), locals := 60 * 3 }) s m args below meth c H locs (CS.hs σ - z9h) (17 * (CS.hs σ - z9h)) (MQ below (va_Qv (fun (_ : Unit) => True) (fun (_ : Unit) (t : State) => zPost dC dI A (cW Q R.2) (cT Q) t ∧ t.heap.size = CS.hs R.2) A) args s (CS.hs R.2 - z9h) (17 * (CS.hs R.2 - z9h)) A) (F0 m 43 ls []) := by
  intro σ x1 H locs ls hf h0 hC hl
  unfold f_X7_endFinally_43 at hf
  refine lv_aload_n hx hb dX7_endFinally_43 rfl (lv_at hl 0 rfl) ?_
  refine lv_aload_n hx hb dX7_endFinally_44 rfl (lv_at hl 0 rfl) ?_
  refine cG_36 (v := (σ.i 36)) hx hb hts i_X7_endFinally_X7 hown hK hC (hts (.fieldLink RX7 61 "StatementRules2$Statements" "alive" "Z") k_X7_endFinally_fieldLink_RX7_61_SR_Statements_alive_Z) (fun _ q9 => q9) dX7_endFinally_45 rfl ?_
  refine lv_if_eq (tgt := 62) hx hb dX7_endFinally_48 (by decide) (fun c11 => ?_) (fun c11 => ?_)
  ·
    replace hf := (if_pos c11).symm.trans hf
    refine lv_iconst (v := 0) hx hb dX7_endFinally_62 (by decide) ?_
    refine cP_36 (v := 0) hx hb hts i_X7_endFinally_X7 hown hK hC (hts (.fieldLink RX7 61 "StatementRules2$Statements" "alive" "Z") k_X7_endFinally_fieldLink_RX7_61_SR_Statements_alive_Z) (fun _ q9 => q9) dX7_endFinally_63 (by decide) (fun H locs hC => ?_)
    exact j_X7_endFinally_66 l dC dI Q N z9h R hx hb hr hml hown hts hlocks hZ hA hK (CS.setI σ 36 0) _ _ _ hf h0 hC (lv_sub hl [0] rfl)
  ·
    replace hf := (if_neg c11).symm.trans hf
    refine lv_aload_n hx hb dX7_endFinally_51 rfl (lv_at hl 1 rfl) ?_
    obtain ⟨b16, hf⟩ := hf_ite hf
    refine pGN_X5_6 (v := (CS.o σ x1 6)) hx hb hts i_X7_endFinally_X5 hown hK hC (va_Nw.use rfl (hZ.1 (.fieldLinkNest RX7 359 "StatementRules2$Open" "ends" "Z" "StatementRules2") (by decide +kernel))) (fun _ q9 => q9) dX7_endFinally_52 b16 rfl ?_
    refine lv_if_eq (tgt := 62) hx hb dX7_endFinally_55 (by decide) (fun c17 => ?_) (fun c17 => ?_)
    ·
      replace hf := (if_pos c17).symm.trans hf
      refine lv_iconst (v := 0) hx hb dX7_endFinally_62 (by decide) ?_
      refine cP_36 (v := 0) hx hb hts i_X7_endFinally_X7 hown hK hC (hts (.fieldLink RX7 61 "StatementRules2$Statements" "alive" "Z") k_X7_endFinally_fieldLink_RX7_61_SR_Statements_alive_Z) (fun _ q9 => q9) dX7_endFinally_63 (by decide) (fun H locs hC => ?_)
      exact j_X7_endFinally_66 l dC dI Q N z9h R hx hb hr hml hown hts hlocks hZ hA hK (CS.setI σ 36 0) _ _ _ hf h0 hC (lv_sub hl [0] rfl)
    ·
      replace hf := (if_neg c17).symm.trans hf
      refine lv_iconst (v := 1) hx hb dX7_endFinally_58 (by decide) ?_
      refine lv_goto (tgt := 63) hx hb dX7_endFinally_59 (by decide) ?_
      refine cP_36 (v := 1) hx hb hts i_X7_endFinally_X7 hown hK hC (hts (.fieldLink RX7 61 "StatementRules2$Statements" "alive" "Z") k_X7_endFinally_fieldLink_RX7_61_SR_Statements_alive_Z) (fun _ q9 => q9) dX7_endFinally_63 (by decide) (fun H locs hC => ?_)
      exact j_X7_endFinally_66 l dC dI Q N z9h R hx hb hr hml hown hts hlocks hZ hA hK (CS.setI σ 36 1) _ _ _ hf h0 hC (lv_sub hl [0] rfl)
set_option maxHeartbeats 4000000 in
set_option maxRecDepth 100000 in
theorem c_X7_endFinally (l : Launch) (dC : Nat → ClassId) (dI : Nat → Nat → Nat) (Q : CQ) (N : Nat) (σ : CS) (x1 : Nat) (R : Unit × CS) (hf : f_X7_endFinally N σ x1 = some R) : Met l yX7_endFinally wzX7_endFinally ({ frames := 3, cells := CS.hs R.2 - CS.hs σ, slots := 17 * (CS.hs R.2 - CS.hs σ), locals := 60 * 3 }) (va_Pc [.ref (Q.o 3), .ref x1] (zPre dC dI (CS.hs σ) (cW Q σ) (cT Q))) (va_Qv (fun (_ : Unit) => True) (fun (_ : Unit) (t : State) => zPost dC dI (va_A (cW Q σ) (CS.hs σ)) (cW Q R.2) (cT Q) t ∧ t.heap.size = CS.hs R.2) (va_A (cW Q σ) (CS.hs σ))) (CS.hs R.2 - CS.hs σ) (17 * (CS.hs R.2 - CS.hs σ)) (va_A (cW Q σ) (CS.hs σ)) := by
  refine Met.ofW (cc := cX7_endFinally) (maxL := 2) (ret := none) (by decide) rfl ?_
  intro p e s m args below meth c s₁ B hml hv
  obtain ⟨rfl, hsz, hZ, hP, hK, hD0⟩ := hv
  have hx := B.exec
  have hb := B.bytes
  have hr := B.returns
  have hts := atoms_spec (ws := wzX7_endFinally) B.pre
  have hown : s.vm.findClass RX7 = some m.cls := findClass_of_methodNamed B.named
  have hlocks := B.notSynchronized
  have hD := hD0.self (sz := CS.hs σ)
  generalize hAe : va_A (cW Q σ) (CS.hs σ) = A at hD ⊢
  have hA : ∀ q : Nat, s.heap.size ≤ q → A q := fun q h => by rw [← hAe]; exact Or.inr (hsz ▸ h)
  have hC : CP dC dI Q A s.heap σ s.heap [] := ⟨hP, hD, va_S.rf, hsz⟩
  have h0 : CS.hs σ ≤ CS.hs σ := Nat.le_refl _
  have hl := lv_entry ([.ref (Q.o 3), .ref x1]) (n := 2) (Nat.le_of_ble_eq_true rfl)
  rw [lg_entry_eq]
  generalize (lg_sl ([.ref (Q.o 3), .ref x1]) ++ List.replicate (2 - (lg_sl ([.ref (Q.o 3), .ref x1])).length) Slot.unset).toArray = ls at hl ⊢
  have hl : lv_has ls 2 [(0, .ref (Q.o 3)), (1, .ref x1)] := hl
  unfold f_X7_endFinally at hf
  refine W.widen (k := CS.hs σ - CS.hs σ) (n := 17 * (CS.hs σ - CS.hs σ)) (Nat.zero_le _) (Nat.zero_le _) ?_
  refine lv_aload_n hx hb dX7_endFinally_0 rfl (lv_at hl 0 rfl) ?_
  refine cG_29 hx hb hts i_X7_endFinally_X7 hown hK hC (hts (.fieldLink RX7 20 "StatementRules2$Statements" "code" "LStatementRules2$Code;") k_X7_endFinally_fieldLink_RX7_20_SR_Statements_code_LSR_Code) (fun x9 q9 => u_same (hts (.sameField "StatementRules2$Statements" "StatementRules2$Formulas" "code" "LStatementRules2$Code;") k_X7_endFinally_sameField_SR_Statements_SR_Formulas_code_LSR_Code) x9 q9) dX7_endFinally_1 ?_
  refine lv_bipush (v := 59) hx hb dX7_endFinally_4 (by decide) ?_
  refine lv_iconst (v := 0) hx hb dX7_endFinally_6 (by decide) ?_
  obtain ⟨p1, hcp1, hf⟩ := hf_bind hf
  have hm2 : CS.hs σ ≤ CS.hs p1.2 := Mono.go hcp1 (m_X0_add N σ 59 0)
  have hr9 : CS.hs p1.2 ≤ CS.hs R.2 := Mono.go hf (mono_ite (mono_bind (m_X0_aim N p1.2 (CS.o p1.2 x1 9)) (fun p6 => (mono_ite (mono_ite (mono_bind (m_X6_loseJumps N p6.2 (CS.o p6.2 x1 14) (CS.o p6.2 x1 15)) (fun p19 => (m_X7_endFinally_43 N p19.2 x1))) mono_none) (m_X7_endFinally_43 N p6.2 x1)))) mono_none)
  have hFc := cFree hC hA
  refine va_callv (va_runV (As := [.int 59, .int 0]) (rest := []) ⟨hx, hb, hml, hown, hts⟩ (c_X0_add l dC dI Q N σ 59 0 p1 hcp1) (cwV 2 hts hX7_endFinally_X0_add_v176 rfl rfl rfl (by decide +kernel) ⟨(show 2 + 1 ≤ 3 by omega), (show 8 + (3 + 11) + 60 * 2 ≤ 60 * 3 by omega)⟩) ⟨zPre.blind, va_recv hK hC.1 (ci := 0) (q0 := 2) rfl rfl, cPre_go hZ hK hC⟩ rfl rfl hl.1 rfl (lv_room (Nat.le_of_ble_eq_true rfl)) dX7_endFinally_7 (cAcc h0 hm2 hr9)) hC.2.2.1 (fun q _ h => hFc q h) hFc (fun u9 t9 H1 locs ht hvm hw hB hz1 hk1 hS => ?_)
  obtain ⟨⟨hP, hK1, hD1⟩, hsz1⟩ := hB
  rw [ht] at hP hsz1
  have hC : CP dC dI Q A s.heap p1.2 H1 locs := ⟨hP, hD1.weaken (fun _ _ _ h => hFc _ h), hS, hsz1⟩
  generalize H1 = H at hC ⊢
  have h4 : (CS.hs σ) ≤ CS.hs p1.2 := Nat.le_trans h0 hm2
  refine W.widen (k := CS.hs p1.2 - (CS.hs σ)) (n := 17 * (CS.hs p1.2 - (CS.hs σ))) (cAcc2 h0 hm2) (cAcc3 h0 hm2) ?_
  refine lv_aload_n hx hb dX7_endFinally_10 rfl (lv_at hl 0 rfl) ?_
  refine cG_29 hx hb hts i_X7_endFinally_X7 hown hK hC (hts (.fieldLink RX7 20 "StatementRules2$Statements" "code" "LStatementRules2$Code;") k_X7_endFinally_fieldLink_RX7_20_SR_Statements_code_LSR_Code) (fun x9 q9 => u_same (hts (.sameField "StatementRules2$Statements" "StatementRules2$Formulas" "code" "LStatementRules2$Code;") k_X7_endFinally_sameField_SR_Statements_SR_Formulas_code_LSR_Code) x9 q9) dX7_endFinally_11 ?_
  refine lv_aload_n hx hb dX7_endFinally_14 rfl (lv_at hl 1 rfl) ?_
  obtain ⟨b5, hf⟩ := hf_ite hf
  refine pGN_X5_9 (v := (CS.o p1.2 x1 9)) hx hb hts i_X7_endFinally_X5 hown hK hC (va_Nw.use rfl (hZ.1 (.fieldLinkNest RX7 196 "StatementRules2$Open" "exit" "I" "StatementRules2") (by decide +kernel))) (fun _ q9 => q9) dX7_endFinally_15 b5 rfl ?_
  obtain ⟨p6, hcp6, hf⟩ := hf_bind hf
  have hm7 : CS.hs p1.2 ≤ CS.hs p6.2 := Mono.go hcp6 (m_X0_aim N p1.2 (CS.o p1.2 x1 9))
  have hr9 : CS.hs p6.2 ≤ CS.hs R.2 := Mono.go hf (mono_ite (mono_ite (mono_bind (m_X6_loseJumps N p6.2 (CS.o p6.2 x1 14) (CS.o p6.2 x1 15)) (fun p19 => (m_X7_endFinally_43 N p19.2 x1))) mono_none) (m_X7_endFinally_43 N p6.2 x1))
  have hFc := cFree hC hA
  refine va_callv (va_runV (As := [.int (CS.o p1.2 x1 9)]) (rest := []) ⟨hx, hb, hml, hown, hts⟩ (c_X0_aim l dC dI Q N p1.2 (CS.o p1.2 x1 9) p6 hcp6) (cwV 1 hts hX7_endFinally_X0_aim_v158 rfl rfl rfl (by decide +kernel) ⟨(show 2 + 1 ≤ 3 by omega), (show 8 + (2 + 11) + 60 * 2 ≤ 60 * 3 by omega)⟩) ⟨zPre.blind, va_recv hK hC.1 (ci := 0) (q0 := 2) rfl rfl, cPre_go hZ hK hC⟩ rfl rfl hl.1 rfl (lv_room (Nat.le_of_ble_eq_true rfl)) dX7_endFinally_18 (cAcc h4 hm7 hr9)) hC.2.2.1 (fun q _ h => hFc q h) hFc (fun u9 t9 H1 locs ht hvm hw hB hz1 hk1 hS => ?_)
  obtain ⟨⟨hP, hK1, hD1⟩, hsz1⟩ := hB
  rw [ht] at hP hsz1
  have hC : CP dC dI Q A s.heap p6.2 H1 locs := ⟨hP, hD1.weaken (fun _ _ _ h => hFc _ h), hS, hsz1⟩
  generalize H1 = H at hC ⊢
  have h9 : (CS.hs σ) ≤ CS.hs p6.2 := Nat.le_trans h4 hm7
  refine W.widen (k := CS.hs p6.2 - (CS.hs σ)) (n := 17 * (CS.hs p6.2 - (CS.hs σ))) (cAcc2 h4 hm7) (cAcc3 h4 hm7) ?_
  refine lv_aload_n hx hb dX7_endFinally_21 rfl (lv_at hl 0 rfl) ?_
  refine cG_36 (v := (p6.2.i 36)) hx hb hts i_X7_endFinally_X7 hown hK hC (hts (.fieldLink RX7 61 "StatementRules2$Statements" "alive" "Z") k_X7_endFinally_fieldLink_RX7_61_SR_Statements_alive_Z) (fun _ q9 => q9) dX7_endFinally_22 rfl ?_
  refine lv_if_ne (tgt := 43) hx hb dX7_endFinally_25 (by decide) (fun c10 => ?_) (fun c10 => ?_)
  ·
    replace hf := (if_neg c10).symm.trans hf
    exact j_X7_endFinally_43 l dC dI Q N (CS.hs σ) R hx hb hr hml hown hts hlocks hZ hA hK p6.2 x1 _ _ _ hf h9 hC (lv_sub hl [0, 1] rfl)
  ·
    replace hf := (if_pos c10).symm.trans hf
    refine lv_aload_n hx hb dX7_endFinally_28 rfl (lv_at hl 0 rfl) ?_
    refine cG_35 hx hb hts i_X7_endFinally_X7 hown hK hC (hts (.fieldLink RX7 14 "StatementRules2$Statements" "opens" "LStatementRules2$Opens;") k_X7_endFinally_fieldLink_RX7_14_SR_Statements_opens_LSR_Opens) (fun _ q9 => q9) dX7_endFinally_29 ?_
    refine lv_aload_n hx hb dX7_endFinally_32 rfl (lv_at hl 1 rfl) ?_
    obtain ⟨b18, hf⟩ := hf_ite hf
    refine pGN_X5_14 (v := (CS.o p6.2 x1 14)) hx hb hts i_X7_endFinally_X5 hown hK hC (va_Nw.use rfl (hZ.1 (.fieldLinkNest RX7 407 "StatementRules2$Open" "firstJump" "I" "StatementRules2") (by decide +kernel))) (fun _ q9 => q9) dX7_endFinally_33 b18 rfl ?_
    refine lv_aload_n hx hb dX7_endFinally_36 rfl (lv_at hl 1 rfl) ?_
    refine pGN_X5_15 (v := (CS.o p6.2 x1 15)) hx hb hts i_X7_endFinally_X5 hown hK hC (va_Nw.use rfl (hZ.1 (.fieldLinkNest RX7 404 "StatementRules2$Open" "finallyJump" "I" "StatementRules2") (by decide +kernel))) (fun _ q9 => q9) dX7_endFinally_37 b18 rfl ?_
    obtain ⟨p19, hcp19, hf⟩ := hf_bind hf
    have hm20 : CS.hs p6.2 ≤ CS.hs p19.2 := Mono.go hcp19 (m_X6_loseJumps N p6.2 (CS.o p6.2 x1 14) (CS.o p6.2 x1 15))
    have hr9 : CS.hs p19.2 ≤ CS.hs R.2 := Mono.go hf (m_X7_endFinally_43 N p19.2 x1)
    have hFc := cFree hC hA
    refine va_callv (va_runV (As := [.int (CS.o p6.2 x1 14), .int (CS.o p6.2 x1 15)]) (rest := []) ⟨hx, hb, hml, hown, hts⟩ (c_X6_loseJumps l dC dI Q N p6.2 (CS.o p6.2 x1 14) (CS.o p6.2 x1 15) p19 hcp19) (cwV 2 hts hX7_endFinally_X6_loseJumps_v410 rfl rfl rfl (by decide +kernel) ⟨(show 2 + 1 ≤ 3 by omega), (show 8 + (4 + 11) + 60 * 2 ≤ 60 * 3 by omega)⟩) ⟨zPre.blind, va_recv hK hC.1 (ci := 5) (q0 := 6) rfl rfl, cPre_go hZ hK hC⟩ rfl rfl hl.1 rfl (lv_room (Nat.le_of_ble_eq_true rfl)) dX7_endFinally_40 (cAcc h9 hm20 hr9)) hC.2.2.1 (fun q _ h => hFc q h) hFc (fun u9 t9 H1 locs ht hvm hw hB hz1 hk1 hS => ?_)
    obtain ⟨⟨hP, hK1, hD1⟩, hsz1⟩ := hB
    rw [ht] at hP hsz1
    have hC : CP dC dI Q A s.heap p19.2 H1 locs := ⟨hP, hD1.weaken (fun _ _ _ h => hFc _ h), hS, hsz1⟩
    generalize H1 = H at hC ⊢
    have h22 : (CS.hs σ) ≤ CS.hs p19.2 := Nat.le_trans h9 hm20
    refine W.widen (k := CS.hs p19.2 - (CS.hs σ)) (n := 17 * (CS.hs p19.2 - (CS.hs σ))) (cAcc2 h9 hm20) (cAcc3 h9 hm20) ?_
    exact j_X7_endFinally_43 l dC dI Q N (CS.hs σ) R hx hb hr hml hown hts hlocks hZ hA hK p19.2 x1 _ _ _ hf h22 hC (lv_sub hl [0, 1] rfl)
