theorem k_X3_answer_fieldLink_RX3_69_SR_Machine_steps_I : Cond.fieldLink RX3 69 "StatementRules2$Machine" "steps" "I" ∈ wzX3_answer := List.mem_cons_of_mem _ (List.mem_append_left _ (List.mem_of_getElem? (i := 0) rfl))
theorem i_X3_answer_X3 : ∀ w ∈ wsX30, w ∈ wzX3_answer := fun _ h => List.mem_cons_of_mem _ (List.mem_append_right _ (List.mem_append_left _ (h)))
theorem k_X3_answer_fieldLink_RX3_66_SR_Machine_rowCount_I : Cond.fieldLink RX3 66 "StatementRules2$Machine" "rowCount" "I" ∈ wzX3_answer := List.mem_cons_of_mem _ (List.mem_append_left _ (List.mem_of_getElem? (i := 1) rfl))
theorem k_X3_answer_fieldLink_RX3_85_SR_Machine_outcome_I : Cond.fieldLink RX3 85 "StatementRules2$Machine" "outcome" "I" ∈ wzX3_answer := List.mem_cons_of_mem _ (List.mem_append_left _ (List.mem_of_getElem? (i := 2) rfl))
theorem k_X3_answer_fieldLink_RX3_78_SR_Machine_wayValue_I : Cond.fieldLink RX3 78 "StatementRules2$Machine" "wayValue" "I" ∈ wzX3_answer := List.mem_cons_of_mem _ (List.mem_append_left _ (List.mem_of_getElem? (i := 3) rfl))
theorem k_X3_answer_fieldLink_RX3_72_SR_Machine_taken_I : Cond.fieldLink RX3 72 "StatementRules2$Machine" "taken" "I" ∈ wzX3_answer := List.mem_cons_of_mem _ (List.mem_append_left _ (List.mem_of_getElem? (i := 4) rfl))
theorem i_X3_answer_X8 : ∀ w ∈ wsX80, w ∈ wzX3_answer := fun _ h => List.mem_cons_of_mem _ (List.mem_append_right _ (List.mem_append_right _ (List.mem_append_left _ (h))))
set_option maxHeartbeats 4000000 in
set_option maxRecDepth 100000 in
theorem c_X3_answer (l : Launch) (dC : Nat → ClassId) (dI : Nat → Nat → Nat) (Q : CQ) (N : Nat) (σ : CS) (x1 : Int32) (R : Int32 × CS) (hf : f_X3_answer N σ x1 = some R) : Met l yX3_answer wzX3_answer ({ frames := 2, cells := CS.hs R.2 - CS.hs σ, slots := 17 * (CS.hs R.2 - CS.hs σ), locals := 60 * 2 }) (va_Pc [.ref (Q.o 7), .int x1] (zPre dC dI (CS.hs σ) (cW Q σ) (cT Q))) (va_Qi (fun (r : Int32) (_ : Unit) => r = R.1) (fun (_ : Unit) (t : State) => zPost dC dI (va_A (cW Q σ) (CS.hs σ)) (cW Q R.2) (cT Q) t ∧ t.heap.size = CS.hs R.2) (va_A (cW Q σ) (CS.hs σ))) (CS.hs R.2 - CS.hs σ) (17 * (CS.hs R.2 - CS.hs σ)) (va_A (cW Q σ) (CS.hs σ)) := by
  refine Met.ofW (cc := cX3_answer) (maxL := 3) (ret := (some .int)) (by decide) rfl ?_
  intro p e s m args below meth c s₁ B hml hv
  obtain ⟨rfl, hsz, hZ, hP, hK, hD0⟩ := hv
  have hx := B.exec
  have hb := B.bytes
  have hr := B.returns
  have hts := atoms_spec (ws := wzX3_answer) B.pre
  have hown : s.vm.findClass RX3 = some m.cls := findClass_of_methodNamed B.named
  have hlocks := B.notSynchronized
  have hD := hD0.self (sz := CS.hs σ)
  generalize hAe : va_A (cW Q σ) (CS.hs σ) = A at hD ⊢
  have hA : ∀ q : Nat, s.heap.size ≤ q → A q := fun q h => by rw [← hAe]; exact Or.inr (hsz ▸ h)
  have hC : CP dC dI Q A s.heap σ s.heap [] := ⟨hP, hD, va_S.rf, hsz⟩
  have h0 : CS.hs σ ≤ CS.hs σ := Nat.le_refl _
  have hl := lv_entry ([.ref (Q.o 7), .int x1]) (n := 3) (Nat.le_of_ble_eq_true rfl)
  rw [lg_entry_eq]
  generalize (lg_sl ([.ref (Q.o 7), .int x1]) ++ List.replicate (3 - (lg_sl ([.ref (Q.o 7), .int x1])).length) Slot.unset).toArray = ls at hl ⊢
  have hl : lv_has ls 3 [(0, .ref (Q.o 7)), (1, .int x1)] := hl
  unfold f_X3_answer at hf
  refine W.widen (k := CS.hs σ - CS.hs σ) (n := 17 * (CS.hs σ - CS.hs σ)) (Nat.zero_le _) (Nat.zero_le _) ?_
  refine lv_aload_n hx hb dX3_answer_0 rfl (lv_at hl 0 rfl) ?_
  obtain ⟨p1, hcp1, hf⟩ := hf_bind hf
  have mo2 : CS.hs σ ≤ CS.hs p1.2 := Mono.go hcp1 (m_X3_lastThrown N σ)
  have hr9 : CS.hs p1.2 ≤ CS.hs R.2 := Mono.go hf (mono_oc (mono_ite (mono_some (Nat.le_refl _)) (mono_ite (mono_some (Nat.le_refl _)) (mono_ite (mono_ite (mono_some (Nat.le_refl _)) (mono_some (Nat.le_refl _))) (mono_ite (mono_some (Nat.le_refl _)) (mono_ite (mono_some (Nat.le_refl _)) (mono_ite (mono_some (Nat.le_refl _)) (mono_some (Nat.le_refl _)))))))) (fun a6 => (mono_ite (mono_some (Nat.le_refl _)) (mono_ite (mono_some (Nat.le_refl _)) (mono_ite (mono_ite (mono_some (Nat.le_refl _)) (mono_some (Nat.le_refl _))) (mono_ite (mono_ite (mono_some (Nat.le_refl _)) mono_none) (mono_ite (mono_ite (mono_some (Nat.le_refl _)) mono_none) (mono_ite (mono_ite (mono_some (Nat.le_refl _)) mono_none) (mono_some (Nat.le_refl _))))))))))
  have hFc := cFree hC hA
  refine va_callq (va_runV (As := []) (rest := []) ⟨hx, hb, hml, hown, hts⟩ (c_X3_lastThrown l dC dI Q N σ p1 hcp1) (cwV 0 hts hX3_answer_X3_lastThrown_v95 rfl rfl rfl (by decide +kernel) ⟨(show 1 + 1 ≤ 2 by omega), (show 8 + (1 + 11) + 60 * 1 ≤ 60 * 2 by omega)⟩) ⟨zPre.blind, va_recv hK hC.1 (ci := 2) (q0 := 7) rfl rfl, cPre_go hZ hK hC⟩ rfl rfl hl.1 rfl (lv_room (Nat.le_of_ble_eq_true rfl)) dX3_answer_1 (cAcc h0 mo2 hr9)) hC.2.2.1 (fun q _ h => hFc q h) hFc (fun r3 u9 t9 H1 locs ht hvm hw hB hz1 hk1 hS => ?_)
  obtain ⟨⟨hP, hK1, hD1⟩, hsz1⟩ := hB
  rw [ht] at hP hsz1
  have hC : CP dC dI Q A s.heap p1.2 H1 locs := ⟨hP, hD1.weaken (fun _ _ _ h => hFc _ h), hS, hsz1⟩
  generalize H1 = H at hC ⊢
  have h4 : (CS.hs σ) ≤ CS.hs p1.2 := Nat.le_trans h0 mo2
  refine W.widen (k := CS.hs p1.2 - (CS.hs σ)) (n := 17 * (CS.hs p1.2 - (CS.hs σ))) (cAcc2 h0 mo2) (cAcc3 h0 mo2) ?_
  obtain rfl : r3 = p1.1 := hw
  rcases hf_oc hf with ⟨q5, hf⟩ | ⟨a6, q5, hf⟩
  ·
    refine W.eq (congrArg (fun v9 => F0 m 4 ls (va_rf v9 :: [])) q5) ?_
    refine W.eq (g2 := F0 m 4 ls (.null :: [])) rfl ?_
    refine lv_astore_nN (lv' := [(2, .null), (0, .ref (Q.o 7)), (1, .int x1)]) hx hb dX3_answer_4 rfl hl (by decide) rfl (fun ls hl => ?_)
    refine lv_iload_n hx hb dX3_answer_5 rfl (lv_at hl 2 rfl) ?_
    by_cases c7 : x1 = 0
    ·
      replace hf := (if_pos c7).symm.trans hf
      refine lv_tableIn (off := 38) (tgt := 44) hx hb dX3_answer_6 (by rw [c7]; decide) (by rw [c7]; decide) (by rw [c7]; decide) (by decide) ?_
      refine lv_aload_n hx hb dX3_answer_44 rfl (lv_at hl 1 rfl) ?_
      refine cG_70 (v := (p1.2.i 70)) hx hb hts i_X3_answer_X3 hown hK hC (hts (.fieldLink RX3 69 "StatementRules2$Machine" "steps" "I") k_X3_answer_fieldLink_RX3_69_SR_Machine_steps_I) (fun _ q9 => q9) dX3_answer_45 rfl ?_
      obtain rfl := Option.some.inj hf
      exact W.iret (v := (p1.2.i 70)) hx hb hr (fun t ht hW => ⟨⟨(p1.2.i 70), (), rfl, rfl, ⟨by rw [ht]; exact hC.1, va_K.moved hW.alike hK, hC.2.1⟩, by rw [ht]; exact hC.2.2.2⟩, hC.2.2.1.F ht⟩) hC.2.2.1.2.2 dX3_answer_48
    replace hf := (if_neg c7).symm.trans hf
    by_cases c8 : x1 = 1
    ·
      replace hf := (if_pos c8).symm.trans hf
      refine lv_tableIn (off := 43) (tgt := 49) hx hb dX3_answer_6 (by rw [c8]; decide) (by rw [c8]; decide) (by rw [c8]; decide) (by decide) ?_
      refine lv_aload_n hx hb dX3_answer_49 rfl (lv_at hl 1 rfl) ?_
      refine cG_69 (v := (p1.2.i 69)) hx hb hts i_X3_answer_X3 hown hK hC (hts (.fieldLink RX3 66 "StatementRules2$Machine" "rowCount" "I") k_X3_answer_fieldLink_RX3_66_SR_Machine_rowCount_I) (fun _ q9 => q9) dX3_answer_50 rfl ?_
      obtain rfl := Option.some.inj hf
      exact W.iret (v := (p1.2.i 69)) hx hb hr (fun t ht hW => ⟨⟨(p1.2.i 69), (), rfl, rfl, ⟨by rw [ht]; exact hC.1, va_K.moved hW.alike hK, hC.2.1⟩, by rw [ht]; exact hC.2.2.2⟩, hC.2.2.1.F ht⟩) hC.2.2.1.2.2 dX3_answer_53
    replace hf := (if_neg c8).symm.trans hf
    by_cases c9 : x1 = 2
    ·
      replace hf := (if_pos c9).symm.trans hf
      refine lv_tableIn (off := 48) (tgt := 54) hx hb dX3_answer_6 (by rw [c9]; decide) (by rw [c9]; decide) (by rw [c9]; decide) (by decide) ?_
      refine lv_aload_n hx hb dX3_answer_54 rfl (lv_at hl 1 rfl) ?_
      refine cG_72 (v := (p1.2.i 72)) hx hb hts i_X3_answer_X3 hown hK hC (hts (.fieldLink RX3 85 "StatementRules2$Machine" "outcome" "I") k_X3_answer_fieldLink_RX3_85_SR_Machine_outcome_I) (fun _ q9 => q9) dX3_answer_55 rfl ?_
      refine lv_iconst (v := 1) hx hb dX3_answer_58 (by decide) ?_
      refine lv_icmp_ne (tgt := 69) hx hb dX3_answer_59 (by decide) (fun c10 => ?_) (fun c10 => ?_)
      ·
        replace hf := (if_neg c10).symm.trans hf
        refine lv_iconst (v := 0) hx hb dX3_answer_69 (by decide) ?_
        obtain rfl := Option.some.inj hf
        exact W.iret (v := 0) hx hb hr (fun t ht hW => ⟨⟨0, (), rfl, rfl, ⟨by rw [ht]; exact hC.1, va_K.moved hW.alike hK, hC.2.1⟩, by rw [ht]; exact hC.2.2.2⟩, hC.2.2.1.F ht⟩) hC.2.2.1.2.2 dX3_answer_70
      ·
        replace hf := (if_pos c10).symm.trans hf
        refine lv_aload_n hx hb dX3_answer_62 rfl (lv_at hl 1 rfl) ?_
        refine cG_74 (v := (p1.2.i 74)) hx hb hts i_X3_answer_X3 hown hK hC (hts (.fieldLink RX3 78 "StatementRules2$Machine" "wayValue" "I") k_X3_answer_fieldLink_RX3_78_SR_Machine_wayValue_I) (fun _ q9 => q9) dX3_answer_63 rfl ?_
        refine lv_goto (tgt := 70) hx hb dX3_answer_66 (by decide) ?_
        obtain rfl := Option.some.inj hf
        exact W.iret (v := (p1.2.i 74)) hx hb hr (fun t ht hW => ⟨⟨(p1.2.i 74), (), rfl, rfl, ⟨by rw [ht]; exact hC.1, va_K.moved hW.alike hK, hC.2.1⟩, by rw [ht]; exact hC.2.2.2⟩, hC.2.2.1.F ht⟩) hC.2.2.1.2.2 dX3_answer_70
    replace hf := (if_neg c9).symm.trans hf
    by_cases c11 : x1 = 3
    ·
      replace hf := (if_pos c11).symm.trans hf
      refine lv_tableIn (off := 65) (tgt := 71) hx hb dX3_answer_6 (by rw [c11]; decide) (by rw [c11]; decide) (by rw [c11]; decide) (by decide) ?_
      refine lv_aload_nN hx hb dX3_answer_71 rfl (lv_at hl 0 rfl) ?_
      refine lv_ifnonnullN hx hb dX3_answer_72 ?_
      refine lv_iconst (v := (-1)) hx hb dX3_answer_75 (by decide) ?_
      refine lv_goto (tgt := 83) hx hb dX3_answer_76 (by decide) ?_
      obtain rfl := Option.some.inj hf
      exact W.iret (v := (-1)) hx hb hr (fun t ht hW => ⟨⟨(-1), (), rfl, rfl, ⟨by rw [ht]; exact hC.1, va_K.moved hW.alike hK, hC.2.1⟩, by rw [ht]; exact hC.2.2.2⟩, hC.2.2.1.F ht⟩) hC.2.2.1.2.2 dX3_answer_83
    replace hf := (if_neg c11).symm.trans hf
    by_cases c12 : x1 = 4
    ·
      replace hf := (if_pos c12).symm.trans hf
      refine lv_tableIn (off := 78) (tgt := 84) hx hb dX3_answer_6 (by rw [c12]; decide) (by rw [c12]; decide) (by rw [c12]; decide) (by decide) ?_
      refine lv_aload_nN hx hb dX3_answer_84 rfl (lv_at hl 0 rfl) ?_
      refine lv_ifnonnullN hx hb dX3_answer_85 ?_
      refine lv_iconst (v := 0) hx hb dX3_answer_88 (by decide) ?_
      refine lv_goto (tgt := 96) hx hb dX3_answer_89 (by decide) ?_
      obtain rfl := Option.some.inj hf
      exact W.iret (v := 0) hx hb hr (fun t ht hW => ⟨⟨0, (), rfl, rfl, ⟨by rw [ht]; exact hC.1, va_K.moved hW.alike hK, hC.2.1⟩, by rw [ht]; exact hC.2.2.2⟩, hC.2.2.1.F ht⟩) hC.2.2.1.2.2 dX3_answer_96
    replace hf := (if_neg c12).symm.trans hf
    by_cases c13 : x1 = 5
    ·
      replace hf := (if_pos c13).symm.trans hf
      refine lv_tableIn (off := 91) (tgt := 97) hx hb dX3_answer_6 (by rw [c13]; decide) (by rw [c13]; decide) (by rw [c13]; decide) (by decide) ?_
      refine lv_aload_nN hx hb dX3_answer_97 rfl (lv_at hl 0 rfl) ?_
      refine lv_ifnonnullN hx hb dX3_answer_98 ?_
      refine lv_iconst (v := 0) hx hb dX3_answer_101 (by decide) ?_
      refine lv_goto (tgt := 109) hx hb dX3_answer_102 (by decide) ?_
      obtain rfl := Option.some.inj hf
      exact W.iret (v := 0) hx hb hr (fun t ht hW => ⟨⟨0, (), rfl, rfl, ⟨by rw [ht]; exact hC.1, va_K.moved hW.alike hK, hC.2.1⟩, by rw [ht]; exact hC.2.2.2⟩, hC.2.2.1.F ht⟩) hC.2.2.1.2.2 dX3_answer_109
    replace hf := (if_neg c13).symm.trans hf
    refine lv_tableOut (tgt := 110) hx hb dX3_answer_6 (by have := z_ton (a := 0) c7 (by decide); have := z_ton (a := 1) c8 (by decide); have := z_ton (a := 2) c9 (by decide); have := z_ton (a := 3) c11 (by decide); have := z_ton (a := 4) c12 (by decide); have := z_ton (a := 5) c13 (by decide); omega) (by decide) ?_
    refine lv_aload_n hx hb dX3_answer_110 rfl (lv_at hl 1 rfl) ?_
    refine cG_71 (v := (p1.2.i 71)) hx hb hts i_X3_answer_X3 hown hK hC (hts (.fieldLink RX3 72 "StatementRules2$Machine" "taken" "I") k_X3_answer_fieldLink_RX3_72_SR_Machine_taken_I) (fun _ q9 => q9) dX3_answer_111 rfl ?_
    obtain rfl := Option.some.inj hf
    exact W.iret (v := (p1.2.i 71)) hx hb hr (fun t ht hW => ⟨⟨(p1.2.i 71), (), rfl, rfl, ⟨by rw [ht]; exact hC.1, va_K.moved hW.alike hK, hC.2.1⟩, by rw [ht]; exact hC.2.2.2⟩, hC.2.2.1.F ht⟩) hC.2.2.1.2.2 dX3_answer_114
  ·
    refine W.eq (congrArg (fun v9 => F0 m 4 ls (va_rf v9 :: [])) q5) ?_
    refine W.eq (g2 := F0 m 4 ls (.ref a6 :: [])) rfl ?_
    refine lv_astore_n (lv' := [(2, .ref a6), (0, .ref (Q.o 7)), (1, .int x1)]) hx hb dX3_answer_4 rfl hl (by decide) rfl (fun ls hl => ?_)
    refine lv_iload_n hx hb dX3_answer_5 rfl (lv_at hl 2 rfl) ?_
    by_cases c14 : x1 = 0
    ·
      replace hf := (if_pos c14).symm.trans hf
      refine lv_tableIn (off := 38) (tgt := 44) hx hb dX3_answer_6 (by rw [c14]; decide) (by rw [c14]; decide) (by rw [c14]; decide) (by decide) ?_
      refine lv_aload_n hx hb dX3_answer_44 rfl (lv_at hl 1 rfl) ?_
      refine cG_70 (v := (p1.2.i 70)) hx hb hts i_X3_answer_X3 hown hK hC (hts (.fieldLink RX3 69 "StatementRules2$Machine" "steps" "I") k_X3_answer_fieldLink_RX3_69_SR_Machine_steps_I) (fun _ q9 => q9) dX3_answer_45 rfl ?_
      obtain rfl := Option.some.inj hf
      exact W.iret (v := (p1.2.i 70)) hx hb hr (fun t ht hW => ⟨⟨(p1.2.i 70), (), rfl, rfl, ⟨by rw [ht]; exact hC.1, va_K.moved hW.alike hK, hC.2.1⟩, by rw [ht]; exact hC.2.2.2⟩, hC.2.2.1.F ht⟩) hC.2.2.1.2.2 dX3_answer_48
    replace hf := (if_neg c14).symm.trans hf
    by_cases c15 : x1 = 1
    ·
      replace hf := (if_pos c15).symm.trans hf
      refine lv_tableIn (off := 43) (tgt := 49) hx hb dX3_answer_6 (by rw [c15]; decide) (by rw [c15]; decide) (by rw [c15]; decide) (by decide) ?_
      refine lv_aload_n hx hb dX3_answer_49 rfl (lv_at hl 1 rfl) ?_
      refine cG_69 (v := (p1.2.i 69)) hx hb hts i_X3_answer_X3 hown hK hC (hts (.fieldLink RX3 66 "StatementRules2$Machine" "rowCount" "I") k_X3_answer_fieldLink_RX3_66_SR_Machine_rowCount_I) (fun _ q9 => q9) dX3_answer_50 rfl ?_
      obtain rfl := Option.some.inj hf
      exact W.iret (v := (p1.2.i 69)) hx hb hr (fun t ht hW => ⟨⟨(p1.2.i 69), (), rfl, rfl, ⟨by rw [ht]; exact hC.1, va_K.moved hW.alike hK, hC.2.1⟩, by rw [ht]; exact hC.2.2.2⟩, hC.2.2.1.F ht⟩) hC.2.2.1.2.2 dX3_answer_53
    replace hf := (if_neg c15).symm.trans hf
    by_cases c16 : x1 = 2
    ·
      replace hf := (if_pos c16).symm.trans hf
      refine lv_tableIn (off := 48) (tgt := 54) hx hb dX3_answer_6 (by rw [c16]; decide) (by rw [c16]; decide) (by rw [c16]; decide) (by decide) ?_
      refine lv_aload_n hx hb dX3_answer_54 rfl (lv_at hl 1 rfl) ?_
      refine cG_72 (v := (p1.2.i 72)) hx hb hts i_X3_answer_X3 hown hK hC (hts (.fieldLink RX3 85 "StatementRules2$Machine" "outcome" "I") k_X3_answer_fieldLink_RX3_85_SR_Machine_outcome_I) (fun _ q9 => q9) dX3_answer_55 rfl ?_
      refine lv_iconst (v := 1) hx hb dX3_answer_58 (by decide) ?_
      refine lv_icmp_ne (tgt := 69) hx hb dX3_answer_59 (by decide) (fun c17 => ?_) (fun c17 => ?_)
      ·
        replace hf := (if_neg c17).symm.trans hf
        refine lv_iconst (v := 0) hx hb dX3_answer_69 (by decide) ?_
        obtain rfl := Option.some.inj hf
        exact W.iret (v := 0) hx hb hr (fun t ht hW => ⟨⟨0, (), rfl, rfl, ⟨by rw [ht]; exact hC.1, va_K.moved hW.alike hK, hC.2.1⟩, by rw [ht]; exact hC.2.2.2⟩, hC.2.2.1.F ht⟩) hC.2.2.1.2.2 dX3_answer_70
      ·
        replace hf := (if_pos c17).symm.trans hf
        refine lv_aload_n hx hb dX3_answer_62 rfl (lv_at hl 1 rfl) ?_
        refine cG_74 (v := (p1.2.i 74)) hx hb hts i_X3_answer_X3 hown hK hC (hts (.fieldLink RX3 78 "StatementRules2$Machine" "wayValue" "I") k_X3_answer_fieldLink_RX3_78_SR_Machine_wayValue_I) (fun _ q9 => q9) dX3_answer_63 rfl ?_
        refine lv_goto (tgt := 70) hx hb dX3_answer_66 (by decide) ?_
        obtain rfl := Option.some.inj hf
        exact W.iret (v := (p1.2.i 74)) hx hb hr (fun t ht hW => ⟨⟨(p1.2.i 74), (), rfl, rfl, ⟨by rw [ht]; exact hC.1, va_K.moved hW.alike hK, hC.2.1⟩, by rw [ht]; exact hC.2.2.2⟩, hC.2.2.1.F ht⟩) hC.2.2.1.2.2 dX3_answer_70
    replace hf := (if_neg c16).symm.trans hf
    by_cases c18 : x1 = 3
    ·
      replace hf := (if_pos c18).symm.trans hf
      refine lv_tableIn (off := 65) (tgt := 71) hx hb dX3_answer_6 (by rw [c18]; decide) (by rw [c18]; decide) (by rw [c18]; decide) (by decide) ?_
      refine lv_aload_n hx hb dX3_answer_71 rfl (lv_at hl 0 rfl) ?_
      refine lv_ifnonnull (tgt := 79) hx hb dX3_answer_72 (by decide) ?_
      refine lv_aload_n hx hb dX3_answer_79 rfl (lv_at hl 0 rfl) ?_
      obtain ⟨b19, hf⟩ := hf_ite hf
      refine pGN_X8_2 (v := (CS.o p1.2 a6 2)) hx hb hts i_X3_answer_X8 hown hK hC (va_Nw.use rfl (hZ.1 (.fieldLinkNest RX3 99 "StatementRules2$Thrown" "sort" "I" "StatementRules2") (by decide +kernel))) (fun _ q9 => q9) dX3_answer_80 b19 rfl ?_
      obtain rfl := Option.some.inj hf
      exact W.iret (v := (CS.o p1.2 a6 2)) hx hb hr (fun t ht hW => ⟨⟨(CS.o p1.2 a6 2), (), rfl, rfl, ⟨by rw [ht]; exact hC.1, va_K.moved hW.alike hK, hC.2.1⟩, by rw [ht]; exact hC.2.2.2⟩, hC.2.2.1.F ht⟩) hC.2.2.1.2.2 dX3_answer_83
    replace hf := (if_neg c18).symm.trans hf
    by_cases c20 : x1 = 4
    ·
      replace hf := (if_pos c20).symm.trans hf
      refine lv_tableIn (off := 78) (tgt := 84) hx hb dX3_answer_6 (by rw [c20]; decide) (by rw [c20]; decide) (by rw [c20]; decide) (by decide) ?_
      refine lv_aload_n hx hb dX3_answer_84 rfl (lv_at hl 0 rfl) ?_
      refine lv_ifnonnull (tgt := 92) hx hb dX3_answer_85 (by decide) ?_
      refine lv_aload_n hx hb dX3_answer_92 rfl (lv_at hl 0 rfl) ?_
      obtain ⟨b21, hf⟩ := hf_ite hf
      refine pGN_X8_3 (v := (CS.o p1.2 a6 3)) hx hb hts i_X3_answer_X8 hown hK hC (va_Nw.use rfl (hZ.1 (.fieldLinkNest RX3 102 "StatementRules2$Thrown" "number" "I" "StatementRules2") (by decide +kernel))) (fun _ q9 => q9) dX3_answer_93 b21 rfl ?_
      obtain rfl := Option.some.inj hf
      exact W.iret (v := (CS.o p1.2 a6 3)) hx hb hr (fun t ht hW => ⟨⟨(CS.o p1.2 a6 3), (), rfl, rfl, ⟨by rw [ht]; exact hC.1, va_K.moved hW.alike hK, hC.2.1⟩, by rw [ht]; exact hC.2.2.2⟩, hC.2.2.1.F ht⟩) hC.2.2.1.2.2 dX3_answer_96
    replace hf := (if_neg c20).symm.trans hf
    by_cases c22 : x1 = 5
    ·
      replace hf := (if_pos c22).symm.trans hf
      refine lv_tableIn (off := 91) (tgt := 97) hx hb dX3_answer_6 (by rw [c22]; decide) (by rw [c22]; decide) (by rw [c22]; decide) (by decide) ?_
      refine lv_aload_n hx hb dX3_answer_97 rfl (lv_at hl 0 rfl) ?_
      refine lv_ifnonnull (tgt := 105) hx hb dX3_answer_98 (by decide) ?_
      refine lv_aload_n hx hb dX3_answer_105 rfl (lv_at hl 0 rfl) ?_
      obtain ⟨b23, hf⟩ := hf_ite hf
      refine pGN_X8_4 (v := (CS.o p1.2 a6 4)) hx hb hts i_X3_answer_X8 hown hK hC (va_Nw.use rfl (hZ.1 (.fieldLinkNest RX3 105 "StatementRules2$Thrown" "count" "I" "StatementRules2") (by decide +kernel))) (fun _ q9 => q9) dX3_answer_106 b23 rfl ?_
      obtain rfl := Option.some.inj hf
      exact W.iret (v := (CS.o p1.2 a6 4)) hx hb hr (fun t ht hW => ⟨⟨(CS.o p1.2 a6 4), (), rfl, rfl, ⟨by rw [ht]; exact hC.1, va_K.moved hW.alike hK, hC.2.1⟩, by rw [ht]; exact hC.2.2.2⟩, hC.2.2.1.F ht⟩) hC.2.2.1.2.2 dX3_answer_109
    replace hf := (if_neg c22).symm.trans hf
    refine lv_tableOut (tgt := 110) hx hb dX3_answer_6 (by have := z_ton (a := 0) c14 (by decide); have := z_ton (a := 1) c15 (by decide); have := z_ton (a := 2) c16 (by decide); have := z_ton (a := 3) c18 (by decide); have := z_ton (a := 4) c20 (by decide); have := z_ton (a := 5) c22 (by decide); omega) (by decide) ?_
    refine lv_aload_n hx hb dX3_answer_110 rfl (lv_at hl 1 rfl) ?_
    refine cG_71 (v := (p1.2.i 71)) hx hb hts i_X3_answer_X3 hown hK hC (hts (.fieldLink RX3 72 "StatementRules2$Machine" "taken" "I") k_X3_answer_fieldLink_RX3_72_SR_Machine_taken_I) (fun _ q9 => q9) dX3_answer_111 rfl ?_
    obtain rfl := Option.some.inj hf
    exact W.iret (v := (p1.2.i 71)) hx hb hr (fun t ht hW => ⟨⟨(p1.2.i 71), (), rfl, rfl, ⟨by rw [ht]; exact hC.1, va_K.moved hW.alike hK, hC.2.1⟩, by rw [ht]; exact hC.2.2.2⟩, hC.2.2.1.F ht⟩) hC.2.2.1.2.2 dX3_answer_114
theorem k_X6_clear_fieldLink_RX6_21_SR_Opens_count_I : Cond.fieldLink RX6 21 "StatementRules2$Opens" "count" "I" ∈ wzX6_clear := List.mem_cons_of_mem _ (List.mem_append_left _ (List.mem_of_getElem? (i := 0) rfl))
theorem i_X6_clear_X6 : ∀ w ∈ wsX60, w ∈ wzX6_clear := fun _ h => List.mem_cons_of_mem _ (List.mem_append_right _ (List.mem_append_left _ (h)))
theorem k_X6_clear_fieldLink_RX6_25_SR_Opens_serials_I : Cond.fieldLink RX6 25 "StatementRules2$Opens" "serials" "I" ∈ wzX6_clear := List.mem_cons_of_mem _ (List.mem_append_left _ (List.mem_of_getElem? (i := 1) rfl))
theorem k_X6_clear_fieldLink_RX6_28_SR_Opens_jumpCount_I : Cond.fieldLink RX6 28 "StatementRules2$Opens" "jumpCount" "I" ∈ wzX6_clear := List.mem_cons_of_mem _ (List.mem_append_left _ (List.mem_of_getElem? (i := 2) rfl))
theorem k_X6_clear_fieldLink_RX6_31_SR_Opens_arm_I : Cond.fieldLink RX6 31 "StatementRules2$Opens" "arm" "I" ∈ wzX6_clear := List.mem_cons_of_mem _ (List.mem_append_left _ (List.mem_of_getElem? (i := 3) rfl))
set_option maxHeartbeats 4000000 in
set_option maxRecDepth 100000 in
theorem c_X6_clear (l : Launch) (dC : Nat → ClassId) (dI : Nat → Nat → Nat) (Q : CQ) (N : Nat) (σ : CS) (R : Unit × CS) (hf : f_X6_clear N σ = some R) : Met l yX6_clear wzX6_clear ({ frames := 1, cells := CS.hs R.2 - CS.hs σ, slots := 17 * (CS.hs R.2 - CS.hs σ), locals := 60 * 1 }) (va_Pc [.ref (Q.o 6)] (zPre dC dI (CS.hs σ) (cW Q σ) (cT Q))) (va_Qv (fun (_ : Unit) => True) (fun (_ : Unit) (t : State) => zPost dC dI (va_A (cW Q σ) (CS.hs σ)) (cW Q R.2) (cT Q) t ∧ t.heap.size = CS.hs R.2) (va_A (cW Q σ) (CS.hs σ))) (CS.hs R.2 - CS.hs σ) (17 * (CS.hs R.2 - CS.hs σ)) (va_A (cW Q σ) (CS.hs σ)) := by
  refine Met.ofW (cc := cX6_clear) (maxL := 1) (ret := none) (by decide) rfl ?_
  intro p e s m args below meth c s₁ B hml hv
  obtain ⟨rfl, hsz, hZ, hP, hK, hD0⟩ := hv
  have hx := B.exec
  have hb := B.bytes
  have hr := B.returns
  have hts := atoms_spec (ws := wzX6_clear) B.pre
  have hown : s.vm.findClass RX6 = some m.cls := findClass_of_methodNamed B.named
  have hlocks := B.notSynchronized
  have hD := hD0.self (sz := CS.hs σ)
  generalize hAe : va_A (cW Q σ) (CS.hs σ) = A at hD ⊢
  have hA : ∀ q : Nat, s.heap.size ≤ q → A q := fun q h => by rw [← hAe]; exact Or.inr (hsz ▸ h)
  have hC : CP dC dI Q A s.heap σ s.heap [] := ⟨hP, hD, va_S.rf, hsz⟩
  have h0 : CS.hs σ ≤ CS.hs σ := Nat.le_refl _
  have hl := lv_entry ([.ref (Q.o 6)]) (n := 1) (Nat.le_of_ble_eq_true rfl)
  rw [lg_entry_eq]
  generalize (lg_sl ([.ref (Q.o 6)]) ++ List.replicate (1 - (lg_sl ([.ref (Q.o 6)])).length) Slot.unset).toArray = ls at hl ⊢
  have hl : lv_has ls 1 [(0, .ref (Q.o 6))] := hl
  unfold f_X6_clear at hf
  refine W.widen (k := CS.hs σ - CS.hs σ) (n := 17 * (CS.hs σ - CS.hs σ)) (Nat.zero_le _) (Nat.zero_le _) ?_
  refine lv_aload_n hx hb dX6_clear_0 rfl (lv_at hl 0 rfl) ?_
  refine lv_iconst (v := 0) hx hb dX6_clear_1 (by decide) ?_
  refine cP_53 (v := 0) hx hb hts i_X6_clear_X6 hown hK hC (hts (.fieldLink RX6 21 "StatementRules2$Opens" "count" "I") k_X6_clear_fieldLink_RX6_21_SR_Opens_count_I) (fun _ q9 => q9) dX6_clear_2 (fun H locs hC => ?_)
  refine lv_aload_n hx hb dX6_clear_5 rfl (lv_at hl 0 rfl) ?_
  refine lv_iconst (v := 0) hx hb dX6_clear_6 (by decide) ?_
  refine cP_54 (v := 0) hx hb hts i_X6_clear_X6 hown hK hC (hts (.fieldLink RX6 25 "StatementRules2$Opens" "serials" "I") k_X6_clear_fieldLink_RX6_25_SR_Opens_serials_I) (fun _ q9 => q9) dX6_clear_7 (fun H locs hC => ?_)
  refine lv_aload_n hx hb dX6_clear_10 rfl (lv_at hl 0 rfl) ?_
  refine lv_iconst (v := 0) hx hb dX6_clear_11 (by decide) ?_
  refine cP_55 (v := 0) hx hb hts i_X6_clear_X6 hown hK hC (hts (.fieldLink RX6 28 "StatementRules2$Opens" "jumpCount" "I") k_X6_clear_fieldLink_RX6_28_SR_Opens_jumpCount_I) (fun _ q9 => q9) dX6_clear_12 (fun H locs hC => ?_)
  refine lv_aload_n hx hb dX6_clear_15 rfl (lv_at hl 0 rfl) ?_
  refine lv_iconst (v := (-1)) hx hb dX6_clear_16 (by decide) ?_
  refine cP_56 (v := (-1)) hx hb hts i_X6_clear_X6 hown hK hC (hts (.fieldLink RX6 31 "StatementRules2$Opens" "arm" "I") k_X6_clear_fieldLink_RX6_31_SR_Opens_arm_I) (fun _ q9 => q9) dX6_clear_17 (fun H locs hC => ?_)
  obtain rfl := Option.some.inj hf
  exact W.vret hx hb hr (fun t ht hW => ⟨⟨(), rfl, trivial, ⟨by rw [ht]; exact hC.1, va_K.moved hW.alike hK, hC.2.1⟩, by rw [ht]; exact hC.2.2.2⟩, hC.2.2.1.F ht⟩) hC.2.2.1.2.2 dX6_clear_20
theorem k_X9_start_fieldLink_RX9_31_SR_Tokens_length_I : Cond.fieldLink RX9 31 "StatementRules2$Tokens" "length" "I" ∈ wzX9_start := List.mem_cons_of_mem _ (List.mem_append_left _ (List.mem_of_getElem? (i := 0) rfl))
theorem i_X9_start_X9 : ∀ w ∈ wsX90, w ∈ wzX9_start := fun _ h => List.mem_cons_of_mem _ (List.mem_append_right _ (List.mem_append_left _ (h)))
theorem k_X9_start_fieldLink_RX9_34_SR_Tokens_next_I : Cond.fieldLink RX9 34 "StatementRules2$Tokens" "next" "I" ∈ wzX9_start := List.mem_cons_of_mem _ (List.mem_append_left _ (List.mem_of_getElem? (i := 1) rfl))
set_option maxHeartbeats 4000000 in
set_option maxRecDepth 100000 in
theorem c_X9_start (l : Launch) (dC : Nat → ClassId) (dI : Nat → Nat → Nat) (Q : CQ) (N : Nat) (σ : CS) (x1 : Int32) (R : Unit × CS) (hf : f_X9_start N σ x1 = some R) : Met l yX9_start wzX9_start ({ frames := 4, cells := CS.hs R.2 - CS.hs σ, slots := 17 * (CS.hs R.2 - CS.hs σ), locals := 60 * 4 }) (va_Pc [.ref (Q.o 4), .int x1] (zPre dC dI (CS.hs σ) (cW Q σ) (cT Q))) (va_Qv (fun (_ : Unit) => True) (fun (_ : Unit) (t : State) => zPost dC dI (va_A (cW Q σ) (CS.hs σ)) (cW Q R.2) (cT Q) t ∧ t.heap.size = CS.hs R.2) (va_A (cW Q σ) (CS.hs σ))) (CS.hs R.2 - CS.hs σ) (17 * (CS.hs R.2 - CS.hs σ)) (va_A (cW Q σ) (CS.hs σ)) := by
  refine Met.ofW (cc := cX9_start) (maxL := 2) (ret := none) (by decide) rfl ?_
  intro p e s m args below meth c s₁ B hml hv
  obtain ⟨rfl, hsz, hZ, hP, hK, hD0⟩ := hv
  have hx := B.exec
  have hb := B.bytes
  have hr := B.returns
  have hts := atoms_spec (ws := wzX9_start) B.pre
  have hown : s.vm.findClass RX9 = some m.cls := findClass_of_methodNamed B.named
  have hlocks := B.notSynchronized
  have hD := hD0.self (sz := CS.hs σ)
  generalize hAe : va_A (cW Q σ) (CS.hs σ) = A at hD ⊢
  have hA : ∀ q : Nat, s.heap.size ≤ q → A q := fun q h => by rw [← hAe]; exact Or.inr (hsz ▸ h)
  have hC : CP dC dI Q A s.heap σ s.heap [] := ⟨hP, hD, va_S.rf, hsz⟩
  have h0 : CS.hs σ ≤ CS.hs σ := Nat.le_refl _
  have hl := lv_entry ([.ref (Q.o 4), .int x1]) (n := 2) (Nat.le_of_ble_eq_true rfl)
  rw [lg_entry_eq]
  generalize (lg_sl ([.ref (Q.o 4), .int x1]) ++ List.replicate (2 - (lg_sl ([.ref (Q.o 4), .int x1])).length) Slot.unset).toArray = ls at hl ⊢
  have hl : lv_has ls 2 [(0, .ref (Q.o 4)), (1, .int x1)] := hl
  unfold f_X9_start at hf
  refine W.widen (k := CS.hs σ - CS.hs σ) (n := 17 * (CS.hs σ - CS.hs σ)) (Nat.zero_le _) (Nat.zero_le _) ?_
  refine lv_aload_n hx hb dX9_start_0 rfl (lv_at hl 0 rfl) ?_
  refine lv_iload_n hx hb dX9_start_1 rfl (lv_at hl 1 rfl) ?_
  refine cP_41 (v := x1) hx hb hts i_X9_start_X9 hown hK hC (hts (.fieldLink RX9 31 "StatementRules2$Tokens" "length" "I") k_X9_start_fieldLink_RX9_31_SR_Tokens_length_I) (fun _ q9 => q9) dX9_start_2 (fun H locs hC => ?_)
  refine lv_aload_n hx hb dX9_start_5 rfl (lv_at hl 0 rfl) ?_
  refine lv_iconst (v := 0) hx hb dX9_start_6 (by decide) ?_
  refine cP_42 (v := 0) hx hb hts i_X9_start_X9 hown hK hC (hts (.fieldLink RX9 34 "StatementRules2$Tokens" "next" "I") k_X9_start_fieldLink_RX9_34_SR_Tokens_next_I) (fun _ q9 => q9) dX9_start_7 (fun H locs hC => ?_)
  refine lv_aload_n hx hb dX9_start_10 rfl (lv_at hl 0 rfl) ?_
  obtain ⟨p1, hcp1, hf⟩ := hf_bind hf
  have mo2 : CS.hs σ ≤ CS.hs p1.2 := Mono.go hcp1 (m_X9_advance N (CS.setI (CS.setI σ 41 x1) 42 0))
  have hr9 : CS.hs p1.2 ≤ CS.hs R.2 := Mono.go hf (mono_some (Nat.le_refl _))
  have hFc := cFree hC hA
  refine va_callv (va_runV (As := []) (rest := []) ⟨hx, hb, hml, hown, hts⟩ (c_X9_advance l dC dI Q N (CS.setI (CS.setI σ 41 x1) 42 0) p1 hcp1) (cwV 0 hts hX9_start_X9_advance_v37 rfl rfl rfl (by decide +kernel) ⟨(show 3 + 1 ≤ 4 by omega), (show 8 + (2 + 11) + 60 * 3 ≤ 60 * 4 by omega)⟩) ⟨zPre.blind, va_recv hK hC.1 (ci := 8) (q0 := 4) rfl rfl, cPre_go hZ hK hC⟩ rfl rfl hl.1 rfl (lv_room (Nat.le_of_ble_eq_true rfl)) dX9_start_11 (cAcc h0 mo2 hr9)) hC.2.2.1 (fun q _ h => hFc q h) hFc (fun u9 t9 H1 locs ht hvm hw hB hz1 hk1 hS => ?_)
  obtain ⟨⟨hP, hK1, hD1⟩, hsz1⟩ := hB
  rw [ht] at hP hsz1
  have hC : CP dC dI Q A s.heap p1.2 H1 locs := ⟨hP, hD1.weaken (fun _ _ _ h => hFc _ h), hS, hsz1⟩
  generalize H1 = H at hC ⊢
  have h4 : (CS.hs σ) ≤ CS.hs p1.2 := Nat.le_trans h0 mo2
  refine W.widen (k := CS.hs p1.2 - (CS.hs σ)) (n := 17 * (CS.hs p1.2 - (CS.hs σ))) (cAcc2 h0 mo2) (cAcc3 h0 mo2) ?_
  obtain rfl := Option.some.inj hf
  exact W.vret hx hb hr (fun t ht hW => ⟨⟨(), rfl, trivial, ⟨by rw [ht]; exact hC.1, va_K.moved hW.alike hK, hC.2.1⟩, by rw [ht]; exact hC.2.2.2⟩, hC.2.2.1.F ht⟩) hC.2.2.1.2.2 dX9_start_14
theorem k_X7_translate_fieldLink_RX7_20_SR_Statements_code_LSR_Code : Cond.fieldLink RX7 20 "StatementRules2$Statements" "code" "LStatementRules2$Code;" ∈ wzX7_translate := List.mem_cons_of_mem _ (List.mem_append_left _ (List.mem_of_getElem? (i := 0) rfl))
theorem k_X7_translate_sameField_SR_Statements_SR_Formulas_code_LSR_Code : Cond.sameField "StatementRules2$Statements" "StatementRules2$Formulas" "code" "LStatementRules2$Code;" ∈ wzX7_translate := List.mem_cons_of_mem _ (List.mem_append_left _ (List.mem_of_getElem? (i := 1) rfl))
theorem i_X7_translate_X7 : ∀ w ∈ wsX70, w ∈ wzX7_translate := fun _ h => List.mem_cons_of_mem _ (List.mem_append_right _ (List.mem_append_left _ (h)))
theorem k_X7_translate_fieldLink_RX7_29_SR_Statements_names_LSR_Names : Cond.fieldLink RX7 29 "StatementRules2$Statements" "names" "LStatementRules2$Names;" ∈ wzX7_translate := List.mem_cons_of_mem _ (List.mem_append_left _ (List.mem_of_getElem? (i := 2) rfl))
theorem k_X7_translate_sameField_SR_Statements_SR_Formulas_names_LSR_Names : Cond.sameField "StatementRules2$Statements" "StatementRules2$Formulas" "names" "LStatementRules2$Names;" ∈ wzX7_translate := List.mem_cons_of_mem _ (List.mem_append_left _ (List.mem_of_getElem? (i := 3) rfl))
theorem i_X7_translate_X4 : ∀ w ∈ wsX40, w ∈ wzX7_translate := fun _ h => List.mem_cons_of_mem _ (List.mem_append_right _ (List.mem_append_right _ (List.mem_append_left _ (h))))
theorem k_X7_translate_constantLong_RX7_39_97 : Cond.constantLong RX7 39 (97) ∈ wzX7_translate := List.mem_cons_of_mem _ (List.mem_append_left _ (List.mem_of_getElem? (i := 4) rfl))
theorem k_X7_translate_constantLong_RX7_49_98 : Cond.constantLong RX7 49 (98) ∈ wzX7_translate := List.mem_cons_of_mem _ (List.mem_append_left _ (List.mem_of_getElem? (i := 5) rfl))
theorem k_X7_translate_fieldLink_RX7_14_SR_Statements_opens_LSR_Opens : Cond.fieldLink RX7 14 "StatementRules2$Statements" "opens" "LStatementRules2$Opens;" ∈ wzX7_translate := List.mem_cons_of_mem _ (List.mem_append_left _ (List.mem_of_getElem? (i := 6) rfl))
theorem k_X7_translate_fieldLink_RX7_52_SR_Statements_faultNumber_I : Cond.fieldLink RX7 52 "StatementRules2$Statements" "faultNumber" "I" ∈ wzX7_translate := List.mem_cons_of_mem _ (List.mem_append_left _ (List.mem_of_getElem? (i := 7) rfl))
theorem k_X7_translate_sameField_SR_Statements_SR_Formulas_faultNumber_I : Cond.sameField "StatementRules2$Statements" "StatementRules2$Formulas" "faultNumber" "I" ∈ wzX7_translate := List.mem_cons_of_mem _ (List.mem_append_left _ (List.mem_of_getElem? (i := 8) rfl))
theorem k_X7_translate_fieldLink_RX7_55_SR_Statements_faultPlace_I : Cond.fieldLink RX7 55 "StatementRules2$Statements" "faultPlace" "I" ∈ wzX7_translate := List.mem_cons_of_mem _ (List.mem_append_left _ (List.mem_of_getElem? (i := 9) rfl))
theorem k_X7_translate_sameField_SR_Statements_SR_Formulas_faultPlace_I : Cond.sameField "StatementRules2$Statements" "StatementRules2$Formulas" "faultPlace" "I" ∈ wzX7_translate := List.mem_cons_of_mem _ (List.mem_append_left _ (List.mem_of_getElem? (i := 10) rfl))
theorem k_X7_translate_fieldLink_RX7_58_SR_Statements_openSigns_I : Cond.fieldLink RX7 58 "StatementRules2$Statements" "openSigns" "I" ∈ wzX7_translate := List.mem_cons_of_mem _ (List.mem_append_left _ (List.mem_of_getElem? (i := 11) rfl))
theorem k_X7_translate_sameField_SR_Statements_SR_Formulas_openSigns_I : Cond.sameField "StatementRules2$Statements" "StatementRules2$Formulas" "openSigns" "I" ∈ wzX7_translate := List.mem_cons_of_mem _ (List.mem_append_left _ (List.mem_of_getElem? (i := 12) rfl))
theorem k_X7_translate_fieldLink_RX7_61_SR_Statements_alive_Z : Cond.fieldLink RX7 61 "StatementRules2$Statements" "alive" "Z" ∈ wzX7_translate := List.mem_cons_of_mem _ (List.mem_append_left _ (List.mem_of_getElem? (i := 13) rfl))
theorem k_X7_translate_fieldLink_RX7_65_SR_Statements_unreached_I : Cond.fieldLink RX7 65 "StatementRules2$Statements" "unreached" "I" ∈ wzX7_translate := List.mem_cons_of_mem _ (List.mem_append_left _ (List.mem_of_getElem? (i := 14) rfl))
theorem k_X7_translate_fieldLink_RX7_68_SR_Statements_depth_I : Cond.fieldLink RX7 68 "StatementRules2$Statements" "depth" "I" ∈ wzX7_translate := List.mem_cons_of_mem _ (List.mem_append_left _ (List.mem_of_getElem? (i := 15) rfl))
theorem k_X7_translate_fieldLink_RX7_71_SR_Statements_tokens_LSR_Tokens : Cond.fieldLink RX7 71 "StatementRules2$Statements" "tokens" "LStatementRules2$Tokens;" ∈ wzX7_translate := List.mem_cons_of_mem _ (List.mem_append_left _ (List.mem_of_getElem? (i := 16) rfl))
theorem k_X7_translate_sameField_SR_Statements_SR_Formulas_tokens_LSR_Tokens : Cond.sameField "StatementRules2$Statements" "StatementRules2$Formulas" "tokens" "LStatementRules2$Tokens;" ∈ wzX7_translate := List.mem_cons_of_mem _ (List.mem_append_left _ (List.mem_of_getElem? (i := 17) rfl))
set_option maxHeartbeats 4000000 in
set_option maxRecDepth 100000 in
theorem j_X7_translate_139 {p : Program} {e : Env} {s : State} {m : MethodId} {args : Array Value} {below : List Frame} {meth : Method} {c : Code} {A : Nat → Prop} (l : Launch) (dC : Nat → ClassId) (dI : Nat → Nat → Nat) (Q : CQ) (N : Nat) (d : Nat) (E1 : CS → Option (Unit × CS)) (E2 : CS → Option (Int32 × CS)) (hE1 : cMF l dC dI Q d E1) (hE2 : cMO l dC dI Q d E2) (hm1 : ∀ σ, Mono (CS.hs σ) (E1 σ)) (hm2 : ∀ σ, Mono (CS.hs σ) (E2 σ)) (z9h : Nat) (R : Int32 × CS) (hx : p.tables.exec = Jvm.exec) (hb : c.code = cX7_translate) (hr : meth.sig.returnType = (some .int)) (hml : c.maxLocals = 2) (hown : s.vm.findClass RX7 = some m.cls) (hts : ∀ w ∈ wzX7_translate, w.before args s = true) (hlocks : meth.locks = false) (hZ : zAMB s) (hA : ∀ q : Nat, s.heap.size ≤ q → A q) (hK : va_K (dC, dI) vwCl (cT Q) s) : ∀ (σ : CS) (H : Heap) (locs : List Loc) (ls : Array Slot), f_X7_translate_139 N E1 E2 σ = some R → z9h ≤ CS.hs σ → CP dC dI Q A s.heap σ H locs → lv_has ls 2 [(0, .ref (Q.o 3))] → W p l e ({ frames := (22 + 40 * d), cells := CS.hs R.2 - z9h, slots := 17 * (CS.hs R.2 - z9h), locals := 60 * (22 + 40 * d) }) s m args below meth c H locs (CS.hs σ - z9h) (17 * (CS.hs σ - z9h)) (MQ below (va_Qi (fun (r : Int32) (_ : Unit) => r = R.1) (fun (_ : Unit) (t : State) => zPost dC dI A (cW Q R.2) (cT Q) t ∧ t.heap.size = CS.hs R.2) A) args s (CS.hs R.2 - z9h) (17 * (CS.hs R.2 - z9h)) A) (F0 m 139 ls []) := by
  intro σ  H locs ls hf h0 hC hl
  unfold f_X7_translate_139 at hf
  refine lv_aload_n hx hb dX7_translate_139 rfl (lv_at hl 0 rfl) ?_
  refine cG_32 (v := (σ.i 32)) hx hb hts i_X7_translate_X7 hown hK hC (hts (.fieldLink RX7 52 "StatementRules2$Statements" "faultNumber" "I") k_X7_translate_fieldLink_RX7_52_SR_Statements_faultNumber_I) (fun x9 q9 => u_same (hts (.sameField "StatementRules2$Statements" "StatementRules2$Formulas" "faultNumber" "I") k_X7_translate_sameField_SR_Statements_SR_Formulas_faultNumber_I) x9 q9) dX7_translate_140 rfl ?_
  obtain rfl := Option.some.inj hf
  exact W.iret (v := (σ.i 32)) hx hb hr (fun t ht hW => ⟨⟨(σ.i 32), (), rfl, rfl, ⟨by rw [ht]; exact hC.1, va_K.moved hW.alike hK, hC.2.1⟩, by rw [ht]; exact hC.2.2.2⟩, hC.2.2.1.F ht⟩) hC.2.2.1.2.2 dX7_translate_143
set_option maxHeartbeats 4000000 in
set_option maxRecDepth 100000 in
theorem c_X7_translate (l : Launch) (dC : Nat → ClassId) (dI : Nat → Nat → Nat) (Q : CQ) (N : Nat) (d : Nat) (E1 : CS → Option (Unit × CS)) (E2 : CS → Option (Int32 × CS)) (hE1 : cMF l dC dI Q d E1) (hE2 : cMO l dC dI Q d E2) (hm1 : ∀ σ, Mono (CS.hs σ) (E1 σ)) (hm2 : ∀ σ, Mono (CS.hs σ) (E2 σ)) (σ : CS) (x1 : Int32) (R : Int32 × CS) (hf : f_X7_translate N E1 E2 σ x1 = some R) : Met l yX7_translate wzX7_translate ({ frames := (22 + 40 * d), cells := CS.hs R.2 - CS.hs σ, slots := 17 * (CS.hs R.2 - CS.hs σ), locals := 60 * (22 + 40 * d) }) (va_Pc [.ref (Q.o 3), .int x1] (zPre dC dI (CS.hs σ) (cW Q σ) (cT Q))) (va_Qi (fun (r : Int32) (_ : Unit) => r = R.1) (fun (_ : Unit) (t : State) => zPost dC dI (va_A (cW Q σ) (CS.hs σ)) (cW Q R.2) (cT Q) t ∧ t.heap.size = CS.hs R.2) (va_A (cW Q σ) (CS.hs σ))) (CS.hs R.2 - CS.hs σ) (17 * (CS.hs R.2 - CS.hs σ)) (va_A (cW Q σ) (CS.hs σ)) := by
  refine Met.ofW (cc := cX7_translate) (maxL := 2) (ret := (some .int)) (by decide) rfl ?_
  intro p e s m args below meth c s₁ B hml hv
  obtain ⟨rfl, hsz, hZ, hP, hK, hD0⟩ := hv
  have hx := B.exec
  have hb := B.bytes
  have hr := B.returns
  have hts := atoms_spec (ws := wzX7_translate) B.pre
  have hown : s.vm.findClass RX7 = some m.cls := findClass_of_methodNamed B.named
  have hlocks := B.notSynchronized
  have hD := hD0.self (sz := CS.hs σ)
  generalize hAe : va_A (cW Q σ) (CS.hs σ) = A at hD ⊢
  have hA : ∀ q : Nat, s.heap.size ≤ q → A q := fun q h => by rw [← hAe]; exact Or.inr (hsz ▸ h)
  have hC : CP dC dI Q A s.heap σ s.heap [] := ⟨hP, hD, va_S.rf, hsz⟩
  have h0 : CS.hs σ ≤ CS.hs σ := Nat.le_refl _
  have hl := lv_entry ([.ref (Q.o 3), .int x1]) (n := 2) (Nat.le_of_ble_eq_true rfl)
  rw [lg_entry_eq]
  generalize (lg_sl ([.ref (Q.o 3), .int x1]) ++ List.replicate (2 - (lg_sl ([.ref (Q.o 3), .int x1])).length) Slot.unset).toArray = ls at hl ⊢
  have hl : lv_has ls 2 [(0, .ref (Q.o 3)), (1, .int x1)] := hl
  unfold f_X7_translate at hf
  refine W.widen (k := CS.hs σ - CS.hs σ) (n := 17 * (CS.hs σ - CS.hs σ)) (Nat.zero_le _) (Nat.zero_le _) ?_
  refine lv_aload_n hx hb dX7_translate_0 rfl (lv_at hl 0 rfl) ?_
  refine cG_29 hx hb hts i_X7_translate_X7 hown hK hC (hts (.fieldLink RX7 20 "StatementRules2$Statements" "code" "LStatementRules2$Code;") k_X7_translate_fieldLink_RX7_20_SR_Statements_code_LSR_Code) (fun x9 q9 => u_same (hts (.sameField "StatementRules2$Statements" "StatementRules2$Formulas" "code" "LStatementRules2$Code;") k_X7_translate_sameField_SR_Statements_SR_Formulas_code_LSR_Code) x9 q9) dX7_translate_1 ?_
  obtain ⟨p1, hcp1, hf⟩ := hf_bind hf
  have mo2 : CS.hs σ ≤ CS.hs p1.2 := Mono.go hcp1 (m_X0_clear N σ)
  have hr9 : CS.hs p1.2 ≤ CS.hs R.2 := Mono.go hf (mono_bind (m_X0_newCells N (CS.setI p1.2 50 0) 1) (fun p5 => (mono_bind (m_X4_add N p5.2 97 p5.1 (-1)) (fun p9 => (mono_bind (m_X0_newCells N p9.2 1) (fun p13 => (mono_bind (m_X4_add N p13.2 98 p13.1 (-1)) (fun p17 => (mono_bind (m_X6_clear N p17.2) (fun p21 => (mono_bind (m_X9_start N (CS.setI (CS.setI (CS.setI (CS.setI (CS.setI (CS.setI p21.2 32 0) 33 0) 34 0) 36 1) 37 (-1)) 38 0) x1) (fun p25 => (mono_bind (m_X6_push N p25.2 300 0 (p25.2.i 50)) (fun p29 => (mono_oc (mono_bind (m_X7_turns N E1 E2 hm1 hm2 p29.2 0) (fun p35 => (mono_ite (m_X7_translate_139 N E1 E2 hm1 hm2 p35.2) (mono_bind (m_X1_fail N p35.2 7 (p35.2.i 37)) (fun p40 => (m_X7_translate_139 N E1 E2 hm1 hm2 p40.2)))))) (fun a34 => (mono_bind (m_X7_turns N E1 E2 hm1 hm2 p29.2 0) (fun p44 => (mono_ite (m_X7_translate_139 N E1 E2 hm1 hm2 p44.2) (mono_bind (m_X1_fail N p44.2 7 (p44.2.i 37)) (fun p49 => (m_X7_translate_139 N E1 E2 hm1 hm2 p49.2))))))))))))))))))))))
  have hFc := cFree hC hA
  refine va_callv (va_runV (As := []) (rest := []) ⟨hx, hb, hml, hown, hts⟩ (c_X0_clear l dC dI Q N σ p1 hcp1) (cwV 0 hts hX7_translate_X0_clear_v24 rfl rfl rfl (by decide +kernel) ⟨(show 1 + 1 ≤ (22 + 40 * d) by omega), (show 8 + (1 + 11) + 60 * 1 ≤ 60 * (22 + 40 * d) by omega)⟩) ⟨zPre.blind, va_recv hK hC.1 (ci := 0) (q0 := 2) rfl rfl, cPre_go hZ hK hC⟩ rfl rfl hl.1 rfl (lv_room (Nat.le_of_ble_eq_true rfl)) dX7_translate_4 (cAcc h0 mo2 hr9)) hC.2.2.1 (fun q _ h => hFc q h) hFc (fun u9 t9 H1 locs ht hvm hw hB hz1 hk1 hS => ?_)
  obtain ⟨⟨hP, hK1, hD1⟩, hsz1⟩ := hB
  rw [ht] at hP hsz1
  have hC : CP dC dI Q A s.heap p1.2 H1 locs := ⟨hP, hD1.weaken (fun _ _ _ h => hFc _ h), hS, hsz1⟩
  generalize H1 = H at hC ⊢
  have h4 : (CS.hs σ) ≤ CS.hs p1.2 := Nat.le_trans h0 mo2
  refine W.widen (k := CS.hs p1.2 - (CS.hs σ)) (n := 17 * (CS.hs p1.2 - (CS.hs σ))) (cAcc2 h0 mo2) (cAcc3 h0 mo2) ?_
  refine lv_aload_n hx hb dX7_translate_7 rfl (lv_at hl 0 rfl) ?_
  refine cG_31 hx hb hts i_X7_translate_X7 hown hK hC (hts (.fieldLink RX7 29 "StatementRules2$Statements" "names" "LStatementRules2$Names;") k_X7_translate_fieldLink_RX7_29_SR_Statements_names_LSR_Names) (fun x9 q9 => u_same (hts (.sameField "StatementRules2$Statements" "StatementRules2$Formulas" "names" "LStatementRules2$Names;") k_X7_translate_sameField_SR_Statements_SR_Formulas_names_LSR_Names) x9 q9) dX7_translate_8 ?_
  refine lv_iconst (v := 0) hx hb dX7_translate_11 (by decide) ?_
  refine cPN_50 (v := 0) hx hb hts i_X7_translate_X4 hown hK hC (va_Nw.use rfl (hZ.1 (.fieldLinkNest RX7 33 "StatementRules2$Names" "count" "I" "StatementRules2") (by decide +kernel))) (fun _ q9 => q9) dX7_translate_12 (fun H locs hC => ?_)
  refine lv_aload_n hx hb dX7_translate_15 rfl (lv_at hl 0 rfl) ?_
  refine cG_31 hx hb hts i_X7_translate_X7 hown hK hC (hts (.fieldLink RX7 29 "StatementRules2$Statements" "names" "LStatementRules2$Names;") k_X7_translate_fieldLink_RX7_29_SR_Statements_names_LSR_Names) (fun x9 q9 => u_same (hts (.sameField "StatementRules2$Statements" "StatementRules2$Formulas" "names" "LStatementRules2$Names;") k_X7_translate_sameField_SR_Statements_SR_Formulas_names_LSR_Names) x9 q9) dX7_translate_16 ?_
  refine lv_ldc2 (v := 97) hx hb hown (hts (.constantLong RX7 39 (97)) k_X7_translate_constantLong_RX7_39_97) dX7_translate_19 ?_
  refine lv_aload_n hx hb dX7_translate_22 rfl (lv_at hl 0 rfl) ?_
  refine cG_29 hx hb hts i_X7_translate_X7 hown hK hC (hts (.fieldLink RX7 20 "StatementRules2$Statements" "code" "LStatementRules2$Code;") k_X7_translate_fieldLink_RX7_20_SR_Statements_code_LSR_Code) (fun x9 q9 => u_same (hts (.sameField "StatementRules2$Statements" "StatementRules2$Formulas" "code" "LStatementRules2$Code;") k_X7_translate_sameField_SR_Statements_SR_Formulas_code_LSR_Code) x9 q9) dX7_translate_23 ?_
  refine lv_iconst (v := 1) hx hb dX7_translate_26 (by decide) ?_
  obtain ⟨p5, hcp5, hf⟩ := hf_bind hf
  have mo6 : CS.hs p1.2 ≤ CS.hs p5.2 := Mono.go hcp5 (m_X0_newCells N (CS.setI p1.2 50 0) 1)
  have hr9 : CS.hs p5.2 ≤ CS.hs R.2 := Mono.go hf (mono_bind (m_X4_add N p5.2 97 p5.1 (-1)) (fun p9 => (mono_bind (m_X0_newCells N p9.2 1) (fun p13 => (mono_bind (m_X4_add N p13.2 98 p13.1 (-1)) (fun p17 => (mono_bind (m_X6_clear N p17.2) (fun p21 => (mono_bind (m_X9_start N (CS.setI (CS.setI (CS.setI (CS.setI (CS.setI (CS.setI p21.2 32 0) 33 0) 34 0) 36 1) 37 (-1)) 38 0) x1) (fun p25 => (mono_bind (m_X6_push N p25.2 300 0 (p25.2.i 50)) (fun p29 => (mono_oc (mono_bind (m_X7_turns N E1 E2 hm1 hm2 p29.2 0) (fun p35 => (mono_ite (m_X7_translate_139 N E1 E2 hm1 hm2 p35.2) (mono_bind (m_X1_fail N p35.2 7 (p35.2.i 37)) (fun p40 => (m_X7_translate_139 N E1 E2 hm1 hm2 p40.2)))))) (fun a34 => (mono_bind (m_X7_turns N E1 E2 hm1 hm2 p29.2 0) (fun p44 => (mono_ite (m_X7_translate_139 N E1 E2 hm1 hm2 p44.2) (mono_bind (m_X1_fail N p44.2 7 (p44.2.i 37)) (fun p49 => (m_X7_translate_139 N E1 E2 hm1 hm2 p49.2))))))))))))))))))))
  have hFc := cFree hC hA
  refine va_calli (va_runV (As := [.int 1]) (rest := [.long 97, .ref (Q.o 5)]) ⟨hx, hb, hml, hown, hts⟩ (c_X0_newCells l dC dI Q N (CS.setI p1.2 50 0) 1 p5 hcp5) (cwV 1 hts hX7_translate_X0_newCells_v41 rfl rfl rfl (by decide +kernel) ⟨(show 1 + 1 ≤ (22 + 40 * d) by omega), (show 8 + (2 + 11) + 60 * 1 ≤ 60 * (22 + 40 * d) by omega)⟩) ⟨zPre.blind, va_recv hK hC.1 (ci := 0) (q0 := 2) rfl rfl, cPre_go hZ hK hC⟩ rfl rfl hl.1 rfl (lv_room (Nat.le_of_ble_eq_true rfl)) dX7_translate_27 (cAcc h4 mo6 hr9)) hC.2.2.1 (fun q _ h => hFc q h) hFc (fun r7 u9 t9 H1 locs ht hvm hw hB hz1 hk1 hS => ?_)
  obtain ⟨⟨hP, hK1, hD1⟩, hsz1⟩ := hB
  rw [ht] at hP hsz1
  have hC : CP dC dI Q A s.heap p5.2 H1 locs := ⟨hP, hD1.weaken (fun _ _ _ h => hFc _ h), hS, hsz1⟩
  generalize H1 = H at hC ⊢
  have h8 : (CS.hs σ) ≤ CS.hs p5.2 := Nat.le_trans h4 mo6
  refine W.widen (k := CS.hs p5.2 - (CS.hs σ)) (n := 17 * (CS.hs p5.2 - (CS.hs σ))) (cAcc2 h4 mo6) (cAcc3 h4 mo6) ?_
  obtain rfl : r7 = p5.1 := hw
  refine lv_iconst (v := (-1)) hx hb dX7_translate_30 (by decide) ?_
  obtain ⟨p9, hcp9, hf⟩ := hf_bind hf
  have mo10 : CS.hs p5.2 ≤ CS.hs p9.2 := Mono.go hcp9 (m_X4_add N p5.2 97 p5.1 (-1))
  have hr9 : CS.hs p9.2 ≤ CS.hs R.2 := Mono.go hf (mono_bind (m_X0_newCells N p9.2 1) (fun p13 => (mono_bind (m_X4_add N p13.2 98 p13.1 (-1)) (fun p17 => (mono_bind (m_X6_clear N p17.2) (fun p21 => (mono_bind (m_X9_start N (CS.setI (CS.setI (CS.setI (CS.setI (CS.setI (CS.setI p21.2 32 0) 33 0) 34 0) 36 1) 37 (-1)) 38 0) x1) (fun p25 => (mono_bind (m_X6_push N p25.2 300 0 (p25.2.i 50)) (fun p29 => (mono_oc (mono_bind (m_X7_turns N E1 E2 hm1 hm2 p29.2 0) (fun p35 => (mono_ite (m_X7_translate_139 N E1 E2 hm1 hm2 p35.2) (mono_bind (m_X1_fail N p35.2 7 (p35.2.i 37)) (fun p40 => (m_X7_translate_139 N E1 E2 hm1 hm2 p40.2)))))) (fun a34 => (mono_bind (m_X7_turns N E1 E2 hm1 hm2 p29.2 0) (fun p44 => (mono_ite (m_X7_translate_139 N E1 E2 hm1 hm2 p44.2) (mono_bind (m_X1_fail N p44.2 7 (p44.2.i 37)) (fun p49 => (m_X7_translate_139 N E1 E2 hm1 hm2 p49.2))))))))))))))))))
  have hFc := cFree hC hA
  refine va_callv (va_runV (As := [.long 97, .int p5.1, .int (-1)]) (rest := []) ⟨hx, hb, hml, hown, hts⟩ (c_X4_add l dC dI Q N p5.2 97 p5.1 (-1) p9 hcp9) (cwV 3 hts hX7_translate_X4_add_v45 rfl rfl rfl (by decide +kernel) ⟨(show 1 + 1 ≤ (22 + 40 * d) by omega), (show 8 + (5 + 11) + 60 * 1 ≤ 60 * (22 + 40 * d) by omega)⟩) ⟨zPre.blind, va_recv hK hC.1 (ci := 3) (q0 := 5) rfl rfl, cPre_go hZ hK hC⟩ rfl rfl hl.1 rfl (lv_room (Nat.le_of_ble_eq_true rfl)) dX7_translate_31 (cAcc h8 mo10 hr9)) hC.2.2.1 (fun q _ h => hFc q h) hFc (fun u9 t9 H1 locs ht hvm hw hB hz1 hk1 hS => ?_)
  obtain ⟨⟨hP, hK1, hD1⟩, hsz1⟩ := hB
  rw [ht] at hP hsz1
  have hC : CP dC dI Q A s.heap p9.2 H1 locs := ⟨hP, hD1.weaken (fun _ _ _ h => hFc _ h), hS, hsz1⟩
  generalize H1 = H at hC ⊢
  have h12 : (CS.hs σ) ≤ CS.hs p9.2 := Nat.le_trans h8 mo10
  refine W.widen (k := CS.hs p9.2 - (CS.hs σ)) (n := 17 * (CS.hs p9.2 - (CS.hs σ))) (cAcc2 h8 mo10) (cAcc3 h8 mo10) ?_
  refine lv_aload_n hx hb dX7_translate_34 rfl (lv_at hl 0 rfl) ?_
  refine cG_31 hx hb hts i_X7_translate_X7 hown hK hC (hts (.fieldLink RX7 29 "StatementRules2$Statements" "names" "LStatementRules2$Names;") k_X7_translate_fieldLink_RX7_29_SR_Statements_names_LSR_Names) (fun x9 q9 => u_same (hts (.sameField "StatementRules2$Statements" "StatementRules2$Formulas" "names" "LStatementRules2$Names;") k_X7_translate_sameField_SR_Statements_SR_Formulas_names_LSR_Names) x9 q9) dX7_translate_35 ?_
  refine lv_ldc2 (v := 98) hx hb hown (hts (.constantLong RX7 49 (98)) k_X7_translate_constantLong_RX7_49_98) dX7_translate_38 ?_
  refine lv_aload_n hx hb dX7_translate_41 rfl (lv_at hl 0 rfl) ?_
  refine cG_29 hx hb hts i_X7_translate_X7 hown hK hC (hts (.fieldLink RX7 20 "StatementRules2$Statements" "code" "LStatementRules2$Code;") k_X7_translate_fieldLink_RX7_20_SR_Statements_code_LSR_Code) (fun x9 q9 => u_same (hts (.sameField "StatementRules2$Statements" "StatementRules2$Formulas" "code" "LStatementRules2$Code;") k_X7_translate_sameField_SR_Statements_SR_Formulas_code_LSR_Code) x9 q9) dX7_translate_42 ?_
  refine lv_iconst (v := 1) hx hb dX7_translate_45 (by decide) ?_
  obtain ⟨p13, hcp13, hf⟩ := hf_bind hf
  have mo14 : CS.hs p9.2 ≤ CS.hs p13.2 := Mono.go hcp13 (m_X0_newCells N p9.2 1)
  have hr9 : CS.hs p13.2 ≤ CS.hs R.2 := Mono.go hf (mono_bind (m_X4_add N p13.2 98 p13.1 (-1)) (fun p17 => (mono_bind (m_X6_clear N p17.2) (fun p21 => (mono_bind (m_X9_start N (CS.setI (CS.setI (CS.setI (CS.setI (CS.setI (CS.setI p21.2 32 0) 33 0) 34 0) 36 1) 37 (-1)) 38 0) x1) (fun p25 => (mono_bind (m_X6_push N p25.2 300 0 (p25.2.i 50)) (fun p29 => (mono_oc (mono_bind (m_X7_turns N E1 E2 hm1 hm2 p29.2 0) (fun p35 => (mono_ite (m_X7_translate_139 N E1 E2 hm1 hm2 p35.2) (mono_bind (m_X1_fail N p35.2 7 (p35.2.i 37)) (fun p40 => (m_X7_translate_139 N E1 E2 hm1 hm2 p40.2)))))) (fun a34 => (mono_bind (m_X7_turns N E1 E2 hm1 hm2 p29.2 0) (fun p44 => (mono_ite (m_X7_translate_139 N E1 E2 hm1 hm2 p44.2) (mono_bind (m_X1_fail N p44.2 7 (p44.2.i 37)) (fun p49 => (m_X7_translate_139 N E1 E2 hm1 hm2 p49.2))))))))))))))))
  have hFc := cFree hC hA
  refine va_calli (va_runV (As := [.int 1]) (rest := [.long 98, .ref (Q.o 5)]) ⟨hx, hb, hml, hown, hts⟩ (c_X0_newCells l dC dI Q N p9.2 1 p13 hcp13) (cwV 1 hts hX7_translate_X0_newCells_v41 rfl rfl rfl (by decide +kernel) ⟨(show 1 + 1 ≤ (22 + 40 * d) by omega), (show 8 + (2 + 11) + 60 * 1 ≤ 60 * (22 + 40 * d) by omega)⟩) ⟨zPre.blind, va_recv hK hC.1 (ci := 0) (q0 := 2) rfl rfl, cPre_go hZ hK hC⟩ rfl rfl hl.1 rfl (lv_room (Nat.le_of_ble_eq_true rfl)) dX7_translate_46 (cAcc h12 mo14 hr9)) hC.2.2.1 (fun q _ h => hFc q h) hFc (fun r15 u9 t9 H1 locs ht hvm hw hB hz1 hk1 hS => ?_)
  obtain ⟨⟨hP, hK1, hD1⟩, hsz1⟩ := hB
  rw [ht] at hP hsz1
  have hC : CP dC dI Q A s.heap p13.2 H1 locs := ⟨hP, hD1.weaken (fun _ _ _ h => hFc _ h), hS, hsz1⟩
  generalize H1 = H at hC ⊢
  have h16 : (CS.hs σ) ≤ CS.hs p13.2 := Nat.le_trans h12 mo14
  refine W.widen (k := CS.hs p13.2 - (CS.hs σ)) (n := 17 * (CS.hs p13.2 - (CS.hs σ))) (cAcc2 h12 mo14) (cAcc3 h12 mo14) ?_
  obtain rfl : r15 = p13.1 := hw
  refine lv_iconst (v := (-1)) hx hb dX7_translate_49 (by decide) ?_
  obtain ⟨p17, hcp17, hf⟩ := hf_bind hf
  have mo18 : CS.hs p13.2 ≤ CS.hs p17.2 := Mono.go hcp17 (m_X4_add N p13.2 98 p13.1 (-1))
  have hr9 : CS.hs p17.2 ≤ CS.hs R.2 := Mono.go hf (mono_bind (m_X6_clear N p17.2) (fun p21 => (mono_bind (m_X9_start N (CS.setI (CS.setI (CS.setI (CS.setI (CS.setI (CS.setI p21.2 32 0) 33 0) 34 0) 36 1) 37 (-1)) 38 0) x1) (fun p25 => (mono_bind (m_X6_push N p25.2 300 0 (p25.2.i 50)) (fun p29 => (mono_oc (mono_bind (m_X7_turns N E1 E2 hm1 hm2 p29.2 0) (fun p35 => (mono_ite (m_X7_translate_139 N E1 E2 hm1 hm2 p35.2) (mono_bind (m_X1_fail N p35.2 7 (p35.2.i 37)) (fun p40 => (m_X7_translate_139 N E1 E2 hm1 hm2 p40.2)))))) (fun a34 => (mono_bind (m_X7_turns N E1 E2 hm1 hm2 p29.2 0) (fun p44 => (mono_ite (m_X7_translate_139 N E1 E2 hm1 hm2 p44.2) (mono_bind (m_X1_fail N p44.2 7 (p44.2.i 37)) (fun p49 => (m_X7_translate_139 N E1 E2 hm1 hm2 p49.2))))))))))))))
  have hFc := cFree hC hA
  refine va_callv (va_runV (As := [.long 98, .int p13.1, .int (-1)]) (rest := []) ⟨hx, hb, hml, hown, hts⟩ (c_X4_add l dC dI Q N p13.2 98 p13.1 (-1) p17 hcp17) (cwV 3 hts hX7_translate_X4_add_v45 rfl rfl rfl (by decide +kernel) ⟨(show 1 + 1 ≤ (22 + 40 * d) by omega), (show 8 + (5 + 11) + 60 * 1 ≤ 60 * (22 + 40 * d) by omega)⟩) ⟨zPre.blind, va_recv hK hC.1 (ci := 3) (q0 := 5) rfl rfl, cPre_go hZ hK hC⟩ rfl rfl hl.1 rfl (lv_room (Nat.le_of_ble_eq_true rfl)) dX7_translate_50 (cAcc h16 mo18 hr9)) hC.2.2.1 (fun q _ h => hFc q h) hFc (fun u9 t9 H1 locs ht hvm hw hB hz1 hk1 hS => ?_)
  obtain ⟨⟨hP, hK1, hD1⟩, hsz1⟩ := hB
  rw [ht] at hP hsz1
  have hC : CP dC dI Q A s.heap p17.2 H1 locs := ⟨hP, hD1.weaken (fun _ _ _ h => hFc _ h), hS, hsz1⟩
  generalize H1 = H at hC ⊢
  have h20 : (CS.hs σ) ≤ CS.hs p17.2 := Nat.le_trans h16 mo18
  refine W.widen (k := CS.hs p17.2 - (CS.hs σ)) (n := 17 * (CS.hs p17.2 - (CS.hs σ))) (cAcc2 h16 mo18) (cAcc3 h16 mo18) ?_
  refine lv_aload_n hx hb dX7_translate_53 rfl (lv_at hl 0 rfl) ?_
  refine cG_35 hx hb hts i_X7_translate_X7 hown hK hC (hts (.fieldLink RX7 14 "StatementRules2$Statements" "opens" "LStatementRules2$Opens;") k_X7_translate_fieldLink_RX7_14_SR_Statements_opens_LSR_Opens) (fun _ q9 => q9) dX7_translate_54 ?_
  obtain ⟨p21, hcp21, hf⟩ := hf_bind hf
  have mo22 : CS.hs p17.2 ≤ CS.hs p21.2 := Mono.go hcp21 (m_X6_clear N p17.2)
  have hr9 : CS.hs p21.2 ≤ CS.hs R.2 := Mono.go hf (mono_bind (m_X9_start N (CS.setI (CS.setI (CS.setI (CS.setI (CS.setI (CS.setI p21.2 32 0) 33 0) 34 0) 36 1) 37 (-1)) 38 0) x1) (fun p25 => (mono_bind (m_X6_push N p25.2 300 0 (p25.2.i 50)) (fun p29 => (mono_oc (mono_bind (m_X7_turns N E1 E2 hm1 hm2 p29.2 0) (fun p35 => (mono_ite (m_X7_translate_139 N E1 E2 hm1 hm2 p35.2) (mono_bind (m_X1_fail N p35.2 7 (p35.2.i 37)) (fun p40 => (m_X7_translate_139 N E1 E2 hm1 hm2 p40.2)))))) (fun a34 => (mono_bind (m_X7_turns N E1 E2 hm1 hm2 p29.2 0) (fun p44 => (mono_ite (m_X7_translate_139 N E1 E2 hm1 hm2 p44.2) (mono_bind (m_X1_fail N p44.2 7 (p44.2.i 37)) (fun p49 => (m_X7_translate_139 N E1 E2 hm1 hm2 p49.2))))))))))))
  have hFc := cFree hC hA
  refine va_callv (va_runV (As := []) (rest := []) ⟨hx, hb, hml, hown, hts⟩ (c_X6_clear l dC dI Q N p17.2 p21 hcp21) (cwV 0 hts hX7_translate_X6_clear_v51 rfl rfl rfl (by decide +kernel) ⟨(show 1 + 1 ≤ (22 + 40 * d) by omega), (show 8 + (1 + 11) + 60 * 1 ≤ 60 * (22 + 40 * d) by omega)⟩) ⟨zPre.blind, va_recv hK hC.1 (ci := 5) (q0 := 6) rfl rfl, cPre_go hZ hK hC⟩ rfl rfl hl.1 rfl (lv_room (Nat.le_of_ble_eq_true rfl)) dX7_translate_57 (cAcc h20 mo22 hr9)) hC.2.2.1 (fun q _ h => hFc q h) hFc (fun u9 t9 H1 locs ht hvm hw hB hz1 hk1 hS => ?_)
  obtain ⟨⟨hP, hK1, hD1⟩, hsz1⟩ := hB
  rw [ht] at hP hsz1
  have hC : CP dC dI Q A s.heap p21.2 H1 locs := ⟨hP, hD1.weaken (fun _ _ _ h => hFc _ h), hS, hsz1⟩
  generalize H1 = H at hC ⊢
  have h24 : (CS.hs σ) ≤ CS.hs p21.2 := Nat.le_trans h20 mo22
  refine W.widen (k := CS.hs p21.2 - (CS.hs σ)) (n := 17 * (CS.hs p21.2 - (CS.hs σ))) (cAcc2 h20 mo22) (cAcc3 h20 mo22) ?_
  refine lv_aload_n hx hb dX7_translate_60 rfl (lv_at hl 0 rfl) ?_
  refine lv_iconst (v := 0) hx hb dX7_translate_61 (by decide) ?_
  refine cP_32 (v := 0) hx hb hts i_X7_translate_X7 hown hK hC (hts (.fieldLink RX7 52 "StatementRules2$Statements" "faultNumber" "I") k_X7_translate_fieldLink_RX7_52_SR_Statements_faultNumber_I) (fun x9 q9 => u_same (hts (.sameField "StatementRules2$Statements" "StatementRules2$Formulas" "faultNumber" "I") k_X7_translate_sameField_SR_Statements_SR_Formulas_faultNumber_I) x9 q9) dX7_translate_62 (fun H locs hC => ?_)
  refine lv_aload_n hx hb dX7_translate_65 rfl (lv_at hl 0 rfl) ?_
  refine lv_iconst (v := 0) hx hb dX7_translate_66 (by decide) ?_
  refine cP_33 (v := 0) hx hb hts i_X7_translate_X7 hown hK hC (hts (.fieldLink RX7 55 "StatementRules2$Statements" "faultPlace" "I") k_X7_translate_fieldLink_RX7_55_SR_Statements_faultPlace_I) (fun x9 q9 => u_same (hts (.sameField "StatementRules2$Statements" "StatementRules2$Formulas" "faultPlace" "I") k_X7_translate_sameField_SR_Statements_SR_Formulas_faultPlace_I) x9 q9) dX7_translate_67 (fun H locs hC => ?_)
  refine lv_aload_n hx hb dX7_translate_70 rfl (lv_at hl 0 rfl) ?_
  refine lv_iconst (v := 0) hx hb dX7_translate_71 (by decide) ?_
  refine cP_34 (v := 0) hx hb hts i_X7_translate_X7 hown hK hC (hts (.fieldLink RX7 58 "StatementRules2$Statements" "openSigns" "I") k_X7_translate_fieldLink_RX7_58_SR_Statements_openSigns_I) (fun x9 q9 => u_same (hts (.sameField "StatementRules2$Statements" "StatementRules2$Formulas" "openSigns" "I") k_X7_translate_sameField_SR_Statements_SR_Formulas_openSigns_I) x9 q9) dX7_translate_72 (fun H locs hC => ?_)
  refine lv_aload_n hx hb dX7_translate_75 rfl (lv_at hl 0 rfl) ?_
  refine lv_iconst (v := 1) hx hb dX7_translate_76 (by decide) ?_
  refine cP_36 (v := 1) hx hb hts i_X7_translate_X7 hown hK hC (hts (.fieldLink RX7 61 "StatementRules2$Statements" "alive" "Z") k_X7_translate_fieldLink_RX7_61_SR_Statements_alive_Z) (fun _ q9 => q9) dX7_translate_77 (by decide) (fun H locs hC => ?_)
  refine lv_aload_n hx hb dX7_translate_80 rfl (lv_at hl 0 rfl) ?_
  refine lv_iconst (v := (-1)) hx hb dX7_translate_81 (by decide) ?_
  refine cP_37 (v := (-1)) hx hb hts i_X7_translate_X7 hown hK hC (hts (.fieldLink RX7 65 "StatementRules2$Statements" "unreached" "I") k_X7_translate_fieldLink_RX7_65_SR_Statements_unreached_I) (fun _ q9 => q9) dX7_translate_82 (fun H locs hC => ?_)
  refine lv_aload_n hx hb dX7_translate_85 rfl (lv_at hl 0 rfl) ?_
  refine lv_iconst (v := 0) hx hb dX7_translate_86 (by decide) ?_
  refine cP_38 (v := 0) hx hb hts i_X7_translate_X7 hown hK hC (hts (.fieldLink RX7 68 "StatementRules2$Statements" "depth" "I") k_X7_translate_fieldLink_RX7_68_SR_Statements_depth_I) (fun _ q9 => q9) dX7_translate_87 (fun H locs hC => ?_)
  refine lv_aload_n hx hb dX7_translate_90 rfl (lv_at hl 0 rfl) ?_
  refine cG_28 hx hb hts i_X7_translate_X7 hown hK hC (hts (.fieldLink RX7 71 "StatementRules2$Statements" "tokens" "LStatementRules2$Tokens;") k_X7_translate_fieldLink_RX7_71_SR_Statements_tokens_LSR_Tokens) (fun x9 q9 => u_same (hts (.sameField "StatementRules2$Statements" "StatementRules2$Formulas" "tokens" "LStatementRules2$Tokens;") k_X7_translate_sameField_SR_Statements_SR_Formulas_tokens_LSR_Tokens) x9 q9) dX7_translate_91 ?_
  refine lv_iload_n hx hb dX7_translate_94 rfl (lv_at hl 1 rfl) ?_
  obtain ⟨p25, hcp25, hf⟩ := hf_bind hf
  have mo26 : CS.hs p21.2 ≤ CS.hs p25.2 := Mono.go hcp25 (m_X9_start N (CS.setI (CS.setI (CS.setI (CS.setI (CS.setI (CS.setI p21.2 32 0) 33 0) 34 0) 36 1) 37 (-1)) 38 0) x1)
  have hr9 : CS.hs p25.2 ≤ CS.hs R.2 := Mono.go hf (mono_bind (m_X6_push N p25.2 300 0 (p25.2.i 50)) (fun p29 => (mono_oc (mono_bind (m_X7_turns N E1 E2 hm1 hm2 p29.2 0) (fun p35 => (mono_ite (m_X7_translate_139 N E1 E2 hm1 hm2 p35.2) (mono_bind (m_X1_fail N p35.2 7 (p35.2.i 37)) (fun p40 => (m_X7_translate_139 N E1 E2 hm1 hm2 p40.2)))))) (fun a34 => (mono_bind (m_X7_turns N E1 E2 hm1 hm2 p29.2 0) (fun p44 => (mono_ite (m_X7_translate_139 N E1 E2 hm1 hm2 p44.2) (mono_bind (m_X1_fail N p44.2 7 (p44.2.i 37)) (fun p49 => (m_X7_translate_139 N E1 E2 hm1 hm2 p49.2))))))))))
  have hFc := cFree hC hA
  refine va_callv (va_runV (As := [.int x1]) (rest := []) ⟨hx, hb, hml, hown, hts⟩ (c_X9_start l dC dI Q N (CS.setI (CS.setI (CS.setI (CS.setI (CS.setI (CS.setI p21.2 32 0) 33 0) 34 0) 36 1) 37 (-1)) 38 0) x1 p25 hcp25) (cwV 1 hts hX7_translate_X9_start_v75 rfl rfl rfl (by decide +kernel) ⟨(show 4 + 1 ≤ (22 + 40 * d) by omega), (show 8 + (2 + 11) + 60 * 4 ≤ 60 * (22 + 40 * d) by omega)⟩) ⟨zPre.blind, va_recv hK hC.1 (ci := 8) (q0 := 4) rfl rfl, cPre_go hZ hK hC⟩ rfl rfl hl.1 rfl (lv_room (Nat.le_of_ble_eq_true rfl)) dX7_translate_95 (cAcc h24 mo26 hr9)) hC.2.2.1 (fun q _ h => hFc q h) hFc (fun u9 t9 H1 locs ht hvm hw hB hz1 hk1 hS => ?_)
  obtain ⟨⟨hP, hK1, hD1⟩, hsz1⟩ := hB
  rw [ht] at hP hsz1
  have hC : CP dC dI Q A s.heap p25.2 H1 locs := ⟨hP, hD1.weaken (fun _ _ _ h => hFc _ h), hS, hsz1⟩
  generalize H1 = H at hC ⊢
  have h28 : (CS.hs σ) ≤ CS.hs p25.2 := Nat.le_trans h24 mo26
  refine W.widen (k := CS.hs p25.2 - (CS.hs σ)) (n := 17 * (CS.hs p25.2 - (CS.hs σ))) (cAcc2 h24 mo26) (cAcc3 h24 mo26) ?_
  refine lv_aload_n hx hb dX7_translate_98 rfl (lv_at hl 0 rfl) ?_
  refine cG_35 hx hb hts i_X7_translate_X7 hown hK hC (hts (.fieldLink RX7 14 "StatementRules2$Statements" "opens" "LStatementRules2$Opens;") k_X7_translate_fieldLink_RX7_14_SR_Statements_opens_LSR_Opens) (fun _ q9 => q9) dX7_translate_99 ?_
  refine lv_sipush (v := 300) hx hb dX7_translate_102 (by decide) ?_
  refine lv_iconst (v := 0) hx hb dX7_translate_105 (by decide) ?_
  refine lv_aload_n hx hb dX7_translate_106 rfl (lv_at hl 0 rfl) ?_
  refine cG_31 hx hb hts i_X7_translate_X7 hown hK hC (hts (.fieldLink RX7 29 "StatementRules2$Statements" "names" "LStatementRules2$Names;") k_X7_translate_fieldLink_RX7_29_SR_Statements_names_LSR_Names) (fun x9 q9 => u_same (hts (.sameField "StatementRules2$Statements" "StatementRules2$Formulas" "names" "LStatementRules2$Names;") k_X7_translate_sameField_SR_Statements_SR_Formulas_names_LSR_Names) x9 q9) dX7_translate_107 ?_
  refine cGN_50 (v := (p25.2.i 50)) hx hb hts i_X7_translate_X4 hown hK hC (va_Nw.use rfl (hZ.1 (.fieldLinkNest RX7 33 "StatementRules2$Names" "count" "I" "StatementRules2") (by decide +kernel))) (fun _ q9 => q9) dX7_translate_110 rfl ?_
  obtain ⟨p29, hcp29, hf⟩ := hf_bind hf
  have mo30 : CS.hs p25.2 ≤ CS.hs p29.2 := Mono.go hcp29 (m_X6_push N p25.2 300 0 (p25.2.i 50))
  have hr9 : CS.hs p29.2 ≤ CS.hs R.2 := Mono.go hf (mono_oc (mono_bind (m_X7_turns N E1 E2 hm1 hm2 p29.2 0) (fun p35 => (mono_ite (m_X7_translate_139 N E1 E2 hm1 hm2 p35.2) (mono_bind (m_X1_fail N p35.2 7 (p35.2.i 37)) (fun p40 => (m_X7_translate_139 N E1 E2 hm1 hm2 p40.2)))))) (fun a34 => (mono_bind (m_X7_turns N E1 E2 hm1 hm2 p29.2 0) (fun p44 => (mono_ite (m_X7_translate_139 N E1 E2 hm1 hm2 p44.2) (mono_bind (m_X1_fail N p44.2 7 (p44.2.i 37)) (fun p49 => (m_X7_translate_139 N E1 E2 hm1 hm2 p49.2))))))))
  have hFc := cFree hC hA
  refine va_callq (va_runV (As := [.int 300, .int 0, .int (p25.2.i 50)]) (rest := []) ⟨hx, hb, hml, hown, hts⟩ (c_X6_push l dC dI Q N p25.2 300 0 (p25.2.i 50) p29 hcp29) (cwV 3 hts hX7_translate_X6_push_v81 rfl rfl rfl (by decide +kernel) ⟨(show 2 + 1 ≤ (22 + 40 * d) by omega), (show 8 + (6 + 11) + 60 * 2 ≤ 60 * (22 + 40 * d) by omega)⟩) ⟨zPre.blind, va_recv hK hC.1 (ci := 5) (q0 := 6) rfl rfl, cPre_go hZ hK hC⟩ rfl rfl hl.1 rfl (lv_room (Nat.le_of_ble_eq_true rfl)) dX7_translate_113 (cAcc h28 mo30 hr9)) hC.2.2.1 (fun q _ h => hFc q h) hFc (fun r31 u9 t9 H1 locs ht hvm hw hB hz1 hk1 hS => ?_)
  obtain ⟨⟨hP, hK1, hD1⟩, hsz1⟩ := hB
  rw [ht] at hP hsz1
  have hC : CP dC dI Q A s.heap p29.2 H1 locs := ⟨hP, hD1.weaken (fun _ _ _ h => hFc _ h), hS, hsz1⟩
  generalize H1 = H at hC ⊢
  have h32 : (CS.hs σ) ≤ CS.hs p29.2 := Nat.le_trans h28 mo30
  refine W.widen (k := CS.hs p29.2 - (CS.hs σ)) (n := 17 * (CS.hs p29.2 - (CS.hs σ))) (cAcc2 h28 mo30) (cAcc3 h28 mo30) ?_
  obtain rfl : r31 = p29.1 := hw
  rcases hf_oc hf with ⟨q33, hf⟩ | ⟨a34, q33, hf⟩
  ·
    refine W.eq (congrArg (fun v9 => F0 m 116 ls (va_rf v9 :: [])) q33) ?_
    refine W.eq (g2 := F0 m 116 ls (.null :: [])) rfl ?_
    refine lv_pop hx hb dX7_translate_116 rfl ?_
    refine lv_aload_n hx hb dX7_translate_117 rfl (lv_at hl 0 rfl) ?_
    refine lv_iconst (v := 0) hx hb dX7_translate_118 (by decide) ?_
    obtain ⟨p35, hcp35, hf⟩ := hf_bind hf
    have mo36 : CS.hs p29.2 ≤ CS.hs p35.2 := Mono.go hcp35 (m_X7_turns N E1 E2 hm1 hm2 p29.2 0)
    have hr9 : CS.hs p35.2 ≤ CS.hs R.2 := Mono.go hf (mono_ite (m_X7_translate_139 N E1 E2 hm1 hm2 p35.2) (mono_bind (m_X1_fail N p35.2 7 (p35.2.i 37)) (fun p40 => (m_X7_translate_139 N E1 E2 hm1 hm2 p40.2))))
    have hFc := cFree hC hA
    refine va_callv (va_runV (As := [.int 0]) (rest := []) ⟨hx, hb, hml, hown, hts⟩ (c_X7_turns l dC dI Q N d E1 E2 hE1 hE2 hm1 hm2 p29.2 0 p35 hcp35) (cwV 1 hts hX7_translate_X7_turns_v85 rfl rfl rfl (by decide +kernel) ⟨(show (21 + 40 * d) + 1 ≤ (22 + 40 * d) by omega), (show 8 + (4 + 11) + 60 * (21 + 40 * d) ≤ 60 * (22 + 40 * d) by omega)⟩) ⟨zPre.blind, va_recv hK hC.1 (ci := 6) (q0 := 3) rfl rfl, cPre_go hZ hK hC⟩ rfl rfl hl.1 rfl (lv_room (Nat.le_of_ble_eq_true rfl)) dX7_translate_119 (cAcc h32 mo36 hr9)) hC.2.2.1 (fun q _ h => hFc q h) hFc (fun u9 t9 H1 locs ht hvm hw hB hz1 hk1 hS => ?_)
    obtain ⟨⟨hP, hK1, hD1⟩, hsz1⟩ := hB
    rw [ht] at hP hsz1
    have hC : CP dC dI Q A s.heap p35.2 H1 locs := ⟨hP, hD1.weaken (fun _ _ _ h => hFc _ h), hS, hsz1⟩
    generalize H1 = H at hC ⊢
    have h38 : (CS.hs σ) ≤ CS.hs p35.2 := Nat.le_trans h32 mo36
    refine W.widen (k := CS.hs p35.2 - (CS.hs σ)) (n := 17 * (CS.hs p35.2 - (CS.hs σ))) (cAcc2 h32 mo36) (cAcc3 h32 mo36) ?_
    refine lv_aload_n hx hb dX7_translate_122 rfl (lv_at hl 0 rfl) ?_
    refine cG_37 (v := (p35.2.i 37)) hx hb hts i_X7_translate_X7 hown hK hC (hts (.fieldLink RX7 65 "StatementRules2$Statements" "unreached" "I") k_X7_translate_fieldLink_RX7_65_SR_Statements_unreached_I) (fun _ q9 => q9) dX7_translate_123 rfl ?_
    refine lv_if_lt (tgt := 139) hx hb dX7_translate_126 (by decide) (fun c39 => ?_) (fun c39 => ?_)
    ·
      replace hf := (if_pos c39).symm.trans hf
      exact j_X7_translate_139 l dC dI Q N d E1 E2 hE1 hE2 hm1 hm2 (CS.hs σ) R hx hb hr hml hown hts hlocks hZ hA hK p35.2 _ _ _ hf h38 hC (lv_sub hl [0] rfl)
    ·
      replace hf := (if_neg c39).symm.trans hf
      refine lv_aload_n hx hb dX7_translate_129 rfl (lv_at hl 0 rfl) ?_
      refine lv_bipush (v := 7) hx hb dX7_translate_130 (by decide) ?_
      refine lv_aload_n hx hb dX7_translate_132 rfl (lv_at hl 0 rfl) ?_
      refine cG_37 (v := (p35.2.i 37)) hx hb hts i_X7_translate_X7 hown hK hC (hts (.fieldLink RX7 65 "StatementRules2$Statements" "unreached" "I") k_X7_translate_fieldLink_RX7_65_SR_Statements_unreached_I) (fun _ q9 => q9) dX7_translate_133 rfl ?_
      obtain ⟨p40, hcp40, hf⟩ := hf_bind hf
      have mo41 : CS.hs p35.2 ≤ CS.hs p40.2 := Mono.go hcp40 (m_X1_fail N p35.2 7 (p35.2.i 37))
      have hr9 : CS.hs p40.2 ≤ CS.hs R.2 := Mono.go hf (m_X7_translate_139 N E1 E2 hm1 hm2 p40.2)
      have hFc := cFree hC hA
      refine va_callv (va_runU (As := [.int 7, .int (p35.2.i 37)]) (rest := []) ⟨hx, hb, hml, hown, hts⟩ (c_X1_fail l dC dI Q N p35.2 7 (p35.2.i 37) p40 hcp40) (va_cwU 2 hts hX7_translate_X1_fail_u88 rfl rfl rfl rfl (by decide +kernel) ⟨(show 2 + 1 ≤ (22 + 40 * d) by omega), (show 8 + (3 + 11) + 60 * 2 ≤ 60 * (22 + 40 * d) by omega)⟩) ⟨zPre.blind, va_recv hK hC.1 (ci := 6) (q0 := 3) rfl rfl, cPre_go hZ hK hC⟩ rfl rfl hl.1 rfl (lv_room (Nat.le_of_ble_eq_true rfl)) dX7_translate_136 (cAcc h38 mo41 hr9)) hC.2.2.1 (fun q _ h => hFc q h) hFc (fun u9 t9 H1 locs ht hvm hw hB hz1 hk1 hS => ?_)
      obtain ⟨⟨hP, hK1, hD1⟩, hsz1⟩ := hB
      rw [ht] at hP hsz1
      have hC : CP dC dI Q A s.heap p40.2 H1 locs := ⟨hP, hD1.weaken (fun _ _ _ h => hFc _ h), hS, hsz1⟩
      generalize H1 = H at hC ⊢
      have h43 : (CS.hs σ) ≤ CS.hs p40.2 := Nat.le_trans h38 mo41
      refine W.widen (k := CS.hs p40.2 - (CS.hs σ)) (n := 17 * (CS.hs p40.2 - (CS.hs σ))) (cAcc2 h38 mo41) (cAcc3 h38 mo41) ?_
      exact j_X7_translate_139 l dC dI Q N d E1 E2 hE1 hE2 hm1 hm2 (CS.hs σ) R hx hb hr hml hown hts hlocks hZ hA hK p40.2 _ _ _ hf h43 hC (lv_sub hl [0] rfl)
  ·
    refine W.eq (congrArg (fun v9 => F0 m 116 ls (va_rf v9 :: [])) q33) ?_
    refine W.eq (g2 := F0 m 116 ls (.ref a34 :: [])) rfl ?_
    refine lv_pop hx hb dX7_translate_116 rfl ?_
    refine lv_aload_n hx hb dX7_translate_117 rfl (lv_at hl 0 rfl) ?_
    refine lv_iconst (v := 0) hx hb dX7_translate_118 (by decide) ?_
    obtain ⟨p44, hcp44, hf⟩ := hf_bind hf
    have mo45 : CS.hs p29.2 ≤ CS.hs p44.2 := Mono.go hcp44 (m_X7_turns N E1 E2 hm1 hm2 p29.2 0)
    have hr9 : CS.hs p44.2 ≤ CS.hs R.2 := Mono.go hf (mono_ite (m_X7_translate_139 N E1 E2 hm1 hm2 p44.2) (mono_bind (m_X1_fail N p44.2 7 (p44.2.i 37)) (fun p49 => (m_X7_translate_139 N E1 E2 hm1 hm2 p49.2))))
    have hFc := cFree hC hA
    refine va_callv (va_runV (As := [.int 0]) (rest := []) ⟨hx, hb, hml, hown, hts⟩ (c_X7_turns l dC dI Q N d E1 E2 hE1 hE2 hm1 hm2 p29.2 0 p44 hcp44) (cwV 1 hts hX7_translate_X7_turns_v85 rfl rfl rfl (by decide +kernel) ⟨(show (21 + 40 * d) + 1 ≤ (22 + 40 * d) by omega), (show 8 + (4 + 11) + 60 * (21 + 40 * d) ≤ 60 * (22 + 40 * d) by omega)⟩) ⟨zPre.blind, va_recv hK hC.1 (ci := 6) (q0 := 3) rfl rfl, cPre_go hZ hK hC⟩ rfl rfl hl.1 rfl (lv_room (Nat.le_of_ble_eq_true rfl)) dX7_translate_119 (cAcc h32 mo45 hr9)) hC.2.2.1 (fun q _ h => hFc q h) hFc (fun u9 t9 H1 locs ht hvm hw hB hz1 hk1 hS => ?_)
    obtain ⟨⟨hP, hK1, hD1⟩, hsz1⟩ := hB
    rw [ht] at hP hsz1
    have hC : CP dC dI Q A s.heap p44.2 H1 locs := ⟨hP, hD1.weaken (fun _ _ _ h => hFc _ h), hS, hsz1⟩
    generalize H1 = H at hC ⊢
    have h47 : (CS.hs σ) ≤ CS.hs p44.2 := Nat.le_trans h32 mo45
    refine W.widen (k := CS.hs p44.2 - (CS.hs σ)) (n := 17 * (CS.hs p44.2 - (CS.hs σ))) (cAcc2 h32 mo45) (cAcc3 h32 mo45) ?_
    refine lv_aload_n hx hb dX7_translate_122 rfl (lv_at hl 0 rfl) ?_
    refine cG_37 (v := (p44.2.i 37)) hx hb hts i_X7_translate_X7 hown hK hC (hts (.fieldLink RX7 65 "StatementRules2$Statements" "unreached" "I") k_X7_translate_fieldLink_RX7_65_SR_Statements_unreached_I) (fun _ q9 => q9) dX7_translate_123 rfl ?_
    refine lv_if_lt (tgt := 139) hx hb dX7_translate_126 (by decide) (fun c48 => ?_) (fun c48 => ?_)
    ·
      replace hf := (if_pos c48).symm.trans hf
      exact j_X7_translate_139 l dC dI Q N d E1 E2 hE1 hE2 hm1 hm2 (CS.hs σ) R hx hb hr hml hown hts hlocks hZ hA hK p44.2 _ _ _ hf h47 hC (lv_sub hl [0] rfl)
    ·
      replace hf := (if_neg c48).symm.trans hf
      refine lv_aload_n hx hb dX7_translate_129 rfl (lv_at hl 0 rfl) ?_
      refine lv_bipush (v := 7) hx hb dX7_translate_130 (by decide) ?_
      refine lv_aload_n hx hb dX7_translate_132 rfl (lv_at hl 0 rfl) ?_
      refine cG_37 (v := (p44.2.i 37)) hx hb hts i_X7_translate_X7 hown hK hC (hts (.fieldLink RX7 65 "StatementRules2$Statements" "unreached" "I") k_X7_translate_fieldLink_RX7_65_SR_Statements_unreached_I) (fun _ q9 => q9) dX7_translate_133 rfl ?_
      obtain ⟨p49, hcp49, hf⟩ := hf_bind hf
      have mo50 : CS.hs p44.2 ≤ CS.hs p49.2 := Mono.go hcp49 (m_X1_fail N p44.2 7 (p44.2.i 37))
      have hr9 : CS.hs p49.2 ≤ CS.hs R.2 := Mono.go hf (m_X7_translate_139 N E1 E2 hm1 hm2 p49.2)
      have hFc := cFree hC hA
      refine va_callv (va_runU (As := [.int 7, .int (p44.2.i 37)]) (rest := []) ⟨hx, hb, hml, hown, hts⟩ (c_X1_fail l dC dI Q N p44.2 7 (p44.2.i 37) p49 hcp49) (va_cwU 2 hts hX7_translate_X1_fail_u88 rfl rfl rfl rfl (by decide +kernel) ⟨(show 2 + 1 ≤ (22 + 40 * d) by omega), (show 8 + (3 + 11) + 60 * 2 ≤ 60 * (22 + 40 * d) by omega)⟩) ⟨zPre.blind, va_recv hK hC.1 (ci := 6) (q0 := 3) rfl rfl, cPre_go hZ hK hC⟩ rfl rfl hl.1 rfl (lv_room (Nat.le_of_ble_eq_true rfl)) dX7_translate_136 (cAcc h47 mo50 hr9)) hC.2.2.1 (fun q _ h => hFc q h) hFc (fun u9 t9 H1 locs ht hvm hw hB hz1 hk1 hS => ?_)
      obtain ⟨⟨hP, hK1, hD1⟩, hsz1⟩ := hB
      rw [ht] at hP hsz1
      have hC : CP dC dI Q A s.heap p49.2 H1 locs := ⟨hP, hD1.weaken (fun _ _ _ h => hFc _ h), hS, hsz1⟩
      generalize H1 = H at hC ⊢
      have h52 : (CS.hs σ) ≤ CS.hs p49.2 := Nat.le_trans h47 mo50
      refine W.widen (k := CS.hs p49.2 - (CS.hs σ)) (n := 17 * (CS.hs p49.2 - (CS.hs σ))) (cAcc2 h47 mo50) (cAcc3 h47 mo50) ?_
      exact j_X7_translate_139 l dC dI Q N d E1 E2 hE1 hE2 hm1 hm2 (CS.hs σ) R hx hb hr hml hown hts hlocks hZ hA hK p49.2 _ _ _ hf h52 hC (lv_sub hl [0] rfl)
theorem k_X10_isFull_fieldLink_RX10_24_SR_Told_kindCount_I : Cond.fieldLink RX10 24 "StatementRules2$Told" "kindCount" "I" ∈ wzX10_isFull := List.mem_cons_of_mem _ (List.mem_append_left _ (List.mem_of_getElem? (i := 0) rfl))
theorem i_X10_isFull_X10 : ∀ w ∈ wsX100, w ∈ wzX10_isFull := fun _ h => List.mem_cons_of_mem _ (List.mem_append_right _ (List.mem_append_left _ (h)))
set_option maxHeartbeats 4000000 in
set_option maxRecDepth 100000 in
theorem c_X10_isFull (l : Launch) (dC : Nat → ClassId) (dI : Nat → Nat → Nat) (Q : CQ) (N : Nat) (σ : CS) (R : Int32 × CS) (hf : f_X10_isFull N σ = some R) : Met l yX10_isFull wzX10_isFull ({ frames := 1, cells := CS.hs R.2 - CS.hs σ, slots := 17 * (CS.hs R.2 - CS.hs σ), locals := 60 * 1 }) (va_Pc [.ref (Q.o 1)] (zPre dC dI (CS.hs σ) (cW Q σ) (cT Q))) (va_Qi (fun (r : Int32) (_ : Unit) => r = R.1) (fun (_ : Unit) (t : State) => zPost dC dI (va_A (cW Q σ) (CS.hs σ)) (cW Q R.2) (cT Q) t ∧ t.heap.size = CS.hs R.2) (va_A (cW Q σ) (CS.hs σ))) (CS.hs R.2 - CS.hs σ) (17 * (CS.hs R.2 - CS.hs σ)) (va_A (cW Q σ) (CS.hs σ)) := by
  refine Met.ofW (cc := cX10_isFull) (maxL := 1) (ret := (some .boolean)) (by decide) rfl ?_
  intro p e s m args below meth c s₁ B hml hv
  obtain ⟨rfl, hsz, hZ, hP, hK, hD0⟩ := hv
  have hx := B.exec
  have hb := B.bytes
  have hr := B.returns
  have hts := atoms_spec (ws := wzX10_isFull) B.pre
  have hown : s.vm.findClass RX10 = some m.cls := findClass_of_methodNamed B.named
  have hlocks := B.notSynchronized
  have hD := hD0.self (sz := CS.hs σ)
  generalize hAe : va_A (cW Q σ) (CS.hs σ) = A at hD ⊢
  have hA : ∀ q : Nat, s.heap.size ≤ q → A q := fun q h => by rw [← hAe]; exact Or.inr (hsz ▸ h)
  have hC : CP dC dI Q A s.heap σ s.heap [] := ⟨hP, hD, va_S.rf, hsz⟩
  have h0 : CS.hs σ ≤ CS.hs σ := Nat.le_refl _
  have hl := lv_entry ([.ref (Q.o 1)]) (n := 1) (Nat.le_of_ble_eq_true rfl)
  rw [lg_entry_eq]
  generalize (lg_sl ([.ref (Q.o 1)]) ++ List.replicate (1 - (lg_sl ([.ref (Q.o 1)])).length) Slot.unset).toArray = ls at hl ⊢
  have hl : lv_has ls 1 [(0, .ref (Q.o 1))] := hl
  unfold f_X10_isFull at hf
  refine W.widen (k := CS.hs σ - CS.hs σ) (n := 17 * (CS.hs σ - CS.hs σ)) (Nat.zero_le _) (Nat.zero_le _) ?_
  refine lv_aload_n hx hb dX10_isFull_0 rfl (lv_at hl 0 rfl) ?_
  refine cG_13 (v := (σ.i 13)) hx hb hts i_X10_isFull_X10 hown hK hC (hts (.fieldLink RX10 24 "StatementRules2$Told" "kindCount" "I") k_X10_isFull_fieldLink_RX10_24_SR_Told_kindCount_I) (fun _ q9 => q9) dX10_isFull_1 rfl ?_
  refine lv_bipush (v := 12) hx hb dX10_isFull_4 (by decide) ?_
  refine lv_icmp_lt (tgt := 13) hx hb dX10_isFull_6 (by decide) (fun c1 => ?_) (fun c1 => ?_)
  ·
    replace hf := (if_pos c1).symm.trans hf
    refine lv_iconst (v := 0) hx hb dX10_isFull_13 (by decide) ?_
    obtain rfl := Option.some.inj hf
    exact W.zret (v := 0) hx hb hr (rfl) (fun t ht hW => ⟨⟨0, (), rfl, rfl, ⟨by rw [ht]; exact hC.1, va_K.moved hW.alike hK, hC.2.1⟩, by rw [ht]; exact hC.2.2.2⟩, hC.2.2.1.F ht⟩) hC.2.2.1.2.2 dX10_isFull_14
  ·
    replace hf := (if_neg c1).symm.trans hf
    refine lv_iconst (v := 1) hx hb dX10_isFull_9 (by decide) ?_
    refine lv_goto (tgt := 14) hx hb dX10_isFull_10 (by decide) ?_
    obtain rfl := Option.some.inj hf
    exact W.zret (v := 1) hx hb hr (rfl) (fun t ht hW => ⟨⟨1, (), rfl, rfl, ⟨by rw [ht]; exact hC.1, va_K.moved hW.alike hK, hC.2.1⟩, by rw [ht]; exact hC.2.2.2⟩, hC.2.2.1.F ht⟩) hC.2.2.1.2.2 dX10_isFull_14
theorem k_X10_addKind_fieldLink_RX10_9_SR_Told_above_I : Cond.fieldLink RX10 9 "StatementRules2$Told" "above" "[I" ∈ wzX10_addKind := List.mem_cons_of_mem _ (List.mem_append_left _ (List.mem_of_getElem? (i := 0) rfl))
theorem i_X10_addKind_X10 : ∀ w ∈ wsX100, w ∈ wzX10_addKind := fun _ h => List.mem_cons_of_mem _ (List.mem_append_right _ (List.mem_append_left _ (h)))
theorem k_X10_addKind_fieldLink_RX10_24_SR_Told_kindCount_I : Cond.fieldLink RX10 24 "StatementRules2$Told" "kindCount" "I" ∈ wzX10_addKind := List.mem_cons_of_mem _ (List.mem_append_left _ (List.mem_of_getElem? (i := 1) rfl))
theorem k_X10_addKind_initialized_RX11 : Cond.initialized RX11 ∈ wzX10_addKind := List.mem_cons_of_mem _ (List.mem_append_left _ (List.mem_of_getElem? (i := 2) rfl))
theorem k_X10_addKind_static_yX11_put : Cond.static yX11_put ∈ wzX10_addKind := List.mem_cons_of_mem _ (List.mem_append_left _ (List.mem_of_getElem? (i := 3) rfl))
set_option maxHeartbeats 4000000 in
set_option maxRecDepth 100000 in
theorem c_X10_addKind (l : Launch) (dC : Nat → ClassId) (dI : Nat → Nat → Nat) (Q : CQ) (N : Nat) (σ : CS) (x1 : Int32) (R : Int32 × CS) (hf : f_X10_addKind N σ x1 = some R) : Met l yX10_addKind wzX10_addKind ({ frames := 2, cells := CS.hs R.2 - CS.hs σ, slots := 17 * (CS.hs R.2 - CS.hs σ), locals := 60 * 2 }) (va_Pc [.ref (Q.o 1), .int x1] (zPre dC dI (CS.hs σ) (cW Q σ) (cT Q))) (va_Qi (fun (r : Int32) (_ : Unit) => r = R.1) (fun (_ : Unit) (t : State) => zPost dC dI (va_A (cW Q σ) (CS.hs σ)) (cW Q R.2) (cT Q) t ∧ t.heap.size = CS.hs R.2) (va_A (cW Q σ) (CS.hs σ))) (CS.hs R.2 - CS.hs σ) (17 * (CS.hs R.2 - CS.hs σ)) (va_A (cW Q σ) (CS.hs σ)) := by
  refine Met.ofW (cc := cX10_addKind) (maxL := 2) (ret := (some .int)) (by decide) rfl ?_
  intro p e s m args below meth c s₁ B hml hv
  obtain ⟨rfl, hsz, hZ, hP, hK, hD0⟩ := hv
  have hx := B.exec
  have hb := B.bytes
  have hr := B.returns
  have hts := atoms_spec (ws := wzX10_addKind) B.pre
  have hown : s.vm.findClass RX10 = some m.cls := findClass_of_methodNamed B.named
  have hlocks := B.notSynchronized
  have hD := hD0.self (sz := CS.hs σ)
  generalize hAe : va_A (cW Q σ) (CS.hs σ) = A at hD ⊢
  have hA : ∀ q : Nat, s.heap.size ≤ q → A q := fun q h => by rw [← hAe]; exact Or.inr (hsz ▸ h)
  have hC : CP dC dI Q A s.heap σ s.heap [] := ⟨hP, hD, va_S.rf, hsz⟩
  have h0 : CS.hs σ ≤ CS.hs σ := Nat.le_refl _
  have hl := lv_entry ([.ref (Q.o 1), .int x1]) (n := 2) (Nat.le_of_ble_eq_true rfl)
  rw [lg_entry_eq]
  generalize (lg_sl ([.ref (Q.o 1), .int x1]) ++ List.replicate (2 - (lg_sl ([.ref (Q.o 1), .int x1])).length) Slot.unset).toArray = ls at hl ⊢
  have hl : lv_has ls 2 [(0, .ref (Q.o 1)), (1, .int x1)] := hl
  unfold f_X10_addKind at hf
  refine W.widen (k := CS.hs σ - CS.hs σ) (n := 17 * (CS.hs σ - CS.hs σ)) (Nat.zero_le _) (Nat.zero_le _) ?_
  refine lv_aload_n hx hb dX10_addKind_0 rfl (lv_at hl 0 rfl) ?_
  refine cG_9 hx hb hts i_X10_addKind_X10 hown hK hC (hts (.fieldLink RX10 9 "StatementRules2$Told" "above" "[I") k_X10_addKind_fieldLink_RX10_9_SR_Told_above_I) (fun _ q9 => q9) dX10_addKind_1 ?_
  refine lv_aload_n hx hb dX10_addKind_4 rfl (lv_at hl 0 rfl) ?_
  refine cG_13 (v := (σ.i 13)) hx hb hts i_X10_addKind_X10 hown hK hC (hts (.fieldLink RX10 24 "StatementRules2$Told" "kindCount" "I") k_X10_addKind_fieldLink_RX10_24_SR_Told_kindCount_I) (fun _ q9 => q9) dX10_addKind_5 rfl ?_
  refine lv_iload_n hx hb dX10_addKind_8 rfl (lv_at hl 1 rfl) ?_
  have he9 := (cArr_9 (Q := Q) (σ := σ))
  have hFc := cFree1 hC hA he9
  have hr9 : CS.hs σ ≤ CS.hs R.2 := Mono.go hf (mono_some (Nat.le_refl _))
  refine va_callv (va_runSN (As := [.ref (Q.q 9), .int (σ.i 13), .int x1]) (rest := []) ⟨hx, hb, hml, hown, hts⟩ (c_X11_put l dC dI _ (Q.q 9) (Q.c 0) 12 (σ.a 9) (σ.i 13) x1 (by decide)) ⟨va_cnB 3 hts hX10_addKind_X11_put_n28 rfl rfl rfl (hZ.1 (.methodLinkNest RX10 28 yX11_put "StatementRules2") (by decide +kernel)) (hts (.initialized RX11) k_X10_addKind_initialized_RX11) (by decide +kernel) ⟨(show 1 + 1 ≤ 2 by omega), (show 8 + (3 + 11) + 60 * 1 ≤ 60 * 2 by omega)⟩, (hts (.static yX11_put) k_X10_addKind_static_yX11_put), trivial⟩ ⟨zPre.blind, zPre.go hZ (cOne hC.1 he9) (hK.sub (tys' := [(Q.c 0, .int)]) [0] rfl) (cOneD hC.2.1 he9)⟩ rfl rfl hl.1 rfl (lv_room (Nat.le_of_ble_eq_true rfl)) dX10_addKind_9 ⟨cAcc4 h0 hr9, cAcc5 h0 hr9⟩) hC.2.2.1 (fun q _ h => hFc q h) hFc (fun u9 t9 H1 locs ht hvm hw hB hz1 hk1 hS => ?_)
  obtain ⟨⟨hP1, hK1, hD1⟩, hsz1⟩ := hB
  rw [ht] at hP1 hsz1
  have hC := cBack (σ' := CS.putA σ 9 (gPut (σ.a 9) 12 (σ.i 13) x1)) hC he9 cPutA_9 (cPutA_h _ _ _) hk1 hP1 hsz1 hS
  generalize H1 = H at hC ⊢
  refine lv_aload_n hx hb dX10_addKind_12 rfl (lv_at hl 0 rfl) ?_
  refine lv_dup hx hb dX10_addKind_13 rfl ?_
  refine cG_13 (v := (σ.i 13)) hx hb hts i_X10_addKind_X10 hown hK hC (hts (.fieldLink RX10 24 "StatementRules2$Told" "kindCount" "I") k_X10_addKind_fieldLink_RX10_24_SR_Told_kindCount_I) (fun _ q9 => q9) dX10_addKind_14 rfl ?_
  refine lv_iconst (v := 1) hx hb dX10_addKind_17 (by decide) ?_
  refine lv_iadd hx hb dX10_addKind_18 ?_
  refine cP_13 (v := ((σ.i 13) + 1)) hx hb hts i_X10_addKind_X10 hown hK hC (hts (.fieldLink RX10 24 "StatementRules2$Told" "kindCount" "I") k_X10_addKind_fieldLink_RX10_24_SR_Told_kindCount_I) (fun _ q9 => q9) dX10_addKind_19 (fun H locs hC => ?_)
  refine lv_aload_n hx hb dX10_addKind_22 rfl (lv_at hl 0 rfl) ?_
  refine cG_13 (v := ((σ.i 13) + 1)) hx hb hts i_X10_addKind_X10 hown hK hC (hts (.fieldLink RX10 24 "StatementRules2$Told" "kindCount" "I") k_X10_addKind_fieldLink_RX10_24_SR_Told_kindCount_I) (fun _ q9 => q9) dX10_addKind_23 rfl ?_
  refine lv_iconst (v := 1) hx hb dX10_addKind_26 (by decide) ?_
  refine lv_isub hx hb dX10_addKind_27 ?_
  obtain rfl := Option.some.inj hf
  exact W.iret (v := (((σ.i 13) + 1) - 1)) hx hb hr (fun t ht hW => ⟨⟨(((σ.i 13) + 1) - 1), (), rfl, rfl, ⟨by rw [ht]; exact hC.1, va_K.moved hW.alike hK, hC.2.1⟩, by rw [ht]; exact hC.2.2.2⟩, hC.2.2.1.F ht⟩) hC.2.2.1.2.2 dX10_addKind_28
theorem k_X10_tellResource_fieldLink_RX10_15_SR_Told_isNull_I : Cond.fieldLink RX10 15 "StatementRules2$Told" "isNull" "[I" ∈ wzX10_tellResource := List.mem_cons_of_mem _ (List.mem_append_left _ (List.mem_of_getElem? (i := 0) rfl))
theorem i_X10_tellResource_X10 : ∀ w ∈ wsX100, w ∈ wzX10_tellResource := fun _ h => List.mem_cons_of_mem _ (List.mem_append_right _ (List.mem_append_left _ (h)))
theorem k_X10_tellResource_initialized_RX11 : Cond.initialized RX11 ∈ wzX10_tellResource := List.mem_cons_of_mem _ (List.mem_append_left _ (List.mem_of_getElem? (i := 1) rfl))
theorem k_X10_tellResource_static_yX11_put : Cond.static yX11_put ∈ wzX10_tellResource := List.mem_cons_of_mem _ (List.mem_append_left _ (List.mem_of_getElem? (i := 2) rfl))
theorem k_X10_tellResource_fieldLink_RX10_18_SR_Told_opening_I : Cond.fieldLink RX10 18 "StatementRules2$Told" "opening" "[I" ∈ wzX10_tellResource := List.mem_cons_of_mem _ (List.mem_append_left _ (List.mem_of_getElem? (i := 3) rfl))
theorem k_X10_tellResource_fieldLink_RX10_21_SR_Told_closing_I : Cond.fieldLink RX10 21 "StatementRules2$Told" "closing" "[I" ∈ wzX10_tellResource := List.mem_cons_of_mem _ (List.mem_append_left _ (List.mem_of_getElem? (i := 4) rfl))
set_option maxHeartbeats 4000000 in
set_option maxRecDepth 100000 in
theorem c_X10_tellResource (l : Launch) (dC : Nat → ClassId) (dI : Nat → Nat → Nat) (Q : CQ) (N : Nat) (σ : CS) (x1 : Int32) (x2 : Int32) (x3 : Int32) (x4 : Int32) (R : Unit × CS) (hf : f_X10_tellResource N σ x1 x2 x3 x4 = some R) : Met l yX10_tellResource wzX10_tellResource ({ frames := 2, cells := CS.hs R.2 - CS.hs σ, slots := 17 * (CS.hs R.2 - CS.hs σ), locals := 60 * 2 }) (va_Pc [.ref (Q.o 1), .int x1, .int x2, .int x3, .int x4] (zPre dC dI (CS.hs σ) (cW Q σ) (cT Q))) (va_Qv (fun (_ : Unit) => True) (fun (_ : Unit) (t : State) => zPost dC dI (va_A (cW Q σ) (CS.hs σ)) (cW Q R.2) (cT Q) t ∧ t.heap.size = CS.hs R.2) (va_A (cW Q σ) (CS.hs σ))) (CS.hs R.2 - CS.hs σ) (17 * (CS.hs R.2 - CS.hs σ)) (va_A (cW Q σ) (CS.hs σ)) := by
  refine Met.ofW (cc := cX10_tellResource) (maxL := 5) (ret := none) (by decide) rfl ?_
  intro p e s m args below meth c s₁ B hml hv
  obtain ⟨rfl, hsz, hZ, hP, hK, hD0⟩ := hv
  have hx := B.exec
  have hb := B.bytes
  have hr := B.returns
  have hts := atoms_spec (ws := wzX10_tellResource) B.pre
  have hown : s.vm.findClass RX10 = some m.cls := findClass_of_methodNamed B.named
  have hlocks := B.notSynchronized
  have hD := hD0.self (sz := CS.hs σ)
  generalize hAe : va_A (cW Q σ) (CS.hs σ) = A at hD ⊢
  have hA : ∀ q : Nat, s.heap.size ≤ q → A q := fun q h => by rw [← hAe]; exact Or.inr (hsz ▸ h)
  have hC : CP dC dI Q A s.heap σ s.heap [] := ⟨hP, hD, va_S.rf, hsz⟩
  have h0 : CS.hs σ ≤ CS.hs σ := Nat.le_refl _
  have hl := lv_entry ([.ref (Q.o 1), .int x1, .int x2, .int x3, .int x4]) (n := 5) (Nat.le_of_ble_eq_true rfl)
  rw [lg_entry_eq]
  generalize (lg_sl ([.ref (Q.o 1), .int x1, .int x2, .int x3, .int x4]) ++ List.replicate (5 - (lg_sl ([.ref (Q.o 1), .int x1, .int x2, .int x3, .int x4])).length) Slot.unset).toArray = ls at hl ⊢
  have hl : lv_has ls 5 [(0, .ref (Q.o 1)), (1, .int x1), (2, .int x2), (3, .int x3), (4, .int x4)] := hl
  unfold f_X10_tellResource at hf
  refine W.widen (k := CS.hs σ - CS.hs σ) (n := 17 * (CS.hs σ - CS.hs σ)) (Nat.zero_le _) (Nat.zero_le _) ?_
  refine lv_aload_n hx hb dX10_tellResource_0 rfl (lv_at hl 0 rfl) ?_
  refine cG_10 hx hb hts i_X10_tellResource_X10 hown hK hC (hts (.fieldLink RX10 15 "StatementRules2$Told" "isNull" "[I") k_X10_tellResource_fieldLink_RX10_15_SR_Told_isNull_I) (fun _ q9 => q9) dX10_tellResource_1 ?_
  refine lv_iload_n hx hb dX10_tellResource_4 rfl (lv_at hl 1 rfl) ?_
  refine lv_iload_n hx hb dX10_tellResource_5 rfl (lv_at hl 2 rfl) ?_
  have he9 := (cArr_10 (Q := Q) (σ := σ))
  have hFc := cFree1 hC hA he9
  have hr9 : CS.hs σ ≤ CS.hs R.2 := Mono.go hf (mono_some (Nat.le_refl _))
  refine va_callv (va_runSN (As := [.ref (Q.q 10), .int x1, .int x2]) (rest := []) ⟨hx, hb, hml, hown, hts⟩ (c_X11_put l dC dI _ (Q.q 10) (Q.c 0) 8 (σ.a 10) x1 x2 (by decide)) ⟨va_cnB 3 hts hX10_tellResource_X11_put_n28 rfl rfl rfl (hZ.1 (.methodLinkNest RX10 28 yX11_put "StatementRules2") (by decide +kernel)) (hts (.initialized RX11) k_X10_tellResource_initialized_RX11) (by decide +kernel) ⟨(show 1 + 1 ≤ 2 by omega), (show 8 + (3 + 11) + 60 * 1 ≤ 60 * 2 by omega)⟩, (hts (.static yX11_put) k_X10_tellResource_static_yX11_put), trivial⟩ ⟨zPre.blind, zPre.go hZ (cOne hC.1 he9) (hK.sub (tys' := [(Q.c 0, .int)]) [0] rfl) (cOneD hC.2.1 he9)⟩ rfl rfl hl.1 rfl (lv_room (Nat.le_of_ble_eq_true rfl)) dX10_tellResource_6 ⟨cAcc4 h0 hr9, cAcc5 h0 hr9⟩) hC.2.2.1 (fun q _ h => hFc q h) hFc (fun u9 t9 H1 locs ht hvm hw hB hz1 hk1 hS => ?_)
  obtain ⟨⟨hP1, hK1, hD1⟩, hsz1⟩ := hB
  rw [ht] at hP1 hsz1
  have hC := cBack (σ' := CS.putA σ 10 (gPut (σ.a 10) 8 x1 x2)) hC he9 cPutA_10 (cPutA_h _ _ _) hk1 hP1 hsz1 hS
  generalize H1 = H at hC ⊢
  refine lv_aload_n hx hb dX10_tellResource_9 rfl (lv_at hl 0 rfl) ?_
  refine cG_11 hx hb hts i_X10_tellResource_X10 hown hK hC (hts (.fieldLink RX10 18 "StatementRules2$Told" "opening" "[I") k_X10_tellResource_fieldLink_RX10_18_SR_Told_opening_I) (fun _ q9 => q9) dX10_tellResource_10 ?_
  refine lv_iload_n hx hb dX10_tellResource_13 rfl (lv_at hl 1 rfl) ?_
  refine lv_iload_n hx hb dX10_tellResource_14 rfl (lv_at hl 3 rfl) ?_
  have he9 := (cArr_11 (Q := Q) (σ := CS.putA σ 10 (gPut (σ.a 10) 8 x1 x2)))
  have hFc := cFree1 hC hA he9
  have hr9 : CS.hs σ ≤ CS.hs R.2 := Mono.go hf (mono_some (Nat.le_refl _))
  refine va_callv (va_runSN (As := [.ref (Q.q 11), .int x1, .int x3]) (rest := []) ⟨hx, hb, hml, hown, hts⟩ (c_X11_put l dC dI _ (Q.q 11) (Q.c 0) 8 (CS.a (CS.putA σ 10 (gPut (σ.a 10) 8 x1 x2)) 11) x1 x3 (by decide)) ⟨va_cnB 3 hts hX10_tellResource_X11_put_n28 rfl rfl rfl (hZ.1 (.methodLinkNest RX10 28 yX11_put "StatementRules2") (by decide +kernel)) (hts (.initialized RX11) k_X10_tellResource_initialized_RX11) (by decide +kernel) ⟨(show 1 + 1 ≤ 2 by omega), (show 8 + (3 + 11) + 60 * 1 ≤ 60 * 2 by omega)⟩, (hts (.static yX11_put) k_X10_tellResource_static_yX11_put), trivial⟩ ⟨zPre.blind, zPre.go hZ (cOne hC.1 he9) (hK.sub (tys' := [(Q.c 0, .int)]) [0] rfl) (cOneD hC.2.1 he9)⟩ rfl rfl hl.1 rfl (lv_room (Nat.le_of_ble_eq_true rfl)) dX10_tellResource_15 ⟨cAcc4 h0 hr9, cAcc5 h0 hr9⟩) hC.2.2.1 (fun q _ h => hFc q h) hFc (fun u9 t9 H1 locs ht hvm hw hB hz1 hk1 hS => ?_)
  obtain ⟨⟨hP1, hK1, hD1⟩, hsz1⟩ := hB
  rw [ht] at hP1 hsz1
  have hC := cBack (σ' := CS.putA (CS.putA σ 10 (gPut (σ.a 10) 8 x1 x2)) 11 (gPut (CS.a (CS.putA σ 10 (gPut (σ.a 10) 8 x1 x2)) 11) 8 x1 x3)) hC he9 cPutA_11 (cPutA_h _ _ _) hk1 hP1 hsz1 hS
  generalize H1 = H at hC ⊢
  refine lv_aload_n hx hb dX10_tellResource_18 rfl (lv_at hl 0 rfl) ?_
  refine cG_12 hx hb hts i_X10_tellResource_X10 hown hK hC (hts (.fieldLink RX10 21 "StatementRules2$Told" "closing" "[I") k_X10_tellResource_fieldLink_RX10_21_SR_Told_closing_I) (fun _ q9 => q9) dX10_tellResource_19 ?_
  refine lv_iload_n hx hb dX10_tellResource_22 rfl (lv_at hl 1 rfl) ?_
  refine lv_iload hx hb dX10_tellResource_23 (lv_at hl 4 rfl) ?_
  have he9 := (cArr_12 (Q := Q) (σ := CS.putA (CS.putA σ 10 (gPut (σ.a 10) 8 x1 x2)) 11 (gPut (CS.a (CS.putA σ 10 (gPut (σ.a 10) 8 x1 x2)) 11) 8 x1 x3)))
  have hFc := cFree1 hC hA he9
  have hr9 : CS.hs σ ≤ CS.hs R.2 := Mono.go hf (mono_some (Nat.le_refl _))
  refine va_callv (va_runSN (As := [.ref (Q.q 12), .int x1, .int x4]) (rest := []) ⟨hx, hb, hml, hown, hts⟩ (c_X11_put l dC dI _ (Q.q 12) (Q.c 0) 8 (CS.a (CS.putA (CS.putA σ 10 (gPut (σ.a 10) 8 x1 x2)) 11 (gPut (CS.a (CS.putA σ 10 (gPut (σ.a 10) 8 x1 x2)) 11) 8 x1 x3)) 12) x1 x4 (by decide)) ⟨va_cnB 3 hts hX10_tellResource_X11_put_n28 rfl rfl rfl (hZ.1 (.methodLinkNest RX10 28 yX11_put "StatementRules2") (by decide +kernel)) (hts (.initialized RX11) k_X10_tellResource_initialized_RX11) (by decide +kernel) ⟨(show 1 + 1 ≤ 2 by omega), (show 8 + (3 + 11) + 60 * 1 ≤ 60 * 2 by omega)⟩, (hts (.static yX11_put) k_X10_tellResource_static_yX11_put), trivial⟩ ⟨zPre.blind, zPre.go hZ (cOne hC.1 he9) (hK.sub (tys' := [(Q.c 0, .int)]) [0] rfl) (cOneD hC.2.1 he9)⟩ rfl rfl hl.1 rfl (lv_room (Nat.le_of_ble_eq_true rfl)) dX10_tellResource_25 ⟨cAcc4 h0 hr9, cAcc5 h0 hr9⟩) hC.2.2.1 (fun q _ h => hFc q h) hFc (fun u9 t9 H1 locs ht hvm hw hB hz1 hk1 hS => ?_)
  obtain ⟨⟨hP1, hK1, hD1⟩, hsz1⟩ := hB
  rw [ht] at hP1 hsz1
  have hC := cBack (σ' := CS.putA (CS.putA (CS.putA σ 10 (gPut (σ.a 10) 8 x1 x2)) 11 (gPut (CS.a (CS.putA σ 10 (gPut (σ.a 10) 8 x1 x2)) 11) 8 x1 x3)) 12 (gPut (CS.a (CS.putA (CS.putA σ 10 (gPut (σ.a 10) 8 x1 x2)) 11 (gPut (CS.a (CS.putA σ 10 (gPut (σ.a 10) 8 x1 x2)) 11) 8 x1 x3)) 12) 8 x1 x4)) hC he9 cPutA_12 (cPutA_h _ _ _) hk1 hP1 hsz1 hS
  generalize H1 = H at hC ⊢
  obtain rfl := Option.some.inj hf
  exact W.vret hx hb hr (fun t ht hW => ⟨⟨(), rfl, trivial, ⟨by rw [ht]; exact hC.1, va_K.moved hW.alike hK, hC.2.1⟩, by rw [ht]; exact hC.2.2.2⟩, hC.2.2.1.F ht⟩) hC.2.2.1.2.2 dX10_tellResource_28
theorem k_X11_addBytes_fieldLink_RX11_9_SR_tape_I : Cond.fieldLink RX11 9 "StatementRules2" "tape" "[I" ∈ wzX11_addBytes := List.mem_cons_of_mem _ (List.mem_append_left _ (List.mem_of_getElem? (i := 0) rfl))
theorem i_X11_addBytes_X11 : ∀ w ∈ wsX110, w ∈ wzX11_addBytes := fun _ h => List.mem_cons_of_mem _ (List.mem_append_right _ (List.mem_append_left _ (h)))
theorem k_X11_addBytes_fieldLink_RX11_50_SR_length_I : Cond.fieldLink RX11 50 "StatementRules2" "length" "I" ∈ wzX11_addBytes := List.mem_cons_of_mem _ (List.mem_append_left _ (List.mem_of_getElem? (i := 1) rfl))
set_option maxHeartbeats 4000000 in
set_option maxRecDepth 100000 in
theorem j_X11_addBytes_3 {p : Program} {e : Env} {s : State} {m : MethodId} {args : Array Value} {below : List Frame} {meth : Method} {c : Code} {A : Nat → Prop} (l : Launch) (dC : Nat → ClassId) (dI : Nat → Nat → Nat) (Q : CQ) (N : Nat) (z9h : Nat) (R : Unit × CS) (hx : p.tables.exec = Jvm.exec) (hb : c.code = cX11_addBytes) (hr : meth.sig.returnType = none) (hml : c.maxLocals = 3) (hown : s.vm.findClass RX11 = some m.cls) (hts : ∀ w ∈ wzX11_addBytes, w.before args s = true) (hlocks : meth.locks = false) (hZ : zAMB s) (hA : ∀ q : Nat, s.heap.size ≤ q → A q) (hK : va_K (dC, dI) vwCl (cT Q) s) : ∀ (n9 : Nat), ∀ (σ : CS) (x1 : Int32) (x2 : Int32) (H : Heap) (locs : List Loc) (ls : Array Slot), f_X11_addBytes_3 N n9 σ x1 x2 = some R → z9h ≤ CS.hs σ → CP dC dI Q A s.heap σ H locs → lv_has ls 3 [(0, .ref (Q.o 0)), (1, .int x1), (2, .int x2)] → W p l e ({ frames := 2, cells := CS.hs R.2 - z9h, slots := 17 * (CS.hs R.2 - z9h), locals := 60 * 2 }) s m args below meth c H locs (CS.hs σ - z9h) (17 * (CS.hs σ - z9h)) (MQ below (va_Qv (fun (_ : Unit) => True) (fun (_ : Unit) (t : State) => zPost dC dI A (cW Q R.2) (cT Q) t ∧ t.heap.size = CS.hs R.2) A) args s (CS.hs R.2 - z9h) (17 * (CS.hs R.2 - z9h)) A) (F0 m 3 ls []) := by
  intro n9
  induction n9 with
  | zero => intro σ x1 x2 H locs ls hf; exact absurd hf (by intro q9; cases q9)
  | succ n9 ih =>
    intro σ x1 x2 H locs ls hf h0 hC hl
    replace hf : b_X11_addBytes_3 N (f_X11_addBytes_3 N n9) σ x1 x2 = some R := hf
    unfold b_X11_addBytes_3 at hf
    have hMK := fun (σ : CS) (x1 : Int32) (x2 : Int32) => m_X11_addBytes_3 N n9 σ x1 x2
    refine lv_iload_n hx hb dX11_addBytes_3 rfl (lv_at hl 2 rfl) ?_
    refine lv_if_lt (tgt := 41) hx hb dX11_addBytes_4 (by decide) (fun c1 => ?_) (fun c1 => ?_)
    ·
      replace hf := (if_pos c1).symm.trans hf
      obtain rfl := Option.some.inj hf
      exact W.vret hx hb hr (fun t ht hW => ⟨⟨(), rfl, trivial, ⟨by rw [ht]; exact hC.1, va_K.moved hW.alike hK, hC.2.1⟩, by rw [ht]; exact hC.2.2.2⟩, hC.2.2.1.F ht⟩) hC.2.2.1.2.2 dX11_addBytes_41
    ·
      replace hf := (if_neg c1).symm.trans hf
      refine lv_aload_n hx hb dX11_addBytes_7 rfl (lv_at hl 0 rfl) ?_
      refine cG_0 hx hb hts i_X11_addBytes_X11 hown hK hC (hts (.fieldLink RX11 9 "StatementRules2" "tape" "[I") k_X11_addBytes_fieldLink_RX11_9_SR_tape_I) (fun _ q9 => q9) dX11_addBytes_8 ?_
      refine lv_aload_n hx hb dX11_addBytes_11 rfl (lv_at hl 0 rfl) ?_
      refine cG_5 (v := (σ.i 5)) hx hb hts i_X11_addBytes_X11 hown hK hC (hts (.fieldLink RX11 50 "StatementRules2" "length" "I") k_X11_addBytes_fieldLink_RX11_50_SR_length_I) (fun _ q9 => q9) dX11_addBytes_12 rfl ?_
      refine lv_iload_n hx hb dX11_addBytes_15 rfl (lv_at hl 1 rfl) ?_
      refine lv_iload_n hx hb dX11_addBytes_16 rfl (lv_at hl 2 rfl) ?_
      refine lv_iushr (v := ((x1 : Int32).toUInt32 >>> ((x2 : Int32).toUInt32 &&& Int32.toUInt32 31)).toInt32) hx hb dX11_addBytes_17 rfl ?_
      refine lv_sipush (v := 255) hx hb dX11_addBytes_18 (by decide) ?_
      refine lv_iand hx hb dX11_addBytes_21 ?_
      have he9 := (cArr_0 (Q := Q) (σ := σ))
      have hFc := cFree1 hC hA he9
      have hr9 : CS.hs σ ≤ CS.hs R.2 := Mono.go hf (hMK (CS.setI (CS.putA σ 0 (gPut (σ.a 0) 900 (σ.i 5) (((x1 : Int32).toUInt32 >>> ((x2 : Int32).toUInt32 &&& Int32.toUInt32 31)).toInt32 &&& 255))) 5 ((σ.i 5) + 1)) x1 (x2 + (-8)))
      refine va_callv (va_runS (As := [.ref (Q.q 0), .int (σ.i 5), .int (((x1 : Int32).toUInt32 >>> ((x2 : Int32).toUInt32 &&& Int32.toUInt32 31)).toInt32 &&& 255)]) (rest := []) ⟨hx, hb, hml, hown, hts⟩ (c_X11_put l dC dI _ (Q.q 0) (Q.c 0) 900 (σ.a 0) (σ.i 5) (((x1 : Int32).toUInt32 >>> ((x2 : Int32).toUInt32 &&& Int32.toUInt32 31)).toInt32 &&& 255) (by decide)) (va_cwS 3 hts hX11_addBytes_X11_put_s58 rfl rfl rfl (by decide +kernel) ⟨(show 1 + 1 ≤ 2 by omega), (show 8 + (3 + 11) + 60 * 1 ≤ 60 * 2 by omega)⟩) ⟨zPre.blind, zPre.go hZ (cOne hC.1 he9) (hK.sub (tys' := [(Q.c 0, .int)]) [0] rfl) (cOneD hC.2.1 he9)⟩ rfl rfl hl.1 rfl (lv_room (Nat.le_of_ble_eq_true rfl)) dX11_addBytes_22 ⟨cAcc4 h0 hr9, cAcc5 h0 hr9⟩) hC.2.2.1 (fun q _ h => hFc q h) hFc (fun u9 t9 H1 locs ht hvm hw hB hz1 hk1 hS => ?_)
      obtain ⟨⟨hP1, hK1, hD1⟩, hsz1⟩ := hB
      rw [ht] at hP1 hsz1
      have hC := cBack (σ' := CS.putA σ 0 (gPut (σ.a 0) 900 (σ.i 5) (((x1 : Int32).toUInt32 >>> ((x2 : Int32).toUInt32 &&& Int32.toUInt32 31)).toInt32 &&& 255))) hC he9 cPutA_0 (cPutA_h _ _ _) hk1 hP1 hsz1 hS
      generalize H1 = H at hC ⊢
      refine lv_aload_n hx hb dX11_addBytes_25 rfl (lv_at hl 0 rfl) ?_
      refine lv_dup hx hb dX11_addBytes_26 rfl ?_
      refine cG_5 (v := (σ.i 5)) hx hb hts i_X11_addBytes_X11 hown hK hC (hts (.fieldLink RX11 50 "StatementRules2" "length" "I") k_X11_addBytes_fieldLink_RX11_50_SR_length_I) (fun _ q9 => q9) dX11_addBytes_27 rfl ?_
      refine lv_iconst (v := 1) hx hb dX11_addBytes_30 (by decide) ?_
      refine lv_iadd hx hb dX11_addBytes_31 ?_
      refine cP_5 (v := ((σ.i 5) + 1)) hx hb hts i_X11_addBytes_X11 hown hK hC (hts (.fieldLink RX11 50 "StatementRules2" "length" "I") k_X11_addBytes_fieldLink_RX11_50_SR_length_I) (fun _ q9 => q9) dX11_addBytes_32 (fun H locs hC => ?_)
      refine lv_iinc (v := (x2 + (-8))) (lv' := [(2, .int (x2 + (-8))), (0, .ref (Q.o 0)), (1, .int x1)]) hx hb dX11_addBytes_35 hl (k := 2) rfl rfl (by decide) rfl (fun ls hl => ?_)
      refine lv_goto (tgt := 3) hx hb dX11_addBytes_38 (by decide) ?_
      exact ih (CS.setI (CS.putA σ 0 (gPut (σ.a 0) 900 (σ.i 5) (((x1 : Int32).toUInt32 >>> ((x2 : Int32).toUInt32 &&& Int32.toUInt32 31)).toInt32 &&& 255))) 5 ((σ.i 5) + 1)) x1 (x2 + (-8)) _ _ _ hf h0 hC (lv_sub hl [1, 2, 0] rfl)
set_option maxHeartbeats 4000000 in
set_option maxRecDepth 100000 in
theorem c_X11_addBytes (l : Launch) (dC : Nat → ClassId) (dI : Nat → Nat → Nat) (Q : CQ) (N : Nat) (σ : CS) (x1 : Int32) (R : Unit × CS) (hf : f_X11_addBytes N σ x1 = some R) : Met l yX11_addBytes wzX11_addBytes ({ frames := 2, cells := CS.hs R.2 - CS.hs σ, slots := 17 * (CS.hs R.2 - CS.hs σ), locals := 60 * 2 }) (va_Pc [.ref (Q.o 0), .int x1] (zPre dC dI (CS.hs σ) (cW Q σ) (cT Q))) (va_Qv (fun (_ : Unit) => True) (fun (_ : Unit) (t : State) => zPost dC dI (va_A (cW Q σ) (CS.hs σ)) (cW Q R.2) (cT Q) t ∧ t.heap.size = CS.hs R.2) (va_A (cW Q σ) (CS.hs σ))) (CS.hs R.2 - CS.hs σ) (17 * (CS.hs R.2 - CS.hs σ)) (va_A (cW Q σ) (CS.hs σ)) := by
  refine Met.ofW (cc := cX11_addBytes) (maxL := 3) (ret := none) (by decide) rfl ?_
  intro p e s m args below meth c s₁ B hml hv
  obtain ⟨rfl, hsz, hZ, hP, hK, hD0⟩ := hv
  have hx := B.exec
  have hb := B.bytes
  have hr := B.returns
  have hts := atoms_spec (ws := wzX11_addBytes) B.pre
  have hown : s.vm.findClass RX11 = some m.cls := findClass_of_methodNamed B.named
  have hlocks := B.notSynchronized
  have hD := hD0.self (sz := CS.hs σ)
  generalize hAe : va_A (cW Q σ) (CS.hs σ) = A at hD ⊢
  have hA : ∀ q : Nat, s.heap.size ≤ q → A q := fun q h => by rw [← hAe]; exact Or.inr (hsz ▸ h)
  have hC : CP dC dI Q A s.heap σ s.heap [] := ⟨hP, hD, va_S.rf, hsz⟩
  have h0 : CS.hs σ ≤ CS.hs σ := Nat.le_refl _
  have hl := lv_entry ([.ref (Q.o 0), .int x1]) (n := 3) (Nat.le_of_ble_eq_true rfl)
  rw [lg_entry_eq]
  generalize (lg_sl ([.ref (Q.o 0), .int x1]) ++ List.replicate (3 - (lg_sl ([.ref (Q.o 0), .int x1])).length) Slot.unset).toArray = ls at hl ⊢
  have hl : lv_has ls 3 [(0, .ref (Q.o 0)), (1, .int x1)] := hl
  unfold f_X11_addBytes at hf
  refine W.widen (k := CS.hs σ - CS.hs σ) (n := 17 * (CS.hs σ - CS.hs σ)) (Nat.zero_le _) (Nat.zero_le _) ?_
  refine lv_bipush (v := 24) hx hb dX11_addBytes_0 (by decide) ?_
  refine lv_istore_n (lv' := [(2, .int 24), (0, .ref (Q.o 0)), (1, .int x1)]) hx hb dX11_addBytes_2 rfl hl (by decide) rfl (fun ls hl => ?_)
  exact j_X11_addBytes_3 l dC dI Q N (CS.hs σ) R hx hb hr hml hown hts hlocks hZ hA hK N σ x1 24 _ _ _ hf h0 hC (lv_sub hl [1, 2, 0] rfl)
