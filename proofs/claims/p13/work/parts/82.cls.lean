section
theorem k_X3_turn_fieldLink_RX3_60_SR_Machine_depth_I : Cond.fieldLink RX3 60 "StatementRules2$Machine" "depth" "I" ∈ wzX3_turn := List.mem_cons_of_mem _ (List.mem_append_left _ (List.mem_of_getElem? (i := 0) rfl))
theorem i_X3_turn_X3 : ∀ w ∈ wsX30, w ∈ wzX3_turn := fun _ h => List.mem_cons_of_mem _ (List.mem_append_right _ (List.mem_append_left _ (h)))
set_option maxHeartbeats 4000000 in
set_option maxRecDepth 100000 in
theorem c_X3_turn (l : Launch) (dC : Nat → ClassId) (dI : Nat → Nat → Nat) (Q : CQ) (N : Nat) (σ : CS) (x1 : Int32) (x2 : Int32) (R : Unit × CS) (hf : f_X3_turn N σ x1 x2 = some R) : Met l yX3_turn wzX3_turn ({ frames := 4, cells := CS.hs R.2 - CS.hs σ, slots := 17 * (CS.hs R.2 - CS.hs σ), locals := 60 * 4 }) (va_Pc [.ref (Q.o 7), .int x1, .int x2] (zPre dC dI (CS.hs σ) (cW Q σ) (cT Q))) (va_Qv (fun (_ : Unit) => True) (fun (_ : Unit) (t : State) => zPost dC dI (va_A (cW Q σ) (CS.hs σ)) (cW Q R.2) (cT Q) t ∧ t.heap.size = CS.hs R.2) (va_A (cW Q σ) (CS.hs σ))) (CS.hs R.2 - CS.hs σ) (17 * (CS.hs R.2 - CS.hs σ)) (va_A (cW Q σ) (CS.hs σ)) := by
  refine Met.ofW (cc := cX3_turn) (maxL := 3) (ret := none) (by decide) rfl ?_
  intro p e s m args below meth c s₁ B hml hv
  obtain ⟨rfl, hsz, hZ, hP, hK, hD0⟩ := hv
  have hx := B.exec
  have hb := B.bytes
  have hr := B.returns
  have hts := atoms_spec (ws := wzX3_turn) B.pre
  have hown : s.vm.findClass RX3 = some m.cls := findClass_of_methodNamed B.named
  have hlocks := B.notSynchronized
  have hD := hD0.self (sz := CS.hs σ)
  generalize hAe : va_A (cW Q σ) (CS.hs σ) = A at hD ⊢
  have hA : ∀ q : Nat, s.heap.size ≤ q → A q := fun q h => by rw [← hAe]; exact Or.inr (hsz ▸ h)
  have hC : CP dC dI Q A s.heap σ s.heap [] := ⟨hP, hD, va_S.rf, hsz⟩
  have h0 : CS.hs σ ≤ CS.hs σ := Nat.le_refl _
  have hl := lv_entry ([.ref (Q.o 7), .int x1, .int x2]) (n := 3) (Nat.le_of_ble_eq_true rfl)
  rw [lg_entry_eq]
  generalize (lg_sl ([.ref (Q.o 7), .int x1, .int x2]) ++ List.replicate (3 - (lg_sl ([.ref (Q.o 7), .int x1, .int x2])).length) Slot.unset).toArray = ls at hl ⊢
  have hl : lv_has ls 3 [(0, .ref (Q.o 7)), (1, .int x1), (2, .int x2)] := hl
  unfold f_X3_turn at hf
  refine W.widen (k := CS.hs σ - CS.hs σ) (n := 17 * (CS.hs σ - CS.hs σ)) (Nat.zero_le _) (Nat.zero_le _) ?_
  refine lv_iload_n hx hb dX3_turn_0 rfl (lv_at hl 1 rfl) ?_
  by_cases c1 : x1 = 59
  ·
    replace hf := (if_pos c1).symm.trans hf
    refine lv_tableIn (off := 99) (tgt := 100) hx hb dX3_turn_1 (by rw [c1]; decide) (by rw [c1]; decide) (by rw [c1]; decide) (by decide) ?_
    refine lv_aload_n hx hb dX3_turn_100 rfl (lv_at hl 0 rfl) ?_
    refine lv_aload_n hx hb dX3_turn_101 rfl (lv_at hl 0 rfl) ?_
    refine lv_aload_n hx hb dX3_turn_102 rfl (lv_at hl 0 rfl) ?_
    refine cG_67 (v := (σ.i 67)) hx hb hts i_X3_turn_X3 hown hK hC (hts (.fieldLink RX3 60 "StatementRules2$Machine" "depth" "I") k_X3_turn_fieldLink_RX3_60_SR_Machine_depth_I) (fun _ q9 => q9) dX3_turn_103 rfl ?_
    refine lv_iconst (v := 1) hx hb dX3_turn_106 (by decide) ?_
    refine lv_isub hx hb dX3_turn_107 ?_
    obtain ⟨p2, hcp2, hf⟩ := hf_bind hf
    have mo3 : CS.hs σ ≤ CS.hs p2.2 := Mono.go hcp2 (m_X3_frame N σ ((σ.i 67) - 1))
    have hr9 : CS.hs p2.2 ≤ CS.hs R.2 := Mono.go hf (mono_oc (mono_bind (m_X3_resume N p2.2 none) (fun p8 => (mono_some (Nat.le_refl _)))) (fun a7 => (mono_bind (m_X3_resume N p2.2 (some a7)) (fun p12 => (mono_some (Nat.le_refl _))))))
    have hFc := cFree hC hA
    refine va_callq (va_runV (As := [.int ((σ.i 67) - 1)]) (rest := [.ref (Q.o 7)]) ⟨hx, hb, hml, hown, hts⟩ (c_X3_frame l dC dI Q N σ ((σ.i 67) - 1) p2 hcp2) (cwV 1 hts hX3_turn_X3_frame_v216 rfl rfl rfl (by decide +kernel) ⟨(show 1 + 1 ≤ 4 by omega), (show 8 + (2 + 11) + 60 * 1 ≤ 60 * 4 by omega)⟩) ⟨zPre.blind, va_recv hK hC.1 (ci := 2) (q0 := 7) rfl rfl, cPre_go hZ hK hC⟩ rfl rfl hl.1 rfl (lv_room (Nat.le_of_ble_eq_true rfl)) dX3_turn_108 (cAcc h0 mo3 hr9)) hC.2.2.1 (fun q _ h => hFc q h) hFc (fun r4 u9 t9 H1 locs ht hvm hw hB hz1 hk1 hS => ?_)
    obtain ⟨⟨hP, hK1, hD1⟩, hsz1⟩ := hB
    rw [ht] at hP hsz1
    have hC : CP dC dI Q A s.heap p2.2 H1 locs := ⟨hP, hD1.weaken (fun _ _ _ h => hFc _ h), hS, hsz1⟩
    generalize H1 = H at hC ⊢
    have h5 : (CS.hs σ) ≤ CS.hs p2.2 := Nat.le_trans h0 mo3
    refine W.widen (k := CS.hs p2.2 - (CS.hs σ)) (n := 17 * (CS.hs p2.2 - (CS.hs σ))) (cAcc2 h0 mo3) (cAcc3 h0 mo3) ?_
    obtain rfl : r4 = p2.1 := hw
    rcases hf_oc hf with ⟨q6, hf⟩ | ⟨a7, q6, hf⟩
    ·
      refine W.eq (congrArg (fun v9 => F0 m 111 ls (va_rf v9 :: [.ref (Q.o 7)])) q6) ?_
      refine W.eq (g2 := F0 m 111 ls (.null :: [.ref (Q.o 7)])) rfl ?_
      obtain ⟨p8, hcp8, hf⟩ := hf_bind hf
      have mo9 : CS.hs p2.2 ≤ CS.hs p8.2 := Mono.go hcp8 (m_X3_resume N p2.2 none)
      have hr9 : CS.hs p8.2 ≤ CS.hs R.2 := Mono.go hf (mono_some (Nat.le_refl _))
      have hFc := cFree hC hA
      refine va_callv (va_runV (As := [.null]) (rest := []) ⟨hx, hb, hml, hown, hts⟩ (c_X3_resume l dC dI Q N p2.2 none p8 hcp8) (cwV 1 hts hX3_turn_X3_resume_v224 rfl rfl rfl (by decide +kernel) ⟨(show 2 + 1 ≤ 4 by omega), (show 8 + (2 + 11) + 60 * 2 ≤ 60 * 4 by omega)⟩) ⟨zPre.blind, va_recv hK hC.1 (ci := 2) (q0 := 7) rfl rfl, cPre_go hZ hK hC⟩ rfl rfl hl.1 rfl (lv_room (Nat.le_of_ble_eq_true rfl)) dX3_turn_111 (cAcc h5 mo9 hr9)) hC.2.2.1 (fun q _ h => hFc q h) hFc (fun u9 t9 H1 locs ht hvm hw hB hz1 hk1 hS => ?_)
      obtain ⟨⟨hP, hK1, hD1⟩, hsz1⟩ := hB
      rw [ht] at hP hsz1
      have hC : CP dC dI Q A s.heap p8.2 H1 locs := ⟨hP, hD1.weaken (fun _ _ _ h => hFc _ h), hS, hsz1⟩
      generalize H1 = H at hC ⊢
      have h11 : (CS.hs σ) ≤ CS.hs p8.2 := Nat.le_trans h5 mo9
      refine W.widen (k := CS.hs p8.2 - (CS.hs σ)) (n := 17 * (CS.hs p8.2 - (CS.hs σ))) (cAcc2 h5 mo9) (cAcc3 h5 mo9) ?_
      refine lv_goto (tgt := 133) hx hb dX3_turn_114 (by decide) ?_
      obtain rfl := Option.some.inj hf
      exact W.vret hx hb hr (fun t ht hW => ⟨⟨(), rfl, trivial, ⟨by rw [ht]; exact hC.1, va_K.moved hW.alike hK, hC.2.1⟩, by rw [ht]; exact hC.2.2.2⟩, hC.2.2.1.F ht⟩) hC.2.2.1.2.2 dX3_turn_133
    ·
      refine W.eq (congrArg (fun v9 => F0 m 111 ls (va_rf v9 :: [.ref (Q.o 7)])) q6) ?_
      refine W.eq (g2 := F0 m 111 ls (.ref a7 :: [.ref (Q.o 7)])) rfl ?_
      obtain ⟨p12, hcp12, hf⟩ := hf_bind hf
      have mo13 : CS.hs p2.2 ≤ CS.hs p12.2 := Mono.go hcp12 (m_X3_resume N p2.2 (some a7))
      have hr9 : CS.hs p12.2 ≤ CS.hs R.2 := Mono.go hf (mono_some (Nat.le_refl _))
      have hFc := cFree hC hA
      refine va_callv (va_runV (As := [.ref a7]) (rest := []) ⟨hx, hb, hml, hown, hts⟩ (c_X3_resume l dC dI Q N p2.2 (some a7) p12 hcp12) (cwV 1 hts hX3_turn_X3_resume_v224 rfl rfl rfl (by decide +kernel) ⟨(show 2 + 1 ≤ 4 by omega), (show 8 + (2 + 11) + 60 * 2 ≤ 60 * 4 by omega)⟩) ⟨zPre.blind, va_recv hK hC.1 (ci := 2) (q0 := 7) rfl rfl, cPre_go hZ hK hC⟩ rfl rfl hl.1 rfl (lv_room (Nat.le_of_ble_eq_true rfl)) dX3_turn_111 (cAcc h5 mo13 hr9)) hC.2.2.1 (fun q _ h => hFc q h) hFc (fun u9 t9 H1 locs ht hvm hw hB hz1 hk1 hS => ?_)
      obtain ⟨⟨hP, hK1, hD1⟩, hsz1⟩ := hB
      rw [ht] at hP hsz1
      have hC : CP dC dI Q A s.heap p12.2 H1 locs := ⟨hP, hD1.weaken (fun _ _ _ h => hFc _ h), hS, hsz1⟩
      generalize H1 = H at hC ⊢
      have h15 : (CS.hs σ) ≤ CS.hs p12.2 := Nat.le_trans h5 mo13
      refine W.widen (k := CS.hs p12.2 - (CS.hs σ)) (n := 17 * (CS.hs p12.2 - (CS.hs σ))) (cAcc2 h5 mo13) (cAcc3 h5 mo13) ?_
      refine lv_goto (tgt := 133) hx hb dX3_turn_114 (by decide) ?_
      obtain rfl := Option.some.inj hf
      exact W.vret hx hb hr (fun t ht hW => ⟨⟨(), rfl, trivial, ⟨by rw [ht]; exact hC.1, va_K.moved hW.alike hK, hC.2.1⟩, by rw [ht]; exact hC.2.2.2⟩, hC.2.2.1.F ht⟩) hC.2.2.1.2.2 dX3_turn_133
  replace hf := (if_neg c1).symm.trans hf
  by_cases c16 : x1 = 60
  ·
    replace hf := (if_pos c16).symm.trans hf
    refine lv_tableIn (off := 39) (tgt := 40) hx hb dX3_turn_1 (by rw [c16]; decide) (by rw [c16]; decide) (by rw [c16]; decide) (by decide) ?_
    refine lv_aload_n hx hb dX3_turn_40 rfl (lv_at hl 0 rfl) ?_
    refine lv_iconst (v := 1) hx hb dX3_turn_41 (by decide) ?_
    refine lv_iconst (v := 0) hx hb dX3_turn_42 (by decide) ?_
    refine lv_iload_n hx hb dX3_turn_43 rfl (lv_at hl 2 rfl) ?_
    obtain ⟨p17, hcp17, hf⟩ := hf_bind hf
    have mo18 : CS.hs σ ≤ CS.hs p17.2 := Mono.go hcp17 (m_X3_go N σ 1 0 x2)
    have hr9 : CS.hs p17.2 ≤ CS.hs R.2 := Mono.go hf (mono_some (Nat.le_refl _))
    have hFc := cFree hC hA
    refine va_callv (va_runV (As := [.int 1, .int 0, .int x2]) (rest := []) ⟨hx, hb, hml, hown, hts⟩ (c_X3_go l dC dI Q N σ 1 0 x2 p17 hcp17) (cwV 3 hts hX3_turn_X3_go_v213 rfl rfl rfl (by decide +kernel) ⟨(show 1 + 1 ≤ 4 by omega), (show 8 + (4 + 11) + 60 * 1 ≤ 60 * 4 by omega)⟩) ⟨zPre.blind, va_recv hK hC.1 (ci := 2) (q0 := 7) rfl rfl, cPre_go hZ hK hC⟩ rfl rfl hl.1 rfl (lv_room (Nat.le_of_ble_eq_true rfl)) dX3_turn_44 (cAcc h0 mo18 hr9)) hC.2.2.1 (fun q _ h => hFc q h) hFc (fun u9 t9 H1 locs ht hvm hw hB hz1 hk1 hS => ?_)
    obtain ⟨⟨hP, hK1, hD1⟩, hsz1⟩ := hB
    rw [ht] at hP hsz1
    have hC : CP dC dI Q A s.heap p17.2 H1 locs := ⟨hP, hD1.weaken (fun _ _ _ h => hFc _ h), hS, hsz1⟩
    generalize H1 = H at hC ⊢
    have h20 : (CS.hs σ) ≤ CS.hs p17.2 := Nat.le_trans h0 mo18
    refine W.widen (k := CS.hs p17.2 - (CS.hs σ)) (n := 17 * (CS.hs p17.2 - (CS.hs σ))) (cAcc2 h0 mo18) (cAcc3 h0 mo18) ?_
    refine lv_goto (tgt := 133) hx hb dX3_turn_47 (by decide) ?_
    obtain rfl := Option.some.inj hf
    exact W.vret hx hb hr (fun t ht hW => ⟨⟨(), rfl, trivial, ⟨by rw [ht]; exact hC.1, va_K.moved hW.alike hK, hC.2.1⟩, by rw [ht]; exact hC.2.2.2⟩, hC.2.2.1.F ht⟩) hC.2.2.1.2.2 dX3_turn_133
  replace hf := (if_neg c16).symm.trans hf
  by_cases c21 : x1 = 61
  ·
    replace hf := (if_pos c21).symm.trans hf
    refine lv_tableIn (off := 49) (tgt := 50) hx hb dX3_turn_1 (by rw [c21]; decide) (by rw [c21]; decide) (by rw [c21]; decide) (by decide) ?_
    refine lv_aload_n hx hb dX3_turn_50 rfl (lv_at hl 0 rfl) ?_
    refine lv_iconst (v := 2) hx hb dX3_turn_51 (by decide) ?_
    refine lv_aload_n hx hb dX3_turn_52 rfl (lv_at hl 0 rfl) ?_
    obtain ⟨p22, hcp22, hf⟩ := hf_bind hf
    have mo23 : CS.hs σ ≤ CS.hs p22.2 := Mono.go hcp22 (m_X3_pop N σ)
    have hr9 : CS.hs p22.2 ≤ CS.hs R.2 := Mono.go hf (mono_bind (m_X3_go N p22.2 2 p22.1 x2) (fun p26 => (mono_some (Nat.le_refl _))))
    have hFc := cFree hC hA
    refine va_calli (va_runV (As := []) (rest := [.int 2, .ref (Q.o 7)]) ⟨hx, hb, hml, hown, hts⟩ (c_X3_pop l dC dI Q N σ p22 hcp22) (cwV 0 hts hX3_turn_X3_pop_v138 rfl rfl rfl (by decide +kernel) ⟨(show 2 + 1 ≤ 4 by omega), (show 8 + (1 + 11) + 60 * 2 ≤ 60 * 4 by omega)⟩) ⟨zPre.blind, va_recv hK hC.1 (ci := 2) (q0 := 7) rfl rfl, cPre_go hZ hK hC⟩ rfl rfl hl.1 rfl (lv_room (Nat.le_of_ble_eq_true rfl)) dX3_turn_53 (cAcc h0 mo23 hr9)) hC.2.2.1 (fun q _ h => hFc q h) hFc (fun r24 u9 t9 H1 locs ht hvm hw hB hz1 hk1 hS => ?_)
    obtain ⟨⟨hP, hK1, hD1⟩, hsz1⟩ := hB
    rw [ht] at hP hsz1
    have hC : CP dC dI Q A s.heap p22.2 H1 locs := ⟨hP, hD1.weaken (fun _ _ _ h => hFc _ h), hS, hsz1⟩
    generalize H1 = H at hC ⊢
    have h25 : (CS.hs σ) ≤ CS.hs p22.2 := Nat.le_trans h0 mo23
    refine W.widen (k := CS.hs p22.2 - (CS.hs σ)) (n := 17 * (CS.hs p22.2 - (CS.hs σ))) (cAcc2 h0 mo23) (cAcc3 h0 mo23) ?_
    obtain rfl : r24 = p22.1 := hw
    refine lv_iload_n hx hb dX3_turn_56 rfl (lv_at hl 2 rfl) ?_
    obtain ⟨p26, hcp26, hf⟩ := hf_bind hf
    have mo27 : CS.hs p22.2 ≤ CS.hs p26.2 := Mono.go hcp26 (m_X3_go N p22.2 2 p22.1 x2)
    have hr9 : CS.hs p26.2 ≤ CS.hs R.2 := Mono.go hf (mono_some (Nat.le_refl _))
    have hFc := cFree hC hA
    refine va_callv (va_runV (As := [.int 2, .int p22.1, .int x2]) (rest := []) ⟨hx, hb, hml, hown, hts⟩ (c_X3_go l dC dI Q N p22.2 2 p22.1 x2 p26 hcp26) (cwV 3 hts hX3_turn_X3_go_v213 rfl rfl rfl (by decide +kernel) ⟨(show 1 + 1 ≤ 4 by omega), (show 8 + (4 + 11) + 60 * 1 ≤ 60 * 4 by omega)⟩) ⟨zPre.blind, va_recv hK hC.1 (ci := 2) (q0 := 7) rfl rfl, cPre_go hZ hK hC⟩ rfl rfl hl.1 rfl (lv_room (Nat.le_of_ble_eq_true rfl)) dX3_turn_57 (cAcc h25 mo27 hr9)) hC.2.2.1 (fun q _ h => hFc q h) hFc (fun u9 t9 H1 locs ht hvm hw hB hz1 hk1 hS => ?_)
    obtain ⟨⟨hP, hK1, hD1⟩, hsz1⟩ := hB
    rw [ht] at hP hsz1
    have hC : CP dC dI Q A s.heap p26.2 H1 locs := ⟨hP, hD1.weaken (fun _ _ _ h => hFc _ h), hS, hsz1⟩
    generalize H1 = H at hC ⊢
    have h29 : (CS.hs σ) ≤ CS.hs p26.2 := Nat.le_trans h25 mo27
    refine W.widen (k := CS.hs p26.2 - (CS.hs σ)) (n := 17 * (CS.hs p26.2 - (CS.hs σ))) (cAcc2 h25 mo27) (cAcc3 h25 mo27) ?_
    refine lv_goto (tgt := 133) hx hb dX3_turn_60 (by decide) ?_
    obtain rfl := Option.some.inj hf
    exact W.vret hx hb hr (fun t ht hW => ⟨⟨(), rfl, trivial, ⟨by rw [ht]; exact hC.1, va_K.moved hW.alike hK, hC.2.1⟩, by rw [ht]; exact hC.2.2.2⟩, hC.2.2.1.F ht⟩) hC.2.2.1.2.2 dX3_turn_133
  replace hf := (if_neg c21).symm.trans hf
  by_cases c30 : x1 = 62
  ·
    replace hf := (if_pos c30).symm.trans hf
    refine lv_tableIn (off := 62) (tgt := 63) hx hb dX3_turn_1 (by rw [c30]; decide) (by rw [c30]; decide) (by rw [c30]; decide) (by decide) ?_
    refine lv_aload_n hx hb dX3_turn_63 rfl (lv_at hl 0 rfl) ?_
    refine lv_iconst (v := 3) hx hb dX3_turn_64 (by decide) ?_
    refine lv_aload_n hx hb dX3_turn_65 rfl (lv_at hl 0 rfl) ?_
    obtain ⟨p31, hcp31, hf⟩ := hf_bind hf
    have mo32 : CS.hs σ ≤ CS.hs p31.2 := Mono.go hcp31 (m_X3_pop N σ)
    have hr9 : CS.hs p31.2 ≤ CS.hs R.2 := Mono.go hf (mono_bind (m_X3_go N p31.2 3 p31.1 0) (fun p35 => (mono_some (Nat.le_refl _))))
    have hFc := cFree hC hA
    refine va_calli (va_runV (As := []) (rest := [.int 3, .ref (Q.o 7)]) ⟨hx, hb, hml, hown, hts⟩ (c_X3_pop l dC dI Q N σ p31 hcp31) (cwV 0 hts hX3_turn_X3_pop_v138 rfl rfl rfl (by decide +kernel) ⟨(show 2 + 1 ≤ 4 by omega), (show 8 + (1 + 11) + 60 * 2 ≤ 60 * 4 by omega)⟩) ⟨zPre.blind, va_recv hK hC.1 (ci := 2) (q0 := 7) rfl rfl, cPre_go hZ hK hC⟩ rfl rfl hl.1 rfl (lv_room (Nat.le_of_ble_eq_true rfl)) dX3_turn_66 (cAcc h0 mo32 hr9)) hC.2.2.1 (fun q _ h => hFc q h) hFc (fun r33 u9 t9 H1 locs ht hvm hw hB hz1 hk1 hS => ?_)
    obtain ⟨⟨hP, hK1, hD1⟩, hsz1⟩ := hB
    rw [ht] at hP hsz1
    have hC : CP dC dI Q A s.heap p31.2 H1 locs := ⟨hP, hD1.weaken (fun _ _ _ h => hFc _ h), hS, hsz1⟩
    generalize H1 = H at hC ⊢
    have h34 : (CS.hs σ) ≤ CS.hs p31.2 := Nat.le_trans h0 mo32
    refine W.widen (k := CS.hs p31.2 - (CS.hs σ)) (n := 17 * (CS.hs p31.2 - (CS.hs σ))) (cAcc2 h0 mo32) (cAcc3 h0 mo32) ?_
    obtain rfl : r33 = p31.1 := hw
    refine lv_iconst (v := 0) hx hb dX3_turn_69 (by decide) ?_
    obtain ⟨p35, hcp35, hf⟩ := hf_bind hf
    have mo36 : CS.hs p31.2 ≤ CS.hs p35.2 := Mono.go hcp35 (m_X3_go N p31.2 3 p31.1 0)
    have hr9 : CS.hs p35.2 ≤ CS.hs R.2 := Mono.go hf (mono_some (Nat.le_refl _))
    have hFc := cFree hC hA
    refine va_callv (va_runV (As := [.int 3, .int p31.1, .int 0]) (rest := []) ⟨hx, hb, hml, hown, hts⟩ (c_X3_go l dC dI Q N p31.2 3 p31.1 0 p35 hcp35) (cwV 3 hts hX3_turn_X3_go_v213 rfl rfl rfl (by decide +kernel) ⟨(show 1 + 1 ≤ 4 by omega), (show 8 + (4 + 11) + 60 * 1 ≤ 60 * 4 by omega)⟩) ⟨zPre.blind, va_recv hK hC.1 (ci := 2) (q0 := 7) rfl rfl, cPre_go hZ hK hC⟩ rfl rfl hl.1 rfl (lv_room (Nat.le_of_ble_eq_true rfl)) dX3_turn_70 (cAcc h34 mo36 hr9)) hC.2.2.1 (fun q _ h => hFc q h) hFc (fun u9 t9 H1 locs ht hvm hw hB hz1 hk1 hS => ?_)
    obtain ⟨⟨hP, hK1, hD1⟩, hsz1⟩ := hB
    rw [ht] at hP hsz1
    have hC : CP dC dI Q A s.heap p35.2 H1 locs := ⟨hP, hD1.weaken (fun _ _ _ h => hFc _ h), hS, hsz1⟩
    generalize H1 = H at hC ⊢
    have h38 : (CS.hs σ) ≤ CS.hs p35.2 := Nat.le_trans h34 mo36
    refine W.widen (k := CS.hs p35.2 - (CS.hs σ)) (n := 17 * (CS.hs p35.2 - (CS.hs σ))) (cAcc2 h34 mo36) (cAcc3 h34 mo36) ?_
    refine lv_goto (tgt := 133) hx hb dX3_turn_73 (by decide) ?_
    obtain rfl := Option.some.inj hf
    exact W.vret hx hb hr (fun t ht hW => ⟨⟨(), rfl, trivial, ⟨by rw [ht]; exact hC.1, va_K.moved hW.alike hK, hC.2.1⟩, by rw [ht]; exact hC.2.2.2⟩, hC.2.2.1.F ht⟩) hC.2.2.1.2.2 dX3_turn_133
  replace hf := (if_neg c30).symm.trans hf
  by_cases c39 : x1 = 63
  ·
    replace hf := (if_pos c39).symm.trans hf
    refine lv_tableIn (off := 75) (tgt := 76) hx hb dX3_turn_1 (by rw [c39]; decide) (by rw [c39]; decide) (by rw [c39]; decide) (by decide) ?_
    refine lv_aload_n hx hb dX3_turn_76 rfl (lv_at hl 0 rfl) ?_
    refine lv_iload_n hx hb dX3_turn_77 rfl (lv_at hl 2 rfl) ?_
    refine lv_aload_n hx hb dX3_turn_78 rfl (lv_at hl 0 rfl) ?_
    obtain ⟨p40, hcp40, hf⟩ := hf_bind hf
    have mo41 : CS.hs σ ≤ CS.hs p40.2 := Mono.go hcp40 (m_X3_pop N σ)
    have hr9 : CS.hs p40.2 ≤ CS.hs R.2 := Mono.go hf (mono_bind (m_X3_raise N p40.2 x2 p40.1) (fun p44 => (mono_some (Nat.le_refl _))))
    have hFc := cFree hC hA
    refine va_calli (va_runV (As := []) (rest := [.int x2, .ref (Q.o 7)]) ⟨hx, hb, hml, hown, hts⟩ (c_X3_pop l dC dI Q N σ p40 hcp40) (cwV 0 hts hX3_turn_X3_pop_v138 rfl rfl rfl (by decide +kernel) ⟨(show 2 + 1 ≤ 4 by omega), (show 8 + (1 + 11) + 60 * 2 ≤ 60 * 4 by omega)⟩) ⟨zPre.blind, va_recv hK hC.1 (ci := 2) (q0 := 7) rfl rfl, cPre_go hZ hK hC⟩ rfl rfl hl.1 rfl (lv_room (Nat.le_of_ble_eq_true rfl)) dX3_turn_79 (cAcc h0 mo41 hr9)) hC.2.2.1 (fun q _ h => hFc q h) hFc (fun r42 u9 t9 H1 locs ht hvm hw hB hz1 hk1 hS => ?_)
    obtain ⟨⟨hP, hK1, hD1⟩, hsz1⟩ := hB
    rw [ht] at hP hsz1
    have hC : CP dC dI Q A s.heap p40.2 H1 locs := ⟨hP, hD1.weaken (fun _ _ _ h => hFc _ h), hS, hsz1⟩
    generalize H1 = H at hC ⊢
    have h43 : (CS.hs σ) ≤ CS.hs p40.2 := Nat.le_trans h0 mo41
    refine W.widen (k := CS.hs p40.2 - (CS.hs σ)) (n := 17 * (CS.hs p40.2 - (CS.hs σ))) (cAcc2 h0 mo41) (cAcc3 h0 mo41) ?_
    obtain rfl : r42 = p40.1 := hw
    obtain ⟨p44, hcp44, hf⟩ := hf_bind hf
    have mo45 : CS.hs p40.2 ≤ CS.hs p44.2 := Mono.go hcp44 (m_X3_raise N p40.2 x2 p40.1)
    have hr9 : CS.hs p44.2 ≤ CS.hs R.2 := Mono.go hf (mono_some (Nat.le_refl _))
    have hFc := cFree hC hA
    refine va_callv (va_runV (As := [.int x2, .int p40.1]) (rest := []) ⟨hx, hb, hml, hown, hts⟩ (c_X3_raise l dC dI Q N p40.2 x2 p40.1 p44 hcp44) (cwV 2 hts hX3_turn_X3_raise_v150 rfl rfl rfl (by decide +kernel) ⟨(show 3 + 1 ≤ 4 by omega), (show 8 + (3 + 11) + 60 * 3 ≤ 60 * 4 by omega)⟩) ⟨zPre.blind, va_recv hK hC.1 (ci := 2) (q0 := 7) rfl rfl, cPre_go hZ hK hC⟩ rfl rfl hl.1 rfl (lv_room (Nat.le_of_ble_eq_true rfl)) dX3_turn_82 (cAcc h43 mo45 hr9)) hC.2.2.1 (fun q _ h => hFc q h) hFc (fun u9 t9 H1 locs ht hvm hw hB hz1 hk1 hS => ?_)
    obtain ⟨⟨hP, hK1, hD1⟩, hsz1⟩ := hB
    rw [ht] at hP hsz1
    have hC : CP dC dI Q A s.heap p44.2 H1 locs := ⟨hP, hD1.weaken (fun _ _ _ h => hFc _ h), hS, hsz1⟩
    generalize H1 = H at hC ⊢
    have h47 : (CS.hs σ) ≤ CS.hs p44.2 := Nat.le_trans h43 mo45
    refine W.widen (k := CS.hs p44.2 - (CS.hs σ)) (n := 17 * (CS.hs p44.2 - (CS.hs σ))) (cAcc2 h43 mo45) (cAcc3 h43 mo45) ?_
    refine lv_goto (tgt := 133) hx hb dX3_turn_85 (by decide) ?_
    obtain rfl := Option.some.inj hf
    exact W.vret hx hb hr (fun t ht hW => ⟨⟨(), rfl, trivial, ⟨by rw [ht]; exact hC.1, va_K.moved hW.alike hK, hC.2.1⟩, by rw [ht]; exact hC.2.2.2⟩, hC.2.2.1.F ht⟩) hC.2.2.1.2.2 dX3_turn_133
  replace hf := (if_neg c39).symm.trans hf
  by_cases c48 : x1 = 64
  ·
    replace hf := (if_pos c48).symm.trans hf
    refine lv_tableIn (off := 87) (tgt := 88) hx hb dX3_turn_1 (by rw [c48]; decide) (by rw [c48]; decide) (by rw [c48]; decide) (by decide) ?_
    refine lv_aload_n hx hb dX3_turn_88 rfl (lv_at hl 0 rfl) ?_
    refine lv_aload_n hx hb dX3_turn_89 rfl (lv_at hl 0 rfl) ?_
    refine lv_iload_n hx hb dX3_turn_90 rfl (lv_at hl 2 rfl) ?_
    obtain ⟨p49, hcp49, hf⟩ := hf_bind hf
    have mo50 : CS.hs σ ≤ CS.hs p49.2 := Mono.go hcp49 (m_X3_frame N σ x2)
    have hr9 : CS.hs p49.2 ≤ CS.hs R.2 := Mono.go hf (mono_oc (mono_bind (m_X3_throwAgain N p49.2 none) (fun p55 => (mono_some (Nat.le_refl _)))) (fun a54 => (mono_bind (m_X3_throwAgain N p49.2 (some a54)) (fun p59 => (mono_some (Nat.le_refl _))))))
    have hFc := cFree hC hA
    refine va_callq (va_runV (As := [.int x2]) (rest := [.ref (Q.o 7)]) ⟨hx, hb, hml, hown, hts⟩ (c_X3_frame l dC dI Q N σ x2 p49 hcp49) (cwV 1 hts hX3_turn_X3_frame_v216 rfl rfl rfl (by decide +kernel) ⟨(show 1 + 1 ≤ 4 by omega), (show 8 + (2 + 11) + 60 * 1 ≤ 60 * 4 by omega)⟩) ⟨zPre.blind, va_recv hK hC.1 (ci := 2) (q0 := 7) rfl rfl, cPre_go hZ hK hC⟩ rfl rfl hl.1 rfl (lv_room (Nat.le_of_ble_eq_true rfl)) dX3_turn_91 (cAcc h0 mo50 hr9)) hC.2.2.1 (fun q _ h => hFc q h) hFc (fun r51 u9 t9 H1 locs ht hvm hw hB hz1 hk1 hS => ?_)
    obtain ⟨⟨hP, hK1, hD1⟩, hsz1⟩ := hB
    rw [ht] at hP hsz1
    have hC : CP dC dI Q A s.heap p49.2 H1 locs := ⟨hP, hD1.weaken (fun _ _ _ h => hFc _ h), hS, hsz1⟩
    generalize H1 = H at hC ⊢
    have h52 : (CS.hs σ) ≤ CS.hs p49.2 := Nat.le_trans h0 mo50
    refine W.widen (k := CS.hs p49.2 - (CS.hs σ)) (n := 17 * (CS.hs p49.2 - (CS.hs σ))) (cAcc2 h0 mo50) (cAcc3 h0 mo50) ?_
    obtain rfl : r51 = p49.1 := hw
    rcases hf_oc hf with ⟨q53, hf⟩ | ⟨a54, q53, hf⟩
    ·
      refine W.eq (congrArg (fun v9 => F0 m 94 ls (va_rf v9 :: [.ref (Q.o 7)])) q53) ?_
      refine W.eq (g2 := F0 m 94 ls (.null :: [.ref (Q.o 7)])) rfl ?_
      obtain ⟨p55, hcp55, hf⟩ := hf_bind hf
      have mo56 : CS.hs p49.2 ≤ CS.hs p55.2 := Mono.go hcp55 (m_X3_throwAgain N p49.2 none)
      have hr9 : CS.hs p55.2 ≤ CS.hs R.2 := Mono.go hf (mono_some (Nat.le_refl _))
      have hFc := cFree hC hA
      refine va_callv (va_runV (As := [.null]) (rest := []) ⟨hx, hb, hml, hown, hts⟩ (c_X3_throwAgain l dC dI Q N p49.2 none p55 hcp55) (cwV 1 hts hX3_turn_X3_throwAgain_v220 rfl rfl rfl (by decide +kernel) ⟨(show 2 + 1 ≤ 4 by omega), (show 8 + (2 + 11) + 60 * 2 ≤ 60 * 4 by omega)⟩) ⟨zPre.blind, va_recv hK hC.1 (ci := 2) (q0 := 7) rfl rfl, cPre_go hZ hK hC⟩ rfl rfl hl.1 rfl (lv_room (Nat.le_of_ble_eq_true rfl)) dX3_turn_94 (cAcc h52 mo56 hr9)) hC.2.2.1 (fun q _ h => hFc q h) hFc (fun u9 t9 H1 locs ht hvm hw hB hz1 hk1 hS => ?_)
      obtain ⟨⟨hP, hK1, hD1⟩, hsz1⟩ := hB
      rw [ht] at hP hsz1
      have hC : CP dC dI Q A s.heap p55.2 H1 locs := ⟨hP, hD1.weaken (fun _ _ _ h => hFc _ h), hS, hsz1⟩
      generalize H1 = H at hC ⊢
      have h58 : (CS.hs σ) ≤ CS.hs p55.2 := Nat.le_trans h52 mo56
      refine W.widen (k := CS.hs p55.2 - (CS.hs σ)) (n := 17 * (CS.hs p55.2 - (CS.hs σ))) (cAcc2 h52 mo56) (cAcc3 h52 mo56) ?_
      refine lv_goto (tgt := 133) hx hb dX3_turn_97 (by decide) ?_
      obtain rfl := Option.some.inj hf
      exact W.vret hx hb hr (fun t ht hW => ⟨⟨(), rfl, trivial, ⟨by rw [ht]; exact hC.1, va_K.moved hW.alike hK, hC.2.1⟩, by rw [ht]; exact hC.2.2.2⟩, hC.2.2.1.F ht⟩) hC.2.2.1.2.2 dX3_turn_133
    ·
      refine W.eq (congrArg (fun v9 => F0 m 94 ls (va_rf v9 :: [.ref (Q.o 7)])) q53) ?_
      refine W.eq (g2 := F0 m 94 ls (.ref a54 :: [.ref (Q.o 7)])) rfl ?_
      obtain ⟨p59, hcp59, hf⟩ := hf_bind hf
      have mo60 : CS.hs p49.2 ≤ CS.hs p59.2 := Mono.go hcp59 (m_X3_throwAgain N p49.2 (some a54))
      have hr9 : CS.hs p59.2 ≤ CS.hs R.2 := Mono.go hf (mono_some (Nat.le_refl _))
      have hFc := cFree hC hA
      refine va_callv (va_runV (As := [.ref a54]) (rest := []) ⟨hx, hb, hml, hown, hts⟩ (c_X3_throwAgain l dC dI Q N p49.2 (some a54) p59 hcp59) (cwV 1 hts hX3_turn_X3_throwAgain_v220 rfl rfl rfl (by decide +kernel) ⟨(show 2 + 1 ≤ 4 by omega), (show 8 + (2 + 11) + 60 * 2 ≤ 60 * 4 by omega)⟩) ⟨zPre.blind, va_recv hK hC.1 (ci := 2) (q0 := 7) rfl rfl, cPre_go hZ hK hC⟩ rfl rfl hl.1 rfl (lv_room (Nat.le_of_ble_eq_true rfl)) dX3_turn_94 (cAcc h52 mo60 hr9)) hC.2.2.1 (fun q _ h => hFc q h) hFc (fun u9 t9 H1 locs ht hvm hw hB hz1 hk1 hS => ?_)
      obtain ⟨⟨hP, hK1, hD1⟩, hsz1⟩ := hB
      rw [ht] at hP hsz1
      have hC : CP dC dI Q A s.heap p59.2 H1 locs := ⟨hP, hD1.weaken (fun _ _ _ h => hFc _ h), hS, hsz1⟩
      generalize H1 = H at hC ⊢
      have h62 : (CS.hs σ) ≤ CS.hs p59.2 := Nat.le_trans h52 mo60
      refine W.widen (k := CS.hs p59.2 - (CS.hs σ)) (n := 17 * (CS.hs p59.2 - (CS.hs σ))) (cAcc2 h52 mo60) (cAcc3 h52 mo60) ?_
      refine lv_goto (tgt := 133) hx hb dX3_turn_97 (by decide) ?_
      obtain rfl := Option.some.inj hf
      exact W.vret hx hb hr (fun t ht hW => ⟨⟨(), rfl, trivial, ⟨by rw [ht]; exact hC.1, va_K.moved hW.alike hK, hC.2.1⟩, by rw [ht]; exact hC.2.2.2⟩, hC.2.2.1.F ht⟩) hC.2.2.1.2.2 dX3_turn_133
  replace hf := (if_neg c48).symm.trans hf
  refine lv_tableOut (tgt := 117) hx hb dX3_turn_1 (by have := z_ton (a := 59) c1 (by decide); have := z_ton (a := 60) c16 (by decide); have := z_ton (a := 61) c21 (by decide); have := z_ton (a := 62) c30 (by decide); have := z_ton (a := 63) c39 (by decide); have := z_ton (a := 64) c48 (by decide); omega) (by decide) ?_
  refine lv_aload_n hx hb dX3_turn_117 rfl (lv_at hl 0 rfl) ?_
  refine lv_iload_n hx hb dX3_turn_118 rfl (lv_at hl 1 rfl) ?_
  refine lv_iload_n hx hb dX3_turn_119 rfl (lv_at hl 2 rfl) ?_
  refine lv_aload_n hx hb dX3_turn_120 rfl (lv_at hl 0 rfl) ?_
  refine lv_aload_n hx hb dX3_turn_121 rfl (lv_at hl 0 rfl) ?_
  refine cG_67 (v := (σ.i 67)) hx hb hts i_X3_turn_X3 hown hK hC (hts (.fieldLink RX3 60 "StatementRules2$Machine" "depth" "I") k_X3_turn_fieldLink_RX3_60_SR_Machine_depth_I) (fun _ q9 => q9) dX3_turn_122 rfl ?_
  refine lv_iconst (v := 1) hx hb dX3_turn_125 (by decide) ?_
  refine lv_isub hx hb dX3_turn_126 ?_
  obtain ⟨p63, hcp63, hf⟩ := hf_bind hf
  have mo64 : CS.hs σ ≤ CS.hs p63.2 := Mono.go hcp63 (m_X3_frame N σ ((σ.i 67) - 1))
  have hr9 : CS.hs p63.2 ≤ CS.hs R.2 := Mono.go hf (mono_oc (mono_bind (m_X3_handle N p63.2 x1 x2 none) (fun p69 => (mono_some (Nat.le_refl _)))) (fun a68 => (mono_bind (m_X3_handle N p63.2 x1 x2 (some a68)) (fun p73 => (mono_some (Nat.le_refl _))))))
  have hFc := cFree hC hA
  refine va_callq (va_runV (As := [.int ((σ.i 67) - 1)]) (rest := [.int x2, .int x1, .ref (Q.o 7)]) ⟨hx, hb, hml, hown, hts⟩ (c_X3_frame l dC dI Q N σ ((σ.i 67) - 1) p63 hcp63) (cwV 1 hts hX3_turn_X3_frame_v216 rfl rfl rfl (by decide +kernel) ⟨(show 1 + 1 ≤ 4 by omega), (show 8 + (2 + 11) + 60 * 1 ≤ 60 * 4 by omega)⟩) ⟨zPre.blind, va_recv hK hC.1 (ci := 2) (q0 := 7) rfl rfl, cPre_go hZ hK hC⟩ rfl rfl hl.1 rfl (lv_room (Nat.le_of_ble_eq_true rfl)) dX3_turn_127 (cAcc h0 mo64 hr9)) hC.2.2.1 (fun q _ h => hFc q h) hFc (fun r65 u9 t9 H1 locs ht hvm hw hB hz1 hk1 hS => ?_)
  obtain ⟨⟨hP, hK1, hD1⟩, hsz1⟩ := hB
  rw [ht] at hP hsz1
  have hC : CP dC dI Q A s.heap p63.2 H1 locs := ⟨hP, hD1.weaken (fun _ _ _ h => hFc _ h), hS, hsz1⟩
  generalize H1 = H at hC ⊢
  have h66 : (CS.hs σ) ≤ CS.hs p63.2 := Nat.le_trans h0 mo64
  refine W.widen (k := CS.hs p63.2 - (CS.hs σ)) (n := 17 * (CS.hs p63.2 - (CS.hs σ))) (cAcc2 h0 mo64) (cAcc3 h0 mo64) ?_
  obtain rfl : r65 = p63.1 := hw
  rcases hf_oc hf with ⟨q67, hf⟩ | ⟨a68, q67, hf⟩
  ·
    refine W.eq (congrArg (fun v9 => F0 m 130 ls (va_rf v9 :: [.int x2, .int x1, .ref (Q.o 7)])) q67) ?_
    refine W.eq (g2 := F0 m 130 ls (.null :: [.int x2, .int x1, .ref (Q.o 7)])) rfl ?_
    obtain ⟨p69, hcp69, hf⟩ := hf_bind hf
    have mo70 : CS.hs p63.2 ≤ CS.hs p69.2 := Mono.go hcp69 (m_X3_handle N p63.2 x1 x2 none)
    have hr9 : CS.hs p69.2 ≤ CS.hs R.2 := Mono.go hf (mono_some (Nat.le_refl _))
    have hFc := cFree hC hA
    refine va_callv (va_runV (As := [.int x1, .int x2, .null]) (rest := []) ⟨hx, hb, hml, hown, hts⟩ (c_X3_handle l dC dI Q N p63.2 x1 x2 none p69 hcp69) (cwV 3 hts hX3_turn_X3_handle_v227 rfl rfl rfl (by decide +kernel) ⟨(show 3 + 1 ≤ 4 by omega), (show 8 + (4 + 11) + 60 * 3 ≤ 60 * 4 by omega)⟩) ⟨zPre.blind, va_recv hK hC.1 (ci := 2) (q0 := 7) rfl rfl, cPre_go hZ hK hC⟩ rfl rfl hl.1 rfl (lv_room (Nat.le_of_ble_eq_true rfl)) dX3_turn_130 (cAcc h66 mo70 hr9)) hC.2.2.1 (fun q _ h => hFc q h) hFc (fun u9 t9 H1 locs ht hvm hw hB hz1 hk1 hS => ?_)
    obtain ⟨⟨hP, hK1, hD1⟩, hsz1⟩ := hB
    rw [ht] at hP hsz1
    have hC : CP dC dI Q A s.heap p69.2 H1 locs := ⟨hP, hD1.weaken (fun _ _ _ h => hFc _ h), hS, hsz1⟩
    generalize H1 = H at hC ⊢
    have h72 : (CS.hs σ) ≤ CS.hs p69.2 := Nat.le_trans h66 mo70
    refine W.widen (k := CS.hs p69.2 - (CS.hs σ)) (n := 17 * (CS.hs p69.2 - (CS.hs σ))) (cAcc2 h66 mo70) (cAcc3 h66 mo70) ?_
    obtain rfl := Option.some.inj hf
    exact W.vret hx hb hr (fun t ht hW => ⟨⟨(), rfl, trivial, ⟨by rw [ht]; exact hC.1, va_K.moved hW.alike hK, hC.2.1⟩, by rw [ht]; exact hC.2.2.2⟩, hC.2.2.1.F ht⟩) hC.2.2.1.2.2 dX3_turn_133
  ·
    refine W.eq (congrArg (fun v9 => F0 m 130 ls (va_rf v9 :: [.int x2, .int x1, .ref (Q.o 7)])) q67) ?_
    refine W.eq (g2 := F0 m 130 ls (.ref a68 :: [.int x2, .int x1, .ref (Q.o 7)])) rfl ?_
    obtain ⟨p73, hcp73, hf⟩ := hf_bind hf
    have mo74 : CS.hs p63.2 ≤ CS.hs p73.2 := Mono.go hcp73 (m_X3_handle N p63.2 x1 x2 (some a68))
    have hr9 : CS.hs p73.2 ≤ CS.hs R.2 := Mono.go hf (mono_some (Nat.le_refl _))
    have hFc := cFree hC hA
    refine va_callv (va_runV (As := [.int x1, .int x2, .ref a68]) (rest := []) ⟨hx, hb, hml, hown, hts⟩ (c_X3_handle l dC dI Q N p63.2 x1 x2 (some a68) p73 hcp73) (cwV 3 hts hX3_turn_X3_handle_v227 rfl rfl rfl (by decide +kernel) ⟨(show 3 + 1 ≤ 4 by omega), (show 8 + (4 + 11) + 60 * 3 ≤ 60 * 4 by omega)⟩) ⟨zPre.blind, va_recv hK hC.1 (ci := 2) (q0 := 7) rfl rfl, cPre_go hZ hK hC⟩ rfl rfl hl.1 rfl (lv_room (Nat.le_of_ble_eq_true rfl)) dX3_turn_130 (cAcc h66 mo74 hr9)) hC.2.2.1 (fun q _ h => hFc q h) hFc (fun u9 t9 H1 locs ht hvm hw hB hz1 hk1 hS => ?_)
    obtain ⟨⟨hP, hK1, hD1⟩, hsz1⟩ := hB
    rw [ht] at hP hsz1
    have hC : CP dC dI Q A s.heap p73.2 H1 locs := ⟨hP, hD1.weaken (fun _ _ _ h => hFc _ h), hS, hsz1⟩
    generalize H1 = H at hC ⊢
    have h76 : (CS.hs σ) ≤ CS.hs p73.2 := Nat.le_trans h66 mo74
    refine W.widen (k := CS.hs p73.2 - (CS.hs σ)) (n := 17 * (CS.hs p73.2 - (CS.hs σ))) (cAcc2 h66 mo74) (cAcc3 h66 mo74) ?_
    obtain rfl := Option.some.inj hf
    exact W.vret hx hb hr (fun t ht hW => ⟨⟨(), rfl, trivial, ⟨by rw [ht]; exact hC.1, va_K.moved hW.alike hK, hC.2.1⟩, by rw [ht]; exact hC.2.2.2⟩, hC.2.2.1.F ht⟩) hC.2.2.1.2.2 dX3_turn_133
theorem k_X3_instruction_fieldLink_RX3_40_SR_Machine_code_LSR_Code : Cond.fieldLink RX3 40 "StatementRules2$Machine" "code" "LStatementRules2$Code;" ∈ wzX3_instruction := List.mem_cons_of_mem _ (List.mem_append_left _ (List.mem_of_getElem? (i := 0) rfl))
theorem i_X3_instruction_X3 : ∀ w ∈ wsX30, w ∈ wzX3_instruction := fun _ h => List.mem_cons_of_mem _ (List.mem_append_right _ (List.mem_append_left _ (h)))
theorem i_X3_instruction_X0 : ∀ w ∈ wsX00, w ∈ wzX3_instruction := fun _ h => List.mem_cons_of_mem _ (List.mem_append_right _ (List.mem_append_right _ (List.mem_append_left _ (h))))
theorem k_X3_instruction_fieldLink_RX3_57_SR_Machine_place_I : Cond.fieldLink RX3 57 "StatementRules2$Machine" "place" "I" ∈ wzX3_instruction := List.mem_cons_of_mem _ (List.mem_append_left _ (List.mem_of_getElem? (i := 1) rfl))
theorem k_X3_instruction_initialized_RX11 : Cond.initialized RX11 ∈ wzX3_instruction := List.mem_cons_of_mem _ (List.mem_append_left _ (List.mem_of_getElem? (i := 2) rfl))
theorem k_X3_instruction_static_yX11_at : Cond.static yX11_at ∈ wzX3_instruction := List.mem_cons_of_mem _ (List.mem_append_left _ (List.mem_of_getElem? (i := 3) rfl))
set_option maxHeartbeats 4000000 in
set_option maxRecDepth 100000 in
theorem c_X3_instruction (l : Launch) (dC : Nat → ClassId) (dI : Nat → Nat → Nat) (Q : CQ) (N : Nat) (σ : CS) (R : Unit × CS) (hf : f_X3_instruction N σ = some R) : Met l yX3_instruction wzX3_instruction ({ frames := 6, cells := CS.hs R.2 - CS.hs σ, slots := 17 * (CS.hs R.2 - CS.hs σ), locals := 60 * 6 }) (va_Pc [.ref (Q.o 7)] (zPre dC dI (CS.hs σ) (cW Q σ) (cT Q))) (va_Qv (fun (_ : Unit) => True) (fun (_ : Unit) (t : State) => zPost dC dI (va_A (cW Q σ) (CS.hs σ)) (cW Q R.2) (cT Q) t ∧ t.heap.size = CS.hs R.2) (va_A (cW Q σ) (CS.hs σ))) (CS.hs R.2 - CS.hs σ) (17 * (CS.hs R.2 - CS.hs σ)) (va_A (cW Q σ) (CS.hs σ)) := by
  refine Met.ofW (cc := cX3_instruction) (maxL := 3) (ret := none) (by decide) rfl ?_
  intro p e s m args below meth c s₁ B hml hv
  obtain ⟨rfl, hsz, hZ, hP, hK, hD0⟩ := hv
  have hx := B.exec
  have hb := B.bytes
  have hr := B.returns
  have hts := atoms_spec (ws := wzX3_instruction) B.pre
  have hown : s.vm.findClass RX3 = some m.cls := findClass_of_methodNamed B.named
  have hlocks := B.notSynchronized
  have hD := hD0.self (sz := CS.hs σ)
  generalize hAe : va_A (cW Q σ) (CS.hs σ) = A at hD ⊢
  have hA : ∀ q : Nat, s.heap.size ≤ q → A q := fun q h => by rw [← hAe]; exact Or.inr (hsz ▸ h)
  have hC : CP dC dI Q A s.heap σ s.heap [] := ⟨hP, hD, va_S.rf, hsz⟩
  have h0 : CS.hs σ ≤ CS.hs σ := Nat.le_refl _
  have hl := lv_entry ([.ref (Q.o 7)]) (n := 3) (Nat.le_of_ble_eq_true rfl)
  rw [lg_entry_eq]
  generalize (lg_sl ([.ref (Q.o 7)]) ++ List.replicate (3 - (lg_sl ([.ref (Q.o 7)])).length) Slot.unset).toArray = ls at hl ⊢
  have hl : lv_has ls 3 [(0, .ref (Q.o 7))] := hl
  unfold f_X3_instruction at hf
  refine W.widen (k := CS.hs σ - CS.hs σ) (n := 17 * (CS.hs σ - CS.hs σ)) (Nat.zero_le _) (Nat.zero_le _) ?_
  refine lv_aload_n hx hb dX3_instruction_0 rfl (lv_at hl 0 rfl) ?_
  refine cG_58 hx hb hts i_X3_instruction_X3 hown hK hC (hts (.fieldLink RX3 40 "StatementRules2$Machine" "code" "LStatementRules2$Code;") k_X3_instruction_fieldLink_RX3_40_SR_Machine_code_LSR_Code) (fun _ q9 => q9) dX3_instruction_1 ?_
  refine cGN_15 hx hb hts i_X3_instruction_X0 hown hK hC (va_Nw.use rfl (hZ.1 (.fieldLinkNest RX3 108 "StatementRules2$Code" "ops" "[I" "StatementRules2") (by decide +kernel))) (fun _ q9 => q9) dX3_instruction_4 ?_
  refine lv_aload_n hx hb dX3_instruction_7 rfl (lv_at hl 0 rfl) ?_
  refine cG_66 (v := (σ.i 66)) hx hb hts i_X3_instruction_X3 hown hK hC (hts (.fieldLink RX3 57 "StatementRules2$Machine" "place" "I") k_X3_instruction_fieldLink_RX3_57_SR_Machine_place_I) (fun _ q9 => q9) dX3_instruction_8 rfl ?_
  have he9 := (cArr_15 (Q := Q) (σ := σ))
  have hFc := cFree1 hC hA he9
  have hr9 : CS.hs σ ≤ CS.hs R.2 := Mono.go hf (mono_ite (mono_ite (mono_ite (mono_ite (mono_bind (m_X3_turn N (CS.setI σ 66 ((σ.i 66) + 1)) (gAt (σ.a 15) 1200 (σ.i 66)) (gAt (σ.a 16) 1200 (σ.i 66))) (fun p7 => (mono_some (Nat.le_refl _)))) (mono_bind (m_X3_act N (CS.setI σ 66 ((σ.i 66) + 1)) (gAt (σ.a 15) 1200 (σ.i 66)) (gAt (σ.a 16) 1200 (σ.i 66))) (fun p11 => (mono_some (Nat.le_refl _))))) (mono_bind (m_X3_steer N (CS.setI σ 66 ((σ.i 66) + 1)) (gAt (σ.a 15) 1200 (σ.i 66)) (gAt (σ.a 16) 1200 (σ.i 66))) (fun p15 => (mono_some (Nat.le_refl _))))) (mono_bind (m_X3_combine N (CS.setI σ 66 ((σ.i 66) + 1)) (gAt (σ.a 15) 1200 (σ.i 66))) (fun p19 => (mono_some (Nat.le_refl _))))) (mono_bind (m_X3_move N (CS.setI σ 66 ((σ.i 66) + 1)) (gAt (σ.a 15) 1200 (σ.i 66)) (gAt (σ.a 16) 1200 (σ.i 66))) (fun p23 => (mono_some (Nat.le_refl _)))))
  refine va_calli (va_runSN (As := [.ref (Q.q 15), .int (σ.i 66)]) (rest := []) ⟨hx, hb, hml, hown, hts⟩ (c_X11_at l dC dI _ (Q.q 15) (Q.c 0) 1200 (σ.a 15) (σ.i 66) (by decide)) ⟨va_cnB 2 hts hX3_instruction_X11_at_n111 rfl rfl rfl (hZ.1 (.methodLinkNest RX3 111 yX11_at "StatementRules2") (by decide +kernel)) (hts (.initialized RX11) k_X3_instruction_initialized_RX11) (by decide +kernel) ⟨(show 1 + 1 ≤ 6 by omega), (show 8 + (2 + 11) + 60 * 1 ≤ 60 * 6 by omega)⟩, (hts (.static yX11_at) k_X3_instruction_static_yX11_at), trivial⟩ ⟨zPre.blind, zPre.go hZ (cOne hC.1 he9) (hK.sub (tys' := [(Q.c 0, .int)]) [0] rfl) (cOneD hC.2.1 he9)⟩ rfl rfl hl.1 rfl (lv_room (Nat.le_of_ble_eq_true rfl)) dX3_instruction_11 ⟨cAcc4 h0 hr9, cAcc5 h0 hr9⟩) hC.2.2.1 (fun q _ h => hFc q h) hFc (fun r1 u9 t9 H1 locs ht hvm hw hB hz1 hk1 hS => ?_)
  obtain ⟨⟨hP1, hK1, hD1⟩, hsz1⟩ := hB
  rw [ht] at hP1 hsz1
  have hC := cBack (σ' := σ) hC he9 (cSelf he9) (Eq.refl (CS.hs σ)) hk1 hP1 hsz1 hS
  generalize H1 = H at hC ⊢
  obtain rfl : r1 = (gAt (σ.a 15) 1200 (σ.i 66)) := hw
  refine lv_istore_n (lv' := [(1, .int (gAt (σ.a 15) 1200 (σ.i 66))), (0, .ref (Q.o 7))]) hx hb dX3_instruction_14 rfl hl (by decide) rfl (fun ls hl => ?_)
  refine lv_aload_n hx hb dX3_instruction_15 rfl (lv_at hl 1 rfl) ?_
  refine cG_58 hx hb hts i_X3_instruction_X3 hown hK hC (hts (.fieldLink RX3 40 "StatementRules2$Machine" "code" "LStatementRules2$Code;") k_X3_instruction_fieldLink_RX3_40_SR_Machine_code_LSR_Code) (fun _ q9 => q9) dX3_instruction_16 ?_
  refine cGN_16 hx hb hts i_X3_instruction_X0 hown hK hC (va_Nw.use rfl (hZ.1 (.fieldLinkNest RX3 115 "StatementRules2$Code" "arguments" "[I" "StatementRules2") (by decide +kernel))) (fun _ q9 => q9) dX3_instruction_19 ?_
  refine lv_aload_n hx hb dX3_instruction_22 rfl (lv_at hl 1 rfl) ?_
  refine cG_66 (v := (σ.i 66)) hx hb hts i_X3_instruction_X3 hown hK hC (hts (.fieldLink RX3 57 "StatementRules2$Machine" "place" "I") k_X3_instruction_fieldLink_RX3_57_SR_Machine_place_I) (fun _ q9 => q9) dX3_instruction_23 rfl ?_
  have he9 := (cArr_16 (Q := Q) (σ := σ))
  have hFc := cFree1 hC hA he9
  have hr9 : CS.hs σ ≤ CS.hs R.2 := Mono.go hf (mono_ite (mono_ite (mono_ite (mono_ite (mono_bind (m_X3_turn N (CS.setI σ 66 ((σ.i 66) + 1)) (gAt (σ.a 15) 1200 (σ.i 66)) (gAt (σ.a 16) 1200 (σ.i 66))) (fun p7 => (mono_some (Nat.le_refl _)))) (mono_bind (m_X3_act N (CS.setI σ 66 ((σ.i 66) + 1)) (gAt (σ.a 15) 1200 (σ.i 66)) (gAt (σ.a 16) 1200 (σ.i 66))) (fun p11 => (mono_some (Nat.le_refl _))))) (mono_bind (m_X3_steer N (CS.setI σ 66 ((σ.i 66) + 1)) (gAt (σ.a 15) 1200 (σ.i 66)) (gAt (σ.a 16) 1200 (σ.i 66))) (fun p15 => (mono_some (Nat.le_refl _))))) (mono_bind (m_X3_combine N (CS.setI σ 66 ((σ.i 66) + 1)) (gAt (σ.a 15) 1200 (σ.i 66))) (fun p19 => (mono_some (Nat.le_refl _))))) (mono_bind (m_X3_move N (CS.setI σ 66 ((σ.i 66) + 1)) (gAt (σ.a 15) 1200 (σ.i 66)) (gAt (σ.a 16) 1200 (σ.i 66))) (fun p23 => (mono_some (Nat.le_refl _)))))
  refine va_calli (va_runSN (As := [.ref (Q.q 16), .int (σ.i 66)]) (rest := []) ⟨hx, hb, hml, hown, hts⟩ (c_X11_at l dC dI _ (Q.q 16) (Q.c 0) 1200 (σ.a 16) (σ.i 66) (by decide)) ⟨va_cnB 2 hts hX3_instruction_X11_at_n111 rfl rfl rfl (hZ.1 (.methodLinkNest RX3 111 yX11_at "StatementRules2") (by decide +kernel)) (hts (.initialized RX11) k_X3_instruction_initialized_RX11) (by decide +kernel) ⟨(show 1 + 1 ≤ 6 by omega), (show 8 + (2 + 11) + 60 * 1 ≤ 60 * 6 by omega)⟩, (hts (.static yX11_at) k_X3_instruction_static_yX11_at), trivial⟩ ⟨zPre.blind, zPre.go hZ (cOne hC.1 he9) (hK.sub (tys' := [(Q.c 0, .int)]) [0] rfl) (cOneD hC.2.1 he9)⟩ rfl rfl hl.1 rfl (lv_room (Nat.le_of_ble_eq_true rfl)) dX3_instruction_26 ⟨cAcc4 h0 hr9, cAcc5 h0 hr9⟩) hC.2.2.1 (fun q _ h => hFc q h) hFc (fun r2 u9 t9 H1 locs ht hvm hw hB hz1 hk1 hS => ?_)
  obtain ⟨⟨hP1, hK1, hD1⟩, hsz1⟩ := hB
  rw [ht] at hP1 hsz1
  have hC := cBack (σ' := σ) hC he9 (cSelf he9) (Eq.refl (CS.hs σ)) hk1 hP1 hsz1 hS
  generalize H1 = H at hC ⊢
  obtain rfl : r2 = (gAt (σ.a 16) 1200 (σ.i 66)) := hw
  refine lv_istore_n (lv' := [(2, .int (gAt (σ.a 16) 1200 (σ.i 66))), (1, .int (gAt (σ.a 15) 1200 (σ.i 66))), (0, .ref (Q.o 7))]) hx hb dX3_instruction_29 rfl hl (by decide) rfl (fun ls hl => ?_)
  refine lv_aload_n hx hb dX3_instruction_30 rfl (lv_at hl 2 rfl) ?_
  refine lv_dup hx hb dX3_instruction_31 rfl ?_
  refine cG_66 (v := (σ.i 66)) hx hb hts i_X3_instruction_X3 hown hK hC (hts (.fieldLink RX3 57 "StatementRules2$Machine" "place" "I") k_X3_instruction_fieldLink_RX3_57_SR_Machine_place_I) (fun _ q9 => q9) dX3_instruction_32 rfl ?_
  refine lv_iconst (v := 1) hx hb dX3_instruction_35 (by decide) ?_
  refine lv_iadd hx hb dX3_instruction_36 ?_
  refine cP_66 (v := ((σ.i 66) + 1)) hx hb hts i_X3_instruction_X3 hown hK hC (hts (.fieldLink RX3 57 "StatementRules2$Machine" "place" "I") k_X3_instruction_fieldLink_RX3_57_SR_Machine_place_I) (fun _ q9 => q9) dX3_instruction_37 (fun H locs hC => ?_)
  refine lv_iload_n hx hb dX3_instruction_40 rfl (lv_at hl 1 rfl) ?_
  refine lv_bipush (v := 7) hx hb dX3_instruction_41 (by decide) ?_
  refine lv_icmp_ge (tgt := 55) hx hb dX3_instruction_43 (by decide) (fun c3 => ?_) (fun c3 => ?_)
  ·
    replace hf := (if_pos c3).symm.trans hf
    refine lv_iload_n hx hb dX3_instruction_55 rfl (lv_at hl 1 rfl) ?_
    refine lv_bipush (v := 30) hx hb dX3_instruction_56 (by decide) ?_
    refine lv_icmp_ge (tgt := 69) hx hb dX3_instruction_58 (by decide) (fun c4 => ?_) (fun c4 => ?_)
    ·
      replace hf := (if_pos c4).symm.trans hf
      refine lv_iload_n hx hb dX3_instruction_69 rfl (lv_at hl 1 rfl) ?_
      refine lv_bipush (v := 50) hx hb dX3_instruction_70 (by decide) ?_
      refine lv_icmp_ge (tgt := 84) hx hb dX3_instruction_72 (by decide) (fun c5 => ?_) (fun c5 => ?_)
      ·
        replace hf := (if_pos c5).symm.trans hf
        refine lv_iload_n hx hb dX3_instruction_84 rfl (lv_at hl 1 rfl) ?_
        refine lv_bipush (v := 56) hx hb dX3_instruction_85 (by decide) ?_
        refine lv_icmp_ge (tgt := 99) hx hb dX3_instruction_87 (by decide) (fun c6 => ?_) (fun c6 => ?_)
        ·
          replace hf := (if_pos c6).symm.trans hf
          refine lv_aload_n hx hb dX3_instruction_99 rfl (lv_at hl 2 rfl) ?_
          refine lv_iload_n hx hb dX3_instruction_100 rfl (lv_at hl 1 rfl) ?_
          refine lv_iload_n hx hb dX3_instruction_101 rfl (lv_at hl 0 rfl) ?_
          obtain ⟨p7, hcp7, hf⟩ := hf_bind hf
          have mo8 : CS.hs σ ≤ CS.hs p7.2 := Mono.go hcp7 (m_X3_turn N (CS.setI σ 66 ((σ.i 66) + 1)) (gAt (σ.a 15) 1200 (σ.i 66)) (gAt (σ.a 16) 1200 (σ.i 66)))
          have hr9 : CS.hs p7.2 ≤ CS.hs R.2 := Mono.go hf (mono_some (Nat.le_refl _))
          have hFc := cFree hC hA
          refine va_callv (va_runV (As := [.int (gAt (σ.a 15) 1200 (σ.i 66)), .int (gAt (σ.a 16) 1200 (σ.i 66))]) (rest := []) ⟨hx, hb, hml, hown, hts⟩ (c_X3_turn l dC dI Q N (CS.setI σ 66 ((σ.i 66) + 1)) (gAt (σ.a 15) 1200 (σ.i 66)) (gAt (σ.a 16) 1200 (σ.i 66)) p7 hcp7) (cwV 2 hts hX3_instruction_X3_turn_v132 rfl rfl rfl (by decide +kernel) ⟨(show 4 + 1 ≤ 6 by omega), (show 8 + (3 + 11) + 60 * 4 ≤ 60 * 6 by omega)⟩) ⟨zPre.blind, va_recv hK hC.1 (ci := 2) (q0 := 7) rfl rfl, cPre_go hZ hK hC⟩ rfl rfl hl.1 rfl (lv_room (Nat.le_of_ble_eq_true rfl)) dX3_instruction_102 (cAcc h0 mo8 hr9)) hC.2.2.1 (fun q _ h => hFc q h) hFc (fun u9 t9 H1 locs ht hvm hw hB hz1 hk1 hS => ?_)
          obtain ⟨⟨hP, hK1, hD1⟩, hsz1⟩ := hB
          rw [ht] at hP hsz1
          have hC : CP dC dI Q A s.heap p7.2 H1 locs := ⟨hP, hD1.weaken (fun _ _ _ h => hFc _ h), hS, hsz1⟩
          generalize H1 = H at hC ⊢
          have h10 : (CS.hs σ) ≤ CS.hs p7.2 := Nat.le_trans h0 mo8
          refine W.widen (k := CS.hs p7.2 - (CS.hs σ)) (n := 17 * (CS.hs p7.2 - (CS.hs σ))) (cAcc2 h0 mo8) (cAcc3 h0 mo8) ?_
          obtain rfl := Option.some.inj hf
          exact W.vret hx hb hr (fun t ht hW => ⟨⟨(), rfl, trivial, ⟨by rw [ht]; exact hC.1, va_K.moved hW.alike hK, hC.2.1⟩, by rw [ht]; exact hC.2.2.2⟩, hC.2.2.1.F ht⟩) hC.2.2.1.2.2 dX3_instruction_105
        ·
          replace hf := (if_neg c6).symm.trans hf
          refine lv_aload_n hx hb dX3_instruction_90 rfl (lv_at hl 2 rfl) ?_
          refine lv_iload_n hx hb dX3_instruction_91 rfl (lv_at hl 1 rfl) ?_
          refine lv_iload_n hx hb dX3_instruction_92 rfl (lv_at hl 0 rfl) ?_
          obtain ⟨p11, hcp11, hf⟩ := hf_bind hf
          have mo12 : CS.hs σ ≤ CS.hs p11.2 := Mono.go hcp11 (m_X3_act N (CS.setI σ 66 ((σ.i 66) + 1)) (gAt (σ.a 15) 1200 (σ.i 66)) (gAt (σ.a 16) 1200 (σ.i 66)))
          have hr9 : CS.hs p11.2 ≤ CS.hs R.2 := Mono.go hf (mono_some (Nat.le_refl _))
          have hFc := cFree hC hA
          refine va_callv (va_runV (As := [.int (gAt (σ.a 15) 1200 (σ.i 66)), .int (gAt (σ.a 16) 1200 (σ.i 66))]) (rest := []) ⟨hx, hb, hml, hown, hts⟩ (c_X3_act l dC dI Q N (CS.setI σ 66 ((σ.i 66) + 1)) (gAt (σ.a 15) 1200 (σ.i 66)) (gAt (σ.a 16) 1200 (σ.i 66)) p11 hcp11) (cwV 2 hts hX3_instruction_X3_act_v129 rfl rfl rfl (by decide +kernel) ⟨(show 5 + 1 ≤ 6 by omega), (show 8 + (3 + 11) + 60 * 5 ≤ 60 * 6 by omega)⟩) ⟨zPre.blind, va_recv hK hC.1 (ci := 2) (q0 := 7) rfl rfl, cPre_go hZ hK hC⟩ rfl rfl hl.1 rfl (lv_room (Nat.le_of_ble_eq_true rfl)) dX3_instruction_93 (cAcc h0 mo12 hr9)) hC.2.2.1 (fun q _ h => hFc q h) hFc (fun u9 t9 H1 locs ht hvm hw hB hz1 hk1 hS => ?_)
          obtain ⟨⟨hP, hK1, hD1⟩, hsz1⟩ := hB
          rw [ht] at hP hsz1
          have hC : CP dC dI Q A s.heap p11.2 H1 locs := ⟨hP, hD1.weaken (fun _ _ _ h => hFc _ h), hS, hsz1⟩
          generalize H1 = H at hC ⊢
          have h14 : (CS.hs σ) ≤ CS.hs p11.2 := Nat.le_trans h0 mo12
          refine W.widen (k := CS.hs p11.2 - (CS.hs σ)) (n := 17 * (CS.hs p11.2 - (CS.hs σ))) (cAcc2 h0 mo12) (cAcc3 h0 mo12) ?_
          refine lv_goto (tgt := 105) hx hb dX3_instruction_96 (by decide) ?_
          obtain rfl := Option.some.inj hf
          exact W.vret hx hb hr (fun t ht hW => ⟨⟨(), rfl, trivial, ⟨by rw [ht]; exact hC.1, va_K.moved hW.alike hK, hC.2.1⟩, by rw [ht]; exact hC.2.2.2⟩, hC.2.2.1.F ht⟩) hC.2.2.1.2.2 dX3_instruction_105
      ·
        replace hf := (if_neg c5).symm.trans hf
        refine lv_aload_n hx hb dX3_instruction_75 rfl (lv_at hl 2 rfl) ?_
        refine lv_iload_n hx hb dX3_instruction_76 rfl (lv_at hl 1 rfl) ?_
        refine lv_iload_n hx hb dX3_instruction_77 rfl (lv_at hl 0 rfl) ?_
        obtain ⟨p15, hcp15, hf⟩ := hf_bind hf
        have mo16 : CS.hs σ ≤ CS.hs p15.2 := Mono.go hcp15 (m_X3_steer N (CS.setI σ 66 ((σ.i 66) + 1)) (gAt (σ.a 15) 1200 (σ.i 66)) (gAt (σ.a 16) 1200 (σ.i 66)))
        have hr9 : CS.hs p15.2 ≤ CS.hs R.2 := Mono.go hf (mono_some (Nat.le_refl _))
        have hFc := cFree hC hA
        refine va_callv (va_runV (As := [.int (gAt (σ.a 15) 1200 (σ.i 66)), .int (gAt (σ.a 16) 1200 (σ.i 66))]) (rest := []) ⟨hx, hb, hml, hown, hts⟩ (c_X3_steer l dC dI Q N (CS.setI σ 66 ((σ.i 66) + 1)) (gAt (σ.a 15) 1200 (σ.i 66)) (gAt (σ.a 16) 1200 (σ.i 66)) p15 hcp15) (cwV 2 hts hX3_instruction_X3_steer_v126 rfl rfl rfl (by decide +kernel) ⟨(show 4 + 1 ≤ 6 by omega), (show 8 + (3 + 11) + 60 * 4 ≤ 60 * 6 by omega)⟩) ⟨zPre.blind, va_recv hK hC.1 (ci := 2) (q0 := 7) rfl rfl, cPre_go hZ hK hC⟩ rfl rfl hl.1 rfl (lv_room (Nat.le_of_ble_eq_true rfl)) dX3_instruction_78 (cAcc h0 mo16 hr9)) hC.2.2.1 (fun q _ h => hFc q h) hFc (fun u9 t9 H1 locs ht hvm hw hB hz1 hk1 hS => ?_)
        obtain ⟨⟨hP, hK1, hD1⟩, hsz1⟩ := hB
        rw [ht] at hP hsz1
        have hC : CP dC dI Q A s.heap p15.2 H1 locs := ⟨hP, hD1.weaken (fun _ _ _ h => hFc _ h), hS, hsz1⟩
        generalize H1 = H at hC ⊢
        have h18 : (CS.hs σ) ≤ CS.hs p15.2 := Nat.le_trans h0 mo16
        refine W.widen (k := CS.hs p15.2 - (CS.hs σ)) (n := 17 * (CS.hs p15.2 - (CS.hs σ))) (cAcc2 h0 mo16) (cAcc3 h0 mo16) ?_
        refine lv_goto (tgt := 105) hx hb dX3_instruction_81 (by decide) ?_
        obtain rfl := Option.some.inj hf
        exact W.vret hx hb hr (fun t ht hW => ⟨⟨(), rfl, trivial, ⟨by rw [ht]; exact hC.1, va_K.moved hW.alike hK, hC.2.1⟩, by rw [ht]; exact hC.2.2.2⟩, hC.2.2.1.F ht⟩) hC.2.2.1.2.2 dX3_instruction_105
    ·
      replace hf := (if_neg c4).symm.trans hf
      refine lv_aload_n hx hb dX3_instruction_61 rfl (lv_at hl 2 rfl) ?_
      refine lv_iload_n hx hb dX3_instruction_62 rfl (lv_at hl 1 rfl) ?_
      obtain ⟨p19, hcp19, hf⟩ := hf_bind hf
      have mo20 : CS.hs σ ≤ CS.hs p19.2 := Mono.go hcp19 (m_X3_combine N (CS.setI σ 66 ((σ.i 66) + 1)) (gAt (σ.a 15) 1200 (σ.i 66)))
      have hr9 : CS.hs p19.2 ≤ CS.hs R.2 := Mono.go hf (mono_some (Nat.le_refl _))
      have hFc := cFree hC hA
      refine va_callv (va_runV (As := [.int (gAt (σ.a 15) 1200 (σ.i 66))]) (rest := []) ⟨hx, hb, hml, hown, hts⟩ (c_X3_combine l dC dI Q N (CS.setI σ 66 ((σ.i 66) + 1)) (gAt (σ.a 15) 1200 (σ.i 66)) p19 hcp19) (cwV 1 hts hX3_instruction_X3_combine_v122 rfl rfl rfl (by decide +kernel) ⟨(show 5 + 1 ≤ 6 by omega), (show 8 + (4 + 11) + 60 * 5 ≤ 60 * 6 by omega)⟩) ⟨zPre.blind, va_recv hK hC.1 (ci := 2) (q0 := 7) rfl rfl, cPre_go hZ hK hC⟩ rfl rfl hl.1 rfl (lv_room (Nat.le_of_ble_eq_true rfl)) dX3_instruction_63 (cAcc h0 mo20 hr9)) hC.2.2.1 (fun q _ h => hFc q h) hFc (fun u9 t9 H1 locs ht hvm hw hB hz1 hk1 hS => ?_)
      obtain ⟨⟨hP, hK1, hD1⟩, hsz1⟩ := hB
      rw [ht] at hP hsz1
      have hC : CP dC dI Q A s.heap p19.2 H1 locs := ⟨hP, hD1.weaken (fun _ _ _ h => hFc _ h), hS, hsz1⟩
      generalize H1 = H at hC ⊢
      have h22 : (CS.hs σ) ≤ CS.hs p19.2 := Nat.le_trans h0 mo20
      refine W.widen (k := CS.hs p19.2 - (CS.hs σ)) (n := 17 * (CS.hs p19.2 - (CS.hs σ))) (cAcc2 h0 mo20) (cAcc3 h0 mo20) ?_
      refine lv_goto (tgt := 105) hx hb dX3_instruction_66 (by decide) ?_
      obtain rfl := Option.some.inj hf
      exact W.vret hx hb hr (fun t ht hW => ⟨⟨(), rfl, trivial, ⟨by rw [ht]; exact hC.1, va_K.moved hW.alike hK, hC.2.1⟩, by rw [ht]; exact hC.2.2.2⟩, hC.2.2.1.F ht⟩) hC.2.2.1.2.2 dX3_instruction_105
  ·
    replace hf := (if_neg c3).symm.trans hf
    refine lv_aload_n hx hb dX3_instruction_46 rfl (lv_at hl 2 rfl) ?_
    refine lv_iload_n hx hb dX3_instruction_47 rfl (lv_at hl 1 rfl) ?_
    refine lv_iload_n hx hb dX3_instruction_48 rfl (lv_at hl 0 rfl) ?_
    obtain ⟨p23, hcp23, hf⟩ := hf_bind hf
    have mo24 : CS.hs σ ≤ CS.hs p23.2 := Mono.go hcp23 (m_X3_move N (CS.setI σ 66 ((σ.i 66) + 1)) (gAt (σ.a 15) 1200 (σ.i 66)) (gAt (σ.a 16) 1200 (σ.i 66)))
    have hr9 : CS.hs p23.2 ≤ CS.hs R.2 := Mono.go hf (mono_some (Nat.le_refl _))
    have hFc := cFree hC hA
    refine va_callv (va_runV (As := [.int (gAt (σ.a 15) 1200 (σ.i 66)), .int (gAt (σ.a 16) 1200 (σ.i 66))]) (rest := []) ⟨hx, hb, hml, hown, hts⟩ (c_X3_move l dC dI Q N (CS.setI σ 66 ((σ.i 66) + 1)) (gAt (σ.a 15) 1200 (σ.i 66)) (gAt (σ.a 16) 1200 (σ.i 66)) p23 hcp23) (cwV 2 hts hX3_instruction_X3_move_v118 rfl rfl rfl (by decide +kernel) ⟨(show 3 + 1 ≤ 6 by omega), (show 8 + (3 + 11) + 60 * 3 ≤ 60 * 6 by omega)⟩) ⟨zPre.blind, va_recv hK hC.1 (ci := 2) (q0 := 7) rfl rfl, cPre_go hZ hK hC⟩ rfl rfl hl.1 rfl (lv_room (Nat.le_of_ble_eq_true rfl)) dX3_instruction_49 (cAcc h0 mo24 hr9)) hC.2.2.1 (fun q _ h => hFc q h) hFc (fun u9 t9 H1 locs ht hvm hw hB hz1 hk1 hS => ?_)
    obtain ⟨⟨hP, hK1, hD1⟩, hsz1⟩ := hB
    rw [ht] at hP hsz1
    have hC : CP dC dI Q A s.heap p23.2 H1 locs := ⟨hP, hD1.weaken (fun _ _ _ h => hFc _ h), hS, hsz1⟩
    generalize H1 = H at hC ⊢
    have h26 : (CS.hs σ) ≤ CS.hs p23.2 := Nat.le_trans h0 mo24
    refine W.widen (k := CS.hs p23.2 - (CS.hs σ)) (n := 17 * (CS.hs p23.2 - (CS.hs σ))) (cAcc2 h0 mo24) (cAcc3 h0 mo24) ?_
    refine lv_goto (tgt := 105) hx hb dX3_instruction_52 (by decide) ?_
    obtain rfl := Option.some.inj hf
    exact W.vret hx hb hr (fun t ht hW => ⟨⟨(), rfl, trivial, ⟨by rw [ht]; exact hC.1, va_K.moved hW.alike hK, hC.2.1⟩, by rw [ht]; exact hC.2.2.2⟩, hC.2.2.1.F ht⟩) hC.2.2.1.2.2 dX3_instruction_105
theorem k_X3_arrive_fieldLink_RX3_75_SR_Machine_way_I : Cond.fieldLink RX3 75 "StatementRules2$Machine" "way" "I" ∈ wzX3_arrive := List.mem_cons_of_mem _ (List.mem_append_left _ (List.mem_of_getElem? (i := 0) rfl))
theorem i_X3_arrive_X3 : ∀ w ∈ wsX30, w ∈ wzX3_arrive := fun _ h => List.mem_cons_of_mem _ (List.mem_append_right _ (List.mem_append_left _ (h)))
theorem k_X3_arrive_fieldLink_RX3_40_SR_Machine_code_LSR_Code : Cond.fieldLink RX3 40 "StatementRules2$Machine" "code" "LStatementRules2$Code;" ∈ wzX3_arrive := List.mem_cons_of_mem _ (List.mem_append_left _ (List.mem_of_getElem? (i := 1) rfl))
theorem i_X3_arrive_X0 : ∀ w ∈ wsX00, w ∈ wzX3_arrive := fun _ h => List.mem_cons_of_mem _ (List.mem_append_right _ (List.mem_append_right _ (List.mem_append_left _ (h))))
theorem k_X3_arrive_fieldLink_RX3_235_SR_Machine_wayTarget_I : Cond.fieldLink RX3 235 "StatementRules2$Machine" "wayTarget" "I" ∈ wzX3_arrive := List.mem_cons_of_mem _ (List.mem_append_left _ (List.mem_of_getElem? (i := 2) rfl))
theorem k_X3_arrive_initialized_RX11 : Cond.initialized RX11 ∈ wzX3_arrive := List.mem_cons_of_mem _ (List.mem_append_left _ (List.mem_of_getElem? (i := 3) rfl))
theorem k_X3_arrive_static_yX11_at : Cond.static yX11_at ∈ wzX3_arrive := List.mem_cons_of_mem _ (List.mem_append_left _ (List.mem_of_getElem? (i := 4) rfl))
theorem k_X3_arrive_fieldLink_RX3_57_SR_Machine_place_I : Cond.fieldLink RX3 57 "StatementRules2$Machine" "place" "I" ∈ wzX3_arrive := List.mem_cons_of_mem _ (List.mem_append_left _ (List.mem_of_getElem? (i := 5) rfl))
theorem k_X3_arrive_fieldLink_RX3_78_SR_Machine_wayValue_I : Cond.fieldLink RX3 78 "StatementRules2$Machine" "wayValue" "I" ∈ wzX3_arrive := List.mem_cons_of_mem _ (List.mem_append_left _ (List.mem_of_getElem? (i := 6) rfl))
theorem k_X3_arrive_fieldLink_RX3_85_SR_Machine_outcome_I : Cond.fieldLink RX3 85 "StatementRules2$Machine" "outcome" "I" ∈ wzX3_arrive := List.mem_cons_of_mem _ (List.mem_append_left _ (List.mem_of_getElem? (i := 7) rfl))
set_option maxHeartbeats 4000000 in
set_option maxRecDepth 100000 in
theorem j_X3_arrive_48 {p : Program} {e : Env} {s : State} {m : MethodId} {args : Array Value} {below : List Frame} {meth : Method} {c : Code} {A : Nat → Prop} (l : Launch) (dC : Nat → ClassId) (dI : Nat → Nat → Nat) (Q : CQ) (N : Nat) (z9h : Nat) (R : Unit × CS) (hx : p.tables.exec = Jvm.exec) (hb : c.code = cX3_arrive) (hr : meth.sig.returnType = none) (hml : c.maxLocals = 1) (hown : s.vm.findClass RX3 = some m.cls) (hts : ∀ w ∈ wzX3_arrive, w.before args s = true) (hlocks : meth.locks = false) (hZ : zAMB s) (hA : ∀ q : Nat, s.heap.size ≤ q → A q) (hK : va_K (dC, dI) vwCl (cT Q) s) : ∀ (σ : CS) (H : Heap) (locs : List Loc) (ls : Array Slot), f_X3_arrive_48 N σ = some R → z9h ≤ CS.hs σ → CP dC dI Q A s.heap σ H locs → lv_has ls 1 [(0, .ref (Q.o 7))] → W p l e ({ frames := 3, cells := CS.hs R.2 - z9h, slots := 17 * (CS.hs R.2 - z9h), locals := 60 * 3 }) s m args below meth c H locs (CS.hs σ - z9h) (17 * (CS.hs σ - z9h)) (MQ below (va_Qv (fun (_ : Unit) => True) (fun (_ : Unit) (t : State) => zPost dC dI A (cW Q R.2) (cT Q) t ∧ t.heap.size = CS.hs R.2) A) args s (CS.hs R.2 - z9h) (17 * (CS.hs R.2 - z9h)) A) (F0 m 48 ls []) := by
  intro σ  H locs ls hf h0 hC hl
  unfold f_X3_arrive_48 at hf
  refine lv_aload_n hx hb dX3_arrive_48 rfl (lv_at hl 0 rfl) ?_
  refine lv_aload_n hx hb dX3_arrive_49 rfl (lv_at hl 0 rfl) ?_
  refine cG_58 hx hb hts i_X3_arrive_X3 hown hK hC (hts (.fieldLink RX3 40 "StatementRules2$Machine" "code" "LStatementRules2$Code;") k_X3_arrive_fieldLink_RX3_40_SR_Machine_code_LSR_Code) (fun _ q9 => q9) dX3_arrive_50 ?_
  refine cGN_17 hx hb hts i_X3_arrive_X0 hown hK hC (va_Nw.use rfl (hZ.1 (.fieldLinkNest RX3 153 "StatementRules2$Code" "targets" "[I" "StatementRules2") (by decide +kernel))) (fun _ q9 => q9) dX3_arrive_53 ?_
  refine lv_aload_n hx hb dX3_arrive_56 rfl (lv_at hl 0 rfl) ?_
  refine cG_75 (v := (σ.i 75)) hx hb hts i_X3_arrive_X3 hown hK hC (hts (.fieldLink RX3 235 "StatementRules2$Machine" "wayTarget" "I") k_X3_arrive_fieldLink_RX3_235_SR_Machine_wayTarget_I) (fun _ q9 => q9) dX3_arrive_57 rfl ?_
  refine lv_bipush (v := 32) hx hb dX3_arrive_60 (by decide) ?_
  refine lv_idiv hx hb dX3_arrive_62 (by decide) ?_
  have he9 := (cArr_17 (Q := Q) (σ := σ))
  have hFc := cFree1 hC hA he9
  have hr9 : CS.hs σ ≤ CS.hs R.2 := Mono.go hf (mono_some (Nat.le_refl _))
  refine va_calli (va_runSN (As := [.ref (Q.q 17), .int ((σ.i 75) / 32)]) (rest := [.ref (Q.o 7)]) ⟨hx, hb, hml, hown, hts⟩ (c_X11_at l dC dI _ (Q.q 17) (Q.c 0) 1024 (σ.a 17) ((σ.i 75) / 32) (by decide)) ⟨va_cnB 2 hts hX3_arrive_X11_at_n111 rfl rfl rfl (hZ.1 (.methodLinkNest RX3 111 yX11_at "StatementRules2") (by decide +kernel)) (hts (.initialized RX11) k_X3_arrive_initialized_RX11) (by decide +kernel) ⟨(show 1 + 1 ≤ 3 by omega), (show 8 + (2 + 11) + 60 * 1 ≤ 60 * 3 by omega)⟩, (hts (.static yX11_at) k_X3_arrive_static_yX11_at), trivial⟩ ⟨zPre.blind, zPre.go hZ (cOne hC.1 he9) (hK.sub (tys' := [(Q.c 0, .int)]) [0] rfl) (cOneD hC.2.1 he9)⟩ rfl rfl hl.1 rfl (lv_room (Nat.le_of_ble_eq_true rfl)) dX3_arrive_63 ⟨cAcc4 h0 hr9, cAcc5 h0 hr9⟩) hC.2.2.1 (fun q _ h => hFc q h) hFc (fun r4 u9 t9 H1 locs ht hvm hw hB hz1 hk1 hS => ?_)
  obtain ⟨⟨hP1, hK1, hD1⟩, hsz1⟩ := hB
  rw [ht] at hP1 hsz1
  have hC := cBack (σ' := σ) hC he9 (cSelf he9) (Eq.refl (CS.hs σ)) hk1 hP1 hsz1 hS
  generalize H1 = H at hC ⊢
  obtain rfl : r4 = (gAt (σ.a 17) 1024 ((σ.i 75) / 32)) := hw
  refine cP_66 (v := (gAt (σ.a 17) 1024 ((σ.i 75) / 32))) hx hb hts i_X3_arrive_X3 hown hK hC (hts (.fieldLink RX3 57 "StatementRules2$Machine" "place" "I") k_X3_arrive_fieldLink_RX3_57_SR_Machine_place_I) (fun _ q9 => q9) dX3_arrive_66 (fun H locs hC => ?_)
  refine lv_aload_n hx hb dX3_arrive_69 rfl (lv_at hl 0 rfl) ?_
  refine lv_iconst (v := 0) hx hb dX3_arrive_70 (by decide) ?_
  refine cP_73 (v := 0) hx hb hts i_X3_arrive_X3 hown hK hC (hts (.fieldLink RX3 75 "StatementRules2$Machine" "way" "I") k_X3_arrive_fieldLink_RX3_75_SR_Machine_way_I) (fun _ q9 => q9) dX3_arrive_71 (fun H locs hC => ?_)
  obtain rfl := Option.some.inj hf
  exact W.vret hx hb hr (fun t ht hW => ⟨⟨(), rfl, trivial, ⟨by rw [ht]; exact hC.1, va_K.moved hW.alike hK, hC.2.1⟩, by rw [ht]; exact hC.2.2.2⟩, hC.2.2.1.F ht⟩) hC.2.2.1.2.2 dX3_arrive_74
set_option maxHeartbeats 4000000 in
set_option maxRecDepth 100000 in
theorem c_X3_arrive (l : Launch) (dC : Nat → ClassId) (dI : Nat → Nat → Nat) (Q : CQ) (N : Nat) (σ : CS) (R : Unit × CS) (hf : f_X3_arrive N σ = some R) : Met l yX3_arrive wzX3_arrive ({ frames := 3, cells := CS.hs R.2 - CS.hs σ, slots := 17 * (CS.hs R.2 - CS.hs σ), locals := 60 * 3 }) (va_Pc [.ref (Q.o 7)] (zPre dC dI (CS.hs σ) (cW Q σ) (cT Q))) (va_Qv (fun (_ : Unit) => True) (fun (_ : Unit) (t : State) => zPost dC dI (va_A (cW Q σ) (CS.hs σ)) (cW Q R.2) (cT Q) t ∧ t.heap.size = CS.hs R.2) (va_A (cW Q σ) (CS.hs σ))) (CS.hs R.2 - CS.hs σ) (17 * (CS.hs R.2 - CS.hs σ)) (va_A (cW Q σ) (CS.hs σ)) := by
  refine Met.ofW (cc := cX3_arrive) (maxL := 1) (ret := none) (by decide) rfl ?_
  intro p e s m args below meth c s₁ B hml hv
  obtain ⟨rfl, hsz, hZ, hP, hK, hD0⟩ := hv
  have hx := B.exec
  have hb := B.bytes
  have hr := B.returns
  have hts := atoms_spec (ws := wzX3_arrive) B.pre
  have hown : s.vm.findClass RX3 = some m.cls := findClass_of_methodNamed B.named
  have hlocks := B.notSynchronized
  have hD := hD0.self (sz := CS.hs σ)
  generalize hAe : va_A (cW Q σ) (CS.hs σ) = A at hD ⊢
  have hA : ∀ q : Nat, s.heap.size ≤ q → A q := fun q h => by rw [← hAe]; exact Or.inr (hsz ▸ h)
  have hC : CP dC dI Q A s.heap σ s.heap [] := ⟨hP, hD, va_S.rf, hsz⟩
  have h0 : CS.hs σ ≤ CS.hs σ := Nat.le_refl _
  have hl := lv_entry ([.ref (Q.o 7)]) (n := 1) (Nat.le_of_ble_eq_true rfl)
  rw [lg_entry_eq]
  generalize (lg_sl ([.ref (Q.o 7)]) ++ List.replicate (1 - (lg_sl ([.ref (Q.o 7)])).length) Slot.unset).toArray = ls at hl ⊢
  have hl : lv_has ls 1 [(0, .ref (Q.o 7))] := hl
  unfold f_X3_arrive at hf
  refine W.widen (k := CS.hs σ - CS.hs σ) (n := 17 * (CS.hs σ - CS.hs σ)) (Nat.zero_le _) (Nat.zero_le _) ?_
  refine lv_aload_n hx hb dX3_arrive_0 rfl (lv_at hl 0 rfl) ?_
  refine cG_73 (v := (σ.i 73)) hx hb hts i_X3_arrive_X3 hown hK hC (hts (.fieldLink RX3 75 "StatementRules2$Machine" "way" "I") k_X3_arrive_fieldLink_RX3_75_SR_Machine_way_I) (fun _ q9 => q9) dX3_arrive_1 rfl ?_
  refine lv_iconst (v := 3) hx hb dX3_arrive_4 (by decide) ?_
  refine lv_icmp_ne (tgt := 16) hx hb dX3_arrive_5 (by decide) (fun c1 => ?_) (fun c1 => ?_)
  ·
    replace hf := (if_neg c1).symm.trans hf
    refine lv_aload_n hx hb dX3_arrive_16 rfl (lv_at hl 0 rfl) ?_
    refine cG_73 (v := (σ.i 73)) hx hb hts i_X3_arrive_X3 hown hK hC (hts (.fieldLink RX3 75 "StatementRules2$Machine" "way" "I") k_X3_arrive_fieldLink_RX3_75_SR_Machine_way_I) (fun _ q9 => q9) dX3_arrive_17 rfl ?_
    refine lv_iconst (v := 4) hx hb dX3_arrive_20 (by decide) ?_
    refine lv_icmp_ne (tgt := 32) hx hb dX3_arrive_21 (by decide) (fun c2 => ?_) (fun c2 => ?_)
    ·
      replace hf := (if_neg c2).symm.trans hf
      refine lv_aload_n hx hb dX3_arrive_32 rfl (lv_at hl 0 rfl) ?_
      refine cG_73 (v := (σ.i 73)) hx hb hts i_X3_arrive_X3 hown hK hC (hts (.fieldLink RX3 75 "StatementRules2$Machine" "way" "I") k_X3_arrive_fieldLink_RX3_75_SR_Machine_way_I) (fun _ q9 => q9) dX3_arrive_33 rfl ?_
      refine lv_iconst (v := 2) hx hb dX3_arrive_36 (by decide) ?_
      refine lv_icmp_ne (tgt := 48) hx hb dX3_arrive_37 (by decide) (fun c3 => ?_) (fun c3 => ?_)
      ·
        replace hf := (if_neg c3).symm.trans hf
        exact j_X3_arrive_48 l dC dI Q N (CS.hs σ) R hx hb hr hml hown hts hlocks hZ hA hK σ _ _ _ hf h0 hC (lv_sub hl [0] rfl)
      ·
        replace hf := (if_pos c3).symm.trans hf
        refine lv_aload_n hx hb dX3_arrive_40 rfl (lv_at hl 0 rfl) ?_
        refine lv_aload_n hx hb dX3_arrive_41 rfl (lv_at hl 0 rfl) ?_
        refine cG_74 (v := (σ.i 74)) hx hb hts i_X3_arrive_X3 hown hK hC (hts (.fieldLink RX3 78 "StatementRules2$Machine" "wayValue" "I") k_X3_arrive_fieldLink_RX3_78_SR_Machine_wayValue_I) (fun _ q9 => q9) dX3_arrive_42 rfl ?_
        obtain ⟨p5, hcp5, hf⟩ := hf_bind hf
        have mo6 : CS.hs σ ≤ CS.hs p5.2 := Mono.go hcp5 (m_X3_push N σ (σ.i 74))
        have hr9 : CS.hs p5.2 ≤ CS.hs R.2 := Mono.go hf (m_X3_arrive_48 N p5.2)
        have hFc := cFree hC hA
        refine va_callv (va_runV (As := [.int (σ.i 74)]) (rest := []) ⟨hx, hb, hml, hown, hts⟩ (c_X3_push l dC dI Q N σ (σ.i 74) p5 hcp5) (cwV 1 hts hX3_arrive_X3_push_v135 rfl rfl rfl (by decide +kernel) ⟨(show 2 + 1 ≤ 3 by omega), (show 8 + (2 + 11) + 60 * 2 ≤ 60 * 3 by omega)⟩) ⟨zPre.blind, va_recv hK hC.1 (ci := 2) (q0 := 7) rfl rfl, cPre_go hZ hK hC⟩ rfl rfl hl.1 rfl (lv_room (Nat.le_of_ble_eq_true rfl)) dX3_arrive_45 (cAcc h0 mo6 hr9)) hC.2.2.1 (fun q _ h => hFc q h) hFc (fun u9 t9 H1 locs ht hvm hw hB hz1 hk1 hS => ?_)
        obtain ⟨⟨hP, hK1, hD1⟩, hsz1⟩ := hB
        rw [ht] at hP hsz1
        have hC : CP dC dI Q A s.heap p5.2 H1 locs := ⟨hP, hD1.weaken (fun _ _ _ h => hFc _ h), hS, hsz1⟩
        generalize H1 = H at hC ⊢
        have h8 : (CS.hs σ) ≤ CS.hs p5.2 := Nat.le_trans h0 mo6
        refine W.widen (k := CS.hs p5.2 - (CS.hs σ)) (n := 17 * (CS.hs p5.2 - (CS.hs σ))) (cAcc2 h0 mo6) (cAcc3 h0 mo6) ?_
        exact j_X3_arrive_48 l dC dI Q N (CS.hs σ) R hx hb hr hml hown hts hlocks hZ hA hK p5.2 _ _ _ hf h8 hC (lv_sub hl [0] rfl)
    ·
      replace hf := (if_pos c2).symm.trans hf
      refine lv_aload_n hx hb dX3_arrive_24 rfl (lv_at hl 0 rfl) ?_
      refine lv_iconst (v := 2) hx hb dX3_arrive_25 (by decide) ?_
      refine cP_72 (v := 2) hx hb hts i_X3_arrive_X3 hown hK hC (hts (.fieldLink RX3 85 "StatementRules2$Machine" "outcome" "I") k_X3_arrive_fieldLink_RX3_85_SR_Machine_outcome_I) (fun _ q9 => q9) dX3_arrive_26 (fun H locs hC => ?_)
      refine lv_goto (tgt := 74) hx hb dX3_arrive_29 (by decide) ?_
      obtain rfl := Option.some.inj hf
      exact W.vret hx hb hr (fun t ht hW => ⟨⟨(), rfl, trivial, ⟨by rw [ht]; exact hC.1, va_K.moved hW.alike hK, hC.2.1⟩, by rw [ht]; exact hC.2.2.2⟩, hC.2.2.1.F ht⟩) hC.2.2.1.2.2 dX3_arrive_74
  ·
    replace hf := (if_pos c1).symm.trans hf
    refine lv_aload_n hx hb dX3_arrive_8 rfl (lv_at hl 0 rfl) ?_
    refine lv_iconst (v := 1) hx hb dX3_arrive_9 (by decide) ?_
    refine cP_72 (v := 1) hx hb hts i_X3_arrive_X3 hown hK hC (hts (.fieldLink RX3 85 "StatementRules2$Machine" "outcome" "I") k_X3_arrive_fieldLink_RX3_85_SR_Machine_outcome_I) (fun _ q9 => q9) dX3_arrive_10 (fun H locs hC => ?_)
    refine lv_goto (tgt := 74) hx hb dX3_arrive_13 (by decide) ?_
    obtain rfl := Option.some.inj hf
    exact W.vret hx hb hr (fun t ht hW => ⟨⟨(), rfl, trivial, ⟨by rw [ht]; exact hC.1, va_K.moved hW.alike hK, hC.2.1⟩, by rw [ht]; exact hC.2.2.2⟩, hC.2.2.1.F ht⟩) hC.2.2.1.2.2 dX3_arrive_74
theorem k_X8_suppress_fieldLink_RX8_18_SR_Thrown_count_I : Cond.fieldLink RX8 18 "StatementRules2$Thrown" "count" "I" ∈ wzX8_suppress := List.mem_cons_of_mem _ (List.mem_append_left _ (List.mem_of_getElem? (i := 0) rfl))
theorem i_X8_suppress_X8 : ∀ w ∈ wsX80, w ∈ wzX8_suppress := fun _ h => List.mem_cons_of_mem _ (List.mem_append_right _ (List.mem_append_left _ (h)))
theorem k_X8_suppress_fieldLink_RX8_9_SR_Thrown_kinds_I : Cond.fieldLink RX8 9 "StatementRules2$Thrown" "kinds" "[I" ∈ wzX8_suppress := List.mem_cons_of_mem _ (List.mem_append_left _ (List.mem_of_getElem? (i := 1) rfl))
theorem k_X8_suppress_initialized_RX11 : Cond.initialized RX11 ∈ wzX8_suppress := List.mem_cons_of_mem _ (List.mem_append_left _ (List.mem_of_getElem? (i := 2) rfl))
theorem k_X8_suppress_static_yX11_put : Cond.static yX11_put ∈ wzX8_suppress := List.mem_cons_of_mem _ (List.mem_append_left _ (List.mem_of_getElem? (i := 3) rfl))
theorem k_X8_suppress_fieldLink_RX8_15_SR_Thrown_numbers_I : Cond.fieldLink RX8 15 "StatementRules2$Thrown" "numbers" "[I" ∈ wzX8_suppress := List.mem_cons_of_mem _ (List.mem_append_left _ (List.mem_of_getElem? (i := 4) rfl))
set_option maxHeartbeats 4000000 in
set_option maxRecDepth 100000 in
theorem c_X8_suppress (l : Launch) (dC : Nat → ClassId) (dI : Nat → Nat → Nat) (Q : CQ) (N : Nat) (σ : CS) (x0 : Nat) (x1 : Int32) (x2 : Int32) (R : Unit × CS) (hf : f_X8_suppress N σ x0 x1 x2 = some R) : Met l yX8_suppress wzX8_suppress ({ frames := 2, cells := CS.hs R.2 - CS.hs σ, slots := 17 * (CS.hs R.2 - CS.hs σ), locals := 60 * 2 }) (va_Pc [.ref x0, .int x1, .int x2] (zPre dC dI (CS.hs σ) (cW Q σ) (cT Q))) (va_Qv (fun (_ : Unit) => True) (fun (_ : Unit) (t : State) => zPost dC dI (va_A (cW Q σ) (CS.hs σ)) (cW Q R.2) (cT Q) t ∧ t.heap.size = CS.hs R.2) (va_A (cW Q σ) (CS.hs σ))) (CS.hs R.2 - CS.hs σ) (17 * (CS.hs R.2 - CS.hs σ)) (va_A (cW Q σ) (CS.hs σ)) := by
  refine Met.ofW (cc := cX8_suppress) (maxL := 3) (ret := none) (by decide) rfl ?_
  intro p e s m args below meth c s₁ B hml hv
  obtain ⟨rfl, hsz, hZ, hP, hK, hD0⟩ := hv
  have hx := B.exec
  have hb := B.bytes
  have hr := B.returns
  have hts := atoms_spec (ws := wzX8_suppress) B.pre
  have hown : s.vm.findClass RX8 = some m.cls := findClass_of_methodNamed B.named
  have hlocks := B.notSynchronized
  have hD := hD0.self (sz := CS.hs σ)
  generalize hAe : va_A (cW Q σ) (CS.hs σ) = A at hD ⊢
  have hA : ∀ q : Nat, s.heap.size ≤ q → A q := fun q h => by rw [← hAe]; exact Or.inr (hsz ▸ h)
  have hC : CP dC dI Q A s.heap σ s.heap [] := ⟨hP, hD, va_S.rf, hsz⟩
  have h0 : CS.hs σ ≤ CS.hs σ := Nat.le_refl _
  have hl := lv_entry ([.ref x0, .int x1, .int x2]) (n := 3) (Nat.le_of_ble_eq_true rfl)
  rw [lg_entry_eq]
  generalize (lg_sl ([.ref x0, .int x1, .int x2]) ++ List.replicate (3 - (lg_sl ([.ref x0, .int x1, .int x2])).length) Slot.unset).toArray = ls at hl ⊢
  have hl : lv_has ls 3 [(0, .ref x0), (1, .int x1), (2, .int x2)] := hl
  unfold f_X8_suppress at hf
  refine W.widen (k := CS.hs σ - CS.hs σ) (n := 17 * (CS.hs σ - CS.hs σ)) (Nat.zero_le _) (Nat.zero_le _) ?_
  refine lv_aload_n hx hb dX8_suppress_0 rfl (lv_at hl 0 rfl) ?_
  obtain ⟨b1, hf⟩ := hf_ite hf
  refine pG_X8_4 (v := (CS.o σ x0 4)) hx hb hts i_X8_suppress_X8 hown hK hC (hts (.fieldLink RX8 18 "StatementRules2$Thrown" "count" "I") k_X8_suppress_fieldLink_RX8_18_SR_Thrown_count_I) (fun _ q9 => q9) dX8_suppress_1 b1 rfl ?_
  refine lv_bipush (v := 8) hx hb dX8_suppress_4 (by decide) ?_
  refine lv_icmp_ge (tgt := 43) hx hb dX8_suppress_6 (by decide) (fun c2 => ?_) (fun c2 => ?_)
  ·
    replace hf := (if_pos c2).symm.trans hf
    obtain rfl := Option.some.inj hf
    exact W.vret hx hb hr (fun t ht hW => ⟨⟨(), rfl, trivial, ⟨by rw [ht]; exact hC.1, va_K.moved hW.alike hK, hC.2.1⟩, by rw [ht]; exact hC.2.2.2⟩, hC.2.2.1.F ht⟩) hC.2.2.1.2.2 dX8_suppress_43
  ·
    replace hf := (if_neg c2).symm.trans hf
    refine lv_aload_n hx hb dX8_suppress_9 rfl (lv_at hl 0 rfl) ?_
    refine pG_X8_0 hx hb hts i_X8_suppress_X8 hown hK hC (hts (.fieldLink RX8 9 "StatementRules2$Thrown" "kinds" "[I") k_X8_suppress_fieldLink_RX8_9_SR_Thrown_kinds_I) (fun _ q9 => q9) dX8_suppress_10 b1 ?_
    refine lv_aload_n hx hb dX8_suppress_13 rfl (lv_at hl 0 rfl) ?_
    refine pG_X8_4 (v := (CS.o σ x0 4)) hx hb hts i_X8_suppress_X8 hown hK hC (hts (.fieldLink RX8 18 "StatementRules2$Thrown" "count" "I") k_X8_suppress_fieldLink_RX8_18_SR_Thrown_count_I) (fun _ q9 => q9) dX8_suppress_14 b1 rfl ?_
    refine lv_iload_n hx hb dX8_suppress_17 rfl (lv_at hl 1 rfl) ?_
    obtain ⟨b3, hf⟩ := hf_ite hf
    obtain ⟨k4, hk4⟩ := cPl (Q := Q) (s := σ) (a := (x0 + 1)) b3.1
    have hqk4 := hk4
    rw [cE3 (show CS.k σ (x0 + 1) = 3 from b3.2)] at hk4
    have he9 := hk4
    have hFc := cFree1 hC hA he9
    have hr9 : CS.hs σ ≤ CS.hs R.2 := Mono.go hf (mono_ite (mono_some (Nat.le_refl _)) mono_none)
    refine va_callv (va_runSN (As := [.ref (x0 + 1), .int (CS.o σ x0 4), .int x1]) (rest := []) ⟨hx, hb, hml, hown, hts⟩ (c_X11_put l dC dI _ (x0 + 1) (Q.c 0) 8 (CS.oa σ (x0 + 1)) (CS.o σ x0 4) x1 (by decide)) ⟨va_cnB 3 hts hX8_suppress_X11_put_n22 rfl rfl rfl (hZ.1 (.methodLinkNest RX8 22 yX11_put "StatementRules2") (by decide +kernel)) (hts (.initialized RX11) k_X8_suppress_initialized_RX11) (by decide +kernel) ⟨(show 1 + 1 ≤ 2 by omega), (show 8 + (3 + 11) + 60 * 1 ≤ 60 * 2 by omega)⟩, (hts (.static yX11_put) k_X8_suppress_static_yX11_put), trivial⟩ ⟨zPre.blind, zPre.go hZ (cOne hC.1 he9) (hK.sub (tys' := [(Q.c 0, .int)]) [0] rfl) (cOneD hC.2.1 he9)⟩ rfl rfl hl.1 rfl (lv_room (Nat.le_of_ble_eq_true rfl)) dX8_suppress_18 ⟨cAcc4 h0 hr9, cAcc5 h0 hr9⟩) hC.2.2.1 (fun q _ h => hFc q h) hFc (fun u9 t9 H1 locs ht hvm hw hB hz1 hk1 hS => ?_)
    obtain ⟨⟨hP1, hK1, hD1⟩, hsz1⟩ := hB
    rw [ht] at hP1 hsz1
    have hC := cBack (σ' := CS.putOA σ (x0 + 1) (gPut (CS.oa σ (x0 + 1)) 8 (CS.o σ x0 4) x1)) hC he9 (cPutF hC.2.1 (x := (x0 + 1)) b3 hqk4) (cPutOA_h _ _ _) hk1 hP1 hsz1 hS
    generalize H1 = H at hC ⊢
    refine lv_aload_n hx hb dX8_suppress_21 rfl (lv_at hl 0 rfl) ?_
    refine pG_X8_1 hx hb hts i_X8_suppress_X8 hown hK hC (hts (.fieldLink RX8 15 "StatementRules2$Thrown" "numbers" "[I") k_X8_suppress_fieldLink_RX8_15_SR_Thrown_numbers_I) (fun _ q9 => q9) dX8_suppress_22 b1 ?_
    refine lv_aload_n hx hb dX8_suppress_25 rfl (lv_at hl 0 rfl) ?_
    refine pG_X8_4 (v := (CS.o (CS.putOA σ (x0 + 1) (gPut (CS.oa σ (x0 + 1)) 8 (CS.o σ x0 4) x1)) x0 4)) hx hb hts i_X8_suppress_X8 hown hK hC (hts (.fieldLink RX8 18 "StatementRules2$Thrown" "count" "I") k_X8_suppress_fieldLink_RX8_18_SR_Thrown_count_I) (fun _ q9 => q9) dX8_suppress_26 b1 rfl ?_
    refine lv_iload_n hx hb dX8_suppress_29 rfl (lv_at hl 2 rfl) ?_
    obtain ⟨b5, hf⟩ := hf_ite hf
    obtain ⟨k6, hk6⟩ := cPl (Q := Q) (s := CS.putOA σ (x0 + 1) (gPut (CS.oa σ (x0 + 1)) 8 (CS.o σ x0 4) x1)) (a := (x0 + 2)) b5.1
    have hqk6 := hk6
    rw [cE3 (show CS.k (CS.putOA σ (x0 + 1) (gPut (CS.oa σ (x0 + 1)) 8 (CS.o σ x0 4) x1)) (x0 + 2) = 3 from b5.2)] at hk6
    have he9 := hk6
    have hFc := cFree1 hC hA he9
    have hr9 : CS.hs σ ≤ CS.hs R.2 := Mono.go hf (mono_some (Nat.le_refl _))
    refine va_callv (va_runSN (As := [.ref (x0 + 2), .int (CS.o (CS.putOA σ (x0 + 1) (gPut (CS.oa σ (x0 + 1)) 8 (CS.o σ x0 4) x1)) x0 4), .int x2]) (rest := []) ⟨hx, hb, hml, hown, hts⟩ (c_X11_put l dC dI _ (x0 + 2) (Q.c 0) 8 (CS.oa (CS.putOA σ (x0 + 1) (gPut (CS.oa σ (x0 + 1)) 8 (CS.o σ x0 4) x1)) (x0 + 2)) (CS.o (CS.putOA σ (x0 + 1) (gPut (CS.oa σ (x0 + 1)) 8 (CS.o σ x0 4) x1)) x0 4) x2 (by decide)) ⟨va_cnB 3 hts hX8_suppress_X11_put_n22 rfl rfl rfl (hZ.1 (.methodLinkNest RX8 22 yX11_put "StatementRules2") (by decide +kernel)) (hts (.initialized RX11) k_X8_suppress_initialized_RX11) (by decide +kernel) ⟨(show 1 + 1 ≤ 2 by omega), (show 8 + (3 + 11) + 60 * 1 ≤ 60 * 2 by omega)⟩, (hts (.static yX11_put) k_X8_suppress_static_yX11_put), trivial⟩ ⟨zPre.blind, zPre.go hZ (cOne hC.1 he9) (hK.sub (tys' := [(Q.c 0, .int)]) [0] rfl) (cOneD hC.2.1 he9)⟩ rfl rfl hl.1 rfl (lv_room (Nat.le_of_ble_eq_true rfl)) dX8_suppress_30 ⟨cAcc4 h0 hr9, cAcc5 h0 hr9⟩) hC.2.2.1 (fun q _ h => hFc q h) hFc (fun u9 t9 H1 locs ht hvm hw hB hz1 hk1 hS => ?_)
    obtain ⟨⟨hP1, hK1, hD1⟩, hsz1⟩ := hB
    rw [ht] at hP1 hsz1
    have hC := cBack (σ' := CS.putOA (CS.putOA σ (x0 + 1) (gPut (CS.oa σ (x0 + 1)) 8 (CS.o σ x0 4) x1)) (x0 + 2) (gPut (CS.oa (CS.putOA σ (x0 + 1) (gPut (CS.oa σ (x0 + 1)) 8 (CS.o σ x0 4) x1)) (x0 + 2)) 8 (CS.o (CS.putOA σ (x0 + 1) (gPut (CS.oa σ (x0 + 1)) 8 (CS.o σ x0 4) x1)) x0 4) x2)) hC he9 (cPutF hC.2.1 (x := (x0 + 2)) b5 hqk6) (cPutOA_h _ _ _) hk1 hP1 hsz1 hS
    generalize H1 = H at hC ⊢
    refine lv_aload_n hx hb dX8_suppress_33 rfl (lv_at hl 0 rfl) ?_
    refine lv_dup hx hb dX8_suppress_34 rfl ?_
    refine pG_X8_4 (v := (CS.o (CS.putOA (CS.putOA σ (x0 + 1) (gPut (CS.oa σ (x0 + 1)) 8 (CS.o σ x0 4) x1)) (x0 + 2) (gPut (CS.oa (CS.putOA σ (x0 + 1) (gPut (CS.oa σ (x0 + 1)) 8 (CS.o σ x0 4) x1)) (x0 + 2)) 8 (CS.o (CS.putOA σ (x0 + 1) (gPut (CS.oa σ (x0 + 1)) 8 (CS.o σ x0 4) x1)) x0 4) x2)) x0 4)) hx hb hts i_X8_suppress_X8 hown hK hC (hts (.fieldLink RX8 18 "StatementRules2$Thrown" "count" "I") k_X8_suppress_fieldLink_RX8_18_SR_Thrown_count_I) (fun _ q9 => q9) dX8_suppress_35 b1 rfl ?_
    refine lv_iconst (v := 1) hx hb dX8_suppress_38 (by decide) ?_
    refine lv_iadd hx hb dX8_suppress_39 ?_
    refine pP_X8_4 (v := ((CS.o (CS.putOA (CS.putOA σ (x0 + 1) (gPut (CS.oa σ (x0 + 1)) 8 (CS.o σ x0 4) x1)) (x0 + 2) (gPut (CS.oa (CS.putOA σ (x0 + 1) (gPut (CS.oa σ (x0 + 1)) 8 (CS.o σ x0 4) x1)) (x0 + 2)) 8 (CS.o (CS.putOA σ (x0 + 1) (gPut (CS.oa σ (x0 + 1)) 8 (CS.o σ x0 4) x1)) x0 4) x2)) x0 4) + 1)) hx hb hts i_X8_suppress_X8 hown hK hC (hts (.fieldLink RX8 18 "StatementRules2$Thrown" "count" "I") k_X8_suppress_fieldLink_RX8_18_SR_Thrown_count_I) (fun _ q9 => q9) dX8_suppress_40 b1 (fun H locs hC => ?_)
    obtain rfl := Option.some.inj hf
    exact W.vret hx hb hr (fun t ht hW => ⟨⟨(), rfl, trivial, ⟨by rw [ht]; exact hC.1, va_K.moved hW.alike hK, hC.2.1⟩, by rw [ht]; exact hC.2.2.2⟩, hC.2.2.1.F ht⟩) hC.2.2.1.2.2 dX8_suppress_43
theorem k_X3_closeOne_fieldLink_RX3_36_SR_Machine_told_LSR_Told : Cond.fieldLink RX3 36 "StatementRules2$Machine" "told" "LStatementRules2$Told;" ∈ wzX3_closeOne := List.mem_cons_of_mem _ (List.mem_append_left _ (List.mem_of_getElem? (i := 0) rfl))
theorem i_X3_closeOne_X3 : ∀ w ∈ wsX30, w ∈ wzX3_closeOne := fun _ h => List.mem_cons_of_mem _ (List.mem_append_right _ (List.mem_append_left _ (h)))
theorem i_X3_closeOne_X10 : ∀ w ∈ wsX100, w ∈ wzX3_closeOne := fun _ h => List.mem_cons_of_mem _ (List.mem_append_right _ (List.mem_append_right _ (List.mem_append_left _ (h))))
theorem k_X3_closeOne_initialized_RX11 : Cond.initialized RX11 ∈ wzX3_closeOne := List.mem_cons_of_mem _ (List.mem_append_left _ (List.mem_of_getElem? (i := 1) rfl))
theorem k_X3_closeOne_static_yX11_at : Cond.static yX11_at ∈ wzX3_closeOne := List.mem_cons_of_mem _ (List.mem_append_left _ (List.mem_of_getElem? (i := 2) rfl))
theorem k_X3_closeOne_fieldLink_RX3_75_SR_Machine_way_I : Cond.fieldLink RX3 75 "StatementRules2$Machine" "way" "I" ∈ wzX3_closeOne := List.mem_cons_of_mem _ (List.mem_append_left _ (List.mem_of_getElem? (i := 3) rfl))
theorem k_X3_closeOne_fieldLink_RX3_81_SR_Machine_wayThrown_LSR_Thrown : Cond.fieldLink RX3 81 "StatementRules2$Machine" "wayThrown" "LStatementRules2$Thrown;" ∈ wzX3_closeOne := List.mem_cons_of_mem _ (List.mem_append_left _ (List.mem_of_getElem? (i := 4) rfl))
set_option maxHeartbeats 4000000 in
set_option maxRecDepth 100000 in
theorem j_X3_closeOne_50 {p : Program} {e : Env} {s : State} {m : MethodId} {args : Array Value} {below : List Frame} {meth : Method} {c : Code} {A : Nat → Prop} (l : Launch) (dC : Nat → ClassId) (dI : Nat → Nat → Nat) (Q : CQ) (N : Nat) (z9h : Nat) (R : Unit × CS) (hx : p.tables.exec = Jvm.exec) (hb : c.code = cX3_closeOne) (hr : meth.sig.returnType = none) (hml : c.maxLocals = 3) (hown : s.vm.findClass RX3 = some m.cls) (hts : ∀ w ∈ wzX3_closeOne, w.before args s = true) (hlocks : meth.locks = false) (hZ : zAMB s) (hA : ∀ q : Nat, s.heap.size ≤ q → A q) (hK : va_K (dC, dI) vwCl (cT Q) s) : ∀ (σ : CS) (x1 : Int32) (x2 : Int32) (H : Heap) (locs : List Loc) (ls : Array Slot), f_X3_closeOne_50 N σ x1 x2 = some R → z9h ≤ CS.hs σ → CP dC dI Q A s.heap σ H locs → lv_has ls 3 [(0, .ref (Q.o 7)), (1, .int x1), (2, .int x2)] → W p l e ({ frames := 4, cells := CS.hs R.2 - z9h, slots := 17 * (CS.hs R.2 - z9h), locals := 60 * 4 }) s m args below meth c H locs (CS.hs σ - z9h) (17 * (CS.hs σ - z9h)) (MQ below (va_Qv (fun (_ : Unit) => True) (fun (_ : Unit) (t : State) => zPost dC dI A (cW Q R.2) (cT Q) t ∧ t.heap.size = CS.hs R.2) A) args s (CS.hs R.2 - z9h) (17 * (CS.hs R.2 - z9h)) A) (F0 m 50 ls []) := by
  intro σ x1 x2 H locs ls hf h0 hC hl
  unfold f_X3_closeOne_50 at hf
  refine lv_aload_n hx hb dX3_closeOne_50 rfl (lv_at hl 0 rfl) ?_
  refine lv_iload_n hx hb dX3_closeOne_51 rfl (lv_at hl 2 rfl) ?_
  refine lv_iload_n hx hb dX3_closeOne_52 rfl (lv_at hl 1 rfl) ?_
  obtain ⟨p8, hcp8, hf⟩ := hf_bind hf
  have mo9 : CS.hs σ ≤ CS.hs p8.2 := Mono.go hcp8 (m_X3_raise N σ x2 x1)
  have hr9 : CS.hs p8.2 ≤ CS.hs R.2 := Mono.go hf (mono_some (Nat.le_refl _))
  have hFc := cFree hC hA
  refine va_callv (va_runV (As := [.int x2, .int x1]) (rest := []) ⟨hx, hb, hml, hown, hts⟩ (c_X3_raise l dC dI Q N σ x2 x1 p8 hcp8) (cwV 2 hts hX3_closeOne_X3_raise_v150 rfl rfl rfl (by decide +kernel) ⟨(show 3 + 1 ≤ 4 by omega), (show 8 + (3 + 11) + 60 * 3 ≤ 60 * 4 by omega)⟩) ⟨zPre.blind, va_recv hK hC.1 (ci := 2) (q0 := 7) rfl rfl, cPre_go hZ hK hC⟩ rfl rfl hl.1 rfl (lv_room (Nat.le_of_ble_eq_true rfl)) dX3_closeOne_53 (cAcc h0 mo9 hr9)) hC.2.2.1 (fun q _ h => hFc q h) hFc (fun u9 t9 H1 locs ht hvm hw hB hz1 hk1 hS => ?_)
  obtain ⟨⟨hP, hK1, hD1⟩, hsz1⟩ := hB
  rw [ht] at hP hsz1
  have hC : CP dC dI Q A s.heap p8.2 H1 locs := ⟨hP, hD1.weaken (fun _ _ _ h => hFc _ h), hS, hsz1⟩
  generalize H1 = H at hC ⊢
  have h11 : z9h ≤ CS.hs p8.2 := Nat.le_trans h0 mo9
  refine W.widen (k := CS.hs p8.2 - z9h) (n := 17 * (CS.hs p8.2 - z9h)) (cAcc2 h0 mo9) (cAcc3 h0 mo9) ?_
  obtain rfl := Option.some.inj hf
  exact W.vret hx hb hr (fun t ht hW => ⟨⟨(), rfl, trivial, ⟨by rw [ht]; exact hC.1, va_K.moved hW.alike hK, hC.2.1⟩, by rw [ht]; exact hC.2.2.2⟩, hC.2.2.1.F ht⟩) hC.2.2.1.2.2 dX3_closeOne_56
set_option maxHeartbeats 4000000 in
set_option maxRecDepth 100000 in
theorem c_X3_closeOne (l : Launch) (dC : Nat → ClassId) (dI : Nat → Nat → Nat) (Q : CQ) (N : Nat) (σ : CS) (x1 : Int32) (R : Unit × CS) (hf : f_X3_closeOne N σ x1 = some R) : Met l yX3_closeOne wzX3_closeOne ({ frames := 4, cells := CS.hs R.2 - CS.hs σ, slots := 17 * (CS.hs R.2 - CS.hs σ), locals := 60 * 4 }) (va_Pc [.ref (Q.o 7), .int x1] (zPre dC dI (CS.hs σ) (cW Q σ) (cT Q))) (va_Qv (fun (_ : Unit) => True) (fun (_ : Unit) (t : State) => zPost dC dI (va_A (cW Q σ) (CS.hs σ)) (cW Q R.2) (cT Q) t ∧ t.heap.size = CS.hs R.2) (va_A (cW Q σ) (CS.hs σ))) (CS.hs R.2 - CS.hs σ) (17 * (CS.hs R.2 - CS.hs σ)) (va_A (cW Q σ) (CS.hs σ)) := by
  refine Met.ofW (cc := cX3_closeOne) (maxL := 3) (ret := none) (by decide) rfl ?_
  intro p e s m args below meth c s₁ B hml hv
  obtain ⟨rfl, hsz, hZ, hP, hK, hD0⟩ := hv
  have hx := B.exec
  have hb := B.bytes
  have hr := B.returns
  have hts := atoms_spec (ws := wzX3_closeOne) B.pre
  have hown : s.vm.findClass RX3 = some m.cls := findClass_of_methodNamed B.named
  have hlocks := B.notSynchronized
  have hD := hD0.self (sz := CS.hs σ)
  generalize hAe : va_A (cW Q σ) (CS.hs σ) = A at hD ⊢
  have hA : ∀ q : Nat, s.heap.size ≤ q → A q := fun q h => by rw [← hAe]; exact Or.inr (hsz ▸ h)
  have hC : CP dC dI Q A s.heap σ s.heap [] := ⟨hP, hD, va_S.rf, hsz⟩
  have h0 : CS.hs σ ≤ CS.hs σ := Nat.le_refl _
  have hl := lv_entry ([.ref (Q.o 7), .int x1]) (n := 3) (Nat.le_of_ble_eq_true rfl)
  rw [lg_entry_eq]
  generalize (lg_sl ([.ref (Q.o 7), .int x1]) ++ List.replicate (3 - (lg_sl ([.ref (Q.o 7), .int x1])).length) Slot.unset).toArray = ls at hl ⊢
  have hl : lv_has ls 3 [(0, .ref (Q.o 7)), (1, .int x1)] := hl
  unfold f_X3_closeOne at hf
  refine W.widen (k := CS.hs σ - CS.hs σ) (n := 17 * (CS.hs σ - CS.hs σ)) (Nat.zero_le _) (Nat.zero_le _) ?_
  refine lv_aload_n hx hb dX3_closeOne_0 rfl (lv_at hl 0 rfl) ?_
  refine cG_57 hx hb hts i_X3_closeOne_X3 hown hK hC (hts (.fieldLink RX3 36 "StatementRules2$Machine" "told" "LStatementRules2$Told;") k_X3_closeOne_fieldLink_RX3_36_SR_Machine_told_LSR_Told) (fun _ q9 => q9) dX3_closeOne_1 ?_
  refine cGN_12 hx hb hts i_X3_closeOne_X10 hown hK hC (va_Nw.use rfl (hZ.1 (.fieldLinkNest RX3 265 "StatementRules2$Told" "closing" "[I" "StatementRules2") (by decide +kernel))) (fun _ q9 => q9) dX3_closeOne_4 ?_
  refine lv_iload_n hx hb dX3_closeOne_7 rfl (lv_at hl 1 rfl) ?_
  have he9 := (cArr_12 (Q := Q) (σ := σ))
  have hFc := cFree1 hC hA he9
  have hr9 : CS.hs σ ≤ CS.hs R.2 := Mono.go hf (mono_bind (m_X3_note N σ 2 x1) (fun p2 => (mono_ite (mono_ite (mono_oc (m_X3_closeOne_50 N p2.2 x1 (gAt (σ.a 12) 8 x1)) (fun a13 => (mono_oc mono_none (fun a15 => (mono_ite (mono_bind (m_X8_suppress N p2.2 a15 (gAt (σ.a 12) 8 x1) x1) (fun p18 => (mono_some (Nat.le_refl _)))) mono_none))))) (m_X3_closeOne_50 N p2.2 x1 (gAt (σ.a 12) 8 x1))) (mono_some (Nat.le_refl _)))))
  refine va_calli (va_runSN (As := [.ref (Q.q 12), .int x1]) (rest := []) ⟨hx, hb, hml, hown, hts⟩ (c_X11_at l dC dI _ (Q.q 12) (Q.c 0) 8 (σ.a 12) x1 (by decide)) ⟨va_cnB 2 hts hX3_closeOne_X11_at_n111 rfl rfl rfl (hZ.1 (.methodLinkNest RX3 111 yX11_at "StatementRules2") (by decide +kernel)) (hts (.initialized RX11) k_X3_closeOne_initialized_RX11) (by decide +kernel) ⟨(show 1 + 1 ≤ 4 by omega), (show 8 + (2 + 11) + 60 * 1 ≤ 60 * 4 by omega)⟩, (hts (.static yX11_at) k_X3_closeOne_static_yX11_at), trivial⟩ ⟨zPre.blind, zPre.go hZ (cOne hC.1 he9) (hK.sub (tys' := [(Q.c 0, .int)]) [0] rfl) (cOneD hC.2.1 he9)⟩ rfl rfl hl.1 rfl (lv_room (Nat.le_of_ble_eq_true rfl)) dX3_closeOne_8 ⟨cAcc4 h0 hr9, cAcc5 h0 hr9⟩) hC.2.2.1 (fun q _ h => hFc q h) hFc (fun r1 u9 t9 H1 locs ht hvm hw hB hz1 hk1 hS => ?_)
  obtain ⟨⟨hP1, hK1, hD1⟩, hsz1⟩ := hB
  rw [ht] at hP1 hsz1
  have hC := cBack (σ' := σ) hC he9 (cSelf he9) (Eq.refl (CS.hs σ)) hk1 hP1 hsz1 hS
  generalize H1 = H at hC ⊢
  obtain rfl : r1 = (gAt (σ.a 12) 8 x1) := hw
  refine lv_istore_n (lv' := [(2, .int (gAt (σ.a 12) 8 x1)), (0, .ref (Q.o 7)), (1, .int x1)]) hx hb dX3_closeOne_11 rfl hl (by decide) rfl (fun ls hl => ?_)
  refine lv_aload_n hx hb dX3_closeOne_12 rfl (lv_at hl 1 rfl) ?_
  refine lv_iconst (v := 2) hx hb dX3_closeOne_13 (by decide) ?_
  refine lv_iload_n hx hb dX3_closeOne_14 rfl (lv_at hl 2 rfl) ?_
  obtain ⟨p2, hcp2, hf⟩ := hf_bind hf
  have mo3 : CS.hs σ ≤ CS.hs p2.2 := Mono.go hcp2 (m_X3_note N σ 2 x1)
  have hr9 : CS.hs p2.2 ≤ CS.hs R.2 := Mono.go hf (mono_ite (mono_ite (mono_oc (m_X3_closeOne_50 N p2.2 x1 (gAt (σ.a 12) 8 x1)) (fun a13 => (mono_oc mono_none (fun a15 => (mono_ite (mono_bind (m_X8_suppress N p2.2 a15 (gAt (σ.a 12) 8 x1) x1) (fun p18 => (mono_some (Nat.le_refl _)))) mono_none))))) (m_X3_closeOne_50 N p2.2 x1 (gAt (σ.a 12) 8 x1))) (mono_some (Nat.le_refl _)))
  have hFc := cFree hC hA
  refine va_callv (va_runV (As := [.int 2, .int x1]) (rest := []) ⟨hx, hb, hml, hown, hts⟩ (c_X3_note l dC dI Q N σ 2 x1 p2 hcp2) (cwV 2 hts hX3_closeOne_X3_note_v178 rfl rfl rfl (by decide +kernel) ⟨(show 2 + 1 ≤ 4 by omega), (show 8 + (3 + 11) + 60 * 2 ≤ 60 * 4 by omega)⟩) ⟨zPre.blind, va_recv hK hC.1 (ci := 2) (q0 := 7) rfl rfl, cPre_go hZ hK hC⟩ rfl rfl hl.1 rfl (lv_room (Nat.le_of_ble_eq_true rfl)) dX3_closeOne_15 (cAcc h0 mo3 hr9)) hC.2.2.1 (fun q _ h => hFc q h) hFc (fun u9 t9 H1 locs ht hvm hw hB hz1 hk1 hS => ?_)
  obtain ⟨⟨hP, hK1, hD1⟩, hsz1⟩ := hB
  rw [ht] at hP hsz1
  have hC : CP dC dI Q A s.heap p2.2 H1 locs := ⟨hP, hD1.weaken (fun _ _ _ h => hFc _ h), hS, hsz1⟩
  generalize H1 = H at hC ⊢
  have h5 : (CS.hs σ) ≤ CS.hs p2.2 := Nat.le_trans h0 mo3
  refine W.widen (k := CS.hs p2.2 - (CS.hs σ)) (n := 17 * (CS.hs p2.2 - (CS.hs σ))) (cAcc2 h0 mo3) (cAcc3 h0 mo3) ?_
  refine lv_iload_n hx hb dX3_closeOne_18 rfl (lv_at hl 0 rfl) ?_
  refine lv_if_ge (tgt := 23) hx hb dX3_closeOne_19 (by decide) (fun c6 => ?_) (fun c6 => ?_)
  ·
    replace hf := (if_pos c6).symm.trans hf
    refine lv_aload_n hx hb dX3_closeOne_23 rfl (lv_at hl 1 rfl) ?_
    refine cG_73 (v := (p2.2.i 73)) hx hb hts i_X3_closeOne_X3 hown hK hC (hts (.fieldLink RX3 75 "StatementRules2$Machine" "way" "I") k_X3_closeOne_fieldLink_RX3_75_SR_Machine_way_I) (fun _ q9 => q9) dX3_closeOne_24 rfl ?_
    refine lv_iconst (v := 4) hx hb dX3_closeOne_27 (by decide) ?_
    refine lv_icmp_ne (tgt := 50) hx hb dX3_closeOne_28 (by decide) (fun c7 => ?_) (fun c7 => ?_)
    ·
      replace hf := (if_neg c7).symm.trans hf
      exact j_X3_closeOne_50 l dC dI Q N (CS.hs σ) R hx hb hr hml hown hts hlocks hZ hA hK p2.2 x1 (gAt (σ.a 12) 8 x1) _ _ _ hf h5 hC (lv_sub hl [1, 2, 0] rfl)
    ·
      replace hf := (if_pos c7).symm.trans hf
      refine lv_aload_n hx hb dX3_closeOne_31 rfl (lv_at hl 1 rfl) ?_
      refine cG_76 (v := (CS.w p2.2)) hx hb hts i_X3_closeOne_X3 hown hK hC (hts (.fieldLink RX3 81 "StatementRules2$Machine" "wayThrown" "LStatementRules2$Thrown;") k_X3_closeOne_fieldLink_RX3_81_SR_Machine_wayThrown_LSR_Thrown) (fun _ q9 => q9) dX3_closeOne_32 rfl ?_
      rcases hf_oc hf with ⟨q12, hf⟩ | ⟨a13, q12, hf⟩
      ·
        refine W.eq (congrArg (fun v9 => F0 m 35 ls (va_rf v9 :: [])) q12) ?_
        refine W.eq (g2 := F0 m 35 ls (.null :: [])) rfl ?_
        refine lv_ifnullN (tgt := 50) hx hb dX3_closeOne_35 (by decide) ?_
        exact j_X3_closeOne_50 l dC dI Q N (CS.hs σ) R hx hb hr hml hown hts hlocks hZ hA hK p2.2 x1 (gAt (σ.a 12) 8 x1) _ _ _ hf h5 hC (lv_sub hl [1, 2, 0] rfl)
      ·
        refine W.eq (congrArg (fun v9 => F0 m 35 ls (va_rf v9 :: [])) q12) ?_
        refine W.eq (g2 := F0 m 35 ls (.ref a13 :: [])) rfl ?_
        refine lv_ifnull hx hb dX3_closeOne_35 ?_
        refine lv_aload_n hx hb dX3_closeOne_38 rfl (lv_at hl 1 rfl) ?_
        refine cG_76 (v := (CS.w p2.2)) hx hb hts i_X3_closeOne_X3 hown hK hC (hts (.fieldLink RX3 81 "StatementRules2$Machine" "wayThrown" "LStatementRules2$Thrown;") k_X3_closeOne_fieldLink_RX3_81_SR_Machine_wayThrown_LSR_Thrown) (fun _ q9 => q9) dX3_closeOne_39 rfl ?_
        rcases hf_oc hf with ⟨q14, hf⟩ | ⟨a15, q14, hf⟩
        ·
          refine W.eq (congrArg (fun v9 => F0 m 42 ls (va_rf v9 :: [])) q14) ?_
          refine W.eq (g2 := F0 m 42 ls (.null :: [])) rfl ?_
          refine lv_iload_n hx hb dX3_closeOne_42 rfl (lv_at hl 0 rfl) ?_
          refine lv_iload_n hx hb dX3_closeOne_43 rfl (lv_at hl 2 rfl) ?_
          cases hf
        ·
          refine W.eq (congrArg (fun v9 => F0 m 42 ls (va_rf v9 :: [])) q14) ?_
          refine W.eq (g2 := F0 m 42 ls (.ref a15 :: [])) rfl ?_
          refine lv_iload_n hx hb dX3_closeOne_42 rfl (lv_at hl 0 rfl) ?_
          refine lv_iload_n hx hb dX3_closeOne_43 rfl (lv_at hl 2 rfl) ?_
          obtain ⟨b16, hf⟩ := hf_ite hf
          obtain ⟨k17, hk17⟩ := cPl (Q := Q) (s := p2.2) (a := a15) b16.1
          rw [cE2 (show CS.k p2.2 a15 = 2 from b16.2)] at hk17
          obtain ⟨p18, hcp18, hf⟩ := hf_bind hf
          have mo19 : CS.hs p2.2 ≤ CS.hs p18.2 := Mono.go hcp18 (m_X8_suppress N p2.2 a15 (gAt (σ.a 12) 8 x1) x1)
          have hr9 : CS.hs p18.2 ≤ CS.hs R.2 := Mono.go hf (mono_some (Nat.le_refl _))
          have hFc := cFree hC hA
          refine va_callv (va_runV (As := [.int (gAt (σ.a 12) 8 x1), .int x1]) (rest := []) ⟨hx, hb, hml, hown, hts⟩ (c_X8_suppress l dC dI Q N p2.2 a15 (gAt (σ.a 12) 8 x1) x1 p18 hcp18) (cwV 2 hts hX3_closeOne_X8_suppress_v268 rfl rfl rfl (by decide +kernel) ⟨(show 2 + 1 ≤ 4 by omega), (show 8 + (3 + 11) + 60 * 2 ≤ 60 * 4 by omega)⟩) ⟨zPre.blind, va_recv hK hC.1 (ci := 7) (q0 := k17) rfl hk17, cPre_go hZ hK hC⟩ rfl rfl hl.1 rfl (lv_room (Nat.le_of_ble_eq_true rfl)) dX3_closeOne_44 (cAcc h5 mo19 hr9)) hC.2.2.1 (fun q _ h => hFc q h) hFc (fun u9 t9 H1 locs ht hvm hw hB hz1 hk1 hS => ?_)
          obtain ⟨⟨hP, hK1, hD1⟩, hsz1⟩ := hB
          rw [ht] at hP hsz1
          have hC : CP dC dI Q A s.heap p18.2 H1 locs := ⟨hP, hD1.weaken (fun _ _ _ h => hFc _ h), hS, hsz1⟩
          generalize H1 = H at hC ⊢
          have h21 : (CS.hs σ) ≤ CS.hs p18.2 := Nat.le_trans h5 mo19
          refine W.widen (k := CS.hs p18.2 - (CS.hs σ)) (n := 17 * (CS.hs p18.2 - (CS.hs σ))) (cAcc2 h5 mo19) (cAcc3 h5 mo19) ?_
          refine lv_goto (tgt := 56) hx hb dX3_closeOne_47 (by decide) ?_
          obtain rfl := Option.some.inj hf
          exact W.vret hx hb hr (fun t ht hW => ⟨⟨(), rfl, trivial, ⟨by rw [ht]; exact hC.1, va_K.moved hW.alike hK, hC.2.1⟩, by rw [ht]; exact hC.2.2.2⟩, hC.2.2.1.F ht⟩) hC.2.2.1.2.2 dX3_closeOne_56
  ·
    replace hf := (if_neg c6).symm.trans hf
    obtain rfl := Option.some.inj hf
    exact W.vret hx hb hr (fun t ht hW => ⟨⟨(), rfl, trivial, ⟨by rw [ht]; exact hC.1, va_K.moved hW.alike hK, hC.2.1⟩, by rw [ht]; exact hC.2.2.2⟩, hC.2.2.1.F ht⟩) hC.2.2.1.2.2 dX3_closeOne_22
theorem i_X3_begin_X2 : ∀ w ∈ wsX20, w ∈ wzX3_begin := fun _ h => List.mem_cons_of_mem _ (List.mem_append_right _ (List.mem_append_left _ (h)))
theorem k_X3_begin_fieldLink_RX3_54_SR_Machine_height_I : Cond.fieldLink RX3 54 "StatementRules2$Machine" "height" "I" ∈ wzX3_begin := List.mem_cons_of_mem _ (List.mem_append_left _ (List.mem_of_getElem? (i := 0) rfl))
theorem i_X3_begin_X3 : ∀ w ∈ wsX30, w ∈ wzX3_begin := fun _ h => List.mem_cons_of_mem _ (List.mem_append_right _ (List.mem_append_right _ (List.mem_append_left _ (h))))
theorem k_X3_begin_fieldLink_RX3_40_SR_Machine_code_LSR_Code : Cond.fieldLink RX3 40 "StatementRules2$Machine" "code" "LStatementRules2$Code;" ∈ wzX3_begin := List.mem_cons_of_mem _ (List.mem_append_left _ (List.mem_of_getElem? (i := 1) rfl))
theorem i_X3_begin_X0 : ∀ w ∈ wsX00, w ∈ wzX3_begin := fun _ h => List.mem_cons_of_mem _ (List.mem_append_right _ (List.mem_append_right _ (List.mem_append_right _ (List.mem_append_left _ (h)))))
theorem k_X3_begin_initialized_RX11 : Cond.initialized RX11 ∈ wzX3_begin := List.mem_cons_of_mem _ (List.mem_append_left _ (List.mem_of_getElem? (i := 2) rfl))
theorem k_X3_begin_static_yX11_at : Cond.static yX11_at ∈ wzX3_begin := List.mem_cons_of_mem _ (List.mem_append_left _ (List.mem_of_getElem? (i := 3) rfl))
theorem k_X3_begin_fieldLink_RX3_57_SR_Machine_place_I : Cond.fieldLink RX3 57 "StatementRules2$Machine" "place" "I" ∈ wzX3_begin := List.mem_cons_of_mem _ (List.mem_append_left _ (List.mem_of_getElem? (i := 4) rfl))
theorem k_X3_begin_fieldLink_RX3_75_SR_Machine_way_I : Cond.fieldLink RX3 75 "StatementRules2$Machine" "way" "I" ∈ wzX3_begin := List.mem_cons_of_mem _ (List.mem_append_left _ (List.mem_of_getElem? (i := 5) rfl))
set_option maxHeartbeats 4000000 in
set_option maxRecDepth 100000 in
theorem c_X3_begin (l : Launch) (dC : Nat → ClassId) (dI : Nat → Nat → Nat) (Q : CQ) (N : Nat) (σ : CS) (x1 : Nat) (x2 : Int32) (R : Unit × CS) (hf : f_X3_begin N σ x1 x2 = some R) : Met l yX3_begin wzX3_begin ({ frames := 2, cells := CS.hs R.2 - CS.hs σ, slots := 17 * (CS.hs R.2 - CS.hs σ), locals := 60 * 2 }) (va_Pc [.ref (Q.o 7), .ref x1, .int x2] (zPre dC dI (CS.hs σ) (cW Q σ) (cT Q))) (va_Qv (fun (_ : Unit) => True) (fun (_ : Unit) (t : State) => zPost dC dI (va_A (cW Q σ) (CS.hs σ)) (cW Q R.2) (cT Q) t ∧ t.heap.size = CS.hs R.2) (va_A (cW Q σ) (CS.hs σ))) (CS.hs R.2 - CS.hs σ) (17 * (CS.hs R.2 - CS.hs σ)) (va_A (cW Q σ) (CS.hs σ)) := by
  refine Met.ofW (cc := cX3_begin) (maxL := 3) (ret := none) (by decide) rfl ?_
  intro p e s m args below meth c s₁ B hml hv
  obtain ⟨rfl, hsz, hZ, hP, hK, hD0⟩ := hv
  have hx := B.exec
  have hb := B.bytes
  have hr := B.returns
  have hts := atoms_spec (ws := wzX3_begin) B.pre
  have hown : s.vm.findClass RX3 = some m.cls := findClass_of_methodNamed B.named
  have hlocks := B.notSynchronized
  have hD := hD0.self (sz := CS.hs σ)
  generalize hAe : va_A (cW Q σ) (CS.hs σ) = A at hD ⊢
  have hA : ∀ q : Nat, s.heap.size ≤ q → A q := fun q h => by rw [← hAe]; exact Or.inr (hsz ▸ h)
  have hC : CP dC dI Q A s.heap σ s.heap [] := ⟨hP, hD, va_S.rf, hsz⟩
  have h0 : CS.hs σ ≤ CS.hs σ := Nat.le_refl _
  have hl := lv_entry ([.ref (Q.o 7), .ref x1, .int x2]) (n := 3) (Nat.le_of_ble_eq_true rfl)
  rw [lg_entry_eq]
  generalize (lg_sl ([.ref (Q.o 7), .ref x1, .int x2]) ++ List.replicate (3 - (lg_sl ([.ref (Q.o 7), .ref x1, .int x2])).length) Slot.unset).toArray = ls at hl ⊢
  have hl : lv_has ls 3 [(0, .ref (Q.o 7)), (1, .ref x1), (2, .int x2)] := hl
  unfold f_X3_begin at hf
  refine W.widen (k := CS.hs σ - CS.hs σ) (n := 17 * (CS.hs σ - CS.hs σ)) (Nat.zero_le _) (Nat.zero_le _) ?_
  refine lv_aload_n hx hb dX3_begin_0 rfl (lv_at hl 0 rfl) ?_
  refine lv_aload_n hx hb dX3_begin_1 rfl (lv_at hl 1 rfl) ?_
  obtain ⟨b1, hf⟩ := hf_ite hf
  refine pGN_X2_2 (v := (CS.o σ x1 2)) hx hb hts i_X3_begin_X2 hown hK hC (va_Nw.use rfl (hZ.1 (.fieldLinkNest RX3 200 "StatementRules2$Frame" "height" "I" "StatementRules2") (by decide +kernel))) (fun _ q9 => q9) dX3_begin_2 b1 rfl ?_
  refine cP_65 (v := (CS.o σ x1 2)) hx hb hts i_X3_begin_X3 hown hK hC (hts (.fieldLink RX3 54 "StatementRules2$Machine" "height" "I") k_X3_begin_fieldLink_RX3_54_SR_Machine_height_I) (fun _ q9 => q9) dX3_begin_5 (fun H locs hC => ?_)
  refine lv_aload_n hx hb dX3_begin_8 rfl (lv_at hl 0 rfl) ?_
  refine lv_aload_n hx hb dX3_begin_9 rfl (lv_at hl 0 rfl) ?_
  refine cG_58 hx hb hts i_X3_begin_X3 hown hK hC (hts (.fieldLink RX3 40 "StatementRules2$Machine" "code" "LStatementRules2$Code;") k_X3_begin_fieldLink_RX3_40_SR_Machine_code_LSR_Code) (fun _ q9 => q9) dX3_begin_10 ?_
  refine cGN_17 hx hb hts i_X3_begin_X0 hown hK hC (va_Nw.use rfl (hZ.1 (.fieldLinkNest RX3 153 "StatementRules2$Code" "targets" "[I" "StatementRules2") (by decide +kernel))) (fun _ q9 => q9) dX3_begin_13 ?_
  refine lv_iload_n hx hb dX3_begin_16 rfl (lv_at hl 2 rfl) ?_
  have he9 := (cArr_17 (Q := Q) (σ := CS.setI σ 65 (CS.o σ x1 2)))
  have hFc := cFree1 hC hA he9
  have hr9 : CS.hs σ ≤ CS.hs R.2 := Mono.go hf (mono_some (Nat.le_refl _))
  refine va_calli (va_runSN (As := [.ref (Q.q 17), .int x2]) (rest := [.ref (Q.o 7)]) ⟨hx, hb, hml, hown, hts⟩ (c_X11_at l dC dI _ (Q.q 17) (Q.c 0) 1024 (CS.a (CS.setI σ 65 (CS.o σ x1 2)) 17) x2 (by decide)) ⟨va_cnB 2 hts hX3_begin_X11_at_n111 rfl rfl rfl (hZ.1 (.methodLinkNest RX3 111 yX11_at "StatementRules2") (by decide +kernel)) (hts (.initialized RX11) k_X3_begin_initialized_RX11) (by decide +kernel) ⟨(show 1 + 1 ≤ 2 by omega), (show 8 + (2 + 11) + 60 * 1 ≤ 60 * 2 by omega)⟩, (hts (.static yX11_at) k_X3_begin_static_yX11_at), trivial⟩ ⟨zPre.blind, zPre.go hZ (cOne hC.1 he9) (hK.sub (tys' := [(Q.c 0, .int)]) [0] rfl) (cOneD hC.2.1 he9)⟩ rfl rfl hl.1 rfl (lv_room (Nat.le_of_ble_eq_true rfl)) dX3_begin_17 ⟨cAcc4 h0 hr9, cAcc5 h0 hr9⟩) hC.2.2.1 (fun q _ h => hFc q h) hFc (fun r2 u9 t9 H1 locs ht hvm hw hB hz1 hk1 hS => ?_)
  obtain ⟨⟨hP1, hK1, hD1⟩, hsz1⟩ := hB
  rw [ht] at hP1 hsz1
  have hC := cBack (σ' := CS.setI σ 65 (CS.o σ x1 2)) hC he9 (cSelf he9) (Eq.refl (CS.hs (CS.setI σ 65 (CS.o σ x1 2)))) hk1 hP1 hsz1 hS
  generalize H1 = H at hC ⊢
  obtain rfl : r2 = (gAt (CS.a (CS.setI σ 65 (CS.o σ x1 2)) 17) 1024 x2) := hw
  refine cP_66 (v := (gAt (CS.a (CS.setI σ 65 (CS.o σ x1 2)) 17) 1024 x2)) hx hb hts i_X3_begin_X3 hown hK hC (hts (.fieldLink RX3 57 "StatementRules2$Machine" "place" "I") k_X3_begin_fieldLink_RX3_57_SR_Machine_place_I) (fun _ q9 => q9) dX3_begin_20 (fun H locs hC => ?_)
  refine lv_aload_n hx hb dX3_begin_23 rfl (lv_at hl 0 rfl) ?_
  refine lv_iconst (v := 0) hx hb dX3_begin_24 (by decide) ?_
  refine cP_73 (v := 0) hx hb hts i_X3_begin_X3 hown hK hC (hts (.fieldLink RX3 75 "StatementRules2$Machine" "way" "I") k_X3_begin_fieldLink_RX3_75_SR_Machine_way_I) (fun _ q9 => q9) dX3_begin_25 (fun H locs hC => ?_)
  obtain rfl := Option.some.inj hf
  exact W.vret hx hb hr (fun t ht hW => ⟨⟨(), rfl, trivial, ⟨by rw [ht]; exact hC.1, va_K.moved hW.alike hK, hC.2.1⟩, by rw [ht]; exact hC.2.2.2⟩, hC.2.2.1.F ht⟩) hC.2.2.1.2.2 dX3_begin_28
end
section
theorem k_X3_leaveBody_fieldLink_RX3_63_SR_Machine_openedCount_I : Cond.fieldLink RX3 63 "StatementRules2$Machine" "openedCount" "I" ∈ wzX3_leaveBody := List.mem_cons_of_mem _ (List.mem_append_left _ (List.mem_of_getElem? (i := 0) rfl))
theorem i_X3_leaveBody_X3 : ∀ w ∈ wsX30, w ∈ wzX3_leaveBody := fun _ h => List.mem_cons_of_mem _ (List.mem_append_right _ (List.mem_append_left _ (h)))
theorem i_X3_leaveBody_X2 : ∀ w ∈ wsX20, w ∈ wzX3_leaveBody := fun _ h => List.mem_cons_of_mem _ (List.mem_append_right _ (List.mem_append_right _ (List.mem_append_left _ (h))))
theorem k_X3_leaveBody_fieldLink_RX3_75_SR_Machine_way_I : Cond.fieldLink RX3 75 "StatementRules2$Machine" "way" "I" ∈ wzX3_leaveBody := List.mem_cons_of_mem _ (List.mem_append_left _ (List.mem_of_getElem? (i := 1) rfl))
theorem k_X3_leaveBody_fieldLink_RX3_81_SR_Machine_wayThrown_LSR_Thrown : Cond.fieldLink RX3 81 "StatementRules2$Machine" "wayThrown" "LStatementRules2$Thrown;" ∈ wzX3_leaveBody := List.mem_cons_of_mem _ (List.mem_append_left _ (List.mem_of_getElem? (i := 2) rfl))
theorem k_X3_leaveBody_fieldLink_RX3_30_SR_Machine_opened_I : Cond.fieldLink RX3 30 "StatementRules2$Machine" "opened" "[I" ∈ wzX3_leaveBody := List.mem_cons_of_mem _ (List.mem_append_left _ (List.mem_of_getElem? (i := 3) rfl))
theorem k_X3_leaveBody_initialized_RX11 : Cond.initialized RX11 ∈ wzX3_leaveBody := List.mem_cons_of_mem _ (List.mem_append_left _ (List.mem_of_getElem? (i := 4) rfl))
theorem k_X3_leaveBody_static_yX11_at : Cond.static yX11_at ∈ wzX3_leaveBody := List.mem_cons_of_mem _ (List.mem_append_left _ (List.mem_of_getElem? (i := 5) rfl))
set_option maxHeartbeats 4000000 in
set_option maxRecDepth 100000 in
theorem j_X3_leaveBody_7 {p : Program} {e : Env} {s : State} {m : MethodId} {args : Array Value} {below : List Frame} {meth : Method} {c : Code} {A : Nat → Prop} (l : Launch) (dC : Nat → ClassId) (dI : Nat → Nat → Nat) (Q : CQ) (N : Nat) (z9h : Nat) (R : Unit × CS) (hx : p.tables.exec = Jvm.exec) (hb : c.code = cX3_leaveBody) (hr : meth.sig.returnType = none) (hml : c.maxLocals = 3) (hown : s.vm.findClass RX3 = some m.cls) (hts : ∀ w ∈ wzX3_leaveBody, w.before args s = true) (hlocks : meth.locks = false) (hZ : zAMB s) (hA : ∀ q : Nat, s.heap.size ≤ q → A q) (hK : va_K (dC, dI) vwCl (cT Q) s) : ∀ (n9 : Nat), ∀ (σ : CS) (x1 : Nat) (x2 : Int32) (H : Heap) (locs : List Loc) (ls : Array Slot), f_X3_leaveBody_7 N n9 σ x1 x2 = some R → z9h ≤ CS.hs σ → CP dC dI Q A s.heap σ H locs → lv_has ls 3 [(0, .ref (Q.o 7)), (1, .ref x1), (2, .int x2)] → W p l e ({ frames := 5, cells := CS.hs R.2 - z9h, slots := 17 * (CS.hs R.2 - z9h), locals := 60 * 5 }) s m args below meth c H locs (CS.hs σ - z9h) (17 * (CS.hs σ - z9h)) (MQ below (va_Qv (fun (_ : Unit) => True) (fun (_ : Unit) (t : State) => zPost dC dI A (cW Q R.2) (cT Q) t ∧ t.heap.size = CS.hs R.2) A) args s (CS.hs R.2 - z9h) (17 * (CS.hs R.2 - z9h)) A) (F0 m 7 ls []) := by
  intro n9
  induction n9 with
  | zero => intro σ x1 x2 H locs ls hf; exact absurd hf (by intro q9; cases q9)
  | succ n9 ih =>
    intro σ x1 x2 H locs ls hf h0 hC hl
    replace hf : b_X3_leaveBody_7 N (f_X3_leaveBody_7 N n9) σ x1 x2 = some R := hf
    unfold b_X3_leaveBody_7 at hf
    have hMK := fun (σ : CS) (x1 : Nat) (x2 : Int32) => m_X3_leaveBody_7 N n9 σ x1 x2
    refine lv_iload_n hx hb dX3_leaveBody_7 rfl (lv_at hl 2 rfl) ?_
    refine lv_aload_n hx hb dX3_leaveBody_8 rfl (lv_at hl 1 rfl) ?_
    obtain ⟨b1, hf⟩ := hf_ite hf
    refine pGN_X2_3 (v := (CS.o σ x1 3)) hx hb hts i_X3_leaveBody_X2 hown hK hC (va_Nw.use rfl (hZ.1 (.fieldLinkNest RX3 201 "StatementRules2$Frame" "openedBefore" "I" "StatementRules2") (by decide +kernel))) (fun _ q9 => q9) dX3_leaveBody_9 b1 rfl ?_
    refine lv_icmp_lt (tgt := 33) hx hb dX3_leaveBody_12 (by decide) (fun c2 => ?_) (fun c2 => ?_)
    ·
      replace hf := (if_pos c2).symm.trans hf
      refine lv_aload_n hx hb dX3_leaveBody_33 rfl (lv_at hl 0 rfl) ?_
      refine lv_aload_n hx hb dX3_leaveBody_34 rfl (lv_at hl 1 rfl) ?_
      refine pGN_X2_3 (v := (CS.o σ x1 3)) hx hb hts i_X3_leaveBody_X2 hown hK hC (va_Nw.use rfl (hZ.1 (.fieldLinkNest RX3 201 "StatementRules2$Frame" "openedBefore" "I" "StatementRules2") (by decide +kernel))) (fun _ q9 => q9) dX3_leaveBody_35 b1 rfl ?_
      refine cP_68 (v := (CS.o σ x1 3)) hx hb hts i_X3_leaveBody_X3 hown hK hC (hts (.fieldLink RX3 63 "StatementRules2$Machine" "openedCount" "I") k_X3_leaveBody_fieldLink_RX3_63_SR_Machine_openedCount_I) (fun _ q9 => q9) dX3_leaveBody_38 (fun H locs hC => ?_)
      refine lv_aload_n hx hb dX3_leaveBody_41 rfl (lv_at hl 1 rfl) ?_
      refine lv_iconst (v := 2) hx hb dX3_leaveBody_42 (by decide) ?_
      refine pPN_X2_0 (v := 2) hx hb hts i_X3_leaveBody_X2 hown hK hC (va_Nw.use rfl (hZ.1 (.fieldLinkNest RX3 194 "StatementRules2$Frame" "phase" "I" "StatementRules2") (by decide +kernel))) (fun _ q9 => q9) dX3_leaveBody_43 b1 (fun H locs hC => ?_)
      refine lv_aload_n hx hb dX3_leaveBody_46 rfl (lv_at hl 0 rfl) ?_
      refine cG_73 (v := (σ.i 73)) hx hb hts i_X3_leaveBody_X3 hown hK hC (hts (.fieldLink RX3 75 "StatementRules2$Machine" "way" "I") k_X3_leaveBody_fieldLink_RX3_75_SR_Machine_way_I) (fun _ q9 => q9) dX3_leaveBody_47 rfl ?_
      refine lv_iconst (v := 4) hx hb dX3_leaveBody_50 (by decide) ?_
      refine lv_icmp_ne (tgt := 71) hx hb dX3_leaveBody_51 (by decide) (fun c3 => ?_) (fun c3 => ?_)
      ·
        replace hf := (if_neg c3).symm.trans hf
        obtain rfl := Option.some.inj hf
        exact W.vret hx hb hr (fun t ht hW => ⟨⟨(), rfl, trivial, ⟨by rw [ht]; exact hC.1, va_K.moved hW.alike hK, hC.2.1⟩, by rw [ht]; exact hC.2.2.2⟩, hC.2.2.1.F ht⟩) hC.2.2.1.2.2 dX3_leaveBody_71
      ·
        replace hf := (if_pos c3).symm.trans hf
        refine lv_aload_n hx hb dX3_leaveBody_54 rfl (lv_at hl 1 rfl) ?_
        refine lv_aload_n hx hb dX3_leaveBody_55 rfl (lv_at hl 0 rfl) ?_
        refine cG_76 (v := (CS.w (CS.setO (CS.setI σ 68 (CS.o σ x1 3)) x1 0 2))) hx hb hts i_X3_leaveBody_X3 hown hK hC (hts (.fieldLink RX3 81 "StatementRules2$Machine" "wayThrown" "LStatementRules2$Thrown;") k_X3_leaveBody_fieldLink_RX3_81_SR_Machine_wayThrown_LSR_Thrown) (fun _ q9 => q9) dX3_leaveBody_56 rfl ?_
        rcases hf_oc hf with ⟨q4, hf⟩ | ⟨a5, q4, hf⟩
        ·
          refine W.eq (congrArg (fun v9 => F0 m 59 ls (va_rf v9 :: [.ref x1])) q4) ?_
          refine W.eq (g2 := F0 m 59 ls (.null :: [.ref x1])) rfl ?_
          refine pPN_X2_4 (v := none) hx hb hts i_X3_leaveBody_X2 hown hK hC (va_Nw.use rfl (hZ.1 (.fieldLinkNest RX3 204 "StatementRules2$Frame" "thrown" "LStatementRules2$Thrown;" "StatementRules2") (by decide +kernel))) (fun _ q9 => q9) dX3_leaveBody_59 b1 (fun H locs hC => ?_)
          refine lv_aload_n hx hb dX3_leaveBody_62 rfl (lv_at hl 0 rfl) ?_
          refine lv_aload_n hx hb dX3_leaveBody_63 rfl (lv_at hl 1 rfl) ?_
          refine lv_aload_n hx hb dX3_leaveBody_64 rfl (lv_at hl 1 rfl) ?_
          refine pGN_X2_1 (v := (CS.o (CS.setOt (CS.setO (CS.setI σ 68 (CS.o σ x1 3)) x1 0 2) x1 none) x1 1)) hx hb hts i_X3_leaveBody_X2 hown hK hC (va_Nw.use rfl (hZ.1 (.fieldLinkNest RX3 197 "StatementRules2$Frame" "argument" "I" "StatementRules2") (by decide +kernel))) (fun _ q9 => q9) dX3_leaveBody_65 b1 rfl ?_
          obtain ⟨p6, hcp6, hf⟩ := hf_bind hf
          have mo7 : CS.hs σ ≤ CS.hs p6.2 := Mono.go hcp6 (m_X3_begin N (CS.setOt (CS.setO (CS.setI σ 68 (CS.o σ x1 3)) x1 0 2) x1 none) x1 (CS.o (CS.setOt (CS.setO (CS.setI σ 68 (CS.o σ x1 3)) x1 0 2) x1 none) x1 1))
          have hr9 : CS.hs p6.2 ≤ CS.hs R.2 := Mono.go hf (mono_some (Nat.le_refl _))
          have hFc := cFree hC hA
          refine va_callv (va_runV (As := [.ref x1, .int (CS.o (CS.setOt (CS.setO (CS.setI σ 68 (CS.o σ x1 3)) x1 0 2) x1 none) x1 1)]) (rest := []) ⟨hx, hb, hml, hown, hts⟩ (c_X3_begin l dC dI Q N (CS.setOt (CS.setO (CS.setI σ 68 (CS.o σ x1 3)) x1 0 2) x1 none) x1 (CS.o (CS.setOt (CS.setO (CS.setI σ 68 (CS.o σ x1 3)) x1 0 2) x1 none) x1 1) p6 hcp6) (cwV 2 hts hX3_leaveBody_X3_begin_v261 rfl rfl rfl (by decide +kernel) ⟨(show 2 + 1 ≤ 5 by omega), (show 8 + (3 + 11) + 60 * 2 ≤ 60 * 5 by omega)⟩) ⟨zPre.blind, va_recv hK hC.1 (ci := 2) (q0 := 7) rfl rfl, cPre_go hZ hK hC⟩ rfl rfl hl.1 rfl (lv_room (Nat.le_of_ble_eq_true rfl)) dX3_leaveBody_68 (cAcc h0 mo7 hr9)) hC.2.2.1 (fun q _ h => hFc q h) hFc (fun u9 t9 H1 locs ht hvm hw hB hz1 hk1 hS => ?_)
          obtain ⟨⟨hP, hK1, hD1⟩, hsz1⟩ := hB
          rw [ht] at hP hsz1
          have hC : CP dC dI Q A s.heap p6.2 H1 locs := ⟨hP, hD1.weaken (fun _ _ _ h => hFc _ h), hS, hsz1⟩
          generalize H1 = H at hC ⊢
          have h9 : z9h ≤ CS.hs p6.2 := Nat.le_trans h0 mo7
          refine W.widen (k := CS.hs p6.2 - z9h) (n := 17 * (CS.hs p6.2 - z9h)) (cAcc2 h0 mo7) (cAcc3 h0 mo7) ?_
          obtain rfl := Option.some.inj hf
          exact W.vret hx hb hr (fun t ht hW => ⟨⟨(), rfl, trivial, ⟨by rw [ht]; exact hC.1, va_K.moved hW.alike hK, hC.2.1⟩, by rw [ht]; exact hC.2.2.2⟩, hC.2.2.1.F ht⟩) hC.2.2.1.2.2 dX3_leaveBody_71
        ·
          refine W.eq (congrArg (fun v9 => F0 m 59 ls (va_rf v9 :: [.ref x1])) q4) ?_
          refine W.eq (g2 := F0 m 59 ls (.ref a5 :: [.ref x1])) rfl ?_
          refine pPN_X2_4 (v := (some a5)) hx hb hts i_X3_leaveBody_X2 hown hK hC (va_Nw.use rfl (hZ.1 (.fieldLinkNest RX3 204 "StatementRules2$Frame" "thrown" "LStatementRules2$Thrown;" "StatementRules2") (by decide +kernel))) (fun _ q9 => q9) dX3_leaveBody_59 b1 (fun H locs hC => ?_)
          refine lv_aload_n hx hb dX3_leaveBody_62 rfl (lv_at hl 0 rfl) ?_
          refine lv_aload_n hx hb dX3_leaveBody_63 rfl (lv_at hl 1 rfl) ?_
          refine lv_aload_n hx hb dX3_leaveBody_64 rfl (lv_at hl 1 rfl) ?_
          refine pGN_X2_1 (v := (CS.o (CS.setOt (CS.setO (CS.setI σ 68 (CS.o σ x1 3)) x1 0 2) x1 (some a5)) x1 1)) hx hb hts i_X3_leaveBody_X2 hown hK hC (va_Nw.use rfl (hZ.1 (.fieldLinkNest RX3 197 "StatementRules2$Frame" "argument" "I" "StatementRules2") (by decide +kernel))) (fun _ q9 => q9) dX3_leaveBody_65 b1 rfl ?_
          obtain ⟨p10, hcp10, hf⟩ := hf_bind hf
          have mo11 : CS.hs σ ≤ CS.hs p10.2 := Mono.go hcp10 (m_X3_begin N (CS.setOt (CS.setO (CS.setI σ 68 (CS.o σ x1 3)) x1 0 2) x1 (some a5)) x1 (CS.o (CS.setOt (CS.setO (CS.setI σ 68 (CS.o σ x1 3)) x1 0 2) x1 (some a5)) x1 1))
          have hr9 : CS.hs p10.2 ≤ CS.hs R.2 := Mono.go hf (mono_some (Nat.le_refl _))
          have hFc := cFree hC hA
          refine va_callv (va_runV (As := [.ref x1, .int (CS.o (CS.setOt (CS.setO (CS.setI σ 68 (CS.o σ x1 3)) x1 0 2) x1 (some a5)) x1 1)]) (rest := []) ⟨hx, hb, hml, hown, hts⟩ (c_X3_begin l dC dI Q N (CS.setOt (CS.setO (CS.setI σ 68 (CS.o σ x1 3)) x1 0 2) x1 (some a5)) x1 (CS.o (CS.setOt (CS.setO (CS.setI σ 68 (CS.o σ x1 3)) x1 0 2) x1 (some a5)) x1 1) p10 hcp10) (cwV 2 hts hX3_leaveBody_X3_begin_v261 rfl rfl rfl (by decide +kernel) ⟨(show 2 + 1 ≤ 5 by omega), (show 8 + (3 + 11) + 60 * 2 ≤ 60 * 5 by omega)⟩) ⟨zPre.blind, va_recv hK hC.1 (ci := 2) (q0 := 7) rfl rfl, cPre_go hZ hK hC⟩ rfl rfl hl.1 rfl (lv_room (Nat.le_of_ble_eq_true rfl)) dX3_leaveBody_68 (cAcc h0 mo11 hr9)) hC.2.2.1 (fun q _ h => hFc q h) hFc (fun u9 t9 H1 locs ht hvm hw hB hz1 hk1 hS => ?_)
          obtain ⟨⟨hP, hK1, hD1⟩, hsz1⟩ := hB
          rw [ht] at hP hsz1
          have hC : CP dC dI Q A s.heap p10.2 H1 locs := ⟨hP, hD1.weaken (fun _ _ _ h => hFc _ h), hS, hsz1⟩
          generalize H1 = H at hC ⊢
          have h13 : z9h ≤ CS.hs p10.2 := Nat.le_trans h0 mo11
          refine W.widen (k := CS.hs p10.2 - z9h) (n := 17 * (CS.hs p10.2 - z9h)) (cAcc2 h0 mo11) (cAcc3 h0 mo11) ?_
          obtain rfl := Option.some.inj hf
          exact W.vret hx hb hr (fun t ht hW => ⟨⟨(), rfl, trivial, ⟨by rw [ht]; exact hC.1, va_K.moved hW.alike hK, hC.2.1⟩, by rw [ht]; exact hC.2.2.2⟩, hC.2.2.1.F ht⟩) hC.2.2.1.2.2 dX3_leaveBody_71
    ·
      replace hf := (if_neg c2).symm.trans hf
      refine lv_aload_n hx hb dX3_leaveBody_15 rfl (lv_at hl 0 rfl) ?_
      refine lv_aload_n hx hb dX3_leaveBody_16 rfl (lv_at hl 0 rfl) ?_
      refine cG_63 hx hb hts i_X3_leaveBody_X3 hown hK hC (hts (.fieldLink RX3 30 "StatementRules2$Machine" "opened" "[I") k_X3_leaveBody_fieldLink_RX3_30_SR_Machine_opened_I) (fun _ q9 => q9) dX3_leaveBody_17 ?_
      refine lv_iload_n hx hb dX3_leaveBody_20 rfl (lv_at hl 2 rfl) ?_
      have he9 := (cArr_63 (Q := Q) (σ := σ))
      have hFc := cFree1 hC hA he9
      have hr9 : CS.hs σ ≤ CS.hs R.2 := Mono.go hf (mono_bind (m_X3_closeOne N σ (gAt (σ.a 63) 320 x2)) (fun p15 => (hMK p15.2 x1 (x2 + (-1)))))
      refine va_calli (va_runSN (As := [.ref (Q.q 63), .int x2]) (rest := [.ref (Q.o 7)]) ⟨hx, hb, hml, hown, hts⟩ (c_X11_at l dC dI _ (Q.q 63) (Q.c 0) 320 (σ.a 63) x2 (by decide)) ⟨va_cnB 2 hts hX3_leaveBody_X11_at_n111 rfl rfl rfl (hZ.1 (.methodLinkNest RX3 111 yX11_at "StatementRules2") (by decide +kernel)) (hts (.initialized RX11) k_X3_leaveBody_initialized_RX11) (by decide +kernel) ⟨(show 1 + 1 ≤ 5 by omega), (show 8 + (2 + 11) + 60 * 1 ≤ 60 * 5 by omega)⟩, (hts (.static yX11_at) k_X3_leaveBody_static_yX11_at), trivial⟩ ⟨zPre.blind, zPre.go hZ (cOne hC.1 he9) (hK.sub (tys' := [(Q.c 0, .int)]) [0] rfl) (cOneD hC.2.1 he9)⟩ rfl rfl hl.1 rfl (lv_room (Nat.le_of_ble_eq_true rfl)) dX3_leaveBody_21 ⟨cAcc4 h0 hr9, cAcc5 h0 hr9⟩) hC.2.2.1 (fun q _ h => hFc q h) hFc (fun r14 u9 t9 H1 locs ht hvm hw hB hz1 hk1 hS => ?_)
      obtain ⟨⟨hP1, hK1, hD1⟩, hsz1⟩ := hB
      rw [ht] at hP1 hsz1
      have hC := cBack (σ' := σ) hC he9 (cSelf he9) (Eq.refl (CS.hs σ)) hk1 hP1 hsz1 hS
      generalize H1 = H at hC ⊢
      obtain rfl : r14 = (gAt (σ.a 63) 320 x2) := hw
      obtain ⟨p15, hcp15, hf⟩ := hf_bind hf
      have mo16 : CS.hs σ ≤ CS.hs p15.2 := Mono.go hcp15 (m_X3_closeOne N σ (gAt (σ.a 63) 320 x2))
      have hr9 : CS.hs p15.2 ≤ CS.hs R.2 := Mono.go hf (hMK p15.2 x1 (x2 + (-1)))
      have hFc := cFree hC hA
      refine va_callv (va_runV (As := [.int (gAt (σ.a 63) 320 x2)]) (rest := []) ⟨hx, hb, hml, hown, hts⟩ (c_X3_closeOne l dC dI Q N σ (gAt (σ.a 63) 320 x2) p15 hcp15) (cwV 1 hts hX3_leaveBody_X3_closeOne_v258 rfl rfl rfl (by decide +kernel) ⟨(show 4 + 1 ≤ 5 by omega), (show 8 + (3 + 11) + 60 * 4 ≤ 60 * 5 by omega)⟩) ⟨zPre.blind, va_recv hK hC.1 (ci := 2) (q0 := 7) rfl rfl, cPre_go hZ hK hC⟩ rfl rfl hl.1 rfl (lv_room (Nat.le_of_ble_eq_true rfl)) dX3_leaveBody_24 (cAcc h0 mo16 hr9)) hC.2.2.1 (fun q _ h => hFc q h) hFc (fun u9 t9 H1 locs ht hvm hw hB hz1 hk1 hS => ?_)
      obtain ⟨⟨hP, hK1, hD1⟩, hsz1⟩ := hB
      rw [ht] at hP hsz1
      have hC : CP dC dI Q A s.heap p15.2 H1 locs := ⟨hP, hD1.weaken (fun _ _ _ h => hFc _ h), hS, hsz1⟩
      generalize H1 = H at hC ⊢
      have h18 : z9h ≤ CS.hs p15.2 := Nat.le_trans h0 mo16
      refine W.widen (k := CS.hs p15.2 - z9h) (n := 17 * (CS.hs p15.2 - z9h)) (cAcc2 h0 mo16) (cAcc3 h0 mo16) ?_
      refine lv_iinc (v := (x2 + (-1))) (lv' := [(2, .int (x2 + (-1))), (0, .ref (Q.o 7)), (1, .ref x1)]) hx hb dX3_leaveBody_27 hl (k := 2) rfl rfl (by decide) rfl (fun ls hl => ?_)
      refine lv_goto (tgt := 7) hx hb dX3_leaveBody_30 (by decide) ?_
      exact ih p15.2 x1 (x2 + (-1)) _ _ _ hf h18 hC (lv_sub hl [1, 2, 0] rfl)
set_option maxHeartbeats 4000000 in
set_option maxRecDepth 100000 in
theorem c_X3_leaveBody (l : Launch) (dC : Nat → ClassId) (dI : Nat → Nat → Nat) (Q : CQ) (N : Nat) (σ : CS) (x1 : Nat) (R : Unit × CS) (hf : f_X3_leaveBody N σ x1 = some R) : Met l yX3_leaveBody wzX3_leaveBody ({ frames := 5, cells := CS.hs R.2 - CS.hs σ, slots := 17 * (CS.hs R.2 - CS.hs σ), locals := 60 * 5 }) (va_Pc [.ref (Q.o 7), .ref x1] (zPre dC dI (CS.hs σ) (cW Q σ) (cT Q))) (va_Qv (fun (_ : Unit) => True) (fun (_ : Unit) (t : State) => zPost dC dI (va_A (cW Q σ) (CS.hs σ)) (cW Q R.2) (cT Q) t ∧ t.heap.size = CS.hs R.2) (va_A (cW Q σ) (CS.hs σ))) (CS.hs R.2 - CS.hs σ) (17 * (CS.hs R.2 - CS.hs σ)) (va_A (cW Q σ) (CS.hs σ)) := by
  refine Met.ofW (cc := cX3_leaveBody) (maxL := 3) (ret := none) (by decide) rfl ?_
  intro p e s m args below meth c s₁ B hml hv
  obtain ⟨rfl, hsz, hZ, hP, hK, hD0⟩ := hv
  have hx := B.exec
  have hb := B.bytes
  have hr := B.returns
  have hts := atoms_spec (ws := wzX3_leaveBody) B.pre
  have hown : s.vm.findClass RX3 = some m.cls := findClass_of_methodNamed B.named
  have hlocks := B.notSynchronized
  have hD := hD0.self (sz := CS.hs σ)
  generalize hAe : va_A (cW Q σ) (CS.hs σ) = A at hD ⊢
  have hA : ∀ q : Nat, s.heap.size ≤ q → A q := fun q h => by rw [← hAe]; exact Or.inr (hsz ▸ h)
  have hC : CP dC dI Q A s.heap σ s.heap [] := ⟨hP, hD, va_S.rf, hsz⟩
  have h0 : CS.hs σ ≤ CS.hs σ := Nat.le_refl _
  have hl := lv_entry ([.ref (Q.o 7), .ref x1]) (n := 3) (Nat.le_of_ble_eq_true rfl)
  rw [lg_entry_eq]
  generalize (lg_sl ([.ref (Q.o 7), .ref x1]) ++ List.replicate (3 - (lg_sl ([.ref (Q.o 7), .ref x1])).length) Slot.unset).toArray = ls at hl ⊢
  have hl : lv_has ls 3 [(0, .ref (Q.o 7)), (1, .ref x1)] := hl
  unfold f_X3_leaveBody at hf
  refine W.widen (k := CS.hs σ - CS.hs σ) (n := 17 * (CS.hs σ - CS.hs σ)) (Nat.zero_le _) (Nat.zero_le _) ?_
  refine lv_aload_n hx hb dX3_leaveBody_0 rfl (lv_at hl 0 rfl) ?_
  refine cG_68 (v := (σ.i 68)) hx hb hts i_X3_leaveBody_X3 hown hK hC (hts (.fieldLink RX3 63 "StatementRules2$Machine" "openedCount" "I") k_X3_leaveBody_fieldLink_RX3_63_SR_Machine_openedCount_I) (fun _ q9 => q9) dX3_leaveBody_1 rfl ?_
  refine lv_iconst (v := 1) hx hb dX3_leaveBody_4 (by decide) ?_
  refine lv_isub hx hb dX3_leaveBody_5 ?_
  refine lv_istore_n (lv' := [(2, .int ((σ.i 68) - 1)), (0, .ref (Q.o 7)), (1, .ref x1)]) hx hb dX3_leaveBody_6 rfl hl (by decide) rfl (fun ls hl => ?_)
  exact j_X3_leaveBody_7 l dC dI Q N (CS.hs σ) R hx hb hr hml hown hts hlocks hZ hA hK N σ x1 ((σ.i 68) - 1) _ _ _ hf h0 hC (lv_sub hl [1, 2, 0] rfl)
theorem i_X3_enterFinally_X2 : ∀ w ∈ wsX20, w ∈ wzX3_enterFinally := fun _ h => List.mem_cons_of_mem _ (List.mem_append_right _ (List.mem_append_left _ (h)))
theorem k_X3_enterFinally_fieldLink_RX3_81_SR_Machine_wayThrown_LSR_Thrown : Cond.fieldLink RX3 81 "StatementRules2$Machine" "wayThrown" "LStatementRules2$Thrown;" ∈ wzX3_enterFinally := List.mem_cons_of_mem _ (List.mem_append_left _ (List.mem_of_getElem? (i := 0) rfl))
theorem i_X3_enterFinally_X3 : ∀ w ∈ wsX30, w ∈ wzX3_enterFinally := fun _ h => List.mem_cons_of_mem _ (List.mem_append_right _ (List.mem_append_right _ (List.mem_append_left _ (h))))
theorem k_X3_enterFinally_fieldLink_RX3_75_SR_Machine_way_I : Cond.fieldLink RX3 75 "StatementRules2$Machine" "way" "I" ∈ wzX3_enterFinally := List.mem_cons_of_mem _ (List.mem_append_left _ (List.mem_of_getElem? (i := 1) rfl))
theorem k_X3_enterFinally_fieldLink_RX3_78_SR_Machine_wayValue_I : Cond.fieldLink RX3 78 "StatementRules2$Machine" "wayValue" "I" ∈ wzX3_enterFinally := List.mem_cons_of_mem _ (List.mem_append_left _ (List.mem_of_getElem? (i := 2) rfl))
theorem k_X3_enterFinally_fieldLink_RX3_235_SR_Machine_wayTarget_I : Cond.fieldLink RX3 235 "StatementRules2$Machine" "wayTarget" "I" ∈ wzX3_enterFinally := List.mem_cons_of_mem _ (List.mem_append_left _ (List.mem_of_getElem? (i := 3) rfl))
set_option maxHeartbeats 4000000 in
set_option maxRecDepth 100000 in
theorem c_X3_enterFinally (l : Launch) (dC : Nat → ClassId) (dI : Nat → Nat → Nat) (Q : CQ) (N : Nat) (σ : CS) (x1 : Nat) (R : Unit × CS) (hf : f_X3_enterFinally N σ x1 = some R) : Met l yX3_enterFinally wzX3_enterFinally ({ frames := 3, cells := CS.hs R.2 - CS.hs σ, slots := 17 * (CS.hs R.2 - CS.hs σ), locals := 60 * 3 }) (va_Pc [.ref (Q.o 7), .ref x1] (zPre dC dI (CS.hs σ) (cW Q σ) (cT Q))) (va_Qv (fun (_ : Unit) => True) (fun (_ : Unit) (t : State) => zPost dC dI (va_A (cW Q σ) (CS.hs σ)) (cW Q R.2) (cT Q) t ∧ t.heap.size = CS.hs R.2) (va_A (cW Q σ) (CS.hs σ))) (CS.hs R.2 - CS.hs σ) (17 * (CS.hs R.2 - CS.hs σ)) (va_A (cW Q σ) (CS.hs σ)) := by
  refine Met.ofW (cc := cX3_enterFinally) (maxL := 2) (ret := none) (by decide) rfl ?_
  intro p e s m args below meth c s₁ B hml hv
  obtain ⟨rfl, hsz, hZ, hP, hK, hD0⟩ := hv
  have hx := B.exec
  have hb := B.bytes
  have hr := B.returns
  have hts := atoms_spec (ws := wzX3_enterFinally) B.pre
  have hown : s.vm.findClass RX3 = some m.cls := findClass_of_methodNamed B.named
  have hlocks := B.notSynchronized
  have hD := hD0.self (sz := CS.hs σ)
  generalize hAe : va_A (cW Q σ) (CS.hs σ) = A at hD ⊢
  have hA : ∀ q : Nat, s.heap.size ≤ q → A q := fun q h => by rw [← hAe]; exact Or.inr (hsz ▸ h)
  have hC : CP dC dI Q A s.heap σ s.heap [] := ⟨hP, hD, va_S.rf, hsz⟩
  have h0 : CS.hs σ ≤ CS.hs σ := Nat.le_refl _
  have hl := lv_entry ([.ref (Q.o 7), .ref x1]) (n := 2) (Nat.le_of_ble_eq_true rfl)
  rw [lg_entry_eq]
  generalize (lg_sl ([.ref (Q.o 7), .ref x1]) ++ List.replicate (2 - (lg_sl ([.ref (Q.o 7), .ref x1])).length) Slot.unset).toArray = ls at hl ⊢
  have hl : lv_has ls 2 [(0, .ref (Q.o 7)), (1, .ref x1)] := hl
  unfold f_X3_enterFinally at hf
  refine W.widen (k := CS.hs σ - CS.hs σ) (n := 17 * (CS.hs σ - CS.hs σ)) (Nat.zero_le _) (Nat.zero_le _) ?_
  refine lv_aload_n hx hb dX3_enterFinally_0 rfl (lv_at hl 1 rfl) ?_
  refine lv_iconst (v := 3) hx hb dX3_enterFinally_1 (by decide) ?_
  obtain ⟨b1, hf⟩ := hf_ite hf
  refine pPN_X2_0 (v := 3) hx hb hts i_X3_enterFinally_X2 hown hK hC (va_Nw.use rfl (hZ.1 (.fieldLinkNest RX3 194 "StatementRules2$Frame" "phase" "I" "StatementRules2") (by decide +kernel))) (fun _ q9 => q9) dX3_enterFinally_2 b1 (fun H locs hC => ?_)
  refine lv_aload_n hx hb dX3_enterFinally_5 rfl (lv_at hl 1 rfl) ?_
  refine lv_aload_n hx hb dX3_enterFinally_6 rfl (lv_at hl 0 rfl) ?_
  refine cG_76 (v := (CS.w (CS.setO σ x1 0 3))) hx hb hts i_X3_enterFinally_X3 hown hK hC (hts (.fieldLink RX3 81 "StatementRules2$Machine" "wayThrown" "LStatementRules2$Thrown;") k_X3_enterFinally_fieldLink_RX3_81_SR_Machine_wayThrown_LSR_Thrown) (fun _ q9 => q9) dX3_enterFinally_7 rfl ?_
  rcases hf_oc hf with ⟨q2, hf⟩ | ⟨a3, q2, hf⟩
  ·
    refine W.eq (congrArg (fun v9 => F0 m 10 ls (va_rf v9 :: [.ref x1])) q2) ?_
    refine W.eq (g2 := F0 m 10 ls (.null :: [.ref x1])) rfl ?_
    refine pPN_X2_4 (v := none) hx hb hts i_X3_enterFinally_X2 hown hK hC (va_Nw.use rfl (hZ.1 (.fieldLinkNest RX3 204 "StatementRules2$Frame" "thrown" "LStatementRules2$Thrown;" "StatementRules2") (by decide +kernel))) (fun _ q9 => q9) dX3_enterFinally_10 b1 (fun H locs hC => ?_)
    refine lv_aload_n hx hb dX3_enterFinally_13 rfl (lv_at hl 1 rfl) ?_
    refine lv_aload_n hx hb dX3_enterFinally_14 rfl (lv_at hl 0 rfl) ?_
    refine cG_73 (v := (σ.i 73)) hx hb hts i_X3_enterFinally_X3 hown hK hC (hts (.fieldLink RX3 75 "StatementRules2$Machine" "way" "I") k_X3_enterFinally_fieldLink_RX3_75_SR_Machine_way_I) (fun _ q9 => q9) dX3_enterFinally_15 rfl ?_
    refine pPN_X2_5 (v := (σ.i 73)) hx hb hts i_X3_enterFinally_X2 hown hK hC (va_Nw.use rfl (hZ.1 (.fieldLinkNest RX3 246 "StatementRules2$Frame" "way" "I" "StatementRules2") (by decide +kernel))) (fun _ q9 => q9) dX3_enterFinally_18 b1 (fun H locs hC => ?_)
    refine lv_aload_n hx hb dX3_enterFinally_21 rfl (lv_at hl 1 rfl) ?_
    refine lv_aload_n hx hb dX3_enterFinally_22 rfl (lv_at hl 0 rfl) ?_
    refine cG_74 (v := (σ.i 74)) hx hb hts i_X3_enterFinally_X3 hown hK hC (hts (.fieldLink RX3 78 "StatementRules2$Machine" "wayValue" "I") k_X3_enterFinally_fieldLink_RX3_78_SR_Machine_wayValue_I) (fun _ q9 => q9) dX3_enterFinally_23 rfl ?_
    refine pPN_X2_6 (v := (σ.i 74)) hx hb hts i_X3_enterFinally_X2 hown hK hC (va_Nw.use rfl (hZ.1 (.fieldLinkNest RX3 247 "StatementRules2$Frame" "wayValue" "I" "StatementRules2") (by decide +kernel))) (fun _ q9 => q9) dX3_enterFinally_26 b1 (fun H locs hC => ?_)
    refine lv_aload_n hx hb dX3_enterFinally_29 rfl (lv_at hl 1 rfl) ?_
    refine lv_aload_n hx hb dX3_enterFinally_30 rfl (lv_at hl 0 rfl) ?_
    refine cG_75 (v := (σ.i 75)) hx hb hts i_X3_enterFinally_X3 hown hK hC (hts (.fieldLink RX3 235 "StatementRules2$Machine" "wayTarget" "I") k_X3_enterFinally_fieldLink_RX3_235_SR_Machine_wayTarget_I) (fun _ q9 => q9) dX3_enterFinally_31 rfl ?_
    refine pPN_X2_7 (v := (σ.i 75)) hx hb hts i_X3_enterFinally_X2 hown hK hC (va_Nw.use rfl (hZ.1 (.fieldLinkNest RX3 248 "StatementRules2$Frame" "wayTarget" "I" "StatementRules2") (by decide +kernel))) (fun _ q9 => q9) dX3_enterFinally_34 b1 (fun H locs hC => ?_)
    refine lv_aload_n hx hb dX3_enterFinally_37 rfl (lv_at hl 0 rfl) ?_
    refine lv_aload_n hx hb dX3_enterFinally_38 rfl (lv_at hl 1 rfl) ?_
    refine lv_aload_n hx hb dX3_enterFinally_39 rfl (lv_at hl 1 rfl) ?_
    refine pGN_X2_1 (v := (CS.o (CS.setO (CS.setO (CS.setO (CS.setOt (CS.setO σ x1 0 3) x1 none) x1 5 (σ.i 73)) x1 6 (σ.i 74)) x1 7 (σ.i 75)) x1 1)) hx hb hts i_X3_enterFinally_X2 hown hK hC (va_Nw.use rfl (hZ.1 (.fieldLinkNest RX3 197 "StatementRules2$Frame" "argument" "I" "StatementRules2") (by decide +kernel))) (fun _ q9 => q9) dX3_enterFinally_40 b1 rfl ?_
    refine lv_iconst (v := 1) hx hb dX3_enterFinally_43 (by decide) ?_
    refine lv_iadd hx hb dX3_enterFinally_44 ?_
    obtain ⟨p4, hcp4, hf⟩ := hf_bind hf
    have mo5 : CS.hs σ ≤ CS.hs p4.2 := Mono.go hcp4 (m_X3_begin N (CS.setO (CS.setO (CS.setO (CS.setOt (CS.setO σ x1 0 3) x1 none) x1 5 (σ.i 73)) x1 6 (σ.i 74)) x1 7 (σ.i 75)) x1 ((CS.o (CS.setO (CS.setO (CS.setO (CS.setOt (CS.setO σ x1 0 3) x1 none) x1 5 (σ.i 73)) x1 6 (σ.i 74)) x1 7 (σ.i 75)) x1 1) + 1))
    have hr9 : CS.hs p4.2 ≤ CS.hs R.2 := Mono.go hf (mono_some (Nat.le_refl _))
    have hFc := cFree hC hA
    refine va_callv (va_runV (As := [.ref x1, .int ((CS.o (CS.setO (CS.setO (CS.setO (CS.setOt (CS.setO σ x1 0 3) x1 none) x1 5 (σ.i 73)) x1 6 (σ.i 74)) x1 7 (σ.i 75)) x1 1) + 1)]) (rest := []) ⟨hx, hb, hml, hown, hts⟩ (c_X3_begin l dC dI Q N (CS.setO (CS.setO (CS.setO (CS.setOt (CS.setO σ x1 0 3) x1 none) x1 5 (σ.i 73)) x1 6 (σ.i 74)) x1 7 (σ.i 75)) x1 ((CS.o (CS.setO (CS.setO (CS.setO (CS.setOt (CS.setO σ x1 0 3) x1 none) x1 5 (σ.i 73)) x1 6 (σ.i 74)) x1 7 (σ.i 75)) x1 1) + 1) p4 hcp4) (cwV 2 hts hX3_enterFinally_X3_begin_v261 rfl rfl rfl (by decide +kernel) ⟨(show 2 + 1 ≤ 3 by omega), (show 8 + (3 + 11) + 60 * 2 ≤ 60 * 3 by omega)⟩) ⟨zPre.blind, va_recv hK hC.1 (ci := 2) (q0 := 7) rfl rfl, cPre_go hZ hK hC⟩ rfl rfl hl.1 rfl (lv_room (Nat.le_of_ble_eq_true rfl)) dX3_enterFinally_45 (cAcc h0 mo5 hr9)) hC.2.2.1 (fun q _ h => hFc q h) hFc (fun u9 t9 H1 locs ht hvm hw hB hz1 hk1 hS => ?_)
    obtain ⟨⟨hP, hK1, hD1⟩, hsz1⟩ := hB
    rw [ht] at hP hsz1
    have hC : CP dC dI Q A s.heap p4.2 H1 locs := ⟨hP, hD1.weaken (fun _ _ _ h => hFc _ h), hS, hsz1⟩
    generalize H1 = H at hC ⊢
    have h7 : (CS.hs σ) ≤ CS.hs p4.2 := Nat.le_trans h0 mo5
    refine W.widen (k := CS.hs p4.2 - (CS.hs σ)) (n := 17 * (CS.hs p4.2 - (CS.hs σ))) (cAcc2 h0 mo5) (cAcc3 h0 mo5) ?_
    obtain rfl := Option.some.inj hf
    exact W.vret hx hb hr (fun t ht hW => ⟨⟨(), rfl, trivial, ⟨by rw [ht]; exact hC.1, va_K.moved hW.alike hK, hC.2.1⟩, by rw [ht]; exact hC.2.2.2⟩, hC.2.2.1.F ht⟩) hC.2.2.1.2.2 dX3_enterFinally_48
  ·
    refine W.eq (congrArg (fun v9 => F0 m 10 ls (va_rf v9 :: [.ref x1])) q2) ?_
    refine W.eq (g2 := F0 m 10 ls (.ref a3 :: [.ref x1])) rfl ?_
    refine pPN_X2_4 (v := (some a3)) hx hb hts i_X3_enterFinally_X2 hown hK hC (va_Nw.use rfl (hZ.1 (.fieldLinkNest RX3 204 "StatementRules2$Frame" "thrown" "LStatementRules2$Thrown;" "StatementRules2") (by decide +kernel))) (fun _ q9 => q9) dX3_enterFinally_10 b1 (fun H locs hC => ?_)
    refine lv_aload_n hx hb dX3_enterFinally_13 rfl (lv_at hl 1 rfl) ?_
    refine lv_aload_n hx hb dX3_enterFinally_14 rfl (lv_at hl 0 rfl) ?_
    refine cG_73 (v := (σ.i 73)) hx hb hts i_X3_enterFinally_X3 hown hK hC (hts (.fieldLink RX3 75 "StatementRules2$Machine" "way" "I") k_X3_enterFinally_fieldLink_RX3_75_SR_Machine_way_I) (fun _ q9 => q9) dX3_enterFinally_15 rfl ?_
    refine pPN_X2_5 (v := (σ.i 73)) hx hb hts i_X3_enterFinally_X2 hown hK hC (va_Nw.use rfl (hZ.1 (.fieldLinkNest RX3 246 "StatementRules2$Frame" "way" "I" "StatementRules2") (by decide +kernel))) (fun _ q9 => q9) dX3_enterFinally_18 b1 (fun H locs hC => ?_)
    refine lv_aload_n hx hb dX3_enterFinally_21 rfl (lv_at hl 1 rfl) ?_
    refine lv_aload_n hx hb dX3_enterFinally_22 rfl (lv_at hl 0 rfl) ?_
    refine cG_74 (v := (σ.i 74)) hx hb hts i_X3_enterFinally_X3 hown hK hC (hts (.fieldLink RX3 78 "StatementRules2$Machine" "wayValue" "I") k_X3_enterFinally_fieldLink_RX3_78_SR_Machine_wayValue_I) (fun _ q9 => q9) dX3_enterFinally_23 rfl ?_
    refine pPN_X2_6 (v := (σ.i 74)) hx hb hts i_X3_enterFinally_X2 hown hK hC (va_Nw.use rfl (hZ.1 (.fieldLinkNest RX3 247 "StatementRules2$Frame" "wayValue" "I" "StatementRules2") (by decide +kernel))) (fun _ q9 => q9) dX3_enterFinally_26 b1 (fun H locs hC => ?_)
    refine lv_aload_n hx hb dX3_enterFinally_29 rfl (lv_at hl 1 rfl) ?_
    refine lv_aload_n hx hb dX3_enterFinally_30 rfl (lv_at hl 0 rfl) ?_
    refine cG_75 (v := (σ.i 75)) hx hb hts i_X3_enterFinally_X3 hown hK hC (hts (.fieldLink RX3 235 "StatementRules2$Machine" "wayTarget" "I") k_X3_enterFinally_fieldLink_RX3_235_SR_Machine_wayTarget_I) (fun _ q9 => q9) dX3_enterFinally_31 rfl ?_
    refine pPN_X2_7 (v := (σ.i 75)) hx hb hts i_X3_enterFinally_X2 hown hK hC (va_Nw.use rfl (hZ.1 (.fieldLinkNest RX3 248 "StatementRules2$Frame" "wayTarget" "I" "StatementRules2") (by decide +kernel))) (fun _ q9 => q9) dX3_enterFinally_34 b1 (fun H locs hC => ?_)
    refine lv_aload_n hx hb dX3_enterFinally_37 rfl (lv_at hl 0 rfl) ?_
    refine lv_aload_n hx hb dX3_enterFinally_38 rfl (lv_at hl 1 rfl) ?_
    refine lv_aload_n hx hb dX3_enterFinally_39 rfl (lv_at hl 1 rfl) ?_
    refine pGN_X2_1 (v := (CS.o (CS.setO (CS.setO (CS.setO (CS.setOt (CS.setO σ x1 0 3) x1 (some a3)) x1 5 (σ.i 73)) x1 6 (σ.i 74)) x1 7 (σ.i 75)) x1 1)) hx hb hts i_X3_enterFinally_X2 hown hK hC (va_Nw.use rfl (hZ.1 (.fieldLinkNest RX3 197 "StatementRules2$Frame" "argument" "I" "StatementRules2") (by decide +kernel))) (fun _ q9 => q9) dX3_enterFinally_40 b1 rfl ?_
    refine lv_iconst (v := 1) hx hb dX3_enterFinally_43 (by decide) ?_
    refine lv_iadd hx hb dX3_enterFinally_44 ?_
    obtain ⟨p8, hcp8, hf⟩ := hf_bind hf
    have mo9 : CS.hs σ ≤ CS.hs p8.2 := Mono.go hcp8 (m_X3_begin N (CS.setO (CS.setO (CS.setO (CS.setOt (CS.setO σ x1 0 3) x1 (some a3)) x1 5 (σ.i 73)) x1 6 (σ.i 74)) x1 7 (σ.i 75)) x1 ((CS.o (CS.setO (CS.setO (CS.setO (CS.setOt (CS.setO σ x1 0 3) x1 (some a3)) x1 5 (σ.i 73)) x1 6 (σ.i 74)) x1 7 (σ.i 75)) x1 1) + 1))
    have hr9 : CS.hs p8.2 ≤ CS.hs R.2 := Mono.go hf (mono_some (Nat.le_refl _))
    have hFc := cFree hC hA
    refine va_callv (va_runV (As := [.ref x1, .int ((CS.o (CS.setO (CS.setO (CS.setO (CS.setOt (CS.setO σ x1 0 3) x1 (some a3)) x1 5 (σ.i 73)) x1 6 (σ.i 74)) x1 7 (σ.i 75)) x1 1) + 1)]) (rest := []) ⟨hx, hb, hml, hown, hts⟩ (c_X3_begin l dC dI Q N (CS.setO (CS.setO (CS.setO (CS.setOt (CS.setO σ x1 0 3) x1 (some a3)) x1 5 (σ.i 73)) x1 6 (σ.i 74)) x1 7 (σ.i 75)) x1 ((CS.o (CS.setO (CS.setO (CS.setO (CS.setOt (CS.setO σ x1 0 3) x1 (some a3)) x1 5 (σ.i 73)) x1 6 (σ.i 74)) x1 7 (σ.i 75)) x1 1) + 1) p8 hcp8) (cwV 2 hts hX3_enterFinally_X3_begin_v261 rfl rfl rfl (by decide +kernel) ⟨(show 2 + 1 ≤ 3 by omega), (show 8 + (3 + 11) + 60 * 2 ≤ 60 * 3 by omega)⟩) ⟨zPre.blind, va_recv hK hC.1 (ci := 2) (q0 := 7) rfl rfl, cPre_go hZ hK hC⟩ rfl rfl hl.1 rfl (lv_room (Nat.le_of_ble_eq_true rfl)) dX3_enterFinally_45 (cAcc h0 mo9 hr9)) hC.2.2.1 (fun q _ h => hFc q h) hFc (fun u9 t9 H1 locs ht hvm hw hB hz1 hk1 hS => ?_)
    obtain ⟨⟨hP, hK1, hD1⟩, hsz1⟩ := hB
    rw [ht] at hP hsz1
    have hC : CP dC dI Q A s.heap p8.2 H1 locs := ⟨hP, hD1.weaken (fun _ _ _ h => hFc _ h), hS, hsz1⟩
    generalize H1 = H at hC ⊢
    have h11 : (CS.hs σ) ≤ CS.hs p8.2 := Nat.le_trans h0 mo9
    refine W.widen (k := CS.hs p8.2 - (CS.hs σ)) (n := 17 * (CS.hs p8.2 - (CS.hs σ))) (cAcc2 h0 mo9) (cAcc3 h0 mo9) ?_
    obtain rfl := Option.some.inj hf
    exact W.vret hx hb hr (fun t ht hW => ⟨⟨(), rfl, trivial, ⟨by rw [ht]; exact hC.1, va_K.moved hW.alike hK, hC.2.1⟩, by rw [ht]; exact hC.2.2.2⟩, hC.2.2.1.F ht⟩) hC.2.2.1.2.2 dX3_enterFinally_48
theorem k_X3_leaveOne_fieldLink_RX3_60_SR_Machine_depth_I : Cond.fieldLink RX3 60 "StatementRules2$Machine" "depth" "I" ∈ wzX3_leaveOne := List.mem_cons_of_mem _ (List.mem_append_left _ (List.mem_of_getElem? (i := 0) rfl))
theorem i_X3_leaveOne_X3 : ∀ w ∈ wsX30, w ∈ wzX3_leaveOne := fun _ h => List.mem_cons_of_mem _ (List.mem_append_right _ (List.mem_append_left _ (h)))
theorem k_X3_leaveOne_fieldLink_RX3_235_SR_Machine_wayTarget_I : Cond.fieldLink RX3 235 "StatementRules2$Machine" "wayTarget" "I" ∈ wzX3_leaveOne := List.mem_cons_of_mem _ (List.mem_append_left _ (List.mem_of_getElem? (i := 1) rfl))
theorem i_X3_leaveOne_X2 : ∀ w ∈ wsX20, w ∈ wzX3_leaveOne := fun _ h => List.mem_cons_of_mem _ (List.mem_append_right _ (List.mem_append_right _ (List.mem_append_left _ (h))))
theorem k_X3_leaveOne_fieldLink_RX3_72_SR_Machine_taken_I : Cond.fieldLink RX3 72 "StatementRules2$Machine" "taken" "I" ∈ wzX3_leaveOne := List.mem_cons_of_mem _ (List.mem_append_left _ (List.mem_of_getElem? (i := 2) rfl))
theorem k_X3_leaveOne_fieldLink_RX3_40_SR_Machine_code_LSR_Code : Cond.fieldLink RX3 40 "StatementRules2$Machine" "code" "LStatementRules2$Code;" ∈ wzX3_leaveOne := List.mem_cons_of_mem _ (List.mem_append_left _ (List.mem_of_getElem? (i := 3) rfl))
theorem i_X3_leaveOne_X0 : ∀ w ∈ wsX00, w ∈ wzX3_leaveOne := fun _ h => List.mem_cons_of_mem _ (List.mem_append_right _ (List.mem_append_right _ (List.mem_append_right _ (List.mem_append_left _ (h)))))
theorem k_X3_leaveOne_initialized_RX11 : Cond.initialized RX11 ∈ wzX3_leaveOne := List.mem_cons_of_mem _ (List.mem_append_left _ (List.mem_of_getElem? (i := 4) rfl))
theorem k_X3_leaveOne_static_yX11_at : Cond.static yX11_at ∈ wzX3_leaveOne := List.mem_cons_of_mem _ (List.mem_append_left _ (List.mem_of_getElem? (i := 5) rfl))
set_option maxHeartbeats 4000000 in
set_option maxRecDepth 100000 in
theorem j_X3_leaveOne_29 {p : Program} {e : Env} {s : State} {m : MethodId} {args : Array Value} {below : List Frame} {meth : Method} {c : Code} {A : Nat → Prop} (l : Launch) (dC : Nat → ClassId) (dI : Nat → Nat → Nat) (Q : CQ) (N : Nat) (z9h : Nat) (R : Unit × CS) (hx : p.tables.exec = Jvm.exec) (hb : c.code = cX3_leaveOne) (hr : meth.sig.returnType = none) (hml : c.maxLocals = 2) (hown : s.vm.findClass RX3 = some m.cls) (hts : ∀ w ∈ wzX3_leaveOne, w.before args s = true) (hlocks : meth.locks = false) (hZ : zAMB s) (hA : ∀ q : Nat, s.heap.size ≤ q → A q) (hK : va_K (dC, dI) vwCl (cT Q) s) : ∀ (σ : CS) (H : Heap) (locs : List Loc) (ls : Array Slot), f_X3_leaveOne_29 N σ = some R → z9h ≤ CS.hs σ → CP dC dI Q A s.heap σ H locs → lv_has ls 2 [(0, .ref (Q.o 7))] → W p l e ({ frames := 6, cells := CS.hs R.2 - z9h, slots := 17 * (CS.hs R.2 - z9h), locals := 60 * 6 }) s m args below meth c H locs (CS.hs σ - z9h) (17 * (CS.hs σ - z9h)) (MQ below (va_Qv (fun (_ : Unit) => True) (fun (_ : Unit) (t : State) => zPost dC dI A (cW Q R.2) (cT Q) t ∧ t.heap.size = CS.hs R.2) A) args s (CS.hs R.2 - z9h) (17 * (CS.hs R.2 - z9h)) A) (F0 m 29 ls []) := by
  intro σ  H locs ls hf h0 hC hl
  unfold f_X3_leaveOne_29 at hf
  refine lv_aload_n hx hb dX3_leaveOne_29 rfl (lv_at hl 0 rfl) ?_
  obtain ⟨p7, hcp7, hf⟩ := hf_bind hf
  have mo8 : CS.hs σ ≤ CS.hs p7.2 := Mono.go hcp7 (m_X3_arrive N σ)
  have hr9 : CS.hs p7.2 ≤ CS.hs R.2 := Mono.go hf (mono_some (Nat.le_refl _))
  have hFc := cFree hC hA
  refine va_callv (va_runV (As := []) (rest := []) ⟨hx, hb, hml, hown, hts⟩ (c_X3_arrive l dC dI Q N σ p7 hcp7) (cwV 0 hts hX3_leaveOne_X3_arrive_v249 rfl rfl rfl (by decide +kernel) ⟨(show 3 + 1 ≤ 6 by omega), (show 8 + (1 + 11) + 60 * 3 ≤ 60 * 6 by omega)⟩) ⟨zPre.blind, va_recv hK hC.1 (ci := 2) (q0 := 7) rfl rfl, cPre_go hZ hK hC⟩ rfl rfl hl.1 rfl (lv_room (Nat.le_of_ble_eq_true rfl)) dX3_leaveOne_30 (cAcc h0 mo8 hr9)) hC.2.2.1 (fun q _ h => hFc q h) hFc (fun u9 t9 H1 locs ht hvm hw hB hz1 hk1 hS => ?_)
  obtain ⟨⟨hP, hK1, hD1⟩, hsz1⟩ := hB
  rw [ht] at hP hsz1
  have hC : CP dC dI Q A s.heap p7.2 H1 locs := ⟨hP, hD1.weaken (fun _ _ _ h => hFc _ h), hS, hsz1⟩
  generalize H1 = H at hC ⊢
  have h10 : z9h ≤ CS.hs p7.2 := Nat.le_trans h0 mo8
  refine W.widen (k := CS.hs p7.2 - z9h) (n := 17 * (CS.hs p7.2 - z9h)) (cAcc2 h0 mo8) (cAcc3 h0 mo8) ?_
  refine lv_goto (tgt := 123) hx hb dX3_leaveOne_33 (by decide) ?_
  obtain rfl := Option.some.inj hf
  exact W.vret hx hb hr (fun t ht hW => ⟨⟨(), rfl, trivial, ⟨by rw [ht]; exact hC.1, va_K.moved hW.alike hK, hC.2.1⟩, by rw [ht]; exact hC.2.2.2⟩, hC.2.2.1.F ht⟩) hC.2.2.1.2.2 dX3_leaveOne_123
set_option maxHeartbeats 4000000 in
set_option maxRecDepth 100000 in
theorem j_X3_leaveOne_113 {p : Program} {e : Env} {s : State} {m : MethodId} {args : Array Value} {below : List Frame} {meth : Method} {c : Code} {A : Nat → Prop} (l : Launch) (dC : Nat → ClassId) (dI : Nat → Nat → Nat) (Q : CQ) (N : Nat) (z9h : Nat) (R : Unit × CS) (hx : p.tables.exec = Jvm.exec) (hb : c.code = cX3_leaveOne) (hr : meth.sig.returnType = none) (hml : c.maxLocals = 2) (hown : s.vm.findClass RX3 = some m.cls) (hts : ∀ w ∈ wzX3_leaveOne, w.before args s = true) (hlocks : meth.locks = false) (hZ : zAMB s) (hA : ∀ q : Nat, s.heap.size ≤ q → A q) (hK : va_K (dC, dI) vwCl (cT Q) s) : ∀ (σ : CS) (H : Heap) (locs : List Loc) (ls : Array Slot), f_X3_leaveOne_113 N σ = some R → z9h ≤ CS.hs σ → CP dC dI Q A s.heap σ H locs → lv_has ls 2 [(0, .ref (Q.o 7))] → W p l e ({ frames := 6, cells := CS.hs R.2 - z9h, slots := 17 * (CS.hs R.2 - z9h), locals := 60 * 6 }) s m args below meth c H locs (CS.hs σ - z9h) (17 * (CS.hs σ - z9h)) (MQ below (va_Qv (fun (_ : Unit) => True) (fun (_ : Unit) (t : State) => zPost dC dI A (cW Q R.2) (cT Q) t ∧ t.heap.size = CS.hs R.2) A) args s (CS.hs R.2 - z9h) (17 * (CS.hs R.2 - z9h)) A) (F0 m 113 ls []) := by
  intro σ  H locs ls hf h0 hC hl
  unfold f_X3_leaveOne_113 at hf
  refine lv_aload_n hx hb dX3_leaveOne_113 rfl (lv_at hl 0 rfl) ?_
  refine lv_dup hx hb dX3_leaveOne_114 rfl ?_
  refine cG_67 (v := (σ.i 67)) hx hb hts i_X3_leaveOne_X3 hown hK hC (hts (.fieldLink RX3 60 "StatementRules2$Machine" "depth" "I") k_X3_leaveOne_fieldLink_RX3_60_SR_Machine_depth_I) (fun _ q9 => q9) dX3_leaveOne_115 rfl ?_
  refine lv_iconst (v := 1) hx hb dX3_leaveOne_118 (by decide) ?_
  refine lv_isub hx hb dX3_leaveOne_119 ?_
  refine cP_67 (v := ((σ.i 67) - 1)) hx hb hts i_X3_leaveOne_X3 hown hK hC (hts (.fieldLink RX3 60 "StatementRules2$Machine" "depth" "I") k_X3_leaveOne_fieldLink_RX3_60_SR_Machine_depth_I) (fun _ q9 => q9) dX3_leaveOne_120 (fun H locs hC => ?_)
  obtain rfl := Option.some.inj hf
  exact W.vret hx hb hr (fun t ht hW => ⟨⟨(), rfl, trivial, ⟨by rw [ht]; exact hC.1, va_K.moved hW.alike hK, hC.2.1⟩, by rw [ht]; exact hC.2.2.2⟩, hC.2.2.1.F ht⟩) hC.2.2.1.2.2 dX3_leaveOne_123
set_option maxHeartbeats 4000000 in
set_option maxRecDepth 100000 in
theorem j_X3_leaveOne_87 {p : Program} {e : Env} {s : State} {m : MethodId} {args : Array Value} {below : List Frame} {meth : Method} {c : Code} {A : Nat → Prop} (l : Launch) (dC : Nat → ClassId) (dI : Nat → Nat → Nat) (Q : CQ) (N : Nat) (z9h : Nat) (R : Unit × CS) (hx : p.tables.exec = Jvm.exec) (hb : c.code = cX3_leaveOne) (hr : meth.sig.returnType = none) (hml : c.maxLocals = 2) (hown : s.vm.findClass RX3 = some m.cls) (hts : ∀ w ∈ wzX3_leaveOne, w.before args s = true) (hlocks : meth.locks = false) (hZ : zAMB s) (hA : ∀ q : Nat, s.heap.size ≤ q → A q) (hK : va_K (dC, dI) vwCl (cT Q) s) : ∀ (σ : CS) (x1 : Nat) (H : Heap) (locs : List Loc) (ls : Array Slot), f_X3_leaveOne_87 N σ x1 = some R → z9h ≤ CS.hs σ → CP dC dI Q A s.heap σ H locs → lv_has ls 2 [(0, .ref (Q.o 7)), (1, .ref x1)] → W p l e ({ frames := 6, cells := CS.hs R.2 - z9h, slots := 17 * (CS.hs R.2 - z9h), locals := 60 * 6 }) s m args below meth c H locs (CS.hs σ - z9h) (17 * (CS.hs σ - z9h)) (MQ below (va_Qv (fun (_ : Unit) => True) (fun (_ : Unit) (t : State) => zPost dC dI A (cW Q R.2) (cT Q) t ∧ t.heap.size = CS.hs R.2) A) args s (CS.hs R.2 - z9h) (17 * (CS.hs R.2 - z9h)) A) (F0 m 87 ls []) := by
  intro σ x1 H locs ls hf h0 hC hl
  unfold f_X3_leaveOne_87 at hf
  refine lv_aload_n hx hb dX3_leaveOne_87 rfl (lv_at hl 1 rfl) ?_
  obtain ⟨b15, hf⟩ := hf_ite hf
  refine pGN_X2_0 (v := (CS.o σ x1 0)) hx hb hts i_X3_leaveOne_X2 hown hK hC (va_Nw.use rfl (hZ.1 (.fieldLinkNest RX3 194 "StatementRules2$Frame" "phase" "I" "StatementRules2") (by decide +kernel))) (fun _ q9 => q9) dX3_leaveOne_88 b15 rfl ?_
  refine lv_if_ne (tgt := 113) hx hb dX3_leaveOne_91 (by decide) (fun c16 => ?_) (fun c16 => ?_)
  ·
    replace hf := (if_neg c16).symm.trans hf
    exact j_X3_leaveOne_113 l dC dI Q N z9h R hx hb hr hml hown hts hlocks hZ hA hK σ _ _ _ hf h0 hC (lv_sub hl [0] rfl)
  ·
    replace hf := (if_pos c16).symm.trans hf
    refine lv_aload_n hx hb dX3_leaveOne_94 rfl (lv_at hl 0 rfl) ?_
    refine lv_dup hx hb dX3_leaveOne_95 rfl ?_
    refine cG_71 (v := (σ.i 71)) hx hb hts i_X3_leaveOne_X3 hown hK hC (hts (.fieldLink RX3 72 "StatementRules2$Machine" "taken" "I") k_X3_leaveOne_fieldLink_RX3_72_SR_Machine_taken_I) (fun _ q9 => q9) dX3_leaveOne_96 rfl ?_
    refine lv_iconst (v := 1) hx hb dX3_leaveOne_99 (by decide) ?_
    refine lv_isub hx hb dX3_leaveOne_100 ?_
    refine cP_71 (v := ((σ.i 71) - 1)) hx hb hts i_X3_leaveOne_X3 hown hK hC (hts (.fieldLink RX3 72 "StatementRules2$Machine" "taken" "I") k_X3_leaveOne_fieldLink_RX3_72_SR_Machine_taken_I) (fun _ q9 => q9) dX3_leaveOne_101 (fun H locs hC => ?_)
    refine lv_aload_n hx hb dX3_leaveOne_104 rfl (lv_at hl 0 rfl) ?_
    refine lv_iconst (v := 4) hx hb dX3_leaveOne_105 (by decide) ?_
    refine lv_aload_n hx hb dX3_leaveOne_106 rfl (lv_at hl 1 rfl) ?_
    refine pGN_X2_1 (v := (CS.o (CS.setI σ 71 ((σ.i 71) - 1)) x1 1)) hx hb hts i_X3_leaveOne_X2 hown hK hC (va_Nw.use rfl (hZ.1 (.fieldLinkNest RX3 197 "StatementRules2$Frame" "argument" "I" "StatementRules2") (by decide +kernel))) (fun _ q9 => q9) dX3_leaveOne_107 b15 rfl ?_
    obtain ⟨p17, hcp17, hf⟩ := hf_bind hf
    have mo18 : CS.hs σ ≤ CS.hs p17.2 := Mono.go hcp17 (m_X3_note N (CS.setI σ 71 ((σ.i 71) - 1)) 4 (CS.o (CS.setI σ 71 ((σ.i 71) - 1)) x1 1))
    have hr9 : CS.hs p17.2 ≤ CS.hs R.2 := Mono.go hf (m_X3_leaveOne_113 N p17.2)
    have hFc := cFree hC hA
    refine va_callv (va_runV (As := [.int 4, .int (CS.o (CS.setI σ 71 ((σ.i 71) - 1)) x1 1)]) (rest := []) ⟨hx, hb, hml, hown, hts⟩ (c_X3_note l dC dI Q N (CS.setI σ 71 ((σ.i 71) - 1)) 4 (CS.o (CS.setI σ 71 ((σ.i 71) - 1)) x1 1) p17 hcp17) (cwV 2 hts hX3_leaveOne_X3_note_v178 rfl rfl rfl (by decide +kernel) ⟨(show 2 + 1 ≤ 6 by omega), (show 8 + (3 + 11) + 60 * 2 ≤ 60 * 6 by omega)⟩) ⟨zPre.blind, va_recv hK hC.1 (ci := 2) (q0 := 7) rfl rfl, cPre_go hZ hK hC⟩ rfl rfl hl.1 rfl (lv_room (Nat.le_of_ble_eq_true rfl)) dX3_leaveOne_110 (cAcc h0 mo18 hr9)) hC.2.2.1 (fun q _ h => hFc q h) hFc (fun u9 t9 H1 locs ht hvm hw hB hz1 hk1 hS => ?_)
    obtain ⟨⟨hP, hK1, hD1⟩, hsz1⟩ := hB
    rw [ht] at hP hsz1
    have hC : CP dC dI Q A s.heap p17.2 H1 locs := ⟨hP, hD1.weaken (fun _ _ _ h => hFc _ h), hS, hsz1⟩
    generalize H1 = H at hC ⊢
    have h20 : z9h ≤ CS.hs p17.2 := Nat.le_trans h0 mo18
    refine W.widen (k := CS.hs p17.2 - z9h) (n := 17 * (CS.hs p17.2 - z9h)) (cAcc2 h0 mo18) (cAcc3 h0 mo18) ?_
    exact j_X3_leaveOne_113 l dC dI Q N z9h R hx hb hr hml hown hts hlocks hZ hA hK p17.2 _ _ _ hf h20 hC (lv_sub hl [0] rfl)
set_option maxHeartbeats 4000000 in
set_option maxRecDepth 100000 in
theorem c_X3_leaveOne (l : Launch) (dC : Nat → ClassId) (dI : Nat → Nat → Nat) (Q : CQ) (N : Nat) (σ : CS) (R : Unit × CS) (hf : f_X3_leaveOne N σ = some R) : Met l yX3_leaveOne wzX3_leaveOne ({ frames := 6, cells := CS.hs R.2 - CS.hs σ, slots := 17 * (CS.hs R.2 - CS.hs σ), locals := 60 * 6 }) (va_Pc [.ref (Q.o 7)] (zPre dC dI (CS.hs σ) (cW Q σ) (cT Q))) (va_Qv (fun (_ : Unit) => True) (fun (_ : Unit) (t : State) => zPost dC dI (va_A (cW Q σ) (CS.hs σ)) (cW Q R.2) (cT Q) t ∧ t.heap.size = CS.hs R.2) (va_A (cW Q σ) (CS.hs σ))) (CS.hs R.2 - CS.hs σ) (17 * (CS.hs R.2 - CS.hs σ)) (va_A (cW Q σ) (CS.hs σ)) := by
  refine Met.ofW (cc := cX3_leaveOne) (maxL := 2) (ret := none) (by decide) rfl ?_
  intro p e s m args below meth c s₁ B hml hv
  obtain ⟨rfl, hsz, hZ, hP, hK, hD0⟩ := hv
  have hx := B.exec
  have hb := B.bytes
  have hr := B.returns
  have hts := atoms_spec (ws := wzX3_leaveOne) B.pre
  have hown : s.vm.findClass RX3 = some m.cls := findClass_of_methodNamed B.named
  have hlocks := B.notSynchronized
  have hD := hD0.self (sz := CS.hs σ)
  generalize hAe : va_A (cW Q σ) (CS.hs σ) = A at hD ⊢
  have hA : ∀ q : Nat, s.heap.size ≤ q → A q := fun q h => by rw [← hAe]; exact Or.inr (hsz ▸ h)
  have hC : CP dC dI Q A s.heap σ s.heap [] := ⟨hP, hD, va_S.rf, hsz⟩
  have h0 : CS.hs σ ≤ CS.hs σ := Nat.le_refl _
  have hl := lv_entry ([.ref (Q.o 7)]) (n := 2) (Nat.le_of_ble_eq_true rfl)
  rw [lg_entry_eq]
  generalize (lg_sl ([.ref (Q.o 7)]) ++ List.replicate (2 - (lg_sl ([.ref (Q.o 7)])).length) Slot.unset).toArray = ls at hl ⊢
  have hl : lv_has ls 2 [(0, .ref (Q.o 7))] := hl
  unfold f_X3_leaveOne at hf
  refine W.widen (k := CS.hs σ - CS.hs σ) (n := 17 * (CS.hs σ - CS.hs σ)) (Nat.zero_le _) (Nat.zero_le _) ?_
  refine lv_aload_n hx hb dX3_leaveOne_0 rfl (lv_at hl 0 rfl) ?_
  refine lv_aload_n hx hb dX3_leaveOne_1 rfl (lv_at hl 0 rfl) ?_
  refine cG_67 (v := (σ.i 67)) hx hb hts i_X3_leaveOne_X3 hown hK hC (hts (.fieldLink RX3 60 "StatementRules2$Machine" "depth" "I") k_X3_leaveOne_fieldLink_RX3_60_SR_Machine_depth_I) (fun _ q9 => q9) dX3_leaveOne_2 rfl ?_
  refine lv_iconst (v := 1) hx hb dX3_leaveOne_5 (by decide) ?_
  refine lv_isub hx hb dX3_leaveOne_6 ?_
  obtain ⟨p1, hcp1, hf⟩ := hf_bind hf
  have mo2 : CS.hs σ ≤ CS.hs p1.2 := Mono.go hcp1 (m_X3_frame N σ ((σ.i 67) - 1))
  have hr9 : CS.hs p1.2 ≤ CS.hs R.2 := Mono.go hf (mono_oc (m_X3_leaveOne_29 N p1.2) (fun a6 => (mono_ite (mono_ite (mono_ite (mono_bind (m_X3_leaveBody N p1.2 a6) (fun p27 => (mono_some (Nat.le_refl _)))) (mono_ite (mono_ite (m_X3_leaveOne_87 N p1.2 a6) (mono_bind (m_X3_enterFinally N p1.2 a6) (fun p23 => (mono_some (Nat.le_refl _))))) (m_X3_leaveOne_87 N p1.2 a6))) mono_none) (m_X3_leaveOne_29 N p1.2))))
  have hFc := cFree hC hA
  refine va_callq (va_runV (As := [.int ((σ.i 67) - 1)]) (rest := []) ⟨hx, hb, hml, hown, hts⟩ (c_X3_frame l dC dI Q N σ ((σ.i 67) - 1) p1 hcp1) (cwV 1 hts hX3_leaveOne_X3_frame_v216 rfl rfl rfl (by decide +kernel) ⟨(show 1 + 1 ≤ 6 by omega), (show 8 + (2 + 11) + 60 * 1 ≤ 60 * 6 by omega)⟩) ⟨zPre.blind, va_recv hK hC.1 (ci := 2) (q0 := 7) rfl rfl, cPre_go hZ hK hC⟩ rfl rfl hl.1 rfl (lv_room (Nat.le_of_ble_eq_true rfl)) dX3_leaveOne_7 (cAcc h0 mo2 hr9)) hC.2.2.1 (fun q _ h => hFc q h) hFc (fun r3 u9 t9 H1 locs ht hvm hw hB hz1 hk1 hS => ?_)
  obtain ⟨⟨hP, hK1, hD1⟩, hsz1⟩ := hB
  rw [ht] at hP hsz1
  have hC : CP dC dI Q A s.heap p1.2 H1 locs := ⟨hP, hD1.weaken (fun _ _ _ h => hFc _ h), hS, hsz1⟩
  generalize H1 = H at hC ⊢
  have h4 : (CS.hs σ) ≤ CS.hs p1.2 := Nat.le_trans h0 mo2
  refine W.widen (k := CS.hs p1.2 - (CS.hs σ)) (n := 17 * (CS.hs p1.2 - (CS.hs σ))) (cAcc2 h0 mo2) (cAcc3 h0 mo2) ?_
  obtain rfl : r3 = p1.1 := hw
  rcases hf_oc hf with ⟨q5, hf⟩ | ⟨a6, q5, hf⟩
  ·
    refine W.eq (congrArg (fun v9 => F0 m 10 ls (va_rf v9 :: [])) q5) ?_
    refine W.eq (g2 := F0 m 10 ls (.null :: [])) rfl ?_
    refine lv_astore_nN (lv' := [(1, .null), (0, .ref (Q.o 7))]) hx hb dX3_leaveOne_10 rfl hl (by decide) rfl (fun ls hl => ?_)
    refine lv_aload_nN hx hb dX3_leaveOne_11 rfl (lv_at hl 0 rfl) ?_
    refine lv_ifnullN (tgt := 29) hx hb dX3_leaveOne_12 (by decide) ?_
    exact j_X3_leaveOne_29 l dC dI Q N (CS.hs σ) R hx hb hr hml hown hts hlocks hZ hA hK p1.2 _ _ _ hf h4 hC (lv_sub hl [1] rfl)
  ·
    refine W.eq (congrArg (fun v9 => F0 m 10 ls (va_rf v9 :: [])) q5) ?_
    refine W.eq (g2 := F0 m 10 ls (.ref a6 :: [])) rfl ?_
    refine lv_astore_n (lv' := [(1, .ref a6), (0, .ref (Q.o 7))]) hx hb dX3_leaveOne_10 rfl hl (by decide) rfl (fun ls hl => ?_)
    refine lv_aload_n hx hb dX3_leaveOne_11 rfl (lv_at hl 0 rfl) ?_
    refine lv_ifnull hx hb dX3_leaveOne_12 ?_
    refine lv_aload_n hx hb dX3_leaveOne_15 rfl (lv_at hl 1 rfl) ?_
    refine cG_67 (v := (p1.2.i 67)) hx hb hts i_X3_leaveOne_X3 hown hK hC (hts (.fieldLink RX3 60 "StatementRules2$Machine" "depth" "I") k_X3_leaveOne_fieldLink_RX3_60_SR_Machine_depth_I) (fun _ q9 => q9) dX3_leaveOne_16 rfl ?_
    refine lv_aload_n hx hb dX3_leaveOne_19 rfl (lv_at hl 1 rfl) ?_
    refine cG_75 (v := (p1.2.i 75)) hx hb hts i_X3_leaveOne_X3 hown hK hC (hts (.fieldLink RX3 235 "StatementRules2$Machine" "wayTarget" "I") k_X3_leaveOne_fieldLink_RX3_235_SR_Machine_wayTarget_I) (fun _ q9 => q9) dX3_leaveOne_20 rfl ?_
    refine lv_bipush (v := 32) hx hb dX3_leaveOne_23 (by decide) ?_
    refine lv_irem hx hb dX3_leaveOne_25 (by decide) ?_
    refine lv_icmp_gt (tgt := 36) hx hb dX3_leaveOne_26 (by decide) (fun c11 => ?_) (fun c11 => ?_)
    ·
      replace hf := (if_pos c11).symm.trans hf
      refine lv_aload_n hx hb dX3_leaveOne_36 rfl (lv_at hl 0 rfl) ?_
      obtain ⟨b12, hf⟩ := hf_ite hf
      refine pGN_X2_0 (v := (CS.o p1.2 a6 0)) hx hb hts i_X3_leaveOne_X2 hown hK hC (va_Nw.use rfl (hZ.1 (.fieldLinkNest RX3 194 "StatementRules2$Frame" "phase" "I" "StatementRules2") (by decide +kernel))) (fun _ q9 => q9) dX3_leaveOne_37 b12 rfl ?_
      refine lv_iconst (v := 1) hx hb dX3_leaveOne_40 (by decide) ?_
      refine lv_icmp_ne (tgt := 52) hx hb dX3_leaveOne_41 (by decide) (fun c13 => ?_) (fun c13 => ?_)
      ·
        replace hf := (if_neg c13).symm.trans hf
        refine lv_aload_n hx hb dX3_leaveOne_52 rfl (lv_at hl 0 rfl) ?_
        refine pGN_X2_0 (v := (CS.o p1.2 a6 0)) hx hb hts i_X3_leaveOne_X2 hown hK hC (va_Nw.use rfl (hZ.1 (.fieldLinkNest RX3 194 "StatementRules2$Frame" "phase" "I" "StatementRules2") (by decide +kernel))) (fun _ q9 => q9) dX3_leaveOne_53 b12 rfl ?_
        refine lv_iconst (v := 2) hx hb dX3_leaveOne_56 (by decide) ?_
        refine lv_icmp_ne (tgt := 87) hx hb dX3_leaveOne_57 (by decide) (fun c14 => ?_) (fun c14 => ?_)
        ·
          replace hf := (if_neg c14).symm.trans hf
          exact j_X3_leaveOne_87 l dC dI Q N (CS.hs σ) R hx hb hr hml hown hts hlocks hZ hA hK p1.2 a6 _ _ _ hf h4 hC (lv_sub hl [1, 0] rfl)
        ·
          replace hf := (if_pos c14).symm.trans hf
          refine lv_aload_n hx hb dX3_leaveOne_60 rfl (lv_at hl 1 rfl) ?_
          refine cG_58 hx hb hts i_X3_leaveOne_X3 hown hK hC (hts (.fieldLink RX3 40 "StatementRules2$Machine" "code" "LStatementRules2$Code;") k_X3_leaveOne_fieldLink_RX3_40_SR_Machine_code_LSR_Code) (fun _ q9 => q9) dX3_leaveOne_61 ?_
          refine cGN_17 hx hb hts i_X3_leaveOne_X0 hown hK hC (va_Nw.use rfl (hZ.1 (.fieldLinkNest RX3 153 "StatementRules2$Code" "targets" "[I" "StatementRules2") (by decide +kernel))) (fun _ q9 => q9) dX3_leaveOne_64 ?_
          refine lv_aload_n hx hb dX3_leaveOne_67 rfl (lv_at hl 0 rfl) ?_
          refine pGN_X2_1 (v := (CS.o p1.2 a6 1)) hx hb hts i_X3_leaveOne_X2 hown hK hC (va_Nw.use rfl (hZ.1 (.fieldLinkNest RX3 197 "StatementRules2$Frame" "argument" "I" "StatementRules2") (by decide +kernel))) (fun _ q9 => q9) dX3_leaveOne_68 b12 rfl ?_
          refine lv_iconst (v := 1) hx hb dX3_leaveOne_71 (by decide) ?_
          refine lv_iadd hx hb dX3_leaveOne_72 ?_
          have he9 := (cArr_17 (Q := Q) (σ := p1.2))
          have hFc := cFree1 hC hA he9
          have hr9 : CS.hs p1.2 ≤ CS.hs R.2 := Mono.go hf (mono_ite (m_X3_leaveOne_87 N p1.2 a6) (mono_bind (m_X3_enterFinally N p1.2 a6) (fun p23 => (mono_some (Nat.le_refl _)))))
          refine va_calli (va_runSN (As := [.ref (Q.q 17), .int ((CS.o p1.2 a6 1) + 1)]) (rest := []) ⟨hx, hb, hml, hown, hts⟩ (c_X11_at l dC dI _ (Q.q 17) (Q.c 0) 1024 (p1.2.a 17) ((CS.o p1.2 a6 1) + 1) (by decide)) ⟨va_cnB 2 hts hX3_leaveOne_X11_at_n111 rfl rfl rfl (hZ.1 (.methodLinkNest RX3 111 yX11_at "StatementRules2") (by decide +kernel)) (hts (.initialized RX11) k_X3_leaveOne_initialized_RX11) (by decide +kernel) ⟨(show 1 + 1 ≤ 6 by omega), (show 8 + (2 + 11) + 60 * 1 ≤ 60 * 6 by omega)⟩, (hts (.static yX11_at) k_X3_leaveOne_static_yX11_at), trivial⟩ ⟨zPre.blind, zPre.go hZ (cOne hC.1 he9) (hK.sub (tys' := [(Q.c 0, .int)]) [0] rfl) (cOneD hC.2.1 he9)⟩ rfl rfl hl.1 rfl (lv_room (Nat.le_of_ble_eq_true rfl)) dX3_leaveOne_73 ⟨cAcc4 h4 hr9, cAcc5 h4 hr9⟩) hC.2.2.1 (fun q _ h => hFc q h) hFc (fun r21 u9 t9 H1 locs ht hvm hw hB hz1 hk1 hS => ?_)
          obtain ⟨⟨hP1, hK1, hD1⟩, hsz1⟩ := hB
          rw [ht] at hP1 hsz1
          have hC := cBack (σ' := p1.2) hC he9 (cSelf he9) (Eq.refl (CS.hs p1.2)) hk1 hP1 hsz1 hS
          generalize H1 = H at hC ⊢
          obtain rfl : r21 = (gAt (p1.2.a 17) 1024 ((CS.o p1.2 a6 1) + 1)) := hw
          refine lv_if_lt (tgt := 87) hx hb dX3_leaveOne_76 (by decide) (fun c22 => ?_) (fun c22 => ?_)
          ·
            replace hf := (if_pos c22).symm.trans hf
            exact j_X3_leaveOne_87 l dC dI Q N (CS.hs σ) R hx hb hr hml hown hts hlocks hZ hA hK p1.2 a6 _ _ _ hf h4 hC (lv_sub hl [1, 0] rfl)
          ·
            replace hf := (if_neg c22).symm.trans hf
            refine lv_aload_n hx hb dX3_leaveOne_79 rfl (lv_at hl 1 rfl) ?_
            refine lv_aload_n hx hb dX3_leaveOne_80 rfl (lv_at hl 0 rfl) ?_
            obtain ⟨p23, hcp23, hf⟩ := hf_bind hf
            have mo24 : CS.hs p1.2 ≤ CS.hs p23.2 := Mono.go hcp23 (m_X3_enterFinally N p1.2 a6)
            have hr9 : CS.hs p23.2 ≤ CS.hs R.2 := Mono.go hf (mono_some (Nat.le_refl _))
            have hFc := cFree hC hA
            refine va_callv (va_runV (As := [.ref a6]) (rest := []) ⟨hx, hb, hml, hown, hts⟩ (c_X3_enterFinally l dC dI Q N p1.2 a6 p23 hcp23) (cwV 1 hts hX3_leaveOne_X3_enterFinally_v255 rfl rfl rfl (by decide +kernel) ⟨(show 3 + 1 ≤ 6 by omega), (show 8 + (2 + 11) + 60 * 3 ≤ 60 * 6 by omega)⟩) ⟨zPre.blind, va_recv hK hC.1 (ci := 2) (q0 := 7) rfl rfl, cPre_go hZ hK hC⟩ rfl rfl hl.1 rfl (lv_room (Nat.le_of_ble_eq_true rfl)) dX3_leaveOne_81 (cAcc h4 mo24 hr9)) hC.2.2.1 (fun q _ h => hFc q h) hFc (fun u9 t9 H1 locs ht hvm hw hB hz1 hk1 hS => ?_)
            obtain ⟨⟨hP, hK1, hD1⟩, hsz1⟩ := hB
            rw [ht] at hP hsz1
            have hC : CP dC dI Q A s.heap p23.2 H1 locs := ⟨hP, hD1.weaken (fun _ _ _ h => hFc _ h), hS, hsz1⟩
            generalize H1 = H at hC ⊢
            have h26 : (CS.hs σ) ≤ CS.hs p23.2 := Nat.le_trans h4 mo24
            refine W.widen (k := CS.hs p23.2 - (CS.hs σ)) (n := 17 * (CS.hs p23.2 - (CS.hs σ))) (cAcc2 h4 mo24) (cAcc3 h4 mo24) ?_
            refine lv_goto (tgt := 123) hx hb dX3_leaveOne_84 (by decide) ?_
            obtain rfl := Option.some.inj hf
            exact W.vret hx hb hr (fun t ht hW => ⟨⟨(), rfl, trivial, ⟨by rw [ht]; exact hC.1, va_K.moved hW.alike hK, hC.2.1⟩, by rw [ht]; exact hC.2.2.2⟩, hC.2.2.1.F ht⟩) hC.2.2.1.2.2 dX3_leaveOne_123
      ·
        replace hf := (if_pos c13).symm.trans hf
        refine lv_aload_n hx hb dX3_leaveOne_44 rfl (lv_at hl 1 rfl) ?_
        refine lv_aload_n hx hb dX3_leaveOne_45 rfl (lv_at hl 0 rfl) ?_
        obtain ⟨p27, hcp27, hf⟩ := hf_bind hf
        have mo28 : CS.hs p1.2 ≤ CS.hs p27.2 := Mono.go hcp27 (m_X3_leaveBody N p1.2 a6)
        have hr9 : CS.hs p27.2 ≤ CS.hs R.2 := Mono.go hf (mono_some (Nat.le_refl _))
        have hFc := cFree hC hA
        refine va_callv (va_runV (As := [.ref a6]) (rest := []) ⟨hx, hb, hml, hown, hts⟩ (c_X3_leaveBody l dC dI Q N p1.2 a6 p27 hcp27) (cwV 1 hts hX3_leaveOne_X3_leaveBody_v252 rfl rfl rfl (by decide +kernel) ⟨(show 5 + 1 ≤ 6 by omega), (show 8 + (3 + 11) + 60 * 5 ≤ 60 * 6 by omega)⟩) ⟨zPre.blind, va_recv hK hC.1 (ci := 2) (q0 := 7) rfl rfl, cPre_go hZ hK hC⟩ rfl rfl hl.1 rfl (lv_room (Nat.le_of_ble_eq_true rfl)) dX3_leaveOne_46 (cAcc h4 mo28 hr9)) hC.2.2.1 (fun q _ h => hFc q h) hFc (fun u9 t9 H1 locs ht hvm hw hB hz1 hk1 hS => ?_)
        obtain ⟨⟨hP, hK1, hD1⟩, hsz1⟩ := hB
        rw [ht] at hP hsz1
        have hC : CP dC dI Q A s.heap p27.2 H1 locs := ⟨hP, hD1.weaken (fun _ _ _ h => hFc _ h), hS, hsz1⟩
        generalize H1 = H at hC ⊢
        have h30 : (CS.hs σ) ≤ CS.hs p27.2 := Nat.le_trans h4 mo28
        refine W.widen (k := CS.hs p27.2 - (CS.hs σ)) (n := 17 * (CS.hs p27.2 - (CS.hs σ))) (cAcc2 h4 mo28) (cAcc3 h4 mo28) ?_
        refine lv_goto (tgt := 123) hx hb dX3_leaveOne_49 (by decide) ?_
        obtain rfl := Option.some.inj hf
        exact W.vret hx hb hr (fun t ht hW => ⟨⟨(), rfl, trivial, ⟨by rw [ht]; exact hC.1, va_K.moved hW.alike hK, hC.2.1⟩, by rw [ht]; exact hC.2.2.2⟩, hC.2.2.1.F ht⟩) hC.2.2.1.2.2 dX3_leaveOne_123
    ·
      replace hf := (if_neg c11).symm.trans hf
      exact j_X3_leaveOne_29 l dC dI Q N (CS.hs σ) R hx hb hr hml hown hts hlocks hZ hA hK p1.2 _ _ _ hf h4 hC (lv_sub hl [1] rfl)
theorem k_X3_perform_fieldLink_RX3_40_SR_Machine_code_LSR_Code : Cond.fieldLink RX3 40 "StatementRules2$Machine" "code" "LStatementRules2$Code;" ∈ wzX3_perform := List.mem_cons_of_mem _ (List.mem_append_left _ (List.mem_of_getElem? (i := 0) rfl))
theorem i_X3_perform_X3 : ∀ w ∈ wsX30, w ∈ wzX3_perform := fun _ h => List.mem_cons_of_mem _ (List.mem_append_right _ (List.mem_append_left _ (h)))
theorem i_X3_perform_X0 : ∀ w ∈ wsX00, w ∈ wzX3_perform := fun _ h => List.mem_cons_of_mem _ (List.mem_append_right _ (List.mem_append_right _ (List.mem_append_left _ (h))))
theorem k_X3_perform_fieldLink_RX3_9_SR_Machine_cells_I : Cond.fieldLink RX3 9 "StatementRules2$Machine" "cells" "[I" ∈ wzX3_perform := List.mem_cons_of_mem _ (List.mem_append_left _ (List.mem_of_getElem? (i := 1) rfl))
theorem k_X3_perform_initialized_RX11 : Cond.initialized RX11 ∈ wzX3_perform := List.mem_cons_of_mem _ (List.mem_append_left _ (List.mem_of_getElem? (i := 2) rfl))
theorem k_X3_perform_static_yX11_put : Cond.static yX11_put ∈ wzX3_perform := List.mem_cons_of_mem _ (List.mem_append_left _ (List.mem_of_getElem? (i := 3) rfl))
theorem k_X3_perform_fieldLink_RX3_54_SR_Machine_height_I : Cond.fieldLink RX3 54 "StatementRules2$Machine" "height" "I" ∈ wzX3_perform := List.mem_cons_of_mem _ (List.mem_append_left _ (List.mem_of_getElem? (i := 4) rfl))
theorem k_X3_perform_fieldLink_RX3_57_SR_Machine_place_I : Cond.fieldLink RX3 57 "StatementRules2$Machine" "place" "I" ∈ wzX3_perform := List.mem_cons_of_mem _ (List.mem_append_left _ (List.mem_of_getElem? (i := 5) rfl))
theorem k_X3_perform_fieldLink_RX3_60_SR_Machine_depth_I : Cond.fieldLink RX3 60 "StatementRules2$Machine" "depth" "I" ∈ wzX3_perform := List.mem_cons_of_mem _ (List.mem_append_left _ (List.mem_of_getElem? (i := 6) rfl))
theorem k_X3_perform_fieldLink_RX3_63_SR_Machine_openedCount_I : Cond.fieldLink RX3 63 "StatementRules2$Machine" "openedCount" "I" ∈ wzX3_perform := List.mem_cons_of_mem _ (List.mem_append_left _ (List.mem_of_getElem? (i := 7) rfl))
theorem k_X3_perform_fieldLink_RX3_66_SR_Machine_rowCount_I : Cond.fieldLink RX3 66 "StatementRules2$Machine" "rowCount" "I" ∈ wzX3_perform := List.mem_cons_of_mem _ (List.mem_append_left _ (List.mem_of_getElem? (i := 8) rfl))
theorem k_X3_perform_fieldLink_RX3_69_SR_Machine_steps_I : Cond.fieldLink RX3 69 "StatementRules2$Machine" "steps" "I" ∈ wzX3_perform := List.mem_cons_of_mem _ (List.mem_append_left _ (List.mem_of_getElem? (i := 9) rfl))
theorem k_X3_perform_fieldLink_RX3_72_SR_Machine_taken_I : Cond.fieldLink RX3 72 "StatementRules2$Machine" "taken" "I" ∈ wzX3_perform := List.mem_cons_of_mem _ (List.mem_append_left _ (List.mem_of_getElem? (i := 10) rfl))
theorem k_X3_perform_fieldLink_RX3_75_SR_Machine_way_I : Cond.fieldLink RX3 75 "StatementRules2$Machine" "way" "I" ∈ wzX3_perform := List.mem_cons_of_mem _ (List.mem_append_left _ (List.mem_of_getElem? (i := 11) rfl))
theorem k_X3_perform_fieldLink_RX3_78_SR_Machine_wayValue_I : Cond.fieldLink RX3 78 "StatementRules2$Machine" "wayValue" "I" ∈ wzX3_perform := List.mem_cons_of_mem _ (List.mem_append_left _ (List.mem_of_getElem? (i := 12) rfl))
theorem k_X3_perform_fieldLink_RX3_81_SR_Machine_wayThrown_LSR_Thrown : Cond.fieldLink RX3 81 "StatementRules2$Machine" "wayThrown" "LStatementRules2$Thrown;" ∈ wzX3_perform := List.mem_cons_of_mem _ (List.mem_append_left _ (List.mem_of_getElem? (i := 13) rfl))
theorem k_X3_perform_fieldLink_RX3_85_SR_Machine_outcome_I : Cond.fieldLink RX3 85 "StatementRules2$Machine" "outcome" "I" ∈ wzX3_perform := List.mem_cons_of_mem _ (List.mem_append_left _ (List.mem_of_getElem? (i := 14) rfl))
theorem k_X3_perform_constant_RX3_88_4000000 : Cond.constant RX3 88 (4000000) ∈ wzX3_perform := List.mem_cons_of_mem _ (List.mem_append_left _ (List.mem_of_getElem? (i := 15) rfl))
set_option maxHeartbeats 4000000 in
set_option maxRecDepth 100000 in
theorem j_X3_perform_148 {p : Program} {e : Env} {s : State} {m : MethodId} {args : Array Value} {below : List Frame} {meth : Method} {c : Code} {A : Nat → Prop} (l : Launch) (dC : Nat → ClassId) (dI : Nat → Nat → Nat) (Q : CQ) (N : Nat) (z9h : Nat) (R : Int32 × CS) (hx : p.tables.exec = Jvm.exec) (hb : c.code = cX3_perform) (hr : meth.sig.returnType = (some .int)) (hml : c.maxLocals = 4) (hown : s.vm.findClass RX3 = some m.cls) (hts : ∀ w ∈ wzX3_perform, w.before args s = true) (hlocks : meth.locks = false) (hZ : zAMB s) (hA : ∀ q : Nat, s.heap.size ≤ q → A q) (hK : va_K (dC, dI) vwCl (cT Q) s) : ∀ (σ : CS) (H : Heap) (locs : List Loc) (ls : Array Slot), f_X3_perform_148 N σ = some R → z9h ≤ CS.hs σ → CP dC dI Q A s.heap σ H locs → lv_has ls 4 [(0, .ref (Q.o 7))] → W p l e ({ frames := 7, cells := CS.hs R.2 - z9h, slots := 17 * (CS.hs R.2 - z9h), locals := 60 * 7 }) s m args below meth c H locs (CS.hs σ - z9h) (17 * (CS.hs σ - z9h)) (MQ below (va_Qi (fun (r : Int32) (_ : Unit) => r = R.1) (fun (_ : Unit) (t : State) => zPost dC dI A (cW Q R.2) (cT Q) t ∧ t.heap.size = CS.hs R.2) A) args s (CS.hs R.2 - z9h) (17 * (CS.hs R.2 - z9h)) A) (F0 m 148 ls []) := by
  intro σ  H locs ls hf h0 hC hl
  unfold f_X3_perform_148 at hf
  refine lv_aload_n hx hb dX3_perform_148 rfl (lv_at hl 0 rfl) ?_
  refine cG_72 (v := (σ.i 72)) hx hb hts i_X3_perform_X3 hown hK hC (hts (.fieldLink RX3 85 "StatementRules2$Machine" "outcome" "I") k_X3_perform_fieldLink_RX3_85_SR_Machine_outcome_I) (fun _ q9 => q9) dX3_perform_149 rfl ?_
  obtain rfl := Option.some.inj hf
  exact W.iret (v := (σ.i 72)) hx hb hr (fun t ht hW => ⟨⟨(σ.i 72), (), rfl, rfl, ⟨by rw [ht]; exact hC.1, va_K.moved hW.alike hK, hC.2.1⟩, by rw [ht]; exact hC.2.2.2⟩, hC.2.2.1.F ht⟩) hC.2.2.1.2.2 dX3_perform_152
set_option maxHeartbeats 4000000 in
set_option maxRecDepth 100000 in
theorem j_X3_perform_110 {p : Program} {e : Env} {s : State} {m : MethodId} {args : Array Value} {below : List Frame} {meth : Method} {c : Code} {A : Nat → Prop} (l : Launch) (dC : Nat → ClassId) (dI : Nat → Nat → Nat) (Q : CQ) (N : Nat) (z9h : Nat) (R : Int32 × CS) (hx : p.tables.exec = Jvm.exec) (hb : c.code = cX3_perform) (hr : meth.sig.returnType = (some .int)) (hml : c.maxLocals = 4) (hown : s.vm.findClass RX3 = some m.cls) (hts : ∀ w ∈ wzX3_perform, w.before args s = true) (hlocks : meth.locks = false) (hZ : zAMB s) (hA : ∀ q : Nat, s.heap.size ≤ q → A q) (hK : va_K (dC, dI) vwCl (cT Q) s) : ∀ (n9 : Nat), ∀ (σ : CS) (x3 : Int32) (H : Heap) (locs : List Loc) (ls : Array Slot), f_X3_perform_110 N n9 σ x3 = some R → z9h ≤ CS.hs σ → CP dC dI Q A s.heap σ H locs → lv_has ls 4 [(0, .ref (Q.o 7)), (3, .int x3)] → W p l e ({ frames := 7, cells := CS.hs R.2 - z9h, slots := 17 * (CS.hs R.2 - z9h), locals := 60 * 7 }) s m args below meth c H locs (CS.hs σ - z9h) (17 * (CS.hs σ - z9h)) (MQ below (va_Qi (fun (r : Int32) (_ : Unit) => r = R.1) (fun (_ : Unit) (t : State) => zPost dC dI A (cW Q R.2) (cT Q) t ∧ t.heap.size = CS.hs R.2) A) args s (CS.hs R.2 - z9h) (17 * (CS.hs R.2 - z9h)) A) (F0 m 110 ls []) := by
  intro n9
  induction n9 with
  | zero => intro σ x3 H locs ls hf; exact absurd hf (by intro q9; cases q9)
  | succ n9 ih =>
    intro σ x3 H locs ls hf h0 hC hl
    replace hf : b_X3_perform_110 N (f_X3_perform_110 N n9) σ x3 = some R := hf
    unfold b_X3_perform_110 at hf
    have hMK := fun (σ : CS) (x3 : Int32) => m_X3_perform_110 N n9 σ x3
    refine lv_iload_n hx hb dX3_perform_110 rfl (lv_at hl 1 rfl) ?_
    refine lv_ldc (v := 4000000) hx hb hown (hts (.constant RX3 88 (4000000)) k_X3_perform_constant_RX3_88_4000000) dX3_perform_111 ?_
    refine lv_icmp_ge (tgt := 148) hx hb dX3_perform_113 (by decide) (fun c2 => ?_) (fun c2 => ?_)
    ·
      replace hf := (if_pos c2).symm.trans hf
      exact j_X3_perform_148 l dC dI Q N z9h R hx hb hr hml hown hts hlocks hZ hA hK σ _ _ _ hf h0 hC (lv_sub hl [0] rfl)
    ·
      replace hf := (if_neg c2).symm.trans hf
      refine lv_aload_n hx hb dX3_perform_116 rfl (lv_at hl 0 rfl) ?_
      refine cG_72 (v := (σ.i 72)) hx hb hts i_X3_perform_X3 hown hK hC (hts (.fieldLink RX3 85 "StatementRules2$Machine" "outcome" "I") k_X3_perform_fieldLink_RX3_85_SR_Machine_outcome_I) (fun _ q9 => q9) dX3_perform_117 rfl ?_
      refine lv_iconst (v := (-1)) hx hb dX3_perform_120 (by decide) ?_
      refine lv_icmp_ne (tgt := 148) hx hb dX3_perform_121 (by decide) (fun c3 => ?_) (fun c3 => ?_)
      ·
        replace hf := (if_neg c3).symm.trans hf
        exact j_X3_perform_148 l dC dI Q N z9h R hx hb hr hml hown hts hlocks hZ hA hK σ _ _ _ hf h0 hC (lv_sub hl [0] rfl)
      ·
        replace hf := (if_pos c3).symm.trans hf
        refine lv_aload_n hx hb dX3_perform_124 rfl (lv_at hl 0 rfl) ?_
        refine cG_73 (v := (σ.i 73)) hx hb hts i_X3_perform_X3 hown hK hC (hts (.fieldLink RX3 75 "StatementRules2$Machine" "way" "I") k_X3_perform_fieldLink_RX3_75_SR_Machine_way_I) (fun _ q9 => q9) dX3_perform_125 rfl ?_
        refine lv_if_ne (tgt := 138) hx hb dX3_perform_128 (by decide) (fun c4 => ?_) (fun c4 => ?_)
        ·
          replace hf := (if_neg c4).symm.trans hf
          refine lv_aload_n hx hb dX3_perform_138 rfl (lv_at hl 0 rfl) ?_
          obtain ⟨p5, hcp5, hf⟩ := hf_bind hf
          have mo6 : CS.hs σ ≤ CS.hs p5.2 := Mono.go hcp5 (m_X3_leaveOne N σ)
          have hr9 : CS.hs p5.2 ≤ CS.hs R.2 := Mono.go hf (hMK p5.2 (x3 + 1))
          have hFc := cFree hC hA
          refine va_callv (va_runV (As := []) (rest := []) ⟨hx, hb, hml, hown, hts⟩ (c_X3_leaveOne l dC dI Q N σ p5 hcp5) (cwV 0 hts hX3_perform_X3_leaveOne_v92 rfl rfl rfl (by decide +kernel) ⟨(show 6 + 1 ≤ 7 by omega), (show 8 + (2 + 11) + 60 * 6 ≤ 60 * 7 by omega)⟩) ⟨zPre.blind, va_recv hK hC.1 (ci := 2) (q0 := 7) rfl rfl, cPre_go hZ hK hC⟩ rfl rfl hl.1 rfl (lv_room (Nat.le_of_ble_eq_true rfl)) dX3_perform_139 (cAcc h0 mo6 hr9)) hC.2.2.1 (fun q _ h => hFc q h) hFc (fun u9 t9 H1 locs ht hvm hw hB hz1 hk1 hS => ?_)
          obtain ⟨⟨hP, hK1, hD1⟩, hsz1⟩ := hB
          rw [ht] at hP hsz1
          have hC : CP dC dI Q A s.heap p5.2 H1 locs := ⟨hP, hD1.weaken (fun _ _ _ h => hFc _ h), hS, hsz1⟩
          generalize H1 = H at hC ⊢
          have h8 : z9h ≤ CS.hs p5.2 := Nat.le_trans h0 mo6
          refine W.widen (k := CS.hs p5.2 - z9h) (n := 17 * (CS.hs p5.2 - z9h)) (cAcc2 h0 mo6) (cAcc3 h0 mo6) ?_
          refine lv_iinc (v := (x3 + 1)) (lv' := [(3, .int (x3 + 1)), (0, .ref (Q.o 7))]) hx hb dX3_perform_142 hl (k := 1) rfl rfl (by decide) rfl (fun ls hl => ?_)
          refine lv_goto (tgt := 110) hx hb dX3_perform_145 (by decide) ?_
          exact ih p5.2 (x3 + 1) _ _ _ hf h8 hC (lv_sub hl [1, 0] rfl)
        ·
          replace hf := (if_pos c4).symm.trans hf
          refine lv_aload_n hx hb dX3_perform_131 rfl (lv_at hl 0 rfl) ?_
          obtain ⟨p9, hcp9, hf⟩ := hf_bind hf
          have mo10 : CS.hs σ ≤ CS.hs p9.2 := Mono.go hcp9 (m_X3_instruction N σ)
          have hr9 : CS.hs p9.2 ≤ CS.hs R.2 := Mono.go hf (hMK p9.2 (x3 + 1))
          have hFc := cFree hC hA
          refine va_callv (va_runV (As := []) (rest := []) ⟨hx, hb, hml, hown, hts⟩ (c_X3_instruction l dC dI Q N σ p9 hcp9) (cwV 0 hts hX3_perform_X3_instruction_v89 rfl rfl rfl (by decide +kernel) ⟨(show 6 + 1 ≤ 7 by omega), (show 8 + (3 + 11) + 60 * 6 ≤ 60 * 7 by omega)⟩) ⟨zPre.blind, va_recv hK hC.1 (ci := 2) (q0 := 7) rfl rfl, cPre_go hZ hK hC⟩ rfl rfl hl.1 rfl (lv_room (Nat.le_of_ble_eq_true rfl)) dX3_perform_132 (cAcc h0 mo10 hr9)) hC.2.2.1 (fun q _ h => hFc q h) hFc (fun u9 t9 H1 locs ht hvm hw hB hz1 hk1 hS => ?_)
          obtain ⟨⟨hP, hK1, hD1⟩, hsz1⟩ := hB
          rw [ht] at hP hsz1
          have hC : CP dC dI Q A s.heap p9.2 H1 locs := ⟨hP, hD1.weaken (fun _ _ _ h => hFc _ h), hS, hsz1⟩
          generalize H1 = H at hC ⊢
          have h12 : z9h ≤ CS.hs p9.2 := Nat.le_trans h0 mo10
          refine W.widen (k := CS.hs p9.2 - z9h) (n := 17 * (CS.hs p9.2 - z9h)) (cAcc2 h0 mo10) (cAcc3 h0 mo10) ?_
          refine lv_goto (tgt := 142) hx hb dX3_perform_135 (by decide) ?_
          refine lv_iinc (v := (x3 + 1)) (lv' := [(3, .int (x3 + 1)), (0, .ref (Q.o 7))]) hx hb dX3_perform_142 hl (k := 1) rfl rfl (by decide) rfl (fun ls hl => ?_)
          refine lv_goto (tgt := 110) hx hb dX3_perform_145 (by decide) ?_
          exact ih p9.2 (x3 + 1) _ _ _ hf h12 hC (lv_sub hl [1, 0] rfl)
set_option maxHeartbeats 4000000 in
set_option maxRecDepth 100000 in
theorem j_X3_perform_35 {p : Program} {e : Env} {s : State} {m : MethodId} {args : Array Value} {below : List Frame} {meth : Method} {c : Code} {A : Nat → Prop} (l : Launch) (dC : Nat → ClassId) (dI : Nat → Nat → Nat) (Q : CQ) (N : Nat) (z9h : Nat) (R : Int32 × CS) (hx : p.tables.exec = Jvm.exec) (hb : c.code = cX3_perform) (hr : meth.sig.returnType = (some .int)) (hml : c.maxLocals = 4) (hown : s.vm.findClass RX3 = some m.cls) (hts : ∀ w ∈ wzX3_perform, w.before args s = true) (hlocks : meth.locks = false) (hZ : zAMB s) (hA : ∀ q : Nat, s.heap.size ≤ q → A q) (hK : va_K (dC, dI) vwCl (cT Q) s) : ∀ (σ : CS) (x1 : Int32) (x2 : Int32) (H : Heap) (locs : List Loc) (ls : Array Slot), f_X3_perform_35 N σ x1 x2 = some R → z9h ≤ CS.hs σ → CP dC dI Q A s.heap σ H locs → lv_has ls 4 [(0, .ref (Q.o 7)), (1, .int x1), (2, .int x2)] → W p l e ({ frames := 7, cells := CS.hs R.2 - z9h, slots := 17 * (CS.hs R.2 - z9h), locals := 60 * 7 }) s m args below meth c H locs (CS.hs σ - z9h) (17 * (CS.hs σ - z9h)) (MQ below (va_Qi (fun (r : Int32) (_ : Unit) => r = R.1) (fun (_ : Unit) (t : State) => zPost dC dI A (cW Q R.2) (cT Q) t ∧ t.heap.size = CS.hs R.2) A) args s (CS.hs R.2 - z9h) (17 * (CS.hs R.2 - z9h)) A) (F0 m 35 ls []) := by
  intro σ x1 x2 H locs ls hf h0 hC hl
  unfold f_X3_perform_35 at hf
  refine lv_aload_n hx hb dX3_perform_35 rfl (lv_at hl 0 rfl) ?_
  refine cG_59 hx hb hts i_X3_perform_X3 hown hK hC (hts (.fieldLink RX3 9 "StatementRules2$Machine" "cells" "[I") k_X3_perform_fieldLink_RX3_9_SR_Machine_cells_I) (fun _ q9 => q9) dX3_perform_36 ?_
  refine lv_iconst (v := 0) hx hb dX3_perform_39 (by decide) ?_
  refine lv_iload_n hx hb dX3_perform_40 rfl (lv_at hl 1 rfl) ?_
  have he9 := (cArr_59 (Q := Q) (σ := σ))
  have hFc := cFree1 hC hA he9
  have hr9 : CS.hs σ ≤ CS.hs R.2 := Mono.go hf (m_X3_perform_110 N N (CS.setI (CS.setW (CS.setI (CS.setI (CS.setI (CS.setI (CS.setI (CS.setI (CS.setI (CS.setI (CS.setI (CS.putA (CS.putA σ 59 (gPut (σ.a 59) 720 0 x1)) 59 (gPut (CS.a (CS.putA σ 59 (gPut (σ.a 59) 720 0 x1)) 59) 720 1 x2)) 65 0) 66 0) 67 0) 68 0) 69 0) 70 0) 71 0) 73 0) 74 0) none) 72 (-1)) 0)
  refine va_callv (va_runSN (As := [.ref (Q.q 59), .int 0, .int x1]) (rest := []) ⟨hx, hb, hml, hown, hts⟩ (c_X11_put l dC dI _ (Q.q 59) (Q.c 0) 720 (σ.a 59) 0 x1 (by decide)) ⟨va_cnB 3 hts hX3_perform_X11_put_n50 rfl rfl rfl (hZ.1 (.methodLinkNest RX3 50 yX11_put "StatementRules2") (by decide +kernel)) (hts (.initialized RX11) k_X3_perform_initialized_RX11) (by decide +kernel) ⟨(show 1 + 1 ≤ 7 by omega), (show 8 + (3 + 11) + 60 * 1 ≤ 60 * 7 by omega)⟩, (hts (.static yX11_put) k_X3_perform_static_yX11_put), trivial⟩ ⟨zPre.blind, zPre.go hZ (cOne hC.1 he9) (hK.sub (tys' := [(Q.c 0, .int)]) [0] rfl) (cOneD hC.2.1 he9)⟩ rfl rfl hl.1 rfl (lv_room (Nat.le_of_ble_eq_true rfl)) dX3_perform_41 ⟨cAcc4 h0 hr9, cAcc5 h0 hr9⟩) hC.2.2.1 (fun q _ h => hFc q h) hFc (fun u9 t9 H1 locs ht hvm hw hB hz1 hk1 hS => ?_)
  obtain ⟨⟨hP1, hK1, hD1⟩, hsz1⟩ := hB
  rw [ht] at hP1 hsz1
  have hC := cBack (σ' := CS.putA σ 59 (gPut (σ.a 59) 720 0 x1)) hC he9 cPutA_59 (cPutA_h _ _ _) hk1 hP1 hsz1 hS
  generalize H1 = H at hC ⊢
  refine lv_aload_n hx hb dX3_perform_44 rfl (lv_at hl 0 rfl) ?_
  refine cG_59 hx hb hts i_X3_perform_X3 hown hK hC (hts (.fieldLink RX3 9 "StatementRules2$Machine" "cells" "[I") k_X3_perform_fieldLink_RX3_9_SR_Machine_cells_I) (fun _ q9 => q9) dX3_perform_45 ?_
  refine lv_iconst (v := 1) hx hb dX3_perform_48 (by decide) ?_
  refine lv_iload_n hx hb dX3_perform_49 rfl (lv_at hl 2 rfl) ?_
  have he9 := (cArr_59 (Q := Q) (σ := CS.putA σ 59 (gPut (σ.a 59) 720 0 x1)))
  have hFc := cFree1 hC hA he9
  have hr9 : CS.hs σ ≤ CS.hs R.2 := Mono.go hf (m_X3_perform_110 N N (CS.setI (CS.setW (CS.setI (CS.setI (CS.setI (CS.setI (CS.setI (CS.setI (CS.setI (CS.setI (CS.setI (CS.putA (CS.putA σ 59 (gPut (σ.a 59) 720 0 x1)) 59 (gPut (CS.a (CS.putA σ 59 (gPut (σ.a 59) 720 0 x1)) 59) 720 1 x2)) 65 0) 66 0) 67 0) 68 0) 69 0) 70 0) 71 0) 73 0) 74 0) none) 72 (-1)) 0)
  refine va_callv (va_runSN (As := [.ref (Q.q 59), .int 1, .int x2]) (rest := []) ⟨hx, hb, hml, hown, hts⟩ (c_X11_put l dC dI _ (Q.q 59) (Q.c 0) 720 (CS.a (CS.putA σ 59 (gPut (σ.a 59) 720 0 x1)) 59) 1 x2 (by decide)) ⟨va_cnB 3 hts hX3_perform_X11_put_n50 rfl rfl rfl (hZ.1 (.methodLinkNest RX3 50 yX11_put "StatementRules2") (by decide +kernel)) (hts (.initialized RX11) k_X3_perform_initialized_RX11) (by decide +kernel) ⟨(show 1 + 1 ≤ 7 by omega), (show 8 + (3 + 11) + 60 * 1 ≤ 60 * 7 by omega)⟩, (hts (.static yX11_put) k_X3_perform_static_yX11_put), trivial⟩ ⟨zPre.blind, zPre.go hZ (cOne hC.1 he9) (hK.sub (tys' := [(Q.c 0, .int)]) [0] rfl) (cOneD hC.2.1 he9)⟩ rfl rfl hl.1 rfl (lv_room (Nat.le_of_ble_eq_true rfl)) dX3_perform_50 ⟨cAcc4 h0 hr9, cAcc5 h0 hr9⟩) hC.2.2.1 (fun q _ h => hFc q h) hFc (fun u9 t9 H1 locs ht hvm hw hB hz1 hk1 hS => ?_)
  obtain ⟨⟨hP1, hK1, hD1⟩, hsz1⟩ := hB
  rw [ht] at hP1 hsz1
  have hC := cBack (σ' := CS.putA (CS.putA σ 59 (gPut (σ.a 59) 720 0 x1)) 59 (gPut (CS.a (CS.putA σ 59 (gPut (σ.a 59) 720 0 x1)) 59) 720 1 x2)) hC he9 cPutA_59 (cPutA_h _ _ _) hk1 hP1 hsz1 hS
  generalize H1 = H at hC ⊢
  refine lv_aload_n hx hb dX3_perform_53 rfl (lv_at hl 0 rfl) ?_
  refine lv_iconst (v := 0) hx hb dX3_perform_54 (by decide) ?_
  refine cP_65 (v := 0) hx hb hts i_X3_perform_X3 hown hK hC (hts (.fieldLink RX3 54 "StatementRules2$Machine" "height" "I") k_X3_perform_fieldLink_RX3_54_SR_Machine_height_I) (fun _ q9 => q9) dX3_perform_55 (fun H locs hC => ?_)
  refine lv_aload_n hx hb dX3_perform_58 rfl (lv_at hl 0 rfl) ?_
  refine lv_iconst (v := 0) hx hb dX3_perform_59 (by decide) ?_
  refine cP_66 (v := 0) hx hb hts i_X3_perform_X3 hown hK hC (hts (.fieldLink RX3 57 "StatementRules2$Machine" "place" "I") k_X3_perform_fieldLink_RX3_57_SR_Machine_place_I) (fun _ q9 => q9) dX3_perform_60 (fun H locs hC => ?_)
  refine lv_aload_n hx hb dX3_perform_63 rfl (lv_at hl 0 rfl) ?_
  refine lv_iconst (v := 0) hx hb dX3_perform_64 (by decide) ?_
  refine cP_67 (v := 0) hx hb hts i_X3_perform_X3 hown hK hC (hts (.fieldLink RX3 60 "StatementRules2$Machine" "depth" "I") k_X3_perform_fieldLink_RX3_60_SR_Machine_depth_I) (fun _ q9 => q9) dX3_perform_65 (fun H locs hC => ?_)
  refine lv_aload_n hx hb dX3_perform_68 rfl (lv_at hl 0 rfl) ?_
  refine lv_iconst (v := 0) hx hb dX3_perform_69 (by decide) ?_
  refine cP_68 (v := 0) hx hb hts i_X3_perform_X3 hown hK hC (hts (.fieldLink RX3 63 "StatementRules2$Machine" "openedCount" "I") k_X3_perform_fieldLink_RX3_63_SR_Machine_openedCount_I) (fun _ q9 => q9) dX3_perform_70 (fun H locs hC => ?_)
  refine lv_aload_n hx hb dX3_perform_73 rfl (lv_at hl 0 rfl) ?_
  refine lv_iconst (v := 0) hx hb dX3_perform_74 (by decide) ?_
  refine cP_69 (v := 0) hx hb hts i_X3_perform_X3 hown hK hC (hts (.fieldLink RX3 66 "StatementRules2$Machine" "rowCount" "I") k_X3_perform_fieldLink_RX3_66_SR_Machine_rowCount_I) (fun _ q9 => q9) dX3_perform_75 (fun H locs hC => ?_)
  refine lv_aload_n hx hb dX3_perform_78 rfl (lv_at hl 0 rfl) ?_
  refine lv_iconst (v := 0) hx hb dX3_perform_79 (by decide) ?_
  refine cP_70 (v := 0) hx hb hts i_X3_perform_X3 hown hK hC (hts (.fieldLink RX3 69 "StatementRules2$Machine" "steps" "I") k_X3_perform_fieldLink_RX3_69_SR_Machine_steps_I) (fun _ q9 => q9) dX3_perform_80 (fun H locs hC => ?_)
  refine lv_aload_n hx hb dX3_perform_83 rfl (lv_at hl 0 rfl) ?_
  refine lv_iconst (v := 0) hx hb dX3_perform_84 (by decide) ?_
  refine cP_71 (v := 0) hx hb hts i_X3_perform_X3 hown hK hC (hts (.fieldLink RX3 72 "StatementRules2$Machine" "taken" "I") k_X3_perform_fieldLink_RX3_72_SR_Machine_taken_I) (fun _ q9 => q9) dX3_perform_85 (fun H locs hC => ?_)
  refine lv_aload_n hx hb dX3_perform_88 rfl (lv_at hl 0 rfl) ?_
  refine lv_iconst (v := 0) hx hb dX3_perform_89 (by decide) ?_
  refine cP_73 (v := 0) hx hb hts i_X3_perform_X3 hown hK hC (hts (.fieldLink RX3 75 "StatementRules2$Machine" "way" "I") k_X3_perform_fieldLink_RX3_75_SR_Machine_way_I) (fun _ q9 => q9) dX3_perform_90 (fun H locs hC => ?_)
  refine lv_aload_n hx hb dX3_perform_93 rfl (lv_at hl 0 rfl) ?_
  refine lv_iconst (v := 0) hx hb dX3_perform_94 (by decide) ?_
  refine cP_74 (v := 0) hx hb hts i_X3_perform_X3 hown hK hC (hts (.fieldLink RX3 78 "StatementRules2$Machine" "wayValue" "I") k_X3_perform_fieldLink_RX3_78_SR_Machine_wayValue_I) (fun _ q9 => q9) dX3_perform_95 (fun H locs hC => ?_)
  refine lv_aload_n hx hb dX3_perform_98 rfl (lv_at hl 0 rfl) ?_
  refine lv_null hx hb dX3_perform_99 ?_
  refine cP_76 (v := none) hx hb hts i_X3_perform_X3 hown hK hC (hts (.fieldLink RX3 81 "StatementRules2$Machine" "wayThrown" "LStatementRules2$Thrown;") k_X3_perform_fieldLink_RX3_81_SR_Machine_wayThrown_LSR_Thrown) (fun _ q9 => q9) dX3_perform_100 (fun H locs hC => ?_)
  refine lv_aload_n hx hb dX3_perform_103 rfl (lv_at hl 0 rfl) ?_
  refine lv_iconst (v := (-1)) hx hb dX3_perform_104 (by decide) ?_
  refine cP_72 (v := (-1)) hx hb hts i_X3_perform_X3 hown hK hC (hts (.fieldLink RX3 85 "StatementRules2$Machine" "outcome" "I") k_X3_perform_fieldLink_RX3_85_SR_Machine_outcome_I) (fun _ q9 => q9) dX3_perform_105 (fun H locs hC => ?_)
  refine lv_iconst (v := 0) hx hb dX3_perform_108 (by decide) ?_
  refine lv_istore_n (lv' := [(3, .int 0), (0, .ref (Q.o 7)), (1, .int x1), (2, .int x2)]) hx hb dX3_perform_109 rfl hl (by decide) rfl (fun ls hl => ?_)
  exact j_X3_perform_110 l dC dI Q N z9h R hx hb hr hml hown hts hlocks hZ hA hK N (CS.setI (CS.setW (CS.setI (CS.setI (CS.setI (CS.setI (CS.setI (CS.setI (CS.setI (CS.setI (CS.setI (CS.putA (CS.putA σ 59 (gPut (σ.a 59) 720 0 x1)) 59 (gPut (CS.a (CS.putA σ 59 (gPut (σ.a 59) 720 0 x1)) 59) 720 1 x2)) 65 0) 66 0) 67 0) 68 0) 69 0) 70 0) 71 0) 73 0) 74 0) none) 72 (-1)) 0 _ _ _ hf h0 hC (lv_sub hl [1, 0] rfl)
set_option maxHeartbeats 4000000 in
set_option maxRecDepth 100000 in
theorem j_X3_perform_2 {p : Program} {e : Env} {s : State} {m : MethodId} {args : Array Value} {below : List Frame} {meth : Method} {c : Code} {A : Nat → Prop} (l : Launch) (dC : Nat → ClassId) (dI : Nat → Nat → Nat) (Q : CQ) (N : Nat) (z9h : Nat) (R : Int32 × CS) (hx : p.tables.exec = Jvm.exec) (hb : c.code = cX3_perform) (hr : meth.sig.returnType = (some .int)) (hml : c.maxLocals = 4) (hown : s.vm.findClass RX3 = some m.cls) (hts : ∀ w ∈ wzX3_perform, w.before args s = true) (hlocks : meth.locks = false) (hZ : zAMB s) (hA : ∀ q : Nat, s.heap.size ≤ q → A q) (hK : va_K (dC, dI) vwCl (cT Q) s) : ∀ (n9 : Nat), ∀ (σ : CS) (x1 : Int32) (x2 : Int32) (x3 : Int32) (H : Heap) (locs : List Loc) (ls : Array Slot), f_X3_perform_2 N n9 σ x1 x2 x3 = some R → z9h ≤ CS.hs σ → CP dC dI Q A s.heap σ H locs → lv_has ls 4 [(0, .ref (Q.o 7)), (1, .int x1), (2, .int x2), (3, .int x3)] → W p l e ({ frames := 7, cells := CS.hs R.2 - z9h, slots := 17 * (CS.hs R.2 - z9h), locals := 60 * 7 }) s m args below meth c H locs (CS.hs σ - z9h) (17 * (CS.hs σ - z9h)) (MQ below (va_Qi (fun (r : Int32) (_ : Unit) => r = R.1) (fun (_ : Unit) (t : State) => zPost dC dI A (cW Q R.2) (cT Q) t ∧ t.heap.size = CS.hs R.2) A) args s (CS.hs R.2 - z9h) (17 * (CS.hs R.2 - z9h)) A) (F0 m 2 ls []) := by
  intro n9
  induction n9 with
  | zero => intro σ x1 x2 x3 H locs ls hf; exact absurd hf (by intro q9; cases q9)
  | succ n9 ih =>
    intro σ x1 x2 x3 H locs ls hf h0 hC hl
    replace hf : b_X3_perform_2 N (f_X3_perform_2 N n9) σ x1 x2 x3 = some R := hf
    unfold b_X3_perform_2 at hf
    have hMK := fun (σ : CS) (x1 : Int32) (x2 : Int32) (x3 : Int32) => m_X3_perform_2 N n9 σ x1 x2 x3
    refine lv_iload_n hx hb dX3_perform_2 rfl (lv_at hl 3 rfl) ?_
    refine lv_aload_n hx hb dX3_perform_3 rfl (lv_at hl 0 rfl) ?_
    refine cG_58 hx hb hts i_X3_perform_X3 hown hK hC (hts (.fieldLink RX3 40 "StatementRules2$Machine" "code" "LStatementRules2$Code;") k_X3_perform_fieldLink_RX3_40_SR_Machine_code_LSR_Code) (fun _ q9 => q9) dX3_perform_4 ?_
    refine cGN_23 (v := (σ.i 23)) hx hb hts i_X3_perform_X0 hown hK hC (va_Nw.use rfl (hZ.1 (.fieldLinkNest RX3 44 "StatementRules2$Code" "cellCount" "I" "StatementRules2") (by decide +kernel))) (fun _ q9 => q9) dX3_perform_7 rfl ?_
    refine lv_icmp_ge (tgt := 35) hx hb dX3_perform_10 (by decide) (fun c1 => ?_) (fun c1 => ?_)
    ·
      replace hf := (if_pos c1).symm.trans hf
      exact j_X3_perform_35 l dC dI Q N z9h R hx hb hr hml hown hts hlocks hZ hA hK σ x1 x2 _ _ _ hf h0 hC (lv_sub hl [0, 1, 2] rfl)
    ·
      replace hf := (if_neg c1).symm.trans hf
      refine lv_iload_n hx hb dX3_perform_13 rfl (lv_at hl 3 rfl) ?_
      refine lv_aload_n hx hb dX3_perform_14 rfl (lv_at hl 0 rfl) ?_
      refine cG_59 hx hb hts i_X3_perform_X3 hown hK hC (hts (.fieldLink RX3 9 "StatementRules2$Machine" "cells" "[I") k_X3_perform_fieldLink_RX3_9_SR_Machine_cells_I) (fun _ q9 => q9) dX3_perform_15 ?_
      refine va_alen (v := 720) hx hb hK hC.1 24 0 rfl rfl rfl dX3_perform_18 ?_
      refine lv_icmp_ge (tgt := 35) hx hb dX3_perform_19 (by decide) (fun c13 => ?_) (fun c13 => ?_)
      ·
        replace hf := (if_pos c13).symm.trans hf
        exact j_X3_perform_35 l dC dI Q N z9h R hx hb hr hml hown hts hlocks hZ hA hK σ x1 x2 _ _ _ hf h0 hC (lv_sub hl [0, 1, 2] rfl)
      ·
        replace hf := (if_neg c13).symm.trans hf
        refine lv_aload_n hx hb dX3_perform_22 rfl (lv_at hl 0 rfl) ?_
        refine cG_59 hx hb hts i_X3_perform_X3 hown hK hC (hts (.fieldLink RX3 9 "StatementRules2$Machine" "cells" "[I") k_X3_perform_fieldLink_RX3_9_SR_Machine_cells_I) (fun _ q9 => q9) dX3_perform_23 ?_
        refine lv_iload_n hx hb dX3_perform_26 rfl (lv_at hl 3 rfl) ?_
        refine lv_iconst (v := 0) hx hb dX3_perform_27 (by decide) ?_
        obtain ⟨b14, hf⟩ := hf_ite hf
        refine cS_59 hx hb hK hC b14 dX3_perform_28 (fun H locs hC => ?_)
        refine lv_iinc (v := (x3 + 1)) (lv' := [(3, .int (x3 + 1)), (0, .ref (Q.o 7)), (1, .int x1), (2, .int x2)]) hx hb dX3_perform_29 hl (k := 3) rfl rfl (by decide) rfl (fun ls hl => ?_)
        refine lv_goto (tgt := 2) hx hb dX3_perform_32 (by decide) ?_
        exact ih (CS.setA σ 59 ((x3 : Int32).toNatClampNeg) 0) x1 x2 (x3 + 1) _ _ _ hf h0 hC (lv_sub hl [1, 2, 3, 0] rfl)
set_option maxHeartbeats 4000000 in
set_option maxRecDepth 100000 in
theorem c_X3_perform (l : Launch) (dC : Nat → ClassId) (dI : Nat → Nat → Nat) (Q : CQ) (N : Nat) (σ : CS) (x1 : Int32) (x2 : Int32) (R : Int32 × CS) (hf : f_X3_perform N σ x1 x2 = some R) : Met l yX3_perform wzX3_perform ({ frames := 7, cells := CS.hs R.2 - CS.hs σ, slots := 17 * (CS.hs R.2 - CS.hs σ), locals := 60 * 7 }) (va_Pc [.ref (Q.o 7), .int x1, .int x2] (zPre dC dI (CS.hs σ) (cW Q σ) (cT Q))) (va_Qi (fun (r : Int32) (_ : Unit) => r = R.1) (fun (_ : Unit) (t : State) => zPost dC dI (va_A (cW Q σ) (CS.hs σ)) (cW Q R.2) (cT Q) t ∧ t.heap.size = CS.hs R.2) (va_A (cW Q σ) (CS.hs σ))) (CS.hs R.2 - CS.hs σ) (17 * (CS.hs R.2 - CS.hs σ)) (va_A (cW Q σ) (CS.hs σ)) := by
  refine Met.ofW (cc := cX3_perform) (maxL := 4) (ret := (some .int)) (by decide) rfl ?_
  intro p e s m args below meth c s₁ B hml hv
  obtain ⟨rfl, hsz, hZ, hP, hK, hD0⟩ := hv
  have hx := B.exec
  have hb := B.bytes
  have hr := B.returns
  have hts := atoms_spec (ws := wzX3_perform) B.pre
  have hown : s.vm.findClass RX3 = some m.cls := findClass_of_methodNamed B.named
  have hlocks := B.notSynchronized
  have hD := hD0.self (sz := CS.hs σ)
  generalize hAe : va_A (cW Q σ) (CS.hs σ) = A at hD ⊢
  have hA : ∀ q : Nat, s.heap.size ≤ q → A q := fun q h => by rw [← hAe]; exact Or.inr (hsz ▸ h)
  have hC : CP dC dI Q A s.heap σ s.heap [] := ⟨hP, hD, va_S.rf, hsz⟩
  have h0 : CS.hs σ ≤ CS.hs σ := Nat.le_refl _
  have hl := lv_entry ([.ref (Q.o 7), .int x1, .int x2]) (n := 4) (Nat.le_of_ble_eq_true rfl)
  rw [lg_entry_eq]
  generalize (lg_sl ([.ref (Q.o 7), .int x1, .int x2]) ++ List.replicate (4 - (lg_sl ([.ref (Q.o 7), .int x1, .int x2])).length) Slot.unset).toArray = ls at hl ⊢
  have hl : lv_has ls 4 [(0, .ref (Q.o 7)), (1, .int x1), (2, .int x2)] := hl
  unfold f_X3_perform at hf
  refine W.widen (k := CS.hs σ - CS.hs σ) (n := 17 * (CS.hs σ - CS.hs σ)) (Nat.zero_le _) (Nat.zero_le _) ?_
  refine lv_iconst (v := 0) hx hb dX3_perform_0 (by decide) ?_
  refine lv_istore_n (lv' := [(3, .int 0), (0, .ref (Q.o 7)), (1, .int x1), (2, .int x2)]) hx hb dX3_perform_1 rfl hl (by decide) rfl (fun ls hl => ?_)
  exact j_X3_perform_2 l dC dI Q N (CS.hs σ) R hx hb hr hml hown hts hlocks hZ hA hK N σ x1 x2 0 _ _ _ hf h0 hC (lv_sub hl [1, 2, 3, 0] rfl)
theorem k_X3_lastThrown_fieldLink_RX3_85_SR_Machine_outcome_I : Cond.fieldLink RX3 85 "StatementRules2$Machine" "outcome" "I" ∈ wzX3_lastThrown := List.mem_cons_of_mem _ (List.mem_append_left _ (List.mem_of_getElem? (i := 0) rfl))
theorem i_X3_lastThrown_X3 : ∀ w ∈ wsX30, w ∈ wzX3_lastThrown := fun _ h => List.mem_cons_of_mem _ (List.mem_append_right _ (List.mem_append_left _ (h)))
theorem k_X3_lastThrown_fieldLink_RX3_81_SR_Machine_wayThrown_LSR_Thrown : Cond.fieldLink RX3 81 "StatementRules2$Machine" "wayThrown" "LStatementRules2$Thrown;" ∈ wzX3_lastThrown := List.mem_cons_of_mem _ (List.mem_append_left _ (List.mem_of_getElem? (i := 1) rfl))
set_option maxHeartbeats 4000000 in
set_option maxRecDepth 100000 in
theorem c_X3_lastThrown (l : Launch) (dC : Nat → ClassId) (dI : Nat → Nat → Nat) (Q : CQ) (N : Nat) (σ : CS) (R : Option Nat × CS) (hf : f_X3_lastThrown N σ = some R) : Met l yX3_lastThrown wzX3_lastThrown ({ frames := 1, cells := CS.hs R.2 - CS.hs σ, slots := 17 * (CS.hs R.2 - CS.hs σ), locals := 60 * 1 }) (va_Pc [.ref (Q.o 7)] (zPre dC dI (CS.hs σ) (cW Q σ) (cT Q))) (va_Qq (fun (r : Option Nat) (_ : Unit) => r = R.1) (fun (_ : Unit) (t : State) => zPost dC dI (va_A (cW Q σ) (CS.hs σ)) (cW Q R.2) (cT Q) t ∧ t.heap.size = CS.hs R.2) (va_A (cW Q σ) (CS.hs σ))) (CS.hs R.2 - CS.hs σ) (17 * (CS.hs R.2 - CS.hs σ)) (va_A (cW Q σ) (CS.hs σ)) := by
  refine Met.ofW (cc := cX3_lastThrown) (maxL := 1) (ret := (some (.object "StatementRules2$Thrown"))) (by decide) rfl ?_
  intro p e s m args below meth c s₁ B hml hv
  obtain ⟨rfl, hsz, hZ, hP, hK, hD0⟩ := hv
  have hx := B.exec
  have hb := B.bytes
  have hr := B.returns
  have hts := atoms_spec (ws := wzX3_lastThrown) B.pre
  have hown : s.vm.findClass RX3 = some m.cls := findClass_of_methodNamed B.named
  have hlocks := B.notSynchronized
  have hD := hD0.self (sz := CS.hs σ)
  generalize hAe : va_A (cW Q σ) (CS.hs σ) = A at hD ⊢
  have hA : ∀ q : Nat, s.heap.size ≤ q → A q := fun q h => by rw [← hAe]; exact Or.inr (hsz ▸ h)
  have hC : CP dC dI Q A s.heap σ s.heap [] := ⟨hP, hD, va_S.rf, hsz⟩
  have h0 : CS.hs σ ≤ CS.hs σ := Nat.le_refl _
  have hl := lv_entry ([.ref (Q.o 7)]) (n := 1) (Nat.le_of_ble_eq_true rfl)
  rw [lg_entry_eq]
  generalize (lg_sl ([.ref (Q.o 7)]) ++ List.replicate (1 - (lg_sl ([.ref (Q.o 7)])).length) Slot.unset).toArray = ls at hl ⊢
  have hl : lv_has ls 1 [(0, .ref (Q.o 7))] := hl
  unfold f_X3_lastThrown at hf
  refine W.widen (k := CS.hs σ - CS.hs σ) (n := 17 * (CS.hs σ - CS.hs σ)) (Nat.zero_le _) (Nat.zero_le _) ?_
  refine lv_aload_n hx hb dX3_lastThrown_0 rfl (lv_at hl 0 rfl) ?_
  refine cG_72 (v := (σ.i 72)) hx hb hts i_X3_lastThrown_X3 hown hK hC (hts (.fieldLink RX3 85 "StatementRules2$Machine" "outcome" "I") k_X3_lastThrown_fieldLink_RX3_85_SR_Machine_outcome_I) (fun _ q9 => q9) dX3_lastThrown_1 rfl ?_
  refine lv_iconst (v := 2) hx hb dX3_lastThrown_4 (by decide) ?_
  refine lv_icmp_ne (tgt := 15) hx hb dX3_lastThrown_5 (by decide) (fun c1 => ?_) (fun c1 => ?_)
  ·
    replace hf := (if_neg c1).symm.trans hf
    refine lv_null hx hb dX3_lastThrown_15 ?_
    obtain rfl := Option.some.inj hf
    exact W.aret (v := .null) hx hb hr (Or.inl ⟨_, rfl⟩) (Or.inl rfl) (fun t ht hW => ⟨⟨none, (), rfl, rfl, ⟨by rw [ht]; exact hC.1, va_K.moved hW.alike hK, hC.2.1⟩, by rw [ht]; exact hC.2.2.2⟩, hC.2.2.1.F ht⟩) hC.2.2.1.2.2 dX3_lastThrown_16
  ·
    replace hf := (if_pos c1).symm.trans hf
    refine lv_aload_n hx hb dX3_lastThrown_8 rfl (lv_at hl 0 rfl) ?_
    refine cG_76 (v := (CS.w σ)) hx hb hts i_X3_lastThrown_X3 hown hK hC (hts (.fieldLink RX3 81 "StatementRules2$Machine" "wayThrown" "LStatementRules2$Thrown;") k_X3_lastThrown_fieldLink_RX3_81_SR_Machine_wayThrown_LSR_Thrown) (fun _ q9 => q9) dX3_lastThrown_9 rfl ?_
    rcases hf_oc hf with ⟨q2, hf⟩ | ⟨a3, q2, hf⟩
    ·
      refine W.eq (congrArg (fun v9 => F0 m 12 ls (va_rf v9 :: [])) q2) ?_
      refine W.eq (g2 := F0 m 12 ls (.null :: [])) rfl ?_
      refine lv_goto (tgt := 16) hx hb dX3_lastThrown_12 (by decide) ?_
      obtain rfl := Option.some.inj hf
      exact W.aret (v := .null) hx hb hr (Or.inl ⟨_, rfl⟩) (Or.inl rfl) (fun t ht hW => ⟨⟨none, (), rfl, rfl, ⟨by rw [ht]; exact hC.1, va_K.moved hW.alike hK, hC.2.1⟩, by rw [ht]; exact hC.2.2.2⟩, hC.2.2.1.F ht⟩) hC.2.2.1.2.2 dX3_lastThrown_16
    ·
      refine W.eq (congrArg (fun v9 => F0 m 12 ls (va_rf v9 :: [])) q2) ?_
      refine W.eq (g2 := F0 m 12 ls (.ref a3 :: [])) rfl ?_
      refine lv_goto (tgt := 16) hx hb dX3_lastThrown_12 (by decide) ?_
      obtain rfl := Option.some.inj hf
      exact W.aret (v := .ref a3) hx hb hr (Or.inl ⟨_, rfl⟩) (Or.inr ⟨_, rfl⟩) (fun t ht hW => ⟨⟨(some a3), (), rfl, rfl, ⟨by rw [ht]; exact hC.1, va_K.moved hW.alike hK, hC.2.1⟩, by rw [ht]; exact hC.2.2.2⟩, hC.2.2.1.F ht⟩) hC.2.2.1.2.2 dX3_lastThrown_16
end
section
theorem k_X3_answer_fieldLink_RX3_69_SR_Machine_steps_I : Cond.fieldLink RX3 69 "StatementRules2$Machine" "steps" "I" ∈ wzX3_answer := List.mem_cons_of_mem _ (List.mem_append_left _ (List.mem_of_getElem? (i := 0) rfl))
theorem i_X3_answer_X3 : ∀ w ∈ wsX30, w ∈ wzX3_answer := fun _ h => List.mem_cons_of_mem _ (List.mem_append_right _ (List.mem_append_left _ (h)))
theorem k_X3_answer_fieldLink_RX3_66_SR_Machine_rowCount_I : Cond.fieldLink RX3 66 "StatementRules2$Machine" "rowCount" "I" ∈ wzX3_answer := List.mem_cons_of_mem _ (List.mem_append_left _ (List.mem_of_getElem? (i := 1) rfl))
theorem k_X3_answer_fieldLink_RX3_85_SR_Machine_outcome_I : Cond.fieldLink RX3 85 "StatementRules2$Machine" "outcome" "I" ∈ wzX3_answer := List.mem_cons_of_mem _ (List.mem_append_left _ (List.mem_of_getElem? (i := 2) rfl))
theorem k_X3_answer_fieldLink_RX3_78_SR_Machine_wayValue_I : Cond.fieldLink RX3 78 "StatementRules2$Machine" "wayValue" "I" ∈ wzX3_answer := List.mem_cons_of_mem _ (List.mem_append_left _ (List.mem_of_getElem? (i := 3) rfl))
theorem k_X3_answer_fieldLink_RX3_72_SR_Machine_taken_I : Cond.fieldLink RX3 72 "StatementRules2$Machine" "taken" "I" ∈ wzX3_answer := List.mem_cons_of_mem _ (List.mem_append_left _ (List.mem_of_getElem? (i := 4) rfl))
theorem i_X3_answer_X8 : ∀ w ∈ wsX80, w ∈ wzX3_answer := fun _ h => List.mem_cons_of_mem _ (List.mem_append_right _ (List.mem_append_right _ (List.mem_append_left _ (h))))
set_option maxHeartbeats 4000000 in
set_option maxRecDepth 100000 in
theorem c_X3_answer (l : Launch) (dC : Nat → ClassId) (dI : Nat → Nat → Nat) (Q : CQ) (N : Nat) (σ : CS) (x1 : Int32) (R : Int32 × CS) (hf : f_X3_answer N σ x1 = some R) : Met l yX3_answer wzX3_answer ({ frames := 2, cells := CS.hs R.2 - CS.hs σ, slots := 17 * (CS.hs R.2 - CS.hs σ), locals := 60 * 2 }) (va_Pc [.ref (Q.o 7), .int x1] (zPre dC dI (CS.hs σ) (cW Q σ) (cT Q))) (va_Qi (fun (r : Int32) (_ : Unit) => r = R.1) (fun (_ : Unit) (t : State) => zPost dC dI (va_A (cW Q σ) (CS.hs σ)) (cW Q R.2) (cT Q) t ∧ t.heap.size = CS.hs R.2) (va_A (cW Q σ) (CS.hs σ))) (CS.hs R.2 - CS.hs σ) (17 * (CS.hs R.2 - CS.hs σ)) (va_A (cW Q σ) (CS.hs σ)) := by
  refine Met.ofW (cc := cX3_answer) (maxL := 3) (ret := (some .int)) (by decide) rfl ?_
  intro p e s m args below meth c s₁ B hml hv
  obtain ⟨rfl, hsz, hZ, hP, hK, hD0⟩ := hv
  have hx := B.exec
  have hb := B.bytes
  have hr := B.returns
  have hts := atoms_spec (ws := wzX3_answer) B.pre
  have hown : s.vm.findClass RX3 = some m.cls := findClass_of_methodNamed B.named
  have hlocks := B.notSynchronized
  have hD := hD0.self (sz := CS.hs σ)
  generalize hAe : va_A (cW Q σ) (CS.hs σ) = A at hD ⊢
  have hA : ∀ q : Nat, s.heap.size ≤ q → A q := fun q h => by rw [← hAe]; exact Or.inr (hsz ▸ h)
  have hC : CP dC dI Q A s.heap σ s.heap [] := ⟨hP, hD, va_S.rf, hsz⟩
  have h0 : CS.hs σ ≤ CS.hs σ := Nat.le_refl _
  have hl := lv_entry ([.ref (Q.o 7), .int x1]) (n := 3) (Nat.le_of_ble_eq_true rfl)
  rw [lg_entry_eq]
  generalize (lg_sl ([.ref (Q.o 7), .int x1]) ++ List.replicate (3 - (lg_sl ([.ref (Q.o 7), .int x1])).length) Slot.unset).toArray = ls at hl ⊢
  have hl : lv_has ls 3 [(0, .ref (Q.o 7)), (1, .int x1)] := hl
  unfold f_X3_answer at hf
  refine W.widen (k := CS.hs σ - CS.hs σ) (n := 17 * (CS.hs σ - CS.hs σ)) (Nat.zero_le _) (Nat.zero_le _) ?_
  refine lv_aload_n hx hb dX3_answer_0 rfl (lv_at hl 0 rfl) ?_
  obtain ⟨p1, hcp1, hf⟩ := hf_bind hf
  have mo2 : CS.hs σ ≤ CS.hs p1.2 := Mono.go hcp1 (m_X3_lastThrown N σ)
  have hr9 : CS.hs p1.2 ≤ CS.hs R.2 := Mono.go hf (mono_oc (mono_ite (mono_some (Nat.le_refl _)) (mono_ite (mono_some (Nat.le_refl _)) (mono_ite (mono_ite (mono_some (Nat.le_refl _)) (mono_some (Nat.le_refl _))) (mono_ite (mono_some (Nat.le_refl _)) (mono_ite (mono_some (Nat.le_refl _)) (mono_ite (mono_some (Nat.le_refl _)) (mono_some (Nat.le_refl _)))))))) (fun a6 => (mono_ite (mono_some (Nat.le_refl _)) (mono_ite (mono_some (Nat.le_refl _)) (mono_ite (mono_ite (mono_some (Nat.le_refl _)) (mono_some (Nat.le_refl _))) (mono_ite (mono_ite (mono_some (Nat.le_refl _)) mono_none) (mono_ite (mono_ite (mono_some (Nat.le_refl _)) mono_none) (mono_ite (mono_ite (mono_some (Nat.le_refl _)) mono_none) (mono_some (Nat.le_refl _))))))))))
  have hFc := cFree hC hA
  refine va_callq (va_runV (As := []) (rest := []) ⟨hx, hb, hml, hown, hts⟩ (c_X3_lastThrown l dC dI Q N σ p1 hcp1) (cwV 0 hts hX3_answer_X3_lastThrown_v95 rfl rfl rfl (by decide +kernel) ⟨(show 1 + 1 ≤ 2 by omega), (show 8 + (1 + 11) + 60 * 1 ≤ 60 * 2 by omega)⟩) ⟨zPre.blind, va_recv hK hC.1 (ci := 2) (q0 := 7) rfl rfl, cPre_go hZ hK hC⟩ rfl rfl hl.1 rfl (lv_room (Nat.le_of_ble_eq_true rfl)) dX3_answer_1 (cAcc h0 mo2 hr9)) hC.2.2.1 (fun q _ h => hFc q h) hFc (fun r3 u9 t9 H1 locs ht hvm hw hB hz1 hk1 hS => ?_)
  obtain ⟨⟨hP, hK1, hD1⟩, hsz1⟩ := hB
  rw [ht] at hP hsz1
  have hC : CP dC dI Q A s.heap p1.2 H1 locs := ⟨hP, hD1.weaken (fun _ _ _ h => hFc _ h), hS, hsz1⟩
  generalize H1 = H at hC ⊢
  have h4 : (CS.hs σ) ≤ CS.hs p1.2 := Nat.le_trans h0 mo2
  refine W.widen (k := CS.hs p1.2 - (CS.hs σ)) (n := 17 * (CS.hs p1.2 - (CS.hs σ))) (cAcc2 h0 mo2) (cAcc3 h0 mo2) ?_
  obtain rfl : r3 = p1.1 := hw
  rcases hf_oc hf with ⟨q5, hf⟩ | ⟨a6, q5, hf⟩
  ·
    refine W.eq (congrArg (fun v9 => F0 m 4 ls (va_rf v9 :: [])) q5) ?_
    refine W.eq (g2 := F0 m 4 ls (.null :: [])) rfl ?_
    refine lv_astore_nN (lv' := [(2, .null), (0, .ref (Q.o 7)), (1, .int x1)]) hx hb dX3_answer_4 rfl hl (by decide) rfl (fun ls hl => ?_)
    refine lv_iload_n hx hb dX3_answer_5 rfl (lv_at hl 2 rfl) ?_
    by_cases c7 : x1 = 0
    ·
      replace hf := (if_pos c7).symm.trans hf
      refine lv_tableIn (off := 38) (tgt := 44) hx hb dX3_answer_6 (by rw [c7]; decide) (by rw [c7]; decide) (by rw [c7]; decide) (by decide) ?_
      refine lv_aload_n hx hb dX3_answer_44 rfl (lv_at hl 1 rfl) ?_
      refine cG_70 (v := (p1.2.i 70)) hx hb hts i_X3_answer_X3 hown hK hC (hts (.fieldLink RX3 69 "StatementRules2$Machine" "steps" "I") k_X3_answer_fieldLink_RX3_69_SR_Machine_steps_I) (fun _ q9 => q9) dX3_answer_45 rfl ?_
      obtain rfl := Option.some.inj hf
      exact W.iret (v := (p1.2.i 70)) hx hb hr (fun t ht hW => ⟨⟨(p1.2.i 70), (), rfl, rfl, ⟨by rw [ht]; exact hC.1, va_K.moved hW.alike hK, hC.2.1⟩, by rw [ht]; exact hC.2.2.2⟩, hC.2.2.1.F ht⟩) hC.2.2.1.2.2 dX3_answer_48
    replace hf := (if_neg c7).symm.trans hf
    by_cases c8 : x1 = 1
    ·
      replace hf := (if_pos c8).symm.trans hf
      refine lv_tableIn (off := 43) (tgt := 49) hx hb dX3_answer_6 (by rw [c8]; decide) (by rw [c8]; decide) (by rw [c8]; decide) (by decide) ?_
      refine lv_aload_n hx hb dX3_answer_49 rfl (lv_at hl 1 rfl) ?_
      refine cG_69 (v := (p1.2.i 69)) hx hb hts i_X3_answer_X3 hown hK hC (hts (.fieldLink RX3 66 "StatementRules2$Machine" "rowCount" "I") k_X3_answer_fieldLink_RX3_66_SR_Machine_rowCount_I) (fun _ q9 => q9) dX3_answer_50 rfl ?_
      obtain rfl := Option.some.inj hf
      exact W.iret (v := (p1.2.i 69)) hx hb hr (fun t ht hW => ⟨⟨(p1.2.i 69), (), rfl, rfl, ⟨by rw [ht]; exact hC.1, va_K.moved hW.alike hK, hC.2.1⟩, by rw [ht]; exact hC.2.2.2⟩, hC.2.2.1.F ht⟩) hC.2.2.1.2.2 dX3_answer_53
    replace hf := (if_neg c8).symm.trans hf
    by_cases c9 : x1 = 2
    ·
      replace hf := (if_pos c9).symm.trans hf
      refine lv_tableIn (off := 48) (tgt := 54) hx hb dX3_answer_6 (by rw [c9]; decide) (by rw [c9]; decide) (by rw [c9]; decide) (by decide) ?_
      refine lv_aload_n hx hb dX3_answer_54 rfl (lv_at hl 1 rfl) ?_
      refine cG_72 (v := (p1.2.i 72)) hx hb hts i_X3_answer_X3 hown hK hC (hts (.fieldLink RX3 85 "StatementRules2$Machine" "outcome" "I") k_X3_answer_fieldLink_RX3_85_SR_Machine_outcome_I) (fun _ q9 => q9) dX3_answer_55 rfl ?_
      refine lv_iconst (v := 1) hx hb dX3_answer_58 (by decide) ?_
      refine lv_icmp_ne (tgt := 69) hx hb dX3_answer_59 (by decide) (fun c10 => ?_) (fun c10 => ?_)
      ·
        replace hf := (if_neg c10).symm.trans hf
        refine lv_iconst (v := 0) hx hb dX3_answer_69 (by decide) ?_
        obtain rfl := Option.some.inj hf
        exact W.iret (v := 0) hx hb hr (fun t ht hW => ⟨⟨0, (), rfl, rfl, ⟨by rw [ht]; exact hC.1, va_K.moved hW.alike hK, hC.2.1⟩, by rw [ht]; exact hC.2.2.2⟩, hC.2.2.1.F ht⟩) hC.2.2.1.2.2 dX3_answer_70
      ·
        replace hf := (if_pos c10).symm.trans hf
        refine lv_aload_n hx hb dX3_answer_62 rfl (lv_at hl 1 rfl) ?_
        refine cG_74 (v := (p1.2.i 74)) hx hb hts i_X3_answer_X3 hown hK hC (hts (.fieldLink RX3 78 "StatementRules2$Machine" "wayValue" "I") k_X3_answer_fieldLink_RX3_78_SR_Machine_wayValue_I) (fun _ q9 => q9) dX3_answer_63 rfl ?_
        refine lv_goto (tgt := 70) hx hb dX3_answer_66 (by decide) ?_
        obtain rfl := Option.some.inj hf
        exact W.iret (v := (p1.2.i 74)) hx hb hr (fun t ht hW => ⟨⟨(p1.2.i 74), (), rfl, rfl, ⟨by rw [ht]; exact hC.1, va_K.moved hW.alike hK, hC.2.1⟩, by rw [ht]; exact hC.2.2.2⟩, hC.2.2.1.F ht⟩) hC.2.2.1.2.2 dX3_answer_70
    replace hf := (if_neg c9).symm.trans hf
    by_cases c11 : x1 = 3
    ·
      replace hf := (if_pos c11).symm.trans hf
      refine lv_tableIn (off := 65) (tgt := 71) hx hb dX3_answer_6 (by rw [c11]; decide) (by rw [c11]; decide) (by rw [c11]; decide) (by decide) ?_
      refine lv_aload_nN hx hb dX3_answer_71 rfl (lv_at hl 0 rfl) ?_
      refine lv_ifnonnullN hx hb dX3_answer_72 ?_
      refine lv_iconst (v := (-1)) hx hb dX3_answer_75 (by decide) ?_
      refine lv_goto (tgt := 83) hx hb dX3_answer_76 (by decide) ?_
      obtain rfl := Option.some.inj hf
      exact W.iret (v := (-1)) hx hb hr (fun t ht hW => ⟨⟨(-1), (), rfl, rfl, ⟨by rw [ht]; exact hC.1, va_K.moved hW.alike hK, hC.2.1⟩, by rw [ht]; exact hC.2.2.2⟩, hC.2.2.1.F ht⟩) hC.2.2.1.2.2 dX3_answer_83
    replace hf := (if_neg c11).symm.trans hf
    by_cases c12 : x1 = 4
    ·
      replace hf := (if_pos c12).symm.trans hf
      refine lv_tableIn (off := 78) (tgt := 84) hx hb dX3_answer_6 (by rw [c12]; decide) (by rw [c12]; decide) (by rw [c12]; decide) (by decide) ?_
      refine lv_aload_nN hx hb dX3_answer_84 rfl (lv_at hl 0 rfl) ?_
      refine lv_ifnonnullN hx hb dX3_answer_85 ?_
      refine lv_iconst (v := 0) hx hb dX3_answer_88 (by decide) ?_
      refine lv_goto (tgt := 96) hx hb dX3_answer_89 (by decide) ?_
      obtain rfl := Option.some.inj hf
      exact W.iret (v := 0) hx hb hr (fun t ht hW => ⟨⟨0, (), rfl, rfl, ⟨by rw [ht]; exact hC.1, va_K.moved hW.alike hK, hC.2.1⟩, by rw [ht]; exact hC.2.2.2⟩, hC.2.2.1.F ht⟩) hC.2.2.1.2.2 dX3_answer_96
    replace hf := (if_neg c12).symm.trans hf
    by_cases c13 : x1 = 5
    ·
      replace hf := (if_pos c13).symm.trans hf
      refine lv_tableIn (off := 91) (tgt := 97) hx hb dX3_answer_6 (by rw [c13]; decide) (by rw [c13]; decide) (by rw [c13]; decide) (by decide) ?_
      refine lv_aload_nN hx hb dX3_answer_97 rfl (lv_at hl 0 rfl) ?_
      refine lv_ifnonnullN hx hb dX3_answer_98 ?_
      refine lv_iconst (v := 0) hx hb dX3_answer_101 (by decide) ?_
      refine lv_goto (tgt := 109) hx hb dX3_answer_102 (by decide) ?_
      obtain rfl := Option.some.inj hf
      exact W.iret (v := 0) hx hb hr (fun t ht hW => ⟨⟨0, (), rfl, rfl, ⟨by rw [ht]; exact hC.1, va_K.moved hW.alike hK, hC.2.1⟩, by rw [ht]; exact hC.2.2.2⟩, hC.2.2.1.F ht⟩) hC.2.2.1.2.2 dX3_answer_109
    replace hf := (if_neg c13).symm.trans hf
    refine lv_tableOut (tgt := 110) hx hb dX3_answer_6 (by have := z_ton (a := 0) c7 (by decide); have := z_ton (a := 1) c8 (by decide); have := z_ton (a := 2) c9 (by decide); have := z_ton (a := 3) c11 (by decide); have := z_ton (a := 4) c12 (by decide); have := z_ton (a := 5) c13 (by decide); omega) (by decide) ?_
    refine lv_aload_n hx hb dX3_answer_110 rfl (lv_at hl 1 rfl) ?_
    refine cG_71 (v := (p1.2.i 71)) hx hb hts i_X3_answer_X3 hown hK hC (hts (.fieldLink RX3 72 "StatementRules2$Machine" "taken" "I") k_X3_answer_fieldLink_RX3_72_SR_Machine_taken_I) (fun _ q9 => q9) dX3_answer_111 rfl ?_
    obtain rfl := Option.some.inj hf
    exact W.iret (v := (p1.2.i 71)) hx hb hr (fun t ht hW => ⟨⟨(p1.2.i 71), (), rfl, rfl, ⟨by rw [ht]; exact hC.1, va_K.moved hW.alike hK, hC.2.1⟩, by rw [ht]; exact hC.2.2.2⟩, hC.2.2.1.F ht⟩) hC.2.2.1.2.2 dX3_answer_114
  ·
    refine W.eq (congrArg (fun v9 => F0 m 4 ls (va_rf v9 :: [])) q5) ?_
    refine W.eq (g2 := F0 m 4 ls (.ref a6 :: [])) rfl ?_
    refine lv_astore_n (lv' := [(2, .ref a6), (0, .ref (Q.o 7)), (1, .int x1)]) hx hb dX3_answer_4 rfl hl (by decide) rfl (fun ls hl => ?_)
    refine lv_iload_n hx hb dX3_answer_5 rfl (lv_at hl 2 rfl) ?_
    by_cases c14 : x1 = 0
    ·
      replace hf := (if_pos c14).symm.trans hf
      refine lv_tableIn (off := 38) (tgt := 44) hx hb dX3_answer_6 (by rw [c14]; decide) (by rw [c14]; decide) (by rw [c14]; decide) (by decide) ?_
      refine lv_aload_n hx hb dX3_answer_44 rfl (lv_at hl 1 rfl) ?_
      refine cG_70 (v := (p1.2.i 70)) hx hb hts i_X3_answer_X3 hown hK hC (hts (.fieldLink RX3 69 "StatementRules2$Machine" "steps" "I") k_X3_answer_fieldLink_RX3_69_SR_Machine_steps_I) (fun _ q9 => q9) dX3_answer_45 rfl ?_
      obtain rfl := Option.some.inj hf
      exact W.iret (v := (p1.2.i 70)) hx hb hr (fun t ht hW => ⟨⟨(p1.2.i 70), (), rfl, rfl, ⟨by rw [ht]; exact hC.1, va_K.moved hW.alike hK, hC.2.1⟩, by rw [ht]; exact hC.2.2.2⟩, hC.2.2.1.F ht⟩) hC.2.2.1.2.2 dX3_answer_48
    replace hf := (if_neg c14).symm.trans hf
    by_cases c15 : x1 = 1
    ·
      replace hf := (if_pos c15).symm.trans hf
      refine lv_tableIn (off := 43) (tgt := 49) hx hb dX3_answer_6 (by rw [c15]; decide) (by rw [c15]; decide) (by rw [c15]; decide) (by decide) ?_
      refine lv_aload_n hx hb dX3_answer_49 rfl (lv_at hl 1 rfl) ?_
      refine cG_69 (v := (p1.2.i 69)) hx hb hts i_X3_answer_X3 hown hK hC (hts (.fieldLink RX3 66 "StatementRules2$Machine" "rowCount" "I") k_X3_answer_fieldLink_RX3_66_SR_Machine_rowCount_I) (fun _ q9 => q9) dX3_answer_50 rfl ?_
      obtain rfl := Option.some.inj hf
      exact W.iret (v := (p1.2.i 69)) hx hb hr (fun t ht hW => ⟨⟨(p1.2.i 69), (), rfl, rfl, ⟨by rw [ht]; exact hC.1, va_K.moved hW.alike hK, hC.2.1⟩, by rw [ht]; exact hC.2.2.2⟩, hC.2.2.1.F ht⟩) hC.2.2.1.2.2 dX3_answer_53
    replace hf := (if_neg c15).symm.trans hf
    by_cases c16 : x1 = 2
    ·
      replace hf := (if_pos c16).symm.trans hf
      refine lv_tableIn (off := 48) (tgt := 54) hx hb dX3_answer_6 (by rw [c16]; decide) (by rw [c16]; decide) (by rw [c16]; decide) (by decide) ?_
      refine lv_aload_n hx hb dX3_answer_54 rfl (lv_at hl 1 rfl) ?_
      refine cG_72 (v := (p1.2.i 72)) hx hb hts i_X3_answer_X3 hown hK hC (hts (.fieldLink RX3 85 "StatementRules2$Machine" "outcome" "I") k_X3_answer_fieldLink_RX3_85_SR_Machine_outcome_I) (fun _ q9 => q9) dX3_answer_55 rfl ?_
      refine lv_iconst (v := 1) hx hb dX3_answer_58 (by decide) ?_
      refine lv_icmp_ne (tgt := 69) hx hb dX3_answer_59 (by decide) (fun c17 => ?_) (fun c17 => ?_)
      ·
        replace hf := (if_neg c17).symm.trans hf
        refine lv_iconst (v := 0) hx hb dX3_answer_69 (by decide) ?_
        obtain rfl := Option.some.inj hf
        exact W.iret (v := 0) hx hb hr (fun t ht hW => ⟨⟨0, (), rfl, rfl, ⟨by rw [ht]; exact hC.1, va_K.moved hW.alike hK, hC.2.1⟩, by rw [ht]; exact hC.2.2.2⟩, hC.2.2.1.F ht⟩) hC.2.2.1.2.2 dX3_answer_70
      ·
        replace hf := (if_pos c17).symm.trans hf
        refine lv_aload_n hx hb dX3_answer_62 rfl (lv_at hl 1 rfl) ?_
        refine cG_74 (v := (p1.2.i 74)) hx hb hts i_X3_answer_X3 hown hK hC (hts (.fieldLink RX3 78 "StatementRules2$Machine" "wayValue" "I") k_X3_answer_fieldLink_RX3_78_SR_Machine_wayValue_I) (fun _ q9 => q9) dX3_answer_63 rfl ?_
        refine lv_goto (tgt := 70) hx hb dX3_answer_66 (by decide) ?_
        obtain rfl := Option.some.inj hf
        exact W.iret (v := (p1.2.i 74)) hx hb hr (fun t ht hW => ⟨⟨(p1.2.i 74), (), rfl, rfl, ⟨by rw [ht]; exact hC.1, va_K.moved hW.alike hK, hC.2.1⟩, by rw [ht]; exact hC.2.2.2⟩, hC.2.2.1.F ht⟩) hC.2.2.1.2.2 dX3_answer_70
    replace hf := (if_neg c16).symm.trans hf
    by_cases c18 : x1 = 3
    ·
      replace hf := (if_pos c18).symm.trans hf
      refine lv_tableIn (off := 65) (tgt := 71) hx hb dX3_answer_6 (by rw [c18]; decide) (by rw [c18]; decide) (by rw [c18]; decide) (by decide) ?_
      refine lv_aload_n hx hb dX3_answer_71 rfl (lv_at hl 0 rfl) ?_
      refine lv_ifnonnull (tgt := 79) hx hb dX3_answer_72 (by decide) ?_
      refine lv_aload_n hx hb dX3_answer_79 rfl (lv_at hl 0 rfl) ?_
      obtain ⟨b19, hf⟩ := hf_ite hf
      refine pGN_X8_2 (v := (CS.o p1.2 a6 2)) hx hb hts i_X3_answer_X8 hown hK hC (va_Nw.use rfl (hZ.1 (.fieldLinkNest RX3 99 "StatementRules2$Thrown" "sort" "I" "StatementRules2") (by decide +kernel))) (fun _ q9 => q9) dX3_answer_80 b19 rfl ?_
      obtain rfl := Option.some.inj hf
      exact W.iret (v := (CS.o p1.2 a6 2)) hx hb hr (fun t ht hW => ⟨⟨(CS.o p1.2 a6 2), (), rfl, rfl, ⟨by rw [ht]; exact hC.1, va_K.moved hW.alike hK, hC.2.1⟩, by rw [ht]; exact hC.2.2.2⟩, hC.2.2.1.F ht⟩) hC.2.2.1.2.2 dX3_answer_83
    replace hf := (if_neg c18).symm.trans hf
    by_cases c20 : x1 = 4
    ·
      replace hf := (if_pos c20).symm.trans hf
      refine lv_tableIn (off := 78) (tgt := 84) hx hb dX3_answer_6 (by rw [c20]; decide) (by rw [c20]; decide) (by rw [c20]; decide) (by decide) ?_
      refine lv_aload_n hx hb dX3_answer_84 rfl (lv_at hl 0 rfl) ?_
      refine lv_ifnonnull (tgt := 92) hx hb dX3_answer_85 (by decide) ?_
      refine lv_aload_n hx hb dX3_answer_92 rfl (lv_at hl 0 rfl) ?_
      obtain ⟨b21, hf⟩ := hf_ite hf
      refine pGN_X8_3 (v := (CS.o p1.2 a6 3)) hx hb hts i_X3_answer_X8 hown hK hC (va_Nw.use rfl (hZ.1 (.fieldLinkNest RX3 102 "StatementRules2$Thrown" "number" "I" "StatementRules2") (by decide +kernel))) (fun _ q9 => q9) dX3_answer_93 b21 rfl ?_
      obtain rfl := Option.some.inj hf
      exact W.iret (v := (CS.o p1.2 a6 3)) hx hb hr (fun t ht hW => ⟨⟨(CS.o p1.2 a6 3), (), rfl, rfl, ⟨by rw [ht]; exact hC.1, va_K.moved hW.alike hK, hC.2.1⟩, by rw [ht]; exact hC.2.2.2⟩, hC.2.2.1.F ht⟩) hC.2.2.1.2.2 dX3_answer_96
    replace hf := (if_neg c20).symm.trans hf
    by_cases c22 : x1 = 5
    ·
      replace hf := (if_pos c22).symm.trans hf
      refine lv_tableIn (off := 91) (tgt := 97) hx hb dX3_answer_6 (by rw [c22]; decide) (by rw [c22]; decide) (by rw [c22]; decide) (by decide) ?_
      refine lv_aload_n hx hb dX3_answer_97 rfl (lv_at hl 0 rfl) ?_
      refine lv_ifnonnull (tgt := 105) hx hb dX3_answer_98 (by decide) ?_
      refine lv_aload_n hx hb dX3_answer_105 rfl (lv_at hl 0 rfl) ?_
      obtain ⟨b23, hf⟩ := hf_ite hf
      refine pGN_X8_4 (v := (CS.o p1.2 a6 4)) hx hb hts i_X3_answer_X8 hown hK hC (va_Nw.use rfl (hZ.1 (.fieldLinkNest RX3 105 "StatementRules2$Thrown" "count" "I" "StatementRules2") (by decide +kernel))) (fun _ q9 => q9) dX3_answer_106 b23 rfl ?_
      obtain rfl := Option.some.inj hf
      exact W.iret (v := (CS.o p1.2 a6 4)) hx hb hr (fun t ht hW => ⟨⟨(CS.o p1.2 a6 4), (), rfl, rfl, ⟨by rw [ht]; exact hC.1, va_K.moved hW.alike hK, hC.2.1⟩, by rw [ht]; exact hC.2.2.2⟩, hC.2.2.1.F ht⟩) hC.2.2.1.2.2 dX3_answer_109
    replace hf := (if_neg c22).symm.trans hf
    refine lv_tableOut (tgt := 110) hx hb dX3_answer_6 (by have := z_ton (a := 0) c14 (by decide); have := z_ton (a := 1) c15 (by decide); have := z_ton (a := 2) c16 (by decide); have := z_ton (a := 3) c18 (by decide); have := z_ton (a := 4) c20 (by decide); have := z_ton (a := 5) c22 (by decide); omega) (by decide) ?_
    refine lv_aload_n hx hb dX3_answer_110 rfl (lv_at hl 1 rfl) ?_
    refine cG_71 (v := (p1.2.i 71)) hx hb hts i_X3_answer_X3 hown hK hC (hts (.fieldLink RX3 72 "StatementRules2$Machine" "taken" "I") k_X3_answer_fieldLink_RX3_72_SR_Machine_taken_I) (fun _ q9 => q9) dX3_answer_111 rfl ?_
    obtain rfl := Option.some.inj hf
    exact W.iret (v := (p1.2.i 71)) hx hb hr (fun t ht hW => ⟨⟨(p1.2.i 71), (), rfl, rfl, ⟨by rw [ht]; exact hC.1, va_K.moved hW.alike hK, hC.2.1⟩, by rw [ht]; exact hC.2.2.2⟩, hC.2.2.1.F ht⟩) hC.2.2.1.2.2 dX3_answer_114
theorem k_X6_clear_fieldLink_RX6_21_SR_Opens_count_I : Cond.fieldLink RX6 21 "StatementRules2$Opens" "count" "I" ∈ wzX6_clear := List.mem_cons_of_mem _ (List.mem_append_left _ (List.mem_of_getElem? (i := 0) rfl))
theorem i_X6_clear_X6 : ∀ w ∈ wsX60, w ∈ wzX6_clear := fun _ h => List.mem_cons_of_mem _ (List.mem_append_right _ (List.mem_append_left _ (h)))
theorem k_X6_clear_fieldLink_RX6_25_SR_Opens_serials_I : Cond.fieldLink RX6 25 "StatementRules2$Opens" "serials" "I" ∈ wzX6_clear := List.mem_cons_of_mem _ (List.mem_append_left _ (List.mem_of_getElem? (i := 1) rfl))
theorem k_X6_clear_fieldLink_RX6_28_SR_Opens_jumpCount_I : Cond.fieldLink RX6 28 "StatementRules2$Opens" "jumpCount" "I" ∈ wzX6_clear := List.mem_cons_of_mem _ (List.mem_append_left _ (List.mem_of_getElem? (i := 2) rfl))
theorem k_X6_clear_fieldLink_RX6_31_SR_Opens_arm_I : Cond.fieldLink RX6 31 "StatementRules2$Opens" "arm" "I" ∈ wzX6_clear := List.mem_cons_of_mem _ (List.mem_append_left _ (List.mem_of_getElem? (i := 3) rfl))
set_option maxHeartbeats 4000000 in
set_option maxRecDepth 100000 in
theorem c_X6_clear (l : Launch) (dC : Nat → ClassId) (dI : Nat → Nat → Nat) (Q : CQ) (N : Nat) (σ : CS) (R : Unit × CS) (hf : f_X6_clear N σ = some R) : Met l yX6_clear wzX6_clear ({ frames := 1, cells := CS.hs R.2 - CS.hs σ, slots := 17 * (CS.hs R.2 - CS.hs σ), locals := 60 * 1 }) (va_Pc [.ref (Q.o 6)] (zPre dC dI (CS.hs σ) (cW Q σ) (cT Q))) (va_Qv (fun (_ : Unit) => True) (fun (_ : Unit) (t : State) => zPost dC dI (va_A (cW Q σ) (CS.hs σ)) (cW Q R.2) (cT Q) t ∧ t.heap.size = CS.hs R.2) (va_A (cW Q σ) (CS.hs σ))) (CS.hs R.2 - CS.hs σ) (17 * (CS.hs R.2 - CS.hs σ)) (va_A (cW Q σ) (CS.hs σ)) := by
  refine Met.ofW (cc := cX6_clear) (maxL := 1) (ret := none) (by decide) rfl ?_
  intro p e s m args below meth c s₁ B hml hv
  obtain ⟨rfl, hsz, hZ, hP, hK, hD0⟩ := hv
  have hx := B.exec
  have hb := B.bytes
  have hr := B.returns
  have hts := atoms_spec (ws := wzX6_clear) B.pre
  have hown : s.vm.findClass RX6 = some m.cls := findClass_of_methodNamed B.named
  have hlocks := B.notSynchronized
  have hD := hD0.self (sz := CS.hs σ)
  generalize hAe : va_A (cW Q σ) (CS.hs σ) = A at hD ⊢
  have hA : ∀ q : Nat, s.heap.size ≤ q → A q := fun q h => by rw [← hAe]; exact Or.inr (hsz ▸ h)
  have hC : CP dC dI Q A s.heap σ s.heap [] := ⟨hP, hD, va_S.rf, hsz⟩
  have h0 : CS.hs σ ≤ CS.hs σ := Nat.le_refl _
  have hl := lv_entry ([.ref (Q.o 6)]) (n := 1) (Nat.le_of_ble_eq_true rfl)
  rw [lg_entry_eq]
  generalize (lg_sl ([.ref (Q.o 6)]) ++ List.replicate (1 - (lg_sl ([.ref (Q.o 6)])).length) Slot.unset).toArray = ls at hl ⊢
  have hl : lv_has ls 1 [(0, .ref (Q.o 6))] := hl
  unfold f_X6_clear at hf
  refine W.widen (k := CS.hs σ - CS.hs σ) (n := 17 * (CS.hs σ - CS.hs σ)) (Nat.zero_le _) (Nat.zero_le _) ?_
  refine lv_aload_n hx hb dX6_clear_0 rfl (lv_at hl 0 rfl) ?_
  refine lv_iconst (v := 0) hx hb dX6_clear_1 (by decide) ?_
  refine cP_53 (v := 0) hx hb hts i_X6_clear_X6 hown hK hC (hts (.fieldLink RX6 21 "StatementRules2$Opens" "count" "I") k_X6_clear_fieldLink_RX6_21_SR_Opens_count_I) (fun _ q9 => q9) dX6_clear_2 (fun H locs hC => ?_)
  refine lv_aload_n hx hb dX6_clear_5 rfl (lv_at hl 0 rfl) ?_
  refine lv_iconst (v := 0) hx hb dX6_clear_6 (by decide) ?_
  refine cP_54 (v := 0) hx hb hts i_X6_clear_X6 hown hK hC (hts (.fieldLink RX6 25 "StatementRules2$Opens" "serials" "I") k_X6_clear_fieldLink_RX6_25_SR_Opens_serials_I) (fun _ q9 => q9) dX6_clear_7 (fun H locs hC => ?_)
  refine lv_aload_n hx hb dX6_clear_10 rfl (lv_at hl 0 rfl) ?_
  refine lv_iconst (v := 0) hx hb dX6_clear_11 (by decide) ?_
  refine cP_55 (v := 0) hx hb hts i_X6_clear_X6 hown hK hC (hts (.fieldLink RX6 28 "StatementRules2$Opens" "jumpCount" "I") k_X6_clear_fieldLink_RX6_28_SR_Opens_jumpCount_I) (fun _ q9 => q9) dX6_clear_12 (fun H locs hC => ?_)
  refine lv_aload_n hx hb dX6_clear_15 rfl (lv_at hl 0 rfl) ?_
  refine lv_iconst (v := (-1)) hx hb dX6_clear_16 (by decide) ?_
  refine cP_56 (v := (-1)) hx hb hts i_X6_clear_X6 hown hK hC (hts (.fieldLink RX6 31 "StatementRules2$Opens" "arm" "I") k_X6_clear_fieldLink_RX6_31_SR_Opens_arm_I) (fun _ q9 => q9) dX6_clear_17 (fun H locs hC => ?_)
  obtain rfl := Option.some.inj hf
  exact W.vret hx hb hr (fun t ht hW => ⟨⟨(), rfl, trivial, ⟨by rw [ht]; exact hC.1, va_K.moved hW.alike hK, hC.2.1⟩, by rw [ht]; exact hC.2.2.2⟩, hC.2.2.1.F ht⟩) hC.2.2.1.2.2 dX6_clear_20
theorem k_X9_start_fieldLink_RX9_31_SR_Tokens_length_I : Cond.fieldLink RX9 31 "StatementRules2$Tokens" "length" "I" ∈ wzX9_start := List.mem_cons_of_mem _ (List.mem_append_left _ (List.mem_of_getElem? (i := 0) rfl))
theorem i_X9_start_X9 : ∀ w ∈ wsX90, w ∈ wzX9_start := fun _ h => List.mem_cons_of_mem _ (List.mem_append_right _ (List.mem_append_left _ (h)))
theorem k_X9_start_fieldLink_RX9_34_SR_Tokens_next_I : Cond.fieldLink RX9 34 "StatementRules2$Tokens" "next" "I" ∈ wzX9_start := List.mem_cons_of_mem _ (List.mem_append_left _ (List.mem_of_getElem? (i := 1) rfl))
set_option maxHeartbeats 4000000 in
set_option maxRecDepth 100000 in
theorem c_X9_start (l : Launch) (dC : Nat → ClassId) (dI : Nat → Nat → Nat) (Q : CQ) (N : Nat) (σ : CS) (x1 : Int32) (R : Unit × CS) (hf : f_X9_start N σ x1 = some R) : Met l yX9_start wzX9_start ({ frames := 4, cells := CS.hs R.2 - CS.hs σ, slots := 17 * (CS.hs R.2 - CS.hs σ), locals := 60 * 4 }) (va_Pc [.ref (Q.o 4), .int x1] (zPre dC dI (CS.hs σ) (cW Q σ) (cT Q))) (va_Qv (fun (_ : Unit) => True) (fun (_ : Unit) (t : State) => zPost dC dI (va_A (cW Q σ) (CS.hs σ)) (cW Q R.2) (cT Q) t ∧ t.heap.size = CS.hs R.2) (va_A (cW Q σ) (CS.hs σ))) (CS.hs R.2 - CS.hs σ) (17 * (CS.hs R.2 - CS.hs σ)) (va_A (cW Q σ) (CS.hs σ)) := by
  refine Met.ofW (cc := cX9_start) (maxL := 2) (ret := none) (by decide) rfl ?_
  intro p e s m args below meth c s₁ B hml hv
  obtain ⟨rfl, hsz, hZ, hP, hK, hD0⟩ := hv
  have hx := B.exec
  have hb := B.bytes
  have hr := B.returns
  have hts := atoms_spec (ws := wzX9_start) B.pre
  have hown : s.vm.findClass RX9 = some m.cls := findClass_of_methodNamed B.named
  have hlocks := B.notSynchronized
  have hD := hD0.self (sz := CS.hs σ)
  generalize hAe : va_A (cW Q σ) (CS.hs σ) = A at hD ⊢
  have hA : ∀ q : Nat, s.heap.size ≤ q → A q := fun q h => by rw [← hAe]; exact Or.inr (hsz ▸ h)
  have hC : CP dC dI Q A s.heap σ s.heap [] := ⟨hP, hD, va_S.rf, hsz⟩
  have h0 : CS.hs σ ≤ CS.hs σ := Nat.le_refl _
  have hl := lv_entry ([.ref (Q.o 4), .int x1]) (n := 2) (Nat.le_of_ble_eq_true rfl)
  rw [lg_entry_eq]
  generalize (lg_sl ([.ref (Q.o 4), .int x1]) ++ List.replicate (2 - (lg_sl ([.ref (Q.o 4), .int x1])).length) Slot.unset).toArray = ls at hl ⊢
  have hl : lv_has ls 2 [(0, .ref (Q.o 4)), (1, .int x1)] := hl
  unfold f_X9_start at hf
  refine W.widen (k := CS.hs σ - CS.hs σ) (n := 17 * (CS.hs σ - CS.hs σ)) (Nat.zero_le _) (Nat.zero_le _) ?_
  refine lv_aload_n hx hb dX9_start_0 rfl (lv_at hl 0 rfl) ?_
  refine lv_iload_n hx hb dX9_start_1 rfl (lv_at hl 1 rfl) ?_
  refine cP_41 (v := x1) hx hb hts i_X9_start_X9 hown hK hC (hts (.fieldLink RX9 31 "StatementRules2$Tokens" "length" "I") k_X9_start_fieldLink_RX9_31_SR_Tokens_length_I) (fun _ q9 => q9) dX9_start_2 (fun H locs hC => ?_)
  refine lv_aload_n hx hb dX9_start_5 rfl (lv_at hl 0 rfl) ?_
  refine lv_iconst (v := 0) hx hb dX9_start_6 (by decide) ?_
  refine cP_42 (v := 0) hx hb hts i_X9_start_X9 hown hK hC (hts (.fieldLink RX9 34 "StatementRules2$Tokens" "next" "I") k_X9_start_fieldLink_RX9_34_SR_Tokens_next_I) (fun _ q9 => q9) dX9_start_7 (fun H locs hC => ?_)
  refine lv_aload_n hx hb dX9_start_10 rfl (lv_at hl 0 rfl) ?_
  obtain ⟨p1, hcp1, hf⟩ := hf_bind hf
  have mo2 : CS.hs σ ≤ CS.hs p1.2 := Mono.go hcp1 (m_X9_advance N (CS.setI (CS.setI σ 41 x1) 42 0))
  have hr9 : CS.hs p1.2 ≤ CS.hs R.2 := Mono.go hf (mono_some (Nat.le_refl _))
  have hFc := cFree hC hA
  refine va_callv (va_runV (As := []) (rest := []) ⟨hx, hb, hml, hown, hts⟩ (c_X9_advance l dC dI Q N (CS.setI (CS.setI σ 41 x1) 42 0) p1 hcp1) (cwV 0 hts hX9_start_X9_advance_v37 rfl rfl rfl (by decide +kernel) ⟨(show 3 + 1 ≤ 4 by omega), (show 8 + (2 + 11) + 60 * 3 ≤ 60 * 4 by omega)⟩) ⟨zPre.blind, va_recv hK hC.1 (ci := 8) (q0 := 4) rfl rfl, cPre_go hZ hK hC⟩ rfl rfl hl.1 rfl (lv_room (Nat.le_of_ble_eq_true rfl)) dX9_start_11 (cAcc h0 mo2 hr9)) hC.2.2.1 (fun q _ h => hFc q h) hFc (fun u9 t9 H1 locs ht hvm hw hB hz1 hk1 hS => ?_)
  obtain ⟨⟨hP, hK1, hD1⟩, hsz1⟩ := hB
  rw [ht] at hP hsz1
  have hC : CP dC dI Q A s.heap p1.2 H1 locs := ⟨hP, hD1.weaken (fun _ _ _ h => hFc _ h), hS, hsz1⟩
  generalize H1 = H at hC ⊢
  have h4 : (CS.hs σ) ≤ CS.hs p1.2 := Nat.le_trans h0 mo2
  refine W.widen (k := CS.hs p1.2 - (CS.hs σ)) (n := 17 * (CS.hs p1.2 - (CS.hs σ))) (cAcc2 h0 mo2) (cAcc3 h0 mo2) ?_
  obtain rfl := Option.some.inj hf
  exact W.vret hx hb hr (fun t ht hW => ⟨⟨(), rfl, trivial, ⟨by rw [ht]; exact hC.1, va_K.moved hW.alike hK, hC.2.1⟩, by rw [ht]; exact hC.2.2.2⟩, hC.2.2.1.F ht⟩) hC.2.2.1.2.2 dX9_start_14
theorem k_X7_translate_fieldLink_RX7_20_SR_Statements_code_LSR_Code : Cond.fieldLink RX7 20 "StatementRules2$Statements" "code" "LStatementRules2$Code;" ∈ wzX7_translate := List.mem_cons_of_mem _ (List.mem_append_left _ (List.mem_of_getElem? (i := 0) rfl))
theorem k_X7_translate_sameField_SR_Statements_SR_Formulas_code_LSR_Code : Cond.sameField "StatementRules2$Statements" "StatementRules2$Formulas" "code" "LStatementRules2$Code;" ∈ wzX7_translate := List.mem_cons_of_mem _ (List.mem_append_left _ (List.mem_of_getElem? (i := 1) rfl))
theorem i_X7_translate_X7 : ∀ w ∈ wsX70, w ∈ wzX7_translate := fun _ h => List.mem_cons_of_mem _ (List.mem_append_right _ (List.mem_append_left _ (h)))
theorem k_X7_translate_fieldLink_RX7_29_SR_Statements_names_LSR_Names : Cond.fieldLink RX7 29 "StatementRules2$Statements" "names" "LStatementRules2$Names;" ∈ wzX7_translate := List.mem_cons_of_mem _ (List.mem_append_left _ (List.mem_of_getElem? (i := 2) rfl))
theorem k_X7_translate_sameField_SR_Statements_SR_Formulas_names_LSR_Names : Cond.sameField "StatementRules2$Statements" "StatementRules2$Formulas" "names" "LStatementRules2$Names;" ∈ wzX7_translate := List.mem_cons_of_mem _ (List.mem_append_left _ (List.mem_of_getElem? (i := 3) rfl))
theorem i_X7_translate_X4 : ∀ w ∈ wsX40, w ∈ wzX7_translate := fun _ h => List.mem_cons_of_mem _ (List.mem_append_right _ (List.mem_append_right _ (List.mem_append_left _ (h))))
theorem k_X7_translate_constantLong_RX7_39_97 : Cond.constantLong RX7 39 (97) ∈ wzX7_translate := List.mem_cons_of_mem _ (List.mem_append_left _ (List.mem_of_getElem? (i := 4) rfl))
theorem k_X7_translate_constantLong_RX7_49_98 : Cond.constantLong RX7 49 (98) ∈ wzX7_translate := List.mem_cons_of_mem _ (List.mem_append_left _ (List.mem_of_getElem? (i := 5) rfl))
theorem k_X7_translate_fieldLink_RX7_14_SR_Statements_opens_LSR_Opens : Cond.fieldLink RX7 14 "StatementRules2$Statements" "opens" "LStatementRules2$Opens;" ∈ wzX7_translate := List.mem_cons_of_mem _ (List.mem_append_left _ (List.mem_of_getElem? (i := 6) rfl))
theorem k_X7_translate_fieldLink_RX7_52_SR_Statements_faultNumber_I : Cond.fieldLink RX7 52 "StatementRules2$Statements" "faultNumber" "I" ∈ wzX7_translate := List.mem_cons_of_mem _ (List.mem_append_left _ (List.mem_of_getElem? (i := 7) rfl))
theorem k_X7_translate_sameField_SR_Statements_SR_Formulas_faultNumber_I : Cond.sameField "StatementRules2$Statements" "StatementRules2$Formulas" "faultNumber" "I" ∈ wzX7_translate := List.mem_cons_of_mem _ (List.mem_append_left _ (List.mem_of_getElem? (i := 8) rfl))
theorem k_X7_translate_fieldLink_RX7_55_SR_Statements_faultPlace_I : Cond.fieldLink RX7 55 "StatementRules2$Statements" "faultPlace" "I" ∈ wzX7_translate := List.mem_cons_of_mem _ (List.mem_append_left _ (List.mem_of_getElem? (i := 9) rfl))
theorem k_X7_translate_sameField_SR_Statements_SR_Formulas_faultPlace_I : Cond.sameField "StatementRules2$Statements" "StatementRules2$Formulas" "faultPlace" "I" ∈ wzX7_translate := List.mem_cons_of_mem _ (List.mem_append_left _ (List.mem_of_getElem? (i := 10) rfl))
theorem k_X7_translate_fieldLink_RX7_58_SR_Statements_openSigns_I : Cond.fieldLink RX7 58 "StatementRules2$Statements" "openSigns" "I" ∈ wzX7_translate := List.mem_cons_of_mem _ (List.mem_append_left _ (List.mem_of_getElem? (i := 11) rfl))
theorem k_X7_translate_sameField_SR_Statements_SR_Formulas_openSigns_I : Cond.sameField "StatementRules2$Statements" "StatementRules2$Formulas" "openSigns" "I" ∈ wzX7_translate := List.mem_cons_of_mem _ (List.mem_append_left _ (List.mem_of_getElem? (i := 12) rfl))
theorem k_X7_translate_fieldLink_RX7_61_SR_Statements_alive_Z : Cond.fieldLink RX7 61 "StatementRules2$Statements" "alive" "Z" ∈ wzX7_translate := List.mem_cons_of_mem _ (List.mem_append_left _ (List.mem_of_getElem? (i := 13) rfl))
theorem k_X7_translate_fieldLink_RX7_65_SR_Statements_unreached_I : Cond.fieldLink RX7 65 "StatementRules2$Statements" "unreached" "I" ∈ wzX7_translate := List.mem_cons_of_mem _ (List.mem_append_left _ (List.mem_of_getElem? (i := 14) rfl))
theorem k_X7_translate_fieldLink_RX7_68_SR_Statements_depth_I : Cond.fieldLink RX7 68 "StatementRules2$Statements" "depth" "I" ∈ wzX7_translate := List.mem_cons_of_mem _ (List.mem_append_left _ (List.mem_of_getElem? (i := 15) rfl))
theorem k_X7_translate_fieldLink_RX7_71_SR_Statements_tokens_LSR_Tokens : Cond.fieldLink RX7 71 "StatementRules2$Statements" "tokens" "LStatementRules2$Tokens;" ∈ wzX7_translate := List.mem_cons_of_mem _ (List.mem_append_left _ (List.mem_of_getElem? (i := 16) rfl))
theorem k_X7_translate_sameField_SR_Statements_SR_Formulas_tokens_LSR_Tokens : Cond.sameField "StatementRules2$Statements" "StatementRules2$Formulas" "tokens" "LStatementRules2$Tokens;" ∈ wzX7_translate := List.mem_cons_of_mem _ (List.mem_append_left _ (List.mem_of_getElem? (i := 17) rfl))
set_option maxHeartbeats 4000000 in
set_option maxRecDepth 100000 in
theorem j_X7_translate_139 {p : Program} {e : Env} {s : State} {m : MethodId} {args : Array Value} {below : List Frame} {meth : Method} {c : Code} {A : Nat → Prop} (l : Launch) (dC : Nat → ClassId) (dI : Nat → Nat → Nat) (Q : CQ) (N : Nat) (d : Nat) (E1 : CS → Option (Unit × CS)) (E2 : CS → Option (Int32 × CS)) (hE1 : cMF l dC dI Q d E1) (hE2 : cMO l dC dI Q d E2) (hm1 : ∀ σ, Mono (CS.hs σ) (E1 σ)) (hm2 : ∀ σ, Mono (CS.hs σ) (E2 σ)) (z9h : Nat) (R : Int32 × CS) (hx : p.tables.exec = Jvm.exec) (hb : c.code = cX7_translate) (hr : meth.sig.returnType = (some .int)) (hml : c.maxLocals = 2) (hown : s.vm.findClass RX7 = some m.cls) (hts : ∀ w ∈ wzX7_translate, w.before args s = true) (hlocks : meth.locks = false) (hZ : zAMB s) (hA : ∀ q : Nat, s.heap.size ≤ q → A q) (hK : va_K (dC, dI) vwCl (cT Q) s) : ∀ (σ : CS) (H : Heap) (locs : List Loc) (ls : Array Slot), f_X7_translate_139 N E1 E2 σ = some R → z9h ≤ CS.hs σ → CP dC dI Q A s.heap σ H locs → lv_has ls 2 [(0, .ref (Q.o 3))] → W p l e ({ frames := (22 + 40 * d), cells := CS.hs R.2 - z9h, slots := 17 * (CS.hs R.2 - z9h), locals := 60 * (22 + 40 * d) }) s m args below meth c H locs (CS.hs σ - z9h) (17 * (CS.hs σ - z9h)) (MQ below (va_Qi (fun (r : Int32) (_ : Unit) => r = R.1) (fun (_ : Unit) (t : State) => zPost dC dI A (cW Q R.2) (cT Q) t ∧ t.heap.size = CS.hs R.2) A) args s (CS.hs R.2 - z9h) (17 * (CS.hs R.2 - z9h)) A) (F0 m 139 ls []) := by
  intro σ  H locs ls hf h0 hC hl
  unfold f_X7_translate_139 at hf
  refine lv_aload_n hx hb dX7_translate_139 rfl (lv_at hl 0 rfl) ?_
  refine cG_32 (v := (σ.i 32)) hx hb hts i_X7_translate_X7 hown hK hC (hts (.fieldLink RX7 52 "StatementRules2$Statements" "faultNumber" "I") k_X7_translate_fieldLink_RX7_52_SR_Statements_faultNumber_I) (fun x9 q9 => u_same (hts (.sameField "StatementRules2$Statements" "StatementRules2$Formulas" "faultNumber" "I") k_X7_translate_sameField_SR_Statements_SR_Formulas_faultNumber_I) x9 q9) dX7_translate_140 rfl ?_
  obtain rfl := Option.some.inj hf
  exact W.iret (v := (σ.i 32)) hx hb hr (fun t ht hW => ⟨⟨(σ.i 32), (), rfl, rfl, ⟨by rw [ht]; exact hC.1, va_K.moved hW.alike hK, hC.2.1⟩, by rw [ht]; exact hC.2.2.2⟩, hC.2.2.1.F ht⟩) hC.2.2.1.2.2 dX7_translate_143
set_option maxHeartbeats 4000000 in
set_option maxRecDepth 100000 in
theorem c_X7_translate (l : Launch) (dC : Nat → ClassId) (dI : Nat → Nat → Nat) (Q : CQ) (N : Nat) (d : Nat) (E1 : CS → Option (Unit × CS)) (E2 : CS → Option (Int32 × CS)) (hE1 : cMF l dC dI Q d E1) (hE2 : cMO l dC dI Q d E2) (hm1 : ∀ σ, Mono (CS.hs σ) (E1 σ)) (hm2 : ∀ σ, Mono (CS.hs σ) (E2 σ)) (σ : CS) (x1 : Int32) (R : Int32 × CS) (hf : f_X7_translate N E1 E2 σ x1 = some R) : Met l yX7_translate wzX7_translate ({ frames := (22 + 40 * d), cells := CS.hs R.2 - CS.hs σ, slots := 17 * (CS.hs R.2 - CS.hs σ), locals := 60 * (22 + 40 * d) }) (va_Pc [.ref (Q.o 3), .int x1] (zPre dC dI (CS.hs σ) (cW Q σ) (cT Q))) (va_Qi (fun (r : Int32) (_ : Unit) => r = R.1) (fun (_ : Unit) (t : State) => zPost dC dI (va_A (cW Q σ) (CS.hs σ)) (cW Q R.2) (cT Q) t ∧ t.heap.size = CS.hs R.2) (va_A (cW Q σ) (CS.hs σ))) (CS.hs R.2 - CS.hs σ) (17 * (CS.hs R.2 - CS.hs σ)) (va_A (cW Q σ) (CS.hs σ)) := by
  refine Met.ofW (cc := cX7_translate) (maxL := 2) (ret := (some .int)) (by decide) rfl ?_
  intro p e s m args below meth c s₁ B hml hv
  obtain ⟨rfl, hsz, hZ, hP, hK, hD0⟩ := hv
  have hx := B.exec
  have hb := B.bytes
  have hr := B.returns
  have hts := atoms_spec (ws := wzX7_translate) B.pre
  have hown : s.vm.findClass RX7 = some m.cls := findClass_of_methodNamed B.named
  have hlocks := B.notSynchronized
  have hD := hD0.self (sz := CS.hs σ)
  generalize hAe : va_A (cW Q σ) (CS.hs σ) = A at hD ⊢
  have hA : ∀ q : Nat, s.heap.size ≤ q → A q := fun q h => by rw [← hAe]; exact Or.inr (hsz ▸ h)
  have hC : CP dC dI Q A s.heap σ s.heap [] := ⟨hP, hD, va_S.rf, hsz⟩
  have h0 : CS.hs σ ≤ CS.hs σ := Nat.le_refl _
  have hl := lv_entry ([.ref (Q.o 3), .int x1]) (n := 2) (Nat.le_of_ble_eq_true rfl)
  rw [lg_entry_eq]
  generalize (lg_sl ([.ref (Q.o 3), .int x1]) ++ List.replicate (2 - (lg_sl ([.ref (Q.o 3), .int x1])).length) Slot.unset).toArray = ls at hl ⊢
  have hl : lv_has ls 2 [(0, .ref (Q.o 3)), (1, .int x1)] := hl
  unfold f_X7_translate at hf
  refine W.widen (k := CS.hs σ - CS.hs σ) (n := 17 * (CS.hs σ - CS.hs σ)) (Nat.zero_le _) (Nat.zero_le _) ?_
  refine lv_aload_n hx hb dX7_translate_0 rfl (lv_at hl 0 rfl) ?_
  refine cG_29 hx hb hts i_X7_translate_X7 hown hK hC (hts (.fieldLink RX7 20 "StatementRules2$Statements" "code" "LStatementRules2$Code;") k_X7_translate_fieldLink_RX7_20_SR_Statements_code_LSR_Code) (fun x9 q9 => u_same (hts (.sameField "StatementRules2$Statements" "StatementRules2$Formulas" "code" "LStatementRules2$Code;") k_X7_translate_sameField_SR_Statements_SR_Formulas_code_LSR_Code) x9 q9) dX7_translate_1 ?_
  obtain ⟨p1, hcp1, hf⟩ := hf_bind hf
  have mo2 : CS.hs σ ≤ CS.hs p1.2 := Mono.go hcp1 (m_X0_clear N σ)
  have hr9 : CS.hs p1.2 ≤ CS.hs R.2 := Mono.go hf (mono_bind (m_X0_newCells N (CS.setI p1.2 50 0) 1) (fun p5 => (mono_bind (m_X4_add N p5.2 97 p5.1 (-1)) (fun p9 => (mono_bind (m_X0_newCells N p9.2 1) (fun p13 => (mono_bind (m_X4_add N p13.2 98 p13.1 (-1)) (fun p17 => (mono_bind (m_X6_clear N p17.2) (fun p21 => (mono_bind (m_X9_start N (CS.setI (CS.setI (CS.setI (CS.setI (CS.setI (CS.setI p21.2 32 0) 33 0) 34 0) 36 1) 37 (-1)) 38 0) x1) (fun p25 => (mono_bind (m_X6_push N p25.2 300 0 (p25.2.i 50)) (fun p29 => (mono_oc (mono_bind (m_X7_turns N E1 E2 hm1 hm2 p29.2 0) (fun p35 => (mono_ite (m_X7_translate_139 N E1 E2 hm1 hm2 p35.2) (mono_bind (m_X1_fail N p35.2 7 (p35.2.i 37)) (fun p40 => (m_X7_translate_139 N E1 E2 hm1 hm2 p40.2)))))) (fun a34 => (mono_bind (m_X7_turns N E1 E2 hm1 hm2 p29.2 0) (fun p44 => (mono_ite (m_X7_translate_139 N E1 E2 hm1 hm2 p44.2) (mono_bind (m_X1_fail N p44.2 7 (p44.2.i 37)) (fun p49 => (m_X7_translate_139 N E1 E2 hm1 hm2 p49.2))))))))))))))))))))))
  have hFc := cFree hC hA
  refine va_callv (va_runV (As := []) (rest := []) ⟨hx, hb, hml, hown, hts⟩ (c_X0_clear l dC dI Q N σ p1 hcp1) (cwV 0 hts hX7_translate_X0_clear_v24 rfl rfl rfl (by decide +kernel) ⟨(show 1 + 1 ≤ (22 + 40 * d) by omega), (show 8 + (1 + 11) + 60 * 1 ≤ 60 * (22 + 40 * d) by omega)⟩) ⟨zPre.blind, va_recv hK hC.1 (ci := 0) (q0 := 2) rfl rfl, cPre_go hZ hK hC⟩ rfl rfl hl.1 rfl (lv_room (Nat.le_of_ble_eq_true rfl)) dX7_translate_4 (cAcc h0 mo2 hr9)) hC.2.2.1 (fun q _ h => hFc q h) hFc (fun u9 t9 H1 locs ht hvm hw hB hz1 hk1 hS => ?_)
  obtain ⟨⟨hP, hK1, hD1⟩, hsz1⟩ := hB
  rw [ht] at hP hsz1
  have hC : CP dC dI Q A s.heap p1.2 H1 locs := ⟨hP, hD1.weaken (fun _ _ _ h => hFc _ h), hS, hsz1⟩
  generalize H1 = H at hC ⊢
  have h4 : (CS.hs σ) ≤ CS.hs p1.2 := Nat.le_trans h0 mo2
  refine W.widen (k := CS.hs p1.2 - (CS.hs σ)) (n := 17 * (CS.hs p1.2 - (CS.hs σ))) (cAcc2 h0 mo2) (cAcc3 h0 mo2) ?_
  refine lv_aload_n hx hb dX7_translate_7 rfl (lv_at hl 0 rfl) ?_
  refine cG_31 hx hb hts i_X7_translate_X7 hown hK hC (hts (.fieldLink RX7 29 "StatementRules2$Statements" "names" "LStatementRules2$Names;") k_X7_translate_fieldLink_RX7_29_SR_Statements_names_LSR_Names) (fun x9 q9 => u_same (hts (.sameField "StatementRules2$Statements" "StatementRules2$Formulas" "names" "LStatementRules2$Names;") k_X7_translate_sameField_SR_Statements_SR_Formulas_names_LSR_Names) x9 q9) dX7_translate_8 ?_
  refine lv_iconst (v := 0) hx hb dX7_translate_11 (by decide) ?_
  refine cPN_50 (v := 0) hx hb hts i_X7_translate_X4 hown hK hC (va_Nw.use rfl (hZ.1 (.fieldLinkNest RX7 33 "StatementRules2$Names" "count" "I" "StatementRules2") (by decide +kernel))) (fun _ q9 => q9) dX7_translate_12 (fun H locs hC => ?_)
  refine lv_aload_n hx hb dX7_translate_15 rfl (lv_at hl 0 rfl) ?_
  refine cG_31 hx hb hts i_X7_translate_X7 hown hK hC (hts (.fieldLink RX7 29 "StatementRules2$Statements" "names" "LStatementRules2$Names;") k_X7_translate_fieldLink_RX7_29_SR_Statements_names_LSR_Names) (fun x9 q9 => u_same (hts (.sameField "StatementRules2$Statements" "StatementRules2$Formulas" "names" "LStatementRules2$Names;") k_X7_translate_sameField_SR_Statements_SR_Formulas_names_LSR_Names) x9 q9) dX7_translate_16 ?_
  refine lv_ldc2 (v := 97) hx hb hown (hts (.constantLong RX7 39 (97)) k_X7_translate_constantLong_RX7_39_97) dX7_translate_19 ?_
  refine lv_aload_n hx hb dX7_translate_22 rfl (lv_at hl 0 rfl) ?_
  refine cG_29 hx hb hts i_X7_translate_X7 hown hK hC (hts (.fieldLink RX7 20 "StatementRules2$Statements" "code" "LStatementRules2$Code;") k_X7_translate_fieldLink_RX7_20_SR_Statements_code_LSR_Code) (fun x9 q9 => u_same (hts (.sameField "StatementRules2$Statements" "StatementRules2$Formulas" "code" "LStatementRules2$Code;") k_X7_translate_sameField_SR_Statements_SR_Formulas_code_LSR_Code) x9 q9) dX7_translate_23 ?_
  refine lv_iconst (v := 1) hx hb dX7_translate_26 (by decide) ?_
  obtain ⟨p5, hcp5, hf⟩ := hf_bind hf
  have mo6 : CS.hs p1.2 ≤ CS.hs p5.2 := Mono.go hcp5 (m_X0_newCells N (CS.setI p1.2 50 0) 1)
  have hr9 : CS.hs p5.2 ≤ CS.hs R.2 := Mono.go hf (mono_bind (m_X4_add N p5.2 97 p5.1 (-1)) (fun p9 => (mono_bind (m_X0_newCells N p9.2 1) (fun p13 => (mono_bind (m_X4_add N p13.2 98 p13.1 (-1)) (fun p17 => (mono_bind (m_X6_clear N p17.2) (fun p21 => (mono_bind (m_X9_start N (CS.setI (CS.setI (CS.setI (CS.setI (CS.setI (CS.setI p21.2 32 0) 33 0) 34 0) 36 1) 37 (-1)) 38 0) x1) (fun p25 => (mono_bind (m_X6_push N p25.2 300 0 (p25.2.i 50)) (fun p29 => (mono_oc (mono_bind (m_X7_turns N E1 E2 hm1 hm2 p29.2 0) (fun p35 => (mono_ite (m_X7_translate_139 N E1 E2 hm1 hm2 p35.2) (mono_bind (m_X1_fail N p35.2 7 (p35.2.i 37)) (fun p40 => (m_X7_translate_139 N E1 E2 hm1 hm2 p40.2)))))) (fun a34 => (mono_bind (m_X7_turns N E1 E2 hm1 hm2 p29.2 0) (fun p44 => (mono_ite (m_X7_translate_139 N E1 E2 hm1 hm2 p44.2) (mono_bind (m_X1_fail N p44.2 7 (p44.2.i 37)) (fun p49 => (m_X7_translate_139 N E1 E2 hm1 hm2 p49.2))))))))))))))))))))
  have hFc := cFree hC hA
  refine va_calli (va_runV (As := [.int 1]) (rest := [.long 97, .ref (Q.o 5)]) ⟨hx, hb, hml, hown, hts⟩ (c_X0_newCells l dC dI Q N (CS.setI p1.2 50 0) 1 p5 hcp5) (cwV 1 hts hX7_translate_X0_newCells_v41 rfl rfl rfl (by decide +kernel) ⟨(show 1 + 1 ≤ (22 + 40 * d) by omega), (show 8 + (2 + 11) + 60 * 1 ≤ 60 * (22 + 40 * d) by omega)⟩) ⟨zPre.blind, va_recv hK hC.1 (ci := 0) (q0 := 2) rfl rfl, cPre_go hZ hK hC⟩ rfl rfl hl.1 rfl (lv_room (Nat.le_of_ble_eq_true rfl)) dX7_translate_27 (cAcc h4 mo6 hr9)) hC.2.2.1 (fun q _ h => hFc q h) hFc (fun r7 u9 t9 H1 locs ht hvm hw hB hz1 hk1 hS => ?_)
  obtain ⟨⟨hP, hK1, hD1⟩, hsz1⟩ := hB
  rw [ht] at hP hsz1
  have hC : CP dC dI Q A s.heap p5.2 H1 locs := ⟨hP, hD1.weaken (fun _ _ _ h => hFc _ h), hS, hsz1⟩
  generalize H1 = H at hC ⊢
  have h8 : (CS.hs σ) ≤ CS.hs p5.2 := Nat.le_trans h4 mo6
  refine W.widen (k := CS.hs p5.2 - (CS.hs σ)) (n := 17 * (CS.hs p5.2 - (CS.hs σ))) (cAcc2 h4 mo6) (cAcc3 h4 mo6) ?_
  obtain rfl : r7 = p5.1 := hw
  refine lv_iconst (v := (-1)) hx hb dX7_translate_30 (by decide) ?_
  obtain ⟨p9, hcp9, hf⟩ := hf_bind hf
  have mo10 : CS.hs p5.2 ≤ CS.hs p9.2 := Mono.go hcp9 (m_X4_add N p5.2 97 p5.1 (-1))
  have hr9 : CS.hs p9.2 ≤ CS.hs R.2 := Mono.go hf (mono_bind (m_X0_newCells N p9.2 1) (fun p13 => (mono_bind (m_X4_add N p13.2 98 p13.1 (-1)) (fun p17 => (mono_bind (m_X6_clear N p17.2) (fun p21 => (mono_bind (m_X9_start N (CS.setI (CS.setI (CS.setI (CS.setI (CS.setI (CS.setI p21.2 32 0) 33 0) 34 0) 36 1) 37 (-1)) 38 0) x1) (fun p25 => (mono_bind (m_X6_push N p25.2 300 0 (p25.2.i 50)) (fun p29 => (mono_oc (mono_bind (m_X7_turns N E1 E2 hm1 hm2 p29.2 0) (fun p35 => (mono_ite (m_X7_translate_139 N E1 E2 hm1 hm2 p35.2) (mono_bind (m_X1_fail N p35.2 7 (p35.2.i 37)) (fun p40 => (m_X7_translate_139 N E1 E2 hm1 hm2 p40.2)))))) (fun a34 => (mono_bind (m_X7_turns N E1 E2 hm1 hm2 p29.2 0) (fun p44 => (mono_ite (m_X7_translate_139 N E1 E2 hm1 hm2 p44.2) (mono_bind (m_X1_fail N p44.2 7 (p44.2.i 37)) (fun p49 => (m_X7_translate_139 N E1 E2 hm1 hm2 p49.2))))))))))))))))))
  have hFc := cFree hC hA
  refine va_callv (va_runV (As := [.long 97, .int p5.1, .int (-1)]) (rest := []) ⟨hx, hb, hml, hown, hts⟩ (c_X4_add l dC dI Q N p5.2 97 p5.1 (-1) p9 hcp9) (cwV 3 hts hX7_translate_X4_add_v45 rfl rfl rfl (by decide +kernel) ⟨(show 1 + 1 ≤ (22 + 40 * d) by omega), (show 8 + (5 + 11) + 60 * 1 ≤ 60 * (22 + 40 * d) by omega)⟩) ⟨zPre.blind, va_recv hK hC.1 (ci := 3) (q0 := 5) rfl rfl, cPre_go hZ hK hC⟩ rfl rfl hl.1 rfl (lv_room (Nat.le_of_ble_eq_true rfl)) dX7_translate_31 (cAcc h8 mo10 hr9)) hC.2.2.1 (fun q _ h => hFc q h) hFc (fun u9 t9 H1 locs ht hvm hw hB hz1 hk1 hS => ?_)
  obtain ⟨⟨hP, hK1, hD1⟩, hsz1⟩ := hB
  rw [ht] at hP hsz1
  have hC : CP dC dI Q A s.heap p9.2 H1 locs := ⟨hP, hD1.weaken (fun _ _ _ h => hFc _ h), hS, hsz1⟩
  generalize H1 = H at hC ⊢
  have h12 : (CS.hs σ) ≤ CS.hs p9.2 := Nat.le_trans h8 mo10
  refine W.widen (k := CS.hs p9.2 - (CS.hs σ)) (n := 17 * (CS.hs p9.2 - (CS.hs σ))) (cAcc2 h8 mo10) (cAcc3 h8 mo10) ?_
  refine lv_aload_n hx hb dX7_translate_34 rfl (lv_at hl 0 rfl) ?_
  refine cG_31 hx hb hts i_X7_translate_X7 hown hK hC (hts (.fieldLink RX7 29 "StatementRules2$Statements" "names" "LStatementRules2$Names;") k_X7_translate_fieldLink_RX7_29_SR_Statements_names_LSR_Names) (fun x9 q9 => u_same (hts (.sameField "StatementRules2$Statements" "StatementRules2$Formulas" "names" "LStatementRules2$Names;") k_X7_translate_sameField_SR_Statements_SR_Formulas_names_LSR_Names) x9 q9) dX7_translate_35 ?_
  refine lv_ldc2 (v := 98) hx hb hown (hts (.constantLong RX7 49 (98)) k_X7_translate_constantLong_RX7_49_98) dX7_translate_38 ?_
  refine lv_aload_n hx hb dX7_translate_41 rfl (lv_at hl 0 rfl) ?_
  refine cG_29 hx hb hts i_X7_translate_X7 hown hK hC (hts (.fieldLink RX7 20 "StatementRules2$Statements" "code" "LStatementRules2$Code;") k_X7_translate_fieldLink_RX7_20_SR_Statements_code_LSR_Code) (fun x9 q9 => u_same (hts (.sameField "StatementRules2$Statements" "StatementRules2$Formulas" "code" "LStatementRules2$Code;") k_X7_translate_sameField_SR_Statements_SR_Formulas_code_LSR_Code) x9 q9) dX7_translate_42 ?_
  refine lv_iconst (v := 1) hx hb dX7_translate_45 (by decide) ?_
  obtain ⟨p13, hcp13, hf⟩ := hf_bind hf
  have mo14 : CS.hs p9.2 ≤ CS.hs p13.2 := Mono.go hcp13 (m_X0_newCells N p9.2 1)
  have hr9 : CS.hs p13.2 ≤ CS.hs R.2 := Mono.go hf (mono_bind (m_X4_add N p13.2 98 p13.1 (-1)) (fun p17 => (mono_bind (m_X6_clear N p17.2) (fun p21 => (mono_bind (m_X9_start N (CS.setI (CS.setI (CS.setI (CS.setI (CS.setI (CS.setI p21.2 32 0) 33 0) 34 0) 36 1) 37 (-1)) 38 0) x1) (fun p25 => (mono_bind (m_X6_push N p25.2 300 0 (p25.2.i 50)) (fun p29 => (mono_oc (mono_bind (m_X7_turns N E1 E2 hm1 hm2 p29.2 0) (fun p35 => (mono_ite (m_X7_translate_139 N E1 E2 hm1 hm2 p35.2) (mono_bind (m_X1_fail N p35.2 7 (p35.2.i 37)) (fun p40 => (m_X7_translate_139 N E1 E2 hm1 hm2 p40.2)))))) (fun a34 => (mono_bind (m_X7_turns N E1 E2 hm1 hm2 p29.2 0) (fun p44 => (mono_ite (m_X7_translate_139 N E1 E2 hm1 hm2 p44.2) (mono_bind (m_X1_fail N p44.2 7 (p44.2.i 37)) (fun p49 => (m_X7_translate_139 N E1 E2 hm1 hm2 p49.2))))))))))))))))
  have hFc := cFree hC hA
  refine va_calli (va_runV (As := [.int 1]) (rest := [.long 98, .ref (Q.o 5)]) ⟨hx, hb, hml, hown, hts⟩ (c_X0_newCells l dC dI Q N p9.2 1 p13 hcp13) (cwV 1 hts hX7_translate_X0_newCells_v41 rfl rfl rfl (by decide +kernel) ⟨(show 1 + 1 ≤ (22 + 40 * d) by omega), (show 8 + (2 + 11) + 60 * 1 ≤ 60 * (22 + 40 * d) by omega)⟩) ⟨zPre.blind, va_recv hK hC.1 (ci := 0) (q0 := 2) rfl rfl, cPre_go hZ hK hC⟩ rfl rfl hl.1 rfl (lv_room (Nat.le_of_ble_eq_true rfl)) dX7_translate_46 (cAcc h12 mo14 hr9)) hC.2.2.1 (fun q _ h => hFc q h) hFc (fun r15 u9 t9 H1 locs ht hvm hw hB hz1 hk1 hS => ?_)
  obtain ⟨⟨hP, hK1, hD1⟩, hsz1⟩ := hB
  rw [ht] at hP hsz1
  have hC : CP dC dI Q A s.heap p13.2 H1 locs := ⟨hP, hD1.weaken (fun _ _ _ h => hFc _ h), hS, hsz1⟩
  generalize H1 = H at hC ⊢
  have h16 : (CS.hs σ) ≤ CS.hs p13.2 := Nat.le_trans h12 mo14
  refine W.widen (k := CS.hs p13.2 - (CS.hs σ)) (n := 17 * (CS.hs p13.2 - (CS.hs σ))) (cAcc2 h12 mo14) (cAcc3 h12 mo14) ?_
  obtain rfl : r15 = p13.1 := hw
  refine lv_iconst (v := (-1)) hx hb dX7_translate_49 (by decide) ?_
  obtain ⟨p17, hcp17, hf⟩ := hf_bind hf
  have mo18 : CS.hs p13.2 ≤ CS.hs p17.2 := Mono.go hcp17 (m_X4_add N p13.2 98 p13.1 (-1))
  have hr9 : CS.hs p17.2 ≤ CS.hs R.2 := Mono.go hf (mono_bind (m_X6_clear N p17.2) (fun p21 => (mono_bind (m_X9_start N (CS.setI (CS.setI (CS.setI (CS.setI (CS.setI (CS.setI p21.2 32 0) 33 0) 34 0) 36 1) 37 (-1)) 38 0) x1) (fun p25 => (mono_bind (m_X6_push N p25.2 300 0 (p25.2.i 50)) (fun p29 => (mono_oc (mono_bind (m_X7_turns N E1 E2 hm1 hm2 p29.2 0) (fun p35 => (mono_ite (m_X7_translate_139 N E1 E2 hm1 hm2 p35.2) (mono_bind (m_X1_fail N p35.2 7 (p35.2.i 37)) (fun p40 => (m_X7_translate_139 N E1 E2 hm1 hm2 p40.2)))))) (fun a34 => (mono_bind (m_X7_turns N E1 E2 hm1 hm2 p29.2 0) (fun p44 => (mono_ite (m_X7_translate_139 N E1 E2 hm1 hm2 p44.2) (mono_bind (m_X1_fail N p44.2 7 (p44.2.i 37)) (fun p49 => (m_X7_translate_139 N E1 E2 hm1 hm2 p49.2))))))))))))))
  have hFc := cFree hC hA
  refine va_callv (va_runV (As := [.long 98, .int p13.1, .int (-1)]) (rest := []) ⟨hx, hb, hml, hown, hts⟩ (c_X4_add l dC dI Q N p13.2 98 p13.1 (-1) p17 hcp17) (cwV 3 hts hX7_translate_X4_add_v45 rfl rfl rfl (by decide +kernel) ⟨(show 1 + 1 ≤ (22 + 40 * d) by omega), (show 8 + (5 + 11) + 60 * 1 ≤ 60 * (22 + 40 * d) by omega)⟩) ⟨zPre.blind, va_recv hK hC.1 (ci := 3) (q0 := 5) rfl rfl, cPre_go hZ hK hC⟩ rfl rfl hl.1 rfl (lv_room (Nat.le_of_ble_eq_true rfl)) dX7_translate_50 (cAcc h16 mo18 hr9)) hC.2.2.1 (fun q _ h => hFc q h) hFc (fun u9 t9 H1 locs ht hvm hw hB hz1 hk1 hS => ?_)
  obtain ⟨⟨hP, hK1, hD1⟩, hsz1⟩ := hB
  rw [ht] at hP hsz1
  have hC : CP dC dI Q A s.heap p17.2 H1 locs := ⟨hP, hD1.weaken (fun _ _ _ h => hFc _ h), hS, hsz1⟩
  generalize H1 = H at hC ⊢
  have h20 : (CS.hs σ) ≤ CS.hs p17.2 := Nat.le_trans h16 mo18
  refine W.widen (k := CS.hs p17.2 - (CS.hs σ)) (n := 17 * (CS.hs p17.2 - (CS.hs σ))) (cAcc2 h16 mo18) (cAcc3 h16 mo18) ?_
  refine lv_aload_n hx hb dX7_translate_53 rfl (lv_at hl 0 rfl) ?_
  refine cG_35 hx hb hts i_X7_translate_X7 hown hK hC (hts (.fieldLink RX7 14 "StatementRules2$Statements" "opens" "LStatementRules2$Opens;") k_X7_translate_fieldLink_RX7_14_SR_Statements_opens_LSR_Opens) (fun _ q9 => q9) dX7_translate_54 ?_
  obtain ⟨p21, hcp21, hf⟩ := hf_bind hf
  have mo22 : CS.hs p17.2 ≤ CS.hs p21.2 := Mono.go hcp21 (m_X6_clear N p17.2)
  have hr9 : CS.hs p21.2 ≤ CS.hs R.2 := Mono.go hf (mono_bind (m_X9_start N (CS.setI (CS.setI (CS.setI (CS.setI (CS.setI (CS.setI p21.2 32 0) 33 0) 34 0) 36 1) 37 (-1)) 38 0) x1) (fun p25 => (mono_bind (m_X6_push N p25.2 300 0 (p25.2.i 50)) (fun p29 => (mono_oc (mono_bind (m_X7_turns N E1 E2 hm1 hm2 p29.2 0) (fun p35 => (mono_ite (m_X7_translate_139 N E1 E2 hm1 hm2 p35.2) (mono_bind (m_X1_fail N p35.2 7 (p35.2.i 37)) (fun p40 => (m_X7_translate_139 N E1 E2 hm1 hm2 p40.2)))))) (fun a34 => (mono_bind (m_X7_turns N E1 E2 hm1 hm2 p29.2 0) (fun p44 => (mono_ite (m_X7_translate_139 N E1 E2 hm1 hm2 p44.2) (mono_bind (m_X1_fail N p44.2 7 (p44.2.i 37)) (fun p49 => (m_X7_translate_139 N E1 E2 hm1 hm2 p49.2))))))))))))
  have hFc := cFree hC hA
  refine va_callv (va_runV (As := []) (rest := []) ⟨hx, hb, hml, hown, hts⟩ (c_X6_clear l dC dI Q N p17.2 p21 hcp21) (cwV 0 hts hX7_translate_X6_clear_v51 rfl rfl rfl (by decide +kernel) ⟨(show 1 + 1 ≤ (22 + 40 * d) by omega), (show 8 + (1 + 11) + 60 * 1 ≤ 60 * (22 + 40 * d) by omega)⟩) ⟨zPre.blind, va_recv hK hC.1 (ci := 5) (q0 := 6) rfl rfl, cPre_go hZ hK hC⟩ rfl rfl hl.1 rfl (lv_room (Nat.le_of_ble_eq_true rfl)) dX7_translate_57 (cAcc h20 mo22 hr9)) hC.2.2.1 (fun q _ h => hFc q h) hFc (fun u9 t9 H1 locs ht hvm hw hB hz1 hk1 hS => ?_)
  obtain ⟨⟨hP, hK1, hD1⟩, hsz1⟩ := hB
  rw [ht] at hP hsz1
  have hC : CP dC dI Q A s.heap p21.2 H1 locs := ⟨hP, hD1.weaken (fun _ _ _ h => hFc _ h), hS, hsz1⟩
  generalize H1 = H at hC ⊢
  have h24 : (CS.hs σ) ≤ CS.hs p21.2 := Nat.le_trans h20 mo22
  refine W.widen (k := CS.hs p21.2 - (CS.hs σ)) (n := 17 * (CS.hs p21.2 - (CS.hs σ))) (cAcc2 h20 mo22) (cAcc3 h20 mo22) ?_
  refine lv_aload_n hx hb dX7_translate_60 rfl (lv_at hl 0 rfl) ?_
  refine lv_iconst (v := 0) hx hb dX7_translate_61 (by decide) ?_
  refine cP_32 (v := 0) hx hb hts i_X7_translate_X7 hown hK hC (hts (.fieldLink RX7 52 "StatementRules2$Statements" "faultNumber" "I") k_X7_translate_fieldLink_RX7_52_SR_Statements_faultNumber_I) (fun x9 q9 => u_same (hts (.sameField "StatementRules2$Statements" "StatementRules2$Formulas" "faultNumber" "I") k_X7_translate_sameField_SR_Statements_SR_Formulas_faultNumber_I) x9 q9) dX7_translate_62 (fun H locs hC => ?_)
  refine lv_aload_n hx hb dX7_translate_65 rfl (lv_at hl 0 rfl) ?_
  refine lv_iconst (v := 0) hx hb dX7_translate_66 (by decide) ?_
  refine cP_33 (v := 0) hx hb hts i_X7_translate_X7 hown hK hC (hts (.fieldLink RX7 55 "StatementRules2$Statements" "faultPlace" "I") k_X7_translate_fieldLink_RX7_55_SR_Statements_faultPlace_I) (fun x9 q9 => u_same (hts (.sameField "StatementRules2$Statements" "StatementRules2$Formulas" "faultPlace" "I") k_X7_translate_sameField_SR_Statements_SR_Formulas_faultPlace_I) x9 q9) dX7_translate_67 (fun H locs hC => ?_)
  refine lv_aload_n hx hb dX7_translate_70 rfl (lv_at hl 0 rfl) ?_
  refine lv_iconst (v := 0) hx hb dX7_translate_71 (by decide) ?_
  refine cP_34 (v := 0) hx hb hts i_X7_translate_X7 hown hK hC (hts (.fieldLink RX7 58 "StatementRules2$Statements" "openSigns" "I") k_X7_translate_fieldLink_RX7_58_SR_Statements_openSigns_I) (fun x9 q9 => u_same (hts (.sameField "StatementRules2$Statements" "StatementRules2$Formulas" "openSigns" "I") k_X7_translate_sameField_SR_Statements_SR_Formulas_openSigns_I) x9 q9) dX7_translate_72 (fun H locs hC => ?_)
  refine lv_aload_n hx hb dX7_translate_75 rfl (lv_at hl 0 rfl) ?_
  refine lv_iconst (v := 1) hx hb dX7_translate_76 (by decide) ?_
  refine cP_36 (v := 1) hx hb hts i_X7_translate_X7 hown hK hC (hts (.fieldLink RX7 61 "StatementRules2$Statements" "alive" "Z") k_X7_translate_fieldLink_RX7_61_SR_Statements_alive_Z) (fun _ q9 => q9) dX7_translate_77 (by decide) (fun H locs hC => ?_)
  refine lv_aload_n hx hb dX7_translate_80 rfl (lv_at hl 0 rfl) ?_
  refine lv_iconst (v := (-1)) hx hb dX7_translate_81 (by decide) ?_
  refine cP_37 (v := (-1)) hx hb hts i_X7_translate_X7 hown hK hC (hts (.fieldLink RX7 65 "StatementRules2$Statements" "unreached" "I") k_X7_translate_fieldLink_RX7_65_SR_Statements_unreached_I) (fun _ q9 => q9) dX7_translate_82 (fun H locs hC => ?_)
  refine lv_aload_n hx hb dX7_translate_85 rfl (lv_at hl 0 rfl) ?_
  refine lv_iconst (v := 0) hx hb dX7_translate_86 (by decide) ?_
  refine cP_38 (v := 0) hx hb hts i_X7_translate_X7 hown hK hC (hts (.fieldLink RX7 68 "StatementRules2$Statements" "depth" "I") k_X7_translate_fieldLink_RX7_68_SR_Statements_depth_I) (fun _ q9 => q9) dX7_translate_87 (fun H locs hC => ?_)
  refine lv_aload_n hx hb dX7_translate_90 rfl (lv_at hl 0 rfl) ?_
  refine cG_28 hx hb hts i_X7_translate_X7 hown hK hC (hts (.fieldLink RX7 71 "StatementRules2$Statements" "tokens" "LStatementRules2$Tokens;") k_X7_translate_fieldLink_RX7_71_SR_Statements_tokens_LSR_Tokens) (fun x9 q9 => u_same (hts (.sameField "StatementRules2$Statements" "StatementRules2$Formulas" "tokens" "LStatementRules2$Tokens;") k_X7_translate_sameField_SR_Statements_SR_Formulas_tokens_LSR_Tokens) x9 q9) dX7_translate_91 ?_
  refine lv_iload_n hx hb dX7_translate_94 rfl (lv_at hl 1 rfl) ?_
  obtain ⟨p25, hcp25, hf⟩ := hf_bind hf
  have mo26 : CS.hs p21.2 ≤ CS.hs p25.2 := Mono.go hcp25 (m_X9_start N (CS.setI (CS.setI (CS.setI (CS.setI (CS.setI (CS.setI p21.2 32 0) 33 0) 34 0) 36 1) 37 (-1)) 38 0) x1)
  have hr9 : CS.hs p25.2 ≤ CS.hs R.2 := Mono.go hf (mono_bind (m_X6_push N p25.2 300 0 (p25.2.i 50)) (fun p29 => (mono_oc (mono_bind (m_X7_turns N E1 E2 hm1 hm2 p29.2 0) (fun p35 => (mono_ite (m_X7_translate_139 N E1 E2 hm1 hm2 p35.2) (mono_bind (m_X1_fail N p35.2 7 (p35.2.i 37)) (fun p40 => (m_X7_translate_139 N E1 E2 hm1 hm2 p40.2)))))) (fun a34 => (mono_bind (m_X7_turns N E1 E2 hm1 hm2 p29.2 0) (fun p44 => (mono_ite (m_X7_translate_139 N E1 E2 hm1 hm2 p44.2) (mono_bind (m_X1_fail N p44.2 7 (p44.2.i 37)) (fun p49 => (m_X7_translate_139 N E1 E2 hm1 hm2 p49.2))))))))))
  have hFc := cFree hC hA
  refine va_callv (va_runV (As := [.int x1]) (rest := []) ⟨hx, hb, hml, hown, hts⟩ (c_X9_start l dC dI Q N (CS.setI (CS.setI (CS.setI (CS.setI (CS.setI (CS.setI p21.2 32 0) 33 0) 34 0) 36 1) 37 (-1)) 38 0) x1 p25 hcp25) (cwV 1 hts hX7_translate_X9_start_v75 rfl rfl rfl (by decide +kernel) ⟨(show 4 + 1 ≤ (22 + 40 * d) by omega), (show 8 + (2 + 11) + 60 * 4 ≤ 60 * (22 + 40 * d) by omega)⟩) ⟨zPre.blind, va_recv hK hC.1 (ci := 8) (q0 := 4) rfl rfl, cPre_go hZ hK hC⟩ rfl rfl hl.1 rfl (lv_room (Nat.le_of_ble_eq_true rfl)) dX7_translate_95 (cAcc h24 mo26 hr9)) hC.2.2.1 (fun q _ h => hFc q h) hFc (fun u9 t9 H1 locs ht hvm hw hB hz1 hk1 hS => ?_)
  obtain ⟨⟨hP, hK1, hD1⟩, hsz1⟩ := hB
  rw [ht] at hP hsz1
  have hC : CP dC dI Q A s.heap p25.2 H1 locs := ⟨hP, hD1.weaken (fun _ _ _ h => hFc _ h), hS, hsz1⟩
  generalize H1 = H at hC ⊢
  have h28 : (CS.hs σ) ≤ CS.hs p25.2 := Nat.le_trans h24 mo26
  refine W.widen (k := CS.hs p25.2 - (CS.hs σ)) (n := 17 * (CS.hs p25.2 - (CS.hs σ))) (cAcc2 h24 mo26) (cAcc3 h24 mo26) ?_
  refine lv_aload_n hx hb dX7_translate_98 rfl (lv_at hl 0 rfl) ?_
  refine cG_35 hx hb hts i_X7_translate_X7 hown hK hC (hts (.fieldLink RX7 14 "StatementRules2$Statements" "opens" "LStatementRules2$Opens;") k_X7_translate_fieldLink_RX7_14_SR_Statements_opens_LSR_Opens) (fun _ q9 => q9) dX7_translate_99 ?_
  refine lv_sipush (v := 300) hx hb dX7_translate_102 (by decide) ?_
  refine lv_iconst (v := 0) hx hb dX7_translate_105 (by decide) ?_
  refine lv_aload_n hx hb dX7_translate_106 rfl (lv_at hl 0 rfl) ?_
  refine cG_31 hx hb hts i_X7_translate_X7 hown hK hC (hts (.fieldLink RX7 29 "StatementRules2$Statements" "names" "LStatementRules2$Names;") k_X7_translate_fieldLink_RX7_29_SR_Statements_names_LSR_Names) (fun x9 q9 => u_same (hts (.sameField "StatementRules2$Statements" "StatementRules2$Formulas" "names" "LStatementRules2$Names;") k_X7_translate_sameField_SR_Statements_SR_Formulas_names_LSR_Names) x9 q9) dX7_translate_107 ?_
  refine cGN_50 (v := (p25.2.i 50)) hx hb hts i_X7_translate_X4 hown hK hC (va_Nw.use rfl (hZ.1 (.fieldLinkNest RX7 33 "StatementRules2$Names" "count" "I" "StatementRules2") (by decide +kernel))) (fun _ q9 => q9) dX7_translate_110 rfl ?_
  obtain ⟨p29, hcp29, hf⟩ := hf_bind hf
  have mo30 : CS.hs p25.2 ≤ CS.hs p29.2 := Mono.go hcp29 (m_X6_push N p25.2 300 0 (p25.2.i 50))
  have hr9 : CS.hs p29.2 ≤ CS.hs R.2 := Mono.go hf (mono_oc (mono_bind (m_X7_turns N E1 E2 hm1 hm2 p29.2 0) (fun p35 => (mono_ite (m_X7_translate_139 N E1 E2 hm1 hm2 p35.2) (mono_bind (m_X1_fail N p35.2 7 (p35.2.i 37)) (fun p40 => (m_X7_translate_139 N E1 E2 hm1 hm2 p40.2)))))) (fun a34 => (mono_bind (m_X7_turns N E1 E2 hm1 hm2 p29.2 0) (fun p44 => (mono_ite (m_X7_translate_139 N E1 E2 hm1 hm2 p44.2) (mono_bind (m_X1_fail N p44.2 7 (p44.2.i 37)) (fun p49 => (m_X7_translate_139 N E1 E2 hm1 hm2 p49.2))))))))
  have hFc := cFree hC hA
  refine va_callq (va_runV (As := [.int 300, .int 0, .int (p25.2.i 50)]) (rest := []) ⟨hx, hb, hml, hown, hts⟩ (c_X6_push l dC dI Q N p25.2 300 0 (p25.2.i 50) p29 hcp29) (cwV 3 hts hX7_translate_X6_push_v81 rfl rfl rfl (by decide +kernel) ⟨(show 2 + 1 ≤ (22 + 40 * d) by omega), (show 8 + (6 + 11) + 60 * 2 ≤ 60 * (22 + 40 * d) by omega)⟩) ⟨zPre.blind, va_recv hK hC.1 (ci := 5) (q0 := 6) rfl rfl, cPre_go hZ hK hC⟩ rfl rfl hl.1 rfl (lv_room (Nat.le_of_ble_eq_true rfl)) dX7_translate_113 (cAcc h28 mo30 hr9)) hC.2.2.1 (fun q _ h => hFc q h) hFc (fun r31 u9 t9 H1 locs ht hvm hw hB hz1 hk1 hS => ?_)
  obtain ⟨⟨hP, hK1, hD1⟩, hsz1⟩ := hB
  rw [ht] at hP hsz1
  have hC : CP dC dI Q A s.heap p29.2 H1 locs := ⟨hP, hD1.weaken (fun _ _ _ h => hFc _ h), hS, hsz1⟩
  generalize H1 = H at hC ⊢
  have h32 : (CS.hs σ) ≤ CS.hs p29.2 := Nat.le_trans h28 mo30
  refine W.widen (k := CS.hs p29.2 - (CS.hs σ)) (n := 17 * (CS.hs p29.2 - (CS.hs σ))) (cAcc2 h28 mo30) (cAcc3 h28 mo30) ?_
  obtain rfl : r31 = p29.1 := hw
  rcases hf_oc hf with ⟨q33, hf⟩ | ⟨a34, q33, hf⟩
  ·
    refine W.eq (congrArg (fun v9 => F0 m 116 ls (va_rf v9 :: [])) q33) ?_
    refine W.eq (g2 := F0 m 116 ls (.null :: [])) rfl ?_
    refine lv_pop hx hb dX7_translate_116 rfl ?_
    refine lv_aload_n hx hb dX7_translate_117 rfl (lv_at hl 0 rfl) ?_
    refine lv_iconst (v := 0) hx hb dX7_translate_118 (by decide) ?_
    obtain ⟨p35, hcp35, hf⟩ := hf_bind hf
    have mo36 : CS.hs p29.2 ≤ CS.hs p35.2 := Mono.go hcp35 (m_X7_turns N E1 E2 hm1 hm2 p29.2 0)
    have hr9 : CS.hs p35.2 ≤ CS.hs R.2 := Mono.go hf (mono_ite (m_X7_translate_139 N E1 E2 hm1 hm2 p35.2) (mono_bind (m_X1_fail N p35.2 7 (p35.2.i 37)) (fun p40 => (m_X7_translate_139 N E1 E2 hm1 hm2 p40.2))))
    have hFc := cFree hC hA
    refine va_callv (va_runV (As := [.int 0]) (rest := []) ⟨hx, hb, hml, hown, hts⟩ (c_X7_turns l dC dI Q N d E1 E2 hE1 hE2 hm1 hm2 p29.2 0 p35 hcp35) (cwV 1 hts hX7_translate_X7_turns_v85 rfl rfl rfl (by decide +kernel) ⟨(show (21 + 40 * d) + 1 ≤ (22 + 40 * d) by omega), (show 8 + (4 + 11) + 60 * (21 + 40 * d) ≤ 60 * (22 + 40 * d) by omega)⟩) ⟨zPre.blind, va_recv hK hC.1 (ci := 6) (q0 := 3) rfl rfl, cPre_go hZ hK hC⟩ rfl rfl hl.1 rfl (lv_room (Nat.le_of_ble_eq_true rfl)) dX7_translate_119 (cAcc h32 mo36 hr9)) hC.2.2.1 (fun q _ h => hFc q h) hFc (fun u9 t9 H1 locs ht hvm hw hB hz1 hk1 hS => ?_)
    obtain ⟨⟨hP, hK1, hD1⟩, hsz1⟩ := hB
    rw [ht] at hP hsz1
    have hC : CP dC dI Q A s.heap p35.2 H1 locs := ⟨hP, hD1.weaken (fun _ _ _ h => hFc _ h), hS, hsz1⟩
    generalize H1 = H at hC ⊢
    have h38 : (CS.hs σ) ≤ CS.hs p35.2 := Nat.le_trans h32 mo36
    refine W.widen (k := CS.hs p35.2 - (CS.hs σ)) (n := 17 * (CS.hs p35.2 - (CS.hs σ))) (cAcc2 h32 mo36) (cAcc3 h32 mo36) ?_
    refine lv_aload_n hx hb dX7_translate_122 rfl (lv_at hl 0 rfl) ?_
    refine cG_37 (v := (p35.2.i 37)) hx hb hts i_X7_translate_X7 hown hK hC (hts (.fieldLink RX7 65 "StatementRules2$Statements" "unreached" "I") k_X7_translate_fieldLink_RX7_65_SR_Statements_unreached_I) (fun _ q9 => q9) dX7_translate_123 rfl ?_
    refine lv_if_lt (tgt := 139) hx hb dX7_translate_126 (by decide) (fun c39 => ?_) (fun c39 => ?_)
    ·
      replace hf := (if_pos c39).symm.trans hf
      exact j_X7_translate_139 l dC dI Q N d E1 E2 hE1 hE2 hm1 hm2 (CS.hs σ) R hx hb hr hml hown hts hlocks hZ hA hK p35.2 _ _ _ hf h38 hC (lv_sub hl [0] rfl)
    ·
      replace hf := (if_neg c39).symm.trans hf
      refine lv_aload_n hx hb dX7_translate_129 rfl (lv_at hl 0 rfl) ?_
      refine lv_bipush (v := 7) hx hb dX7_translate_130 (by decide) ?_
      refine lv_aload_n hx hb dX7_translate_132 rfl (lv_at hl 0 rfl) ?_
      refine cG_37 (v := (p35.2.i 37)) hx hb hts i_X7_translate_X7 hown hK hC (hts (.fieldLink RX7 65 "StatementRules2$Statements" "unreached" "I") k_X7_translate_fieldLink_RX7_65_SR_Statements_unreached_I) (fun _ q9 => q9) dX7_translate_133 rfl ?_
      obtain ⟨p40, hcp40, hf⟩ := hf_bind hf
      have mo41 : CS.hs p35.2 ≤ CS.hs p40.2 := Mono.go hcp40 (m_X1_fail N p35.2 7 (p35.2.i 37))
      have hr9 : CS.hs p40.2 ≤ CS.hs R.2 := Mono.go hf (m_X7_translate_139 N E1 E2 hm1 hm2 p40.2)
      have hFc := cFree hC hA
      refine va_callv (va_runU (As := [.int 7, .int (p35.2.i 37)]) (rest := []) ⟨hx, hb, hml, hown, hts⟩ (c_X1_fail l dC dI Q N p35.2 7 (p35.2.i 37) p40 hcp40) (va_cwU 2 hts hX7_translate_X1_fail_u88 rfl rfl rfl rfl (by decide +kernel) ⟨(show 2 + 1 ≤ (22 + 40 * d) by omega), (show 8 + (3 + 11) + 60 * 2 ≤ 60 * (22 + 40 * d) by omega)⟩) ⟨zPre.blind, va_recv hK hC.1 (ci := 6) (q0 := 3) rfl rfl, cPre_go hZ hK hC⟩ rfl rfl hl.1 rfl (lv_room (Nat.le_of_ble_eq_true rfl)) dX7_translate_136 (cAcc h38 mo41 hr9)) hC.2.2.1 (fun q _ h => hFc q h) hFc (fun u9 t9 H1 locs ht hvm hw hB hz1 hk1 hS => ?_)
      obtain ⟨⟨hP, hK1, hD1⟩, hsz1⟩ := hB
      rw [ht] at hP hsz1
      have hC : CP dC dI Q A s.heap p40.2 H1 locs := ⟨hP, hD1.weaken (fun _ _ _ h => hFc _ h), hS, hsz1⟩
      generalize H1 = H at hC ⊢
      have h43 : (CS.hs σ) ≤ CS.hs p40.2 := Nat.le_trans h38 mo41
      refine W.widen (k := CS.hs p40.2 - (CS.hs σ)) (n := 17 * (CS.hs p40.2 - (CS.hs σ))) (cAcc2 h38 mo41) (cAcc3 h38 mo41) ?_
      exact j_X7_translate_139 l dC dI Q N d E1 E2 hE1 hE2 hm1 hm2 (CS.hs σ) R hx hb hr hml hown hts hlocks hZ hA hK p40.2 _ _ _ hf h43 hC (lv_sub hl [0] rfl)
  ·
    refine W.eq (congrArg (fun v9 => F0 m 116 ls (va_rf v9 :: [])) q33) ?_
    refine W.eq (g2 := F0 m 116 ls (.ref a34 :: [])) rfl ?_
    refine lv_pop hx hb dX7_translate_116 rfl ?_
    refine lv_aload_n hx hb dX7_translate_117 rfl (lv_at hl 0 rfl) ?_
    refine lv_iconst (v := 0) hx hb dX7_translate_118 (by decide) ?_
    obtain ⟨p44, hcp44, hf⟩ := hf_bind hf
    have mo45 : CS.hs p29.2 ≤ CS.hs p44.2 := Mono.go hcp44 (m_X7_turns N E1 E2 hm1 hm2 p29.2 0)
    have hr9 : CS.hs p44.2 ≤ CS.hs R.2 := Mono.go hf (mono_ite (m_X7_translate_139 N E1 E2 hm1 hm2 p44.2) (mono_bind (m_X1_fail N p44.2 7 (p44.2.i 37)) (fun p49 => (m_X7_translate_139 N E1 E2 hm1 hm2 p49.2))))
    have hFc := cFree hC hA
    refine va_callv (va_runV (As := [.int 0]) (rest := []) ⟨hx, hb, hml, hown, hts⟩ (c_X7_turns l dC dI Q N d E1 E2 hE1 hE2 hm1 hm2 p29.2 0 p44 hcp44) (cwV 1 hts hX7_translate_X7_turns_v85 rfl rfl rfl (by decide +kernel) ⟨(show (21 + 40 * d) + 1 ≤ (22 + 40 * d) by omega), (show 8 + (4 + 11) + 60 * (21 + 40 * d) ≤ 60 * (22 + 40 * d) by omega)⟩) ⟨zPre.blind, va_recv hK hC.1 (ci := 6) (q0 := 3) rfl rfl, cPre_go hZ hK hC⟩ rfl rfl hl.1 rfl (lv_room (Nat.le_of_ble_eq_true rfl)) dX7_translate_119 (cAcc h32 mo45 hr9)) hC.2.2.1 (fun q _ h => hFc q h) hFc (fun u9 t9 H1 locs ht hvm hw hB hz1 hk1 hS => ?_)
    obtain ⟨⟨hP, hK1, hD1⟩, hsz1⟩ := hB
    rw [ht] at hP hsz1
    have hC : CP dC dI Q A s.heap p44.2 H1 locs := ⟨hP, hD1.weaken (fun _ _ _ h => hFc _ h), hS, hsz1⟩
    generalize H1 = H at hC ⊢
    have h47 : (CS.hs σ) ≤ CS.hs p44.2 := Nat.le_trans h32 mo45
    refine W.widen (k := CS.hs p44.2 - (CS.hs σ)) (n := 17 * (CS.hs p44.2 - (CS.hs σ))) (cAcc2 h32 mo45) (cAcc3 h32 mo45) ?_
    refine lv_aload_n hx hb dX7_translate_122 rfl (lv_at hl 0 rfl) ?_
    refine cG_37 (v := (p44.2.i 37)) hx hb hts i_X7_translate_X7 hown hK hC (hts (.fieldLink RX7 65 "StatementRules2$Statements" "unreached" "I") k_X7_translate_fieldLink_RX7_65_SR_Statements_unreached_I) (fun _ q9 => q9) dX7_translate_123 rfl ?_
    refine lv_if_lt (tgt := 139) hx hb dX7_translate_126 (by decide) (fun c48 => ?_) (fun c48 => ?_)
    ·
      replace hf := (if_pos c48).symm.trans hf
      exact j_X7_translate_139 l dC dI Q N d E1 E2 hE1 hE2 hm1 hm2 (CS.hs σ) R hx hb hr hml hown hts hlocks hZ hA hK p44.2 _ _ _ hf h47 hC (lv_sub hl [0] rfl)
    ·
      replace hf := (if_neg c48).symm.trans hf
      refine lv_aload_n hx hb dX7_translate_129 rfl (lv_at hl 0 rfl) ?_
      refine lv_bipush (v := 7) hx hb dX7_translate_130 (by decide) ?_
      refine lv_aload_n hx hb dX7_translate_132 rfl (lv_at hl 0 rfl) ?_
      refine cG_37 (v := (p44.2.i 37)) hx hb hts i_X7_translate_X7 hown hK hC (hts (.fieldLink RX7 65 "StatementRules2$Statements" "unreached" "I") k_X7_translate_fieldLink_RX7_65_SR_Statements_unreached_I) (fun _ q9 => q9) dX7_translate_133 rfl ?_
      obtain ⟨p49, hcp49, hf⟩ := hf_bind hf
      have mo50 : CS.hs p44.2 ≤ CS.hs p49.2 := Mono.go hcp49 (m_X1_fail N p44.2 7 (p44.2.i 37))
      have hr9 : CS.hs p49.2 ≤ CS.hs R.2 := Mono.go hf (m_X7_translate_139 N E1 E2 hm1 hm2 p49.2)
      have hFc := cFree hC hA
      refine va_callv (va_runU (As := [.int 7, .int (p44.2.i 37)]) (rest := []) ⟨hx, hb, hml, hown, hts⟩ (c_X1_fail l dC dI Q N p44.2 7 (p44.2.i 37) p49 hcp49) (va_cwU 2 hts hX7_translate_X1_fail_u88 rfl rfl rfl rfl (by decide +kernel) ⟨(show 2 + 1 ≤ (22 + 40 * d) by omega), (show 8 + (3 + 11) + 60 * 2 ≤ 60 * (22 + 40 * d) by omega)⟩) ⟨zPre.blind, va_recv hK hC.1 (ci := 6) (q0 := 3) rfl rfl, cPre_go hZ hK hC⟩ rfl rfl hl.1 rfl (lv_room (Nat.le_of_ble_eq_true rfl)) dX7_translate_136 (cAcc h47 mo50 hr9)) hC.2.2.1 (fun q _ h => hFc q h) hFc (fun u9 t9 H1 locs ht hvm hw hB hz1 hk1 hS => ?_)
      obtain ⟨⟨hP, hK1, hD1⟩, hsz1⟩ := hB
      rw [ht] at hP hsz1
      have hC : CP dC dI Q A s.heap p49.2 H1 locs := ⟨hP, hD1.weaken (fun _ _ _ h => hFc _ h), hS, hsz1⟩
      generalize H1 = H at hC ⊢
      have h52 : (CS.hs σ) ≤ CS.hs p49.2 := Nat.le_trans h47 mo50
      refine W.widen (k := CS.hs p49.2 - (CS.hs σ)) (n := 17 * (CS.hs p49.2 - (CS.hs σ))) (cAcc2 h47 mo50) (cAcc3 h47 mo50) ?_
      exact j_X7_translate_139 l dC dI Q N d E1 E2 hE1 hE2 hm1 hm2 (CS.hs σ) R hx hb hr hml hown hts hlocks hZ hA hK p49.2 _ _ _ hf h52 hC (lv_sub hl [0] rfl)
theorem k_X10_isFull_fieldLink_RX10_24_SR_Told_kindCount_I : Cond.fieldLink RX10 24 "StatementRules2$Told" "kindCount" "I" ∈ wzX10_isFull := List.mem_cons_of_mem _ (List.mem_append_left _ (List.mem_of_getElem? (i := 0) rfl))
theorem i_X10_isFull_X10 : ∀ w ∈ wsX100, w ∈ wzX10_isFull := fun _ h => List.mem_cons_of_mem _ (List.mem_append_right _ (List.mem_append_left _ (h)))
set_option maxHeartbeats 4000000 in
set_option maxRecDepth 100000 in
theorem c_X10_isFull (l : Launch) (dC : Nat → ClassId) (dI : Nat → Nat → Nat) (Q : CQ) (N : Nat) (σ : CS) (R : Int32 × CS) (hf : f_X10_isFull N σ = some R) : Met l yX10_isFull wzX10_isFull ({ frames := 1, cells := CS.hs R.2 - CS.hs σ, slots := 17 * (CS.hs R.2 - CS.hs σ), locals := 60 * 1 }) (va_Pc [.ref (Q.o 1)] (zPre dC dI (CS.hs σ) (cW Q σ) (cT Q))) (va_Qi (fun (r : Int32) (_ : Unit) => r = R.1) (fun (_ : Unit) (t : State) => zPost dC dI (va_A (cW Q σ) (CS.hs σ)) (cW Q R.2) (cT Q) t ∧ t.heap.size = CS.hs R.2) (va_A (cW Q σ) (CS.hs σ))) (CS.hs R.2 - CS.hs σ) (17 * (CS.hs R.2 - CS.hs σ)) (va_A (cW Q σ) (CS.hs σ)) := by
  refine Met.ofW (cc := cX10_isFull) (maxL := 1) (ret := (some .boolean)) (by decide) rfl ?_
  intro p e s m args below meth c s₁ B hml hv
  obtain ⟨rfl, hsz, hZ, hP, hK, hD0⟩ := hv
  have hx := B.exec
  have hb := B.bytes
  have hr := B.returns
  have hts := atoms_spec (ws := wzX10_isFull) B.pre
  have hown : s.vm.findClass RX10 = some m.cls := findClass_of_methodNamed B.named
  have hlocks := B.notSynchronized
  have hD := hD0.self (sz := CS.hs σ)
  generalize hAe : va_A (cW Q σ) (CS.hs σ) = A at hD ⊢
  have hA : ∀ q : Nat, s.heap.size ≤ q → A q := fun q h => by rw [← hAe]; exact Or.inr (hsz ▸ h)
  have hC : CP dC dI Q A s.heap σ s.heap [] := ⟨hP, hD, va_S.rf, hsz⟩
  have h0 : CS.hs σ ≤ CS.hs σ := Nat.le_refl _
  have hl := lv_entry ([.ref (Q.o 1)]) (n := 1) (Nat.le_of_ble_eq_true rfl)
  rw [lg_entry_eq]
  generalize (lg_sl ([.ref (Q.o 1)]) ++ List.replicate (1 - (lg_sl ([.ref (Q.o 1)])).length) Slot.unset).toArray = ls at hl ⊢
  have hl : lv_has ls 1 [(0, .ref (Q.o 1))] := hl
  unfold f_X10_isFull at hf
  refine W.widen (k := CS.hs σ - CS.hs σ) (n := 17 * (CS.hs σ - CS.hs σ)) (Nat.zero_le _) (Nat.zero_le _) ?_
  refine lv_aload_n hx hb dX10_isFull_0 rfl (lv_at hl 0 rfl) ?_
  refine cG_13 (v := (σ.i 13)) hx hb hts i_X10_isFull_X10 hown hK hC (hts (.fieldLink RX10 24 "StatementRules2$Told" "kindCount" "I") k_X10_isFull_fieldLink_RX10_24_SR_Told_kindCount_I) (fun _ q9 => q9) dX10_isFull_1 rfl ?_
  refine lv_bipush (v := 12) hx hb dX10_isFull_4 (by decide) ?_
  refine lv_icmp_lt (tgt := 13) hx hb dX10_isFull_6 (by decide) (fun c1 => ?_) (fun c1 => ?_)
  ·
    replace hf := (if_pos c1).symm.trans hf
    refine lv_iconst (v := 0) hx hb dX10_isFull_13 (by decide) ?_
    obtain rfl := Option.some.inj hf
    exact W.zret (v := 0) hx hb hr (rfl) (fun t ht hW => ⟨⟨0, (), rfl, rfl, ⟨by rw [ht]; exact hC.1, va_K.moved hW.alike hK, hC.2.1⟩, by rw [ht]; exact hC.2.2.2⟩, hC.2.2.1.F ht⟩) hC.2.2.1.2.2 dX10_isFull_14
  ·
    replace hf := (if_neg c1).symm.trans hf
    refine lv_iconst (v := 1) hx hb dX10_isFull_9 (by decide) ?_
    refine lv_goto (tgt := 14) hx hb dX10_isFull_10 (by decide) ?_
    obtain rfl := Option.some.inj hf
    exact W.zret (v := 1) hx hb hr (rfl) (fun t ht hW => ⟨⟨1, (), rfl, rfl, ⟨by rw [ht]; exact hC.1, va_K.moved hW.alike hK, hC.2.1⟩, by rw [ht]; exact hC.2.2.2⟩, hC.2.2.1.F ht⟩) hC.2.2.1.2.2 dX10_isFull_14
theorem k_X10_addKind_fieldLink_RX10_9_SR_Told_above_I : Cond.fieldLink RX10 9 "StatementRules2$Told" "above" "[I" ∈ wzX10_addKind := List.mem_cons_of_mem _ (List.mem_append_left _ (List.mem_of_getElem? (i := 0) rfl))
theorem i_X10_addKind_X10 : ∀ w ∈ wsX100, w ∈ wzX10_addKind := fun _ h => List.mem_cons_of_mem _ (List.mem_append_right _ (List.mem_append_left _ (h)))
theorem k_X10_addKind_fieldLink_RX10_24_SR_Told_kindCount_I : Cond.fieldLink RX10 24 "StatementRules2$Told" "kindCount" "I" ∈ wzX10_addKind := List.mem_cons_of_mem _ (List.mem_append_left _ (List.mem_of_getElem? (i := 1) rfl))
theorem k_X10_addKind_initialized_RX11 : Cond.initialized RX11 ∈ wzX10_addKind := List.mem_cons_of_mem _ (List.mem_append_left _ (List.mem_of_getElem? (i := 2) rfl))
theorem k_X10_addKind_static_yX11_put : Cond.static yX11_put ∈ wzX10_addKind := List.mem_cons_of_mem _ (List.mem_append_left _ (List.mem_of_getElem? (i := 3) rfl))
set_option maxHeartbeats 4000000 in
set_option maxRecDepth 100000 in
theorem c_X10_addKind (l : Launch) (dC : Nat → ClassId) (dI : Nat → Nat → Nat) (Q : CQ) (N : Nat) (σ : CS) (x1 : Int32) (R : Int32 × CS) (hf : f_X10_addKind N σ x1 = some R) : Met l yX10_addKind wzX10_addKind ({ frames := 2, cells := CS.hs R.2 - CS.hs σ, slots := 17 * (CS.hs R.2 - CS.hs σ), locals := 60 * 2 }) (va_Pc [.ref (Q.o 1), .int x1] (zPre dC dI (CS.hs σ) (cW Q σ) (cT Q))) (va_Qi (fun (r : Int32) (_ : Unit) => r = R.1) (fun (_ : Unit) (t : State) => zPost dC dI (va_A (cW Q σ) (CS.hs σ)) (cW Q R.2) (cT Q) t ∧ t.heap.size = CS.hs R.2) (va_A (cW Q σ) (CS.hs σ))) (CS.hs R.2 - CS.hs σ) (17 * (CS.hs R.2 - CS.hs σ)) (va_A (cW Q σ) (CS.hs σ)) := by
  refine Met.ofW (cc := cX10_addKind) (maxL := 2) (ret := (some .int)) (by decide) rfl ?_
  intro p e s m args below meth c s₁ B hml hv
  obtain ⟨rfl, hsz, hZ, hP, hK, hD0⟩ := hv
  have hx := B.exec
  have hb := B.bytes
  have hr := B.returns
  have hts := atoms_spec (ws := wzX10_addKind) B.pre
  have hown : s.vm.findClass RX10 = some m.cls := findClass_of_methodNamed B.named
  have hlocks := B.notSynchronized
  have hD := hD0.self (sz := CS.hs σ)
  generalize hAe : va_A (cW Q σ) (CS.hs σ) = A at hD ⊢
  have hA : ∀ q : Nat, s.heap.size ≤ q → A q := fun q h => by rw [← hAe]; exact Or.inr (hsz ▸ h)
  have hC : CP dC dI Q A s.heap σ s.heap [] := ⟨hP, hD, va_S.rf, hsz⟩
  have h0 : CS.hs σ ≤ CS.hs σ := Nat.le_refl _
  have hl := lv_entry ([.ref (Q.o 1), .int x1]) (n := 2) (Nat.le_of_ble_eq_true rfl)
  rw [lg_entry_eq]
  generalize (lg_sl ([.ref (Q.o 1), .int x1]) ++ List.replicate (2 - (lg_sl ([.ref (Q.o 1), .int x1])).length) Slot.unset).toArray = ls at hl ⊢
  have hl : lv_has ls 2 [(0, .ref (Q.o 1)), (1, .int x1)] := hl
  unfold f_X10_addKind at hf
  refine W.widen (k := CS.hs σ - CS.hs σ) (n := 17 * (CS.hs σ - CS.hs σ)) (Nat.zero_le _) (Nat.zero_le _) ?_
  refine lv_aload_n hx hb dX10_addKind_0 rfl (lv_at hl 0 rfl) ?_
  refine cG_9 hx hb hts i_X10_addKind_X10 hown hK hC (hts (.fieldLink RX10 9 "StatementRules2$Told" "above" "[I") k_X10_addKind_fieldLink_RX10_9_SR_Told_above_I) (fun _ q9 => q9) dX10_addKind_1 ?_
  refine lv_aload_n hx hb dX10_addKind_4 rfl (lv_at hl 0 rfl) ?_
  refine cG_13 (v := (σ.i 13)) hx hb hts i_X10_addKind_X10 hown hK hC (hts (.fieldLink RX10 24 "StatementRules2$Told" "kindCount" "I") k_X10_addKind_fieldLink_RX10_24_SR_Told_kindCount_I) (fun _ q9 => q9) dX10_addKind_5 rfl ?_
  refine lv_iload_n hx hb dX10_addKind_8 rfl (lv_at hl 1 rfl) ?_
  have he9 := (cArr_9 (Q := Q) (σ := σ))
  have hFc := cFree1 hC hA he9
  have hr9 : CS.hs σ ≤ CS.hs R.2 := Mono.go hf (mono_some (Nat.le_refl _))
  refine va_callv (va_runSN (As := [.ref (Q.q 9), .int (σ.i 13), .int x1]) (rest := []) ⟨hx, hb, hml, hown, hts⟩ (c_X11_put l dC dI _ (Q.q 9) (Q.c 0) 12 (σ.a 9) (σ.i 13) x1 (by decide)) ⟨va_cnB 3 hts hX10_addKind_X11_put_n28 rfl rfl rfl (hZ.1 (.methodLinkNest RX10 28 yX11_put "StatementRules2") (by decide +kernel)) (hts (.initialized RX11) k_X10_addKind_initialized_RX11) (by decide +kernel) ⟨(show 1 + 1 ≤ 2 by omega), (show 8 + (3 + 11) + 60 * 1 ≤ 60 * 2 by omega)⟩, (hts (.static yX11_put) k_X10_addKind_static_yX11_put), trivial⟩ ⟨zPre.blind, zPre.go hZ (cOne hC.1 he9) (hK.sub (tys' := [(Q.c 0, .int)]) [0] rfl) (cOneD hC.2.1 he9)⟩ rfl rfl hl.1 rfl (lv_room (Nat.le_of_ble_eq_true rfl)) dX10_addKind_9 ⟨cAcc4 h0 hr9, cAcc5 h0 hr9⟩) hC.2.2.1 (fun q _ h => hFc q h) hFc (fun u9 t9 H1 locs ht hvm hw hB hz1 hk1 hS => ?_)
  obtain ⟨⟨hP1, hK1, hD1⟩, hsz1⟩ := hB
  rw [ht] at hP1 hsz1
  have hC := cBack (σ' := CS.putA σ 9 (gPut (σ.a 9) 12 (σ.i 13) x1)) hC he9 cPutA_9 (cPutA_h _ _ _) hk1 hP1 hsz1 hS
  generalize H1 = H at hC ⊢
  refine lv_aload_n hx hb dX10_addKind_12 rfl (lv_at hl 0 rfl) ?_
  refine lv_dup hx hb dX10_addKind_13 rfl ?_
  refine cG_13 (v := (σ.i 13)) hx hb hts i_X10_addKind_X10 hown hK hC (hts (.fieldLink RX10 24 "StatementRules2$Told" "kindCount" "I") k_X10_addKind_fieldLink_RX10_24_SR_Told_kindCount_I) (fun _ q9 => q9) dX10_addKind_14 rfl ?_
  refine lv_iconst (v := 1) hx hb dX10_addKind_17 (by decide) ?_
  refine lv_iadd hx hb dX10_addKind_18 ?_
  refine cP_13 (v := ((σ.i 13) + 1)) hx hb hts i_X10_addKind_X10 hown hK hC (hts (.fieldLink RX10 24 "StatementRules2$Told" "kindCount" "I") k_X10_addKind_fieldLink_RX10_24_SR_Told_kindCount_I) (fun _ q9 => q9) dX10_addKind_19 (fun H locs hC => ?_)
  refine lv_aload_n hx hb dX10_addKind_22 rfl (lv_at hl 0 rfl) ?_
  refine cG_13 (v := ((σ.i 13) + 1)) hx hb hts i_X10_addKind_X10 hown hK hC (hts (.fieldLink RX10 24 "StatementRules2$Told" "kindCount" "I") k_X10_addKind_fieldLink_RX10_24_SR_Told_kindCount_I) (fun _ q9 => q9) dX10_addKind_23 rfl ?_
  refine lv_iconst (v := 1) hx hb dX10_addKind_26 (by decide) ?_
  refine lv_isub hx hb dX10_addKind_27 ?_
  obtain rfl := Option.some.inj hf
  exact W.iret (v := (((σ.i 13) + 1) - 1)) hx hb hr (fun t ht hW => ⟨⟨(((σ.i 13) + 1) - 1), (), rfl, rfl, ⟨by rw [ht]; exact hC.1, va_K.moved hW.alike hK, hC.2.1⟩, by rw [ht]; exact hC.2.2.2⟩, hC.2.2.1.F ht⟩) hC.2.2.1.2.2 dX10_addKind_28
theorem k_X10_tellResource_fieldLink_RX10_15_SR_Told_isNull_I : Cond.fieldLink RX10 15 "StatementRules2$Told" "isNull" "[I" ∈ wzX10_tellResource := List.mem_cons_of_mem _ (List.mem_append_left _ (List.mem_of_getElem? (i := 0) rfl))
theorem i_X10_tellResource_X10 : ∀ w ∈ wsX100, w ∈ wzX10_tellResource := fun _ h => List.mem_cons_of_mem _ (List.mem_append_right _ (List.mem_append_left _ (h)))
theorem k_X10_tellResource_initialized_RX11 : Cond.initialized RX11 ∈ wzX10_tellResource := List.mem_cons_of_mem _ (List.mem_append_left _ (List.mem_of_getElem? (i := 1) rfl))
theorem k_X10_tellResource_static_yX11_put : Cond.static yX11_put ∈ wzX10_tellResource := List.mem_cons_of_mem _ (List.mem_append_left _ (List.mem_of_getElem? (i := 2) rfl))
theorem k_X10_tellResource_fieldLink_RX10_18_SR_Told_opening_I : Cond.fieldLink RX10 18 "StatementRules2$Told" "opening" "[I" ∈ wzX10_tellResource := List.mem_cons_of_mem _ (List.mem_append_left _ (List.mem_of_getElem? (i := 3) rfl))
theorem k_X10_tellResource_fieldLink_RX10_21_SR_Told_closing_I : Cond.fieldLink RX10 21 "StatementRules2$Told" "closing" "[I" ∈ wzX10_tellResource := List.mem_cons_of_mem _ (List.mem_append_left _ (List.mem_of_getElem? (i := 4) rfl))
set_option maxHeartbeats 4000000 in
set_option maxRecDepth 100000 in
theorem c_X10_tellResource (l : Launch) (dC : Nat → ClassId) (dI : Nat → Nat → Nat) (Q : CQ) (N : Nat) (σ : CS) (x1 : Int32) (x2 : Int32) (x3 : Int32) (x4 : Int32) (R : Unit × CS) (hf : f_X10_tellResource N σ x1 x2 x3 x4 = some R) : Met l yX10_tellResource wzX10_tellResource ({ frames := 2, cells := CS.hs R.2 - CS.hs σ, slots := 17 * (CS.hs R.2 - CS.hs σ), locals := 60 * 2 }) (va_Pc [.ref (Q.o 1), .int x1, .int x2, .int x3, .int x4] (zPre dC dI (CS.hs σ) (cW Q σ) (cT Q))) (va_Qv (fun (_ : Unit) => True) (fun (_ : Unit) (t : State) => zPost dC dI (va_A (cW Q σ) (CS.hs σ)) (cW Q R.2) (cT Q) t ∧ t.heap.size = CS.hs R.2) (va_A (cW Q σ) (CS.hs σ))) (CS.hs R.2 - CS.hs σ) (17 * (CS.hs R.2 - CS.hs σ)) (va_A (cW Q σ) (CS.hs σ)) := by
  refine Met.ofW (cc := cX10_tellResource) (maxL := 5) (ret := none) (by decide) rfl ?_
  intro p e s m args below meth c s₁ B hml hv
  obtain ⟨rfl, hsz, hZ, hP, hK, hD0⟩ := hv
  have hx := B.exec
  have hb := B.bytes
  have hr := B.returns
  have hts := atoms_spec (ws := wzX10_tellResource) B.pre
  have hown : s.vm.findClass RX10 = some m.cls := findClass_of_methodNamed B.named
  have hlocks := B.notSynchronized
  have hD := hD0.self (sz := CS.hs σ)
  generalize hAe : va_A (cW Q σ) (CS.hs σ) = A at hD ⊢
  have hA : ∀ q : Nat, s.heap.size ≤ q → A q := fun q h => by rw [← hAe]; exact Or.inr (hsz ▸ h)
  have hC : CP dC dI Q A s.heap σ s.heap [] := ⟨hP, hD, va_S.rf, hsz⟩
  have h0 : CS.hs σ ≤ CS.hs σ := Nat.le_refl _
  have hl := lv_entry ([.ref (Q.o 1), .int x1, .int x2, .int x3, .int x4]) (n := 5) (Nat.le_of_ble_eq_true rfl)
  rw [lg_entry_eq]
  generalize (lg_sl ([.ref (Q.o 1), .int x1, .int x2, .int x3, .int x4]) ++ List.replicate (5 - (lg_sl ([.ref (Q.o 1), .int x1, .int x2, .int x3, .int x4])).length) Slot.unset).toArray = ls at hl ⊢
  have hl : lv_has ls 5 [(0, .ref (Q.o 1)), (1, .int x1), (2, .int x2), (3, .int x3), (4, .int x4)] := hl
  unfold f_X10_tellResource at hf
  refine W.widen (k := CS.hs σ - CS.hs σ) (n := 17 * (CS.hs σ - CS.hs σ)) (Nat.zero_le _) (Nat.zero_le _) ?_
  refine lv_aload_n hx hb dX10_tellResource_0 rfl (lv_at hl 0 rfl) ?_
  refine cG_10 hx hb hts i_X10_tellResource_X10 hown hK hC (hts (.fieldLink RX10 15 "StatementRules2$Told" "isNull" "[I") k_X10_tellResource_fieldLink_RX10_15_SR_Told_isNull_I) (fun _ q9 => q9) dX10_tellResource_1 ?_
  refine lv_iload_n hx hb dX10_tellResource_4 rfl (lv_at hl 1 rfl) ?_
  refine lv_iload_n hx hb dX10_tellResource_5 rfl (lv_at hl 2 rfl) ?_
  have he9 := (cArr_10 (Q := Q) (σ := σ))
  have hFc := cFree1 hC hA he9
  have hr9 : CS.hs σ ≤ CS.hs R.2 := Mono.go hf (mono_some (Nat.le_refl _))
  refine va_callv (va_runSN (As := [.ref (Q.q 10), .int x1, .int x2]) (rest := []) ⟨hx, hb, hml, hown, hts⟩ (c_X11_put l dC dI _ (Q.q 10) (Q.c 0) 8 (σ.a 10) x1 x2 (by decide)) ⟨va_cnB 3 hts hX10_tellResource_X11_put_n28 rfl rfl rfl (hZ.1 (.methodLinkNest RX10 28 yX11_put "StatementRules2") (by decide +kernel)) (hts (.initialized RX11) k_X10_tellResource_initialized_RX11) (by decide +kernel) ⟨(show 1 + 1 ≤ 2 by omega), (show 8 + (3 + 11) + 60 * 1 ≤ 60 * 2 by omega)⟩, (hts (.static yX11_put) k_X10_tellResource_static_yX11_put), trivial⟩ ⟨zPre.blind, zPre.go hZ (cOne hC.1 he9) (hK.sub (tys' := [(Q.c 0, .int)]) [0] rfl) (cOneD hC.2.1 he9)⟩ rfl rfl hl.1 rfl (lv_room (Nat.le_of_ble_eq_true rfl)) dX10_tellResource_6 ⟨cAcc4 h0 hr9, cAcc5 h0 hr9⟩) hC.2.2.1 (fun q _ h => hFc q h) hFc (fun u9 t9 H1 locs ht hvm hw hB hz1 hk1 hS => ?_)
  obtain ⟨⟨hP1, hK1, hD1⟩, hsz1⟩ := hB
  rw [ht] at hP1 hsz1
  have hC := cBack (σ' := CS.putA σ 10 (gPut (σ.a 10) 8 x1 x2)) hC he9 cPutA_10 (cPutA_h _ _ _) hk1 hP1 hsz1 hS
  generalize H1 = H at hC ⊢
  refine lv_aload_n hx hb dX10_tellResource_9 rfl (lv_at hl 0 rfl) ?_
  refine cG_11 hx hb hts i_X10_tellResource_X10 hown hK hC (hts (.fieldLink RX10 18 "StatementRules2$Told" "opening" "[I") k_X10_tellResource_fieldLink_RX10_18_SR_Told_opening_I) (fun _ q9 => q9) dX10_tellResource_10 ?_
  refine lv_iload_n hx hb dX10_tellResource_13 rfl (lv_at hl 1 rfl) ?_
  refine lv_iload_n hx hb dX10_tellResource_14 rfl (lv_at hl 3 rfl) ?_
  have he9 := (cArr_11 (Q := Q) (σ := CS.putA σ 10 (gPut (σ.a 10) 8 x1 x2)))
  have hFc := cFree1 hC hA he9
  have hr9 : CS.hs σ ≤ CS.hs R.2 := Mono.go hf (mono_some (Nat.le_refl _))
  refine va_callv (va_runSN (As := [.ref (Q.q 11), .int x1, .int x3]) (rest := []) ⟨hx, hb, hml, hown, hts⟩ (c_X11_put l dC dI _ (Q.q 11) (Q.c 0) 8 (CS.a (CS.putA σ 10 (gPut (σ.a 10) 8 x1 x2)) 11) x1 x3 (by decide)) ⟨va_cnB 3 hts hX10_tellResource_X11_put_n28 rfl rfl rfl (hZ.1 (.methodLinkNest RX10 28 yX11_put "StatementRules2") (by decide +kernel)) (hts (.initialized RX11) k_X10_tellResource_initialized_RX11) (by decide +kernel) ⟨(show 1 + 1 ≤ 2 by omega), (show 8 + (3 + 11) + 60 * 1 ≤ 60 * 2 by omega)⟩, (hts (.static yX11_put) k_X10_tellResource_static_yX11_put), trivial⟩ ⟨zPre.blind, zPre.go hZ (cOne hC.1 he9) (hK.sub (tys' := [(Q.c 0, .int)]) [0] rfl) (cOneD hC.2.1 he9)⟩ rfl rfl hl.1 rfl (lv_room (Nat.le_of_ble_eq_true rfl)) dX10_tellResource_15 ⟨cAcc4 h0 hr9, cAcc5 h0 hr9⟩) hC.2.2.1 (fun q _ h => hFc q h) hFc (fun u9 t9 H1 locs ht hvm hw hB hz1 hk1 hS => ?_)
  obtain ⟨⟨hP1, hK1, hD1⟩, hsz1⟩ := hB
  rw [ht] at hP1 hsz1
  have hC := cBack (σ' := CS.putA (CS.putA σ 10 (gPut (σ.a 10) 8 x1 x2)) 11 (gPut (CS.a (CS.putA σ 10 (gPut (σ.a 10) 8 x1 x2)) 11) 8 x1 x3)) hC he9 cPutA_11 (cPutA_h _ _ _) hk1 hP1 hsz1 hS
  generalize H1 = H at hC ⊢
  refine lv_aload_n hx hb dX10_tellResource_18 rfl (lv_at hl 0 rfl) ?_
  refine cG_12 hx hb hts i_X10_tellResource_X10 hown hK hC (hts (.fieldLink RX10 21 "StatementRules2$Told" "closing" "[I") k_X10_tellResource_fieldLink_RX10_21_SR_Told_closing_I) (fun _ q9 => q9) dX10_tellResource_19 ?_
  refine lv_iload_n hx hb dX10_tellResource_22 rfl (lv_at hl 1 rfl) ?_
  refine lv_iload hx hb dX10_tellResource_23 (lv_at hl 4 rfl) ?_
  have he9 := (cArr_12 (Q := Q) (σ := CS.putA (CS.putA σ 10 (gPut (σ.a 10) 8 x1 x2)) 11 (gPut (CS.a (CS.putA σ 10 (gPut (σ.a 10) 8 x1 x2)) 11) 8 x1 x3)))
  have hFc := cFree1 hC hA he9
  have hr9 : CS.hs σ ≤ CS.hs R.2 := Mono.go hf (mono_some (Nat.le_refl _))
  refine va_callv (va_runSN (As := [.ref (Q.q 12), .int x1, .int x4]) (rest := []) ⟨hx, hb, hml, hown, hts⟩ (c_X11_put l dC dI _ (Q.q 12) (Q.c 0) 8 (CS.a (CS.putA (CS.putA σ 10 (gPut (σ.a 10) 8 x1 x2)) 11 (gPut (CS.a (CS.putA σ 10 (gPut (σ.a 10) 8 x1 x2)) 11) 8 x1 x3)) 12) x1 x4 (by decide)) ⟨va_cnB 3 hts hX10_tellResource_X11_put_n28 rfl rfl rfl (hZ.1 (.methodLinkNest RX10 28 yX11_put "StatementRules2") (by decide +kernel)) (hts (.initialized RX11) k_X10_tellResource_initialized_RX11) (by decide +kernel) ⟨(show 1 + 1 ≤ 2 by omega), (show 8 + (3 + 11) + 60 * 1 ≤ 60 * 2 by omega)⟩, (hts (.static yX11_put) k_X10_tellResource_static_yX11_put), trivial⟩ ⟨zPre.blind, zPre.go hZ (cOne hC.1 he9) (hK.sub (tys' := [(Q.c 0, .int)]) [0] rfl) (cOneD hC.2.1 he9)⟩ rfl rfl hl.1 rfl (lv_room (Nat.le_of_ble_eq_true rfl)) dX10_tellResource_25 ⟨cAcc4 h0 hr9, cAcc5 h0 hr9⟩) hC.2.2.1 (fun q _ h => hFc q h) hFc (fun u9 t9 H1 locs ht hvm hw hB hz1 hk1 hS => ?_)
  obtain ⟨⟨hP1, hK1, hD1⟩, hsz1⟩ := hB
  rw [ht] at hP1 hsz1
  have hC := cBack (σ' := CS.putA (CS.putA (CS.putA σ 10 (gPut (σ.a 10) 8 x1 x2)) 11 (gPut (CS.a (CS.putA σ 10 (gPut (σ.a 10) 8 x1 x2)) 11) 8 x1 x3)) 12 (gPut (CS.a (CS.putA (CS.putA σ 10 (gPut (σ.a 10) 8 x1 x2)) 11 (gPut (CS.a (CS.putA σ 10 (gPut (σ.a 10) 8 x1 x2)) 11) 8 x1 x3)) 12) 8 x1 x4)) hC he9 cPutA_12 (cPutA_h _ _ _) hk1 hP1 hsz1 hS
  generalize H1 = H at hC ⊢
  obtain rfl := Option.some.inj hf
  exact W.vret hx hb hr (fun t ht hW => ⟨⟨(), rfl, trivial, ⟨by rw [ht]; exact hC.1, va_K.moved hW.alike hK, hC.2.1⟩, by rw [ht]; exact hC.2.2.2⟩, hC.2.2.1.F ht⟩) hC.2.2.1.2.2 dX10_tellResource_28
theorem k_X11_addBytes_fieldLink_RX11_9_SR_tape_I : Cond.fieldLink RX11 9 "StatementRules2" "tape" "[I" ∈ wzX11_addBytes := List.mem_cons_of_mem _ (List.mem_append_left _ (List.mem_of_getElem? (i := 0) rfl))
theorem i_X11_addBytes_X11 : ∀ w ∈ wsX110, w ∈ wzX11_addBytes := fun _ h => List.mem_cons_of_mem _ (List.mem_append_right _ (List.mem_append_left _ (h)))
theorem k_X11_addBytes_fieldLink_RX11_50_SR_length_I : Cond.fieldLink RX11 50 "StatementRules2" "length" "I" ∈ wzX11_addBytes := List.mem_cons_of_mem _ (List.mem_append_left _ (List.mem_of_getElem? (i := 1) rfl))
set_option maxHeartbeats 4000000 in
set_option maxRecDepth 100000 in
theorem j_X11_addBytes_3 {p : Program} {e : Env} {s : State} {m : MethodId} {args : Array Value} {below : List Frame} {meth : Method} {c : Code} {A : Nat → Prop} (l : Launch) (dC : Nat → ClassId) (dI : Nat → Nat → Nat) (Q : CQ) (N : Nat) (z9h : Nat) (R : Unit × CS) (hx : p.tables.exec = Jvm.exec) (hb : c.code = cX11_addBytes) (hr : meth.sig.returnType = none) (hml : c.maxLocals = 3) (hown : s.vm.findClass RX11 = some m.cls) (hts : ∀ w ∈ wzX11_addBytes, w.before args s = true) (hlocks : meth.locks = false) (hZ : zAMB s) (hA : ∀ q : Nat, s.heap.size ≤ q → A q) (hK : va_K (dC, dI) vwCl (cT Q) s) : ∀ (n9 : Nat), ∀ (σ : CS) (x1 : Int32) (x2 : Int32) (H : Heap) (locs : List Loc) (ls : Array Slot), f_X11_addBytes_3 N n9 σ x1 x2 = some R → z9h ≤ CS.hs σ → CP dC dI Q A s.heap σ H locs → lv_has ls 3 [(0, .ref (Q.o 0)), (1, .int x1), (2, .int x2)] → W p l e ({ frames := 2, cells := CS.hs R.2 - z9h, slots := 17 * (CS.hs R.2 - z9h), locals := 60 * 2 }) s m args below meth c H locs (CS.hs σ - z9h) (17 * (CS.hs σ - z9h)) (MQ below (va_Qv (fun (_ : Unit) => True) (fun (_ : Unit) (t : State) => zPost dC dI A (cW Q R.2) (cT Q) t ∧ t.heap.size = CS.hs R.2) A) args s (CS.hs R.2 - z9h) (17 * (CS.hs R.2 - z9h)) A) (F0 m 3 ls []) := by
  intro n9
  induction n9 with
  | zero => intro σ x1 x2 H locs ls hf; exact absurd hf (by intro q9; cases q9)
  | succ n9 ih =>
    intro σ x1 x2 H locs ls hf h0 hC hl
    replace hf : b_X11_addBytes_3 N (f_X11_addBytes_3 N n9) σ x1 x2 = some R := hf
    unfold b_X11_addBytes_3 at hf
    have hMK := fun (σ : CS) (x1 : Int32) (x2 : Int32) => m_X11_addBytes_3 N n9 σ x1 x2
    refine lv_iload_n hx hb dX11_addBytes_3 rfl (lv_at hl 2 rfl) ?_
    refine lv_if_lt (tgt := 41) hx hb dX11_addBytes_4 (by decide) (fun c1 => ?_) (fun c1 => ?_)
    ·
      replace hf := (if_pos c1).symm.trans hf
      obtain rfl := Option.some.inj hf
      exact W.vret hx hb hr (fun t ht hW => ⟨⟨(), rfl, trivial, ⟨by rw [ht]; exact hC.1, va_K.moved hW.alike hK, hC.2.1⟩, by rw [ht]; exact hC.2.2.2⟩, hC.2.2.1.F ht⟩) hC.2.2.1.2.2 dX11_addBytes_41
    ·
      replace hf := (if_neg c1).symm.trans hf
      refine lv_aload_n hx hb dX11_addBytes_7 rfl (lv_at hl 0 rfl) ?_
      refine cG_0 hx hb hts i_X11_addBytes_X11 hown hK hC (hts (.fieldLink RX11 9 "StatementRules2" "tape" "[I") k_X11_addBytes_fieldLink_RX11_9_SR_tape_I) (fun _ q9 => q9) dX11_addBytes_8 ?_
      refine lv_aload_n hx hb dX11_addBytes_11 rfl (lv_at hl 0 rfl) ?_
      refine cG_5 (v := (σ.i 5)) hx hb hts i_X11_addBytes_X11 hown hK hC (hts (.fieldLink RX11 50 "StatementRules2" "length" "I") k_X11_addBytes_fieldLink_RX11_50_SR_length_I) (fun _ q9 => q9) dX11_addBytes_12 rfl ?_
      refine lv_iload_n hx hb dX11_addBytes_15 rfl (lv_at hl 1 rfl) ?_
      refine lv_iload_n hx hb dX11_addBytes_16 rfl (lv_at hl 2 rfl) ?_
      refine lv_iushr (v := ((x1 : Int32).toUInt32 >>> ((x2 : Int32).toUInt32 &&& Int32.toUInt32 31)).toInt32) hx hb dX11_addBytes_17 rfl ?_
      refine lv_sipush (v := 255) hx hb dX11_addBytes_18 (by decide) ?_
      refine lv_iand hx hb dX11_addBytes_21 ?_
      have he9 := (cArr_0 (Q := Q) (σ := σ))
      have hFc := cFree1 hC hA he9
      have hr9 : CS.hs σ ≤ CS.hs R.2 := Mono.go hf (hMK (CS.setI (CS.putA σ 0 (gPut (σ.a 0) 900 (σ.i 5) (((x1 : Int32).toUInt32 >>> ((x2 : Int32).toUInt32 &&& Int32.toUInt32 31)).toInt32 &&& 255))) 5 ((σ.i 5) + 1)) x1 (x2 + (-8)))
      refine va_callv (va_runS (As := [.ref (Q.q 0), .int (σ.i 5), .int (((x1 : Int32).toUInt32 >>> ((x2 : Int32).toUInt32 &&& Int32.toUInt32 31)).toInt32 &&& 255)]) (rest := []) ⟨hx, hb, hml, hown, hts⟩ (c_X11_put l dC dI _ (Q.q 0) (Q.c 0) 900 (σ.a 0) (σ.i 5) (((x1 : Int32).toUInt32 >>> ((x2 : Int32).toUInt32 &&& Int32.toUInt32 31)).toInt32 &&& 255) (by decide)) (va_cwS 3 hts hX11_addBytes_X11_put_s58 rfl rfl rfl (by decide +kernel) ⟨(show 1 + 1 ≤ 2 by omega), (show 8 + (3 + 11) + 60 * 1 ≤ 60 * 2 by omega)⟩) ⟨zPre.blind, zPre.go hZ (cOne hC.1 he9) (hK.sub (tys' := [(Q.c 0, .int)]) [0] rfl) (cOneD hC.2.1 he9)⟩ rfl rfl hl.1 rfl (lv_room (Nat.le_of_ble_eq_true rfl)) dX11_addBytes_22 ⟨cAcc4 h0 hr9, cAcc5 h0 hr9⟩) hC.2.2.1 (fun q _ h => hFc q h) hFc (fun u9 t9 H1 locs ht hvm hw hB hz1 hk1 hS => ?_)
      obtain ⟨⟨hP1, hK1, hD1⟩, hsz1⟩ := hB
      rw [ht] at hP1 hsz1
      have hC := cBack (σ' := CS.putA σ 0 (gPut (σ.a 0) 900 (σ.i 5) (((x1 : Int32).toUInt32 >>> ((x2 : Int32).toUInt32 &&& Int32.toUInt32 31)).toInt32 &&& 255))) hC he9 cPutA_0 (cPutA_h _ _ _) hk1 hP1 hsz1 hS
      generalize H1 = H at hC ⊢
      refine lv_aload_n hx hb dX11_addBytes_25 rfl (lv_at hl 0 rfl) ?_
      refine lv_dup hx hb dX11_addBytes_26 rfl ?_
      refine cG_5 (v := (σ.i 5)) hx hb hts i_X11_addBytes_X11 hown hK hC (hts (.fieldLink RX11 50 "StatementRules2" "length" "I") k_X11_addBytes_fieldLink_RX11_50_SR_length_I) (fun _ q9 => q9) dX11_addBytes_27 rfl ?_
      refine lv_iconst (v := 1) hx hb dX11_addBytes_30 (by decide) ?_
      refine lv_iadd hx hb dX11_addBytes_31 ?_
      refine cP_5 (v := ((σ.i 5) + 1)) hx hb hts i_X11_addBytes_X11 hown hK hC (hts (.fieldLink RX11 50 "StatementRules2" "length" "I") k_X11_addBytes_fieldLink_RX11_50_SR_length_I) (fun _ q9 => q9) dX11_addBytes_32 (fun H locs hC => ?_)
      refine lv_iinc (v := (x2 + (-8))) (lv' := [(2, .int (x2 + (-8))), (0, .ref (Q.o 0)), (1, .int x1)]) hx hb dX11_addBytes_35 hl (k := 2) rfl rfl (by decide) rfl (fun ls hl => ?_)
      refine lv_goto (tgt := 3) hx hb dX11_addBytes_38 (by decide) ?_
      exact ih (CS.setI (CS.putA σ 0 (gPut (σ.a 0) 900 (σ.i 5) (((x1 : Int32).toUInt32 >>> ((x2 : Int32).toUInt32 &&& Int32.toUInt32 31)).toInt32 &&& 255))) 5 ((σ.i 5) + 1)) x1 (x2 + (-8)) _ _ _ hf h0 hC (lv_sub hl [1, 2, 0] rfl)
set_option maxHeartbeats 4000000 in
set_option maxRecDepth 100000 in
theorem c_X11_addBytes (l : Launch) (dC : Nat → ClassId) (dI : Nat → Nat → Nat) (Q : CQ) (N : Nat) (σ : CS) (x1 : Int32) (R : Unit × CS) (hf : f_X11_addBytes N σ x1 = some R) : Met l yX11_addBytes wzX11_addBytes ({ frames := 2, cells := CS.hs R.2 - CS.hs σ, slots := 17 * (CS.hs R.2 - CS.hs σ), locals := 60 * 2 }) (va_Pc [.ref (Q.o 0), .int x1] (zPre dC dI (CS.hs σ) (cW Q σ) (cT Q))) (va_Qv (fun (_ : Unit) => True) (fun (_ : Unit) (t : State) => zPost dC dI (va_A (cW Q σ) (CS.hs σ)) (cW Q R.2) (cT Q) t ∧ t.heap.size = CS.hs R.2) (va_A (cW Q σ) (CS.hs σ))) (CS.hs R.2 - CS.hs σ) (17 * (CS.hs R.2 - CS.hs σ)) (va_A (cW Q σ) (CS.hs σ)) := by
  refine Met.ofW (cc := cX11_addBytes) (maxL := 3) (ret := none) (by decide) rfl ?_
  intro p e s m args below meth c s₁ B hml hv
  obtain ⟨rfl, hsz, hZ, hP, hK, hD0⟩ := hv
  have hx := B.exec
  have hb := B.bytes
  have hr := B.returns
  have hts := atoms_spec (ws := wzX11_addBytes) B.pre
  have hown : s.vm.findClass RX11 = some m.cls := findClass_of_methodNamed B.named
  have hlocks := B.notSynchronized
  have hD := hD0.self (sz := CS.hs σ)
  generalize hAe : va_A (cW Q σ) (CS.hs σ) = A at hD ⊢
  have hA : ∀ q : Nat, s.heap.size ≤ q → A q := fun q h => by rw [← hAe]; exact Or.inr (hsz ▸ h)
  have hC : CP dC dI Q A s.heap σ s.heap [] := ⟨hP, hD, va_S.rf, hsz⟩
  have h0 : CS.hs σ ≤ CS.hs σ := Nat.le_refl _
  have hl := lv_entry ([.ref (Q.o 0), .int x1]) (n := 3) (Nat.le_of_ble_eq_true rfl)
  rw [lg_entry_eq]
  generalize (lg_sl ([.ref (Q.o 0), .int x1]) ++ List.replicate (3 - (lg_sl ([.ref (Q.o 0), .int x1])).length) Slot.unset).toArray = ls at hl ⊢
  have hl : lv_has ls 3 [(0, .ref (Q.o 0)), (1, .int x1)] := hl
  unfold f_X11_addBytes at hf
  refine W.widen (k := CS.hs σ - CS.hs σ) (n := 17 * (CS.hs σ - CS.hs σ)) (Nat.zero_le _) (Nat.zero_le _) ?_
  refine lv_bipush (v := 24) hx hb dX11_addBytes_0 (by decide) ?_
  refine lv_istore_n (lv' := [(2, .int 24), (0, .ref (Q.o 0)), (1, .int x1)]) hx hb dX11_addBytes_2 rfl hl (by decide) rfl (fun ls hl => ?_)
  exact j_X11_addBytes_3 l dC dI Q N (CS.hs σ) R hx hb hr hml hown hts hlocks hZ hA hK N σ x1 24 _ _ _ hf h0 hC (lv_sub hl [1, 2, 0] rfl)
end
section
theorem k_X11_feed_fieldLink_RX11_50_SR_length_I : Cond.fieldLink RX11 50 "StatementRules2" "length" "I" ∈ wzX11_feed := List.mem_cons_of_mem _ (List.mem_append_left _ (List.mem_of_getElem? (i := 0) rfl))
theorem i_X11_feed_X11 : ∀ w ∈ wsX110, w ∈ wzX11_feed := fun _ h => List.mem_cons_of_mem _ (List.mem_append_right _ (List.mem_append_left _ (h)))
set_option maxHeartbeats 4000000 in
set_option maxRecDepth 100000 in
theorem c_X11_feed (l : Launch) (dC : Nat → ClassId) (dI : Nat → Nat → Nat) (Q : CQ) (N : Nat) (σ : CS) (x1 : Int32) (x2 : Int32) (x3 : Int32) (x4 : Int32) (x5 : Int32) (R : Int32 × CS) (hf : f_X11_feed N σ x1 x2 x3 x4 x5 = some R) : Met l yX11_feed wzX11_feed ({ frames := 3, cells := CS.hs R.2 - CS.hs σ, slots := 17 * (CS.hs R.2 - CS.hs σ), locals := 60 * 3 }) (va_Pc [.ref (Q.o 0), .int x1, .int x2, .int x3, .int x4, .int x5] (zPre dC dI (CS.hs σ) (cW Q σ) (cT Q))) (va_Qi (fun (r : Int32) (_ : Unit) => r = R.1) (fun (_ : Unit) (t : State) => zPost dC dI (va_A (cW Q σ) (CS.hs σ)) (cW Q R.2) (cT Q) t ∧ t.heap.size = CS.hs R.2) (va_A (cW Q σ) (CS.hs σ))) (CS.hs R.2 - CS.hs σ) (17 * (CS.hs R.2 - CS.hs σ)) (va_A (cW Q σ) (CS.hs σ)) := by
  refine Met.ofW (cc := cX11_feed) (maxL := 6) (ret := (some .int)) (by decide) rfl ?_
  intro p e s m args below meth c s₁ B hml hv
  obtain ⟨rfl, hsz, hZ, hP, hK, hD0⟩ := hv
  have hx := B.exec
  have hb := B.bytes
  have hr := B.returns
  have hts := atoms_spec (ws := wzX11_feed) B.pre
  have hown : s.vm.findClass RX11 = some m.cls := findClass_of_methodNamed B.named
  have hlocks := B.notSynchronized
  have hD := hD0.self (sz := CS.hs σ)
  generalize hAe : va_A (cW Q σ) (CS.hs σ) = A at hD ⊢
  have hA : ∀ q : Nat, s.heap.size ≤ q → A q := fun q h => by rw [← hAe]; exact Or.inr (hsz ▸ h)
  have hC : CP dC dI Q A s.heap σ s.heap [] := ⟨hP, hD, va_S.rf, hsz⟩
  have h0 : CS.hs σ ≤ CS.hs σ := Nat.le_refl _
  have hl := lv_entry ([.ref (Q.o 0), .int x1, .int x2, .int x3, .int x4, .int x5]) (n := 6) (Nat.le_of_ble_eq_true rfl)
  rw [lg_entry_eq]
  generalize (lg_sl ([.ref (Q.o 0), .int x1, .int x2, .int x3, .int x4, .int x5]) ++ List.replicate (6 - (lg_sl ([.ref (Q.o 0), .int x1, .int x2, .int x3, .int x4, .int x5])).length) Slot.unset).toArray = ls at hl ⊢
  have hl : lv_has ls 6 [(0, .ref (Q.o 0)), (1, .int x1), (2, .int x2), (3, .int x3), (4, .int x4), (5, .int x5)] := hl
  unfold f_X11_feed at hf
  refine W.widen (k := CS.hs σ - CS.hs σ) (n := 17 * (CS.hs σ - CS.hs σ)) (Nat.zero_le _) (Nat.zero_le _) ?_
  refine lv_aload_n hx hb dX11_feed_0 rfl (lv_at hl 0 rfl) ?_
  refine cG_5 (v := (σ.i 5)) hx hb hts i_X11_feed_X11 hown hK hC (hts (.fieldLink RX11 50 "StatementRules2" "length" "I") k_X11_feed_fieldLink_RX11_50_SR_length_I) (fun _ q9 => q9) dX11_feed_1 rfl ?_
  refine lv_bipush (v := 20) hx hb dX11_feed_4 (by decide) ?_
  refine lv_iadd hx hb dX11_feed_6 ?_
  refine lv_sipush (v := 900) hx hb dX11_feed_7 (by decide) ?_
  refine lv_icmp_le (tgt := 16) hx hb dX11_feed_10 (by decide) (fun c1 => ?_) (fun c1 => ?_)
  ·
    replace hf := (if_pos c1).symm.trans hf
    refine lv_aload_n hx hb dX11_feed_16 rfl (lv_at hl 0 rfl) ?_
    refine lv_iload_n hx hb dX11_feed_17 rfl (lv_at hl 1 rfl) ?_
    obtain ⟨p2, hcp2, hf⟩ := hf_bind hf
    have mo3 : CS.hs σ ≤ CS.hs p2.2 := Mono.go hcp2 (m_X11_addBytes N σ x1)
    have hr9 : CS.hs p2.2 ≤ CS.hs R.2 := Mono.go hf (mono_bind (m_X11_addBytes N p2.2 x2) (fun p6 => (mono_bind (m_X11_addBytes N p6.2 x3) (fun p10 => (mono_bind (m_X11_addBytes N p10.2 x4) (fun p14 => (mono_bind (m_X11_addBytes N p14.2 x5) (fun p18 => (mono_some (Nat.le_refl _))))))))))
    have hFc := cFree hC hA
    refine va_callv (va_runV (As := [.int x1]) (rest := []) ⟨hx, hb, hml, hown, hts⟩ (c_X11_addBytes l dC dI Q N σ x1 p2 hcp2) (cwV 1 hts hX11_feed_X11_addBytes_v54 rfl rfl rfl (by decide +kernel) ⟨(show 2 + 1 ≤ 3 by omega), (show 8 + (3 + 11) + 60 * 2 ≤ 60 * 3 by omega)⟩) ⟨zPre.blind, va_recv hK hC.1 (ci := 10) (q0 := 0) rfl rfl, cPre_go hZ hK hC⟩ rfl rfl hl.1 rfl (lv_room (Nat.le_of_ble_eq_true rfl)) dX11_feed_18 (cAcc h0 mo3 hr9)) hC.2.2.1 (fun q _ h => hFc q h) hFc (fun u9 t9 H1 locs ht hvm hw hB hz1 hk1 hS => ?_)
    obtain ⟨⟨hP, hK1, hD1⟩, hsz1⟩ := hB
    rw [ht] at hP hsz1
    have hC : CP dC dI Q A s.heap p2.2 H1 locs := ⟨hP, hD1.weaken (fun _ _ _ h => hFc _ h), hS, hsz1⟩
    generalize H1 = H at hC ⊢
    have h5 : (CS.hs σ) ≤ CS.hs p2.2 := Nat.le_trans h0 mo3
    refine W.widen (k := CS.hs p2.2 - (CS.hs σ)) (n := 17 * (CS.hs p2.2 - (CS.hs σ))) (cAcc2 h0 mo3) (cAcc3 h0 mo3) ?_
    refine lv_aload_n hx hb dX11_feed_21 rfl (lv_at hl 0 rfl) ?_
    refine lv_iload_n hx hb dX11_feed_22 rfl (lv_at hl 2 rfl) ?_
    obtain ⟨p6, hcp6, hf⟩ := hf_bind hf
    have mo7 : CS.hs p2.2 ≤ CS.hs p6.2 := Mono.go hcp6 (m_X11_addBytes N p2.2 x2)
    have hr9 : CS.hs p6.2 ≤ CS.hs R.2 := Mono.go hf (mono_bind (m_X11_addBytes N p6.2 x3) (fun p10 => (mono_bind (m_X11_addBytes N p10.2 x4) (fun p14 => (mono_bind (m_X11_addBytes N p14.2 x5) (fun p18 => (mono_some (Nat.le_refl _))))))))
    have hFc := cFree hC hA
    refine va_callv (va_runV (As := [.int x2]) (rest := []) ⟨hx, hb, hml, hown, hts⟩ (c_X11_addBytes l dC dI Q N p2.2 x2 p6 hcp6) (cwV 1 hts hX11_feed_X11_addBytes_v54 rfl rfl rfl (by decide +kernel) ⟨(show 2 + 1 ≤ 3 by omega), (show 8 + (3 + 11) + 60 * 2 ≤ 60 * 3 by omega)⟩) ⟨zPre.blind, va_recv hK hC.1 (ci := 10) (q0 := 0) rfl rfl, cPre_go hZ hK hC⟩ rfl rfl hl.1 rfl (lv_room (Nat.le_of_ble_eq_true rfl)) dX11_feed_23 (cAcc h5 mo7 hr9)) hC.2.2.1 (fun q _ h => hFc q h) hFc (fun u9 t9 H1 locs ht hvm hw hB hz1 hk1 hS => ?_)
    obtain ⟨⟨hP, hK1, hD1⟩, hsz1⟩ := hB
    rw [ht] at hP hsz1
    have hC : CP dC dI Q A s.heap p6.2 H1 locs := ⟨hP, hD1.weaken (fun _ _ _ h => hFc _ h), hS, hsz1⟩
    generalize H1 = H at hC ⊢
    have h9 : (CS.hs σ) ≤ CS.hs p6.2 := Nat.le_trans h5 mo7
    refine W.widen (k := CS.hs p6.2 - (CS.hs σ)) (n := 17 * (CS.hs p6.2 - (CS.hs σ))) (cAcc2 h5 mo7) (cAcc3 h5 mo7) ?_
    refine lv_aload_n hx hb dX11_feed_26 rfl (lv_at hl 0 rfl) ?_
    refine lv_iload_n hx hb dX11_feed_27 rfl (lv_at hl 3 rfl) ?_
    obtain ⟨p10, hcp10, hf⟩ := hf_bind hf
    have mo11 : CS.hs p6.2 ≤ CS.hs p10.2 := Mono.go hcp10 (m_X11_addBytes N p6.2 x3)
    have hr9 : CS.hs p10.2 ≤ CS.hs R.2 := Mono.go hf (mono_bind (m_X11_addBytes N p10.2 x4) (fun p14 => (mono_bind (m_X11_addBytes N p14.2 x5) (fun p18 => (mono_some (Nat.le_refl _))))))
    have hFc := cFree hC hA
    refine va_callv (va_runV (As := [.int x3]) (rest := []) ⟨hx, hb, hml, hown, hts⟩ (c_X11_addBytes l dC dI Q N p6.2 x3 p10 hcp10) (cwV 1 hts hX11_feed_X11_addBytes_v54 rfl rfl rfl (by decide +kernel) ⟨(show 2 + 1 ≤ 3 by omega), (show 8 + (3 + 11) + 60 * 2 ≤ 60 * 3 by omega)⟩) ⟨zPre.blind, va_recv hK hC.1 (ci := 10) (q0 := 0) rfl rfl, cPre_go hZ hK hC⟩ rfl rfl hl.1 rfl (lv_room (Nat.le_of_ble_eq_true rfl)) dX11_feed_28 (cAcc h9 mo11 hr9)) hC.2.2.1 (fun q _ h => hFc q h) hFc (fun u9 t9 H1 locs ht hvm hw hB hz1 hk1 hS => ?_)
    obtain ⟨⟨hP, hK1, hD1⟩, hsz1⟩ := hB
    rw [ht] at hP hsz1
    have hC : CP dC dI Q A s.heap p10.2 H1 locs := ⟨hP, hD1.weaken (fun _ _ _ h => hFc _ h), hS, hsz1⟩
    generalize H1 = H at hC ⊢
    have h13 : (CS.hs σ) ≤ CS.hs p10.2 := Nat.le_trans h9 mo11
    refine W.widen (k := CS.hs p10.2 - (CS.hs σ)) (n := 17 * (CS.hs p10.2 - (CS.hs σ))) (cAcc2 h9 mo11) (cAcc3 h9 mo11) ?_
    refine lv_aload_n hx hb dX11_feed_31 rfl (lv_at hl 0 rfl) ?_
    refine lv_iload hx hb dX11_feed_32 (lv_at hl 4 rfl) ?_
    obtain ⟨p14, hcp14, hf⟩ := hf_bind hf
    have mo15 : CS.hs p10.2 ≤ CS.hs p14.2 := Mono.go hcp14 (m_X11_addBytes N p10.2 x4)
    have hr9 : CS.hs p14.2 ≤ CS.hs R.2 := Mono.go hf (mono_bind (m_X11_addBytes N p14.2 x5) (fun p18 => (mono_some (Nat.le_refl _))))
    have hFc := cFree hC hA
    refine va_callv (va_runV (As := [.int x4]) (rest := []) ⟨hx, hb, hml, hown, hts⟩ (c_X11_addBytes l dC dI Q N p10.2 x4 p14 hcp14) (cwV 1 hts hX11_feed_X11_addBytes_v54 rfl rfl rfl (by decide +kernel) ⟨(show 2 + 1 ≤ 3 by omega), (show 8 + (3 + 11) + 60 * 2 ≤ 60 * 3 by omega)⟩) ⟨zPre.blind, va_recv hK hC.1 (ci := 10) (q0 := 0) rfl rfl, cPre_go hZ hK hC⟩ rfl rfl hl.1 rfl (lv_room (Nat.le_of_ble_eq_true rfl)) dX11_feed_34 (cAcc h13 mo15 hr9)) hC.2.2.1 (fun q _ h => hFc q h) hFc (fun u9 t9 H1 locs ht hvm hw hB hz1 hk1 hS => ?_)
    obtain ⟨⟨hP, hK1, hD1⟩, hsz1⟩ := hB
    rw [ht] at hP hsz1
    have hC : CP dC dI Q A s.heap p14.2 H1 locs := ⟨hP, hD1.weaken (fun _ _ _ h => hFc _ h), hS, hsz1⟩
    generalize H1 = H at hC ⊢
    have h17 : (CS.hs σ) ≤ CS.hs p14.2 := Nat.le_trans h13 mo15
    refine W.widen (k := CS.hs p14.2 - (CS.hs σ)) (n := 17 * (CS.hs p14.2 - (CS.hs σ))) (cAcc2 h13 mo15) (cAcc3 h13 mo15) ?_
    refine lv_aload_n hx hb dX11_feed_37 rfl (lv_at hl 0 rfl) ?_
    refine lv_iload hx hb dX11_feed_38 (lv_at hl 5 rfl) ?_
    obtain ⟨p18, hcp18, hf⟩ := hf_bind hf
    have mo19 : CS.hs p14.2 ≤ CS.hs p18.2 := Mono.go hcp18 (m_X11_addBytes N p14.2 x5)
    have hr9 : CS.hs p18.2 ≤ CS.hs R.2 := Mono.go hf (mono_some (Nat.le_refl _))
    have hFc := cFree hC hA
    refine va_callv (va_runV (As := [.int x5]) (rest := []) ⟨hx, hb, hml, hown, hts⟩ (c_X11_addBytes l dC dI Q N p14.2 x5 p18 hcp18) (cwV 1 hts hX11_feed_X11_addBytes_v54 rfl rfl rfl (by decide +kernel) ⟨(show 2 + 1 ≤ 3 by omega), (show 8 + (3 + 11) + 60 * 2 ≤ 60 * 3 by omega)⟩) ⟨zPre.blind, va_recv hK hC.1 (ci := 10) (q0 := 0) rfl rfl, cPre_go hZ hK hC⟩ rfl rfl hl.1 rfl (lv_room (Nat.le_of_ble_eq_true rfl)) dX11_feed_40 (cAcc h17 mo19 hr9)) hC.2.2.1 (fun q _ h => hFc q h) hFc (fun u9 t9 H1 locs ht hvm hw hB hz1 hk1 hS => ?_)
    obtain ⟨⟨hP, hK1, hD1⟩, hsz1⟩ := hB
    rw [ht] at hP hsz1
    have hC : CP dC dI Q A s.heap p18.2 H1 locs := ⟨hP, hD1.weaken (fun _ _ _ h => hFc _ h), hS, hsz1⟩
    generalize H1 = H at hC ⊢
    have h21 : (CS.hs σ) ≤ CS.hs p18.2 := Nat.le_trans h17 mo19
    refine W.widen (k := CS.hs p18.2 - (CS.hs σ)) (n := 17 * (CS.hs p18.2 - (CS.hs σ))) (cAcc2 h17 mo19) (cAcc3 h17 mo19) ?_
    refine lv_aload_n hx hb dX11_feed_43 rfl (lv_at hl 0 rfl) ?_
    refine cG_5 (v := (p18.2.i 5)) hx hb hts i_X11_feed_X11 hown hK hC (hts (.fieldLink RX11 50 "StatementRules2" "length" "I") k_X11_feed_fieldLink_RX11_50_SR_length_I) (fun _ q9 => q9) dX11_feed_44 rfl ?_
    obtain rfl := Option.some.inj hf
    exact W.iret (v := (p18.2.i 5)) hx hb hr (fun t ht hW => ⟨⟨(p18.2.i 5), (), rfl, rfl, ⟨by rw [ht]; exact hC.1, va_K.moved hW.alike hK, hC.2.1⟩, by rw [ht]; exact hC.2.2.2⟩, hC.2.2.1.F ht⟩) hC.2.2.1.2.2 dX11_feed_47
  ·
    replace hf := (if_neg c1).symm.trans hf
    refine lv_bipush (v := (-2)) hx hb dX11_feed_13 (by decide) ?_
    obtain rfl := Option.some.inj hf
    exact W.iret (v := (-2)) hx hb hr (fun t ht hW => ⟨⟨(-2), (), rfl, rfl, ⟨by rw [ht]; exact hC.1, va_K.moved hW.alike hK, hC.2.1⟩, by rw [ht]; exact hC.2.2.2⟩, hC.2.2.1.F ht⟩) hC.2.2.1.2.2 dX11_feed_15
theorem k_X11_cut_fieldLink_RX11_50_SR_length_I : Cond.fieldLink RX11 50 "StatementRules2" "length" "I" ∈ wzX11_cut := List.mem_cons_of_mem _ (List.mem_append_left _ (List.mem_of_getElem? (i := 0) rfl))
theorem i_X11_cut_X11 : ∀ w ∈ wsX110, w ∈ wzX11_cut := fun _ h => List.mem_cons_of_mem _ (List.mem_append_right _ (List.mem_append_left _ (h)))
set_option maxHeartbeats 4000000 in
set_option maxRecDepth 100000 in
theorem j_X11_cut_12 {p : Program} {e : Env} {s : State} {m : MethodId} {args : Array Value} {below : List Frame} {meth : Method} {c : Code} {A : Nat → Prop} (l : Launch) (dC : Nat → ClassId) (dI : Nat → Nat → Nat) (Q : CQ) (N : Nat) (z9h : Nat) (R : Int32 × CS) (hx : p.tables.exec = Jvm.exec) (hb : c.code = cX11_cut) (hr : meth.sig.returnType = (some .int)) (hml : c.maxLocals = 3) (hown : s.vm.findClass RX11 = some m.cls) (hts : ∀ w ∈ wzX11_cut, w.before args s = true) (hlocks : meth.locks = false) (hZ : zAMB s) (hA : ∀ q : Nat, s.heap.size ≤ q → A q) (hK : va_K (dC, dI) vwCl (cT Q) s) : ∀ (σ : CS) (H : Heap) (locs : List Loc) (ls : Array Slot), f_X11_cut_12 N σ = some R → z9h ≤ CS.hs σ → CP dC dI Q A s.heap σ H locs → lv_has ls 3 [] → W p l e ({ frames := 1, cells := CS.hs R.2 - z9h, slots := 17 * (CS.hs R.2 - z9h), locals := 60 * 1 }) s m args below meth c H locs (CS.hs σ - z9h) (17 * (CS.hs σ - z9h)) (MQ below (va_Qi (fun (r : Int32) (_ : Unit) => r = R.1) (fun (_ : Unit) (t : State) => zPost dC dI A (cW Q R.2) (cT Q) t ∧ t.heap.size = CS.hs R.2) A) args s (CS.hs R.2 - z9h) (17 * (CS.hs R.2 - z9h)) A) (F0 m 12 ls []) := by
  intro σ  H locs ls hf h0 hC hl
  unfold f_X11_cut_12 at hf
  refine lv_iconst (v := (-1)) hx hb dX11_cut_12 (by decide) ?_
  obtain rfl := Option.some.inj hf
  exact W.iret (v := (-1)) hx hb hr (fun t ht hW => ⟨⟨(-1), (), rfl, rfl, ⟨by rw [ht]; exact hC.1, va_K.moved hW.alike hK, hC.2.1⟩, by rw [ht]; exact hC.2.2.2⟩, hC.2.2.1.F ht⟩) hC.2.2.1.2.2 dX11_cut_13
set_option maxHeartbeats 4000000 in
set_option maxRecDepth 100000 in
theorem c_X11_cut (l : Launch) (dC : Nat → ClassId) (dI : Nat → Nat → Nat) (Q : CQ) (N : Nat) (σ : CS) (x1 : Int32) (R : Int32 × CS) (hf : f_X11_cut N σ x1 = some R) : Met l yX11_cut wzX11_cut ({ frames := 1, cells := CS.hs R.2 - CS.hs σ, slots := 17 * (CS.hs R.2 - CS.hs σ), locals := 60 * 1 }) (va_Pc [.ref (Q.o 0), .int x1] (zPre dC dI (CS.hs σ) (cW Q σ) (cT Q))) (va_Qi (fun (r : Int32) (_ : Unit) => r = R.1) (fun (_ : Unit) (t : State) => zPost dC dI (va_A (cW Q σ) (CS.hs σ)) (cW Q R.2) (cT Q) t ∧ t.heap.size = CS.hs R.2) (va_A (cW Q σ) (CS.hs σ))) (CS.hs R.2 - CS.hs σ) (17 * (CS.hs R.2 - CS.hs σ)) (va_A (cW Q σ) (CS.hs σ)) := by
  refine Met.ofW (cc := cX11_cut) (maxL := 3) (ret := (some .int)) (by decide) rfl ?_
  intro p e s m args below meth c s₁ B hml hv
  obtain ⟨rfl, hsz, hZ, hP, hK, hD0⟩ := hv
  have hx := B.exec
  have hb := B.bytes
  have hr := B.returns
  have hts := atoms_spec (ws := wzX11_cut) B.pre
  have hown : s.vm.findClass RX11 = some m.cls := findClass_of_methodNamed B.named
  have hlocks := B.notSynchronized
  have hD := hD0.self (sz := CS.hs σ)
  generalize hAe : va_A (cW Q σ) (CS.hs σ) = A at hD ⊢
  have hA : ∀ q : Nat, s.heap.size ≤ q → A q := fun q h => by rw [← hAe]; exact Or.inr (hsz ▸ h)
  have hC : CP dC dI Q A s.heap σ s.heap [] := ⟨hP, hD, va_S.rf, hsz⟩
  have h0 : CS.hs σ ≤ CS.hs σ := Nat.le_refl _
  have hl := lv_entry ([.ref (Q.o 0), .int x1]) (n := 3) (Nat.le_of_ble_eq_true rfl)
  rw [lg_entry_eq]
  generalize (lg_sl ([.ref (Q.o 0), .int x1]) ++ List.replicate (3 - (lg_sl ([.ref (Q.o 0), .int x1])).length) Slot.unset).toArray = ls at hl ⊢
  have hl : lv_has ls 3 [(0, .ref (Q.o 0)), (1, .int x1)] := hl
  unfold f_X11_cut at hf
  refine W.widen (k := CS.hs σ - CS.hs σ) (n := 17 * (CS.hs σ - CS.hs σ)) (Nat.zero_le _) (Nat.zero_le _) ?_
  refine lv_iload_n hx hb dX11_cut_0 rfl (lv_at hl 1 rfl) ?_
  refine lv_if_lt (tgt := 12) hx hb dX11_cut_1 (by decide) (fun c1 => ?_) (fun c1 => ?_)
  ·
    replace hf := (if_pos c1).symm.trans hf
    exact j_X11_cut_12 l dC dI Q N (CS.hs σ) R hx hb hr hml hown hts hlocks hZ hA hK σ _ _ _ hf h0 hC (lv_sub hl [] rfl)
  ·
    replace hf := (if_neg c1).symm.trans hf
    refine lv_iload_n hx hb dX11_cut_4 rfl (lv_at hl 1 rfl) ?_
    refine lv_aload_n hx hb dX11_cut_5 rfl (lv_at hl 0 rfl) ?_
    refine cG_5 (v := (σ.i 5)) hx hb hts i_X11_cut_X11 hown hK hC (hts (.fieldLink RX11 50 "StatementRules2" "length" "I") k_X11_cut_fieldLink_RX11_50_SR_length_I) (fun _ q9 => q9) dX11_cut_6 rfl ?_
    refine lv_icmp_le (tgt := 14) hx hb dX11_cut_9 (by decide) (fun c2 => ?_) (fun c2 => ?_)
    ·
      replace hf := (if_pos c2).symm.trans hf
      refine lv_aload_n hx hb dX11_cut_14 rfl (lv_at hl 0 rfl) ?_
      refine cG_5 (v := (σ.i 5)) hx hb hts i_X11_cut_X11 hown hK hC (hts (.fieldLink RX11 50 "StatementRules2" "length" "I") k_X11_cut_fieldLink_RX11_50_SR_length_I) (fun _ q9 => q9) dX11_cut_15 rfl ?_
      refine lv_iload_n hx hb dX11_cut_18 rfl (lv_at hl 1 rfl) ?_
      refine lv_isub hx hb dX11_cut_19 ?_
      refine lv_istore_n (lv' := [(2, .int ((σ.i 5) - x1)), (0, .ref (Q.o 0)), (1, .int x1)]) hx hb dX11_cut_20 rfl hl (by decide) rfl (fun ls hl => ?_)
      refine lv_aload_n hx hb dX11_cut_21 rfl (lv_at hl 1 rfl) ?_
      refine lv_iload_n hx hb dX11_cut_22 rfl (lv_at hl 2 rfl) ?_
      refine cP_5 (v := x1) hx hb hts i_X11_cut_X11 hown hK hC (hts (.fieldLink RX11 50 "StatementRules2" "length" "I") k_X11_cut_fieldLink_RX11_50_SR_length_I) (fun _ q9 => q9) dX11_cut_23 (fun H locs hC => ?_)
      refine lv_iload_n hx hb dX11_cut_26 rfl (lv_at hl 0 rfl) ?_
      obtain rfl := Option.some.inj hf
      exact W.iret (v := ((σ.i 5) - x1)) hx hb hr (fun t ht hW => ⟨⟨((σ.i 5) - x1), (), rfl, rfl, ⟨by rw [ht]; exact hC.1, va_K.moved hW.alike hK, hC.2.1⟩, by rw [ht]; exact hC.2.2.2⟩, hC.2.2.1.F ht⟩) hC.2.2.1.2.2 dX11_cut_27
    ·
      replace hf := (if_neg c2).symm.trans hf
      exact j_X11_cut_12 l dC dI Q N (CS.hs σ) R hx hb hr hml hown hts hlocks hZ hA hK σ _ _ _ hf h0 hC (lv_sub hl [] rfl)
theorem k_X11_kind_fieldLink_RX11_16_SR_told_LSR_Told : Cond.fieldLink RX11 16 "StatementRules2" "told" "LStatementRules2$Told;" ∈ wzX11_kind := List.mem_cons_of_mem _ (List.mem_append_left _ (List.mem_of_getElem? (i := 0) rfl))
theorem i_X11_kind_X11 : ∀ w ∈ wsX110, w ∈ wzX11_kind := fun _ h => List.mem_cons_of_mem _ (List.mem_append_right _ (List.mem_append_left _ (h)))
set_option maxHeartbeats 4000000 in
set_option maxRecDepth 100000 in
theorem c_X11_kind (l : Launch) (dC : Nat → ClassId) (dI : Nat → Nat → Nat) (Q : CQ) (N : Nat) (σ : CS) (x1 : Int32) (R : Int32 × CS) (hf : f_X11_kind N σ x1 = some R) : Met l yX11_kind wzX11_kind ({ frames := 3, cells := CS.hs R.2 - CS.hs σ, slots := 17 * (CS.hs R.2 - CS.hs σ), locals := 60 * 3 }) (va_Pc [.ref (Q.o 0), .int x1] (zPre dC dI (CS.hs σ) (cW Q σ) (cT Q))) (va_Qi (fun (r : Int32) (_ : Unit) => r = R.1) (fun (_ : Unit) (t : State) => zPost dC dI (va_A (cW Q σ) (CS.hs σ)) (cW Q R.2) (cT Q) t ∧ t.heap.size = CS.hs R.2) (va_A (cW Q σ) (CS.hs σ))) (CS.hs R.2 - CS.hs σ) (17 * (CS.hs R.2 - CS.hs σ)) (va_A (cW Q σ) (CS.hs σ)) := by
  refine Met.ofW (cc := cX11_kind) (maxL := 2) (ret := (some .int)) (by decide) rfl ?_
  intro p e s m args below meth c s₁ B hml hv
  obtain ⟨rfl, hsz, hZ, hP, hK, hD0⟩ := hv
  have hx := B.exec
  have hb := B.bytes
  have hr := B.returns
  have hts := atoms_spec (ws := wzX11_kind) B.pre
  have hown : s.vm.findClass RX11 = some m.cls := findClass_of_methodNamed B.named
  have hlocks := B.notSynchronized
  have hD := hD0.self (sz := CS.hs σ)
  generalize hAe : va_A (cW Q σ) (CS.hs σ) = A at hD ⊢
  have hA : ∀ q : Nat, s.heap.size ≤ q → A q := fun q h => by rw [← hAe]; exact Or.inr (hsz ▸ h)
  have hC : CP dC dI Q A s.heap σ s.heap [] := ⟨hP, hD, va_S.rf, hsz⟩
  have h0 : CS.hs σ ≤ CS.hs σ := Nat.le_refl _
  have hl := lv_entry ([.ref (Q.o 0), .int x1]) (n := 2) (Nat.le_of_ble_eq_true rfl)
  rw [lg_entry_eq]
  generalize (lg_sl ([.ref (Q.o 0), .int x1]) ++ List.replicate (2 - (lg_sl ([.ref (Q.o 0), .int x1])).length) Slot.unset).toArray = ls at hl ⊢
  have hl : lv_has ls 2 [(0, .ref (Q.o 0)), (1, .int x1)] := hl
  unfold f_X11_kind at hf
  refine W.widen (k := CS.hs σ - CS.hs σ) (n := 17 * (CS.hs σ - CS.hs σ)) (Nat.zero_le _) (Nat.zero_le _) ?_
  refine lv_aload_n hx hb dX11_kind_0 rfl (lv_at hl 0 rfl) ?_
  refine cG_1 hx hb hts i_X11_kind_X11 hown hK hC (hts (.fieldLink RX11 16 "StatementRules2" "told" "LStatementRules2$Told;") k_X11_kind_fieldLink_RX11_16_SR_told_LSR_Told) (fun _ q9 => q9) dX11_kind_1 ?_
  refine lv_iload_n hx hb dX11_kind_4 rfl (lv_at hl 1 rfl) ?_
  obtain ⟨p1, hcp1, hf⟩ := hf_bind hf
  have mo2 : CS.hs σ ≤ CS.hs p1.2 := Mono.go hcp1 (m_X10_isKind N σ x1)
  have hr9 : CS.hs p1.2 ≤ CS.hs R.2 := Mono.go hf (mono_ite (mono_some (Nat.le_refl _)) (mono_bind (m_X10_isFull N p1.2) (fun p6 => (mono_ite (mono_bind (m_X10_addKind N p6.2 x1) (fun p11 => (mono_some (Nat.le_refl _)))) (mono_some (Nat.le_refl _))))))
  have hFc := cFree hC hA
  refine va_calli (va_runV (As := [.int x1]) (rest := []) ⟨hx, hb, hml, hown, hts⟩ (c_X10_isKind l dC dI Q N σ x1 p1 hcp1) (cwV 1 hts hX11_kind_X10_isKind_v62 rfl rfl rfl (by decide +kernel) ⟨(show 1 + 1 ≤ 3 by omega), (show 8 + (2 + 11) + 60 * 1 ≤ 60 * 3 by omega)⟩) ⟨zPre.blind, va_recv hK hC.1 (ci := 9) (q0 := 1) rfl rfl, cPre_go hZ hK hC⟩ rfl rfl hl.1 rfl (lv_room (Nat.le_of_ble_eq_true rfl)) dX11_kind_5 (cAcc h0 mo2 hr9)) hC.2.2.1 (fun q _ h => hFc q h) hFc (fun r3 u9 t9 H1 locs ht hvm hw hB hz1 hk1 hS => ?_)
  obtain ⟨⟨hP, hK1, hD1⟩, hsz1⟩ := hB
  rw [ht] at hP hsz1
  have hC : CP dC dI Q A s.heap p1.2 H1 locs := ⟨hP, hD1.weaken (fun _ _ _ h => hFc _ h), hS, hsz1⟩
  generalize H1 = H at hC ⊢
  have h4 : (CS.hs σ) ≤ CS.hs p1.2 := Nat.le_trans h0 mo2
  refine W.widen (k := CS.hs p1.2 - (CS.hs σ)) (n := 17 * (CS.hs p1.2 - (CS.hs σ))) (cAcc2 h0 mo2) (cAcc3 h0 mo2) ?_
  obtain rfl : r3 = p1.1 := hw
  refine lv_if_ne (tgt := 13) hx hb dX11_kind_8 (by decide) (fun c5 => ?_) (fun c5 => ?_)
  ·
    replace hf := (if_neg c5).symm.trans hf
    refine lv_aload_n hx hb dX11_kind_13 rfl (lv_at hl 0 rfl) ?_
    refine cG_1 hx hb hts i_X11_kind_X11 hown hK hC (hts (.fieldLink RX11 16 "StatementRules2" "told" "LStatementRules2$Told;") k_X11_kind_fieldLink_RX11_16_SR_told_LSR_Told) (fun _ q9 => q9) dX11_kind_14 ?_
    obtain ⟨p6, hcp6, hf⟩ := hf_bind hf
    have mo7 : CS.hs p1.2 ≤ CS.hs p6.2 := Mono.go hcp6 (m_X10_isFull N p1.2)
    have hr9 : CS.hs p6.2 ≤ CS.hs R.2 := Mono.go hf (mono_ite (mono_bind (m_X10_addKind N p6.2 x1) (fun p11 => (mono_some (Nat.le_refl _)))) (mono_some (Nat.le_refl _)))
    have hFc := cFree hC hA
    refine va_calli (va_runV (As := []) (rest := []) ⟨hx, hb, hml, hown, hts⟩ (c_X10_isFull l dC dI Q N p1.2 p6 hcp6) (cwV 0 hts hX11_kind_X10_isFull_v66 rfl rfl rfl (by decide +kernel) ⟨(show 1 + 1 ≤ 3 by omega), (show 8 + (1 + 11) + 60 * 1 ≤ 60 * 3 by omega)⟩) ⟨zPre.blind, va_recv hK hC.1 (ci := 9) (q0 := 1) rfl rfl, cPre_go hZ hK hC⟩ rfl rfl hl.1 rfl (lv_room (Nat.le_of_ble_eq_true rfl)) dX11_kind_17 (cAcc h4 mo7 hr9)) hC.2.2.1 (fun q _ h => hFc q h) hFc (fun r8 u9 t9 H1 locs ht hvm hw hB hz1 hk1 hS => ?_)
    obtain ⟨⟨hP, hK1, hD1⟩, hsz1⟩ := hB
    rw [ht] at hP hsz1
    have hC : CP dC dI Q A s.heap p6.2 H1 locs := ⟨hP, hD1.weaken (fun _ _ _ h => hFc _ h), hS, hsz1⟩
    generalize H1 = H at hC ⊢
    have h9 : (CS.hs σ) ≤ CS.hs p6.2 := Nat.le_trans h4 mo7
    refine W.widen (k := CS.hs p6.2 - (CS.hs σ)) (n := 17 * (CS.hs p6.2 - (CS.hs σ))) (cAcc2 h4 mo7) (cAcc3 h4 mo7) ?_
    obtain rfl : r8 = p6.1 := hw
    refine lv_if_eq (tgt := 28) hx hb dX11_kind_20 (by decide) (fun c10 => ?_) (fun c10 => ?_)
    ·
      replace hf := (if_pos c10).symm.trans hf
      refine lv_aload_n hx hb dX11_kind_28 rfl (lv_at hl 0 rfl) ?_
      refine cG_1 hx hb hts i_X11_kind_X11 hown hK hC (hts (.fieldLink RX11 16 "StatementRules2" "told" "LStatementRules2$Told;") k_X11_kind_fieldLink_RX11_16_SR_told_LSR_Told) (fun _ q9 => q9) dX11_kind_29 ?_
      refine lv_iload_n hx hb dX11_kind_32 rfl (lv_at hl 1 rfl) ?_
      obtain ⟨p11, hcp11, hf⟩ := hf_bind hf
      have mo12 : CS.hs p6.2 ≤ CS.hs p11.2 := Mono.go hcp11 (m_X10_addKind N p6.2 x1)
      have hr9 : CS.hs p11.2 ≤ CS.hs R.2 := Mono.go hf (mono_some (Nat.le_refl _))
      have hFc := cFree hC hA
      refine va_calli (va_runV (As := [.int x1]) (rest := []) ⟨hx, hb, hml, hown, hts⟩ (c_X10_addKind l dC dI Q N p6.2 x1 p11 hcp11) (cwV 1 hts hX11_kind_X10_addKind_v70 rfl rfl rfl (by decide +kernel) ⟨(show 2 + 1 ≤ 3 by omega), (show 8 + (2 + 11) + 60 * 2 ≤ 60 * 3 by omega)⟩) ⟨zPre.blind, va_recv hK hC.1 (ci := 9) (q0 := 1) rfl rfl, cPre_go hZ hK hC⟩ rfl rfl hl.1 rfl (lv_room (Nat.le_of_ble_eq_true rfl)) dX11_kind_33 (cAcc h9 mo12 hr9)) hC.2.2.1 (fun q _ h => hFc q h) hFc (fun r13 u9 t9 H1 locs ht hvm hw hB hz1 hk1 hS => ?_)
      obtain ⟨⟨hP, hK1, hD1⟩, hsz1⟩ := hB
      rw [ht] at hP hsz1
      have hC : CP dC dI Q A s.heap p11.2 H1 locs := ⟨hP, hD1.weaken (fun _ _ _ h => hFc _ h), hS, hsz1⟩
      generalize H1 = H at hC ⊢
      have h14 : (CS.hs σ) ≤ CS.hs p11.2 := Nat.le_trans h9 mo12
      refine W.widen (k := CS.hs p11.2 - (CS.hs σ)) (n := 17 * (CS.hs p11.2 - (CS.hs σ))) (cAcc2 h9 mo12) (cAcc3 h9 mo12) ?_
      obtain rfl : r13 = p11.1 := hw
      obtain rfl := Option.some.inj hf
      exact W.iret (v := p11.1) hx hb hr (fun t ht hW => ⟨⟨p11.1, (), rfl, rfl, ⟨by rw [ht]; exact hC.1, va_K.moved hW.alike hK, hC.2.1⟩, by rw [ht]; exact hC.2.2.2⟩, hC.2.2.1.F ht⟩) hC.2.2.1.2.2 dX11_kind_36
    ·
      replace hf := (if_neg c10).symm.trans hf
      refine lv_bipush (v := (-2)) hx hb dX11_kind_23 (by decide) ?_
      refine lv_goto (tgt := 36) hx hb dX11_kind_25 (by decide) ?_
      obtain rfl := Option.some.inj hf
      exact W.iret (v := (-2)) hx hb hr (fun t ht hW => ⟨⟨(-2), (), rfl, rfl, ⟨by rw [ht]; exact hC.1, va_K.moved hW.alike hK, hC.2.1⟩, by rw [ht]; exact hC.2.2.2⟩, hC.2.2.1.F ht⟩) hC.2.2.1.2.2 dX11_kind_36
  ·
    replace hf := (if_pos c5).symm.trans hf
    refine lv_iconst (v := (-1)) hx hb dX11_kind_11 (by decide) ?_
    obtain rfl := Option.some.inj hf
    exact W.iret (v := (-1)) hx hb hr (fun t ht hW => ⟨⟨(-1), (), rfl, rfl, ⟨by rw [ht]; exact hC.1, va_K.moved hW.alike hK, hC.2.1⟩, by rw [ht]; exact hC.2.2.2⟩, hC.2.2.1.F ht⟩) hC.2.2.1.2.2 dX11_kind_12
theorem k_X11_isKindOrNothing_fieldLink_RX11_16_SR_told_LSR_Told : Cond.fieldLink RX11 16 "StatementRules2" "told" "LStatementRules2$Told;" ∈ wzX11_isKindOrNothing := List.mem_cons_of_mem _ (List.mem_append_left _ (List.mem_of_getElem? (i := 0) rfl))
theorem i_X11_isKindOrNothing_X11 : ∀ w ∈ wsX110, w ∈ wzX11_isKindOrNothing := fun _ h => List.mem_cons_of_mem _ (List.mem_append_right _ (List.mem_append_left _ (h)))
set_option maxHeartbeats 4000000 in
set_option maxRecDepth 100000 in
theorem j_X11_isKindOrNothing_16 {p : Program} {e : Env} {s : State} {m : MethodId} {args : Array Value} {below : List Frame} {meth : Method} {c : Code} {A : Nat → Prop} (l : Launch) (dC : Nat → ClassId) (dI : Nat → Nat → Nat) (Q : CQ) (N : Nat) (z9h : Nat) (R : Int32 × CS) (hx : p.tables.exec = Jvm.exec) (hb : c.code = cX11_isKindOrNothing) (hr : meth.sig.returnType = (some .boolean)) (hml : c.maxLocals = 2) (hown : s.vm.findClass RX11 = some m.cls) (hts : ∀ w ∈ wzX11_isKindOrNothing, w.before args s = true) (hlocks : meth.locks = false) (hZ : zAMB s) (hA : ∀ q : Nat, s.heap.size ≤ q → A q) (hK : va_K (dC, dI) vwCl (cT Q) s) : ∀ (σ : CS) (H : Heap) (locs : List Loc) (ls : Array Slot), f_X11_isKindOrNothing_16 N σ = some R → z9h ≤ CS.hs σ → CP dC dI Q A s.heap σ H locs → lv_has ls 2 [] → W p l e ({ frames := 2, cells := CS.hs R.2 - z9h, slots := 17 * (CS.hs R.2 - z9h), locals := 60 * 2 }) s m args below meth c H locs (CS.hs σ - z9h) (17 * (CS.hs σ - z9h)) (MQ below (va_Qi (fun (r : Int32) (_ : Unit) => r = R.1) (fun (_ : Unit) (t : State) => zPost dC dI A (cW Q R.2) (cT Q) t ∧ t.heap.size = CS.hs R.2) A) args s (CS.hs R.2 - z9h) (17 * (CS.hs R.2 - z9h)) A) (F0 m 16 ls []) := by
  intro σ  H locs ls hf h0 hC hl
  unfold f_X11_isKindOrNothing_16 at hf
  refine lv_iconst (v := 1) hx hb dX11_isKindOrNothing_16 (by decide) ?_
  refine lv_goto (tgt := 21) hx hb dX11_isKindOrNothing_17 (by decide) ?_
  obtain rfl := Option.some.inj hf
  exact W.zret (v := 1) hx hb hr (rfl) (fun t ht hW => ⟨⟨1, (), rfl, rfl, ⟨by rw [ht]; exact hC.1, va_K.moved hW.alike hK, hC.2.1⟩, by rw [ht]; exact hC.2.2.2⟩, hC.2.2.1.F ht⟩) hC.2.2.1.2.2 dX11_isKindOrNothing_21
set_option maxHeartbeats 4000000 in
set_option maxRecDepth 100000 in
theorem c_X11_isKindOrNothing (l : Launch) (dC : Nat → ClassId) (dI : Nat → Nat → Nat) (Q : CQ) (N : Nat) (σ : CS) (x1 : Int32) (R : Int32 × CS) (hf : f_X11_isKindOrNothing N σ x1 = some R) : Met l yX11_isKindOrNothing wzX11_isKindOrNothing ({ frames := 2, cells := CS.hs R.2 - CS.hs σ, slots := 17 * (CS.hs R.2 - CS.hs σ), locals := 60 * 2 }) (va_Pc [.ref (Q.o 0), .int x1] (zPre dC dI (CS.hs σ) (cW Q σ) (cT Q))) (va_Qi (fun (r : Int32) (_ : Unit) => r = R.1) (fun (_ : Unit) (t : State) => zPost dC dI (va_A (cW Q σ) (CS.hs σ)) (cW Q R.2) (cT Q) t ∧ t.heap.size = CS.hs R.2) (va_A (cW Q σ) (CS.hs σ))) (CS.hs R.2 - CS.hs σ) (17 * (CS.hs R.2 - CS.hs σ)) (va_A (cW Q σ) (CS.hs σ)) := by
  refine Met.ofW (cc := cX11_isKindOrNothing) (maxL := 2) (ret := (some .boolean)) (by decide) rfl ?_
  intro p e s m args below meth c s₁ B hml hv
  obtain ⟨rfl, hsz, hZ, hP, hK, hD0⟩ := hv
  have hx := B.exec
  have hb := B.bytes
  have hr := B.returns
  have hts := atoms_spec (ws := wzX11_isKindOrNothing) B.pre
  have hown : s.vm.findClass RX11 = some m.cls := findClass_of_methodNamed B.named
  have hlocks := B.notSynchronized
  have hD := hD0.self (sz := CS.hs σ)
  generalize hAe : va_A (cW Q σ) (CS.hs σ) = A at hD ⊢
  have hA : ∀ q : Nat, s.heap.size ≤ q → A q := fun q h => by rw [← hAe]; exact Or.inr (hsz ▸ h)
  have hC : CP dC dI Q A s.heap σ s.heap [] := ⟨hP, hD, va_S.rf, hsz⟩
  have h0 : CS.hs σ ≤ CS.hs σ := Nat.le_refl _
  have hl := lv_entry ([.ref (Q.o 0), .int x1]) (n := 2) (Nat.le_of_ble_eq_true rfl)
  rw [lg_entry_eq]
  generalize (lg_sl ([.ref (Q.o 0), .int x1]) ++ List.replicate (2 - (lg_sl ([.ref (Q.o 0), .int x1])).length) Slot.unset).toArray = ls at hl ⊢
  have hl : lv_has ls 2 [(0, .ref (Q.o 0)), (1, .int x1)] := hl
  unfold f_X11_isKindOrNothing at hf
  refine W.widen (k := CS.hs σ - CS.hs σ) (n := 17 * (CS.hs σ - CS.hs σ)) (Nat.zero_le _) (Nat.zero_le _) ?_
  refine lv_iload_n hx hb dX11_isKindOrNothing_0 rfl (lv_at hl 1 rfl) ?_
  refine lv_iconst (v := (-1)) hx hb dX11_isKindOrNothing_1 (by decide) ?_
  refine lv_icmp_eq (tgt := 16) hx hb dX11_isKindOrNothing_2 (by decide) (fun c1 => ?_) (fun c1 => ?_)
  ·
    replace hf := (if_pos c1).symm.trans hf
    exact j_X11_isKindOrNothing_16 l dC dI Q N (CS.hs σ) R hx hb hr hml hown hts hlocks hZ hA hK σ _ _ _ hf h0 hC (lv_sub hl [] rfl)
  ·
    replace hf := (if_neg c1).symm.trans hf
    refine lv_aload_n hx hb dX11_isKindOrNothing_5 rfl (lv_at hl 0 rfl) ?_
    refine cG_1 hx hb hts i_X11_isKindOrNothing_X11 hown hK hC (hts (.fieldLink RX11 16 "StatementRules2" "told" "LStatementRules2$Told;") k_X11_isKindOrNothing_fieldLink_RX11_16_SR_told_LSR_Told) (fun _ q9 => q9) dX11_isKindOrNothing_6 ?_
    refine lv_iload_n hx hb dX11_isKindOrNothing_9 rfl (lv_at hl 1 rfl) ?_
    obtain ⟨p2, hcp2, hf⟩ := hf_bind hf
    have mo3 : CS.hs σ ≤ CS.hs p2.2 := Mono.go hcp2 (m_X10_isKind N σ x1)
    have hr9 : CS.hs p2.2 ≤ CS.hs R.2 := Mono.go hf (mono_ite (mono_some (Nat.le_refl _)) (m_X11_isKindOrNothing_16 N p2.2))
    have hFc := cFree hC hA
    refine va_calli (va_runV (As := [.int x1]) (rest := []) ⟨hx, hb, hml, hown, hts⟩ (c_X10_isKind l dC dI Q N σ x1 p2 hcp2) (cwV 1 hts hX11_isKindOrNothing_X10_isKind_v62 rfl rfl rfl (by decide +kernel) ⟨(show 1 + 1 ≤ 2 by omega), (show 8 + (2 + 11) + 60 * 1 ≤ 60 * 2 by omega)⟩) ⟨zPre.blind, va_recv hK hC.1 (ci := 9) (q0 := 1) rfl rfl, cPre_go hZ hK hC⟩ rfl rfl hl.1 rfl (lv_room (Nat.le_of_ble_eq_true rfl)) dX11_isKindOrNothing_10 (cAcc h0 mo3 hr9)) hC.2.2.1 (fun q _ h => hFc q h) hFc (fun r4 u9 t9 H1 locs ht hvm hw hB hz1 hk1 hS => ?_)
    obtain ⟨⟨hP, hK1, hD1⟩, hsz1⟩ := hB
    rw [ht] at hP hsz1
    have hC : CP dC dI Q A s.heap p2.2 H1 locs := ⟨hP, hD1.weaken (fun _ _ _ h => hFc _ h), hS, hsz1⟩
    generalize H1 = H at hC ⊢
    have h5 : (CS.hs σ) ≤ CS.hs p2.2 := Nat.le_trans h0 mo3
    refine W.widen (k := CS.hs p2.2 - (CS.hs σ)) (n := 17 * (CS.hs p2.2 - (CS.hs σ))) (cAcc2 h0 mo3) (cAcc3 h0 mo3) ?_
    obtain rfl : r4 = p2.1 := hw
    refine lv_if_eq (tgt := 20) hx hb dX11_isKindOrNothing_13 (by decide) (fun c6 => ?_) (fun c6 => ?_)
    ·
      replace hf := (if_pos c6).symm.trans hf
      refine lv_iconst (v := 0) hx hb dX11_isKindOrNothing_20 (by decide) ?_
      obtain rfl := Option.some.inj hf
      exact W.zret (v := 0) hx hb hr (rfl) (fun t ht hW => ⟨⟨0, (), rfl, rfl, ⟨by rw [ht]; exact hC.1, va_K.moved hW.alike hK, hC.2.1⟩, by rw [ht]; exact hC.2.2.2⟩, hC.2.2.1.F ht⟩) hC.2.2.1.2.2 dX11_isKindOrNothing_21
    ·
      replace hf := (if_neg c6).symm.trans hf
      exact j_X11_isKindOrNothing_16 l dC dI Q N (CS.hs σ) R hx hb hr hml hown hts hlocks hZ hA hK p2.2 _ _ _ hf h5 hC (lv_sub hl [] rfl)
theorem k_X11_resource_fieldLink_RX11_16_SR_told_LSR_Told : Cond.fieldLink RX11 16 "StatementRules2" "told" "LStatementRules2$Told;" ∈ wzX11_resource := List.mem_cons_of_mem _ (List.mem_append_left _ (List.mem_of_getElem? (i := 0) rfl))
theorem i_X11_resource_X11 : ∀ w ∈ wsX110, w ∈ wzX11_resource := fun _ h => List.mem_cons_of_mem _ (List.mem_append_right _ (List.mem_append_left _ (h)))
set_option maxHeartbeats 4000000 in
set_option maxRecDepth 100000 in
theorem j_X11_resource_19 {p : Program} {e : Env} {s : State} {m : MethodId} {args : Array Value} {below : List Frame} {meth : Method} {c : Code} {A : Nat → Prop} (l : Launch) (dC : Nat → ClassId) (dI : Nat → Nat → Nat) (Q : CQ) (N : Nat) (z9h : Nat) (R : Int32 × CS) (hx : p.tables.exec = Jvm.exec) (hb : c.code = cX11_resource) (hr : meth.sig.returnType = (some .int)) (hml : c.maxLocals = 5) (hown : s.vm.findClass RX11 = some m.cls) (hts : ∀ w ∈ wzX11_resource, w.before args s = true) (hlocks : meth.locks = false) (hZ : zAMB s) (hA : ∀ q : Nat, s.heap.size ≤ q → A q) (hK : va_K (dC, dI) vwCl (cT Q) s) : ∀ (σ : CS) (H : Heap) (locs : List Loc) (ls : Array Slot), f_X11_resource_19 N σ = some R → z9h ≤ CS.hs σ → CP dC dI Q A s.heap σ H locs → lv_has ls 5 [] → W p l e ({ frames := 3, cells := CS.hs R.2 - z9h, slots := 17 * (CS.hs R.2 - z9h), locals := 60 * 3 }) s m args below meth c H locs (CS.hs σ - z9h) (17 * (CS.hs σ - z9h)) (MQ below (va_Qi (fun (r : Int32) (_ : Unit) => r = R.1) (fun (_ : Unit) (t : State) => zPost dC dI A (cW Q R.2) (cT Q) t ∧ t.heap.size = CS.hs R.2) A) args s (CS.hs R.2 - z9h) (17 * (CS.hs R.2 - z9h)) A) (F0 m 19 ls []) := by
  intro σ  H locs ls hf h0 hC hl
  unfold f_X11_resource_19 at hf
  refine lv_iconst (v := (-1)) hx hb dX11_resource_19 (by decide) ?_
  obtain rfl := Option.some.inj hf
  exact W.iret (v := (-1)) hx hb hr (fun t ht hW => ⟨⟨(-1), (), rfl, rfl, ⟨by rw [ht]; exact hC.1, va_K.moved hW.alike hK, hC.2.1⟩, by rw [ht]; exact hC.2.2.2⟩, hC.2.2.1.F ht⟩) hC.2.2.1.2.2 dX11_resource_20
set_option maxHeartbeats 4000000 in
set_option maxRecDepth 100000 in
theorem j_X11_resource_38 {p : Program} {e : Env} {s : State} {m : MethodId} {args : Array Value} {below : List Frame} {meth : Method} {c : Code} {A : Nat → Prop} (l : Launch) (dC : Nat → ClassId) (dI : Nat → Nat → Nat) (Q : CQ) (N : Nat) (z9h : Nat) (R : Int32 × CS) (hx : p.tables.exec = Jvm.exec) (hb : c.code = cX11_resource) (hr : meth.sig.returnType = (some .int)) (hml : c.maxLocals = 5) (hown : s.vm.findClass RX11 = some m.cls) (hts : ∀ w ∈ wzX11_resource, w.before args s = true) (hlocks : meth.locks = false) (hZ : zAMB s) (hA : ∀ q : Nat, s.heap.size ≤ q → A q) (hK : va_K (dC, dI) vwCl (cT Q) s) : ∀ (σ : CS) (H : Heap) (locs : List Loc) (ls : Array Slot), f_X11_resource_38 N σ = some R → z9h ≤ CS.hs σ → CP dC dI Q A s.heap σ H locs → lv_has ls 5 [] → W p l e ({ frames := 3, cells := CS.hs R.2 - z9h, slots := 17 * (CS.hs R.2 - z9h), locals := 60 * 3 }) s m args below meth c H locs (CS.hs σ - z9h) (17 * (CS.hs σ - z9h)) (MQ below (va_Qi (fun (r : Int32) (_ : Unit) => r = R.1) (fun (_ : Unit) (t : State) => zPost dC dI A (cW Q R.2) (cT Q) t ∧ t.heap.size = CS.hs R.2) A) args s (CS.hs R.2 - z9h) (17 * (CS.hs R.2 - z9h)) A) (F0 m 38 ls []) := by
  intro σ  H locs ls hf h0 hC hl
  unfold f_X11_resource_38 at hf
  refine lv_iconst (v := (-1)) hx hb dX11_resource_38 (by decide) ?_
  obtain rfl := Option.some.inj hf
  exact W.iret (v := (-1)) hx hb hr (fun t ht hW => ⟨⟨(-1), (), rfl, rfl, ⟨by rw [ht]; exact hC.1, va_K.moved hW.alike hK, hC.2.1⟩, by rw [ht]; exact hC.2.2.2⟩, hC.2.2.1.F ht⟩) hC.2.2.1.2.2 dX11_resource_39
set_option maxHeartbeats 4000000 in
set_option maxRecDepth 100000 in
theorem c_X11_resource (l : Launch) (dC : Nat → ClassId) (dI : Nat → Nat → Nat) (Q : CQ) (N : Nat) (σ : CS) (x1 : Int32) (x2 : Int32) (x3 : Int32) (x4 : Int32) (R : Int32 × CS) (hf : f_X11_resource N σ x1 x2 x3 x4 = some R) : Met l yX11_resource wzX11_resource ({ frames := 3, cells := CS.hs R.2 - CS.hs σ, slots := 17 * (CS.hs R.2 - CS.hs σ), locals := 60 * 3 }) (va_Pc [.ref (Q.o 0), .int x1, .int x2, .int x3, .int x4] (zPre dC dI (CS.hs σ) (cW Q σ) (cT Q))) (va_Qi (fun (r : Int32) (_ : Unit) => r = R.1) (fun (_ : Unit) (t : State) => zPost dC dI (va_A (cW Q σ) (CS.hs σ)) (cW Q R.2) (cT Q) t ∧ t.heap.size = CS.hs R.2) (va_A (cW Q σ) (CS.hs σ))) (CS.hs R.2 - CS.hs σ) (17 * (CS.hs R.2 - CS.hs σ)) (va_A (cW Q σ) (CS.hs σ)) := by
  refine Met.ofW (cc := cX11_resource) (maxL := 5) (ret := (some .int)) (by decide) rfl ?_
  intro p e s m args below meth c s₁ B hml hv
  obtain ⟨rfl, hsz, hZ, hP, hK, hD0⟩ := hv
  have hx := B.exec
  have hb := B.bytes
  have hr := B.returns
  have hts := atoms_spec (ws := wzX11_resource) B.pre
  have hown : s.vm.findClass RX11 = some m.cls := findClass_of_methodNamed B.named
  have hlocks := B.notSynchronized
  have hD := hD0.self (sz := CS.hs σ)
  generalize hAe : va_A (cW Q σ) (CS.hs σ) = A at hD ⊢
  have hA : ∀ q : Nat, s.heap.size ≤ q → A q := fun q h => by rw [← hAe]; exact Or.inr (hsz ▸ h)
  have hC : CP dC dI Q A s.heap σ s.heap [] := ⟨hP, hD, va_S.rf, hsz⟩
  have h0 : CS.hs σ ≤ CS.hs σ := Nat.le_refl _
  have hl := lv_entry ([.ref (Q.o 0), .int x1, .int x2, .int x3, .int x4]) (n := 5) (Nat.le_of_ble_eq_true rfl)
  rw [lg_entry_eq]
  generalize (lg_sl ([.ref (Q.o 0), .int x1, .int x2, .int x3, .int x4]) ++ List.replicate (5 - (lg_sl ([.ref (Q.o 0), .int x1, .int x2, .int x3, .int x4])).length) Slot.unset).toArray = ls at hl ⊢
  have hl : lv_has ls 5 [(0, .ref (Q.o 0)), (1, .int x1), (2, .int x2), (3, .int x3), (4, .int x4)] := hl
  unfold f_X11_resource at hf
  refine W.widen (k := CS.hs σ - CS.hs σ) (n := 17 * (CS.hs σ - CS.hs σ)) (Nat.zero_le _) (Nat.zero_le _) ?_
  refine lv_iload_n hx hb dX11_resource_0 rfl (lv_at hl 1 rfl) ?_
  refine lv_if_lt (tgt := 19) hx hb dX11_resource_1 (by decide) (fun c1 => ?_) (fun c1 => ?_)
  ·
    replace hf := (if_pos c1).symm.trans hf
    exact j_X11_resource_19 l dC dI Q N (CS.hs σ) R hx hb hr hml hown hts hlocks hZ hA hK σ _ _ _ hf h0 hC (lv_sub hl [] rfl)
  ·
    replace hf := (if_neg c1).symm.trans hf
    refine lv_iload_n hx hb dX11_resource_4 rfl (lv_at hl 1 rfl) ?_
    refine lv_bipush (v := 8) hx hb dX11_resource_5 (by decide) ?_
    refine lv_icmp_ge (tgt := 19) hx hb dX11_resource_7 (by decide) (fun c2 => ?_) (fun c2 => ?_)
    ·
      replace hf := (if_pos c2).symm.trans hf
      exact j_X11_resource_19 l dC dI Q N (CS.hs σ) R hx hb hr hml hown hts hlocks hZ hA hK σ _ _ _ hf h0 hC (lv_sub hl [] rfl)
    ·
      replace hf := (if_neg c2).symm.trans hf
      refine lv_iload_n hx hb dX11_resource_10 rfl (lv_at hl 2 rfl) ?_
      refine lv_if_lt (tgt := 19) hx hb dX11_resource_11 (by decide) (fun c3 => ?_) (fun c3 => ?_)
      ·
        replace hf := (if_pos c3).symm.trans hf
        exact j_X11_resource_19 l dC dI Q N (CS.hs σ) R hx hb hr hml hown hts hlocks hZ hA hK σ _ _ _ hf h0 hC (lv_sub hl [] rfl)
      ·
        replace hf := (if_neg c3).symm.trans hf
        refine lv_iload_n hx hb dX11_resource_14 rfl (lv_at hl 2 rfl) ?_
        refine lv_iconst (v := 1) hx hb dX11_resource_15 (by decide) ?_
        refine lv_icmp_le (tgt := 21) hx hb dX11_resource_16 (by decide) (fun c4 => ?_) (fun c4 => ?_)
        ·
          replace hf := (if_pos c4).symm.trans hf
          refine lv_aload_n hx hb dX11_resource_21 rfl (lv_at hl 0 rfl) ?_
          refine lv_iload_n hx hb dX11_resource_22 rfl (lv_at hl 3 rfl) ?_
          obtain ⟨p5, hcp5, hf⟩ := hf_bind hf
          have mo6 : CS.hs σ ≤ CS.hs p5.2 := Mono.go hcp5 (m_X11_isKindOrNothing N σ x3)
          have hr9 : CS.hs p5.2 ≤ CS.hs R.2 := Mono.go hf (mono_ite (m_X11_resource_38 N p5.2) (mono_bind (m_X11_isKindOrNothing N p5.2 x4) (fun p10 => (mono_ite (m_X11_resource_38 N p10.2) (mono_bind (m_X10_tellResource N p10.2 x1 x2 x3 x4) (fun p15 => (mono_some (Nat.le_refl _))))))))
          have hFc := cFree hC hA
          refine va_calli (va_runV (As := [.int x3]) (rest := []) ⟨hx, hb, hml, hown, hts⟩ (c_X11_isKindOrNothing l dC dI Q N σ x3 p5 hcp5) (cwV 1 hts hX11_resource_X11_isKindOrNothing_v74 rfl rfl rfl (by decide +kernel) ⟨(show 2 + 1 ≤ 3 by omega), (show 8 + (2 + 11) + 60 * 2 ≤ 60 * 3 by omega)⟩) ⟨zPre.blind, va_recv hK hC.1 (ci := 10) (q0 := 0) rfl rfl, cPre_go hZ hK hC⟩ rfl rfl hl.1 rfl (lv_room (Nat.le_of_ble_eq_true rfl)) dX11_resource_23 (cAcc h0 mo6 hr9)) hC.2.2.1 (fun q _ h => hFc q h) hFc (fun r7 u9 t9 H1 locs ht hvm hw hB hz1 hk1 hS => ?_)
          obtain ⟨⟨hP, hK1, hD1⟩, hsz1⟩ := hB
          rw [ht] at hP hsz1
          have hC : CP dC dI Q A s.heap p5.2 H1 locs := ⟨hP, hD1.weaken (fun _ _ _ h => hFc _ h), hS, hsz1⟩
          generalize H1 = H at hC ⊢
          have h8 : (CS.hs σ) ≤ CS.hs p5.2 := Nat.le_trans h0 mo6
          refine W.widen (k := CS.hs p5.2 - (CS.hs σ)) (n := 17 * (CS.hs p5.2 - (CS.hs σ))) (cAcc2 h0 mo6) (cAcc3 h0 mo6) ?_
          obtain rfl : r7 = p5.1 := hw
          refine lv_if_eq (tgt := 38) hx hb dX11_resource_26 (by decide) (fun c9 => ?_) (fun c9 => ?_)
          ·
            replace hf := (if_pos c9).symm.trans hf
            exact j_X11_resource_38 l dC dI Q N (CS.hs σ) R hx hb hr hml hown hts hlocks hZ hA hK p5.2 _ _ _ hf h8 hC (lv_sub hl [] rfl)
          ·
            replace hf := (if_neg c9).symm.trans hf
            refine lv_aload_n hx hb dX11_resource_29 rfl (lv_at hl 0 rfl) ?_
            refine lv_iload hx hb dX11_resource_30 (lv_at hl 4 rfl) ?_
            obtain ⟨p10, hcp10, hf⟩ := hf_bind hf
            have mo11 : CS.hs p5.2 ≤ CS.hs p10.2 := Mono.go hcp10 (m_X11_isKindOrNothing N p5.2 x4)
            have hr9 : CS.hs p10.2 ≤ CS.hs R.2 := Mono.go hf (mono_ite (m_X11_resource_38 N p10.2) (mono_bind (m_X10_tellResource N p10.2 x1 x2 x3 x4) (fun p15 => (mono_some (Nat.le_refl _)))))
            have hFc := cFree hC hA
            refine va_calli (va_runV (As := [.int x4]) (rest := []) ⟨hx, hb, hml, hown, hts⟩ (c_X11_isKindOrNothing l dC dI Q N p5.2 x4 p10 hcp10) (cwV 1 hts hX11_resource_X11_isKindOrNothing_v74 rfl rfl rfl (by decide +kernel) ⟨(show 2 + 1 ≤ 3 by omega), (show 8 + (2 + 11) + 60 * 2 ≤ 60 * 3 by omega)⟩) ⟨zPre.blind, va_recv hK hC.1 (ci := 10) (q0 := 0) rfl rfl, cPre_go hZ hK hC⟩ rfl rfl hl.1 rfl (lv_room (Nat.le_of_ble_eq_true rfl)) dX11_resource_32 (cAcc h8 mo11 hr9)) hC.2.2.1 (fun q _ h => hFc q h) hFc (fun r12 u9 t9 H1 locs ht hvm hw hB hz1 hk1 hS => ?_)
            obtain ⟨⟨hP, hK1, hD1⟩, hsz1⟩ := hB
            rw [ht] at hP hsz1
            have hC : CP dC dI Q A s.heap p10.2 H1 locs := ⟨hP, hD1.weaken (fun _ _ _ h => hFc _ h), hS, hsz1⟩
            generalize H1 = H at hC ⊢
            have h13 : (CS.hs σ) ≤ CS.hs p10.2 := Nat.le_trans h8 mo11
            refine W.widen (k := CS.hs p10.2 - (CS.hs σ)) (n := 17 * (CS.hs p10.2 - (CS.hs σ))) (cAcc2 h8 mo11) (cAcc3 h8 mo11) ?_
            obtain rfl : r12 = p10.1 := hw
            refine lv_if_ne (tgt := 40) hx hb dX11_resource_35 (by decide) (fun c14 => ?_) (fun c14 => ?_)
            ·
              replace hf := (if_neg c14).symm.trans hf
              refine lv_aload_n hx hb dX11_resource_40 rfl (lv_at hl 0 rfl) ?_
              refine cG_1 hx hb hts i_X11_resource_X11 hown hK hC (hts (.fieldLink RX11 16 "StatementRules2" "told" "LStatementRules2$Told;") k_X11_resource_fieldLink_RX11_16_SR_told_LSR_Told) (fun _ q9 => q9) dX11_resource_41 ?_
              refine lv_iload_n hx hb dX11_resource_44 rfl (lv_at hl 1 rfl) ?_
              refine lv_iload_n hx hb dX11_resource_45 rfl (lv_at hl 2 rfl) ?_
              refine lv_iload_n hx hb dX11_resource_46 rfl (lv_at hl 3 rfl) ?_
              refine lv_iload hx hb dX11_resource_47 (lv_at hl 4 rfl) ?_
              obtain ⟨p15, hcp15, hf⟩ := hf_bind hf
              have mo16 : CS.hs p10.2 ≤ CS.hs p15.2 := Mono.go hcp15 (m_X10_tellResource N p10.2 x1 x2 x3 x4)
              have hr9 : CS.hs p15.2 ≤ CS.hs R.2 := Mono.go hf (mono_some (Nat.le_refl _))
              have hFc := cFree hC hA
              refine va_callv (va_runV (As := [.int x1, .int x2, .int x3, .int x4]) (rest := []) ⟨hx, hb, hml, hown, hts⟩ (c_X10_tellResource l dC dI Q N p10.2 x1 x2 x3 x4 p15 hcp15) (cwV 4 hts hX11_resource_X10_tellResource_v77 rfl rfl rfl (by decide +kernel) ⟨(show 2 + 1 ≤ 3 by omega), (show 8 + (5 + 11) + 60 * 2 ≤ 60 * 3 by omega)⟩) ⟨zPre.blind, va_recv hK hC.1 (ci := 9) (q0 := 1) rfl rfl, cPre_go hZ hK hC⟩ rfl rfl hl.1 rfl (lv_room (Nat.le_of_ble_eq_true rfl)) dX11_resource_49 (cAcc h13 mo16 hr9)) hC.2.2.1 (fun q _ h => hFc q h) hFc (fun u9 t9 H1 locs ht hvm hw hB hz1 hk1 hS => ?_)
              obtain ⟨⟨hP, hK1, hD1⟩, hsz1⟩ := hB
              rw [ht] at hP hsz1
              have hC : CP dC dI Q A s.heap p15.2 H1 locs := ⟨hP, hD1.weaken (fun _ _ _ h => hFc _ h), hS, hsz1⟩
              generalize H1 = H at hC ⊢
              have h18 : (CS.hs σ) ≤ CS.hs p15.2 := Nat.le_trans h13 mo16
              refine W.widen (k := CS.hs p15.2 - (CS.hs σ)) (n := 17 * (CS.hs p15.2 - (CS.hs σ))) (cAcc2 h13 mo16) (cAcc3 h13 mo16) ?_
              refine lv_iconst (v := 1) hx hb dX11_resource_52 (by decide) ?_
              obtain rfl := Option.some.inj hf
              exact W.iret (v := 1) hx hb hr (fun t ht hW => ⟨⟨1, (), rfl, rfl, ⟨by rw [ht]; exact hC.1, va_K.moved hW.alike hK, hC.2.1⟩, by rw [ht]; exact hC.2.2.2⟩, hC.2.2.1.F ht⟩) hC.2.2.1.2.2 dX11_resource_53
            ·
              replace hf := (if_pos c14).symm.trans hf
              exact j_X11_resource_38 l dC dI Q N (CS.hs σ) R hx hb hr hml hown hts hlocks hZ hA hK p10.2 _ _ _ hf h13 hC (lv_sub hl [] rfl)
        ·
          replace hf := (if_neg c4).symm.trans hf
          exact j_X11_resource_19 l dC dI Q N (CS.hs σ) R hx hb hr hml hown hts hlocks hZ hA hK σ _ _ _ hf h0 hC (lv_sub hl [] rfl)
theorem k_X11_asserts_fieldLink_RX11_16_SR_told_LSR_Told : Cond.fieldLink RX11 16 "StatementRules2" "told" "LStatementRules2$Told;" ∈ wzX11_asserts := List.mem_cons_of_mem _ (List.mem_append_left _ (List.mem_of_getElem? (i := 0) rfl))
theorem i_X11_asserts_X11 : ∀ w ∈ wsX110, w ∈ wzX11_asserts := fun _ h => List.mem_cons_of_mem _ (List.mem_append_right _ (List.mem_append_left _ (h)))
theorem i_X11_asserts_X10 : ∀ w ∈ wsX100, w ∈ wzX11_asserts := fun _ h => List.mem_cons_of_mem _ (List.mem_append_right _ (List.mem_append_right _ (List.mem_append_left _ (h))))
set_option maxHeartbeats 4000000 in
set_option maxRecDepth 100000 in
theorem j_X11_asserts_16 {p : Program} {e : Env} {s : State} {m : MethodId} {args : Array Value} {below : List Frame} {meth : Method} {c : Code} {A : Nat → Prop} (l : Launch) (dC : Nat → ClassId) (dI : Nat → Nat → Nat) (Q : CQ) (N : Nat) (z9h : Nat) (R : Int32 × CS) (hx : p.tables.exec = Jvm.exec) (hb : c.code = cX11_asserts) (hr : meth.sig.returnType = (some .int)) (hml : c.maxLocals = 3) (hown : s.vm.findClass RX11 = some m.cls) (hts : ∀ w ∈ wzX11_asserts, w.before args s = true) (hlocks : meth.locks = false) (hZ : zAMB s) (hA : ∀ q : Nat, s.heap.size ≤ q → A q) (hK : va_K (dC, dI) vwCl (cT Q) s) : ∀ (σ : CS) (x1 : Int32) (x2 : Int32) (H : Heap) (locs : List Loc) (ls : Array Slot), f_X11_asserts_16 N σ x1 x2 = some R → z9h ≤ CS.hs σ → CP dC dI Q A s.heap σ H locs → lv_has ls 3 [(0, .ref (Q.o 0)), (1, .int x1), (2, .int x2)] → W p l e ({ frames := 1, cells := CS.hs R.2 - z9h, slots := 17 * (CS.hs R.2 - z9h), locals := 60 * 1 }) s m args below meth c H locs (CS.hs σ - z9h) (17 * (CS.hs σ - z9h)) (MQ below (va_Qi (fun (r : Int32) (_ : Unit) => r = R.1) (fun (_ : Unit) (t : State) => zPost dC dI A (cW Q R.2) (cT Q) t ∧ t.heap.size = CS.hs R.2) A) args s (CS.hs R.2 - z9h) (17 * (CS.hs R.2 - z9h)) A) (F0 m 16 ls []) := by
  intro σ x1 x2 H locs ls hf h0 hC hl
  unfold f_X11_asserts_16 at hf
  refine lv_aload_n hx hb dX11_asserts_16 rfl (lv_at hl 0 rfl) ?_
  refine cG_1 hx hb hts i_X11_asserts_X11 hown hK hC (hts (.fieldLink RX11 16 "StatementRules2" "told" "LStatementRules2$Told;") k_X11_asserts_fieldLink_RX11_16_SR_told_LSR_Told) (fun _ q9 => q9) dX11_asserts_17 ?_
  refine lv_iload_n hx hb dX11_asserts_20 rfl (lv_at hl 1 rfl) ?_
  obtain ⟨b2, hf⟩ := hf_ite hf
  refine cPN_14 (v := x1) hx hb hts i_X11_asserts_X10 hown hK hC (va_Nw.use rfl (hZ.1 (.fieldLinkNest RX11 81 "StatementRules2$Told" "assertsOn" "Z" "StatementRules2") (by decide +kernel))) (fun _ q9 => q9) dX11_asserts_21 b2 (fun H locs hC => ?_)
  refine lv_iload_n hx hb dX11_asserts_24 rfl (lv_at hl 2 rfl) ?_
  obtain rfl := Option.some.inj hf
  exact W.iret (v := x2) hx hb hr (fun t ht hW => ⟨⟨x2, (), rfl, rfl, ⟨by rw [ht]; exact hC.1, va_K.moved hW.alike hK, hC.2.1⟩, by rw [ht]; exact hC.2.2.2⟩, hC.2.2.1.F ht⟩) hC.2.2.1.2.2 dX11_asserts_25
set_option maxHeartbeats 4000000 in
set_option maxRecDepth 100000 in
theorem c_X11_asserts (l : Launch) (dC : Nat → ClassId) (dI : Nat → Nat → Nat) (Q : CQ) (N : Nat) (σ : CS) (x1 : Int32) (R : Int32 × CS) (hf : f_X11_asserts N σ x1 = some R) : Met l yX11_asserts wzX11_asserts ({ frames := 1, cells := CS.hs R.2 - CS.hs σ, slots := 17 * (CS.hs R.2 - CS.hs σ), locals := 60 * 1 }) (va_Pc [.ref (Q.o 0), .int x1] (zPre dC dI (CS.hs σ) (cW Q σ) (cT Q))) (va_Qi (fun (r : Int32) (_ : Unit) => r = R.1) (fun (_ : Unit) (t : State) => zPost dC dI (va_A (cW Q σ) (CS.hs σ)) (cW Q R.2) (cT Q) t ∧ t.heap.size = CS.hs R.2) (va_A (cW Q σ) (CS.hs σ))) (CS.hs R.2 - CS.hs σ) (17 * (CS.hs R.2 - CS.hs σ)) (va_A (cW Q σ) (CS.hs σ)) := by
  refine Met.ofW (cc := cX11_asserts) (maxL := 3) (ret := (some .int)) (by decide) rfl ?_
  intro p e s m args below meth c s₁ B hml hv
  obtain ⟨rfl, hsz, hZ, hP, hK, hD0⟩ := hv
  have hx := B.exec
  have hb := B.bytes
  have hr := B.returns
  have hts := atoms_spec (ws := wzX11_asserts) B.pre
  have hown : s.vm.findClass RX11 = some m.cls := findClass_of_methodNamed B.named
  have hlocks := B.notSynchronized
  have hD := hD0.self (sz := CS.hs σ)
  generalize hAe : va_A (cW Q σ) (CS.hs σ) = A at hD ⊢
  have hA : ∀ q : Nat, s.heap.size ≤ q → A q := fun q h => by rw [← hAe]; exact Or.inr (hsz ▸ h)
  have hC : CP dC dI Q A s.heap σ s.heap [] := ⟨hP, hD, va_S.rf, hsz⟩
  have h0 : CS.hs σ ≤ CS.hs σ := Nat.le_refl _
  have hl := lv_entry ([.ref (Q.o 0), .int x1]) (n := 3) (Nat.le_of_ble_eq_true rfl)
  rw [lg_entry_eq]
  generalize (lg_sl ([.ref (Q.o 0), .int x1]) ++ List.replicate (3 - (lg_sl ([.ref (Q.o 0), .int x1])).length) Slot.unset).toArray = ls at hl ⊢
  have hl : lv_has ls 3 [(0, .ref (Q.o 0)), (1, .int x1)] := hl
  unfold f_X11_asserts at hf
  refine W.widen (k := CS.hs σ - CS.hs σ) (n := 17 * (CS.hs σ - CS.hs σ)) (Nat.zero_le _) (Nat.zero_le _) ?_
  refine lv_aload_n hx hb dX11_asserts_0 rfl (lv_at hl 0 rfl) ?_
  refine cG_1 hx hb hts i_X11_asserts_X11 hown hK hC (hts (.fieldLink RX11 16 "StatementRules2" "told" "LStatementRules2$Told;") k_X11_asserts_fieldLink_RX11_16_SR_told_LSR_Told) (fun _ q9 => q9) dX11_asserts_1 ?_
  refine cGN_14 (v := (σ.i 14)) hx hb hts i_X11_asserts_X10 hown hK hC (va_Nw.use rfl (hZ.1 (.fieldLinkNest RX11 81 "StatementRules2$Told" "assertsOn" "Z" "StatementRules2") (by decide +kernel))) (fun _ q9 => q9) dX11_asserts_4 rfl ?_
  refine lv_if_eq (tgt := 14) hx hb dX11_asserts_7 (by decide) (fun c1 => ?_) (fun c1 => ?_)
  ·
    replace hf := (if_pos c1).symm.trans hf
    refine lv_iconst (v := 0) hx hb dX11_asserts_14 (by decide) ?_
    refine lv_istore_n (lv' := [(2, .int 0), (0, .ref (Q.o 0)), (1, .int x1)]) hx hb dX11_asserts_15 rfl hl (by decide) rfl (fun ls hl => ?_)
    exact j_X11_asserts_16 l dC dI Q N (CS.hs σ) R hx hb hr hml hown hts hlocks hZ hA hK σ x1 0 _ _ _ hf h0 hC (lv_sub hl [1, 2, 0] rfl)
  ·
    replace hf := (if_neg c1).symm.trans hf
    refine lv_iconst (v := 1) hx hb dX11_asserts_10 (by decide) ?_
    refine lv_goto (tgt := 15) hx hb dX11_asserts_11 (by decide) ?_
    refine lv_istore_n (lv' := [(2, .int 1), (0, .ref (Q.o 0)), (1, .int x1)]) hx hb dX11_asserts_15 rfl hl (by decide) rfl (fun ls hl => ?_)
    exact j_X11_asserts_16 l dC dI Q N (CS.hs σ) R hx hb hr hml hown hts hlocks hZ hA hK σ x1 1 _ _ _ hf h0 hC (lv_sub hl [1, 2, 0] rfl)
theorem k_X11_read_fieldLink_RX11_50_SR_length_I : Cond.fieldLink RX11 50 "StatementRules2" "length" "I" ∈ wzX11_read := List.mem_cons_of_mem _ (List.mem_append_left _ (List.mem_of_getElem? (i := 0) rfl))
theorem i_X11_read_X11 : ∀ w ∈ wsX110, w ∈ wzX11_read := fun _ h => List.mem_cons_of_mem _ (List.mem_append_right _ (List.mem_append_left _ (h)))
theorem k_X11_read_fieldLink_RX11_85_SR_hasRun_Z : Cond.fieldLink RX11 85 "StatementRules2" "hasRun" "Z" ∈ wzX11_read := List.mem_cons_of_mem _ (List.mem_append_left _ (List.mem_of_getElem? (i := 1) rfl))
theorem k_X11_read_fieldLink_RX11_37_SR_reader_LSR_Statements : Cond.fieldLink RX11 37 "StatementRules2" "reader" "LStatementRules2$Statements;" ∈ wzX11_read := List.mem_cons_of_mem _ (List.mem_append_left _ (List.mem_of_getElem? (i := 2) rfl))
theorem k_X11_read_fieldLink_RX11_91_SR_latestFault_I : Cond.fieldLink RX11 91 "StatementRules2" "latestFault" "I" ∈ wzX11_read := List.mem_cons_of_mem _ (List.mem_append_left _ (List.mem_of_getElem? (i := 3) rfl))
theorem k_X11_read_fieldLink_RX11_94_SR_hasProgram_Z : Cond.fieldLink RX11 94 "StatementRules2" "hasProgram" "Z" ∈ wzX11_read := List.mem_cons_of_mem _ (List.mem_append_left _ (List.mem_of_getElem? (i := 4) rfl))
theorem k_X11_read_fieldLink_RX11_100_SR_Statements_faultPlace_I : Cond.fieldLink RX11 100 "StatementRules2$Statements" "faultPlace" "I" ∈ wzX11_read := List.mem_cons_of_mem _ (List.mem_append_left _ (List.mem_of_getElem? (i := 5) rfl))
theorem k_X11_read_sameField_SR_Statements_SR_Formulas_faultPlace_I : Cond.sameField "StatementRules2$Statements" "StatementRules2$Formulas" "faultPlace" "I" ∈ wzX11_read := List.mem_cons_of_mem _ (List.mem_append_left _ (List.mem_of_getElem? (i := 6) rfl))
theorem i_X11_read_X7 : ∀ w ∈ wsX70, w ∈ wzX11_read := fun _ h => List.mem_cons_of_mem _ (List.mem_append_right _ (List.mem_append_right _ (List.mem_append_left _ (h))))
theorem k_X11_read_fieldLink_RX11_23_SR_code_LSR_Code : Cond.fieldLink RX11 23 "StatementRules2" "code" "LStatementRules2$Code;" ∈ wzX11_read := List.mem_cons_of_mem _ (List.mem_append_left _ (List.mem_of_getElem? (i := 7) rfl))
theorem i_X11_read_X0 : ∀ w ∈ wsX00, w ∈ wzX11_read := fun _ h => List.mem_cons_of_mem _ (List.mem_append_right _ (List.mem_append_right _ (List.mem_append_right _ (List.mem_append_left _ (h)))))
set_option maxHeartbeats 4000000 in
set_option maxRecDepth 100000 in
theorem j_X11_read_43 {p : Program} {e : Env} {s : State} {m : MethodId} {args : Array Value} {below : List Frame} {meth : Method} {c : Code} {A : Nat → Prop} (l : Launch) (dC : Nat → ClassId) (dI : Nat → Nat → Nat) (Q : CQ) (N : Nat) (d : Nat) (E1 : CS → Option (Unit × CS)) (E2 : CS → Option (Int32 × CS)) (hE1 : cMF l dC dI Q d E1) (hE2 : cMO l dC dI Q d E2) (hm1 : ∀ σ, Mono (CS.hs σ) (E1 σ)) (hm2 : ∀ σ, Mono (CS.hs σ) (E2 σ)) (z9h : Nat) (R : Int32 × CS) (hx : p.tables.exec = Jvm.exec) (hb : c.code = cX11_read) (hr : meth.sig.returnType = (some .int)) (hml : c.maxLocals = 2) (hown : s.vm.findClass RX11 = some m.cls) (hts : ∀ w ∈ wzX11_read, w.before args s = true) (hlocks : meth.locks = false) (hZ : zAMB s) (hA : ∀ q : Nat, s.heap.size ≤ q → A q) (hK : va_K (dC, dI) vwCl (cT Q) s) : ∀ (σ : CS) (H : Heap) (locs : List Loc) (ls : Array Slot), f_X11_read_43 N E1 E2 σ = some R → z9h ≤ CS.hs σ → CP dC dI Q A s.heap σ H locs → lv_has ls 2 [(0, .ref (Q.o 0))] → W p l e ({ frames := (23 + 40 * d), cells := CS.hs R.2 - z9h, slots := 17 * (CS.hs R.2 - z9h), locals := 60 * (23 + 40 * d) }) s m args below meth c H locs (CS.hs σ - z9h) (17 * (CS.hs σ - z9h)) (MQ below (va_Qi (fun (r : Int32) (_ : Unit) => r = R.1) (fun (_ : Unit) (t : State) => zPost dC dI A (cW Q R.2) (cT Q) t ∧ t.heap.size = CS.hs R.2) A) args s (CS.hs R.2 - z9h) (17 * (CS.hs R.2 - z9h)) A) (F0 m 43 ls []) := by
  intro σ  H locs ls hf h0 hC hl
  unfold f_X11_read_43 at hf
  refine lv_aload_n hx hb dX11_read_43 rfl (lv_at hl 0 rfl) ?_
  refine cG_7 (v := (σ.i 7)) hx hb hts i_X11_read_X11 hown hK hC (hts (.fieldLink RX11 94 "StatementRules2" "hasProgram" "Z") k_X11_read_fieldLink_RX11_94_SR_hasProgram_Z) (fun _ q9 => q9) dX11_read_44 rfl ?_
  refine lv_if_eq (tgt := 60) hx hb dX11_read_47 (by decide) (fun c6 => ?_) (fun c6 => ?_)
  ·
    replace hf := (if_pos c6).symm.trans hf
    refine lv_bipush (v := (-10)) hx hb dX11_read_60 (by decide) ?_
    refine lv_aload_n hx hb dX11_read_62 rfl (lv_at hl 0 rfl) ?_
    refine cG_3 hx hb hts i_X11_read_X11 hown hK hC (hts (.fieldLink RX11 37 "StatementRules2" "reader" "LStatementRules2$Statements;") k_X11_read_fieldLink_RX11_37_SR_reader_LSR_Statements) (fun _ q9 => q9) dX11_read_63 ?_
    refine cG_33 (v := (σ.i 33)) hx hb hts i_X11_read_X7 hown hK hC (hts (.fieldLink RX11 100 "StatementRules2$Statements" "faultPlace" "I") k_X11_read_fieldLink_RX11_100_SR_Statements_faultPlace_I) (fun x9 q9 => u_same (hts (.sameField "StatementRules2$Statements" "StatementRules2$Formulas" "faultPlace" "I") k_X11_read_sameField_SR_Statements_SR_Formulas_faultPlace_I) x9 q9) dX11_read_66 rfl ?_
    refine lv_isub hx hb dX11_read_69 ?_
    obtain rfl := Option.some.inj hf
    exact W.iret (v := ((-10) - (σ.i 33))) hx hb hr (fun t ht hW => ⟨⟨((-10) - (σ.i 33)), (), rfl, rfl, ⟨by rw [ht]; exact hC.1, va_K.moved hW.alike hK, hC.2.1⟩, by rw [ht]; exact hC.2.2.2⟩, hC.2.2.1.F ht⟩) hC.2.2.1.2.2 dX11_read_70
  ·
    replace hf := (if_neg c6).symm.trans hf
    refine lv_aload_n hx hb dX11_read_50 rfl (lv_at hl 0 rfl) ?_
    refine cG_2 hx hb hts i_X11_read_X11 hown hK hC (hts (.fieldLink RX11 23 "StatementRules2" "code" "LStatementRules2$Code;") k_X11_read_fieldLink_RX11_23_SR_code_LSR_Code) (fun _ q9 => q9) dX11_read_51 ?_
    refine cGN_24 (v := (σ.i 24)) hx hb hts i_X11_read_X0 hown hK hC (va_Nw.use rfl (hZ.1 (.fieldLinkNest RX11 97 "StatementRules2$Code" "statements" "I" "StatementRules2") (by decide +kernel))) (fun _ q9 => q9) dX11_read_54 rfl ?_
    refine lv_goto (tgt := 70) hx hb dX11_read_57 (by decide) ?_
    obtain rfl := Option.some.inj hf
    exact W.iret (v := (σ.i 24)) hx hb hr (fun t ht hW => ⟨⟨(σ.i 24), (), rfl, rfl, ⟨by rw [ht]; exact hC.1, va_K.moved hW.alike hK, hC.2.1⟩, by rw [ht]; exact hC.2.2.2⟩, hC.2.2.1.F ht⟩) hC.2.2.1.2.2 dX11_read_70
set_option maxHeartbeats 4000000 in
set_option maxRecDepth 100000 in
theorem c_X11_read (l : Launch) (dC : Nat → ClassId) (dI : Nat → Nat → Nat) (Q : CQ) (N : Nat) (d : Nat) (E1 : CS → Option (Unit × CS)) (E2 : CS → Option (Int32 × CS)) (hE1 : cMF l dC dI Q d E1) (hE2 : cMO l dC dI Q d E2) (hm1 : ∀ σ, Mono (CS.hs σ) (E1 σ)) (hm2 : ∀ σ, Mono (CS.hs σ) (E2 σ)) (σ : CS) (R : Int32 × CS) (hf : f_X11_read N E1 E2 σ = some R) : Met l yX11_read wzX11_read ({ frames := (23 + 40 * d), cells := CS.hs R.2 - CS.hs σ, slots := 17 * (CS.hs R.2 - CS.hs σ), locals := 60 * (23 + 40 * d) }) (va_Pc [.ref (Q.o 0)] (zPre dC dI (CS.hs σ) (cW Q σ) (cT Q))) (va_Qi (fun (r : Int32) (_ : Unit) => r = R.1) (fun (_ : Unit) (t : State) => zPost dC dI (va_A (cW Q σ) (CS.hs σ)) (cW Q R.2) (cT Q) t ∧ t.heap.size = CS.hs R.2) (va_A (cW Q σ) (CS.hs σ))) (CS.hs R.2 - CS.hs σ) (17 * (CS.hs R.2 - CS.hs σ)) (va_A (cW Q σ) (CS.hs σ)) := by
  refine Met.ofW (cc := cX11_read) (maxL := 2) (ret := (some .int)) (by decide) rfl ?_
  intro p e s m args below meth c s₁ B hml hv
  obtain ⟨rfl, hsz, hZ, hP, hK, hD0⟩ := hv
  have hx := B.exec
  have hb := B.bytes
  have hr := B.returns
  have hts := atoms_spec (ws := wzX11_read) B.pre
  have hown : s.vm.findClass RX11 = some m.cls := findClass_of_methodNamed B.named
  have hlocks := B.notSynchronized
  have hD := hD0.self (sz := CS.hs σ)
  generalize hAe : va_A (cW Q σ) (CS.hs σ) = A at hD ⊢
  have hA : ∀ q : Nat, s.heap.size ≤ q → A q := fun q h => by rw [← hAe]; exact Or.inr (hsz ▸ h)
  have hC : CP dC dI Q A s.heap σ s.heap [] := ⟨hP, hD, va_S.rf, hsz⟩
  have h0 : CS.hs σ ≤ CS.hs σ := Nat.le_refl _
  have hl := lv_entry ([.ref (Q.o 0)]) (n := 2) (Nat.le_of_ble_eq_true rfl)
  rw [lg_entry_eq]
  generalize (lg_sl ([.ref (Q.o 0)]) ++ List.replicate (2 - (lg_sl ([.ref (Q.o 0)])).length) Slot.unset).toArray = ls at hl ⊢
  have hl : lv_has ls 2 [(0, .ref (Q.o 0))] := hl
  unfold f_X11_read at hf
  refine W.widen (k := CS.hs σ - CS.hs σ) (n := 17 * (CS.hs σ - CS.hs σ)) (Nat.zero_le _) (Nat.zero_le _) ?_
  refine lv_aload_n hx hb dX11_read_0 rfl (lv_at hl 0 rfl) ?_
  refine cG_5 (v := (σ.i 5)) hx hb hts i_X11_read_X11 hown hK hC (hts (.fieldLink RX11 50 "StatementRules2" "length" "I") k_X11_read_fieldLink_RX11_50_SR_length_I) (fun _ q9 => q9) dX11_read_1 rfl ?_
  refine lv_istore_n (lv' := [(1, .int (σ.i 5)), (0, .ref (Q.o 0))]) hx hb dX11_read_4 rfl hl (by decide) rfl (fun ls hl => ?_)
  refine lv_aload_n hx hb dX11_read_5 rfl (lv_at hl 1 rfl) ?_
  refine lv_iconst (v := 0) hx hb dX11_read_6 (by decide) ?_
  refine cP_5 (v := 0) hx hb hts i_X11_read_X11 hown hK hC (hts (.fieldLink RX11 50 "StatementRules2" "length" "I") k_X11_read_fieldLink_RX11_50_SR_length_I) (fun _ q9 => q9) dX11_read_7 (fun H locs hC => ?_)
  refine lv_aload_n hx hb dX11_read_10 rfl (lv_at hl 1 rfl) ?_
  refine lv_iconst (v := 0) hx hb dX11_read_11 (by decide) ?_
  refine cP_8 (v := 0) hx hb hts i_X11_read_X11 hown hK hC (hts (.fieldLink RX11 85 "StatementRules2" "hasRun" "Z") k_X11_read_fieldLink_RX11_85_SR_hasRun_Z) (fun _ q9 => q9) dX11_read_12 (by decide) (fun H locs hC => ?_)
  refine lv_aload_n hx hb dX11_read_15 rfl (lv_at hl 1 rfl) ?_
  refine lv_aload_n hx hb dX11_read_16 rfl (lv_at hl 1 rfl) ?_
  refine cG_3 hx hb hts i_X11_read_X11 hown hK hC (hts (.fieldLink RX11 37 "StatementRules2" "reader" "LStatementRules2$Statements;") k_X11_read_fieldLink_RX11_37_SR_reader_LSR_Statements) (fun _ q9 => q9) dX11_read_17 ?_
  refine lv_iload_n hx hb dX11_read_20 rfl (lv_at hl 0 rfl) ?_
  obtain ⟨p1, hcp1, hf⟩ := hf_bind hf
  have mo2 : CS.hs σ ≤ CS.hs p1.2 := Mono.go hcp1 (m_X7_translate N E1 E2 hm1 hm2 (CS.setI (CS.setI σ 5 0) 8 0) (σ.i 5))
  have hr9 : CS.hs p1.2 ≤ CS.hs R.2 := Mono.go hf (mono_ite (m_X11_read_43 N E1 E2 hm1 hm2 (CS.setI (CS.setI p1.2 6 p1.1) 7 1)) (m_X11_read_43 N E1 E2 hm1 hm2 (CS.setI (CS.setI p1.2 6 p1.1) 7 0)))
  have hFc := cFree hC hA
  refine va_calli (va_runV (As := [.int (σ.i 5)]) (rest := [.ref (Q.o 0)]) ⟨hx, hb, hml, hown, hts⟩ (c_X7_translate l dC dI Q N d E1 E2 hE1 hE2 hm1 hm2 (CS.setI (CS.setI σ 5 0) 8 0) (σ.i 5) p1 hcp1) (cwV 1 hts hX11_read_X7_translate_v88 rfl rfl rfl (by decide +kernel) ⟨(show (22 + 40 * d) + 1 ≤ (23 + 40 * d) by omega), (show 8 + (2 + 11) + 60 * (22 + 40 * d) ≤ 60 * (23 + 40 * d) by omega)⟩) ⟨zPre.blind, va_recv hK hC.1 (ci := 6) (q0 := 3) rfl rfl, cPre_go hZ hK hC⟩ rfl rfl hl.1 rfl (lv_room (Nat.le_of_ble_eq_true rfl)) dX11_read_21 (cAcc h0 mo2 hr9)) hC.2.2.1 (fun q _ h => hFc q h) hFc (fun r3 u9 t9 H1 locs ht hvm hw hB hz1 hk1 hS => ?_)
  obtain ⟨⟨hP, hK1, hD1⟩, hsz1⟩ := hB
  rw [ht] at hP hsz1
  have hC : CP dC dI Q A s.heap p1.2 H1 locs := ⟨hP, hD1.weaken (fun _ _ _ h => hFc _ h), hS, hsz1⟩
  generalize H1 = H at hC ⊢
  have h4 : (CS.hs σ) ≤ CS.hs p1.2 := Nat.le_trans h0 mo2
  refine W.widen (k := CS.hs p1.2 - (CS.hs σ)) (n := 17 * (CS.hs p1.2 - (CS.hs σ))) (cAcc2 h0 mo2) (cAcc3 h0 mo2) ?_
  obtain rfl : r3 = p1.1 := hw
  refine cP_6 (v := p1.1) hx hb hts i_X11_read_X11 hown hK hC (hts (.fieldLink RX11 91 "StatementRules2" "latestFault" "I") k_X11_read_fieldLink_RX11_91_SR_latestFault_I) (fun _ q9 => q9) dX11_read_24 (fun H locs hC => ?_)
  refine lv_aload_n hx hb dX11_read_27 rfl (lv_at hl 1 rfl) ?_
  refine lv_aload_n hx hb dX11_read_28 rfl (lv_at hl 1 rfl) ?_
  refine cG_6 (v := p1.1) hx hb hts i_X11_read_X11 hown hK hC (hts (.fieldLink RX11 91 "StatementRules2" "latestFault" "I") k_X11_read_fieldLink_RX11_91_SR_latestFault_I) (fun _ q9 => q9) dX11_read_29 rfl ?_
  refine lv_if_ne (tgt := 39) hx hb dX11_read_32 (by decide) (fun c5 => ?_) (fun c5 => ?_)
  ·
    replace hf := (if_neg c5).symm.trans hf
    refine lv_iconst (v := 0) hx hb dX11_read_39 (by decide) ?_
    refine cP_7 (v := 0) hx hb hts i_X11_read_X11 hown hK hC (hts (.fieldLink RX11 94 "StatementRules2" "hasProgram" "Z") k_X11_read_fieldLink_RX11_94_SR_hasProgram_Z) (fun _ q9 => q9) dX11_read_40 (by decide) (fun H locs hC => ?_)
    exact j_X11_read_43 l dC dI Q N d E1 E2 hE1 hE2 hm1 hm2 (CS.hs σ) R hx hb hr hml hown hts hlocks hZ hA hK (CS.setI (CS.setI p1.2 6 p1.1) 7 0) _ _ _ hf h4 hC (lv_sub hl [1] rfl)
  ·
    replace hf := (if_pos c5).symm.trans hf
    refine lv_iconst (v := 1) hx hb dX11_read_35 (by decide) ?_
    refine lv_goto (tgt := 40) hx hb dX11_read_36 (by decide) ?_
    refine cP_7 (v := 1) hx hb hts i_X11_read_X11 hown hK hC (hts (.fieldLink RX11 94 "StatementRules2" "hasProgram" "Z") k_X11_read_fieldLink_RX11_94_SR_hasProgram_Z) (fun _ q9 => q9) dX11_read_40 (by decide) (fun H locs hC => ?_)
    exact j_X11_read_43 l dC dI Q N d E1 E2 hE1 hE2 hm1 hm2 (CS.hs σ) R hx hb hr hml hown hts hlocks hZ hA hK (CS.setI (CS.setI p1.2 6 p1.1) 7 1) _ _ _ hf h4 hC (lv_sub hl [1] rfl)
theorem k_X11_fault_fieldLink_RX11_91_SR_latestFault_I : Cond.fieldLink RX11 91 "StatementRules2" "latestFault" "I" ∈ wzX11_fault := List.mem_cons_of_mem _ (List.mem_append_left _ (List.mem_of_getElem? (i := 0) rfl))
theorem i_X11_fault_X11 : ∀ w ∈ wsX110, w ∈ wzX11_fault := fun _ h => List.mem_cons_of_mem _ (List.mem_append_right _ (List.mem_append_left _ (h)))
set_option maxHeartbeats 4000000 in
set_option maxRecDepth 100000 in
theorem c_X11_fault (l : Launch) (dC : Nat → ClassId) (dI : Nat → Nat → Nat) (Q : CQ) (N : Nat) (σ : CS) (R : Int32 × CS) (hf : f_X11_fault N σ = some R) : Met l yX11_fault wzX11_fault ({ frames := 1, cells := CS.hs R.2 - CS.hs σ, slots := 17 * (CS.hs R.2 - CS.hs σ), locals := 60 * 1 }) (va_Pc [.ref (Q.o 0)] (zPre dC dI (CS.hs σ) (cW Q σ) (cT Q))) (va_Qi (fun (r : Int32) (_ : Unit) => r = R.1) (fun (_ : Unit) (t : State) => zPost dC dI (va_A (cW Q σ) (CS.hs σ)) (cW Q R.2) (cT Q) t ∧ t.heap.size = CS.hs R.2) (va_A (cW Q σ) (CS.hs σ))) (CS.hs R.2 - CS.hs σ) (17 * (CS.hs R.2 - CS.hs σ)) (va_A (cW Q σ) (CS.hs σ)) := by
  refine Met.ofW (cc := cX11_fault) (maxL := 1) (ret := (some .int)) (by decide) rfl ?_
  intro p e s m args below meth c s₁ B hml hv
  obtain ⟨rfl, hsz, hZ, hP, hK, hD0⟩ := hv
  have hx := B.exec
  have hb := B.bytes
  have hr := B.returns
  have hts := atoms_spec (ws := wzX11_fault) B.pre
  have hown : s.vm.findClass RX11 = some m.cls := findClass_of_methodNamed B.named
  have hlocks := B.notSynchronized
  have hD := hD0.self (sz := CS.hs σ)
  generalize hAe : va_A (cW Q σ) (CS.hs σ) = A at hD ⊢
  have hA : ∀ q : Nat, s.heap.size ≤ q → A q := fun q h => by rw [← hAe]; exact Or.inr (hsz ▸ h)
  have hC : CP dC dI Q A s.heap σ s.heap [] := ⟨hP, hD, va_S.rf, hsz⟩
  have h0 : CS.hs σ ≤ CS.hs σ := Nat.le_refl _
  have hl := lv_entry ([.ref (Q.o 0)]) (n := 1) (Nat.le_of_ble_eq_true rfl)
  rw [lg_entry_eq]
  generalize (lg_sl ([.ref (Q.o 0)]) ++ List.replicate (1 - (lg_sl ([.ref (Q.o 0)])).length) Slot.unset).toArray = ls at hl ⊢
  have hl : lv_has ls 1 [(0, .ref (Q.o 0))] := hl
  unfold f_X11_fault at hf
  refine W.widen (k := CS.hs σ - CS.hs σ) (n := 17 * (CS.hs σ - CS.hs σ)) (Nat.zero_le _) (Nat.zero_le _) ?_
  refine lv_aload_n hx hb dX11_fault_0 rfl (lv_at hl 0 rfl) ?_
  refine cG_6 (v := (σ.i 6)) hx hb hts i_X11_fault_X11 hown hK hC (hts (.fieldLink RX11 91 "StatementRules2" "latestFault" "I") k_X11_fault_fieldLink_RX11_91_SR_latestFault_I) (fun _ q9 => q9) dX11_fault_1 rfl ?_
  obtain rfl := Option.some.inj hf
  exact W.iret (v := (σ.i 6)) hx hb hr (fun t ht hW => ⟨⟨(σ.i 6), (), rfl, rfl, ⟨by rw [ht]; exact hC.1, va_K.moved hW.alike hK, hC.2.1⟩, by rw [ht]; exact hC.2.2.2⟩, hC.2.2.1.F ht⟩) hC.2.2.1.2.2 dX11_fault_4
theorem k_X11_program_fieldLink_RX11_94_SR_hasProgram_Z : Cond.fieldLink RX11 94 "StatementRules2" "hasProgram" "Z" ∈ wzX11_program := List.mem_cons_of_mem _ (List.mem_append_left _ (List.mem_of_getElem? (i := 0) rfl))
theorem i_X11_program_X11 : ∀ w ∈ wsX110, w ∈ wzX11_program := fun _ h => List.mem_cons_of_mem _ (List.mem_append_right _ (List.mem_append_left _ (h)))
theorem k_X11_program_fieldLink_RX11_23_SR_code_LSR_Code : Cond.fieldLink RX11 23 "StatementRules2" "code" "LStatementRules2$Code;" ∈ wzX11_program := List.mem_cons_of_mem _ (List.mem_append_left _ (List.mem_of_getElem? (i := 1) rfl))
theorem i_X11_program_X0 : ∀ w ∈ wsX00, w ∈ wzX11_program := fun _ h => List.mem_cons_of_mem _ (List.mem_append_right _ (List.mem_append_right _ (List.mem_append_left _ (h))))
set_option maxHeartbeats 4000000 in
set_option maxRecDepth 100000 in
theorem j_X11_program_9 {p : Program} {e : Env} {s : State} {m : MethodId} {args : Array Value} {below : List Frame} {meth : Method} {c : Code} {A : Nat → Prop} (l : Launch) (dC : Nat → ClassId) (dI : Nat → Nat → Nat) (Q : CQ) (N : Nat) (z9h : Nat) (R : Int32 × CS) (hx : p.tables.exec = Jvm.exec) (hb : c.code = cX11_program) (hr : meth.sig.returnType = (some .int)) (hml : c.maxLocals = 2) (hown : s.vm.findClass RX11 = some m.cls) (hts : ∀ w ∈ wzX11_program, w.before args s = true) (hlocks : meth.locks = false) (hZ : zAMB s) (hA : ∀ q : Nat, s.heap.size ≤ q → A q) (hK : va_K (dC, dI) vwCl (cT Q) s) : ∀ (σ : CS) (H : Heap) (locs : List Loc) (ls : Array Slot), f_X11_program_9 N σ = some R → z9h ≤ CS.hs σ → CP dC dI Q A s.heap σ H locs → lv_has ls 2 [] → W p l e ({ frames := 1, cells := CS.hs R.2 - z9h, slots := 17 * (CS.hs R.2 - z9h), locals := 60 * 1 }) s m args below meth c H locs (CS.hs σ - z9h) (17 * (CS.hs σ - z9h)) (MQ below (va_Qi (fun (r : Int32) (_ : Unit) => r = R.1) (fun (_ : Unit) (t : State) => zPost dC dI A (cW Q R.2) (cT Q) t ∧ t.heap.size = CS.hs R.2) A) args s (CS.hs R.2 - z9h) (17 * (CS.hs R.2 - z9h)) A) (F0 m 9 ls []) := by
  intro σ  H locs ls hf h0 hC hl
  unfold f_X11_program_9 at hf
  refine lv_iconst (v := (-1)) hx hb dX11_program_9 (by decide) ?_
  obtain rfl := Option.some.inj hf
  exact W.iret (v := (-1)) hx hb hr (fun t ht hW => ⟨⟨(-1), (), rfl, rfl, ⟨by rw [ht]; exact hC.1, va_K.moved hW.alike hK, hC.2.1⟩, by rw [ht]; exact hC.2.2.2⟩, hC.2.2.1.F ht⟩) hC.2.2.1.2.2 dX11_program_10
set_option maxHeartbeats 4000000 in
set_option maxRecDepth 100000 in
theorem c_X11_program (l : Launch) (dC : Nat → ClassId) (dI : Nat → Nat → Nat) (Q : CQ) (N : Nat) (σ : CS) (x1 : Int32) (R : Int32 × CS) (hf : f_X11_program N σ x1 = some R) : Met l yX11_program wzX11_program ({ frames := 1, cells := CS.hs R.2 - CS.hs σ, slots := 17 * (CS.hs R.2 - CS.hs σ), locals := 60 * 1 }) (va_Pc [.ref (Q.o 0), .int x1] (zPre dC dI (CS.hs σ) (cW Q σ) (cT Q))) (va_Qi (fun (r : Int32) (_ : Unit) => r = R.1) (fun (_ : Unit) (t : State) => zPost dC dI (va_A (cW Q σ) (CS.hs σ)) (cW Q R.2) (cT Q) t ∧ t.heap.size = CS.hs R.2) (va_A (cW Q σ) (CS.hs σ))) (CS.hs R.2 - CS.hs σ) (17 * (CS.hs R.2 - CS.hs σ)) (va_A (cW Q σ) (CS.hs σ)) := by
  refine Met.ofW (cc := cX11_program) (maxL := 2) (ret := (some .int)) (by decide) rfl ?_
  intro p e s m args below meth c s₁ B hml hv
  obtain ⟨rfl, hsz, hZ, hP, hK, hD0⟩ := hv
  have hx := B.exec
  have hb := B.bytes
  have hr := B.returns
  have hts := atoms_spec (ws := wzX11_program) B.pre
  have hown : s.vm.findClass RX11 = some m.cls := findClass_of_methodNamed B.named
  have hlocks := B.notSynchronized
  have hD := hD0.self (sz := CS.hs σ)
  generalize hAe : va_A (cW Q σ) (CS.hs σ) = A at hD ⊢
  have hA : ∀ q : Nat, s.heap.size ≤ q → A q := fun q h => by rw [← hAe]; exact Or.inr (hsz ▸ h)
  have hC : CP dC dI Q A s.heap σ s.heap [] := ⟨hP, hD, va_S.rf, hsz⟩
  have h0 : CS.hs σ ≤ CS.hs σ := Nat.le_refl _
  have hl := lv_entry ([.ref (Q.o 0), .int x1]) (n := 2) (Nat.le_of_ble_eq_true rfl)
  rw [lg_entry_eq]
  generalize (lg_sl ([.ref (Q.o 0), .int x1]) ++ List.replicate (2 - (lg_sl ([.ref (Q.o 0), .int x1])).length) Slot.unset).toArray = ls at hl ⊢
  have hl : lv_has ls 2 [(0, .ref (Q.o 0)), (1, .int x1)] := hl
  unfold f_X11_program at hf
  refine W.widen (k := CS.hs σ - CS.hs σ) (n := 17 * (CS.hs σ - CS.hs σ)) (Nat.zero_le _) (Nat.zero_le _) ?_
  refine lv_iload_n hx hb dX11_program_0 rfl (lv_at hl 1 rfl) ?_
  refine lv_if_lt (tgt := 9) hx hb dX11_program_1 (by decide) (fun c1 => ?_) (fun c1 => ?_)
  ·
    replace hf := (if_pos c1).symm.trans hf
    exact j_X11_program_9 l dC dI Q N (CS.hs σ) R hx hb hr hml hown hts hlocks hZ hA hK σ _ _ _ hf h0 hC (lv_sub hl [] rfl)
  ·
    replace hf := (if_neg c1).symm.trans hf
    refine lv_iload_n hx hb dX11_program_4 rfl (lv_at hl 1 rfl) ?_
    refine lv_iconst (v := 3) hx hb dX11_program_5 (by decide) ?_
    refine lv_icmp_le (tgt := 11) hx hb dX11_program_6 (by decide) (fun c2 => ?_) (fun c2 => ?_)
    ·
      replace hf := (if_pos c2).symm.trans hf
      refine lv_aload_n hx hb dX11_program_11 rfl (lv_at hl 0 rfl) ?_
      refine cG_7 (v := (σ.i 7)) hx hb hts i_X11_program_X11 hown hK hC (hts (.fieldLink RX11 94 "StatementRules2" "hasProgram" "Z") k_X11_program_fieldLink_RX11_94_SR_hasProgram_Z) (fun _ q9 => q9) dX11_program_12 rfl ?_
      refine lv_if_ne (tgt := 21) hx hb dX11_program_15 (by decide) (fun c3 => ?_) (fun c3 => ?_)
      ·
        replace hf := (if_neg c3).symm.trans hf
        refine lv_iload_n hx hb dX11_program_21 rfl (lv_at hl 1 rfl) ?_
        by_cases c4 : x1 = 0
        ·
          replace hf := (if_pos c4).symm.trans hf
          refine lv_tableIn (off := 26) (tgt := 48) hx hb dX11_program_22 (by rw [c4]; decide) (by rw [c4]; decide) (by rw [c4]; decide) (by decide) ?_
          refine lv_aload_n hx hb dX11_program_48 rfl (lv_at hl 0 rfl) ?_
          refine cG_2 hx hb hts i_X11_program_X11 hown hK hC (hts (.fieldLink RX11 23 "StatementRules2" "code" "LStatementRules2$Code;") k_X11_program_fieldLink_RX11_23_SR_code_LSR_Code) (fun _ q9 => q9) dX11_program_49 ?_
          refine cGN_24 (v := (σ.i 24)) hx hb hts i_X11_program_X0 hown hK hC (va_Nw.use rfl (hZ.1 (.fieldLinkNest RX11 97 "StatementRules2$Code" "statements" "I" "StatementRules2") (by decide +kernel))) (fun _ q9 => q9) dX11_program_52 rfl ?_
          obtain rfl := Option.some.inj hf
          exact W.iret (v := (σ.i 24)) hx hb hr (fun t ht hW => ⟨⟨(σ.i 24), (), rfl, rfl, ⟨by rw [ht]; exact hC.1, va_K.moved hW.alike hK, hC.2.1⟩, by rw [ht]; exact hC.2.2.2⟩, hC.2.2.1.F ht⟩) hC.2.2.1.2.2 dX11_program_55
        replace hf := (if_neg c4).symm.trans hf
        by_cases c5 : x1 = 1
        ·
          replace hf := (if_pos c5).symm.trans hf
          refine lv_tableIn (off := 34) (tgt := 56) hx hb dX11_program_22 (by rw [c5]; decide) (by rw [c5]; decide) (by rw [c5]; decide) (by decide) ?_
          refine lv_aload_n hx hb dX11_program_56 rfl (lv_at hl 0 rfl) ?_
          refine cG_2 hx hb hts i_X11_program_X11 hown hK hC (hts (.fieldLink RX11 23 "StatementRules2" "code" "LStatementRules2$Code;") k_X11_program_fieldLink_RX11_23_SR_code_LSR_Code) (fun _ q9 => q9) dX11_program_57 ?_
          refine cGN_27 (v := (σ.i 27)) hx hb hts i_X11_program_X0 hown hK hC (va_Nw.use rfl (hZ.1 (.fieldLinkNest RX11 103 "StatementRules2$Code" "endReached" "Z" "StatementRules2") (by decide +kernel))) (fun _ q9 => q9) dX11_program_60 rfl ?_
          refine lv_if_eq (tgt := 70) hx hb dX11_program_63 (by decide) (fun c6 => ?_) (fun c6 => ?_)
          ·
            replace hf := (if_pos c6).symm.trans hf
            refine lv_iconst (v := 0) hx hb dX11_program_70 (by decide) ?_
            obtain rfl := Option.some.inj hf
            exact W.iret (v := 0) hx hb hr (fun t ht hW => ⟨⟨0, (), rfl, rfl, ⟨by rw [ht]; exact hC.1, va_K.moved hW.alike hK, hC.2.1⟩, by rw [ht]; exact hC.2.2.2⟩, hC.2.2.1.F ht⟩) hC.2.2.1.2.2 dX11_program_71
          ·
            replace hf := (if_neg c6).symm.trans hf
            refine lv_iconst (v := 1) hx hb dX11_program_66 (by decide) ?_
            refine lv_goto (tgt := 71) hx hb dX11_program_67 (by decide) ?_
            obtain rfl := Option.some.inj hf
            exact W.iret (v := 1) hx hb hr (fun t ht hW => ⟨⟨1, (), rfl, rfl, ⟨by rw [ht]; exact hC.1, va_K.moved hW.alike hK, hC.2.1⟩, by rw [ht]; exact hC.2.2.2⟩, hC.2.2.1.F ht⟩) hC.2.2.1.2.2 dX11_program_71
        replace hf := (if_neg c5).symm.trans hf
        by_cases c7 : x1 = 2
        ·
          replace hf := (if_pos c7).symm.trans hf
          refine lv_tableIn (off := 50) (tgt := 72) hx hb dX11_program_22 (by rw [c7]; decide) (by rw [c7]; decide) (by rw [c7]; decide) (by decide) ?_
          refine lv_aload_n hx hb dX11_program_72 rfl (lv_at hl 0 rfl) ?_
          refine cG_2 hx hb hts i_X11_program_X11 hown hK hC (hts (.fieldLink RX11 23 "StatementRules2" "code" "LStatementRules2$Code;") k_X11_program_fieldLink_RX11_23_SR_code_LSR_Code) (fun _ q9 => q9) dX11_program_73 ?_
          refine cGN_25 (v := (σ.i 25)) hx hb hts i_X11_program_X0 hown hK hC (va_Nw.use rfl (hZ.1 (.fieldLinkNest RX11 106 "StatementRules2$Code" "toldNames" "I" "StatementRules2") (by decide +kernel))) (fun _ q9 => q9) dX11_program_76 rfl ?_
          obtain rfl := Option.some.inj hf
          exact W.iret (v := (σ.i 25)) hx hb hr (fun t ht hW => ⟨⟨(σ.i 25), (), rfl, rfl, ⟨by rw [ht]; exact hC.1, va_K.moved hW.alike hK, hC.2.1⟩, by rw [ht]; exact hC.2.2.2⟩, hC.2.2.1.F ht⟩) hC.2.2.1.2.2 dX11_program_79
        replace hf := (if_neg c7).symm.trans hf
        refine lv_tableOut (tgt := 80) hx hb dX11_program_22 (by have := z_ton (a := 0) c4 (by decide); have := z_ton (a := 1) c5 (by decide); have := z_ton (a := 2) c7 (by decide); omega) (by decide) ?_
        refine lv_aload_n hx hb dX11_program_80 rfl (lv_at hl 0 rfl) ?_
        refine cG_2 hx hb hts i_X11_program_X11 hown hK hC (hts (.fieldLink RX11 23 "StatementRules2" "code" "LStatementRules2$Code;") k_X11_program_fieldLink_RX11_23_SR_code_LSR_Code) (fun _ q9 => q9) dX11_program_81 ?_
        refine cGN_26 (v := (σ.i 26)) hx hb hts i_X11_program_X0 hown hK hC (va_Nw.use rfl (hZ.1 (.fieldLinkNest RX11 109 "StatementRules2$Code" "jumps" "I" "StatementRules2") (by decide +kernel))) (fun _ q9 => q9) dX11_program_84 rfl ?_
        obtain rfl := Option.some.inj hf
        exact W.iret (v := (σ.i 26)) hx hb hr (fun t ht hW => ⟨⟨(σ.i 26), (), rfl, rfl, ⟨by rw [ht]; exact hC.1, va_K.moved hW.alike hK, hC.2.1⟩, by rw [ht]; exact hC.2.2.2⟩, hC.2.2.1.F ht⟩) hC.2.2.1.2.2 dX11_program_87
      ·
        replace hf := (if_pos c3).symm.trans hf
        refine lv_bipush (v := (-3)) hx hb dX11_program_18 (by decide) ?_
        obtain rfl := Option.some.inj hf
        exact W.iret (v := (-3)) hx hb hr (fun t ht hW => ⟨⟨(-3), (), rfl, rfl, ⟨by rw [ht]; exact hC.1, va_K.moved hW.alike hK, hC.2.1⟩, by rw [ht]; exact hC.2.2.2⟩, hC.2.2.1.F ht⟩) hC.2.2.1.2.2 dX11_program_20
    ·
      replace hf := (if_neg c2).symm.trans hf
      exact j_X11_program_9 l dC dI Q N (CS.hs σ) R hx hb hr hml hown hts hlocks hZ hA hK σ _ _ _ hf h0 hC (lv_sub hl [] rfl)
theorem k_X11_run_fieldLink_RX11_94_SR_hasProgram_Z : Cond.fieldLink RX11 94 "StatementRules2" "hasProgram" "Z" ∈ wzX11_run := List.mem_cons_of_mem _ (List.mem_append_left _ (List.mem_of_getElem? (i := 0) rfl))
theorem i_X11_run_X11 : ∀ w ∈ wsX110, w ∈ wzX11_run := fun _ h => List.mem_cons_of_mem _ (List.mem_append_right _ (List.mem_append_left _ (h)))
theorem k_X11_run_fieldLink_RX11_85_SR_hasRun_Z : Cond.fieldLink RX11 85 "StatementRules2" "hasRun" "Z" ∈ wzX11_run := List.mem_cons_of_mem _ (List.mem_append_left _ (List.mem_of_getElem? (i := 1) rfl))
theorem k_X11_run_fieldLink_RX11_46_SR_machine_LSR_Machine : Cond.fieldLink RX11 46 "StatementRules2" "machine" "LStatementRules2$Machine;" ∈ wzX11_run := List.mem_cons_of_mem _ (List.mem_append_left _ (List.mem_of_getElem? (i := 2) rfl))
set_option maxHeartbeats 4000000 in
set_option maxRecDepth 100000 in
theorem c_X11_run (l : Launch) (dC : Nat → ClassId) (dI : Nat → Nat → Nat) (Q : CQ) (N : Nat) (σ : CS) (x1 : Int32) (x2 : Int32) (R : Int32 × CS) (hf : f_X11_run N σ x1 x2 = some R) : Met l yX11_run wzX11_run ({ frames := 8, cells := CS.hs R.2 - CS.hs σ, slots := 17 * (CS.hs R.2 - CS.hs σ), locals := 60 * 8 }) (va_Pc [.ref (Q.o 0), .int x1, .int x2] (zPre dC dI (CS.hs σ) (cW Q σ) (cT Q))) (va_Qi (fun (r : Int32) (_ : Unit) => r = R.1) (fun (_ : Unit) (t : State) => zPost dC dI (va_A (cW Q σ) (CS.hs σ)) (cW Q R.2) (cT Q) t ∧ t.heap.size = CS.hs R.2) (va_A (cW Q σ) (CS.hs σ))) (CS.hs R.2 - CS.hs σ) (17 * (CS.hs R.2 - CS.hs σ)) (va_A (cW Q σ) (CS.hs σ)) := by
  refine Met.ofW (cc := cX11_run) (maxL := 3) (ret := (some .int)) (by decide) rfl ?_
  intro p e s m args below meth c s₁ B hml hv
  obtain ⟨rfl, hsz, hZ, hP, hK, hD0⟩ := hv
  have hx := B.exec
  have hb := B.bytes
  have hr := B.returns
  have hts := atoms_spec (ws := wzX11_run) B.pre
  have hown : s.vm.findClass RX11 = some m.cls := findClass_of_methodNamed B.named
  have hlocks := B.notSynchronized
  have hD := hD0.self (sz := CS.hs σ)
  generalize hAe : va_A (cW Q σ) (CS.hs σ) = A at hD ⊢
  have hA : ∀ q : Nat, s.heap.size ≤ q → A q := fun q h => by rw [← hAe]; exact Or.inr (hsz ▸ h)
  have hC : CP dC dI Q A s.heap σ s.heap [] := ⟨hP, hD, va_S.rf, hsz⟩
  have h0 : CS.hs σ ≤ CS.hs σ := Nat.le_refl _
  have hl := lv_entry ([.ref (Q.o 0), .int x1, .int x2]) (n := 3) (Nat.le_of_ble_eq_true rfl)
  rw [lg_entry_eq]
  generalize (lg_sl ([.ref (Q.o 0), .int x1, .int x2]) ++ List.replicate (3 - (lg_sl ([.ref (Q.o 0), .int x1, .int x2])).length) Slot.unset).toArray = ls at hl ⊢
  have hl : lv_has ls 3 [(0, .ref (Q.o 0)), (1, .int x1), (2, .int x2)] := hl
  unfold f_X11_run at hf
  refine W.widen (k := CS.hs σ - CS.hs σ) (n := 17 * (CS.hs σ - CS.hs σ)) (Nat.zero_le _) (Nat.zero_le _) ?_
  refine lv_aload_n hx hb dX11_run_0 rfl (lv_at hl 0 rfl) ?_
  refine cG_7 (v := (σ.i 7)) hx hb hts i_X11_run_X11 hown hK hC (hts (.fieldLink RX11 94 "StatementRules2" "hasProgram" "Z") k_X11_run_fieldLink_RX11_94_SR_hasProgram_Z) (fun _ q9 => q9) dX11_run_1 rfl ?_
  refine lv_if_ne (tgt := 10) hx hb dX11_run_4 (by decide) (fun c1 => ?_) (fun c1 => ?_)
  ·
    replace hf := (if_neg c1).symm.trans hf
    refine lv_aload_n hx hb dX11_run_10 rfl (lv_at hl 0 rfl) ?_
    refine lv_iconst (v := 1) hx hb dX11_run_11 (by decide) ?_
    refine cP_8 (v := 1) hx hb hts i_X11_run_X11 hown hK hC (hts (.fieldLink RX11 85 "StatementRules2" "hasRun" "Z") k_X11_run_fieldLink_RX11_85_SR_hasRun_Z) (fun _ q9 => q9) dX11_run_12 (by decide) (fun H locs hC => ?_)
    refine lv_aload_n hx hb dX11_run_15 rfl (lv_at hl 0 rfl) ?_
    refine cG_4 hx hb hts i_X11_run_X11 hown hK hC (hts (.fieldLink RX11 46 "StatementRules2" "machine" "LStatementRules2$Machine;") k_X11_run_fieldLink_RX11_46_SR_machine_LSR_Machine) (fun _ q9 => q9) dX11_run_16 ?_
    refine lv_iload_n hx hb dX11_run_19 rfl (lv_at hl 1 rfl) ?_
    refine lv_iload_n hx hb dX11_run_20 rfl (lv_at hl 2 rfl) ?_
    obtain ⟨p2, hcp2, hf⟩ := hf_bind hf
    have mo3 : CS.hs σ ≤ CS.hs p2.2 := Mono.go hcp2 (m_X3_perform N (CS.setI σ 8 1) x1 x2)
    have hr9 : CS.hs p2.2 ≤ CS.hs R.2 := Mono.go hf (mono_some (Nat.le_refl _))
    have hFc := cFree hC hA
    refine va_calli (va_runV (As := [.int x1, .int x2]) (rest := []) ⟨hx, hb, hml, hown, hts⟩ (c_X3_perform l dC dI Q N (CS.setI σ 8 1) x1 x2 p2 hcp2) (cwV 2 hts hX11_run_X3_perform_v112 rfl rfl rfl (by decide +kernel) ⟨(show 7 + 1 ≤ 8 by omega), (show 8 + (4 + 11) + 60 * 7 ≤ 60 * 8 by omega)⟩) ⟨zPre.blind, va_recv hK hC.1 (ci := 2) (q0 := 7) rfl rfl, cPre_go hZ hK hC⟩ rfl rfl hl.1 rfl (lv_room (Nat.le_of_ble_eq_true rfl)) dX11_run_21 (cAcc h0 mo3 hr9)) hC.2.2.1 (fun q _ h => hFc q h) hFc (fun r4 u9 t9 H1 locs ht hvm hw hB hz1 hk1 hS => ?_)
    obtain ⟨⟨hP, hK1, hD1⟩, hsz1⟩ := hB
    rw [ht] at hP hsz1
    have hC : CP dC dI Q A s.heap p2.2 H1 locs := ⟨hP, hD1.weaken (fun _ _ _ h => hFc _ h), hS, hsz1⟩
    generalize H1 = H at hC ⊢
    have h5 : (CS.hs σ) ≤ CS.hs p2.2 := Nat.le_trans h0 mo3
    refine W.widen (k := CS.hs p2.2 - (CS.hs σ)) (n := 17 * (CS.hs p2.2 - (CS.hs σ))) (cAcc2 h0 mo3) (cAcc3 h0 mo3) ?_
    obtain rfl : r4 = p2.1 := hw
    obtain rfl := Option.some.inj hf
    exact W.iret (v := p2.1) hx hb hr (fun t ht hW => ⟨⟨p2.1, (), rfl, rfl, ⟨by rw [ht]; exact hC.1, va_K.moved hW.alike hK, hC.2.1⟩, by rw [ht]; exact hC.2.2.2⟩, hC.2.2.1.F ht⟩) hC.2.2.1.2.2 dX11_run_24
  ·
    replace hf := (if_pos c1).symm.trans hf
    refine lv_bipush (v := (-3)) hx hb dX11_run_7 (by decide) ?_
    obtain rfl := Option.some.inj hf
    exact W.iret (v := (-3)) hx hb hr (fun t ht hW => ⟨⟨(-3), (), rfl, rfl, ⟨by rw [ht]; exact hC.1, va_K.moved hW.alike hK, hC.2.1⟩, by rw [ht]; exact hC.2.2.2⟩, hC.2.2.1.F ht⟩) hC.2.2.1.2.2 dX11_run_9
theorem k_X11_ran_fieldLink_RX11_85_SR_hasRun_Z : Cond.fieldLink RX11 85 "StatementRules2" "hasRun" "Z" ∈ wzX11_ran := List.mem_cons_of_mem _ (List.mem_append_left _ (List.mem_of_getElem? (i := 0) rfl))
theorem i_X11_ran_X11 : ∀ w ∈ wsX110, w ∈ wzX11_ran := fun _ h => List.mem_cons_of_mem _ (List.mem_append_right _ (List.mem_append_left _ (h)))
theorem k_X11_ran_fieldLink_RX11_46_SR_machine_LSR_Machine : Cond.fieldLink RX11 46 "StatementRules2" "machine" "LStatementRules2$Machine;" ∈ wzX11_ran := List.mem_cons_of_mem _ (List.mem_append_left _ (List.mem_of_getElem? (i := 1) rfl))
set_option maxHeartbeats 4000000 in
set_option maxRecDepth 100000 in
theorem j_X11_ran_10 {p : Program} {e : Env} {s : State} {m : MethodId} {args : Array Value} {below : List Frame} {meth : Method} {c : Code} {A : Nat → Prop} (l : Launch) (dC : Nat → ClassId) (dI : Nat → Nat → Nat) (Q : CQ) (N : Nat) (z9h : Nat) (R : Int32 × CS) (hx : p.tables.exec = Jvm.exec) (hb : c.code = cX11_ran) (hr : meth.sig.returnType = (some .int)) (hml : c.maxLocals = 2) (hown : s.vm.findClass RX11 = some m.cls) (hts : ∀ w ∈ wzX11_ran, w.before args s = true) (hlocks : meth.locks = false) (hZ : zAMB s) (hA : ∀ q : Nat, s.heap.size ≤ q → A q) (hK : va_K (dC, dI) vwCl (cT Q) s) : ∀ (σ : CS) (H : Heap) (locs : List Loc) (ls : Array Slot), f_X11_ran_10 N σ = some R → z9h ≤ CS.hs σ → CP dC dI Q A s.heap σ H locs → lv_has ls 2 [] → W p l e ({ frames := 3, cells := CS.hs R.2 - z9h, slots := 17 * (CS.hs R.2 - z9h), locals := 60 * 3 }) s m args below meth c H locs (CS.hs σ - z9h) (17 * (CS.hs σ - z9h)) (MQ below (va_Qi (fun (r : Int32) (_ : Unit) => r = R.1) (fun (_ : Unit) (t : State) => zPost dC dI A (cW Q R.2) (cT Q) t ∧ t.heap.size = CS.hs R.2) A) args s (CS.hs R.2 - z9h) (17 * (CS.hs R.2 - z9h)) A) (F0 m 10 ls []) := by
  intro σ  H locs ls hf h0 hC hl
  unfold f_X11_ran_10 at hf
  refine lv_iconst (v := (-1)) hx hb dX11_ran_10 (by decide) ?_
  obtain rfl := Option.some.inj hf
  exact W.iret (v := (-1)) hx hb hr (fun t ht hW => ⟨⟨(-1), (), rfl, rfl, ⟨by rw [ht]; exact hC.1, va_K.moved hW.alike hK, hC.2.1⟩, by rw [ht]; exact hC.2.2.2⟩, hC.2.2.1.F ht⟩) hC.2.2.1.2.2 dX11_ran_11
set_option maxHeartbeats 4000000 in
set_option maxRecDepth 100000 in
theorem c_X11_ran (l : Launch) (dC : Nat → ClassId) (dI : Nat → Nat → Nat) (Q : CQ) (N : Nat) (σ : CS) (x1 : Int32) (R : Int32 × CS) (hf : f_X11_ran N σ x1 = some R) : Met l yX11_ran wzX11_ran ({ frames := 3, cells := CS.hs R.2 - CS.hs σ, slots := 17 * (CS.hs R.2 - CS.hs σ), locals := 60 * 3 }) (va_Pc [.ref (Q.o 0), .int x1] (zPre dC dI (CS.hs σ) (cW Q σ) (cT Q))) (va_Qi (fun (r : Int32) (_ : Unit) => r = R.1) (fun (_ : Unit) (t : State) => zPost dC dI (va_A (cW Q σ) (CS.hs σ)) (cW Q R.2) (cT Q) t ∧ t.heap.size = CS.hs R.2) (va_A (cW Q σ) (CS.hs σ))) (CS.hs R.2 - CS.hs σ) (17 * (CS.hs R.2 - CS.hs σ)) (va_A (cW Q σ) (CS.hs σ)) := by
  refine Met.ofW (cc := cX11_ran) (maxL := 2) (ret := (some .int)) (by decide) rfl ?_
  intro p e s m args below meth c s₁ B hml hv
  obtain ⟨rfl, hsz, hZ, hP, hK, hD0⟩ := hv
  have hx := B.exec
  have hb := B.bytes
  have hr := B.returns
  have hts := atoms_spec (ws := wzX11_ran) B.pre
  have hown : s.vm.findClass RX11 = some m.cls := findClass_of_methodNamed B.named
  have hlocks := B.notSynchronized
  have hD := hD0.self (sz := CS.hs σ)
  generalize hAe : va_A (cW Q σ) (CS.hs σ) = A at hD ⊢
  have hA : ∀ q : Nat, s.heap.size ≤ q → A q := fun q h => by rw [← hAe]; exact Or.inr (hsz ▸ h)
  have hC : CP dC dI Q A s.heap σ s.heap [] := ⟨hP, hD, va_S.rf, hsz⟩
  have h0 : CS.hs σ ≤ CS.hs σ := Nat.le_refl _
  have hl := lv_entry ([.ref (Q.o 0), .int x1]) (n := 2) (Nat.le_of_ble_eq_true rfl)
  rw [lg_entry_eq]
  generalize (lg_sl ([.ref (Q.o 0), .int x1]) ++ List.replicate (2 - (lg_sl ([.ref (Q.o 0), .int x1])).length) Slot.unset).toArray = ls at hl ⊢
  have hl : lv_has ls 2 [(0, .ref (Q.o 0)), (1, .int x1)] := hl
  unfold f_X11_ran at hf
  refine W.widen (k := CS.hs σ - CS.hs σ) (n := 17 * (CS.hs σ - CS.hs σ)) (Nat.zero_le _) (Nat.zero_le _) ?_
  refine lv_iload_n hx hb dX11_ran_0 rfl (lv_at hl 1 rfl) ?_
  refine lv_if_lt (tgt := 10) hx hb dX11_ran_1 (by decide) (fun c1 => ?_) (fun c1 => ?_)
  ·
    replace hf := (if_pos c1).symm.trans hf
    exact j_X11_ran_10 l dC dI Q N (CS.hs σ) R hx hb hr hml hown hts hlocks hZ hA hK σ _ _ _ hf h0 hC (lv_sub hl [] rfl)
  ·
    replace hf := (if_neg c1).symm.trans hf
    refine lv_iload_n hx hb dX11_ran_4 rfl (lv_at hl 1 rfl) ?_
    refine lv_bipush (v := 6) hx hb dX11_ran_5 (by decide) ?_
    refine lv_icmp_le (tgt := 12) hx hb dX11_ran_7 (by decide) (fun c2 => ?_) (fun c2 => ?_)
    ·
      replace hf := (if_pos c2).symm.trans hf
      refine lv_aload_n hx hb dX11_ran_12 rfl (lv_at hl 0 rfl) ?_
      refine cG_8 (v := (σ.i 8)) hx hb hts i_X11_ran_X11 hown hK hC (hts (.fieldLink RX11 85 "StatementRules2" "hasRun" "Z") k_X11_ran_fieldLink_RX11_85_SR_hasRun_Z) (fun _ q9 => q9) dX11_ran_13 rfl ?_
      refine lv_if_eq (tgt := 30) hx hb dX11_ran_16 (by decide) (fun c3 => ?_) (fun c3 => ?_)
      ·
        replace hf := (if_pos c3).symm.trans hf
        refine lv_bipush (v := (-3)) hx hb dX11_ran_30 (by decide) ?_
        obtain rfl := Option.some.inj hf
        exact W.iret (v := (-3)) hx hb hr (fun t ht hW => ⟨⟨(-3), (), rfl, rfl, ⟨by rw [ht]; exact hC.1, va_K.moved hW.alike hK, hC.2.1⟩, by rw [ht]; exact hC.2.2.2⟩, hC.2.2.1.F ht⟩) hC.2.2.1.2.2 dX11_ran_32
      ·
        replace hf := (if_neg c3).symm.trans hf
        refine lv_aload_n hx hb dX11_ran_19 rfl (lv_at hl 0 rfl) ?_
        refine cG_4 hx hb hts i_X11_ran_X11 hown hK hC (hts (.fieldLink RX11 46 "StatementRules2" "machine" "LStatementRules2$Machine;") k_X11_ran_fieldLink_RX11_46_SR_machine_LSR_Machine) (fun _ q9 => q9) dX11_ran_20 ?_
        refine lv_iload_n hx hb dX11_ran_23 rfl (lv_at hl 1 rfl) ?_
        obtain ⟨p4, hcp4, hf⟩ := hf_bind hf
        have mo5 : CS.hs σ ≤ CS.hs p4.2 := Mono.go hcp4 (m_X3_answer N σ x1)
        have hr9 : CS.hs p4.2 ≤ CS.hs R.2 := Mono.go hf (mono_some (Nat.le_refl _))
        have hFc := cFree hC hA
        refine va_calli (va_runV (As := [.int x1]) (rest := []) ⟨hx, hb, hml, hown, hts⟩ (c_X3_answer l dC dI Q N σ x1 p4 hcp4) (cwV 1 hts hX11_ran_X3_answer_v116 rfl rfl rfl (by decide +kernel) ⟨(show 2 + 1 ≤ 3 by omega), (show 8 + (3 + 11) + 60 * 2 ≤ 60 * 3 by omega)⟩) ⟨zPre.blind, va_recv hK hC.1 (ci := 2) (q0 := 7) rfl rfl, cPre_go hZ hK hC⟩ rfl rfl hl.1 rfl (lv_room (Nat.le_of_ble_eq_true rfl)) dX11_ran_24 (cAcc h0 mo5 hr9)) hC.2.2.1 (fun q _ h => hFc q h) hFc (fun r6 u9 t9 H1 locs ht hvm hw hB hz1 hk1 hS => ?_)
        obtain ⟨⟨hP, hK1, hD1⟩, hsz1⟩ := hB
        rw [ht] at hP hsz1
        have hC : CP dC dI Q A s.heap p4.2 H1 locs := ⟨hP, hD1.weaken (fun _ _ _ h => hFc _ h), hS, hsz1⟩
        generalize H1 = H at hC ⊢
        have h7 : (CS.hs σ) ≤ CS.hs p4.2 := Nat.le_trans h0 mo5
        refine W.widen (k := CS.hs p4.2 - (CS.hs σ)) (n := 17 * (CS.hs p4.2 - (CS.hs σ))) (cAcc2 h0 mo5) (cAcc3 h0 mo5) ?_
        obtain rfl : r6 = p4.1 := hw
        refine lv_goto (tgt := 32) hx hb dX11_ran_27 (by decide) ?_
        obtain rfl := Option.some.inj hf
        exact W.iret (v := p4.1) hx hb hr (fun t ht hW => ⟨⟨p4.1, (), rfl, rfl, ⟨by rw [ht]; exact hC.1, va_K.moved hW.alike hK, hC.2.1⟩, by rw [ht]; exact hC.2.2.2⟩, hC.2.2.1.F ht⟩) hC.2.2.1.2.2 dX11_ran_32
    ·
      replace hf := (if_neg c2).symm.trans hf
      exact j_X11_ran_10 l dC dI Q N (CS.hs σ) R hx hb hr hml hown hts hlocks hZ hA hK σ _ _ _ hf h0 hC (lv_sub hl [] rfl)
end
