theorem k_X3_turn_fieldLink_RX3_60_SR_Machine_depth_I : Cond.fieldLink RX3 60 "StatementRules2$Machine" "depth" "I" ∈ wzX3_turn := List.mem_cons_of_mem _ (List.mem_append_left _ (List.mem_of_getElem? (i := 0) rfl))
theorem i_X3_turn_X3 : ∀ w ∈ wsX30, w ∈ wzX3_turn := fun _ h => List.mem_cons_of_mem _ (List.mem_append_right _ (List.mem_append_left _ (h)))
set_option maxHeartbeats 4000000 in
set_option maxRecDepth 100000 in
theorem c_X3_turn (l : Launch) (dC : Nat → ClassId) (dI : Nat → Nat → Nat) (Q : CQ) (N : Nat) (σ : CS) (x1 : Int32) (x2 : Int32) (R : Unit × CS) (hf : f_X3_turn N σ x1 x2 = some R) : Met l yX3_turn wzX3_turn ({ frames := 4, cells := CS.hs R.2 - CS.hs σ, slots := 17 * (CS.hs R.2 - CS.hs σ), locals := 60 * 4 }) (va_Pc [.ref (Q.o 7), .int x1, .int x2] (zPre dC dI (CS.hs σ) (cW Q σ) (cT Q))) (va_Qv (fun (_ : Unit) => True) (fun (_ : Unit) (t : State) => zPost dC dI (va_A (cW Q σ) (CS.hs σ)) (cW Q R.2) (cT Q) t ∧ t.heap.size = CS.hs R.2) (va_A (cW Q σ) (CS.hs σ))) (CS.hs R.2 - CS.hs σ) (17 * (CS.hs R.2 - CS.hs σ)) (va_A (cW Q σ) (CS.hs σ)) := by
  refine Met.ofW (cc := cX3_turn) (maxL := 3) (ret := none) (by decide) rfl ?_
  intro p e s m args below meth c s₁ B hml hv
  obtain ⟨rfl, hsz, hZ, hP, hK, hD0⟩ := hv
  have hx := B.exec
  have hb := B.bytes
  have hr := B.returns
  have hts := atoms_spec (ws := wzX3_turn) B.pre
  have hown : s.vm.findClass RX3 = some m.cls := findClass_of_methodNamed B.named
  have hlocks := B.notSynchronized
  have hD := hD0.self (sz := CS.hs σ)
  generalize hAe : va_A (cW Q σ) (CS.hs σ) = A at hD ⊢
  have hA : ∀ q : Nat, s.heap.size ≤ q → A q := fun q h => by rw [← hAe]; exact Or.inr (hsz ▸ h)
  have hC : CP dC dI Q A s.heap σ s.heap [] := ⟨hP, hD, va_S.rf, hsz⟩
  have h0 : CS.hs σ ≤ CS.hs σ := Nat.le_refl _
  have hl := lv_entry ([.ref (Q.o 7), .int x1, .int x2]) (n := 3) (Nat.le_of_ble_eq_true rfl)
  rw [lg_entry_eq]
  generalize (lg_sl ([.ref (Q.o 7), .int x1, .int x2]) ++ List.replicate (3 - (lg_sl ([.ref (Q.o 7), .int x1, .int x2])).length) Slot.unset).toArray = ls at hl ⊢
  have hl : lv_has ls 3 [(0, .ref (Q.o 7)), (1, .int x1), (2, .int x2)] := hl
  unfold f_X3_turn at hf
  refine W.widen (k := CS.hs σ - CS.hs σ) (n := 17 * (CS.hs σ - CS.hs σ)) (Nat.zero_le _) (Nat.zero_le _) ?_
  refine lv_iload_n hx hb dX3_turn_0 rfl (lv_at hl 1 rfl) ?_
  by_cases c1 : x1 = 59
  ·
    replace hf := (if_pos c1).symm.trans hf
    refine lv_tableIn (off := 99) (tgt := 100) hx hb dX3_turn_1 (by rw [c1]; decide) (by rw [c1]; decide) (by rw [c1]; decide) (by decide) ?_
    refine lv_aload_n hx hb dX3_turn_100 rfl (lv_at hl 0 rfl) ?_
    refine lv_aload_n hx hb dX3_turn_101 rfl (lv_at hl 0 rfl) ?_
    refine lv_aload_n hx hb dX3_turn_102 rfl (lv_at hl 0 rfl) ?_
    refine cG_67 (v := (σ.i 67)) hx hb hts i_X3_turn_X3 hown hK hC (hts (.fieldLink RX3 60 "StatementRules2$Machine" "depth" "I") k_X3_turn_fieldLink_RX3_60_SR_Machine_depth_I) (fun _ q9 => q9) dX3_turn_103 rfl ?_
    refine lv_iconst (v := 1) hx hb dX3_turn_106 (by decide) ?_
    refine lv_isub hx hb dX3_turn_107 ?_
    obtain ⟨p2, hcp2, hf⟩ := hf_bind hf
    have mo3 : CS.hs σ ≤ CS.hs p2.2 := Mono.go hcp2 (m_X3_frame N σ ((σ.i 67) - 1))
    have hr9 : CS.hs p2.2 ≤ CS.hs R.2 := Mono.go hf (mono_oc (mono_bind (m_X3_resume N p2.2 none) (fun p8 => (mono_some (Nat.le_refl _)))) (fun a7 => (mono_bind (m_X3_resume N p2.2 (some a7)) (fun p12 => (mono_some (Nat.le_refl _))))))
    have hFc := cFree hC hA
    refine va_callq (va_runV (As := [.int ((σ.i 67) - 1)]) (rest := [.ref (Q.o 7)]) ⟨hx, hb, hml, hown, hts⟩ (c_X3_frame l dC dI Q N σ ((σ.i 67) - 1) p2 hcp2) (cwV 1 hts hX3_turn_X3_frame_v216 rfl rfl rfl (by decide +kernel) ⟨(show 1 + 1 ≤ 4 by omega), (show 8 + (2 + 11) + 60 * 1 ≤ 60 * 4 by omega)⟩) ⟨zPre.blind, va_recv hK hC.1 (ci := 2) (q0 := 7) rfl rfl, cPre_go hZ hK hC⟩ rfl rfl hl.1 rfl (lv_room (Nat.le_of_ble_eq_true rfl)) dX3_turn_108 (cAcc h0 mo3 hr9)) hC.2.2.1 (fun q _ h => hFc q h) hFc (fun r4 u9 t9 H1 locs ht hvm hw hB hz1 hk1 hS => ?_)
    obtain ⟨⟨hP, hK1, hD1⟩, hsz1⟩ := hB
    rw [ht] at hP hsz1
    have hC : CP dC dI Q A s.heap p2.2 H1 locs := ⟨hP, hD1.weaken (fun _ _ _ h => hFc _ h), hS, hsz1⟩
    generalize H1 = H at hC ⊢
    have h5 : (CS.hs σ) ≤ CS.hs p2.2 := Nat.le_trans h0 mo3
    refine W.widen (k := CS.hs p2.2 - (CS.hs σ)) (n := 17 * (CS.hs p2.2 - (CS.hs σ))) (cAcc2 h0 mo3) (cAcc3 h0 mo3) ?_
    obtain rfl : r4 = p2.1 := hw
    rcases hf_oc hf with ⟨q6, hf⟩ | ⟨a7, q6, hf⟩
    ·
      refine W.eq (congrArg (fun v9 => F0 m 111 ls (va_rf v9 :: [.ref (Q.o 7)])) q6) ?_
      refine W.eq (g2 := F0 m 111 ls (.null :: [.ref (Q.o 7)])) rfl ?_
      obtain ⟨p8, hcp8, hf⟩ := hf_bind hf
      have mo9 : CS.hs p2.2 ≤ CS.hs p8.2 := Mono.go hcp8 (m_X3_resume N p2.2 none)
      have hr9 : CS.hs p8.2 ≤ CS.hs R.2 := Mono.go hf (mono_some (Nat.le_refl _))
      have hFc := cFree hC hA
      refine va_callv (va_runV (As := [.null]) (rest := []) ⟨hx, hb, hml, hown, hts⟩ (c_X3_resume l dC dI Q N p2.2 none p8 hcp8) (cwV 1 hts hX3_turn_X3_resume_v224 rfl rfl rfl (by decide +kernel) ⟨(show 2 + 1 ≤ 4 by omega), (show 8 + (2 + 11) + 60 * 2 ≤ 60 * 4 by omega)⟩) ⟨zPre.blind, va_recv hK hC.1 (ci := 2) (q0 := 7) rfl rfl, cPre_go hZ hK hC⟩ rfl rfl hl.1 rfl (lv_room (Nat.le_of_ble_eq_true rfl)) dX3_turn_111 (cAcc h5 mo9 hr9)) hC.2.2.1 (fun q _ h => hFc q h) hFc (fun u9 t9 H1 locs ht hvm hw hB hz1 hk1 hS => ?_)
      obtain ⟨⟨hP, hK1, hD1⟩, hsz1⟩ := hB
      rw [ht] at hP hsz1
      have hC : CP dC dI Q A s.heap p8.2 H1 locs := ⟨hP, hD1.weaken (fun _ _ _ h => hFc _ h), hS, hsz1⟩
      generalize H1 = H at hC ⊢
      have h11 : (CS.hs σ) ≤ CS.hs p8.2 := Nat.le_trans h5 mo9
      refine W.widen (k := CS.hs p8.2 - (CS.hs σ)) (n := 17 * (CS.hs p8.2 - (CS.hs σ))) (cAcc2 h5 mo9) (cAcc3 h5 mo9) ?_
      refine lv_goto (tgt := 133) hx hb dX3_turn_114 (by decide) ?_
      obtain rfl := Option.some.inj hf
      exact W.vret hx hb hr (fun t ht hW => ⟨⟨(), rfl, trivial, ⟨by rw [ht]; exact hC.1, va_K.moved hW.alike hK, hC.2.1⟩, by rw [ht]; exact hC.2.2.2⟩, hC.2.2.1.F ht⟩) hC.2.2.1.2.2 dX3_turn_133
    ·
      refine W.eq (congrArg (fun v9 => F0 m 111 ls (va_rf v9 :: [.ref (Q.o 7)])) q6) ?_
      refine W.eq (g2 := F0 m 111 ls (.ref a7 :: [.ref (Q.o 7)])) rfl ?_
      obtain ⟨p12, hcp12, hf⟩ := hf_bind hf
      have mo13 : CS.hs p2.2 ≤ CS.hs p12.2 := Mono.go hcp12 (m_X3_resume N p2.2 (some a7))
      have hr9 : CS.hs p12.2 ≤ CS.hs R.2 := Mono.go hf (mono_some (Nat.le_refl _))
      have hFc := cFree hC hA
      refine va_callv (va_runV (As := [.ref a7]) (rest := []) ⟨hx, hb, hml, hown, hts⟩ (c_X3_resume l dC dI Q N p2.2 (some a7) p12 hcp12) (cwV 1 hts hX3_turn_X3_resume_v224 rfl rfl rfl (by decide +kernel) ⟨(show 2 + 1 ≤ 4 by omega), (show 8 + (2 + 11) + 60 * 2 ≤ 60 * 4 by omega)⟩) ⟨zPre.blind, va_recv hK hC.1 (ci := 2) (q0 := 7) rfl rfl, cPre_go hZ hK hC⟩ rfl rfl hl.1 rfl (lv_room (Nat.le_of_ble_eq_true rfl)) dX3_turn_111 (cAcc h5 mo13 hr9)) hC.2.2.1 (fun q _ h => hFc q h) hFc (fun u9 t9 H1 locs ht hvm hw hB hz1 hk1 hS => ?_)
      obtain ⟨⟨hP, hK1, hD1⟩, hsz1⟩ := hB
      rw [ht] at hP hsz1
      have hC : CP dC dI Q A s.heap p12.2 H1 locs := ⟨hP, hD1.weaken (fun _ _ _ h => hFc _ h), hS, hsz1⟩
      generalize H1 = H at hC ⊢
      have h15 : (CS.hs σ) ≤ CS.hs p12.2 := Nat.le_trans h5 mo13
      refine W.widen (k := CS.hs p12.2 - (CS.hs σ)) (n := 17 * (CS.hs p12.2 - (CS.hs σ))) (cAcc2 h5 mo13) (cAcc3 h5 mo13) ?_
      refine lv_goto (tgt := 133) hx hb dX3_turn_114 (by decide) ?_
      obtain rfl := Option.some.inj hf
      exact W.vret hx hb hr (fun t ht hW => ⟨⟨(), rfl, trivial, ⟨by rw [ht]; exact hC.1, va_K.moved hW.alike hK, hC.2.1⟩, by rw [ht]; exact hC.2.2.2⟩, hC.2.2.1.F ht⟩) hC.2.2.1.2.2 dX3_turn_133
  replace hf := (if_neg c1).symm.trans hf
  by_cases c16 : x1 = 60
  ·
    replace hf := (if_pos c16).symm.trans hf
    refine lv_tableIn (off := 39) (tgt := 40) hx hb dX3_turn_1 (by rw [c16]; decide) (by rw [c16]; decide) (by rw [c16]; decide) (by decide) ?_
    refine lv_aload_n hx hb dX3_turn_40 rfl (lv_at hl 0 rfl) ?_
    refine lv_iconst (v := 1) hx hb dX3_turn_41 (by decide) ?_
    refine lv_iconst (v := 0) hx hb dX3_turn_42 (by decide) ?_
    refine lv_iload_n hx hb dX3_turn_43 rfl (lv_at hl 2 rfl) ?_
    obtain ⟨p17, hcp17, hf⟩ := hf_bind hf
    have mo18 : CS.hs σ ≤ CS.hs p17.2 := Mono.go hcp17 (m_X3_go N σ 1 0 x2)
    have hr9 : CS.hs p17.2 ≤ CS.hs R.2 := Mono.go hf (mono_some (Nat.le_refl _))
    have hFc := cFree hC hA
    refine va_callv (va_runV (As := [.int 1, .int 0, .int x2]) (rest := []) ⟨hx, hb, hml, hown, hts⟩ (c_X3_go l dC dI Q N σ 1 0 x2 p17 hcp17) (cwV 3 hts hX3_turn_X3_go_v213 rfl rfl rfl (by decide +kernel) ⟨(show 1 + 1 ≤ 4 by omega), (show 8 + (4 + 11) + 60 * 1 ≤ 60 * 4 by omega)⟩) ⟨zPre.blind, va_recv hK hC.1 (ci := 2) (q0 := 7) rfl rfl, cPre_go hZ hK hC⟩ rfl rfl hl.1 rfl (lv_room (Nat.le_of_ble_eq_true rfl)) dX3_turn_44 (cAcc h0 mo18 hr9)) hC.2.2.1 (fun q _ h => hFc q h) hFc (fun u9 t9 H1 locs ht hvm hw hB hz1 hk1 hS => ?_)
    obtain ⟨⟨hP, hK1, hD1⟩, hsz1⟩ := hB
    rw [ht] at hP hsz1
    have hC : CP dC dI Q A s.heap p17.2 H1 locs := ⟨hP, hD1.weaken (fun _ _ _ h => hFc _ h), hS, hsz1⟩
    generalize H1 = H at hC ⊢
    have h20 : (CS.hs σ) ≤ CS.hs p17.2 := Nat.le_trans h0 mo18
    refine W.widen (k := CS.hs p17.2 - (CS.hs σ)) (n := 17 * (CS.hs p17.2 - (CS.hs σ))) (cAcc2 h0 mo18) (cAcc3 h0 mo18) ?_
    refine lv_goto (tgt := 133) hx hb dX3_turn_47 (by decide) ?_
    obtain rfl := Option.some.inj hf
    exact W.vret hx hb hr (fun t ht hW => ⟨⟨(), rfl, trivial, ⟨by rw [ht]; exact hC.1, va_K.moved hW.alike hK, hC.2.1⟩, by rw [ht]; exact hC.2.2.2⟩, hC.2.2.1.F ht⟩) hC.2.2.1.2.2 dX3_turn_133
  replace hf := (if_neg c16).symm.trans hf
  by_cases c21 : x1 = 61
  ·
    replace hf := (if_pos c21).symm.trans hf
    refine lv_tableIn (off := 49) (tgt := 50) hx hb dX3_turn_1 (by rw [c21]; decide) (by rw [c21]; decide) (by rw [c21]; decide) (by decide) ?_
    refine lv_aload_n hx hb dX3_turn_50 rfl (lv_at hl 0 rfl) ?_
    refine lv_iconst (v := 2) hx hb dX3_turn_51 (by decide) ?_
    refine lv_aload_n hx hb dX3_turn_52 rfl (lv_at hl 0 rfl) ?_
    obtain ⟨p22, hcp22, hf⟩ := hf_bind hf
    have mo23 : CS.hs σ ≤ CS.hs p22.2 := Mono.go hcp22 (m_X3_pop N σ)
    have hr9 : CS.hs p22.2 ≤ CS.hs R.2 := Mono.go hf (mono_bind (m_X3_go N p22.2 2 p22.1 x2) (fun p26 => (mono_some (Nat.le_refl _))))
    have hFc := cFree hC hA
    refine va_calli (va_runV (As := []) (rest := [.int 2, .ref (Q.o 7)]) ⟨hx, hb, hml, hown, hts⟩ (c_X3_pop l dC dI Q N σ p22 hcp22) (cwV 0 hts hX3_turn_X3_pop_v138 rfl rfl rfl (by decide +kernel) ⟨(show 2 + 1 ≤ 4 by omega), (show 8 + (1 + 11) + 60 * 2 ≤ 60 * 4 by omega)⟩) ⟨zPre.blind, va_recv hK hC.1 (ci := 2) (q0 := 7) rfl rfl, cPre_go hZ hK hC⟩ rfl rfl hl.1 rfl (lv_room (Nat.le_of_ble_eq_true rfl)) dX3_turn_53 (cAcc h0 mo23 hr9)) hC.2.2.1 (fun q _ h => hFc q h) hFc (fun r24 u9 t9 H1 locs ht hvm hw hB hz1 hk1 hS => ?_)
    obtain ⟨⟨hP, hK1, hD1⟩, hsz1⟩ := hB
    rw [ht] at hP hsz1
    have hC : CP dC dI Q A s.heap p22.2 H1 locs := ⟨hP, hD1.weaken (fun _ _ _ h => hFc _ h), hS, hsz1⟩
    generalize H1 = H at hC ⊢
    have h25 : (CS.hs σ) ≤ CS.hs p22.2 := Nat.le_trans h0 mo23
    refine W.widen (k := CS.hs p22.2 - (CS.hs σ)) (n := 17 * (CS.hs p22.2 - (CS.hs σ))) (cAcc2 h0 mo23) (cAcc3 h0 mo23) ?_
    obtain rfl : r24 = p22.1 := hw
    refine lv_iload_n hx hb dX3_turn_56 rfl (lv_at hl 2 rfl) ?_
    obtain ⟨p26, hcp26, hf⟩ := hf_bind hf
    have mo27 : CS.hs p22.2 ≤ CS.hs p26.2 := Mono.go hcp26 (m_X3_go N p22.2 2 p22.1 x2)
    have hr9 : CS.hs p26.2 ≤ CS.hs R.2 := Mono.go hf (mono_some (Nat.le_refl _))
    have hFc := cFree hC hA
    refine va_callv (va_runV (As := [.int 2, .int p22.1, .int x2]) (rest := []) ⟨hx, hb, hml, hown, hts⟩ (c_X3_go l dC dI Q N p22.2 2 p22.1 x2 p26 hcp26) (cwV 3 hts hX3_turn_X3_go_v213 rfl rfl rfl (by decide +kernel) ⟨(show 1 + 1 ≤ 4 by omega), (show 8 + (4 + 11) + 60 * 1 ≤ 60 * 4 by omega)⟩) ⟨zPre.blind, va_recv hK hC.1 (ci := 2) (q0 := 7) rfl rfl, cPre_go hZ hK hC⟩ rfl rfl hl.1 rfl (lv_room (Nat.le_of_ble_eq_true rfl)) dX3_turn_57 (cAcc h25 mo27 hr9)) hC.2.2.1 (fun q _ h => hFc q h) hFc (fun u9 t9 H1 locs ht hvm hw hB hz1 hk1 hS => ?_)
    obtain ⟨⟨hP, hK1, hD1⟩, hsz1⟩ := hB
    rw [ht] at hP hsz1
    have hC : CP dC dI Q A s.heap p26.2 H1 locs := ⟨hP, hD1.weaken (fun _ _ _ h => hFc _ h), hS, hsz1⟩
    generalize H1 = H at hC ⊢
    have h29 : (CS.hs σ) ≤ CS.hs p26.2 := Nat.le_trans h25 mo27
    refine W.widen (k := CS.hs p26.2 - (CS.hs σ)) (n := 17 * (CS.hs p26.2 - (CS.hs σ))) (cAcc2 h25 mo27) (cAcc3 h25 mo27) ?_
    refine lv_goto (tgt := 133) hx hb dX3_turn_60 (by decide) ?_
    obtain rfl := Option.some.inj hf
    exact W.vret hx hb hr (fun t ht hW => ⟨⟨(), rfl, trivial, ⟨by rw [ht]; exact hC.1, va_K.moved hW.alike hK, hC.2.1⟩, by rw [ht]; exact hC.2.2.2⟩, hC.2.2.1.F ht⟩) hC.2.2.1.2.2 dX3_turn_133
  replace hf := (if_neg c21).symm.trans hf
  by_cases c30 : x1 = 62
  ·
    replace hf := (if_pos c30).symm.trans hf
    refine lv_tableIn (off := 62) (tgt := 63) hx hb dX3_turn_1 (by rw [c30]; decide) (by rw [c30]; decide) (by rw [c30]; decide) (by decide) ?_
    refine lv_aload_n hx hb dX3_turn_63 rfl (lv_at hl 0 rfl) ?_
    refine lv_iconst (v := 3) hx hb dX3_turn_64 (by decide) ?_
    refine lv_aload_n hx hb dX3_turn_65 rfl (lv_at hl 0 rfl) ?_
    obtain ⟨p31, hcp31, hf⟩ := hf_bind hf
    have mo32 : CS.hs σ ≤ CS.hs p31.2 := Mono.go hcp31 (m_X3_pop N σ)
    have hr9 : CS.hs p31.2 ≤ CS.hs R.2 := Mono.go hf (mono_bind (m_X3_go N p31.2 3 p31.1 0) (fun p35 => (mono_some (Nat.le_refl _))))
    have hFc := cFree hC hA
    refine va_calli (va_runV (As := []) (rest := [.int 3, .ref (Q.o 7)]) ⟨hx, hb, hml, hown, hts⟩ (c_X3_pop l dC dI Q N σ p31 hcp31) (cwV 0 hts hX3_turn_X3_pop_v138 rfl rfl rfl (by decide +kernel) ⟨(show 2 + 1 ≤ 4 by omega), (show 8 + (1 + 11) + 60 * 2 ≤ 60 * 4 by omega)⟩) ⟨zPre.blind, va_recv hK hC.1 (ci := 2) (q0 := 7) rfl rfl, cPre_go hZ hK hC⟩ rfl rfl hl.1 rfl (lv_room (Nat.le_of_ble_eq_true rfl)) dX3_turn_66 (cAcc h0 mo32 hr9)) hC.2.2.1 (fun q _ h => hFc q h) hFc (fun r33 u9 t9 H1 locs ht hvm hw hB hz1 hk1 hS => ?_)
    obtain ⟨⟨hP, hK1, hD1⟩, hsz1⟩ := hB
    rw [ht] at hP hsz1
    have hC : CP dC dI Q A s.heap p31.2 H1 locs := ⟨hP, hD1.weaken (fun _ _ _ h => hFc _ h), hS, hsz1⟩
    generalize H1 = H at hC ⊢
    have h34 : (CS.hs σ) ≤ CS.hs p31.2 := Nat.le_trans h0 mo32
    refine W.widen (k := CS.hs p31.2 - (CS.hs σ)) (n := 17 * (CS.hs p31.2 - (CS.hs σ))) (cAcc2 h0 mo32) (cAcc3 h0 mo32) ?_
    obtain rfl : r33 = p31.1 := hw
    refine lv_iconst (v := 0) hx hb dX3_turn_69 (by decide) ?_
    obtain ⟨p35, hcp35, hf⟩ := hf_bind hf
    have mo36 : CS.hs p31.2 ≤ CS.hs p35.2 := Mono.go hcp35 (m_X3_go N p31.2 3 p31.1 0)
    have hr9 : CS.hs p35.2 ≤ CS.hs R.2 := Mono.go hf (mono_some (Nat.le_refl _))
    have hFc := cFree hC hA
    refine va_callv (va_runV (As := [.int 3, .int p31.1, .int 0]) (rest := []) ⟨hx, hb, hml, hown, hts⟩ (c_X3_go l dC dI Q N p31.2 3 p31.1 0 p35 hcp35) (cwV 3 hts hX3_turn_X3_go_v213 rfl rfl rfl (by decide +kernel) ⟨(show 1 + 1 ≤ 4 by omega), (show 8 + (4 + 11) + 60 * 1 ≤ 60 * 4 by omega)⟩) ⟨zPre.blind, va_recv hK hC.1 (ci := 2) (q0 := 7) rfl rfl, cPre_go hZ hK hC⟩ rfl rfl hl.1 rfl (lv_room (Nat.le_of_ble_eq_true rfl)) dX3_turn_70 (cAcc h34 mo36 hr9)) hC.2.2.1 (fun q _ h => hFc q h) hFc (fun u9 t9 H1 locs ht hvm hw hB hz1 hk1 hS => ?_)
    obtain ⟨⟨hP, hK1, hD1⟩, hsz1⟩ := hB
    rw [ht] at hP hsz1
    have hC : CP dC dI Q A s.heap p35.2 H1 locs := ⟨hP, hD1.weaken (fun _ _ _ h => hFc _ h), hS, hsz1⟩
    generalize H1 = H at hC ⊢
    have h38 : (CS.hs σ) ≤ CS.hs p35.2 := Nat.le_trans h34 mo36
    refine W.widen (k := CS.hs p35.2 - (CS.hs σ)) (n := 17 * (CS.hs p35.2 - (CS.hs σ))) (cAcc2 h34 mo36) (cAcc3 h34 mo36) ?_
    refine lv_goto (tgt := 133) hx hb dX3_turn_73 (by decide) ?_
    obtain rfl := Option.some.inj hf
    exact W.vret hx hb hr (fun t ht hW => ⟨⟨(), rfl, trivial, ⟨by rw [ht]; exact hC.1, va_K.moved hW.alike hK, hC.2.1⟩, by rw [ht]; exact hC.2.2.2⟩, hC.2.2.1.F ht⟩) hC.2.2.1.2.2 dX3_turn_133
  replace hf := (if_neg c30).symm.trans hf
  by_cases c39 : x1 = 63
  ·
    replace hf := (if_pos c39).symm.trans hf
    refine lv_tableIn (off := 75) (tgt := 76) hx hb dX3_turn_1 (by rw [c39]; decide) (by rw [c39]; decide) (by rw [c39]; decide) (by decide) ?_
    refine lv_aload_n hx hb dX3_turn_76 rfl (lv_at hl 0 rfl) ?_
    refine lv_iload_n hx hb dX3_turn_77 rfl (lv_at hl 2 rfl) ?_
    refine lv_aload_n hx hb dX3_turn_78 rfl (lv_at hl 0 rfl) ?_
    obtain ⟨p40, hcp40, hf⟩ := hf_bind hf
    have mo41 : CS.hs σ ≤ CS.hs p40.2 := Mono.go hcp40 (m_X3_pop N σ)
    have hr9 : CS.hs p40.2 ≤ CS.hs R.2 := Mono.go hf (mono_bind (m_X3_raise N p40.2 x2 p40.1) (fun p44 => (mono_some (Nat.le_refl _))))
    have hFc := cFree hC hA
    refine va_calli (va_runV (As := []) (rest := [.int x2, .ref (Q.o 7)]) ⟨hx, hb, hml, hown, hts⟩ (c_X3_pop l dC dI Q N σ p40 hcp40) (cwV 0 hts hX3_turn_X3_pop_v138 rfl rfl rfl (by decide +kernel) ⟨(show 2 + 1 ≤ 4 by omega), (show 8 + (1 + 11) + 60 * 2 ≤ 60 * 4 by omega)⟩) ⟨zPre.blind, va_recv hK hC.1 (ci := 2) (q0 := 7) rfl rfl, cPre_go hZ hK hC⟩ rfl rfl hl.1 rfl (lv_room (Nat.le_of_ble_eq_true rfl)) dX3_turn_79 (cAcc h0 mo41 hr9)) hC.2.2.1 (fun q _ h => hFc q h) hFc (fun r42 u9 t9 H1 locs ht hvm hw hB hz1 hk1 hS => ?_)
    obtain ⟨⟨hP, hK1, hD1⟩, hsz1⟩ := hB
    rw [ht] at hP hsz1
    have hC : CP dC dI Q A s.heap p40.2 H1 locs := ⟨hP, hD1.weaken (fun _ _ _ h => hFc _ h), hS, hsz1⟩
    generalize H1 = H at hC ⊢
    have h43 : (CS.hs σ) ≤ CS.hs p40.2 := Nat.le_trans h0 mo41
    refine W.widen (k := CS.hs p40.2 - (CS.hs σ)) (n := 17 * (CS.hs p40.2 - (CS.hs σ))) (cAcc2 h0 mo41) (cAcc3 h0 mo41) ?_
    obtain rfl : r42 = p40.1 := hw
    obtain ⟨p44, hcp44, hf⟩ := hf_bind hf
    have mo45 : CS.hs p40.2 ≤ CS.hs p44.2 := Mono.go hcp44 (m_X3_raise N p40.2 x2 p40.1)
    have hr9 : CS.hs p44.2 ≤ CS.hs R.2 := Mono.go hf (mono_some (Nat.le_refl _))
    have hFc := cFree hC hA
    refine va_callv (va_runV (As := [.int x2, .int p40.1]) (rest := []) ⟨hx, hb, hml, hown, hts⟩ (c_X3_raise l dC dI Q N p40.2 x2 p40.1 p44 hcp44) (cwV 2 hts hX3_turn_X3_raise_v150 rfl rfl rfl (by decide +kernel) ⟨(show 3 + 1 ≤ 4 by omega), (show 8 + (3 + 11) + 60 * 3 ≤ 60 * 4 by omega)⟩) ⟨zPre.blind, va_recv hK hC.1 (ci := 2) (q0 := 7) rfl rfl, cPre_go hZ hK hC⟩ rfl rfl hl.1 rfl (lv_room (Nat.le_of_ble_eq_true rfl)) dX3_turn_82 (cAcc h43 mo45 hr9)) hC.2.2.1 (fun q _ h => hFc q h) hFc (fun u9 t9 H1 locs ht hvm hw hB hz1 hk1 hS => ?_)
    obtain ⟨⟨hP, hK1, hD1⟩, hsz1⟩ := hB
    rw [ht] at hP hsz1
    have hC : CP dC dI Q A s.heap p44.2 H1 locs := ⟨hP, hD1.weaken (fun _ _ _ h => hFc _ h), hS, hsz1⟩
    generalize H1 = H at hC ⊢
    have h47 : (CS.hs σ) ≤ CS.hs p44.2 := Nat.le_trans h43 mo45
    refine W.widen (k := CS.hs p44.2 - (CS.hs σ)) (n := 17 * (CS.hs p44.2 - (CS.hs σ))) (cAcc2 h43 mo45) (cAcc3 h43 mo45) ?_
    refine lv_goto (tgt := 133) hx hb dX3_turn_85 (by decide) ?_
    obtain rfl := Option.some.inj hf
    exact W.vret hx hb hr (fun t ht hW => ⟨⟨(), rfl, trivial, ⟨by rw [ht]; exact hC.1, va_K.moved hW.alike hK, hC.2.1⟩, by rw [ht]; exact hC.2.2.2⟩, hC.2.2.1.F ht⟩) hC.2.2.1.2.2 dX3_turn_133
  replace hf := (if_neg c39).symm.trans hf
  by_cases c48 : x1 = 64
  ·
    replace hf := (if_pos c48).symm.trans hf
    refine lv_tableIn (off := 87) (tgt := 88) hx hb dX3_turn_1 (by rw [c48]; decide) (by rw [c48]; decide) (by rw [c48]; decide) (by decide) ?_
    refine lv_aload_n hx hb dX3_turn_88 rfl (lv_at hl 0 rfl) ?_
    refine lv_aload_n hx hb dX3_turn_89 rfl (lv_at hl 0 rfl) ?_
    refine lv_iload_n hx hb dX3_turn_90 rfl (lv_at hl 2 rfl) ?_
    obtain ⟨p49, hcp49, hf⟩ := hf_bind hf
    have mo50 : CS.hs σ ≤ CS.hs p49.2 := Mono.go hcp49 (m_X3_frame N σ x2)
    have hr9 : CS.hs p49.2 ≤ CS.hs R.2 := Mono.go hf (mono_oc (mono_bind (m_X3_throwAgain N p49.2 none) (fun p55 => (mono_some (Nat.le_refl _)))) (fun a54 => (mono_bind (m_X3_throwAgain N p49.2 (some a54)) (fun p59 => (mono_some (Nat.le_refl _))))))
    have hFc := cFree hC hA
    refine va_callq (va_runV (As := [.int x2]) (rest := [.ref (Q.o 7)]) ⟨hx, hb, hml, hown, hts⟩ (c_X3_frame l dC dI Q N σ x2 p49 hcp49) (cwV 1 hts hX3_turn_X3_frame_v216 rfl rfl rfl (by decide +kernel) ⟨(show 1 + 1 ≤ 4 by omega), (show 8 + (2 + 11) + 60 * 1 ≤ 60 * 4 by omega)⟩) ⟨zPre.blind, va_recv hK hC.1 (ci := 2) (q0 := 7) rfl rfl, cPre_go hZ hK hC⟩ rfl rfl hl.1 rfl (lv_room (Nat.le_of_ble_eq_true rfl)) dX3_turn_91 (cAcc h0 mo50 hr9)) hC.2.2.1 (fun q _ h => hFc q h) hFc (fun r51 u9 t9 H1 locs ht hvm hw hB hz1 hk1 hS => ?_)
    obtain ⟨⟨hP, hK1, hD1⟩, hsz1⟩ := hB
    rw [ht] at hP hsz1
    have hC : CP dC dI Q A s.heap p49.2 H1 locs := ⟨hP, hD1.weaken (fun _ _ _ h => hFc _ h), hS, hsz1⟩
    generalize H1 = H at hC ⊢
    have h52 : (CS.hs σ) ≤ CS.hs p49.2 := Nat.le_trans h0 mo50
    refine W.widen (k := CS.hs p49.2 - (CS.hs σ)) (n := 17 * (CS.hs p49.2 - (CS.hs σ))) (cAcc2 h0 mo50) (cAcc3 h0 mo50) ?_
    obtain rfl : r51 = p49.1 := hw
    rcases hf_oc hf with ⟨q53, hf⟩ | ⟨a54, q53, hf⟩
    ·
      refine W.eq (congrArg (fun v9 => F0 m 94 ls (va_rf v9 :: [.ref (Q.o 7)])) q53) ?_
      refine W.eq (g2 := F0 m 94 ls (.null :: [.ref (Q.o 7)])) rfl ?_
      obtain ⟨p55, hcp55, hf⟩ := hf_bind hf
      have mo56 : CS.hs p49.2 ≤ CS.hs p55.2 := Mono.go hcp55 (m_X3_throwAgain N p49.2 none)
      have hr9 : CS.hs p55.2 ≤ CS.hs R.2 := Mono.go hf (mono_some (Nat.le_refl _))
      have hFc := cFree hC hA
      refine va_callv (va_runV (As := [.null]) (rest := []) ⟨hx, hb, hml, hown, hts⟩ (c_X3_throwAgain l dC dI Q N p49.2 none p55 hcp55) (cwV 1 hts hX3_turn_X3_throwAgain_v220 rfl rfl rfl (by decide +kernel) ⟨(show 2 + 1 ≤ 4 by omega), (show 8 + (2 + 11) + 60 * 2 ≤ 60 * 4 by omega)⟩) ⟨zPre.blind, va_recv hK hC.1 (ci := 2) (q0 := 7) rfl rfl, cPre_go hZ hK hC⟩ rfl rfl hl.1 rfl (lv_room (Nat.le_of_ble_eq_true rfl)) dX3_turn_94 (cAcc h52 mo56 hr9)) hC.2.2.1 (fun q _ h => hFc q h) hFc (fun u9 t9 H1 locs ht hvm hw hB hz1 hk1 hS => ?_)
      obtain ⟨⟨hP, hK1, hD1⟩, hsz1⟩ := hB
      rw [ht] at hP hsz1
      have hC : CP dC dI Q A s.heap p55.2 H1 locs := ⟨hP, hD1.weaken (fun _ _ _ h => hFc _ h), hS, hsz1⟩
      generalize H1 = H at hC ⊢
      have h58 : (CS.hs σ) ≤ CS.hs p55.2 := Nat.le_trans h52 mo56
      refine W.widen (k := CS.hs p55.2 - (CS.hs σ)) (n := 17 * (CS.hs p55.2 - (CS.hs σ))) (cAcc2 h52 mo56) (cAcc3 h52 mo56) ?_
      refine lv_goto (tgt := 133) hx hb dX3_turn_97 (by decide) ?_
      obtain rfl := Option.some.inj hf
      exact W.vret hx hb hr (fun t ht hW => ⟨⟨(), rfl, trivial, ⟨by rw [ht]; exact hC.1, va_K.moved hW.alike hK, hC.2.1⟩, by rw [ht]; exact hC.2.2.2⟩, hC.2.2.1.F ht⟩) hC.2.2.1.2.2 dX3_turn_133
    ·
      refine W.eq (congrArg (fun v9 => F0 m 94 ls (va_rf v9 :: [.ref (Q.o 7)])) q53) ?_
      refine W.eq (g2 := F0 m 94 ls (.ref a54 :: [.ref (Q.o 7)])) rfl ?_
      obtain ⟨p59, hcp59, hf⟩ := hf_bind hf
      have mo60 : CS.hs p49.2 ≤ CS.hs p59.2 := Mono.go hcp59 (m_X3_throwAgain N p49.2 (some a54))
      have hr9 : CS.hs p59.2 ≤ CS.hs R.2 := Mono.go hf (mono_some (Nat.le_refl _))
      have hFc := cFree hC hA
      refine va_callv (va_runV (As := [.ref a54]) (rest := []) ⟨hx, hb, hml, hown, hts⟩ (c_X3_throwAgain l dC dI Q N p49.2 (some a54) p59 hcp59) (cwV 1 hts hX3_turn_X3_throwAgain_v220 rfl rfl rfl (by decide +kernel) ⟨(show 2 + 1 ≤ 4 by omega), (show 8 + (2 + 11) + 60 * 2 ≤ 60 * 4 by omega)⟩) ⟨zPre.blind, va_recv hK hC.1 (ci := 2) (q0 := 7) rfl rfl, cPre_go hZ hK hC⟩ rfl rfl hl.1 rfl (lv_room (Nat.le_of_ble_eq_true rfl)) dX3_turn_94 (cAcc h52 mo60 hr9)) hC.2.2.1 (fun q _ h => hFc q h) hFc (fun u9 t9 H1 locs ht hvm hw hB hz1 hk1 hS => ?_)
      obtain ⟨⟨hP, hK1, hD1⟩, hsz1⟩ := hB
      rw [ht] at hP hsz1
      have hC : CP dC dI Q A s.heap p59.2 H1 locs := ⟨hP, hD1.weaken (fun _ _ _ h => hFc _ h), hS, hsz1⟩
      generalize H1 = H at hC ⊢
      have h62 : (CS.hs σ) ≤ CS.hs p59.2 := Nat.le_trans h52 mo60
      refine W.widen (k := CS.hs p59.2 - (CS.hs σ)) (n := 17 * (CS.hs p59.2 - (CS.hs σ))) (cAcc2 h52 mo60) (cAcc3 h52 mo60) ?_
      refine lv_goto (tgt := 133) hx hb dX3_turn_97 (by decide) ?_
      obtain rfl := Option.some.inj hf
      exact W.vret hx hb hr (fun t ht hW => ⟨⟨(), rfl, trivial, ⟨by rw [ht]; exact hC.1, va_K.moved hW.alike hK, hC.2.1⟩, by rw [ht]; exact hC.2.2.2⟩, hC.2.2.1.F ht⟩) hC.2.2.1.2.2 dX3_turn_133
  replace hf := (if_neg c48).symm.trans hf
  refine lv_tableOut (tgt := 117) hx hb dX3_turn_1 (by have := z_ton (a := 59) c1 (by decide); have := z_ton (a := 60) c16 (by decide); have := z_ton (a := 61) c21 (by decide); have := z_ton (a := 62) c30 (by decide); have := z_ton (a := 63) c39 (by decide); have := z_ton (a := 64) c48 (by decide); omega) (by decide) ?_
  refine lv_aload_n hx hb dX3_turn_117 rfl (lv_at hl 0 rfl) ?_
  refine lv_iload_n hx hb dX3_turn_118 rfl (lv_at hl 1 rfl) ?_
  refine lv_iload_n hx hb dX3_turn_119 rfl (lv_at hl 2 rfl) ?_
  refine lv_aload_n hx hb dX3_turn_120 rfl (lv_at hl 0 rfl) ?_
  refine lv_aload_n hx hb dX3_turn_121 rfl (lv_at hl 0 rfl) ?_
  refine cG_67 (v := (σ.i 67)) hx hb hts i_X3_turn_X3 hown hK hC (hts (.fieldLink RX3 60 "StatementRules2$Machine" "depth" "I") k_X3_turn_fieldLink_RX3_60_SR_Machine_depth_I) (fun _ q9 => q9) dX3_turn_122 rfl ?_
  refine lv_iconst (v := 1) hx hb dX3_turn_125 (by decide) ?_
  refine lv_isub hx hb dX3_turn_126 ?_
  obtain ⟨p63, hcp63, hf⟩ := hf_bind hf
  have mo64 : CS.hs σ ≤ CS.hs p63.2 := Mono.go hcp63 (m_X3_frame N σ ((σ.i 67) - 1))
  have hr9 : CS.hs p63.2 ≤ CS.hs R.2 := Mono.go hf (mono_oc (mono_bind (m_X3_handle N p63.2 x1 x2 none) (fun p69 => (mono_some (Nat.le_refl _)))) (fun a68 => (mono_bind (m_X3_handle N p63.2 x1 x2 (some a68)) (fun p73 => (mono_some (Nat.le_refl _))))))
  have hFc := cFree hC hA
  refine va_callq (va_runV (As := [.int ((σ.i 67) - 1)]) (rest := [.int x2, .int x1, .ref (Q.o 7)]) ⟨hx, hb, hml, hown, hts⟩ (c_X3_frame l dC dI Q N σ ((σ.i 67) - 1) p63 hcp63) (cwV 1 hts hX3_turn_X3_frame_v216 rfl rfl rfl (by decide +kernel) ⟨(show 1 + 1 ≤ 4 by omega), (show 8 + (2 + 11) + 60 * 1 ≤ 60 * 4 by omega)⟩) ⟨zPre.blind, va_recv hK hC.1 (ci := 2) (q0 := 7) rfl rfl, cPre_go hZ hK hC⟩ rfl rfl hl.1 rfl (lv_room (Nat.le_of_ble_eq_true rfl)) dX3_turn_127 (cAcc h0 mo64 hr9)) hC.2.2.1 (fun q _ h => hFc q h) hFc (fun r65 u9 t9 H1 locs ht hvm hw hB hz1 hk1 hS => ?_)
  obtain ⟨⟨hP, hK1, hD1⟩, hsz1⟩ := hB
  rw [ht] at hP hsz1
  have hC : CP dC dI Q A s.heap p63.2 H1 locs := ⟨hP, hD1.weaken (fun _ _ _ h => hFc _ h), hS, hsz1⟩
  generalize H1 = H at hC ⊢
  have h66 : (CS.hs σ) ≤ CS.hs p63.2 := Nat.le_trans h0 mo64
  refine W.widen (k := CS.hs p63.2 - (CS.hs σ)) (n := 17 * (CS.hs p63.2 - (CS.hs σ))) (cAcc2 h0 mo64) (cAcc3 h0 mo64) ?_
  obtain rfl : r65 = p63.1 := hw
  rcases hf_oc hf with ⟨q67, hf⟩ | ⟨a68, q67, hf⟩
  ·
    refine W.eq (congrArg (fun v9 => F0 m 130 ls (va_rf v9 :: [.int x2, .int x1, .ref (Q.o 7)])) q67) ?_
    refine W.eq (g2 := F0 m 130 ls (.null :: [.int x2, .int x1, .ref (Q.o 7)])) rfl ?_
    obtain ⟨p69, hcp69, hf⟩ := hf_bind hf
    have mo70 : CS.hs p63.2 ≤ CS.hs p69.2 := Mono.go hcp69 (m_X3_handle N p63.2 x1 x2 none)
    have hr9 : CS.hs p69.2 ≤ CS.hs R.2 := Mono.go hf (mono_some (Nat.le_refl _))
    have hFc := cFree hC hA
    refine va_callv (va_runV (As := [.int x1, .int x2, .null]) (rest := []) ⟨hx, hb, hml, hown, hts⟩ (c_X3_handle l dC dI Q N p63.2 x1 x2 none p69 hcp69) (cwV 3 hts hX3_turn_X3_handle_v227 rfl rfl rfl (by decide +kernel) ⟨(show 3 + 1 ≤ 4 by omega), (show 8 + (4 + 11) + 60 * 3 ≤ 60 * 4 by omega)⟩) ⟨zPre.blind, va_recv hK hC.1 (ci := 2) (q0 := 7) rfl rfl, cPre_go hZ hK hC⟩ rfl rfl hl.1 rfl (lv_room (Nat.le_of_ble_eq_true rfl)) dX3_turn_130 (cAcc h66 mo70 hr9)) hC.2.2.1 (fun q _ h => hFc q h) hFc (fun u9 t9 H1 locs ht hvm hw hB hz1 hk1 hS => ?_)
    obtain ⟨⟨hP, hK1, hD1⟩, hsz1⟩ := hB
    rw [ht] at hP hsz1
    have hC : CP dC dI Q A s.heap p69.2 H1 locs := ⟨hP, hD1.weaken (fun _ _ _ h => hFc _ h), hS, hsz1⟩
    generalize H1 = H at hC ⊢
    have h72 : (CS.hs σ) ≤ CS.hs p69.2 := Nat.le_trans h66 mo70
    refine W.widen (k := CS.hs p69.2 - (CS.hs σ)) (n := 17 * (CS.hs p69.2 - (CS.hs σ))) (cAcc2 h66 mo70) (cAcc3 h66 mo70) ?_
    obtain rfl := Option.some.inj hf
    exact W.vret hx hb hr (fun t ht hW => ⟨⟨(), rfl, trivial, ⟨by rw [ht]; exact hC.1, va_K.moved hW.alike hK, hC.2.1⟩, by rw [ht]; exact hC.2.2.2⟩, hC.2.2.1.F ht⟩) hC.2.2.1.2.2 dX3_turn_133
  ·
    refine W.eq (congrArg (fun v9 => F0 m 130 ls (va_rf v9 :: [.int x2, .int x1, .ref (Q.o 7)])) q67) ?_
    refine W.eq (g2 := F0 m 130 ls (.ref a68 :: [.int x2, .int x1, .ref (Q.o 7)])) rfl ?_
    obtain ⟨p73, hcp73, hf⟩ := hf_bind hf
    have mo74 : CS.hs p63.2 ≤ CS.hs p73.2 := Mono.go hcp73 (m_X3_handle N p63.2 x1 x2 (some a68))
    have hr9 : CS.hs p73.2 ≤ CS.hs R.2 := Mono.go hf (mono_some (Nat.le_refl _))
    have hFc := cFree hC hA
    refine va_callv (va_runV (As := [.int x1, .int x2, .ref a68]) (rest := []) ⟨hx, hb, hml, hown, hts⟩ (c_X3_handle l dC dI Q N p63.2 x1 x2 (some a68) p73 hcp73) (cwV 3 hts hX3_turn_X3_handle_v227 rfl rfl rfl (by decide +kernel) ⟨(show 3 + 1 ≤ 4 by omega), (show 8 + (4 + 11) + 60 * 3 ≤ 60 * 4 by omega)⟩) ⟨zPre.blind, va_recv hK hC.1 (ci := 2) (q0 := 7) rfl rfl, cPre_go hZ hK hC⟩ rfl rfl hl.1 rfl (lv_room (Nat.le_of_ble_eq_true rfl)) dX3_turn_130 (cAcc h66 mo74 hr9)) hC.2.2.1 (fun q _ h => hFc q h) hFc (fun u9 t9 H1 locs ht hvm hw hB hz1 hk1 hS => ?_)
    obtain ⟨⟨hP, hK1, hD1⟩, hsz1⟩ := hB
    rw [ht] at hP hsz1
    have hC : CP dC dI Q A s.heap p73.2 H1 locs := ⟨hP, hD1.weaken (fun _ _ _ h => hFc _ h), hS, hsz1⟩
    generalize H1 = H at hC ⊢
    have h76 : (CS.hs σ) ≤ CS.hs p73.2 := Nat.le_trans h66 mo74
    refine W.widen (k := CS.hs p73.2 - (CS.hs σ)) (n := 17 * (CS.hs p73.2 - (CS.hs σ))) (cAcc2 h66 mo74) (cAcc3 h66 mo74) ?_
    obtain rfl := Option.some.inj hf
    exact W.vret hx hb hr (fun t ht hW => ⟨⟨(), rfl, trivial, ⟨by rw [ht]; exact hC.1, va_K.moved hW.alike hK, hC.2.1⟩, by rw [ht]; exact hC.2.2.2⟩, hC.2.2.1.F ht⟩) hC.2.2.1.2.2 dX3_turn_133
theorem k_X3_instruction_fieldLink_RX3_40_SR_Machine_code_LSR_Code : Cond.fieldLink RX3 40 "StatementRules2$Machine" "code" "LStatementRules2$Code;" ∈ wzX3_instruction := List.mem_cons_of_mem _ (List.mem_append_left _ (List.mem_of_getElem? (i := 0) rfl))
theorem i_X3_instruction_X3 : ∀ w ∈ wsX30, w ∈ wzX3_instruction := fun _ h => List.mem_cons_of_mem _ (List.mem_append_right _ (List.mem_append_left _ (h)))
theorem i_X3_instruction_X0 : ∀ w ∈ wsX00, w ∈ wzX3_instruction := fun _ h => List.mem_cons_of_mem _ (List.mem_append_right _ (List.mem_append_right _ (List.mem_append_left _ (h))))
theorem k_X3_instruction_fieldLink_RX3_57_SR_Machine_place_I : Cond.fieldLink RX3 57 "StatementRules2$Machine" "place" "I" ∈ wzX3_instruction := List.mem_cons_of_mem _ (List.mem_append_left _ (List.mem_of_getElem? (i := 1) rfl))
theorem k_X3_instruction_initialized_RX11 : Cond.initialized RX11 ∈ wzX3_instruction := List.mem_cons_of_mem _ (List.mem_append_left _ (List.mem_of_getElem? (i := 2) rfl))
theorem k_X3_instruction_static_yX11_at : Cond.static yX11_at ∈ wzX3_instruction := List.mem_cons_of_mem _ (List.mem_append_left _ (List.mem_of_getElem? (i := 3) rfl))
set_option maxHeartbeats 4000000 in
set_option maxRecDepth 100000 in
theorem c_X3_instruction (l : Launch) (dC : Nat → ClassId) (dI : Nat → Nat → Nat) (Q : CQ) (N : Nat) (σ : CS) (R : Unit × CS) (hf : f_X3_instruction N σ = some R) : Met l yX3_instruction wzX3_instruction ({ frames := 6, cells := CS.hs R.2 - CS.hs σ, slots := 17 * (CS.hs R.2 - CS.hs σ), locals := 60 * 6 }) (va_Pc [.ref (Q.o 7)] (zPre dC dI (CS.hs σ) (cW Q σ) (cT Q))) (va_Qv (fun (_ : Unit) => True) (fun (_ : Unit) (t : State) => zPost dC dI (va_A (cW Q σ) (CS.hs σ)) (cW Q R.2) (cT Q) t ∧ t.heap.size = CS.hs R.2) (va_A (cW Q σ) (CS.hs σ))) (CS.hs R.2 - CS.hs σ) (17 * (CS.hs R.2 - CS.hs σ)) (va_A (cW Q σ) (CS.hs σ)) := by
  refine Met.ofW (cc := cX3_instruction) (maxL := 3) (ret := none) (by decide) rfl ?_
  intro p e s m args below meth c s₁ B hml hv
  obtain ⟨rfl, hsz, hZ, hP, hK, hD0⟩ := hv
  have hx := B.exec
  have hb := B.bytes
  have hr := B.returns
  have hts := atoms_spec (ws := wzX3_instruction) B.pre
  have hown : s.vm.findClass RX3 = some m.cls := findClass_of_methodNamed B.named
  have hlocks := B.notSynchronized
  have hD := hD0.self (sz := CS.hs σ)
  generalize hAe : va_A (cW Q σ) (CS.hs σ) = A at hD ⊢
  have hA : ∀ q : Nat, s.heap.size ≤ q → A q := fun q h => by rw [← hAe]; exact Or.inr (hsz ▸ h)
  have hC : CP dC dI Q A s.heap σ s.heap [] := ⟨hP, hD, va_S.rf, hsz⟩
  have h0 : CS.hs σ ≤ CS.hs σ := Nat.le_refl _
  have hl := lv_entry ([.ref (Q.o 7)]) (n := 3) (Nat.le_of_ble_eq_true rfl)
  rw [lg_entry_eq]
  generalize (lg_sl ([.ref (Q.o 7)]) ++ List.replicate (3 - (lg_sl ([.ref (Q.o 7)])).length) Slot.unset).toArray = ls at hl ⊢
  have hl : lv_has ls 3 [(0, .ref (Q.o 7))] := hl
  unfold f_X3_instruction at hf
  refine W.widen (k := CS.hs σ - CS.hs σ) (n := 17 * (CS.hs σ - CS.hs σ)) (Nat.zero_le _) (Nat.zero_le _) ?_
  refine lv_aload_n hx hb dX3_instruction_0 rfl (lv_at hl 0 rfl) ?_
  refine cG_58 hx hb hts i_X3_instruction_X3 hown hK hC (hts (.fieldLink RX3 40 "StatementRules2$Machine" "code" "LStatementRules2$Code;") k_X3_instruction_fieldLink_RX3_40_SR_Machine_code_LSR_Code) (fun _ q9 => q9) dX3_instruction_1 ?_
  refine cGN_15 hx hb hts i_X3_instruction_X0 hown hK hC (va_Nw.use rfl (hZ.1 (.fieldLinkNest RX3 108 "StatementRules2$Code" "ops" "[I" "StatementRules2") (by decide +kernel))) (fun _ q9 => q9) dX3_instruction_4 ?_
  refine lv_aload_n hx hb dX3_instruction_7 rfl (lv_at hl 0 rfl) ?_
  refine cG_66 (v := (σ.i 66)) hx hb hts i_X3_instruction_X3 hown hK hC (hts (.fieldLink RX3 57 "StatementRules2$Machine" "place" "I") k_X3_instruction_fieldLink_RX3_57_SR_Machine_place_I) (fun _ q9 => q9) dX3_instruction_8 rfl ?_
  have he9 := (cArr_15 (Q := Q) (σ := σ))
  have hFc := cFree1 hC hA he9
  have hr9 : CS.hs σ ≤ CS.hs R.2 := Mono.go hf (mono_ite (mono_ite (mono_ite (mono_ite (mono_bind (m_X3_turn N (CS.setI σ 66 ((σ.i 66) + 1)) (gAt (σ.a 15) 1200 (σ.i 66)) (gAt (σ.a 16) 1200 (σ.i 66))) (fun p7 => (mono_some (Nat.le_refl _)))) (mono_bind (m_X3_act N (CS.setI σ 66 ((σ.i 66) + 1)) (gAt (σ.a 15) 1200 (σ.i 66)) (gAt (σ.a 16) 1200 (σ.i 66))) (fun p11 => (mono_some (Nat.le_refl _))))) (mono_bind (m_X3_steer N (CS.setI σ 66 ((σ.i 66) + 1)) (gAt (σ.a 15) 1200 (σ.i 66)) (gAt (σ.a 16) 1200 (σ.i 66))) (fun p15 => (mono_some (Nat.le_refl _))))) (mono_bind (m_X3_combine N (CS.setI σ 66 ((σ.i 66) + 1)) (gAt (σ.a 15) 1200 (σ.i 66))) (fun p19 => (mono_some (Nat.le_refl _))))) (mono_bind (m_X3_move N (CS.setI σ 66 ((σ.i 66) + 1)) (gAt (σ.a 15) 1200 (σ.i 66)) (gAt (σ.a 16) 1200 (σ.i 66))) (fun p23 => (mono_some (Nat.le_refl _)))))
  refine va_calli (va_runSN (As := [.ref (Q.q 15), .int (σ.i 66)]) (rest := []) ⟨hx, hb, hml, hown, hts⟩ (c_X11_at l dC dI _ (Q.q 15) (Q.c 0) 1200 (σ.a 15) (σ.i 66) (by decide)) ⟨va_cnB 2 hts hX3_instruction_X11_at_n111 rfl rfl rfl (hZ.1 (.methodLinkNest RX3 111 yX11_at "StatementRules2") (by decide +kernel)) (hts (.initialized RX11) k_X3_instruction_initialized_RX11) (by decide +kernel) ⟨(show 1 + 1 ≤ 6 by omega), (show 8 + (2 + 11) + 60 * 1 ≤ 60 * 6 by omega)⟩, (hts (.static yX11_at) k_X3_instruction_static_yX11_at), trivial⟩ ⟨zPre.blind, zPre.go hZ (cOne hC.1 he9) (hK.sub (tys' := [(Q.c 0, .int)]) [0] rfl) (cOneD hC.2.1 he9)⟩ rfl rfl hl.1 rfl (lv_room (Nat.le_of_ble_eq_true rfl)) dX3_instruction_11 ⟨cAcc4 h0 hr9, cAcc5 h0 hr9⟩) hC.2.2.1 (fun q _ h => hFc q h) hFc (fun r1 u9 t9 H1 locs ht hvm hw hB hz1 hk1 hS => ?_)
  obtain ⟨⟨hP1, hK1, hD1⟩, hsz1⟩ := hB
  rw [ht] at hP1 hsz1
  have hC := cBack (σ' := σ) hC he9 (cSelf he9) (Eq.refl (CS.hs σ)) hk1 hP1 hsz1 hS
  generalize H1 = H at hC ⊢
  obtain rfl : r1 = (gAt (σ.a 15) 1200 (σ.i 66)) := hw
  refine lv_istore_n (lv' := [(1, .int (gAt (σ.a 15) 1200 (σ.i 66))), (0, .ref (Q.o 7))]) hx hb dX3_instruction_14 rfl hl (by decide) rfl (fun ls hl => ?_)
  refine lv_aload_n hx hb dX3_instruction_15 rfl (lv_at hl 1 rfl) ?_
  refine cG_58 hx hb hts i_X3_instruction_X3 hown hK hC (hts (.fieldLink RX3 40 "StatementRules2$Machine" "code" "LStatementRules2$Code;") k_X3_instruction_fieldLink_RX3_40_SR_Machine_code_LSR_Code) (fun _ q9 => q9) dX3_instruction_16 ?_
  refine cGN_16 hx hb hts i_X3_instruction_X0 hown hK hC (va_Nw.use rfl (hZ.1 (.fieldLinkNest RX3 115 "StatementRules2$Code" "arguments" "[I" "StatementRules2") (by decide +kernel))) (fun _ q9 => q9) dX3_instruction_19 ?_
  refine lv_aload_n hx hb dX3_instruction_22 rfl (lv_at hl 1 rfl) ?_
  refine cG_66 (v := (σ.i 66)) hx hb hts i_X3_instruction_X3 hown hK hC (hts (.fieldLink RX3 57 "StatementRules2$Machine" "place" "I") k_X3_instruction_fieldLink_RX3_57_SR_Machine_place_I) (fun _ q9 => q9) dX3_instruction_23 rfl ?_
  have he9 := (cArr_16 (Q := Q) (σ := σ))
  have hFc := cFree1 hC hA he9
  have hr9 : CS.hs σ ≤ CS.hs R.2 := Mono.go hf (mono_ite (mono_ite (mono_ite (mono_ite (mono_bind (m_X3_turn N (CS.setI σ 66 ((σ.i 66) + 1)) (gAt (σ.a 15) 1200 (σ.i 66)) (gAt (σ.a 16) 1200 (σ.i 66))) (fun p7 => (mono_some (Nat.le_refl _)))) (mono_bind (m_X3_act N (CS.setI σ 66 ((σ.i 66) + 1)) (gAt (σ.a 15) 1200 (σ.i 66)) (gAt (σ.a 16) 1200 (σ.i 66))) (fun p11 => (mono_some (Nat.le_refl _))))) (mono_bind (m_X3_steer N (CS.setI σ 66 ((σ.i 66) + 1)) (gAt (σ.a 15) 1200 (σ.i 66)) (gAt (σ.a 16) 1200 (σ.i 66))) (fun p15 => (mono_some (Nat.le_refl _))))) (mono_bind (m_X3_combine N (CS.setI σ 66 ((σ.i 66) + 1)) (gAt (σ.a 15) 1200 (σ.i 66))) (fun p19 => (mono_some (Nat.le_refl _))))) (mono_bind (m_X3_move N (CS.setI σ 66 ((σ.i 66) + 1)) (gAt (σ.a 15) 1200 (σ.i 66)) (gAt (σ.a 16) 1200 (σ.i 66))) (fun p23 => (mono_some (Nat.le_refl _)))))
  refine va_calli (va_runSN (As := [.ref (Q.q 16), .int (σ.i 66)]) (rest := []) ⟨hx, hb, hml, hown, hts⟩ (c_X11_at l dC dI _ (Q.q 16) (Q.c 0) 1200 (σ.a 16) (σ.i 66) (by decide)) ⟨va_cnB 2 hts hX3_instruction_X11_at_n111 rfl rfl rfl (hZ.1 (.methodLinkNest RX3 111 yX11_at "StatementRules2") (by decide +kernel)) (hts (.initialized RX11) k_X3_instruction_initialized_RX11) (by decide +kernel) ⟨(show 1 + 1 ≤ 6 by omega), (show 8 + (2 + 11) + 60 * 1 ≤ 60 * 6 by omega)⟩, (hts (.static yX11_at) k_X3_instruction_static_yX11_at), trivial⟩ ⟨zPre.blind, zPre.go hZ (cOne hC.1 he9) (hK.sub (tys' := [(Q.c 0, .int)]) [0] rfl) (cOneD hC.2.1 he9)⟩ rfl rfl hl.1 rfl (lv_room (Nat.le_of_ble_eq_true rfl)) dX3_instruction_26 ⟨cAcc4 h0 hr9, cAcc5 h0 hr9⟩) hC.2.2.1 (fun q _ h => hFc q h) hFc (fun r2 u9 t9 H1 locs ht hvm hw hB hz1 hk1 hS => ?_)
  obtain ⟨⟨hP1, hK1, hD1⟩, hsz1⟩ := hB
  rw [ht] at hP1 hsz1
  have hC := cBack (σ' := σ) hC he9 (cSelf he9) (Eq.refl (CS.hs σ)) hk1 hP1 hsz1 hS
  generalize H1 = H at hC ⊢
  obtain rfl : r2 = (gAt (σ.a 16) 1200 (σ.i 66)) := hw
  refine lv_istore_n (lv' := [(2, .int (gAt (σ.a 16) 1200 (σ.i 66))), (1, .int (gAt (σ.a 15) 1200 (σ.i 66))), (0, .ref (Q.o 7))]) hx hb dX3_instruction_29 rfl hl (by decide) rfl (fun ls hl => ?_)
  refine lv_aload_n hx hb dX3_instruction_30 rfl (lv_at hl 2 rfl) ?_
  refine lv_dup hx hb dX3_instruction_31 rfl ?_
  refine cG_66 (v := (σ.i 66)) hx hb hts i_X3_instruction_X3 hown hK hC (hts (.fieldLink RX3 57 "StatementRules2$Machine" "place" "I") k_X3_instruction_fieldLink_RX3_57_SR_Machine_place_I) (fun _ q9 => q9) dX3_instruction_32 rfl ?_
  refine lv_iconst (v := 1) hx hb dX3_instruction_35 (by decide) ?_
  refine lv_iadd hx hb dX3_instruction_36 ?_
  refine cP_66 (v := ((σ.i 66) + 1)) hx hb hts i_X3_instruction_X3 hown hK hC (hts (.fieldLink RX3 57 "StatementRules2$Machine" "place" "I") k_X3_instruction_fieldLink_RX3_57_SR_Machine_place_I) (fun _ q9 => q9) dX3_instruction_37 (fun H locs hC => ?_)
  refine lv_iload_n hx hb dX3_instruction_40 rfl (lv_at hl 1 rfl) ?_
  refine lv_bipush (v := 7) hx hb dX3_instruction_41 (by decide) ?_
  refine lv_icmp_ge (tgt := 55) hx hb dX3_instruction_43 (by decide) (fun c3 => ?_) (fun c3 => ?_)
  ·
    replace hf := (if_pos c3).symm.trans hf
    refine lv_iload_n hx hb dX3_instruction_55 rfl (lv_at hl 1 rfl) ?_
    refine lv_bipush (v := 30) hx hb dX3_instruction_56 (by decide) ?_
    refine lv_icmp_ge (tgt := 69) hx hb dX3_instruction_58 (by decide) (fun c4 => ?_) (fun c4 => ?_)
    ·
      replace hf := (if_pos c4).symm.trans hf
      refine lv_iload_n hx hb dX3_instruction_69 rfl (lv_at hl 1 rfl) ?_
      refine lv_bipush (v := 50) hx hb dX3_instruction_70 (by decide) ?_
      refine lv_icmp_ge (tgt := 84) hx hb dX3_instruction_72 (by decide) (fun c5 => ?_) (fun c5 => ?_)
      ·
        replace hf := (if_pos c5).symm.trans hf
        refine lv_iload_n hx hb dX3_instruction_84 rfl (lv_at hl 1 rfl) ?_
        refine lv_bipush (v := 56) hx hb dX3_instruction_85 (by decide) ?_
        refine lv_icmp_ge (tgt := 99) hx hb dX3_instruction_87 (by decide) (fun c6 => ?_) (fun c6 => ?_)
        ·
          replace hf := (if_pos c6).symm.trans hf
          refine lv_aload_n hx hb dX3_instruction_99 rfl (lv_at hl 2 rfl) ?_
          refine lv_iload_n hx hb dX3_instruction_100 rfl (lv_at hl 1 rfl) ?_
          refine lv_iload_n hx hb dX3_instruction_101 rfl (lv_at hl 0 rfl) ?_
          obtain ⟨p7, hcp7, hf⟩ := hf_bind hf
          have mo8 : CS.hs σ ≤ CS.hs p7.2 := Mono.go hcp7 (m_X3_turn N (CS.setI σ 66 ((σ.i 66) + 1)) (gAt (σ.a 15) 1200 (σ.i 66)) (gAt (σ.a 16) 1200 (σ.i 66)))
          have hr9 : CS.hs p7.2 ≤ CS.hs R.2 := Mono.go hf (mono_some (Nat.le_refl _))
          have hFc := cFree hC hA
          refine va_callv (va_runV (As := [.int (gAt (σ.a 15) 1200 (σ.i 66)), .int (gAt (σ.a 16) 1200 (σ.i 66))]) (rest := []) ⟨hx, hb, hml, hown, hts⟩ (c_X3_turn l dC dI Q N (CS.setI σ 66 ((σ.i 66) + 1)) (gAt (σ.a 15) 1200 (σ.i 66)) (gAt (σ.a 16) 1200 (σ.i 66)) p7 hcp7) (cwV 2 hts hX3_instruction_X3_turn_v132 rfl rfl rfl (by decide +kernel) ⟨(show 4 + 1 ≤ 6 by omega), (show 8 + (3 + 11) + 60 * 4 ≤ 60 * 6 by omega)⟩) ⟨zPre.blind, va_recv hK hC.1 (ci := 2) (q0 := 7) rfl rfl, cPre_go hZ hK hC⟩ rfl rfl hl.1 rfl (lv_room (Nat.le_of_ble_eq_true rfl)) dX3_instruction_102 (cAcc h0 mo8 hr9)) hC.2.2.1 (fun q _ h => hFc q h) hFc (fun u9 t9 H1 locs ht hvm hw hB hz1 hk1 hS => ?_)
          obtain ⟨⟨hP, hK1, hD1⟩, hsz1⟩ := hB
          rw [ht] at hP hsz1
          have hC : CP dC dI Q A s.heap p7.2 H1 locs := ⟨hP, hD1.weaken (fun _ _ _ h => hFc _ h), hS, hsz1⟩
          generalize H1 = H at hC ⊢
          have h10 : (CS.hs σ) ≤ CS.hs p7.2 := Nat.le_trans h0 mo8
          refine W.widen (k := CS.hs p7.2 - (CS.hs σ)) (n := 17 * (CS.hs p7.2 - (CS.hs σ))) (cAcc2 h0 mo8) (cAcc3 h0 mo8) ?_
          obtain rfl := Option.some.inj hf
          exact W.vret hx hb hr (fun t ht hW => ⟨⟨(), rfl, trivial, ⟨by rw [ht]; exact hC.1, va_K.moved hW.alike hK, hC.2.1⟩, by rw [ht]; exact hC.2.2.2⟩, hC.2.2.1.F ht⟩) hC.2.2.1.2.2 dX3_instruction_105
        ·
          replace hf := (if_neg c6).symm.trans hf
          refine lv_aload_n hx hb dX3_instruction_90 rfl (lv_at hl 2 rfl) ?_
          refine lv_iload_n hx hb dX3_instruction_91 rfl (lv_at hl 1 rfl) ?_
          refine lv_iload_n hx hb dX3_instruction_92 rfl (lv_at hl 0 rfl) ?_
          obtain ⟨p11, hcp11, hf⟩ := hf_bind hf
          have mo12 : CS.hs σ ≤ CS.hs p11.2 := Mono.go hcp11 (m_X3_act N (CS.setI σ 66 ((σ.i 66) + 1)) (gAt (σ.a 15) 1200 (σ.i 66)) (gAt (σ.a 16) 1200 (σ.i 66)))
          have hr9 : CS.hs p11.2 ≤ CS.hs R.2 := Mono.go hf (mono_some (Nat.le_refl _))
          have hFc := cFree hC hA
          refine va_callv (va_runV (As := [.int (gAt (σ.a 15) 1200 (σ.i 66)), .int (gAt (σ.a 16) 1200 (σ.i 66))]) (rest := []) ⟨hx, hb, hml, hown, hts⟩ (c_X3_act l dC dI Q N (CS.setI σ 66 ((σ.i 66) + 1)) (gAt (σ.a 15) 1200 (σ.i 66)) (gAt (σ.a 16) 1200 (σ.i 66)) p11 hcp11) (cwV 2 hts hX3_instruction_X3_act_v129 rfl rfl rfl (by decide +kernel) ⟨(show 5 + 1 ≤ 6 by omega), (show 8 + (3 + 11) + 60 * 5 ≤ 60 * 6 by omega)⟩) ⟨zPre.blind, va_recv hK hC.1 (ci := 2) (q0 := 7) rfl rfl, cPre_go hZ hK hC⟩ rfl rfl hl.1 rfl (lv_room (Nat.le_of_ble_eq_true rfl)) dX3_instruction_93 (cAcc h0 mo12 hr9)) hC.2.2.1 (fun q _ h => hFc q h) hFc (fun u9 t9 H1 locs ht hvm hw hB hz1 hk1 hS => ?_)
          obtain ⟨⟨hP, hK1, hD1⟩, hsz1⟩ := hB
          rw [ht] at hP hsz1
          have hC : CP dC dI Q A s.heap p11.2 H1 locs := ⟨hP, hD1.weaken (fun _ _ _ h => hFc _ h), hS, hsz1⟩
          generalize H1 = H at hC ⊢
          have h14 : (CS.hs σ) ≤ CS.hs p11.2 := Nat.le_trans h0 mo12
          refine W.widen (k := CS.hs p11.2 - (CS.hs σ)) (n := 17 * (CS.hs p11.2 - (CS.hs σ))) (cAcc2 h0 mo12) (cAcc3 h0 mo12) ?_
          refine lv_goto (tgt := 105) hx hb dX3_instruction_96 (by decide) ?_
          obtain rfl := Option.some.inj hf
          exact W.vret hx hb hr (fun t ht hW => ⟨⟨(), rfl, trivial, ⟨by rw [ht]; exact hC.1, va_K.moved hW.alike hK, hC.2.1⟩, by rw [ht]; exact hC.2.2.2⟩, hC.2.2.1.F ht⟩) hC.2.2.1.2.2 dX3_instruction_105
      ·
        replace hf := (if_neg c5).symm.trans hf
        refine lv_aload_n hx hb dX3_instruction_75 rfl (lv_at hl 2 rfl) ?_
        refine lv_iload_n hx hb dX3_instruction_76 rfl (lv_at hl 1 rfl) ?_
        refine lv_iload_n hx hb dX3_instruction_77 rfl (lv_at hl 0 rfl) ?_
        obtain ⟨p15, hcp15, hf⟩ := hf_bind hf
        have mo16 : CS.hs σ ≤ CS.hs p15.2 := Mono.go hcp15 (m_X3_steer N (CS.setI σ 66 ((σ.i 66) + 1)) (gAt (σ.a 15) 1200 (σ.i 66)) (gAt (σ.a 16) 1200 (σ.i 66)))
        have hr9 : CS.hs p15.2 ≤ CS.hs R.2 := Mono.go hf (mono_some (Nat.le_refl _))
        have hFc := cFree hC hA
        refine va_callv (va_runV (As := [.int (gAt (σ.a 15) 1200 (σ.i 66)), .int (gAt (σ.a 16) 1200 (σ.i 66))]) (rest := []) ⟨hx, hb, hml, hown, hts⟩ (c_X3_steer l dC dI Q N (CS.setI σ 66 ((σ.i 66) + 1)) (gAt (σ.a 15) 1200 (σ.i 66)) (gAt (σ.a 16) 1200 (σ.i 66)) p15 hcp15) (cwV 2 hts hX3_instruction_X3_steer_v126 rfl rfl rfl (by decide +kernel) ⟨(show 4 + 1 ≤ 6 by omega), (show 8 + (3 + 11) + 60 * 4 ≤ 60 * 6 by omega)⟩) ⟨zPre.blind, va_recv hK hC.1 (ci := 2) (q0 := 7) rfl rfl, cPre_go hZ hK hC⟩ rfl rfl hl.1 rfl (lv_room (Nat.le_of_ble_eq_true rfl)) dX3_instruction_78 (cAcc h0 mo16 hr9)) hC.2.2.1 (fun q _ h => hFc q h) hFc (fun u9 t9 H1 locs ht hvm hw hB hz1 hk1 hS => ?_)
        obtain ⟨⟨hP, hK1, hD1⟩, hsz1⟩ := hB
        rw [ht] at hP hsz1
        have hC : CP dC dI Q A s.heap p15.2 H1 locs := ⟨hP, hD1.weaken (fun _ _ _ h => hFc _ h), hS, hsz1⟩
        generalize H1 = H at hC ⊢
        have h18 : (CS.hs σ) ≤ CS.hs p15.2 := Nat.le_trans h0 mo16
        refine W.widen (k := CS.hs p15.2 - (CS.hs σ)) (n := 17 * (CS.hs p15.2 - (CS.hs σ))) (cAcc2 h0 mo16) (cAcc3 h0 mo16) ?_
        refine lv_goto (tgt := 105) hx hb dX3_instruction_81 (by decide) ?_
        obtain rfl := Option.some.inj hf
        exact W.vret hx hb hr (fun t ht hW => ⟨⟨(), rfl, trivial, ⟨by rw [ht]; exact hC.1, va_K.moved hW.alike hK, hC.2.1⟩, by rw [ht]; exact hC.2.2.2⟩, hC.2.2.1.F ht⟩) hC.2.2.1.2.2 dX3_instruction_105
    ·
      replace hf := (if_neg c4).symm.trans hf
      refine lv_aload_n hx hb dX3_instruction_61 rfl (lv_at hl 2 rfl) ?_
      refine lv_iload_n hx hb dX3_instruction_62 rfl (lv_at hl 1 rfl) ?_
      obtain ⟨p19, hcp19, hf⟩ := hf_bind hf
      have mo20 : CS.hs σ ≤ CS.hs p19.2 := Mono.go hcp19 (m_X3_combine N (CS.setI σ 66 ((σ.i 66) + 1)) (gAt (σ.a 15) 1200 (σ.i 66)))
      have hr9 : CS.hs p19.2 ≤ CS.hs R.2 := Mono.go hf (mono_some (Nat.le_refl _))
      have hFc := cFree hC hA
      refine va_callv (va_runV (As := [.int (gAt (σ.a 15) 1200 (σ.i 66))]) (rest := []) ⟨hx, hb, hml, hown, hts⟩ (c_X3_combine l dC dI Q N (CS.setI σ 66 ((σ.i 66) + 1)) (gAt (σ.a 15) 1200 (σ.i 66)) p19 hcp19) (cwV 1 hts hX3_instruction_X3_combine_v122 rfl rfl rfl (by decide +kernel) ⟨(show 5 + 1 ≤ 6 by omega), (show 8 + (4 + 11) + 60 * 5 ≤ 60 * 6 by omega)⟩) ⟨zPre.blind, va_recv hK hC.1 (ci := 2) (q0 := 7) rfl rfl, cPre_go hZ hK hC⟩ rfl rfl hl.1 rfl (lv_room (Nat.le_of_ble_eq_true rfl)) dX3_instruction_63 (cAcc h0 mo20 hr9)) hC.2.2.1 (fun q _ h => hFc q h) hFc (fun u9 t9 H1 locs ht hvm hw hB hz1 hk1 hS => ?_)
      obtain ⟨⟨hP, hK1, hD1⟩, hsz1⟩ := hB
      rw [ht] at hP hsz1
      have hC : CP dC dI Q A s.heap p19.2 H1 locs := ⟨hP, hD1.weaken (fun _ _ _ h => hFc _ h), hS, hsz1⟩
      generalize H1 = H at hC ⊢
      have h22 : (CS.hs σ) ≤ CS.hs p19.2 := Nat.le_trans h0 mo20
      refine W.widen (k := CS.hs p19.2 - (CS.hs σ)) (n := 17 * (CS.hs p19.2 - (CS.hs σ))) (cAcc2 h0 mo20) (cAcc3 h0 mo20) ?_
      refine lv_goto (tgt := 105) hx hb dX3_instruction_66 (by decide) ?_
      obtain rfl := Option.some.inj hf
      exact W.vret hx hb hr (fun t ht hW => ⟨⟨(), rfl, trivial, ⟨by rw [ht]; exact hC.1, va_K.moved hW.alike hK, hC.2.1⟩, by rw [ht]; exact hC.2.2.2⟩, hC.2.2.1.F ht⟩) hC.2.2.1.2.2 dX3_instruction_105
  ·
    replace hf := (if_neg c3).symm.trans hf
    refine lv_aload_n hx hb dX3_instruction_46 rfl (lv_at hl 2 rfl) ?_
    refine lv_iload_n hx hb dX3_instruction_47 rfl (lv_at hl 1 rfl) ?_
    refine lv_iload_n hx hb dX3_instruction_48 rfl (lv_at hl 0 rfl) ?_
    obtain ⟨p23, hcp23, hf⟩ := hf_bind hf
    have mo24 : CS.hs σ ≤ CS.hs p23.2 := Mono.go hcp23 (m_X3_move N (CS.setI σ 66 ((σ.i 66) + 1)) (gAt (σ.a 15) 1200 (σ.i 66)) (gAt (σ.a 16) 1200 (σ.i 66)))
    have hr9 : CS.hs p23.2 ≤ CS.hs R.2 := Mono.go hf (mono_some (Nat.le_refl _))
    have hFc := cFree hC hA
    refine va_callv (va_runV (As := [.int (gAt (σ.a 15) 1200 (σ.i 66)), .int (gAt (σ.a 16) 1200 (σ.i 66))]) (rest := []) ⟨hx, hb, hml, hown, hts⟩ (c_X3_move l dC dI Q N (CS.setI σ 66 ((σ.i 66) + 1)) (gAt (σ.a 15) 1200 (σ.i 66)) (gAt (σ.a 16) 1200 (σ.i 66)) p23 hcp23) (cwV 2 hts hX3_instruction_X3_move_v118 rfl rfl rfl (by decide +kernel) ⟨(show 3 + 1 ≤ 6 by omega), (show 8 + (3 + 11) + 60 * 3 ≤ 60 * 6 by omega)⟩) ⟨zPre.blind, va_recv hK hC.1 (ci := 2) (q0 := 7) rfl rfl, cPre_go hZ hK hC⟩ rfl rfl hl.1 rfl (lv_room (Nat.le_of_ble_eq_true rfl)) dX3_instruction_49 (cAcc h0 mo24 hr9)) hC.2.2.1 (fun q _ h => hFc q h) hFc (fun u9 t9 H1 locs ht hvm hw hB hz1 hk1 hS => ?_)
    obtain ⟨⟨hP, hK1, hD1⟩, hsz1⟩ := hB
    rw [ht] at hP hsz1
    have hC : CP dC dI Q A s.heap p23.2 H1 locs := ⟨hP, hD1.weaken (fun _ _ _ h => hFc _ h), hS, hsz1⟩
    generalize H1 = H at hC ⊢
    have h26 : (CS.hs σ) ≤ CS.hs p23.2 := Nat.le_trans h0 mo24
    refine W.widen (k := CS.hs p23.2 - (CS.hs σ)) (n := 17 * (CS.hs p23.2 - (CS.hs σ))) (cAcc2 h0 mo24) (cAcc3 h0 mo24) ?_
    refine lv_goto (tgt := 105) hx hb dX3_instruction_52 (by decide) ?_
    obtain rfl := Option.some.inj hf
    exact W.vret hx hb hr (fun t ht hW => ⟨⟨(), rfl, trivial, ⟨by rw [ht]; exact hC.1, va_K.moved hW.alike hK, hC.2.1⟩, by rw [ht]; exact hC.2.2.2⟩, hC.2.2.1.F ht⟩) hC.2.2.1.2.2 dX3_instruction_105
theorem k_X3_arrive_fieldLink_RX3_75_SR_Machine_way_I : Cond.fieldLink RX3 75 "StatementRules2$Machine" "way" "I" ∈ wzX3_arrive := List.mem_cons_of_mem _ (List.mem_append_left _ (List.mem_of_getElem? (i := 0) rfl))
theorem i_X3_arrive_X3 : ∀ w ∈ wsX30, w ∈ wzX3_arrive := fun _ h => List.mem_cons_of_mem _ (List.mem_append_right _ (List.mem_append_left _ (h)))
theorem k_X3_arrive_fieldLink_RX3_40_SR_Machine_code_LSR_Code : Cond.fieldLink RX3 40 "StatementRules2$Machine" "code" "LStatementRules2$Code;" ∈ wzX3_arrive := List.mem_cons_of_mem _ (List.mem_append_left _ (List.mem_of_getElem? (i := 1) rfl))
theorem i_X3_arrive_X0 : ∀ w ∈ wsX00, w ∈ wzX3_arrive := fun _ h => List.mem_cons_of_mem _ (List.mem_append_right _ (List.mem_append_right _ (List.mem_append_left _ (h))))
theorem k_X3_arrive_fieldLink_RX3_235_SR_Machine_wayTarget_I : Cond.fieldLink RX3 235 "StatementRules2$Machine" "wayTarget" "I" ∈ wzX3_arrive := List.mem_cons_of_mem _ (List.mem_append_left _ (List.mem_of_getElem? (i := 2) rfl))
theorem k_X3_arrive_initialized_RX11 : Cond.initialized RX11 ∈ wzX3_arrive := List.mem_cons_of_mem _ (List.mem_append_left _ (List.mem_of_getElem? (i := 3) rfl))
theorem k_X3_arrive_static_yX11_at : Cond.static yX11_at ∈ wzX3_arrive := List.mem_cons_of_mem _ (List.mem_append_left _ (List.mem_of_getElem? (i := 4) rfl))
theorem k_X3_arrive_fieldLink_RX3_57_SR_Machine_place_I : Cond.fieldLink RX3 57 "StatementRules2$Machine" "place" "I" ∈ wzX3_arrive := List.mem_cons_of_mem _ (List.mem_append_left _ (List.mem_of_getElem? (i := 5) rfl))
theorem k_X3_arrive_fieldLink_RX3_78_SR_Machine_wayValue_I : Cond.fieldLink RX3 78 "StatementRules2$Machine" "wayValue" "I" ∈ wzX3_arrive := List.mem_cons_of_mem _ (List.mem_append_left _ (List.mem_of_getElem? (i := 6) rfl))
theorem k_X3_arrive_fieldLink_RX3_85_SR_Machine_outcome_I : Cond.fieldLink RX3 85 "StatementRules2$Machine" "outcome" "I" ∈ wzX3_arrive := List.mem_cons_of_mem _ (List.mem_append_left _ (List.mem_of_getElem? (i := 7) rfl))
set_option maxHeartbeats 4000000 in
set_option maxRecDepth 100000 in
theorem j_X3_arrive_48 {p : Program} {e : Env} {s : State} {m : MethodId} {args : Array Value} {below : List Frame} {meth : Method} {c : Code} {A : Nat → Prop} (l : Launch) (dC : Nat → ClassId) (dI : Nat → Nat → Nat) (Q : CQ) (N : Nat) (z9h : Nat) (R : Unit × CS) (hx : p.tables.exec = Jvm.exec) (hb : c.code = cX3_arrive) (hr : meth.sig.returnType = none) (hml : c.maxLocals = 1) (hown : s.vm.findClass RX3 = some m.cls) (hts : ∀ w ∈ wzX3_arrive, w.before args s = true) (hlocks : meth.locks = false) (hZ : zAMB s) (hA : ∀ q : Nat, s.heap.size ≤ q → A q) (hK : va_K (dC, dI) vwCl (cT Q) s) : ∀ (σ : CS) (H : Heap) (locs : List Loc) (ls : Array Slot), f_X3_arrive_48 N σ = some R → z9h ≤ CS.hs σ → CP dC dI Q A s.heap σ H locs → lv_has ls 1 [(0, .ref (Q.o 7))] → W p l e ({ frames := 3, cells := CS.hs R.2 - z9h, slots := 17 * (CS.hs R.2 - z9h), locals := 60 * 3 }) s m args below meth c H locs (CS.hs σ - z9h) (17 * (CS.hs σ - z9h)) (MQ below (va_Qv (fun (_ : Unit) => True) (fun (_ : Unit) (t : State) => zPost dC dI A (cW Q R.2) (cT Q) t ∧ t.heap.size = CS.hs R.2) A) args s (CS.hs R.2 - z9h) (17 * (CS.hs R.2 - z9h)) A) (F0 m 48 ls []) := by
  intro σ  H locs ls hf h0 hC hl
  unfold f_X3_arrive_48 at hf
  refine lv_aload_n hx hb dX3_arrive_48 rfl (lv_at hl 0 rfl) ?_
  refine lv_aload_n hx hb dX3_arrive_49 rfl (lv_at hl 0 rfl) ?_
  refine cG_58 hx hb hts i_X3_arrive_X3 hown hK hC (hts (.fieldLink RX3 40 "StatementRules2$Machine" "code" "LStatementRules2$Code;") k_X3_arrive_fieldLink_RX3_40_SR_Machine_code_LSR_Code) (fun _ q9 => q9) dX3_arrive_50 ?_
  refine cGN_17 hx hb hts i_X3_arrive_X0 hown hK hC (va_Nw.use rfl (hZ.1 (.fieldLinkNest RX3 153 "StatementRules2$Code" "targets" "[I" "StatementRules2") (by decide +kernel))) (fun _ q9 => q9) dX3_arrive_53 ?_
  refine lv_aload_n hx hb dX3_arrive_56 rfl (lv_at hl 0 rfl) ?_
  refine cG_75 (v := (σ.i 75)) hx hb hts i_X3_arrive_X3 hown hK hC (hts (.fieldLink RX3 235 "StatementRules2$Machine" "wayTarget" "I") k_X3_arrive_fieldLink_RX3_235_SR_Machine_wayTarget_I) (fun _ q9 => q9) dX3_arrive_57 rfl ?_
  refine lv_bipush (v := 32) hx hb dX3_arrive_60 (by decide) ?_
  refine lv_idiv hx hb dX3_arrive_62 (by decide) ?_
  have he9 := (cArr_17 (Q := Q) (σ := σ))
  have hFc := cFree1 hC hA he9
  have hr9 : CS.hs σ ≤ CS.hs R.2 := Mono.go hf (mono_some (Nat.le_refl _))
  refine va_calli (va_runSN (As := [.ref (Q.q 17), .int ((σ.i 75) / 32)]) (rest := [.ref (Q.o 7)]) ⟨hx, hb, hml, hown, hts⟩ (c_X11_at l dC dI _ (Q.q 17) (Q.c 0) 1024 (σ.a 17) ((σ.i 75) / 32) (by decide)) ⟨va_cnB 2 hts hX3_arrive_X11_at_n111 rfl rfl rfl (hZ.1 (.methodLinkNest RX3 111 yX11_at "StatementRules2") (by decide +kernel)) (hts (.initialized RX11) k_X3_arrive_initialized_RX11) (by decide +kernel) ⟨(show 1 + 1 ≤ 3 by omega), (show 8 + (2 + 11) + 60 * 1 ≤ 60 * 3 by omega)⟩, (hts (.static yX11_at) k_X3_arrive_static_yX11_at), trivial⟩ ⟨zPre.blind, zPre.go hZ (cOne hC.1 he9) (hK.sub (tys' := [(Q.c 0, .int)]) [0] rfl) (cOneD hC.2.1 he9)⟩ rfl rfl hl.1 rfl (lv_room (Nat.le_of_ble_eq_true rfl)) dX3_arrive_63 ⟨cAcc4 h0 hr9, cAcc5 h0 hr9⟩) hC.2.2.1 (fun q _ h => hFc q h) hFc (fun r4 u9 t9 H1 locs ht hvm hw hB hz1 hk1 hS => ?_)
  obtain ⟨⟨hP1, hK1, hD1⟩, hsz1⟩ := hB
  rw [ht] at hP1 hsz1
  have hC := cBack (σ' := σ) hC he9 (cSelf he9) (Eq.refl (CS.hs σ)) hk1 hP1 hsz1 hS
  generalize H1 = H at hC ⊢
  obtain rfl : r4 = (gAt (σ.a 17) 1024 ((σ.i 75) / 32)) := hw
  refine cP_66 (v := (gAt (σ.a 17) 1024 ((σ.i 75) / 32))) hx hb hts i_X3_arrive_X3 hown hK hC (hts (.fieldLink RX3 57 "StatementRules2$Machine" "place" "I") k_X3_arrive_fieldLink_RX3_57_SR_Machine_place_I) (fun _ q9 => q9) dX3_arrive_66 (fun H locs hC => ?_)
  refine lv_aload_n hx hb dX3_arrive_69 rfl (lv_at hl 0 rfl) ?_
  refine lv_iconst (v := 0) hx hb dX3_arrive_70 (by decide) ?_
  refine cP_73 (v := 0) hx hb hts i_X3_arrive_X3 hown hK hC (hts (.fieldLink RX3 75 "StatementRules2$Machine" "way" "I") k_X3_arrive_fieldLink_RX3_75_SR_Machine_way_I) (fun _ q9 => q9) dX3_arrive_71 (fun H locs hC => ?_)
  obtain rfl := Option.some.inj hf
  exact W.vret hx hb hr (fun t ht hW => ⟨⟨(), rfl, trivial, ⟨by rw [ht]; exact hC.1, va_K.moved hW.alike hK, hC.2.1⟩, by rw [ht]; exact hC.2.2.2⟩, hC.2.2.1.F ht⟩) hC.2.2.1.2.2 dX3_arrive_74
set_option maxHeartbeats 4000000 in
set_option maxRecDepth 100000 in
theorem c_X3_arrive (l : Launch) (dC : Nat → ClassId) (dI : Nat → Nat → Nat) (Q : CQ) (N : Nat) (σ : CS) (R : Unit × CS) (hf : f_X3_arrive N σ = some R) : Met l yX3_arrive wzX3_arrive ({ frames := 3, cells := CS.hs R.2 - CS.hs σ, slots := 17 * (CS.hs R.2 - CS.hs σ), locals := 60 * 3 }) (va_Pc [.ref (Q.o 7)] (zPre dC dI (CS.hs σ) (cW Q σ) (cT Q))) (va_Qv (fun (_ : Unit) => True) (fun (_ : Unit) (t : State) => zPost dC dI (va_A (cW Q σ) (CS.hs σ)) (cW Q R.2) (cT Q) t ∧ t.heap.size = CS.hs R.2) (va_A (cW Q σ) (CS.hs σ))) (CS.hs R.2 - CS.hs σ) (17 * (CS.hs R.2 - CS.hs σ)) (va_A (cW Q σ) (CS.hs σ)) := by
  refine Met.ofW (cc := cX3_arrive) (maxL := 1) (ret := none) (by decide) rfl ?_
  intro p e s m args below meth c s₁ B hml hv
  obtain ⟨rfl, hsz, hZ, hP, hK, hD0⟩ := hv
  have hx := B.exec
  have hb := B.bytes
  have hr := B.returns
  have hts := atoms_spec (ws := wzX3_arrive) B.pre
  have hown : s.vm.findClass RX3 = some m.cls := findClass_of_methodNamed B.named
  have hlocks := B.notSynchronized
  have hD := hD0.self (sz := CS.hs σ)
  generalize hAe : va_A (cW Q σ) (CS.hs σ) = A at hD ⊢
  have hA : ∀ q : Nat, s.heap.size ≤ q → A q := fun q h => by rw [← hAe]; exact Or.inr (hsz ▸ h)
  have hC : CP dC dI Q A s.heap σ s.heap [] := ⟨hP, hD, va_S.rf, hsz⟩
  have h0 : CS.hs σ ≤ CS.hs σ := Nat.le_refl _
  have hl := lv_entry ([.ref (Q.o 7)]) (n := 1) (Nat.le_of_ble_eq_true rfl)
  rw [lg_entry_eq]
  generalize (lg_sl ([.ref (Q.o 7)]) ++ List.replicate (1 - (lg_sl ([.ref (Q.o 7)])).length) Slot.unset).toArray = ls at hl ⊢
  have hl : lv_has ls 1 [(0, .ref (Q.o 7))] := hl
  unfold f_X3_arrive at hf
  refine W.widen (k := CS.hs σ - CS.hs σ) (n := 17 * (CS.hs σ - CS.hs σ)) (Nat.zero_le _) (Nat.zero_le _) ?_
  refine lv_aload_n hx hb dX3_arrive_0 rfl (lv_at hl 0 rfl) ?_
  refine cG_73 (v := (σ.i 73)) hx hb hts i_X3_arrive_X3 hown hK hC (hts (.fieldLink RX3 75 "StatementRules2$Machine" "way" "I") k_X3_arrive_fieldLink_RX3_75_SR_Machine_way_I) (fun _ q9 => q9) dX3_arrive_1 rfl ?_
  refine lv_iconst (v := 3) hx hb dX3_arrive_4 (by decide) ?_
  refine lv_icmp_ne (tgt := 16) hx hb dX3_arrive_5 (by decide) (fun c1 => ?_) (fun c1 => ?_)
  ·
    replace hf := (if_neg c1).symm.trans hf
    refine lv_aload_n hx hb dX3_arrive_16 rfl (lv_at hl 0 rfl) ?_
    refine cG_73 (v := (σ.i 73)) hx hb hts i_X3_arrive_X3 hown hK hC (hts (.fieldLink RX3 75 "StatementRules2$Machine" "way" "I") k_X3_arrive_fieldLink_RX3_75_SR_Machine_way_I) (fun _ q9 => q9) dX3_arrive_17 rfl ?_
    refine lv_iconst (v := 4) hx hb dX3_arrive_20 (by decide) ?_
    refine lv_icmp_ne (tgt := 32) hx hb dX3_arrive_21 (by decide) (fun c2 => ?_) (fun c2 => ?_)
    ·
      replace hf := (if_neg c2).symm.trans hf
      refine lv_aload_n hx hb dX3_arrive_32 rfl (lv_at hl 0 rfl) ?_
      refine cG_73 (v := (σ.i 73)) hx hb hts i_X3_arrive_X3 hown hK hC (hts (.fieldLink RX3 75 "StatementRules2$Machine" "way" "I") k_X3_arrive_fieldLink_RX3_75_SR_Machine_way_I) (fun _ q9 => q9) dX3_arrive_33 rfl ?_
      refine lv_iconst (v := 2) hx hb dX3_arrive_36 (by decide) ?_
      refine lv_icmp_ne (tgt := 48) hx hb dX3_arrive_37 (by decide) (fun c3 => ?_) (fun c3 => ?_)
      ·
        replace hf := (if_neg c3).symm.trans hf
        exact j_X3_arrive_48 l dC dI Q N (CS.hs σ) R hx hb hr hml hown hts hlocks hZ hA hK σ _ _ _ hf h0 hC (lv_sub hl [0] rfl)
      ·
        replace hf := (if_pos c3).symm.trans hf
        refine lv_aload_n hx hb dX3_arrive_40 rfl (lv_at hl 0 rfl) ?_
        refine lv_aload_n hx hb dX3_arrive_41 rfl (lv_at hl 0 rfl) ?_
        refine cG_74 (v := (σ.i 74)) hx hb hts i_X3_arrive_X3 hown hK hC (hts (.fieldLink RX3 78 "StatementRules2$Machine" "wayValue" "I") k_X3_arrive_fieldLink_RX3_78_SR_Machine_wayValue_I) (fun _ q9 => q9) dX3_arrive_42 rfl ?_
        obtain ⟨p5, hcp5, hf⟩ := hf_bind hf
        have mo6 : CS.hs σ ≤ CS.hs p5.2 := Mono.go hcp5 (m_X3_push N σ (σ.i 74))
        have hr9 : CS.hs p5.2 ≤ CS.hs R.2 := Mono.go hf (m_X3_arrive_48 N p5.2)
        have hFc := cFree hC hA
        refine va_callv (va_runV (As := [.int (σ.i 74)]) (rest := []) ⟨hx, hb, hml, hown, hts⟩ (c_X3_push l dC dI Q N σ (σ.i 74) p5 hcp5) (cwV 1 hts hX3_arrive_X3_push_v135 rfl rfl rfl (by decide +kernel) ⟨(show 2 + 1 ≤ 3 by omega), (show 8 + (2 + 11) + 60 * 2 ≤ 60 * 3 by omega)⟩) ⟨zPre.blind, va_recv hK hC.1 (ci := 2) (q0 := 7) rfl rfl, cPre_go hZ hK hC⟩ rfl rfl hl.1 rfl (lv_room (Nat.le_of_ble_eq_true rfl)) dX3_arrive_45 (cAcc h0 mo6 hr9)) hC.2.2.1 (fun q _ h => hFc q h) hFc (fun u9 t9 H1 locs ht hvm hw hB hz1 hk1 hS => ?_)
        obtain ⟨⟨hP, hK1, hD1⟩, hsz1⟩ := hB
        rw [ht] at hP hsz1
        have hC : CP dC dI Q A s.heap p5.2 H1 locs := ⟨hP, hD1.weaken (fun _ _ _ h => hFc _ h), hS, hsz1⟩
        generalize H1 = H at hC ⊢
        have h8 : (CS.hs σ) ≤ CS.hs p5.2 := Nat.le_trans h0 mo6
        refine W.widen (k := CS.hs p5.2 - (CS.hs σ)) (n := 17 * (CS.hs p5.2 - (CS.hs σ))) (cAcc2 h0 mo6) (cAcc3 h0 mo6) ?_
        exact j_X3_arrive_48 l dC dI Q N (CS.hs σ) R hx hb hr hml hown hts hlocks hZ hA hK p5.2 _ _ _ hf h8 hC (lv_sub hl [0] rfl)
    ·
      replace hf := (if_pos c2).symm.trans hf
      refine lv_aload_n hx hb dX3_arrive_24 rfl (lv_at hl 0 rfl) ?_
      refine lv_iconst (v := 2) hx hb dX3_arrive_25 (by decide) ?_
      refine cP_72 (v := 2) hx hb hts i_X3_arrive_X3 hown hK hC (hts (.fieldLink RX3 85 "StatementRules2$Machine" "outcome" "I") k_X3_arrive_fieldLink_RX3_85_SR_Machine_outcome_I) (fun _ q9 => q9) dX3_arrive_26 (fun H locs hC => ?_)
      refine lv_goto (tgt := 74) hx hb dX3_arrive_29 (by decide) ?_
      obtain rfl := Option.some.inj hf
      exact W.vret hx hb hr (fun t ht hW => ⟨⟨(), rfl, trivial, ⟨by rw [ht]; exact hC.1, va_K.moved hW.alike hK, hC.2.1⟩, by rw [ht]; exact hC.2.2.2⟩, hC.2.2.1.F ht⟩) hC.2.2.1.2.2 dX3_arrive_74
  ·
    replace hf := (if_pos c1).symm.trans hf
    refine lv_aload_n hx hb dX3_arrive_8 rfl (lv_at hl 0 rfl) ?_
    refine lv_iconst (v := 1) hx hb dX3_arrive_9 (by decide) ?_
    refine cP_72 (v := 1) hx hb hts i_X3_arrive_X3 hown hK hC (hts (.fieldLink RX3 85 "StatementRules2$Machine" "outcome" "I") k_X3_arrive_fieldLink_RX3_85_SR_Machine_outcome_I) (fun _ q9 => q9) dX3_arrive_10 (fun H locs hC => ?_)
    refine lv_goto (tgt := 74) hx hb dX3_arrive_13 (by decide) ?_
    obtain rfl := Option.some.inj hf
    exact W.vret hx hb hr (fun t ht hW => ⟨⟨(), rfl, trivial, ⟨by rw [ht]; exact hC.1, va_K.moved hW.alike hK, hC.2.1⟩, by rw [ht]; exact hC.2.2.2⟩, hC.2.2.1.F ht⟩) hC.2.2.1.2.2 dX3_arrive_74
theorem k_X8_suppress_fieldLink_RX8_18_SR_Thrown_count_I : Cond.fieldLink RX8 18 "StatementRules2$Thrown" "count" "I" ∈ wzX8_suppress := List.mem_cons_of_mem _ (List.mem_append_left _ (List.mem_of_getElem? (i := 0) rfl))
theorem i_X8_suppress_X8 : ∀ w ∈ wsX80, w ∈ wzX8_suppress := fun _ h => List.mem_cons_of_mem _ (List.mem_append_right _ (List.mem_append_left _ (h)))
theorem k_X8_suppress_fieldLink_RX8_9_SR_Thrown_kinds_I : Cond.fieldLink RX8 9 "StatementRules2$Thrown" "kinds" "[I" ∈ wzX8_suppress := List.mem_cons_of_mem _ (List.mem_append_left _ (List.mem_of_getElem? (i := 1) rfl))
theorem k_X8_suppress_initialized_RX11 : Cond.initialized RX11 ∈ wzX8_suppress := List.mem_cons_of_mem _ (List.mem_append_left _ (List.mem_of_getElem? (i := 2) rfl))
theorem k_X8_suppress_static_yX11_put : Cond.static yX11_put ∈ wzX8_suppress := List.mem_cons_of_mem _ (List.mem_append_left _ (List.mem_of_getElem? (i := 3) rfl))
theorem k_X8_suppress_fieldLink_RX8_15_SR_Thrown_numbers_I : Cond.fieldLink RX8 15 "StatementRules2$Thrown" "numbers" "[I" ∈ wzX8_suppress := List.mem_cons_of_mem _ (List.mem_append_left _ (List.mem_of_getElem? (i := 4) rfl))
set_option maxHeartbeats 4000000 in
set_option maxRecDepth 100000 in
theorem c_X8_suppress (l : Launch) (dC : Nat → ClassId) (dI : Nat → Nat → Nat) (Q : CQ) (N : Nat) (σ : CS) (x0 : Nat) (x1 : Int32) (x2 : Int32) (R : Unit × CS) (hf : f_X8_suppress N σ x0 x1 x2 = some R) : Met l yX8_suppress wzX8_suppress ({ frames := 2, cells := CS.hs R.2 - CS.hs σ, slots := 17 * (CS.hs R.2 - CS.hs σ), locals := 60 * 2 }) (va_Pc [.ref x0, .int x1, .int x2] (zPre dC dI (CS.hs σ) (cW Q σ) (cT Q))) (va_Qv (fun (_ : Unit) => True) (fun (_ : Unit) (t : State) => zPost dC dI (va_A (cW Q σ) (CS.hs σ)) (cW Q R.2) (cT Q) t ∧ t.heap.size = CS.hs R.2) (va_A (cW Q σ) (CS.hs σ))) (CS.hs R.2 - CS.hs σ) (17 * (CS.hs R.2 - CS.hs σ)) (va_A (cW Q σ) (CS.hs σ)) := by
  refine Met.ofW (cc := cX8_suppress) (maxL := 3) (ret := none) (by decide) rfl ?_
  intro p e s m args below meth c s₁ B hml hv
  obtain ⟨rfl, hsz, hZ, hP, hK, hD0⟩ := hv
  have hx := B.exec
  have hb := B.bytes
  have hr := B.returns
  have hts := atoms_spec (ws := wzX8_suppress) B.pre
  have hown : s.vm.findClass RX8 = some m.cls := findClass_of_methodNamed B.named
  have hlocks := B.notSynchronized
  have hD := hD0.self (sz := CS.hs σ)
  generalize hAe : va_A (cW Q σ) (CS.hs σ) = A at hD ⊢
  have hA : ∀ q : Nat, s.heap.size ≤ q → A q := fun q h => by rw [← hAe]; exact Or.inr (hsz ▸ h)
  have hC : CP dC dI Q A s.heap σ s.heap [] := ⟨hP, hD, va_S.rf, hsz⟩
  have h0 : CS.hs σ ≤ CS.hs σ := Nat.le_refl _
  have hl := lv_entry ([.ref x0, .int x1, .int x2]) (n := 3) (Nat.le_of_ble_eq_true rfl)
  rw [lg_entry_eq]
  generalize (lg_sl ([.ref x0, .int x1, .int x2]) ++ List.replicate (3 - (lg_sl ([.ref x0, .int x1, .int x2])).length) Slot.unset).toArray = ls at hl ⊢
  have hl : lv_has ls 3 [(0, .ref x0), (1, .int x1), (2, .int x2)] := hl
  unfold f_X8_suppress at hf
  refine W.widen (k := CS.hs σ - CS.hs σ) (n := 17 * (CS.hs σ - CS.hs σ)) (Nat.zero_le _) (Nat.zero_le _) ?_
  refine lv_aload_n hx hb dX8_suppress_0 rfl (lv_at hl 0 rfl) ?_
  obtain ⟨b1, hf⟩ := hf_ite hf
  refine pG_X8_4 (v := (CS.o σ x0 4)) hx hb hts i_X8_suppress_X8 hown hK hC (hts (.fieldLink RX8 18 "StatementRules2$Thrown" "count" "I") k_X8_suppress_fieldLink_RX8_18_SR_Thrown_count_I) (fun _ q9 => q9) dX8_suppress_1 b1 rfl ?_
  refine lv_bipush (v := 8) hx hb dX8_suppress_4 (by decide) ?_
  refine lv_icmp_ge (tgt := 43) hx hb dX8_suppress_6 (by decide) (fun c2 => ?_) (fun c2 => ?_)
  ·
    replace hf := (if_pos c2).symm.trans hf
    obtain rfl := Option.some.inj hf
    exact W.vret hx hb hr (fun t ht hW => ⟨⟨(), rfl, trivial, ⟨by rw [ht]; exact hC.1, va_K.moved hW.alike hK, hC.2.1⟩, by rw [ht]; exact hC.2.2.2⟩, hC.2.2.1.F ht⟩) hC.2.2.1.2.2 dX8_suppress_43
  ·
    replace hf := (if_neg c2).symm.trans hf
    refine lv_aload_n hx hb dX8_suppress_9 rfl (lv_at hl 0 rfl) ?_
    refine pG_X8_0 hx hb hts i_X8_suppress_X8 hown hK hC (hts (.fieldLink RX8 9 "StatementRules2$Thrown" "kinds" "[I") k_X8_suppress_fieldLink_RX8_9_SR_Thrown_kinds_I) (fun _ q9 => q9) dX8_suppress_10 b1 ?_
    refine lv_aload_n hx hb dX8_suppress_13 rfl (lv_at hl 0 rfl) ?_
    refine pG_X8_4 (v := (CS.o σ x0 4)) hx hb hts i_X8_suppress_X8 hown hK hC (hts (.fieldLink RX8 18 "StatementRules2$Thrown" "count" "I") k_X8_suppress_fieldLink_RX8_18_SR_Thrown_count_I) (fun _ q9 => q9) dX8_suppress_14 b1 rfl ?_
    refine lv_iload_n hx hb dX8_suppress_17 rfl (lv_at hl 1 rfl) ?_
    obtain ⟨b3, hf⟩ := hf_ite hf
    obtain ⟨k4, hk4⟩ := cPl (Q := Q) (s := σ) (a := (x0 + 1)) b3.1
    have hqk4 := hk4
    rw [cE3 (show CS.k σ (x0 + 1) = 3 from b3.2)] at hk4
    have he9 := hk4
    have hFc := cFree1 hC hA he9
    have hr9 : CS.hs σ ≤ CS.hs R.2 := Mono.go hf (mono_ite (mono_some (Nat.le_refl _)) mono_none)
    refine va_callv (va_runSN (As := [.ref (x0 + 1), .int (CS.o σ x0 4), .int x1]) (rest := []) ⟨hx, hb, hml, hown, hts⟩ (c_X11_put l dC dI _ (x0 + 1) (Q.c 0) 8 (CS.oa σ (x0 + 1)) (CS.o σ x0 4) x1 (by decide)) ⟨va_cnB 3 hts hX8_suppress_X11_put_n22 rfl rfl rfl (hZ.1 (.methodLinkNest RX8 22 yX11_put "StatementRules2") (by decide +kernel)) (hts (.initialized RX11) k_X8_suppress_initialized_RX11) (by decide +kernel) ⟨(show 1 + 1 ≤ 2 by omega), (show 8 + (3 + 11) + 60 * 1 ≤ 60 * 2 by omega)⟩, (hts (.static yX11_put) k_X8_suppress_static_yX11_put), trivial⟩ ⟨zPre.blind, zPre.go hZ (cOne hC.1 he9) (hK.sub (tys' := [(Q.c 0, .int)]) [0] rfl) (cOneD hC.2.1 he9)⟩ rfl rfl hl.1 rfl (lv_room (Nat.le_of_ble_eq_true rfl)) dX8_suppress_18 ⟨cAcc4 h0 hr9, cAcc5 h0 hr9⟩) hC.2.2.1 (fun q _ h => hFc q h) hFc (fun u9 t9 H1 locs ht hvm hw hB hz1 hk1 hS => ?_)
    obtain ⟨⟨hP1, hK1, hD1⟩, hsz1⟩ := hB
    rw [ht] at hP1 hsz1
    have hC := cBack (σ' := CS.putOA σ (x0 + 1) (gPut (CS.oa σ (x0 + 1)) 8 (CS.o σ x0 4) x1)) hC he9 (cPutF hC.2.1 (x := (x0 + 1)) b3 hqk4) (cPutOA_h _ _ _) hk1 hP1 hsz1 hS
    generalize H1 = H at hC ⊢
    refine lv_aload_n hx hb dX8_suppress_21 rfl (lv_at hl 0 rfl) ?_
    refine pG_X8_1 hx hb hts i_X8_suppress_X8 hown hK hC (hts (.fieldLink RX8 15 "StatementRules2$Thrown" "numbers" "[I") k_X8_suppress_fieldLink_RX8_15_SR_Thrown_numbers_I) (fun _ q9 => q9) dX8_suppress_22 b1 ?_
    refine lv_aload_n hx hb dX8_suppress_25 rfl (lv_at hl 0 rfl) ?_
    refine pG_X8_4 (v := (CS.o (CS.putOA σ (x0 + 1) (gPut (CS.oa σ (x0 + 1)) 8 (CS.o σ x0 4) x1)) x0 4)) hx hb hts i_X8_suppress_X8 hown hK hC (hts (.fieldLink RX8 18 "StatementRules2$Thrown" "count" "I") k_X8_suppress_fieldLink_RX8_18_SR_Thrown_count_I) (fun _ q9 => q9) dX8_suppress_26 b1 rfl ?_
    refine lv_iload_n hx hb dX8_suppress_29 rfl (lv_at hl 2 rfl) ?_
    obtain ⟨b5, hf⟩ := hf_ite hf
    obtain ⟨k6, hk6⟩ := cPl (Q := Q) (s := CS.putOA σ (x0 + 1) (gPut (CS.oa σ (x0 + 1)) 8 (CS.o σ x0 4) x1)) (a := (x0 + 2)) b5.1
    have hqk6 := hk6
    rw [cE3 (show CS.k (CS.putOA σ (x0 + 1) (gPut (CS.oa σ (x0 + 1)) 8 (CS.o σ x0 4) x1)) (x0 + 2) = 3 from b5.2)] at hk6
    have he9 := hk6
    have hFc := cFree1 hC hA he9
    have hr9 : CS.hs σ ≤ CS.hs R.2 := Mono.go hf (mono_some (Nat.le_refl _))
    refine va_callv (va_runSN (As := [.ref (x0 + 2), .int (CS.o (CS.putOA σ (x0 + 1) (gPut (CS.oa σ (x0 + 1)) 8 (CS.o σ x0 4) x1)) x0 4), .int x2]) (rest := []) ⟨hx, hb, hml, hown, hts⟩ (c_X11_put l dC dI _ (x0 + 2) (Q.c 0) 8 (CS.oa (CS.putOA σ (x0 + 1) (gPut (CS.oa σ (x0 + 1)) 8 (CS.o σ x0 4) x1)) (x0 + 2)) (CS.o (CS.putOA σ (x0 + 1) (gPut (CS.oa σ (x0 + 1)) 8 (CS.o σ x0 4) x1)) x0 4) x2 (by decide)) ⟨va_cnB 3 hts hX8_suppress_X11_put_n22 rfl rfl rfl (hZ.1 (.methodLinkNest RX8 22 yX11_put "StatementRules2") (by decide +kernel)) (hts (.initialized RX11) k_X8_suppress_initialized_RX11) (by decide +kernel) ⟨(show 1 + 1 ≤ 2 by omega), (show 8 + (3 + 11) + 60 * 1 ≤ 60 * 2 by omega)⟩, (hts (.static yX11_put) k_X8_suppress_static_yX11_put), trivial⟩ ⟨zPre.blind, zPre.go hZ (cOne hC.1 he9) (hK.sub (tys' := [(Q.c 0, .int)]) [0] rfl) (cOneD hC.2.1 he9)⟩ rfl rfl hl.1 rfl (lv_room (Nat.le_of_ble_eq_true rfl)) dX8_suppress_30 ⟨cAcc4 h0 hr9, cAcc5 h0 hr9⟩) hC.2.2.1 (fun q _ h => hFc q h) hFc (fun u9 t9 H1 locs ht hvm hw hB hz1 hk1 hS => ?_)
    obtain ⟨⟨hP1, hK1, hD1⟩, hsz1⟩ := hB
    rw [ht] at hP1 hsz1
    have hC := cBack (σ' := CS.putOA (CS.putOA σ (x0 + 1) (gPut (CS.oa σ (x0 + 1)) 8 (CS.o σ x0 4) x1)) (x0 + 2) (gPut (CS.oa (CS.putOA σ (x0 + 1) (gPut (CS.oa σ (x0 + 1)) 8 (CS.o σ x0 4) x1)) (x0 + 2)) 8 (CS.o (CS.putOA σ (x0 + 1) (gPut (CS.oa σ (x0 + 1)) 8 (CS.o σ x0 4) x1)) x0 4) x2)) hC he9 (cPutF hC.2.1 (x := (x0 + 2)) b5 hqk6) (cPutOA_h _ _ _) hk1 hP1 hsz1 hS
    generalize H1 = H at hC ⊢
    refine lv_aload_n hx hb dX8_suppress_33 rfl (lv_at hl 0 rfl) ?_
    refine lv_dup hx hb dX8_suppress_34 rfl ?_
    refine pG_X8_4 (v := (CS.o (CS.putOA (CS.putOA σ (x0 + 1) (gPut (CS.oa σ (x0 + 1)) 8 (CS.o σ x0 4) x1)) (x0 + 2) (gPut (CS.oa (CS.putOA σ (x0 + 1) (gPut (CS.oa σ (x0 + 1)) 8 (CS.o σ x0 4) x1)) (x0 + 2)) 8 (CS.o (CS.putOA σ (x0 + 1) (gPut (CS.oa σ (x0 + 1)) 8 (CS.o σ x0 4) x1)) x0 4) x2)) x0 4)) hx hb hts i_X8_suppress_X8 hown hK hC (hts (.fieldLink RX8 18 "StatementRules2$Thrown" "count" "I") k_X8_suppress_fieldLink_RX8_18_SR_Thrown_count_I) (fun _ q9 => q9) dX8_suppress_35 b1 rfl ?_
    refine lv_iconst (v := 1) hx hb dX8_suppress_38 (by decide) ?_
    refine lv_iadd hx hb dX8_suppress_39 ?_
    refine pP_X8_4 (v := ((CS.o (CS.putOA (CS.putOA σ (x0 + 1) (gPut (CS.oa σ (x0 + 1)) 8 (CS.o σ x0 4) x1)) (x0 + 2) (gPut (CS.oa (CS.putOA σ (x0 + 1) (gPut (CS.oa σ (x0 + 1)) 8 (CS.o σ x0 4) x1)) (x0 + 2)) 8 (CS.o (CS.putOA σ (x0 + 1) (gPut (CS.oa σ (x0 + 1)) 8 (CS.o σ x0 4) x1)) x0 4) x2)) x0 4) + 1)) hx hb hts i_X8_suppress_X8 hown hK hC (hts (.fieldLink RX8 18 "StatementRules2$Thrown" "count" "I") k_X8_suppress_fieldLink_RX8_18_SR_Thrown_count_I) (fun _ q9 => q9) dX8_suppress_40 b1 (fun H locs hC => ?_)
    obtain rfl := Option.some.inj hf
    exact W.vret hx hb hr (fun t ht hW => ⟨⟨(), rfl, trivial, ⟨by rw [ht]; exact hC.1, va_K.moved hW.alike hK, hC.2.1⟩, by rw [ht]; exact hC.2.2.2⟩, hC.2.2.1.F ht⟩) hC.2.2.1.2.2 dX8_suppress_43
theorem k_X3_closeOne_fieldLink_RX3_36_SR_Machine_told_LSR_Told : Cond.fieldLink RX3 36 "StatementRules2$Machine" "told" "LStatementRules2$Told;" ∈ wzX3_closeOne := List.mem_cons_of_mem _ (List.mem_append_left _ (List.mem_of_getElem? (i := 0) rfl))
theorem i_X3_closeOne_X3 : ∀ w ∈ wsX30, w ∈ wzX3_closeOne := fun _ h => List.mem_cons_of_mem _ (List.mem_append_right _ (List.mem_append_left _ (h)))
theorem i_X3_closeOne_X10 : ∀ w ∈ wsX100, w ∈ wzX3_closeOne := fun _ h => List.mem_cons_of_mem _ (List.mem_append_right _ (List.mem_append_right _ (List.mem_append_left _ (h))))
theorem k_X3_closeOne_initialized_RX11 : Cond.initialized RX11 ∈ wzX3_closeOne := List.mem_cons_of_mem _ (List.mem_append_left _ (List.mem_of_getElem? (i := 1) rfl))
theorem k_X3_closeOne_static_yX11_at : Cond.static yX11_at ∈ wzX3_closeOne := List.mem_cons_of_mem _ (List.mem_append_left _ (List.mem_of_getElem? (i := 2) rfl))
theorem k_X3_closeOne_fieldLink_RX3_75_SR_Machine_way_I : Cond.fieldLink RX3 75 "StatementRules2$Machine" "way" "I" ∈ wzX3_closeOne := List.mem_cons_of_mem _ (List.mem_append_left _ (List.mem_of_getElem? (i := 3) rfl))
theorem k_X3_closeOne_fieldLink_RX3_81_SR_Machine_wayThrown_LSR_Thrown : Cond.fieldLink RX3 81 "StatementRules2$Machine" "wayThrown" "LStatementRules2$Thrown;" ∈ wzX3_closeOne := List.mem_cons_of_mem _ (List.mem_append_left _ (List.mem_of_getElem? (i := 4) rfl))
set_option maxHeartbeats 4000000 in
set_option maxRecDepth 100000 in
theorem j_X3_closeOne_50 {p : Program} {e : Env} {s : State} {m : MethodId} {args : Array Value} {below : List Frame} {meth : Method} {c : Code} {A : Nat → Prop} (l : Launch) (dC : Nat → ClassId) (dI : Nat → Nat → Nat) (Q : CQ) (N : Nat) (z9h : Nat) (R : Unit × CS) (hx : p.tables.exec = Jvm.exec) (hb : c.code = cX3_closeOne) (hr : meth.sig.returnType = none) (hml : c.maxLocals = 3) (hown : s.vm.findClass RX3 = some m.cls) (hts : ∀ w ∈ wzX3_closeOne, w.before args s = true) (hlocks : meth.locks = false) (hZ : zAMB s) (hA : ∀ q : Nat, s.heap.size ≤ q → A q) (hK : va_K (dC, dI) vwCl (cT Q) s) : ∀ (σ : CS) (x1 : Int32) (x2 : Int32) (H : Heap) (locs : List Loc) (ls : Array Slot), f_X3_closeOne_50 N σ x1 x2 = some R → z9h ≤ CS.hs σ → CP dC dI Q A s.heap σ H locs → lv_has ls 3 [(0, .ref (Q.o 7)), (1, .int x1), (2, .int x2)] → W p l e ({ frames := 4, cells := CS.hs R.2 - z9h, slots := 17 * (CS.hs R.2 - z9h), locals := 60 * 4 }) s m args below meth c H locs (CS.hs σ - z9h) (17 * (CS.hs σ - z9h)) (MQ below (va_Qv (fun (_ : Unit) => True) (fun (_ : Unit) (t : State) => zPost dC dI A (cW Q R.2) (cT Q) t ∧ t.heap.size = CS.hs R.2) A) args s (CS.hs R.2 - z9h) (17 * (CS.hs R.2 - z9h)) A) (F0 m 50 ls []) := by
  intro σ x1 x2 H locs ls hf h0 hC hl
  unfold f_X3_closeOne_50 at hf
  refine lv_aload_n hx hb dX3_closeOne_50 rfl (lv_at hl 0 rfl) ?_
  refine lv_iload_n hx hb dX3_closeOne_51 rfl (lv_at hl 2 rfl) ?_
  refine lv_iload_n hx hb dX3_closeOne_52 rfl (lv_at hl 1 rfl) ?_
  obtain ⟨p8, hcp8, hf⟩ := hf_bind hf
  have mo9 : CS.hs σ ≤ CS.hs p8.2 := Mono.go hcp8 (m_X3_raise N σ x2 x1)
  have hr9 : CS.hs p8.2 ≤ CS.hs R.2 := Mono.go hf (mono_some (Nat.le_refl _))
  have hFc := cFree hC hA
  refine va_callv (va_runV (As := [.int x2, .int x1]) (rest := []) ⟨hx, hb, hml, hown, hts⟩ (c_X3_raise l dC dI Q N σ x2 x1 p8 hcp8) (cwV 2 hts hX3_closeOne_X3_raise_v150 rfl rfl rfl (by decide +kernel) ⟨(show 3 + 1 ≤ 4 by omega), (show 8 + (3 + 11) + 60 * 3 ≤ 60 * 4 by omega)⟩) ⟨zPre.blind, va_recv hK hC.1 (ci := 2) (q0 := 7) rfl rfl, cPre_go hZ hK hC⟩ rfl rfl hl.1 rfl (lv_room (Nat.le_of_ble_eq_true rfl)) dX3_closeOne_53 (cAcc h0 mo9 hr9)) hC.2.2.1 (fun q _ h => hFc q h) hFc (fun u9 t9 H1 locs ht hvm hw hB hz1 hk1 hS => ?_)
  obtain ⟨⟨hP, hK1, hD1⟩, hsz1⟩ := hB
  rw [ht] at hP hsz1
  have hC : CP dC dI Q A s.heap p8.2 H1 locs := ⟨hP, hD1.weaken (fun _ _ _ h => hFc _ h), hS, hsz1⟩
  generalize H1 = H at hC ⊢
  have h11 : z9h ≤ CS.hs p8.2 := Nat.le_trans h0 mo9
  refine W.widen (k := CS.hs p8.2 - z9h) (n := 17 * (CS.hs p8.2 - z9h)) (cAcc2 h0 mo9) (cAcc3 h0 mo9) ?_
  obtain rfl := Option.some.inj hf
  exact W.vret hx hb hr (fun t ht hW => ⟨⟨(), rfl, trivial, ⟨by rw [ht]; exact hC.1, va_K.moved hW.alike hK, hC.2.1⟩, by rw [ht]; exact hC.2.2.2⟩, hC.2.2.1.F ht⟩) hC.2.2.1.2.2 dX3_closeOne_56
set_option maxHeartbeats 4000000 in
set_option maxRecDepth 100000 in
theorem c_X3_closeOne (l : Launch) (dC : Nat → ClassId) (dI : Nat → Nat → Nat) (Q : CQ) (N : Nat) (σ : CS) (x1 : Int32) (R : Unit × CS) (hf : f_X3_closeOne N σ x1 = some R) : Met l yX3_closeOne wzX3_closeOne ({ frames := 4, cells := CS.hs R.2 - CS.hs σ, slots := 17 * (CS.hs R.2 - CS.hs σ), locals := 60 * 4 }) (va_Pc [.ref (Q.o 7), .int x1] (zPre dC dI (CS.hs σ) (cW Q σ) (cT Q))) (va_Qv (fun (_ : Unit) => True) (fun (_ : Unit) (t : State) => zPost dC dI (va_A (cW Q σ) (CS.hs σ)) (cW Q R.2) (cT Q) t ∧ t.heap.size = CS.hs R.2) (va_A (cW Q σ) (CS.hs σ))) (CS.hs R.2 - CS.hs σ) (17 * (CS.hs R.2 - CS.hs σ)) (va_A (cW Q σ) (CS.hs σ)) := by
  refine Met.ofW (cc := cX3_closeOne) (maxL := 3) (ret := none) (by decide) rfl ?_
  intro p e s m args below meth c s₁ B hml hv
  obtain ⟨rfl, hsz, hZ, hP, hK, hD0⟩ := hv
  have hx := B.exec
  have hb := B.bytes
  have hr := B.returns
  have hts := atoms_spec (ws := wzX3_closeOne) B.pre
  have hown : s.vm.findClass RX3 = some m.cls := findClass_of_methodNamed B.named
  have hlocks := B.notSynchronized
  have hD := hD0.self (sz := CS.hs σ)
  generalize hAe : va_A (cW Q σ) (CS.hs σ) = A at hD ⊢
  have hA : ∀ q : Nat, s.heap.size ≤ q → A q := fun q h => by rw [← hAe]; exact Or.inr (hsz ▸ h)
  have hC : CP dC dI Q A s.heap σ s.heap [] := ⟨hP, hD, va_S.rf, hsz⟩
  have h0 : CS.hs σ ≤ CS.hs σ := Nat.le_refl _
  have hl := lv_entry ([.ref (Q.o 7), .int x1]) (n := 3) (Nat.le_of_ble_eq_true rfl)
  rw [lg_entry_eq]
  generalize (lg_sl ([.ref (Q.o 7), .int x1]) ++ List.replicate (3 - (lg_sl ([.ref (Q.o 7), .int x1])).length) Slot.unset).toArray = ls at hl ⊢
  have hl : lv_has ls 3 [(0, .ref (Q.o 7)), (1, .int x1)] := hl
  unfold f_X3_closeOne at hf
  refine W.widen (k := CS.hs σ - CS.hs σ) (n := 17 * (CS.hs σ - CS.hs σ)) (Nat.zero_le _) (Nat.zero_le _) ?_
  refine lv_aload_n hx hb dX3_closeOne_0 rfl (lv_at hl 0 rfl) ?_
  refine cG_57 hx hb hts i_X3_closeOne_X3 hown hK hC (hts (.fieldLink RX3 36 "StatementRules2$Machine" "told" "LStatementRules2$Told;") k_X3_closeOne_fieldLink_RX3_36_SR_Machine_told_LSR_Told) (fun _ q9 => q9) dX3_closeOne_1 ?_
  refine cGN_12 hx hb hts i_X3_closeOne_X10 hown hK hC (va_Nw.use rfl (hZ.1 (.fieldLinkNest RX3 265 "StatementRules2$Told" "closing" "[I" "StatementRules2") (by decide +kernel))) (fun _ q9 => q9) dX3_closeOne_4 ?_
  refine lv_iload_n hx hb dX3_closeOne_7 rfl (lv_at hl 1 rfl) ?_
  have he9 := (cArr_12 (Q := Q) (σ := σ))
  have hFc := cFree1 hC hA he9
  have hr9 : CS.hs σ ≤ CS.hs R.2 := Mono.go hf (mono_bind (m_X3_note N σ 2 x1) (fun p2 => (mono_ite (mono_ite (mono_oc (m_X3_closeOne_50 N p2.2 x1 (gAt (σ.a 12) 8 x1)) (fun a13 => (mono_oc mono_none (fun a15 => (mono_ite (mono_bind (m_X8_suppress N p2.2 a15 (gAt (σ.a 12) 8 x1) x1) (fun p18 => (mono_some (Nat.le_refl _)))) mono_none))))) (m_X3_closeOne_50 N p2.2 x1 (gAt (σ.a 12) 8 x1))) (mono_some (Nat.le_refl _)))))
  refine va_calli (va_runSN (As := [.ref (Q.q 12), .int x1]) (rest := []) ⟨hx, hb, hml, hown, hts⟩ (c_X11_at l dC dI _ (Q.q 12) (Q.c 0) 8 (σ.a 12) x1 (by decide)) ⟨va_cnB 2 hts hX3_closeOne_X11_at_n111 rfl rfl rfl (hZ.1 (.methodLinkNest RX3 111 yX11_at "StatementRules2") (by decide +kernel)) (hts (.initialized RX11) k_X3_closeOne_initialized_RX11) (by decide +kernel) ⟨(show 1 + 1 ≤ 4 by omega), (show 8 + (2 + 11) + 60 * 1 ≤ 60 * 4 by omega)⟩, (hts (.static yX11_at) k_X3_closeOne_static_yX11_at), trivial⟩ ⟨zPre.blind, zPre.go hZ (cOne hC.1 he9) (hK.sub (tys' := [(Q.c 0, .int)]) [0] rfl) (cOneD hC.2.1 he9)⟩ rfl rfl hl.1 rfl (lv_room (Nat.le_of_ble_eq_true rfl)) dX3_closeOne_8 ⟨cAcc4 h0 hr9, cAcc5 h0 hr9⟩) hC.2.2.1 (fun q _ h => hFc q h) hFc (fun r1 u9 t9 H1 locs ht hvm hw hB hz1 hk1 hS => ?_)
  obtain ⟨⟨hP1, hK1, hD1⟩, hsz1⟩ := hB
  rw [ht] at hP1 hsz1
  have hC := cBack (σ' := σ) hC he9 (cSelf he9) (Eq.refl (CS.hs σ)) hk1 hP1 hsz1 hS
  generalize H1 = H at hC ⊢
  obtain rfl : r1 = (gAt (σ.a 12) 8 x1) := hw
  refine lv_istore_n (lv' := [(2, .int (gAt (σ.a 12) 8 x1)), (0, .ref (Q.o 7)), (1, .int x1)]) hx hb dX3_closeOne_11 rfl hl (by decide) rfl (fun ls hl => ?_)
  refine lv_aload_n hx hb dX3_closeOne_12 rfl (lv_at hl 1 rfl) ?_
  refine lv_iconst (v := 2) hx hb dX3_closeOne_13 (by decide) ?_
  refine lv_iload_n hx hb dX3_closeOne_14 rfl (lv_at hl 2 rfl) ?_
  obtain ⟨p2, hcp2, hf⟩ := hf_bind hf
  have mo3 : CS.hs σ ≤ CS.hs p2.2 := Mono.go hcp2 (m_X3_note N σ 2 x1)
  have hr9 : CS.hs p2.2 ≤ CS.hs R.2 := Mono.go hf (mono_ite (mono_ite (mono_oc (m_X3_closeOne_50 N p2.2 x1 (gAt (σ.a 12) 8 x1)) (fun a13 => (mono_oc mono_none (fun a15 => (mono_ite (mono_bind (m_X8_suppress N p2.2 a15 (gAt (σ.a 12) 8 x1) x1) (fun p18 => (mono_some (Nat.le_refl _)))) mono_none))))) (m_X3_closeOne_50 N p2.2 x1 (gAt (σ.a 12) 8 x1))) (mono_some (Nat.le_refl _)))
  have hFc := cFree hC hA
  refine va_callv (va_runV (As := [.int 2, .int x1]) (rest := []) ⟨hx, hb, hml, hown, hts⟩ (c_X3_note l dC dI Q N σ 2 x1 p2 hcp2) (cwV 2 hts hX3_closeOne_X3_note_v178 rfl rfl rfl (by decide +kernel) ⟨(show 2 + 1 ≤ 4 by omega), (show 8 + (3 + 11) + 60 * 2 ≤ 60 * 4 by omega)⟩) ⟨zPre.blind, va_recv hK hC.1 (ci := 2) (q0 := 7) rfl rfl, cPre_go hZ hK hC⟩ rfl rfl hl.1 rfl (lv_room (Nat.le_of_ble_eq_true rfl)) dX3_closeOne_15 (cAcc h0 mo3 hr9)) hC.2.2.1 (fun q _ h => hFc q h) hFc (fun u9 t9 H1 locs ht hvm hw hB hz1 hk1 hS => ?_)
  obtain ⟨⟨hP, hK1, hD1⟩, hsz1⟩ := hB
  rw [ht] at hP hsz1
  have hC : CP dC dI Q A s.heap p2.2 H1 locs := ⟨hP, hD1.weaken (fun _ _ _ h => hFc _ h), hS, hsz1⟩
  generalize H1 = H at hC ⊢
  have h5 : (CS.hs σ) ≤ CS.hs p2.2 := Nat.le_trans h0 mo3
  refine W.widen (k := CS.hs p2.2 - (CS.hs σ)) (n := 17 * (CS.hs p2.2 - (CS.hs σ))) (cAcc2 h0 mo3) (cAcc3 h0 mo3) ?_
  refine lv_iload_n hx hb dX3_closeOne_18 rfl (lv_at hl 0 rfl) ?_
  refine lv_if_ge (tgt := 23) hx hb dX3_closeOne_19 (by decide) (fun c6 => ?_) (fun c6 => ?_)
  ·
    replace hf := (if_pos c6).symm.trans hf
    refine lv_aload_n hx hb dX3_closeOne_23 rfl (lv_at hl 1 rfl) ?_
    refine cG_73 (v := (p2.2.i 73)) hx hb hts i_X3_closeOne_X3 hown hK hC (hts (.fieldLink RX3 75 "StatementRules2$Machine" "way" "I") k_X3_closeOne_fieldLink_RX3_75_SR_Machine_way_I) (fun _ q9 => q9) dX3_closeOne_24 rfl ?_
    refine lv_iconst (v := 4) hx hb dX3_closeOne_27 (by decide) ?_
    refine lv_icmp_ne (tgt := 50) hx hb dX3_closeOne_28 (by decide) (fun c7 => ?_) (fun c7 => ?_)
    ·
      replace hf := (if_neg c7).symm.trans hf
      exact j_X3_closeOne_50 l dC dI Q N (CS.hs σ) R hx hb hr hml hown hts hlocks hZ hA hK p2.2 x1 (gAt (σ.a 12) 8 x1) _ _ _ hf h5 hC (lv_sub hl [1, 2, 0] rfl)
    ·
      replace hf := (if_pos c7).symm.trans hf
      refine lv_aload_n hx hb dX3_closeOne_31 rfl (lv_at hl 1 rfl) ?_
      refine cG_76 (v := (CS.w p2.2)) hx hb hts i_X3_closeOne_X3 hown hK hC (hts (.fieldLink RX3 81 "StatementRules2$Machine" "wayThrown" "LStatementRules2$Thrown;") k_X3_closeOne_fieldLink_RX3_81_SR_Machine_wayThrown_LSR_Thrown) (fun _ q9 => q9) dX3_closeOne_32 rfl ?_
      rcases hf_oc hf with ⟨q12, hf⟩ | ⟨a13, q12, hf⟩
      ·
        refine W.eq (congrArg (fun v9 => F0 m 35 ls (va_rf v9 :: [])) q12) ?_
        refine W.eq (g2 := F0 m 35 ls (.null :: [])) rfl ?_
        refine lv_ifnullN (tgt := 50) hx hb dX3_closeOne_35 (by decide) ?_
        exact j_X3_closeOne_50 l dC dI Q N (CS.hs σ) R hx hb hr hml hown hts hlocks hZ hA hK p2.2 x1 (gAt (σ.a 12) 8 x1) _ _ _ hf h5 hC (lv_sub hl [1, 2, 0] rfl)
      ·
        refine W.eq (congrArg (fun v9 => F0 m 35 ls (va_rf v9 :: [])) q12) ?_
        refine W.eq (g2 := F0 m 35 ls (.ref a13 :: [])) rfl ?_
        refine lv_ifnull hx hb dX3_closeOne_35 ?_
        refine lv_aload_n hx hb dX3_closeOne_38 rfl (lv_at hl 1 rfl) ?_
        refine cG_76 (v := (CS.w p2.2)) hx hb hts i_X3_closeOne_X3 hown hK hC (hts (.fieldLink RX3 81 "StatementRules2$Machine" "wayThrown" "LStatementRules2$Thrown;") k_X3_closeOne_fieldLink_RX3_81_SR_Machine_wayThrown_LSR_Thrown) (fun _ q9 => q9) dX3_closeOne_39 rfl ?_
        rcases hf_oc hf with ⟨q14, hf⟩ | ⟨a15, q14, hf⟩
        ·
          refine W.eq (congrArg (fun v9 => F0 m 42 ls (va_rf v9 :: [])) q14) ?_
          refine W.eq (g2 := F0 m 42 ls (.null :: [])) rfl ?_
          refine lv_iload_n hx hb dX3_closeOne_42 rfl (lv_at hl 0 rfl) ?_
          refine lv_iload_n hx hb dX3_closeOne_43 rfl (lv_at hl 2 rfl) ?_
          cases hf
        ·
          refine W.eq (congrArg (fun v9 => F0 m 42 ls (va_rf v9 :: [])) q14) ?_
          refine W.eq (g2 := F0 m 42 ls (.ref a15 :: [])) rfl ?_
          refine lv_iload_n hx hb dX3_closeOne_42 rfl (lv_at hl 0 rfl) ?_
          refine lv_iload_n hx hb dX3_closeOne_43 rfl (lv_at hl 2 rfl) ?_
          obtain ⟨b16, hf⟩ := hf_ite hf
          obtain ⟨k17, hk17⟩ := cPl (Q := Q) (s := p2.2) (a := a15) b16.1
          rw [cE2 (show CS.k p2.2 a15 = 2 from b16.2)] at hk17
          obtain ⟨p18, hcp18, hf⟩ := hf_bind hf
          have mo19 : CS.hs p2.2 ≤ CS.hs p18.2 := Mono.go hcp18 (m_X8_suppress N p2.2 a15 (gAt (σ.a 12) 8 x1) x1)
          have hr9 : CS.hs p18.2 ≤ CS.hs R.2 := Mono.go hf (mono_some (Nat.le_refl _))
          have hFc := cFree hC hA
          refine va_callv (va_runV (As := [.int (gAt (σ.a 12) 8 x1), .int x1]) (rest := []) ⟨hx, hb, hml, hown, hts⟩ (c_X8_suppress l dC dI Q N p2.2 a15 (gAt (σ.a 12) 8 x1) x1 p18 hcp18) (cwV 2 hts hX3_closeOne_X8_suppress_v268 rfl rfl rfl (by decide +kernel) ⟨(show 2 + 1 ≤ 4 by omega), (show 8 + (3 + 11) + 60 * 2 ≤ 60 * 4 by omega)⟩) ⟨zPre.blind, va_recv hK hC.1 (ci := 7) (q0 := k17) rfl hk17, cPre_go hZ hK hC⟩ rfl rfl hl.1 rfl (lv_room (Nat.le_of_ble_eq_true rfl)) dX3_closeOne_44 (cAcc h5 mo19 hr9)) hC.2.2.1 (fun q _ h => hFc q h) hFc (fun u9 t9 H1 locs ht hvm hw hB hz1 hk1 hS => ?_)
          obtain ⟨⟨hP, hK1, hD1⟩, hsz1⟩ := hB
          rw [ht] at hP hsz1
          have hC : CP dC dI Q A s.heap p18.2 H1 locs := ⟨hP, hD1.weaken (fun _ _ _ h => hFc _ h), hS, hsz1⟩
          generalize H1 = H at hC ⊢
          have h21 : (CS.hs σ) ≤ CS.hs p18.2 := Nat.le_trans h5 mo19
          refine W.widen (k := CS.hs p18.2 - (CS.hs σ)) (n := 17 * (CS.hs p18.2 - (CS.hs σ))) (cAcc2 h5 mo19) (cAcc3 h5 mo19) ?_
          refine lv_goto (tgt := 56) hx hb dX3_closeOne_47 (by decide) ?_
          obtain rfl := Option.some.inj hf
          exact W.vret hx hb hr (fun t ht hW => ⟨⟨(), rfl, trivial, ⟨by rw [ht]; exact hC.1, va_K.moved hW.alike hK, hC.2.1⟩, by rw [ht]; exact hC.2.2.2⟩, hC.2.2.1.F ht⟩) hC.2.2.1.2.2 dX3_closeOne_56
  ·
    replace hf := (if_neg c6).symm.trans hf
    obtain rfl := Option.some.inj hf
    exact W.vret hx hb hr (fun t ht hW => ⟨⟨(), rfl, trivial, ⟨by rw [ht]; exact hC.1, va_K.moved hW.alike hK, hC.2.1⟩, by rw [ht]; exact hC.2.2.2⟩, hC.2.2.1.F ht⟩) hC.2.2.1.2.2 dX3_closeOne_22
theorem i_X3_begin_X2 : ∀ w ∈ wsX20, w ∈ wzX3_begin := fun _ h => List.mem_cons_of_mem _ (List.mem_append_right _ (List.mem_append_left _ (h)))
theorem k_X3_begin_fieldLink_RX3_54_SR_Machine_height_I : Cond.fieldLink RX3 54 "StatementRules2$Machine" "height" "I" ∈ wzX3_begin := List.mem_cons_of_mem _ (List.mem_append_left _ (List.mem_of_getElem? (i := 0) rfl))
theorem i_X3_begin_X3 : ∀ w ∈ wsX30, w ∈ wzX3_begin := fun _ h => List.mem_cons_of_mem _ (List.mem_append_right _ (List.mem_append_right _ (List.mem_append_left _ (h))))
theorem k_X3_begin_fieldLink_RX3_40_SR_Machine_code_LSR_Code : Cond.fieldLink RX3 40 "StatementRules2$Machine" "code" "LStatementRules2$Code;" ∈ wzX3_begin := List.mem_cons_of_mem _ (List.mem_append_left _ (List.mem_of_getElem? (i := 1) rfl))
theorem i_X3_begin_X0 : ∀ w ∈ wsX00, w ∈ wzX3_begin := fun _ h => List.mem_cons_of_mem _ (List.mem_append_right _ (List.mem_append_right _ (List.mem_append_right _ (List.mem_append_left _ (h)))))
theorem k_X3_begin_initialized_RX11 : Cond.initialized RX11 ∈ wzX3_begin := List.mem_cons_of_mem _ (List.mem_append_left _ (List.mem_of_getElem? (i := 2) rfl))
theorem k_X3_begin_static_yX11_at : Cond.static yX11_at ∈ wzX3_begin := List.mem_cons_of_mem _ (List.mem_append_left _ (List.mem_of_getElem? (i := 3) rfl))
theorem k_X3_begin_fieldLink_RX3_57_SR_Machine_place_I : Cond.fieldLink RX3 57 "StatementRules2$Machine" "place" "I" ∈ wzX3_begin := List.mem_cons_of_mem _ (List.mem_append_left _ (List.mem_of_getElem? (i := 4) rfl))
theorem k_X3_begin_fieldLink_RX3_75_SR_Machine_way_I : Cond.fieldLink RX3 75 "StatementRules2$Machine" "way" "I" ∈ wzX3_begin := List.mem_cons_of_mem _ (List.mem_append_left _ (List.mem_of_getElem? (i := 5) rfl))
set_option maxHeartbeats 4000000 in
set_option maxRecDepth 100000 in
theorem c_X3_begin (l : Launch) (dC : Nat → ClassId) (dI : Nat → Nat → Nat) (Q : CQ) (N : Nat) (σ : CS) (x1 : Nat) (x2 : Int32) (R : Unit × CS) (hf : f_X3_begin N σ x1 x2 = some R) : Met l yX3_begin wzX3_begin ({ frames := 2, cells := CS.hs R.2 - CS.hs σ, slots := 17 * (CS.hs R.2 - CS.hs σ), locals := 60 * 2 }) (va_Pc [.ref (Q.o 7), .ref x1, .int x2] (zPre dC dI (CS.hs σ) (cW Q σ) (cT Q))) (va_Qv (fun (_ : Unit) => True) (fun (_ : Unit) (t : State) => zPost dC dI (va_A (cW Q σ) (CS.hs σ)) (cW Q R.2) (cT Q) t ∧ t.heap.size = CS.hs R.2) (va_A (cW Q σ) (CS.hs σ))) (CS.hs R.2 - CS.hs σ) (17 * (CS.hs R.2 - CS.hs σ)) (va_A (cW Q σ) (CS.hs σ)) := by
  refine Met.ofW (cc := cX3_begin) (maxL := 3) (ret := none) (by decide) rfl ?_
  intro p e s m args below meth c s₁ B hml hv
  obtain ⟨rfl, hsz, hZ, hP, hK, hD0⟩ := hv
  have hx := B.exec
  have hb := B.bytes
  have hr := B.returns
  have hts := atoms_spec (ws := wzX3_begin) B.pre
  have hown : s.vm.findClass RX3 = some m.cls := findClass_of_methodNamed B.named
  have hlocks := B.notSynchronized
  have hD := hD0.self (sz := CS.hs σ)
  generalize hAe : va_A (cW Q σ) (CS.hs σ) = A at hD ⊢
  have hA : ∀ q : Nat, s.heap.size ≤ q → A q := fun q h => by rw [← hAe]; exact Or.inr (hsz ▸ h)
  have hC : CP dC dI Q A s.heap σ s.heap [] := ⟨hP, hD, va_S.rf, hsz⟩
  have h0 : CS.hs σ ≤ CS.hs σ := Nat.le_refl _
  have hl := lv_entry ([.ref (Q.o 7), .ref x1, .int x2]) (n := 3) (Nat.le_of_ble_eq_true rfl)
  rw [lg_entry_eq]
  generalize (lg_sl ([.ref (Q.o 7), .ref x1, .int x2]) ++ List.replicate (3 - (lg_sl ([.ref (Q.o 7), .ref x1, .int x2])).length) Slot.unset).toArray = ls at hl ⊢
  have hl : lv_has ls 3 [(0, .ref (Q.o 7)), (1, .ref x1), (2, .int x2)] := hl
  unfold f_X3_begin at hf
  refine W.widen (k := CS.hs σ - CS.hs σ) (n := 17 * (CS.hs σ - CS.hs σ)) (Nat.zero_le _) (Nat.zero_le _) ?_
  refine lv_aload_n hx hb dX3_begin_0 rfl (lv_at hl 0 rfl) ?_
  refine lv_aload_n hx hb dX3_begin_1 rfl (lv_at hl 1 rfl) ?_
  obtain ⟨b1, hf⟩ := hf_ite hf
  refine pGN_X2_2 (v := (CS.o σ x1 2)) hx hb hts i_X3_begin_X2 hown hK hC (va_Nw.use rfl (hZ.1 (.fieldLinkNest RX3 200 "StatementRules2$Frame" "height" "I" "StatementRules2") (by decide +kernel))) (fun _ q9 => q9) dX3_begin_2 b1 rfl ?_
  refine cP_65 (v := (CS.o σ x1 2)) hx hb hts i_X3_begin_X3 hown hK hC (hts (.fieldLink RX3 54 "StatementRules2$Machine" "height" "I") k_X3_begin_fieldLink_RX3_54_SR_Machine_height_I) (fun _ q9 => q9) dX3_begin_5 (fun H locs hC => ?_)
  refine lv_aload_n hx hb dX3_begin_8 rfl (lv_at hl 0 rfl) ?_
  refine lv_aload_n hx hb dX3_begin_9 rfl (lv_at hl 0 rfl) ?_
  refine cG_58 hx hb hts i_X3_begin_X3 hown hK hC (hts (.fieldLink RX3 40 "StatementRules2$Machine" "code" "LStatementRules2$Code;") k_X3_begin_fieldLink_RX3_40_SR_Machine_code_LSR_Code) (fun _ q9 => q9) dX3_begin_10 ?_
  refine cGN_17 hx hb hts i_X3_begin_X0 hown hK hC (va_Nw.use rfl (hZ.1 (.fieldLinkNest RX3 153 "StatementRules2$Code" "targets" "[I" "StatementRules2") (by decide +kernel))) (fun _ q9 => q9) dX3_begin_13 ?_
  refine lv_iload_n hx hb dX3_begin_16 rfl (lv_at hl 2 rfl) ?_
  have he9 := (cArr_17 (Q := Q) (σ := CS.setI σ 65 (CS.o σ x1 2)))
  have hFc := cFree1 hC hA he9
  have hr9 : CS.hs σ ≤ CS.hs R.2 := Mono.go hf (mono_some (Nat.le_refl _))
  refine va_calli (va_runSN (As := [.ref (Q.q 17), .int x2]) (rest := [.ref (Q.o 7)]) ⟨hx, hb, hml, hown, hts⟩ (c_X11_at l dC dI _ (Q.q 17) (Q.c 0) 1024 (CS.a (CS.setI σ 65 (CS.o σ x1 2)) 17) x2 (by decide)) ⟨va_cnB 2 hts hX3_begin_X11_at_n111 rfl rfl rfl (hZ.1 (.methodLinkNest RX3 111 yX11_at "StatementRules2") (by decide +kernel)) (hts (.initialized RX11) k_X3_begin_initialized_RX11) (by decide +kernel) ⟨(show 1 + 1 ≤ 2 by omega), (show 8 + (2 + 11) + 60 * 1 ≤ 60 * 2 by omega)⟩, (hts (.static yX11_at) k_X3_begin_static_yX11_at), trivial⟩ ⟨zPre.blind, zPre.go hZ (cOne hC.1 he9) (hK.sub (tys' := [(Q.c 0, .int)]) [0] rfl) (cOneD hC.2.1 he9)⟩ rfl rfl hl.1 rfl (lv_room (Nat.le_of_ble_eq_true rfl)) dX3_begin_17 ⟨cAcc4 h0 hr9, cAcc5 h0 hr9⟩) hC.2.2.1 (fun q _ h => hFc q h) hFc (fun r2 u9 t9 H1 locs ht hvm hw hB hz1 hk1 hS => ?_)
  obtain ⟨⟨hP1, hK1, hD1⟩, hsz1⟩ := hB
  rw [ht] at hP1 hsz1
  have hC := cBack (σ' := CS.setI σ 65 (CS.o σ x1 2)) hC he9 (cSelf he9) (Eq.refl (CS.hs (CS.setI σ 65 (CS.o σ x1 2)))) hk1 hP1 hsz1 hS
  generalize H1 = H at hC ⊢
  obtain rfl : r2 = (gAt (CS.a (CS.setI σ 65 (CS.o σ x1 2)) 17) 1024 x2) := hw
  refine cP_66 (v := (gAt (CS.a (CS.setI σ 65 (CS.o σ x1 2)) 17) 1024 x2)) hx hb hts i_X3_begin_X3 hown hK hC (hts (.fieldLink RX3 57 "StatementRules2$Machine" "place" "I") k_X3_begin_fieldLink_RX3_57_SR_Machine_place_I) (fun _ q9 => q9) dX3_begin_20 (fun H locs hC => ?_)
  refine lv_aload_n hx hb dX3_begin_23 rfl (lv_at hl 0 rfl) ?_
  refine lv_iconst (v := 0) hx hb dX3_begin_24 (by decide) ?_
  refine cP_73 (v := 0) hx hb hts i_X3_begin_X3 hown hK hC (hts (.fieldLink RX3 75 "StatementRules2$Machine" "way" "I") k_X3_begin_fieldLink_RX3_75_SR_Machine_way_I) (fun _ q9 => q9) dX3_begin_25 (fun H locs hC => ?_)
  obtain rfl := Option.some.inj hf
  exact W.vret hx hb hr (fun t ht hW => ⟨⟨(), rfl, trivial, ⟨by rw [ht]; exact hC.1, va_K.moved hW.alike hK, hC.2.1⟩, by rw [ht]; exact hC.2.2.2⟩, hC.2.2.1.F ht⟩) hC.2.2.1.2.2 dX3_begin_28
