theorem k_X3_instruction_fieldLink_RX3_40_SR_Machine_code_LSR_Code : Cond.fieldLink RX3 40 "StatementRules2$Machine" "code" "LStatementRules2$Code;" ∈ wzX3_instruction := List.mem_cons_of_mem _ (List.mem_append_left _ (List.mem_of_getElem? (i := 0) rfl))
theorem i_X3_instruction_X3 : ∀ w ∈ wsX30, w ∈ wzX3_instruction := fun _ h => List.mem_cons_of_mem _ (List.mem_append_right _ (List.mem_append_left _ (h)))
theorem i_X3_instruction_X0 : ∀ w ∈ wsX00, w ∈ wzX3_instruction := fun _ h => List.mem_cons_of_mem _ (List.mem_append_right _ (List.mem_append_right _ (List.mem_append_left _ (h))))
theorem k_X3_instruction_fieldLink_RX3_57_SR_Machine_place_I : Cond.fieldLink RX3 57 "StatementRules2$Machine" "place" "I" ∈ wzX3_instruction := List.mem_cons_of_mem _ (List.mem_append_left _ (List.mem_of_getElem? (i := 1) rfl))
theorem k_X3_instruction_initialized_RX11 : Cond.initialized RX11 ∈ wzX3_instruction := List.mem_cons_of_mem _ (List.mem_append_left _ (List.mem_of_getElem? (i := 2) rfl))
theorem k_X3_instruction_static_yX11_at : Cond.static yX11_at ∈ wzX3_instruction := List.mem_cons_of_mem _ (List.mem_append_left _ (List.mem_of_getElem? (i := 3) rfl))
set_option maxHeartbeats 4000000 in
set_option maxRecDepth 100000 in
theorem c_X3_instruction (l : Launch) (dC : Nat → ClassId) (dI : Nat → Nat → Nat) (Q : CQ) (N : Nat) (σ : CS) (R : Unit × CS) (hf : f_X3_instruction N σ = some R) : Met l yX3_instruction wzX3_instruction ({ frames := 6, cells := CS.hs R.2 - CS.hs σ, slots := 17 * (CS.hs R.2 - CS.hs σ), locals := 60 * 6 }) (va_Pc [.ref (Q.o 7)] (zPre dC dI (CS.hs σ) (cW Q σ) (cT Q))) (va_Qv (fun (_ : Unit) => True) (fun (_ : Unit) (t : State) => zPost dC dI (va_A (cW Q σ) (CS.hs σ)) (cW Q R.2) (cT Q) t ∧ t.heap.size = CS.hs R.2) (va_A (cW Q σ) (CS.hs σ))) (CS.hs R.2 - CS.hs σ) (17 * (CS.hs R.2 - CS.hs σ)) (va_A (cW Q σ) (CS.hs σ)) := by
  refine Met.ofW (cc := cX3_instruction) (maxL := 3) (ret := none) (by decide) rfl ?_
  intro p e s m args below meth c s₁ B hml hv
  obtain ⟨rfl, hsz, hZ, hP, hK, hD0⟩ := hv
  have hx := B.exec
  have hb := B.bytes
  have hr := B.returns
  have hts := atoms_spec (ws := wzX3_instruction) B.pre
  have hown : s.vm.findClass RX3 = some m.cls := findClass_of_methodNamed B.named
  have hlocks := B.notSynchronized
  have hD := hD0.self (sz := CS.hs σ)
  generalize hAe : va_A (cW Q σ) (CS.hs σ) = A at hD ⊢
  have hA : ∀ q : Nat, s.heap.size ≤ q → A q := fun q h => by rw [← hAe]; exact Or.inr (hsz ▸ h)
  have hC : CP dC dI Q A s.heap σ s.heap [] := ⟨hP, hD, va_S.rf, hsz⟩
  have h0 : CS.hs σ ≤ CS.hs σ := Nat.le_refl _
  have hl := lv_entry ([.ref (Q.o 7)]) (n := 3) (Nat.le_of_ble_eq_true rfl)
  rw [lg_entry_eq]
  generalize (lg_sl ([.ref (Q.o 7)]) ++ List.replicate (3 - (lg_sl ([.ref (Q.o 7)])).length) Slot.unset).toArray = ls at hl ⊢
  have hl : lv_has ls 3 [(0, .ref (Q.o 7))] := hl
  unfold f_X3_instruction at hf
  refine W.widen (k := CS.hs σ - CS.hs σ) (n := 17 * (CS.hs σ - CS.hs σ)) (Nat.zero_le _) (Nat.zero_le _) ?_
  refine lv_aload_n hx hb dX3_instruction_0 rfl (lv_at hl 0 rfl) ?_
  refine cG_58 hx hb hts i_X3_instruction_X3 hown hK hC (hts (.fieldLink RX3 40 "StatementRules2$Machine" "code" "LStatementRules2$Code;") k_X3_instruction_fieldLink_RX3_40_SR_Machine_code_LSR_Code) (fun _ q9 => q9) dX3_instruction_1 ?_
  refine cGN_15 hx hb hts i_X3_instruction_X0 hown hK hC (va_Nw.use rfl (hZ.1 (.fieldLinkNest RX3 108 "StatementRules2$Code" "ops" "[I" "StatementRules2") (by decide +kernel))) (fun _ q9 => q9) dX3_instruction_4 ?_
  refine lv_aload_n hx hb dX3_instruction_7 rfl (lv_at hl 0 rfl) ?_
  refine cG_66 (v := (σ.i 66)) hx hb hts i_X3_instruction_X3 hown hK hC (hts (.fieldLink RX3 57 "StatementRules2$Machine" "place" "I") k_X3_instruction_fieldLink_RX3_57_SR_Machine_place_I) (fun _ q9 => q9) dX3_instruction_8 rfl ?_
  have he9 := (show (cW Q σ)[13]? = some (Q.q 15, .inl (Q.c 0, 1200, .inl (σ.a 15))) from rfl)
  have hFc := cFree1 hC hA he9
  have hr9 : CS.hs σ ≤ CS.hs R.2 := Mono.go hf (mono_ite (mono_ite (mono_ite (mono_ite (mono_bind (m_X3_turn N (CS.setI σ 66 ((σ.i 66) + 1)) (gAt (σ.a 15) 1200 (σ.i 66)) (gAt (σ.a 16) 1200 (σ.i 66))) (fun p7 => (mono_some (Nat.le_refl _)))) (mono_bind (m_X3_act N (CS.setI σ 66 ((σ.i 66) + 1)) (gAt (σ.a 15) 1200 (σ.i 66)) (gAt (σ.a 16) 1200 (σ.i 66))) (fun p11 => (mono_some (Nat.le_refl _))))) (mono_bind (m_X3_steer N (CS.setI σ 66 ((σ.i 66) + 1)) (gAt (σ.a 15) 1200 (σ.i 66)) (gAt (σ.a 16) 1200 (σ.i 66))) (fun p15 => (mono_some (Nat.le_refl _))))) (mono_bind (m_X3_combine N (CS.setI σ 66 ((σ.i 66) + 1)) (gAt (σ.a 15) 1200 (σ.i 66))) (fun p19 => (mono_some (Nat.le_refl _))))) (mono_bind (m_X3_move N (CS.setI σ 66 ((σ.i 66) + 1)) (gAt (σ.a 15) 1200 (σ.i 66)) (gAt (σ.a 16) 1200 (σ.i 66))) (fun p23 => (mono_some (Nat.le_refl _)))))
  refine va_calli (va_runSN (As := [.ref (Q.q 15), .int (σ.i 66)]) (rest := []) ⟨hx, hb, hml, hown, hts⟩ (c_X11_at l dC dI _ (Q.q 15) (Q.c 0) 1200 (σ.a 15) (σ.i 66) (by decide)) ⟨va_cnB 2 hts hX3_instruction_X11_at_n111 rfl rfl rfl (hZ.1 (.methodLinkNest RX3 111 yX11_at "StatementRules2") (by decide +kernel)) (hts (.initialized RX11) k_X3_instruction_initialized_RX11) (by decide +kernel) ⟨(show 1 + 1 ≤ 6 by omega), (show 8 + (2 + 11) + 60 * 1 ≤ 60 * 6 by omega)⟩, (hts (.static yX11_at) k_X3_instruction_static_yX11_at), trivial⟩ ⟨zPre.blind, zPre.go hZ (cOne hC.1 he9) (hK.sub (tys' := [(Q.c 0, .int)]) [0] rfl) (cOneD hC.2.1 he9)⟩ rfl rfl hl.1 rfl (lv_room (Nat.le_of_ble_eq_true rfl)) dX3_instruction_11 ⟨cAcc4 h0 hr9, cAcc5 h0 hr9⟩) hC.2.2.1 (fun q _ h => hFc q h) hFc (fun r1 u9 t9 H1 locs ht hvm hw hB hz1 hk1 hS => ?_)
  obtain ⟨⟨hP1, hK1, hD1⟩, hsz1⟩ := hB
  rw [ht] at hP1 hsz1
  have hC := cBack (σ' := σ) hC he9 (cSelf he9) rfl hk1 hP1 hsz1 hS
  generalize H1 = H at hC ⊢
  obtain rfl : r1 = (gAt (σ.a 15) 1200 (σ.i 66)) := hw
  refine lv_istore_n (lv' := [(1, .int (gAt (σ.a 15) 1200 (σ.i 66))), (0, .ref (Q.o 7))]) hx hb dX3_instruction_14 rfl hl (by decide) rfl (fun ls hl => ?_)
  refine lv_aload_n hx hb dX3_instruction_15 rfl (lv_at hl 1 rfl) ?_
  refine cG_58 hx hb hts i_X3_instruction_X3 hown hK hC (hts (.fieldLink RX3 40 "StatementRules2$Machine" "code" "LStatementRules2$Code;") k_X3_instruction_fieldLink_RX3_40_SR_Machine_code_LSR_Code) (fun _ q9 => q9) dX3_instruction_16 ?_
  refine cGN_16 hx hb hts i_X3_instruction_X0 hown hK hC (va_Nw.use rfl (hZ.1 (.fieldLinkNest RX3 115 "StatementRules2$Code" "arguments" "[I" "StatementRules2") (by decide +kernel))) (fun _ q9 => q9) dX3_instruction_19 ?_
  refine lv_aload_n hx hb dX3_instruction_22 rfl (lv_at hl 1 rfl) ?_
  refine cG_66 (v := (σ.i 66)) hx hb hts i_X3_instruction_X3 hown hK hC (hts (.fieldLink RX3 57 "StatementRules2$Machine" "place" "I") k_X3_instruction_fieldLink_RX3_57_SR_Machine_place_I) (fun _ q9 => q9) dX3_instruction_23 rfl ?_
  have he9 := (show (cW Q σ)[14]? = some (Q.q 16, .inl (Q.c 0, 1200, .inl (σ.a 16))) from rfl)
  have hFc := cFree1 hC hA he9
  have hr9 : CS.hs σ ≤ CS.hs R.2 := Mono.go hf (mono_ite (mono_ite (mono_ite (mono_ite (mono_bind (m_X3_turn N (CS.setI σ 66 ((σ.i 66) + 1)) (gAt (σ.a 15) 1200 (σ.i 66)) (gAt (σ.a 16) 1200 (σ.i 66))) (fun p7 => (mono_some (Nat.le_refl _)))) (mono_bind (m_X3_act N (CS.setI σ 66 ((σ.i 66) + 1)) (gAt (σ.a 15) 1200 (σ.i 66)) (gAt (σ.a 16) 1200 (σ.i 66))) (fun p11 => (mono_some (Nat.le_refl _))))) (mono_bind (m_X3_steer N (CS.setI σ 66 ((σ.i 66) + 1)) (gAt (σ.a 15) 1200 (σ.i 66)) (gAt (σ.a 16) 1200 (σ.i 66))) (fun p15 => (mono_some (Nat.le_refl _))))) (mono_bind (m_X3_combine N (CS.setI σ 66 ((σ.i 66) + 1)) (gAt (σ.a 15) 1200 (σ.i 66))) (fun p19 => (mono_some (Nat.le_refl _))))) (mono_bind (m_X3_move N (CS.setI σ 66 ((σ.i 66) + 1)) (gAt (σ.a 15) 1200 (σ.i 66)) (gAt (σ.a 16) 1200 (σ.i 66))) (fun p23 => (mono_some (Nat.le_refl _)))))
  refine va_calli (va_runSN (As := [.ref (Q.q 16), .int (σ.i 66)]) (rest := []) ⟨hx, hb, hml, hown, hts⟩ (c_X11_at l dC dI _ (Q.q 16) (Q.c 0) 1200 (σ.a 16) (σ.i 66) (by decide)) ⟨va_cnB 2 hts hX3_instruction_X11_at_n111 rfl rfl rfl (hZ.1 (.methodLinkNest RX3 111 yX11_at "StatementRules2") (by decide +kernel)) (hts (.initialized RX11) k_X3_instruction_initialized_RX11) (by decide +kernel) ⟨(show 1 + 1 ≤ 6 by omega), (show 8 + (2 + 11) + 60 * 1 ≤ 60 * 6 by omega)⟩, (hts (.static yX11_at) k_X3_instruction_static_yX11_at), trivial⟩ ⟨zPre.blind, zPre.go hZ (cOne hC.1 he9) (hK.sub (tys' := [(Q.c 0, .int)]) [0] rfl) (cOneD hC.2.1 he9)⟩ rfl rfl hl.1 rfl (lv_room (Nat.le_of_ble_eq_true rfl)) dX3_instruction_26 ⟨cAcc4 h0 hr9, cAcc5 h0 hr9⟩) hC.2.2.1 (fun q _ h => hFc q h) hFc (fun r2 u9 t9 H1 locs ht hvm hw hB hz1 hk1 hS => ?_)
  obtain ⟨⟨hP1, hK1, hD1⟩, hsz1⟩ := hB
  rw [ht] at hP1 hsz1
  have hC := cBack (σ' := σ) hC he9 (cSelf he9) rfl hk1 hP1 hsz1 hS
  generalize H1 = H at hC ⊢
  obtain rfl : r2 = (gAt (σ.a 16) 1200 (σ.i 66)) := hw
  refine lv_istore_n (lv' := [(2, .int (gAt (σ.a 16) 1200 (σ.i 66))), (1, .int (gAt (σ.a 15) 1200 (σ.i 66))), (0, .ref (Q.o 7))]) hx hb dX3_instruction_29 rfl hl (by decide) rfl (fun ls hl => ?_)
  refine lv_aload_n hx hb dX3_instruction_30 rfl (lv_at hl 2 rfl) ?_
  refine lv_dup hx hb dX3_instruction_31 rfl ?_
  refine cG_66 (v := (σ.i 66)) hx hb hts i_X3_instruction_X3 hown hK hC (hts (.fieldLink RX3 57 "StatementRules2$Machine" "place" "I") k_X3_instruction_fieldLink_RX3_57_SR_Machine_place_I) (fun _ q9 => q9) dX3_instruction_32 rfl ?_
  refine lv_iconst (v := 1) hx hb dX3_instruction_35 (by decide) ?_
  refine lv_iadd hx hb dX3_instruction_36 ?_
  refine cP_66 (v := ((σ.i 66) + 1)) hx hb hts i_X3_instruction_X3 hown hK hC (hts (.fieldLink RX3 57 "StatementRules2$Machine" "place" "I") k_X3_instruction_fieldLink_RX3_57_SR_Machine_place_I) (fun _ q9 => q9) dX3_instruction_37 (fun H locs hC => ?_)
  refine lv_iload_n hx hb dX3_instruction_40 rfl (lv_at hl 1 rfl) ?_
  refine lv_bipush (v := 7) hx hb dX3_instruction_41 (by decide) ?_
  refine lv_icmp_ge (tgt := 55) hx hb dX3_instruction_43 (by decide) (fun c3 => ?_) (fun c3 => ?_)
  ·
    replace hf := (if_pos c3).symm.trans hf
    refine lv_iload_n hx hb dX3_instruction_55 rfl (lv_at hl 1 rfl) ?_
    refine lv_bipush (v := 30) hx hb dX3_instruction_56 (by decide) ?_
    refine lv_icmp_ge (tgt := 69) hx hb dX3_instruction_58 (by decide) (fun c4 => ?_) (fun c4 => ?_)
    ·
      replace hf := (if_pos c4).symm.trans hf
      refine lv_iload_n hx hb dX3_instruction_69 rfl (lv_at hl 1 rfl) ?_
      refine lv_bipush (v := 50) hx hb dX3_instruction_70 (by decide) ?_
      refine lv_icmp_ge (tgt := 84) hx hb dX3_instruction_72 (by decide) (fun c5 => ?_) (fun c5 => ?_)
      ·
        replace hf := (if_pos c5).symm.trans hf
        refine lv_iload_n hx hb dX3_instruction_84 rfl (lv_at hl 1 rfl) ?_
        refine lv_bipush (v := 56) hx hb dX3_instruction_85 (by decide) ?_
        refine lv_icmp_ge (tgt := 99) hx hb dX3_instruction_87 (by decide) (fun c6 => ?_) (fun c6 => ?_)
        ·
          replace hf := (if_pos c6).symm.trans hf
          refine lv_aload_n hx hb dX3_instruction_99 rfl (lv_at hl 2 rfl) ?_
          refine lv_iload_n hx hb dX3_instruction_100 rfl (lv_at hl 1 rfl) ?_
          refine lv_iload_n hx hb dX3_instruction_101 rfl (lv_at hl 0 rfl) ?_
          obtain ⟨p7, hcp7, hf⟩ := hf_bind hf
          have hm8 : CS.hs σ ≤ CS.hs p7.2 := Mono.go hcp7 (m_X3_turn N (CS.setI σ 66 ((σ.i 66) + 1)) (gAt (σ.a 15) 1200 (σ.i 66)) (gAt (σ.a 16) 1200 (σ.i 66)))
          have hr9 : CS.hs p7.2 ≤ CS.hs R.2 := Mono.go hf (mono_some (Nat.le_refl _))
          have hFc := cFree hC hA
          refine va_callv (va_runV (As := [.int (gAt (σ.a 15) 1200 (σ.i 66)), .int (gAt (σ.a 16) 1200 (σ.i 66))]) (rest := []) ⟨hx, hb, hml, hown, hts⟩ (c_X3_turn l dC dI Q N (CS.setI σ 66 ((σ.i 66) + 1)) (gAt (σ.a 15) 1200 (σ.i 66)) (gAt (σ.a 16) 1200 (σ.i 66)) p7 hcp7) (cwV 2 hts hX3_instruction_X3_turn_v132 rfl rfl rfl (by decide +kernel) ⟨(show 4 + 1 ≤ 6 by omega), (show 8 + (3 + 11) + 60 * 4 ≤ 60 * 6 by omega)⟩) ⟨zPre.blind, va_recv hK hC.1 (ci := 2) (q0 := 7) rfl rfl, cPre_go hZ hK hC⟩ rfl rfl hl.1 rfl (lv_room (Nat.le_of_ble_eq_true rfl)) dX3_instruction_102 (cAcc h0 hm8 hr9)) hC.2.2.1 (fun q _ h => hFc q h) hFc (fun u9 t9 H1 locs ht hvm hw hB hz1 hk1 hS => ?_)
          obtain ⟨⟨hP, hK1, hD1⟩, hsz1⟩ := hB
          rw [ht] at hP hsz1
          have hC : CP dC dI Q A s.heap p7.2 H1 locs := ⟨hP, hD1.weaken (fun _ _ _ h => hFc _ h), hS, hsz1⟩
          generalize H1 = H at hC ⊢
          have h10 : (CS.hs σ) ≤ CS.hs p7.2 := Nat.le_trans h0 hm8
          refine W.widen (k := CS.hs p7.2 - (CS.hs σ)) (n := 17 * (CS.hs p7.2 - (CS.hs σ))) (cAcc2 h0 hm8) (cAcc3 h0 hm8) ?_
          obtain rfl := Option.some.inj hf
          exact W.vret hx hb hr (fun t ht hW => ⟨⟨(), rfl, trivial, ⟨by rw [ht]; exact hC.1, va_K.moved hW.alike hK, hC.2.1⟩, by rw [ht]; exact hC.2.2.2⟩, hC.2.2.1.F ht⟩) hC.2.2.1.2.2 dX3_instruction_105
        ·
          replace hf := (if_neg c6).symm.trans hf
          refine lv_aload_n hx hb dX3_instruction_90 rfl (lv_at hl 2 rfl) ?_
          refine lv_iload_n hx hb dX3_instruction_91 rfl (lv_at hl 1 rfl) ?_
          refine lv_iload_n hx hb dX3_instruction_92 rfl (lv_at hl 0 rfl) ?_
          obtain ⟨p11, hcp11, hf⟩ := hf_bind hf
          have hm12 : CS.hs σ ≤ CS.hs p11.2 := Mono.go hcp11 (m_X3_act N (CS.setI σ 66 ((σ.i 66) + 1)) (gAt (σ.a 15) 1200 (σ.i 66)) (gAt (σ.a 16) 1200 (σ.i 66)))
          have hr9 : CS.hs p11.2 ≤ CS.hs R.2 := Mono.go hf (mono_some (Nat.le_refl _))
          have hFc := cFree hC hA
          refine va_callv (va_runV (As := [.int (gAt (σ.a 15) 1200 (σ.i 66)), .int (gAt (σ.a 16) 1200 (σ.i 66))]) (rest := []) ⟨hx, hb, hml, hown, hts⟩ (c_X3_act l dC dI Q N (CS.setI σ 66 ((σ.i 66) + 1)) (gAt (σ.a 15) 1200 (σ.i 66)) (gAt (σ.a 16) 1200 (σ.i 66)) p11 hcp11) (cwV 2 hts hX3_instruction_X3_act_v129 rfl rfl rfl (by decide +kernel) ⟨(show 5 + 1 ≤ 6 by omega), (show 8 + (3 + 11) + 60 * 5 ≤ 60 * 6 by omega)⟩) ⟨zPre.blind, va_recv hK hC.1 (ci := 2) (q0 := 7) rfl rfl, cPre_go hZ hK hC⟩ rfl rfl hl.1 rfl (lv_room (Nat.le_of_ble_eq_true rfl)) dX3_instruction_93 (cAcc h0 hm12 hr9)) hC.2.2.1 (fun q _ h => hFc q h) hFc (fun u9 t9 H1 locs ht hvm hw hB hz1 hk1 hS => ?_)
          obtain ⟨⟨hP, hK1, hD1⟩, hsz1⟩ := hB
          rw [ht] at hP hsz1
          have hC : CP dC dI Q A s.heap p11.2 H1 locs := ⟨hP, hD1.weaken (fun _ _ _ h => hFc _ h), hS, hsz1⟩
          generalize H1 = H at hC ⊢
          have h14 : (CS.hs σ) ≤ CS.hs p11.2 := Nat.le_trans h0 hm12
          refine W.widen (k := CS.hs p11.2 - (CS.hs σ)) (n := 17 * (CS.hs p11.2 - (CS.hs σ))) (cAcc2 h0 hm12) (cAcc3 h0 hm12) ?_
          refine lv_goto (tgt := 105) hx hb dX3_instruction_96 (by decide) ?_
          obtain rfl := Option.some.inj hf
          exact W.vret hx hb hr (fun t ht hW => ⟨⟨(), rfl, trivial, ⟨by rw [ht]; exact hC.1, va_K.moved hW.alike hK, hC.2.1⟩, by rw [ht]; exact hC.2.2.2⟩, hC.2.2.1.F ht⟩) hC.2.2.1.2.2 dX3_instruction_105
      ·
        replace hf := (if_neg c5).symm.trans hf
        refine lv_aload_n hx hb dX3_instruction_75 rfl (lv_at hl 2 rfl) ?_
        refine lv_iload_n hx hb dX3_instruction_76 rfl (lv_at hl 1 rfl) ?_
        refine lv_iload_n hx hb dX3_instruction_77 rfl (lv_at hl 0 rfl) ?_
        obtain ⟨p15, hcp15, hf⟩ := hf_bind hf
        have hm16 : CS.hs σ ≤ CS.hs p15.2 := Mono.go hcp15 (m_X3_steer N (CS.setI σ 66 ((σ.i 66) + 1)) (gAt (σ.a 15) 1200 (σ.i 66)) (gAt (σ.a 16) 1200 (σ.i 66)))
        have hr9 : CS.hs p15.2 ≤ CS.hs R.2 := Mono.go hf (mono_some (Nat.le_refl _))
        have hFc := cFree hC hA
        refine va_callv (va_runV (As := [.int (gAt (σ.a 15) 1200 (σ.i 66)), .int (gAt (σ.a 16) 1200 (σ.i 66))]) (rest := []) ⟨hx, hb, hml, hown, hts⟩ (c_X3_steer l dC dI Q N (CS.setI σ 66 ((σ.i 66) + 1)) (gAt (σ.a 15) 1200 (σ.i 66)) (gAt (σ.a 16) 1200 (σ.i 66)) p15 hcp15) (cwV 2 hts hX3_instruction_X3_steer_v126 rfl rfl rfl (by decide +kernel) ⟨(show 4 + 1 ≤ 6 by omega), (show 8 + (3 + 11) + 60 * 4 ≤ 60 * 6 by omega)⟩) ⟨zPre.blind, va_recv hK hC.1 (ci := 2) (q0 := 7) rfl rfl, cPre_go hZ hK hC⟩ rfl rfl hl.1 rfl (lv_room (Nat.le_of_ble_eq_true rfl)) dX3_instruction_78 (cAcc h0 hm16 hr9)) hC.2.2.1 (fun q _ h => hFc q h) hFc (fun u9 t9 H1 locs ht hvm hw hB hz1 hk1 hS => ?_)
        obtain ⟨⟨hP, hK1, hD1⟩, hsz1⟩ := hB
        rw [ht] at hP hsz1
        have hC : CP dC dI Q A s.heap p15.2 H1 locs := ⟨hP, hD1.weaken (fun _ _ _ h => hFc _ h), hS, hsz1⟩
        generalize H1 = H at hC ⊢
        have h18 : (CS.hs σ) ≤ CS.hs p15.2 := Nat.le_trans h0 hm16
        refine W.widen (k := CS.hs p15.2 - (CS.hs σ)) (n := 17 * (CS.hs p15.2 - (CS.hs σ))) (cAcc2 h0 hm16) (cAcc3 h0 hm16) ?_
        refine lv_goto (tgt := 105) hx hb dX3_instruction_81 (by decide) ?_
        obtain rfl := Option.some.inj hf
        exact W.vret hx hb hr (fun t ht hW => ⟨⟨(), rfl, trivial, ⟨by rw [ht]; exact hC.1, va_K.moved hW.alike hK, hC.2.1⟩, by rw [ht]; exact hC.2.2.2⟩, hC.2.2.1.F ht⟩) hC.2.2.1.2.2 dX3_instruction_105
    ·
      replace hf := (if_neg c4).symm.trans hf
      refine lv_aload_n hx hb dX3_instruction_61 rfl (lv_at hl 2 rfl) ?_
      refine lv_iload_n hx hb dX3_instruction_62 rfl (lv_at hl 1 rfl) ?_
      obtain ⟨p19, hcp19, hf⟩ := hf_bind hf
      have hm20 : CS.hs σ ≤ CS.hs p19.2 := Mono.go hcp19 (m_X3_combine N (CS.setI σ 66 ((σ.i 66) + 1)) (gAt (σ.a 15) 1200 (σ.i 66)))
      have hr9 : CS.hs p19.2 ≤ CS.hs R.2 := Mono.go hf (mono_some (Nat.le_refl _))
      have hFc := cFree hC hA
      refine va_callv (va_runV (As := [.int (gAt (σ.a 15) 1200 (σ.i 66))]) (rest := []) ⟨hx, hb, hml, hown, hts⟩ (c_X3_combine l dC dI Q N (CS.setI σ 66 ((σ.i 66) + 1)) (gAt (σ.a 15) 1200 (σ.i 66)) p19 hcp19) (cwV 1 hts hX3_instruction_X3_combine_v122 rfl rfl rfl (by decide +kernel) ⟨(show 5 + 1 ≤ 6 by omega), (show 8 + (4 + 11) + 60 * 5 ≤ 60 * 6 by omega)⟩) ⟨zPre.blind, va_recv hK hC.1 (ci := 2) (q0 := 7) rfl rfl, cPre_go hZ hK hC⟩ rfl rfl hl.1 rfl (lv_room (Nat.le_of_ble_eq_true rfl)) dX3_instruction_63 (cAcc h0 hm20 hr9)) hC.2.2.1 (fun q _ h => hFc q h) hFc (fun u9 t9 H1 locs ht hvm hw hB hz1 hk1 hS => ?_)
      obtain ⟨⟨hP, hK1, hD1⟩, hsz1⟩ := hB
      rw [ht] at hP hsz1
      have hC : CP dC dI Q A s.heap p19.2 H1 locs := ⟨hP, hD1.weaken (fun _ _ _ h => hFc _ h), hS, hsz1⟩
      generalize H1 = H at hC ⊢
      have h22 : (CS.hs σ) ≤ CS.hs p19.2 := Nat.le_trans h0 hm20
      refine W.widen (k := CS.hs p19.2 - (CS.hs σ)) (n := 17 * (CS.hs p19.2 - (CS.hs σ))) (cAcc2 h0 hm20) (cAcc3 h0 hm20) ?_
      refine lv_goto (tgt := 105) hx hb dX3_instruction_66 (by decide) ?_
      obtain rfl := Option.some.inj hf
      exact W.vret hx hb hr (fun t ht hW => ⟨⟨(), rfl, trivial, ⟨by rw [ht]; exact hC.1, va_K.moved hW.alike hK, hC.2.1⟩, by rw [ht]; exact hC.2.2.2⟩, hC.2.2.1.F ht⟩) hC.2.2.1.2.2 dX3_instruction_105
  ·
    replace hf := (if_neg c3).symm.trans hf
    refine lv_aload_n hx hb dX3_instruction_46 rfl (lv_at hl 2 rfl) ?_
    refine lv_iload_n hx hb dX3_instruction_47 rfl (lv_at hl 1 rfl) ?_
    refine lv_iload_n hx hb dX3_instruction_48 rfl (lv_at hl 0 rfl) ?_
    obtain ⟨p23, hcp23, hf⟩ := hf_bind hf
    have hm24 : CS.hs σ ≤ CS.hs p23.2 := Mono.go hcp23 (m_X3_move N (CS.setI σ 66 ((σ.i 66) + 1)) (gAt (σ.a 15) 1200 (σ.i 66)) (gAt (σ.a 16) 1200 (σ.i 66)))
    have hr9 : CS.hs p23.2 ≤ CS.hs R.2 := Mono.go hf (mono_some (Nat.le_refl _))
    have hFc := cFree hC hA
    refine va_callv (va_runV (As := [.int (gAt (σ.a 15) 1200 (σ.i 66)), .int (gAt (σ.a 16) 1200 (σ.i 66))]) (rest := []) ⟨hx, hb, hml, hown, hts⟩ (c_X3_move l dC dI Q N (CS.setI σ 66 ((σ.i 66) + 1)) (gAt (σ.a 15) 1200 (σ.i 66)) (gAt (σ.a 16) 1200 (σ.i 66)) p23 hcp23) (cwV 2 hts hX3_instruction_X3_move_v118 rfl rfl rfl (by decide +kernel) ⟨(show 3 + 1 ≤ 6 by omega), (show 8 + (3 + 11) + 60 * 3 ≤ 60 * 6 by omega)⟩) ⟨zPre.blind, va_recv hK hC.1 (ci := 2) (q0 := 7) rfl rfl, cPre_go hZ hK hC⟩ rfl rfl hl.1 rfl (lv_room (Nat.le_of_ble_eq_true rfl)) dX3_instruction_49 (cAcc h0 hm24 hr9)) hC.2.2.1 (fun q _ h => hFc q h) hFc (fun u9 t9 H1 locs ht hvm hw hB hz1 hk1 hS => ?_)
    obtain ⟨⟨hP, hK1, hD1⟩, hsz1⟩ := hB
    rw [ht] at hP hsz1
    have hC : CP dC dI Q A s.heap p23.2 H1 locs := ⟨hP, hD1.weaken (fun _ _ _ h => hFc _ h), hS, hsz1⟩
    generalize H1 = H at hC ⊢
    have h26 : (CS.hs σ) ≤ CS.hs p23.2 := Nat.le_trans h0 hm24
    refine W.widen (k := CS.hs p23.2 - (CS.hs σ)) (n := 17 * (CS.hs p23.2 - (CS.hs σ))) (cAcc2 h0 hm24) (cAcc3 h0 hm24) ?_
    refine lv_goto (tgt := 105) hx hb dX3_instruction_52 (by decide) ?_
    obtain rfl := Option.some.inj hf
    exact W.vret hx hb hr (fun t ht hW => ⟨⟨(), rfl, trivial, ⟨by rw [ht]; exact hC.1, va_K.moved hW.alike hK, hC.2.1⟩, by rw [ht]; exact hC.2.2.2⟩, hC.2.2.1.F ht⟩) hC.2.2.1.2.2 dX3_instruction_105
theorem k_X3_arrive_fieldLink_RX3_75_SR_Machine_way_I : Cond.fieldLink RX3 75 "StatementRules2$Machine" "way" "I" ∈ wzX3_arrive := List.mem_cons_of_mem _ (List.mem_append_left _ (List.mem_of_getElem? (i := 0) rfl))
theorem i_X3_arrive_X3 : ∀ w ∈ wsX30, w ∈ wzX3_arrive := fun _ h => List.mem_cons_of_mem _ (List.mem_append_right _ (List.mem_append_left _ (h)))
theorem k_X3_arrive_fieldLink_RX3_40_SR_Machine_code_LSR_Code : Cond.fieldLink RX3 40 "StatementRules2$Machine" "code" "LStatementRules2$Code;" ∈ wzX3_arrive := List.mem_cons_of_mem _ (List.mem_append_left _ (List.mem_of_getElem? (i := 1) rfl))
theorem i_X3_arrive_X0 : ∀ w ∈ wsX00, w ∈ wzX3_arrive := fun _ h => List.mem_cons_of_mem _ (List.mem_append_right _ (List.mem_append_right _ (List.mem_append_left _ (h))))
theorem k_X3_arrive_fieldLink_RX3_235_SR_Machine_wayTarget_I : Cond.fieldLink RX3 235 "StatementRules2$Machine" "wayTarget" "I" ∈ wzX3_arrive := List.mem_cons_of_mem _ (List.mem_append_left _ (List.mem_of_getElem? (i := 2) rfl))
theorem k_X3_arrive_initialized_RX11 : Cond.initialized RX11 ∈ wzX3_arrive := List.mem_cons_of_mem _ (List.mem_append_left _ (List.mem_of_getElem? (i := 3) rfl))
theorem k_X3_arrive_static_yX11_at : Cond.static yX11_at ∈ wzX3_arrive := List.mem_cons_of_mem _ (List.mem_append_left _ (List.mem_of_getElem? (i := 4) rfl))
theorem k_X3_arrive_fieldLink_RX3_57_SR_Machine_place_I : Cond.fieldLink RX3 57 "StatementRules2$Machine" "place" "I" ∈ wzX3_arrive := List.mem_cons_of_mem _ (List.mem_append_left _ (List.mem_of_getElem? (i := 5) rfl))
theorem k_X3_arrive_fieldLink_RX3_78_SR_Machine_wayValue_I : Cond.fieldLink RX3 78 "StatementRules2$Machine" "wayValue" "I" ∈ wzX3_arrive := List.mem_cons_of_mem _ (List.mem_append_left _ (List.mem_of_getElem? (i := 6) rfl))
theorem k_X3_arrive_fieldLink_RX3_85_SR_Machine_outcome_I : Cond.fieldLink RX3 85 "StatementRules2$Machine" "outcome" "I" ∈ wzX3_arrive := List.mem_cons_of_mem _ (List.mem_append_left _ (List.mem_of_getElem? (i := 7) rfl))
set_option maxHeartbeats 4000000 in
set_option maxRecDepth 100000 in
theorem j_X3_arrive_48 {p : Program} {e : Env} {s : State} {m : MethodId} {args : Array Value} {below : List Frame} {meth : Method} {c : Code} {A : Nat → Prop} (l : Launch) (dC : Nat → ClassId) (dI : Nat → Nat → Nat) (Q : CQ) (N : Nat) (z9h : Nat) (R : Unit × CS) (hx : p.tables.exec = Jvm.exec) (hb : c.code = cX3_arrive) (hr : meth.sig.returnType = none) (hml : c.maxLocals = 1) (hown : s.vm.findClass RX3 = some m.cls) (hts : ∀ w ∈ wzX3_arrive, w.before args s = true) (hlocks : meth.locks = false) (hZ : zAMB s) (hA : ∀ q : Nat, s.heap.size ≤ q → A q) (hK : va_K (dC, dI) vwCl (cT Q) s) : ∀ (σ : CS) (H : Heap) (locs : List Loc) (ls : Array Slot), f_X3_arrive_48 N σ = some R → z9h ≤ CS.hs σ → CP dC dI Q A s.heap σ H locs → lv_has ls 1 [(0, .ref (Q.o 7))] → W p l e ({ frames := 3, cells := CS.hs R.2 - z9h, slots := 17 * (CS.hs R.2 - z9h), locals := 60 * 3 }) s m args below meth c H locs (CS.hs σ - z9h) (17 * (CS.hs σ - z9h)) (MQ below (va_Qv (fun (_ : Unit) => True) (fun (_ : Unit) (t : State) => zPost dC dI A (cW Q R.2) (cT Q) t ∧ t.heap.size = CS.hs R.2) A) args s (CS.hs R.2 - z9h) (17 * (CS.hs R.2 - z9h)) A) (F0 m 48 ls []) := by
  intro σ  H locs ls hf h0 hC hl
  unfold f_X3_arrive_48 at hf
  refine lv_aload_n hx hb dX3_arrive_48 rfl (lv_at hl 0 rfl) ?_
  refine lv_aload_n hx hb dX3_arrive_49 rfl (lv_at hl 0 rfl) ?_
  refine cG_58 hx hb hts i_X3_arrive_X3 hown hK hC (hts (.fieldLink RX3 40 "StatementRules2$Machine" "code" "LStatementRules2$Code;") k_X3_arrive_fieldLink_RX3_40_SR_Machine_code_LSR_Code) (fun _ q9 => q9) dX3_arrive_50 ?_
  refine cGN_17 hx hb hts i_X3_arrive_X0 hown hK hC (va_Nw.use rfl (hZ.1 (.fieldLinkNest RX3 153 "StatementRules2$Code" "targets" "[I" "StatementRules2") (by decide +kernel))) (fun _ q9 => q9) dX3_arrive_53 ?_
  refine lv_aload_n hx hb dX3_arrive_56 rfl (lv_at hl 0 rfl) ?_
  refine cG_75 (v := (σ.i 75)) hx hb hts i_X3_arrive_X3 hown hK hC (hts (.fieldLink RX3 235 "StatementRules2$Machine" "wayTarget" "I") k_X3_arrive_fieldLink_RX3_235_SR_Machine_wayTarget_I) (fun _ q9 => q9) dX3_arrive_57 rfl ?_
  refine lv_bipush (v := 32) hx hb dX3_arrive_60 (by decide) ?_
  refine lv_idiv hx hb dX3_arrive_62 (by decide) ?_
  have he9 := (show (cW Q σ)[15]? = some (Q.q 17, .inl (Q.c 0, 1024, .inl (σ.a 17))) from rfl)
  have hFc := cFree1 hC hA he9
  have hr9 : CS.hs σ ≤ CS.hs R.2 := Mono.go hf (mono_some (Nat.le_refl _))
  refine va_calli (va_runSN (As := [.ref (Q.q 17), .int ((σ.i 75) / 32)]) (rest := [.ref (Q.o 7)]) ⟨hx, hb, hml, hown, hts⟩ (c_X11_at l dC dI _ (Q.q 17) (Q.c 0) 1024 (σ.a 17) ((σ.i 75) / 32) (by decide)) ⟨va_cnB 2 hts hX3_arrive_X11_at_n111 rfl rfl rfl (hZ.1 (.methodLinkNest RX3 111 yX11_at "StatementRules2") (by decide +kernel)) (hts (.initialized RX11) k_X3_arrive_initialized_RX11) (by decide +kernel) ⟨(show 1 + 1 ≤ 3 by omega), (show 8 + (2 + 11) + 60 * 1 ≤ 60 * 3 by omega)⟩, (hts (.static yX11_at) k_X3_arrive_static_yX11_at), trivial⟩ ⟨zPre.blind, zPre.go hZ (cOne hC.1 he9) (hK.sub (tys' := [(Q.c 0, .int)]) [0] rfl) (cOneD hC.2.1 he9)⟩ rfl rfl hl.1 rfl (lv_room (Nat.le_of_ble_eq_true rfl)) dX3_arrive_63 ⟨cAcc4 h0 hr9, cAcc5 h0 hr9⟩) hC.2.2.1 (fun q _ h => hFc q h) hFc (fun r4 u9 t9 H1 locs ht hvm hw hB hz1 hk1 hS => ?_)
  obtain ⟨⟨hP1, hK1, hD1⟩, hsz1⟩ := hB
  rw [ht] at hP1 hsz1
  have hC := cBack (σ' := σ) hC he9 (cSelf he9) rfl hk1 hP1 hsz1 hS
  generalize H1 = H at hC ⊢
  obtain rfl : r4 = (gAt (σ.a 17) 1024 ((σ.i 75) / 32)) := hw
  refine cP_66 (v := (gAt (σ.a 17) 1024 ((σ.i 75) / 32))) hx hb hts i_X3_arrive_X3 hown hK hC (hts (.fieldLink RX3 57 "StatementRules2$Machine" "place" "I") k_X3_arrive_fieldLink_RX3_57_SR_Machine_place_I) (fun _ q9 => q9) dX3_arrive_66 (fun H locs hC => ?_)
  refine lv_aload_n hx hb dX3_arrive_69 rfl (lv_at hl 0 rfl) ?_
  refine lv_iconst (v := 0) hx hb dX3_arrive_70 (by decide) ?_
  refine cP_73 (v := 0) hx hb hts i_X3_arrive_X3 hown hK hC (hts (.fieldLink RX3 75 "StatementRules2$Machine" "way" "I") k_X3_arrive_fieldLink_RX3_75_SR_Machine_way_I) (fun _ q9 => q9) dX3_arrive_71 (fun H locs hC => ?_)
  obtain rfl := Option.some.inj hf
  exact W.vret hx hb hr (fun t ht hW => ⟨⟨(), rfl, trivial, ⟨by rw [ht]; exact hC.1, va_K.moved hW.alike hK, hC.2.1⟩, by rw [ht]; exact hC.2.2.2⟩, hC.2.2.1.F ht⟩) hC.2.2.1.2.2 dX3_arrive_74
set_option maxHeartbeats 4000000 in
set_option maxRecDepth 100000 in
theorem c_X3_arrive (l : Launch) (dC : Nat → ClassId) (dI : Nat → Nat → Nat) (Q : CQ) (N : Nat) (σ : CS) (R : Unit × CS) (hf : f_X3_arrive N σ = some R) : Met l yX3_arrive wzX3_arrive ({ frames := 3, cells := CS.hs R.2 - CS.hs σ, slots := 17 * (CS.hs R.2 - CS.hs σ), locals := 60 * 3 }) (va_Pc [.ref (Q.o 7)] (zPre dC dI (CS.hs σ) (cW Q σ) (cT Q))) (va_Qv (fun (_ : Unit) => True) (fun (_ : Unit) (t : State) => zPost dC dI (va_A (cW Q σ) (CS.hs σ)) (cW Q R.2) (cT Q) t ∧ t.heap.size = CS.hs R.2) (va_A (cW Q σ) (CS.hs σ))) (CS.hs R.2 - CS.hs σ) (17 * (CS.hs R.2 - CS.hs σ)) (va_A (cW Q σ) (CS.hs σ)) := by
  refine Met.ofW (cc := cX3_arrive) (maxL := 1) (ret := none) (by decide) rfl ?_
  intro p e s m args below meth c s₁ B hml hv
  obtain ⟨rfl, hsz, hZ, hP, hK, hD0⟩ := hv
  have hx := B.exec
  have hb := B.bytes
  have hr := B.returns
  have hts := atoms_spec (ws := wzX3_arrive) B.pre
  have hown : s.vm.findClass RX3 = some m.cls := findClass_of_methodNamed B.named
  have hlocks := B.notSynchronized
  have hD := hD0.self (sz := CS.hs σ)
  generalize hAe : va_A (cW Q σ) (CS.hs σ) = A at hD ⊢
  have hA : ∀ q : Nat, s.heap.size ≤ q → A q := fun q h => by rw [← hAe]; exact Or.inr (hsz ▸ h)
  have hC : CP dC dI Q A s.heap σ s.heap [] := ⟨hP, hD, va_S.rf, hsz⟩
  have h0 : CS.hs σ ≤ CS.hs σ := Nat.le_refl _
  have hl := lv_entry ([.ref (Q.o 7)]) (n := 1) (Nat.le_of_ble_eq_true rfl)
  rw [lg_entry_eq]
  generalize (lg_sl ([.ref (Q.o 7)]) ++ List.replicate (1 - (lg_sl ([.ref (Q.o 7)])).length) Slot.unset).toArray = ls at hl ⊢
  have hl : lv_has ls 1 [(0, .ref (Q.o 7))] := hl
  unfold f_X3_arrive at hf
  refine W.widen (k := CS.hs σ - CS.hs σ) (n := 17 * (CS.hs σ - CS.hs σ)) (Nat.zero_le _) (Nat.zero_le _) ?_
  refine lv_aload_n hx hb dX3_arrive_0 rfl (lv_at hl 0 rfl) ?_
  refine cG_73 (v := (σ.i 73)) hx hb hts i_X3_arrive_X3 hown hK hC (hts (.fieldLink RX3 75 "StatementRules2$Machine" "way" "I") k_X3_arrive_fieldLink_RX3_75_SR_Machine_way_I) (fun _ q9 => q9) dX3_arrive_1 rfl ?_
  refine lv_iconst (v := 3) hx hb dX3_arrive_4 (by decide) ?_
  refine lv_icmp_ne (tgt := 16) hx hb dX3_arrive_5 (by decide) (fun c1 => ?_) (fun c1 => ?_)
  ·
    replace hf := (if_neg c1).symm.trans hf
    refine lv_aload_n hx hb dX3_arrive_16 rfl (lv_at hl 0 rfl) ?_
    refine cG_73 (v := (σ.i 73)) hx hb hts i_X3_arrive_X3 hown hK hC (hts (.fieldLink RX3 75 "StatementRules2$Machine" "way" "I") k_X3_arrive_fieldLink_RX3_75_SR_Machine_way_I) (fun _ q9 => q9) dX3_arrive_17 rfl ?_
    refine lv_iconst (v := 4) hx hb dX3_arrive_20 (by decide) ?_
    refine lv_icmp_ne (tgt := 32) hx hb dX3_arrive_21 (by decide) (fun c2 => ?_) (fun c2 => ?_)
    ·
      replace hf := (if_neg c2).symm.trans hf
      refine lv_aload_n hx hb dX3_arrive_32 rfl (lv_at hl 0 rfl) ?_
      refine cG_73 (v := (σ.i 73)) hx hb hts i_X3_arrive_X3 hown hK hC (hts (.fieldLink RX3 75 "StatementRules2$Machine" "way" "I") k_X3_arrive_fieldLink_RX3_75_SR_Machine_way_I) (fun _ q9 => q9) dX3_arrive_33 rfl ?_
      refine lv_iconst (v := 2) hx hb dX3_arrive_36 (by decide) ?_
      refine lv_icmp_ne (tgt := 48) hx hb dX3_arrive_37 (by decide) (fun c3 => ?_) (fun c3 => ?_)
      ·
        replace hf := (if_neg c3).symm.trans hf
        exact j_X3_arrive_48 l dC dI Q N (CS.hs σ) R hx hb hr hml hown hts hlocks hZ hA hK σ _ _ _ hf h0 hC (lv_sub hl [0] rfl)
      ·
        replace hf := (if_pos c3).symm.trans hf
        refine lv_aload_n hx hb dX3_arrive_40 rfl (lv_at hl 0 rfl) ?_
        refine lv_aload_n hx hb dX3_arrive_41 rfl (lv_at hl 0 rfl) ?_
        refine cG_74 (v := (σ.i 74)) hx hb hts i_X3_arrive_X3 hown hK hC (hts (.fieldLink RX3 78 "StatementRules2$Machine" "wayValue" "I") k_X3_arrive_fieldLink_RX3_78_SR_Machine_wayValue_I) (fun _ q9 => q9) dX3_arrive_42 rfl ?_
        obtain ⟨p5, hcp5, hf⟩ := hf_bind hf
        have hm6 : CS.hs σ ≤ CS.hs p5.2 := Mono.go hcp5 (m_X3_push N σ (σ.i 74))
        have hr9 : CS.hs p5.2 ≤ CS.hs R.2 := Mono.go hf (m_X3_arrive_48 N p5.2)
        have hFc := cFree hC hA
        refine va_callv (va_runV (As := [.int (σ.i 74)]) (rest := []) ⟨hx, hb, hml, hown, hts⟩ (c_X3_push l dC dI Q N σ (σ.i 74) p5 hcp5) (cwV 1 hts hX3_arrive_X3_push_v135 rfl rfl rfl (by decide +kernel) ⟨(show 2 + 1 ≤ 3 by omega), (show 8 + (2 + 11) + 60 * 2 ≤ 60 * 3 by omega)⟩) ⟨zPre.blind, va_recv hK hC.1 (ci := 2) (q0 := 7) rfl rfl, cPre_go hZ hK hC⟩ rfl rfl hl.1 rfl (lv_room (Nat.le_of_ble_eq_true rfl)) dX3_arrive_45 (cAcc h0 hm6 hr9)) hC.2.2.1 (fun q _ h => hFc q h) hFc (fun u9 t9 H1 locs ht hvm hw hB hz1 hk1 hS => ?_)
        obtain ⟨⟨hP, hK1, hD1⟩, hsz1⟩ := hB
        rw [ht] at hP hsz1
        have hC : CP dC dI Q A s.heap p5.2 H1 locs := ⟨hP, hD1.weaken (fun _ _ _ h => hFc _ h), hS, hsz1⟩
        generalize H1 = H at hC ⊢
        have h8 : (CS.hs σ) ≤ CS.hs p5.2 := Nat.le_trans h0 hm6
        refine W.widen (k := CS.hs p5.2 - (CS.hs σ)) (n := 17 * (CS.hs p5.2 - (CS.hs σ))) (cAcc2 h0 hm6) (cAcc3 h0 hm6) ?_
        exact j_X3_arrive_48 l dC dI Q N (CS.hs σ) R hx hb hr hml hown hts hlocks hZ hA hK p5.2 _ _ _ hf h8 hC (lv_sub hl [0] rfl)
    ·
      replace hf := (if_pos c2).symm.trans hf
      refine lv_aload_n hx hb dX3_arrive_24 rfl (lv_at hl 0 rfl) ?_
      refine lv_iconst (v := 2) hx hb dX3_arrive_25 (by decide) ?_
      refine cP_72 (v := 2) hx hb hts i_X3_arrive_X3 hown hK hC (hts (.fieldLink RX3 85 "StatementRules2$Machine" "outcome" "I") k_X3_arrive_fieldLink_RX3_85_SR_Machine_outcome_I) (fun _ q9 => q9) dX3_arrive_26 (fun H locs hC => ?_)
      refine lv_goto (tgt := 74) hx hb dX3_arrive_29 (by decide) ?_
      obtain rfl := Option.some.inj hf
      exact W.vret hx hb hr (fun t ht hW => ⟨⟨(), rfl, trivial, ⟨by rw [ht]; exact hC.1, va_K.moved hW.alike hK, hC.2.1⟩, by rw [ht]; exact hC.2.2.2⟩, hC.2.2.1.F ht⟩) hC.2.2.1.2.2 dX3_arrive_74
  ·
    replace hf := (if_pos c1).symm.trans hf
    refine lv_aload_n hx hb dX3_arrive_8 rfl (lv_at hl 0 rfl) ?_
    refine lv_iconst (v := 1) hx hb dX3_arrive_9 (by decide) ?_
    refine cP_72 (v := 1) hx hb hts i_X3_arrive_X3 hown hK hC (hts (.fieldLink RX3 85 "StatementRules2$Machine" "outcome" "I") k_X3_arrive_fieldLink_RX3_85_SR_Machine_outcome_I) (fun _ q9 => q9) dX3_arrive_10 (fun H locs hC => ?_)
    refine lv_goto (tgt := 74) hx hb dX3_arrive_13 (by decide) ?_
    obtain rfl := Option.some.inj hf
    exact W.vret hx hb hr (fun t ht hW => ⟨⟨(), rfl, trivial, ⟨by rw [ht]; exact hC.1, va_K.moved hW.alike hK, hC.2.1⟩, by rw [ht]; exact hC.2.2.2⟩, hC.2.2.1.F ht⟩) hC.2.2.1.2.2 dX3_arrive_74
theorem k_X8_suppress_fieldLink_RX8_18_SR_Thrown_count_I : Cond.fieldLink RX8 18 "StatementRules2$Thrown" "count" "I" ∈ wzX8_suppress := List.mem_cons_of_mem _ (List.mem_append_left _ (List.mem_of_getElem? (i := 0) rfl))
theorem i_X8_suppress_X8 : ∀ w ∈ wsX80, w ∈ wzX8_suppress := fun _ h => List.mem_cons_of_mem _ (List.mem_append_right _ (List.mem_append_left _ (h)))
theorem k_X8_suppress_fieldLink_RX8_9_SR_Thrown_kinds_I : Cond.fieldLink RX8 9 "StatementRules2$Thrown" "kinds" "[I" ∈ wzX8_suppress := List.mem_cons_of_mem _ (List.mem_append_left _ (List.mem_of_getElem? (i := 1) rfl))
theorem k_X8_suppress_initialized_RX11 : Cond.initialized RX11 ∈ wzX8_suppress := List.mem_cons_of_mem _ (List.mem_append_left _ (List.mem_of_getElem? (i := 2) rfl))
theorem k_X8_suppress_static_yX11_put : Cond.static yX11_put ∈ wzX8_suppress := List.mem_cons_of_mem _ (List.mem_append_left _ (List.mem_of_getElem? (i := 3) rfl))
theorem k_X8_suppress_fieldLink_RX8_15_SR_Thrown_numbers_I : Cond.fieldLink RX8 15 "StatementRules2$Thrown" "numbers" "[I" ∈ wzX8_suppress := List.mem_cons_of_mem _ (List.mem_append_left _ (List.mem_of_getElem? (i := 4) rfl))
set_option maxHeartbeats 4000000 in
set_option maxRecDepth 100000 in
theorem c_X8_suppress (l : Launch) (dC : Nat → ClassId) (dI : Nat → Nat → Nat) (Q : CQ) (N : Nat) (σ : CS) (x0 : Nat) (x1 : Int32) (x2 : Int32) (R : Unit × CS) (hf : f_X8_suppress N σ x0 x1 x2 = some R) : Met l yX8_suppress wzX8_suppress ({ frames := 2, cells := CS.hs R.2 - CS.hs σ, slots := 17 * (CS.hs R.2 - CS.hs σ), locals := 60 * 2 }) (va_Pc [.ref x0, .int x1, .int x2] (zPre dC dI (CS.hs σ) (cW Q σ) (cT Q))) (va_Qv (fun (_ : Unit) => True) (fun (_ : Unit) (t : State) => zPost dC dI (va_A (cW Q σ) (CS.hs σ)) (cW Q R.2) (cT Q) t ∧ t.heap.size = CS.hs R.2) (va_A (cW Q σ) (CS.hs σ))) (CS.hs R.2 - CS.hs σ) (17 * (CS.hs R.2 - CS.hs σ)) (va_A (cW Q σ) (CS.hs σ)) := by
  refine Met.ofW (cc := cX8_suppress) (maxL := 3) (ret := none) (by decide) rfl ?_
  intro p e s m args below meth c s₁ B hml hv
  obtain ⟨rfl, hsz, hZ, hP, hK, hD0⟩ := hv
  have hx := B.exec
  have hb := B.bytes
  have hr := B.returns
  have hts := atoms_spec (ws := wzX8_suppress) B.pre
  have hown : s.vm.findClass RX8 = some m.cls := findClass_of_methodNamed B.named
  have hlocks := B.notSynchronized
  have hD := hD0.self (sz := CS.hs σ)
  generalize hAe : va_A (cW Q σ) (CS.hs σ) = A at hD ⊢
  have hA : ∀ q : Nat, s.heap.size ≤ q → A q := fun q h => by rw [← hAe]; exact Or.inr (hsz ▸ h)
  have hC : CP dC dI Q A s.heap σ s.heap [] := ⟨hP, hD, va_S.rf, hsz⟩
  have h0 : CS.hs σ ≤ CS.hs σ := Nat.le_refl _
  have hl := lv_entry ([.ref x0, .int x1, .int x2]) (n := 3) (Nat.le_of_ble_eq_true rfl)
  rw [lg_entry_eq]
  generalize (lg_sl ([.ref x0, .int x1, .int x2]) ++ List.replicate (3 - (lg_sl ([.ref x0, .int x1, .int x2])).length) Slot.unset).toArray = ls at hl ⊢
  have hl : lv_has ls 3 [(0, .ref x0), (1, .int x1), (2, .int x2)] := hl
  unfold f_X8_suppress at hf
  refine W.widen (k := CS.hs σ - CS.hs σ) (n := 17 * (CS.hs σ - CS.hs σ)) (Nat.zero_le _) (Nat.zero_le _) ?_
  refine lv_aload_n hx hb dX8_suppress_0 rfl (lv_at hl 0 rfl) ?_
  obtain ⟨b1, hf⟩ := hf_ite hf
  refine pG_X8_4 (v := (CS.o σ x0 4)) hx hb hts i_X8_suppress_X8 hown hK hC (hts (.fieldLink RX8 18 "StatementRules2$Thrown" "count" "I") k_X8_suppress_fieldLink_RX8_18_SR_Thrown_count_I) (fun _ q9 => q9) dX8_suppress_1 b1 rfl ?_
  refine lv_bipush (v := 8) hx hb dX8_suppress_4 (by decide) ?_
  refine lv_icmp_ge (tgt := 43) hx hb dX8_suppress_6 (by decide) (fun c2 => ?_) (fun c2 => ?_)
  ·
    replace hf := (if_pos c2).symm.trans hf
    obtain rfl := Option.some.inj hf
    exact W.vret hx hb hr (fun t ht hW => ⟨⟨(), rfl, trivial, ⟨by rw [ht]; exact hC.1, va_K.moved hW.alike hK, hC.2.1⟩, by rw [ht]; exact hC.2.2.2⟩, hC.2.2.1.F ht⟩) hC.2.2.1.2.2 dX8_suppress_43
  ·
    replace hf := (if_neg c2).symm.trans hf
    refine lv_aload_n hx hb dX8_suppress_9 rfl (lv_at hl 0 rfl) ?_
    refine pG_X8_0 hx hb hts i_X8_suppress_X8 hown hK hC (hts (.fieldLink RX8 9 "StatementRules2$Thrown" "kinds" "[I") k_X8_suppress_fieldLink_RX8_9_SR_Thrown_kinds_I) (fun _ q9 => q9) dX8_suppress_10 b1 ?_
    refine lv_aload_n hx hb dX8_suppress_13 rfl (lv_at hl 0 rfl) ?_
    refine pG_X8_4 (v := (CS.o σ x0 4)) hx hb hts i_X8_suppress_X8 hown hK hC (hts (.fieldLink RX8 18 "StatementRules2$Thrown" "count" "I") k_X8_suppress_fieldLink_RX8_18_SR_Thrown_count_I) (fun _ q9 => q9) dX8_suppress_14 b1 rfl ?_
    refine lv_iload_n hx hb dX8_suppress_17 rfl (lv_at hl 1 rfl) ?_
    obtain ⟨b3, hf⟩ := hf_ite hf
    obtain ⟨k4, hk4⟩ := cPl (Q := Q) (s := σ) (a := (x0 + 1)) b3.1
    have hqk4 := hk4
    rw [cE3 (show CS.k σ (x0 + 1) = 3 from b3.2)] at hk4
    have he9 := hk4
    have hFc := cFree1 hC hA he9
    have hr9 : CS.hs σ ≤ CS.hs R.2 := Mono.go hf (mono_ite (mono_some (Nat.le_refl _)) mono_none)
    refine va_callv (va_runSN (As := [.ref (x0 + 1), .int (CS.o σ x0 4), .int x1]) (rest := []) ⟨hx, hb, hml, hown, hts⟩ (c_X11_put l dC dI _ (x0 + 1) (Q.c 0) 8 (CS.oa σ (x0 + 1)) (CS.o σ x0 4) x1 (by decide)) ⟨va_cnB 3 hts hX8_suppress_X11_put_n22 rfl rfl rfl (hZ.1 (.methodLinkNest RX8 22 yX11_put "StatementRules2") (by decide +kernel)) (hts (.initialized RX11) k_X8_suppress_initialized_RX11) (by decide +kernel) ⟨(show 1 + 1 ≤ 2 by omega), (show 8 + (3 + 11) + 60 * 1 ≤ 60 * 2 by omega)⟩, (hts (.static yX11_put) k_X8_suppress_static_yX11_put), trivial⟩ ⟨zPre.blind, zPre.go hZ (cOne hC.1 he9) (hK.sub (tys' := [(Q.c 0, .int)]) [0] rfl) (cOneD hC.2.1 he9)⟩ rfl rfl hl.1 rfl (lv_room (Nat.le_of_ble_eq_true rfl)) dX8_suppress_18 ⟨cAcc4 h0 hr9, cAcc5 h0 hr9⟩) hC.2.2.1 (fun q _ h => hFc q h) hFc (fun u9 t9 H1 locs ht hvm hw hB hz1 hk1 hS => ?_)
    obtain ⟨⟨hP1, hK1, hD1⟩, hsz1⟩ := hB
    rw [ht] at hP1 hsz1
    have hC := cBack (σ' := CS.putOA σ (x0 + 1) (gPut (CS.oa σ (x0 + 1)) 8 (CS.o σ x0 4) x1)) hC he9 (cPutF hC.2.1 (x := (x0 + 1)) b3 hqk4) rfl hk1 hP1 hsz1 hS
    generalize H1 = H at hC ⊢
    refine lv_aload_n hx hb dX8_suppress_21 rfl (lv_at hl 0 rfl) ?_
    refine pG_X8_1 hx hb hts i_X8_suppress_X8 hown hK hC (hts (.fieldLink RX8 15 "StatementRules2$Thrown" "numbers" "[I") k_X8_suppress_fieldLink_RX8_15_SR_Thrown_numbers_I) (fun _ q9 => q9) dX8_suppress_22 b1 ?_
    refine lv_aload_n hx hb dX8_suppress_25 rfl (lv_at hl 0 rfl) ?_
    refine pG_X8_4 (v := (CS.o (CS.putOA σ (x0 + 1) (gPut (CS.oa σ (x0 + 1)) 8 (CS.o σ x0 4) x1)) x0 4)) hx hb hts i_X8_suppress_X8 hown hK hC (hts (.fieldLink RX8 18 "StatementRules2$Thrown" "count" "I") k_X8_suppress_fieldLink_RX8_18_SR_Thrown_count_I) (fun _ q9 => q9) dX8_suppress_26 b1 rfl ?_
    refine lv_iload_n hx hb dX8_suppress_29 rfl (lv_at hl 2 rfl) ?_
    obtain ⟨b5, hf⟩ := hf_ite hf
    obtain ⟨k6, hk6⟩ := cPl (Q := Q) (s := CS.putOA σ (x0 + 1) (gPut (CS.oa σ (x0 + 1)) 8 (CS.o σ x0 4) x1)) (a := (x0 + 2)) b5.1
    have hqk6 := hk6
    rw [cE3 (show CS.k (CS.putOA σ (x0 + 1) (gPut (CS.oa σ (x0 + 1)) 8 (CS.o σ x0 4) x1)) (x0 + 2) = 3 from b5.2)] at hk6
    have he9 := hk6
    have hFc := cFree1 hC hA he9
    have hr9 : CS.hs σ ≤ CS.hs R.2 := Mono.go hf (mono_some (Nat.le_refl _))
    refine va_callv (va_runSN (As := [.ref (x0 + 2), .int (CS.o (CS.putOA σ (x0 + 1) (gPut (CS.oa σ (x0 + 1)) 8 (CS.o σ x0 4) x1)) x0 4), .int x2]) (rest := []) ⟨hx, hb, hml, hown, hts⟩ (c_X11_put l dC dI _ (x0 + 2) (Q.c 0) 8 (CS.oa (CS.putOA σ (x0 + 1) (gPut (CS.oa σ (x0 + 1)) 8 (CS.o σ x0 4) x1)) (x0 + 2)) (CS.o (CS.putOA σ (x0 + 1) (gPut (CS.oa σ (x0 + 1)) 8 (CS.o σ x0 4) x1)) x0 4) x2 (by decide)) ⟨va_cnB 3 hts hX8_suppress_X11_put_n22 rfl rfl rfl (hZ.1 (.methodLinkNest RX8 22 yX11_put "StatementRules2") (by decide +kernel)) (hts (.initialized RX11) k_X8_suppress_initialized_RX11) (by decide +kernel) ⟨(show 1 + 1 ≤ 2 by omega), (show 8 + (3 + 11) + 60 * 1 ≤ 60 * 2 by omega)⟩, (hts (.static yX11_put) k_X8_suppress_static_yX11_put), trivial⟩ ⟨zPre.blind, zPre.go hZ (cOne hC.1 he9) (hK.sub (tys' := [(Q.c 0, .int)]) [0] rfl) (cOneD hC.2.1 he9)⟩ rfl rfl hl.1 rfl (lv_room (Nat.le_of_ble_eq_true rfl)) dX8_suppress_30 ⟨cAcc4 h0 hr9, cAcc5 h0 hr9⟩) hC.2.2.1 (fun q _ h => hFc q h) hFc (fun u9 t9 H1 locs ht hvm hw hB hz1 hk1 hS => ?_)
    obtain ⟨⟨hP1, hK1, hD1⟩, hsz1⟩ := hB
    rw [ht] at hP1 hsz1
    have hC := cBack (σ' := CS.putOA (CS.putOA σ (x0 + 1) (gPut (CS.oa σ (x0 + 1)) 8 (CS.o σ x0 4) x1)) (x0 + 2) (gPut (CS.oa (CS.putOA σ (x0 + 1) (gPut (CS.oa σ (x0 + 1)) 8 (CS.o σ x0 4) x1)) (x0 + 2)) 8 (CS.o (CS.putOA σ (x0 + 1) (gPut (CS.oa σ (x0 + 1)) 8 (CS.o σ x0 4) x1)) x0 4) x2)) hC he9 (cPutF hC.2.1 (x := (x0 + 2)) b5 hqk6) rfl hk1 hP1 hsz1 hS
    generalize H1 = H at hC ⊢
    refine lv_aload_n hx hb dX8_suppress_33 rfl (lv_at hl 0 rfl) ?_
    refine lv_dup hx hb dX8_suppress_34 rfl ?_
    refine pG_X8_4 (v := (CS.o (CS.putOA (CS.putOA σ (x0 + 1) (gPut (CS.oa σ (x0 + 1)) 8 (CS.o σ x0 4) x1)) (x0 + 2) (gPut (CS.oa (CS.putOA σ (x0 + 1) (gPut (CS.oa σ (x0 + 1)) 8 (CS.o σ x0 4) x1)) (x0 + 2)) 8 (CS.o (CS.putOA σ (x0 + 1) (gPut (CS.oa σ (x0 + 1)) 8 (CS.o σ x0 4) x1)) x0 4) x2)) x0 4)) hx hb hts i_X8_suppress_X8 hown hK hC (hts (.fieldLink RX8 18 "StatementRules2$Thrown" "count" "I") k_X8_suppress_fieldLink_RX8_18_SR_Thrown_count_I) (fun _ q9 => q9) dX8_suppress_35 b1 rfl ?_
    refine lv_iconst (v := 1) hx hb dX8_suppress_38 (by decide) ?_
    refine lv_iadd hx hb dX8_suppress_39 ?_
    refine pP_X8_4 (v := ((CS.o (CS.putOA (CS.putOA σ (x0 + 1) (gPut (CS.oa σ (x0 + 1)) 8 (CS.o σ x0 4) x1)) (x0 + 2) (gPut (CS.oa (CS.putOA σ (x0 + 1) (gPut (CS.oa σ (x0 + 1)) 8 (CS.o σ x0 4) x1)) (x0 + 2)) 8 (CS.o (CS.putOA σ (x0 + 1) (gPut (CS.oa σ (x0 + 1)) 8 (CS.o σ x0 4) x1)) x0 4) x2)) x0 4) + 1)) hx hb hts i_X8_suppress_X8 hown hK hC (hts (.fieldLink RX8 18 "StatementRules2$Thrown" "count" "I") k_X8_suppress_fieldLink_RX8_18_SR_Thrown_count_I) (fun _ q9 => q9) dX8_suppress_40 b1 (fun H locs hC => ?_)
    obtain rfl := Option.some.inj hf
    exact W.vret hx hb hr (fun t ht hW => ⟨⟨(), rfl, trivial, ⟨by rw [ht]; exact hC.1, va_K.moved hW.alike hK, hC.2.1⟩, by rw [ht]; exact hC.2.2.2⟩, hC.2.2.1.F ht⟩) hC.2.2.1.2.2 dX8_suppress_43
theorem k_X3_closeOne_fieldLink_RX3_36_SR_Machine_told_LSR_Told : Cond.fieldLink RX3 36 "StatementRules2$Machine" "told" "LStatementRules2$Told;" ∈ wzX3_closeOne := List.mem_cons_of_mem _ (List.mem_append_left _ (List.mem_of_getElem? (i := 0) rfl))
theorem i_X3_closeOne_X3 : ∀ w ∈ wsX30, w ∈ wzX3_closeOne := fun _ h => List.mem_cons_of_mem _ (List.mem_append_right _ (List.mem_append_left _ (h)))
theorem i_X3_closeOne_X10 : ∀ w ∈ wsX100, w ∈ wzX3_closeOne := fun _ h => List.mem_cons_of_mem _ (List.mem_append_right _ (List.mem_append_right _ (List.mem_append_left _ (h))))
theorem k_X3_closeOne_initialized_RX11 : Cond.initialized RX11 ∈ wzX3_closeOne := List.mem_cons_of_mem _ (List.mem_append_left _ (List.mem_of_getElem? (i := 1) rfl))
theorem k_X3_closeOne_static_yX11_at : Cond.static yX11_at ∈ wzX3_closeOne := List.mem_cons_of_mem _ (List.mem_append_left _ (List.mem_of_getElem? (i := 2) rfl))
theorem k_X3_closeOne_fieldLink_RX3_75_SR_Machine_way_I : Cond.fieldLink RX3 75 "StatementRules2$Machine" "way" "I" ∈ wzX3_closeOne := List.mem_cons_of_mem _ (List.mem_append_left _ (List.mem_of_getElem? (i := 3) rfl))
theorem k_X3_closeOne_fieldLink_RX3_81_SR_Machine_wayThrown_LSR_Thrown : Cond.fieldLink RX3 81 "StatementRules2$Machine" "wayThrown" "LStatementRules2$Thrown;" ∈ wzX3_closeOne := List.mem_cons_of_mem _ (List.mem_append_left _ (List.mem_of_getElem? (i := 4) rfl))
set_option maxHeartbeats 4000000 in
set_option maxRecDepth 100000 in
theorem j_X3_closeOne_50 {p : Program} {e : Env} {s : State} {m : MethodId} {args : Array Value} {below : List Frame} {meth : Method} {c : Code} {A : Nat → Prop} (l : Launch) (dC : Nat → ClassId) (dI : Nat → Nat → Nat) (Q : CQ) (N : Nat) (z9h : Nat) (R : Unit × CS) (hx : p.tables.exec = Jvm.exec) (hb : c.code = cX3_closeOne) (hr : meth.sig.returnType = none) (hml : c.maxLocals = 3) (hown : s.vm.findClass RX3 = some m.cls) (hts : ∀ w ∈ wzX3_closeOne, w.before args s = true) (hlocks : meth.locks = false) (hZ : zAMB s) (hA : ∀ q : Nat, s.heap.size ≤ q → A q) (hK : va_K (dC, dI) vwCl (cT Q) s) : ∀ (σ : CS) (x1 : Int32) (x2 : Int32) (H : Heap) (locs : List Loc) (ls : Array Slot), f_X3_closeOne_50 N σ x1 x2 = some R → z9h ≤ CS.hs σ → CP dC dI Q A s.heap σ H locs → lv_has ls 3 [(0, .ref (Q.o 7)), (1, .int x1), (2, .int x2)] → W p l e ({ frames := 4, cells := CS.hs R.2 - z9h, slots := 17 * (CS.hs R.2 - z9h), locals := 60 * 4 }) s m args below meth c H locs (CS.hs σ - z9h) (17 * (CS.hs σ - z9h)) (MQ below (va_Qv (fun (_ : Unit) => True) (fun (_ : Unit) (t : State) => zPost dC dI A (cW Q R.2) (cT Q) t ∧ t.heap.size = CS.hs R.2) A) args s (CS.hs R.2 - z9h) (17 * (CS.hs R.2 - z9h)) A) (F0 m 50 ls []) := by
  intro σ x1 x2 H locs ls hf h0 hC hl
  unfold f_X3_closeOne_50 at hf
  refine lv_aload_n hx hb dX3_closeOne_50 rfl (lv_at hl 0 rfl) ?_
  refine lv_iload_n hx hb dX3_closeOne_51 rfl (lv_at hl 2 rfl) ?_
  refine lv_iload_n hx hb dX3_closeOne_52 rfl (lv_at hl 1 rfl) ?_
  obtain ⟨p8, hcp8, hf⟩ := hf_bind hf
  have hm9 : CS.hs σ ≤ CS.hs p8.2 := Mono.go hcp8 (m_X3_raise N σ x2 x1)
  have hr9 : CS.hs p8.2 ≤ CS.hs R.2 := Mono.go hf (mono_some (Nat.le_refl _))
  have hFc := cFree hC hA
  refine va_callv (va_runV (As := [.int x2, .int x1]) (rest := []) ⟨hx, hb, hml, hown, hts⟩ (c_X3_raise l dC dI Q N σ x2 x1 p8 hcp8) (cwV 2 hts hX3_closeOne_X3_raise_v150 rfl rfl rfl (by decide +kernel) ⟨(show 3 + 1 ≤ 4 by omega), (show 8 + (3 + 11) + 60 * 3 ≤ 60 * 4 by omega)⟩) ⟨zPre.blind, va_recv hK hC.1 (ci := 2) (q0 := 7) rfl rfl, cPre_go hZ hK hC⟩ rfl rfl hl.1 rfl (lv_room (Nat.le_of_ble_eq_true rfl)) dX3_closeOne_53 (cAcc h0 hm9 hr9)) hC.2.2.1 (fun q _ h => hFc q h) hFc (fun u9 t9 H1 locs ht hvm hw hB hz1 hk1 hS => ?_)
  obtain ⟨⟨hP, hK1, hD1⟩, hsz1⟩ := hB
  rw [ht] at hP hsz1
  have hC : CP dC dI Q A s.heap p8.2 H1 locs := ⟨hP, hD1.weaken (fun _ _ _ h => hFc _ h), hS, hsz1⟩
  generalize H1 = H at hC ⊢
  have h11 : z9h ≤ CS.hs p8.2 := Nat.le_trans h0 hm9
  refine W.widen (k := CS.hs p8.2 - z9h) (n := 17 * (CS.hs p8.2 - z9h)) (cAcc2 h0 hm9) (cAcc3 h0 hm9) ?_
  obtain rfl := Option.some.inj hf
  exact W.vret hx hb hr (fun t ht hW => ⟨⟨(), rfl, trivial, ⟨by rw [ht]; exact hC.1, va_K.moved hW.alike hK, hC.2.1⟩, by rw [ht]; exact hC.2.2.2⟩, hC.2.2.1.F ht⟩) hC.2.2.1.2.2 dX3_closeOne_56
set_option maxHeartbeats 4000000 in
set_option maxRecDepth 100000 in
theorem c_X3_closeOne (l : Launch) (dC : Nat → ClassId) (dI : Nat → Nat → Nat) (Q : CQ) (N : Nat) (σ : CS) (x1 : Int32) (R : Unit × CS) (hf : f_X3_closeOne N σ x1 = some R) : Met l yX3_closeOne wzX3_closeOne ({ frames := 4, cells := CS.hs R.2 - CS.hs σ, slots := 17 * (CS.hs R.2 - CS.hs σ), locals := 60 * 4 }) (va_Pc [.ref (Q.o 7), .int x1] (zPre dC dI (CS.hs σ) (cW Q σ) (cT Q))) (va_Qv (fun (_ : Unit) => True) (fun (_ : Unit) (t : State) => zPost dC dI (va_A (cW Q σ) (CS.hs σ)) (cW Q R.2) (cT Q) t ∧ t.heap.size = CS.hs R.2) (va_A (cW Q σ) (CS.hs σ))) (CS.hs R.2 - CS.hs σ) (17 * (CS.hs R.2 - CS.hs σ)) (va_A (cW Q σ) (CS.hs σ)) := by
  refine Met.ofW (cc := cX3_closeOne) (maxL := 3) (ret := none) (by decide) rfl ?_
  intro p e s m args below meth c s₁ B hml hv
  obtain ⟨rfl, hsz, hZ, hP, hK, hD0⟩ := hv
  have hx := B.exec
  have hb := B.bytes
  have hr := B.returns
  have hts := atoms_spec (ws := wzX3_closeOne) B.pre
  have hown : s.vm.findClass RX3 = some m.cls := findClass_of_methodNamed B.named
  have hlocks := B.notSynchronized
  have hD := hD0.self (sz := CS.hs σ)
  generalize hAe : va_A (cW Q σ) (CS.hs σ) = A at hD ⊢
  have hA : ∀ q : Nat, s.heap.size ≤ q → A q := fun q h => by rw [← hAe]; exact Or.inr (hsz ▸ h)
  have hC : CP dC dI Q A s.heap σ s.heap [] := ⟨hP, hD, va_S.rf, hsz⟩
  have h0 : CS.hs σ ≤ CS.hs σ := Nat.le_refl _
  have hl := lv_entry ([.ref (Q.o 7), .int x1]) (n := 3) (Nat.le_of_ble_eq_true rfl)
  rw [lg_entry_eq]
  generalize (lg_sl ([.ref (Q.o 7), .int x1]) ++ List.replicate (3 - (lg_sl ([.ref (Q.o 7), .int x1])).length) Slot.unset).toArray = ls at hl ⊢
  have hl : lv_has ls 3 [(0, .ref (Q.o 7)), (1, .int x1)] := hl
  unfold f_X3_closeOne at hf
  refine W.widen (k := CS.hs σ - CS.hs σ) (n := 17 * (CS.hs σ - CS.hs σ)) (Nat.zero_le _) (Nat.zero_le _) ?_
  refine lv_aload_n hx hb dX3_closeOne_0 rfl (lv_at hl 0 rfl) ?_
  refine cG_57 hx hb hts i_X3_closeOne_X3 hown hK hC (hts (.fieldLink RX3 36 "StatementRules2$Machine" "told" "LStatementRules2$Told;") k_X3_closeOne_fieldLink_RX3_36_SR_Machine_told_LSR_Told) (fun _ q9 => q9) dX3_closeOne_1 ?_
  refine cGN_12 hx hb hts i_X3_closeOne_X10 hown hK hC (va_Nw.use rfl (hZ.1 (.fieldLinkNest RX3 265 "StatementRules2$Told" "closing" "[I" "StatementRules2") (by decide +kernel))) (fun _ q9 => q9) dX3_closeOne_4 ?_
  refine lv_iload_n hx hb dX3_closeOne_7 rfl (lv_at hl 1 rfl) ?_
  have he9 := (show (cW Q σ)[12]? = some (Q.q 12, .inl (Q.c 0, 8, .inl (σ.a 12))) from rfl)
  have hFc := cFree1 hC hA he9
  have hr9 : CS.hs σ ≤ CS.hs R.2 := Mono.go hf (mono_bind (m_X3_note N σ 2 x1) (fun p2 => (mono_ite (mono_ite (mono_oc (m_X3_closeOne_50 N p2.2 x1 (gAt (σ.a 12) 8 x1)) (fun a13 => (mono_oc mono_none (fun a15 => (mono_ite (mono_bind (m_X8_suppress N p2.2 a15 (gAt (σ.a 12) 8 x1) x1) (fun p18 => (mono_some (Nat.le_refl _)))) mono_none))))) (m_X3_closeOne_50 N p2.2 x1 (gAt (σ.a 12) 8 x1))) (mono_some (Nat.le_refl _)))))
  refine va_calli (va_runSN (As := [.ref (Q.q 12), .int x1]) (rest := []) ⟨hx, hb, hml, hown, hts⟩ (c_X11_at l dC dI _ (Q.q 12) (Q.c 0) 8 (σ.a 12) x1 (by decide)) ⟨va_cnB 2 hts hX3_closeOne_X11_at_n111 rfl rfl rfl (hZ.1 (.methodLinkNest RX3 111 yX11_at "StatementRules2") (by decide +kernel)) (hts (.initialized RX11) k_X3_closeOne_initialized_RX11) (by decide +kernel) ⟨(show 1 + 1 ≤ 4 by omega), (show 8 + (2 + 11) + 60 * 1 ≤ 60 * 4 by omega)⟩, (hts (.static yX11_at) k_X3_closeOne_static_yX11_at), trivial⟩ ⟨zPre.blind, zPre.go hZ (cOne hC.1 he9) (hK.sub (tys' := [(Q.c 0, .int)]) [0] rfl) (cOneD hC.2.1 he9)⟩ rfl rfl hl.1 rfl (lv_room (Nat.le_of_ble_eq_true rfl)) dX3_closeOne_8 ⟨cAcc4 h0 hr9, cAcc5 h0 hr9⟩) hC.2.2.1 (fun q _ h => hFc q h) hFc (fun r1 u9 t9 H1 locs ht hvm hw hB hz1 hk1 hS => ?_)
  obtain ⟨⟨hP1, hK1, hD1⟩, hsz1⟩ := hB
  rw [ht] at hP1 hsz1
  have hC := cBack (σ' := σ) hC he9 (cSelf he9) rfl hk1 hP1 hsz1 hS
  generalize H1 = H at hC ⊢
  obtain rfl : r1 = (gAt (σ.a 12) 8 x1) := hw
  refine lv_istore_n (lv' := [(2, .int (gAt (σ.a 12) 8 x1)), (0, .ref (Q.o 7)), (1, .int x1)]) hx hb dX3_closeOne_11 rfl hl (by decide) rfl (fun ls hl => ?_)
  refine lv_aload_n hx hb dX3_closeOne_12 rfl (lv_at hl 1 rfl) ?_
  refine lv_iconst (v := 2) hx hb dX3_closeOne_13 (by decide) ?_
  refine lv_iload_n hx hb dX3_closeOne_14 rfl (lv_at hl 2 rfl) ?_
  obtain ⟨p2, hcp2, hf⟩ := hf_bind hf
  have hm3 : CS.hs σ ≤ CS.hs p2.2 := Mono.go hcp2 (m_X3_note N σ 2 x1)
  have hr9 : CS.hs p2.2 ≤ CS.hs R.2 := Mono.go hf (mono_ite (mono_ite (mono_oc (m_X3_closeOne_50 N p2.2 x1 (gAt (σ.a 12) 8 x1)) (fun a13 => (mono_oc mono_none (fun a15 => (mono_ite (mono_bind (m_X8_suppress N p2.2 a15 (gAt (σ.a 12) 8 x1) x1) (fun p18 => (mono_some (Nat.le_refl _)))) mono_none))))) (m_X3_closeOne_50 N p2.2 x1 (gAt (σ.a 12) 8 x1))) (mono_some (Nat.le_refl _)))
  have hFc := cFree hC hA
  refine va_callv (va_runV (As := [.int 2, .int x1]) (rest := []) ⟨hx, hb, hml, hown, hts⟩ (c_X3_note l dC dI Q N σ 2 x1 p2 hcp2) (cwV 2 hts hX3_closeOne_X3_note_v178 rfl rfl rfl (by decide +kernel) ⟨(show 2 + 1 ≤ 4 by omega), (show 8 + (3 + 11) + 60 * 2 ≤ 60 * 4 by omega)⟩) ⟨zPre.blind, va_recv hK hC.1 (ci := 2) (q0 := 7) rfl rfl, cPre_go hZ hK hC⟩ rfl rfl hl.1 rfl (lv_room (Nat.le_of_ble_eq_true rfl)) dX3_closeOne_15 (cAcc h0 hm3 hr9)) hC.2.2.1 (fun q _ h => hFc q h) hFc (fun u9 t9 H1 locs ht hvm hw hB hz1 hk1 hS => ?_)
  obtain ⟨⟨hP, hK1, hD1⟩, hsz1⟩ := hB
  rw [ht] at hP hsz1
  have hC : CP dC dI Q A s.heap p2.2 H1 locs := ⟨hP, hD1.weaken (fun _ _ _ h => hFc _ h), hS, hsz1⟩
  generalize H1 = H at hC ⊢
  have h5 : (CS.hs σ) ≤ CS.hs p2.2 := Nat.le_trans h0 hm3
  refine W.widen (k := CS.hs p2.2 - (CS.hs σ)) (n := 17 * (CS.hs p2.2 - (CS.hs σ))) (cAcc2 h0 hm3) (cAcc3 h0 hm3) ?_
  refine lv_iload_n hx hb dX3_closeOne_18 rfl (lv_at hl 0 rfl) ?_
  refine lv_if_ge (tgt := 23) hx hb dX3_closeOne_19 (by decide) (fun c6 => ?_) (fun c6 => ?_)
  ·
    replace hf := (if_pos c6).symm.trans hf
    refine lv_aload_n hx hb dX3_closeOne_23 rfl (lv_at hl 1 rfl) ?_
    refine cG_73 (v := (p2.2.i 73)) hx hb hts i_X3_closeOne_X3 hown hK hC (hts (.fieldLink RX3 75 "StatementRules2$Machine" "way" "I") k_X3_closeOne_fieldLink_RX3_75_SR_Machine_way_I) (fun _ q9 => q9) dX3_closeOne_24 rfl ?_
    refine lv_iconst (v := 4) hx hb dX3_closeOne_27 (by decide) ?_
    refine lv_icmp_ne (tgt := 50) hx hb dX3_closeOne_28 (by decide) (fun c7 => ?_) (fun c7 => ?_)
    ·
      replace hf := (if_neg c7).symm.trans hf
      exact j_X3_closeOne_50 l dC dI Q N (CS.hs σ) R hx hb hr hml hown hts hlocks hZ hA hK p2.2 x1 (gAt (σ.a 12) 8 x1) _ _ _ hf h5 hC (lv_sub hl [1, 2, 0] rfl)
    ·
      replace hf := (if_pos c7).symm.trans hf
      refine lv_aload_n hx hb dX3_closeOne_31 rfl (lv_at hl 1 rfl) ?_
      refine cG_76 (v := (CS.w p2.2)) hx hb hts i_X3_closeOne_X3 hown hK hC (hts (.fieldLink RX3 81 "StatementRules2$Machine" "wayThrown" "LStatementRules2$Thrown;") k_X3_closeOne_fieldLink_RX3_81_SR_Machine_wayThrown_LSR_Thrown) (fun _ q9 => q9) dX3_closeOne_32 rfl ?_
      rcases hf_oc hf with ⟨q12, hf⟩ | ⟨a13, q12, hf⟩
      ·
        refine W.eq (congrArg (fun v9 => F0 m 35 ls (va_rf v9 :: [])) q12) ?_
        refine W.eq (g2 := F0 m 35 ls (.null :: [])) rfl ?_
        refine lv_ifnullN (tgt := 50) hx hb dX3_closeOne_35 (by decide) ?_
        exact j_X3_closeOne_50 l dC dI Q N (CS.hs σ) R hx hb hr hml hown hts hlocks hZ hA hK p2.2 x1 (gAt (σ.a 12) 8 x1) _ _ _ hf h5 hC (lv_sub hl [1, 2, 0] rfl)
      ·
        refine W.eq (congrArg (fun v9 => F0 m 35 ls (va_rf v9 :: [])) q12) ?_
        refine W.eq (g2 := F0 m 35 ls (.ref a13 :: [])) rfl ?_
        refine lv_ifnull hx hb dX3_closeOne_35 ?_
        refine lv_aload_n hx hb dX3_closeOne_38 rfl (lv_at hl 1 rfl) ?_
        refine cG_76 (v := (CS.w p2.2)) hx hb hts i_X3_closeOne_X3 hown hK hC (hts (.fieldLink RX3 81 "StatementRules2$Machine" "wayThrown" "LStatementRules2$Thrown;") k_X3_closeOne_fieldLink_RX3_81_SR_Machine_wayThrown_LSR_Thrown) (fun _ q9 => q9) dX3_closeOne_39 rfl ?_
        rcases hf_oc hf with ⟨q14, hf⟩ | ⟨a15, q14, hf⟩
        ·
          refine W.eq (congrArg (fun v9 => F0 m 42 ls (va_rf v9 :: [])) q14) ?_
          refine W.eq (g2 := F0 m 42 ls (.null :: [])) rfl ?_
          refine lv_iload_n hx hb dX3_closeOne_42 rfl (lv_at hl 0 rfl) ?_
          refine lv_iload_n hx hb dX3_closeOne_43 rfl (lv_at hl 2 rfl) ?_
          cases hf
        ·
          refine W.eq (congrArg (fun v9 => F0 m 42 ls (va_rf v9 :: [])) q14) ?_
          refine W.eq (g2 := F0 m 42 ls (.ref a15 :: [])) rfl ?_
          refine lv_iload_n hx hb dX3_closeOne_42 rfl (lv_at hl 0 rfl) ?_
          refine lv_iload_n hx hb dX3_closeOne_43 rfl (lv_at hl 2 rfl) ?_
          obtain ⟨b16, hf⟩ := hf_ite hf
          obtain ⟨k17, hk17⟩ := cPl (Q := Q) (s := p2.2) (a := a15) b16.1
          rw [cE2 (show CS.k p2.2 a15 = 2 from b16.2)] at hk17
          obtain ⟨p18, hcp18, hf⟩ := hf_bind hf
          have hm19 : CS.hs p2.2 ≤ CS.hs p18.2 := Mono.go hcp18 (m_X8_suppress N p2.2 a15 (gAt (σ.a 12) 8 x1) x1)
          have hr9 : CS.hs p18.2 ≤ CS.hs R.2 := Mono.go hf (mono_some (Nat.le_refl _))
          have hFc := cFree hC hA
          refine va_callv (va_runV (As := [.int (gAt (σ.a 12) 8 x1), .int x1]) (rest := []) ⟨hx, hb, hml, hown, hts⟩ (c_X8_suppress l dC dI Q N p2.2 a15 (gAt (σ.a 12) 8 x1) x1 p18 hcp18) (cwV 2 hts hX3_closeOne_X8_suppress_v268 rfl rfl rfl (by decide +kernel) ⟨(show 2 + 1 ≤ 4 by omega), (show 8 + (3 + 11) + 60 * 2 ≤ 60 * 4 by omega)⟩) ⟨zPre.blind, va_recv hK hC.1 (ci := 7) (q0 := k17) rfl hk17, cPre_go hZ hK hC⟩ rfl rfl hl.1 rfl (lv_room (Nat.le_of_ble_eq_true rfl)) dX3_closeOne_44 (cAcc h5 hm19 hr9)) hC.2.2.1 (fun q _ h => hFc q h) hFc (fun u9 t9 H1 locs ht hvm hw hB hz1 hk1 hS => ?_)
          obtain ⟨⟨hP, hK1, hD1⟩, hsz1⟩ := hB
          rw [ht] at hP hsz1
          have hC : CP dC dI Q A s.heap p18.2 H1 locs := ⟨hP, hD1.weaken (fun _ _ _ h => hFc _ h), hS, hsz1⟩
          generalize H1 = H at hC ⊢
          have h21 : (CS.hs σ) ≤ CS.hs p18.2 := Nat.le_trans h5 hm19
          refine W.widen (k := CS.hs p18.2 - (CS.hs σ)) (n := 17 * (CS.hs p18.2 - (CS.hs σ))) (cAcc2 h5 hm19) (cAcc3 h5 hm19) ?_
          refine lv_goto (tgt := 56) hx hb dX3_closeOne_47 (by decide) ?_
          obtain rfl := Option.some.inj hf
          exact W.vret hx hb hr (fun t ht hW => ⟨⟨(), rfl, trivial, ⟨by rw [ht]; exact hC.1, va_K.moved hW.alike hK, hC.2.1⟩, by rw [ht]; exact hC.2.2.2⟩, hC.2.2.1.F ht⟩) hC.2.2.1.2.2 dX3_closeOne_56
  ·
    replace hf := (if_neg c6).symm.trans hf
    obtain rfl := Option.some.inj hf
    exact W.vret hx hb hr (fun t ht hW => ⟨⟨(), rfl, trivial, ⟨by rw [ht]; exact hC.1, va_K.moved hW.alike hK, hC.2.1⟩, by rw [ht]; exact hC.2.2.2⟩, hC.2.2.1.F ht⟩) hC.2.2.1.2.2 dX3_closeOne_22
theorem i_X3_begin_X2 : ∀ w ∈ wsX20, w ∈ wzX3_begin := fun _ h => List.mem_cons_of_mem _ (List.mem_append_right _ (List.mem_append_left _ (h)))
theorem k_X3_begin_fieldLink_RX3_54_SR_Machine_height_I : Cond.fieldLink RX3 54 "StatementRules2$Machine" "height" "I" ∈ wzX3_begin := List.mem_cons_of_mem _ (List.mem_append_left _ (List.mem_of_getElem? (i := 0) rfl))
theorem i_X3_begin_X3 : ∀ w ∈ wsX30, w ∈ wzX3_begin := fun _ h => List.mem_cons_of_mem _ (List.mem_append_right _ (List.mem_append_right _ (List.mem_append_left _ (h))))
theorem k_X3_begin_fieldLink_RX3_40_SR_Machine_code_LSR_Code : Cond.fieldLink RX3 40 "StatementRules2$Machine" "code" "LStatementRules2$Code;" ∈ wzX3_begin := List.mem_cons_of_mem _ (List.mem_append_left _ (List.mem_of_getElem? (i := 1) rfl))
theorem i_X3_begin_X0 : ∀ w ∈ wsX00, w ∈ wzX3_begin := fun _ h => List.mem_cons_of_mem _ (List.mem_append_right _ (List.mem_append_right _ (List.mem_append_right _ (List.mem_append_left _ (h)))))
theorem k_X3_begin_initialized_RX11 : Cond.initialized RX11 ∈ wzX3_begin := List.mem_cons_of_mem _ (List.mem_append_left _ (List.mem_of_getElem? (i := 2) rfl))
theorem k_X3_begin_static_yX11_at : Cond.static yX11_at ∈ wzX3_begin := List.mem_cons_of_mem _ (List.mem_append_left _ (List.mem_of_getElem? (i := 3) rfl))
theorem k_X3_begin_fieldLink_RX3_57_SR_Machine_place_I : Cond.fieldLink RX3 57 "StatementRules2$Machine" "place" "I" ∈ wzX3_begin := List.mem_cons_of_mem _ (List.mem_append_left _ (List.mem_of_getElem? (i := 4) rfl))
theorem k_X3_begin_fieldLink_RX3_75_SR_Machine_way_I : Cond.fieldLink RX3 75 "StatementRules2$Machine" "way" "I" ∈ wzX3_begin := List.mem_cons_of_mem _ (List.mem_append_left _ (List.mem_of_getElem? (i := 5) rfl))
set_option maxHeartbeats 4000000 in
set_option maxRecDepth 100000 in
theorem c_X3_begin (l : Launch) (dC : Nat → ClassId) (dI : Nat → Nat → Nat) (Q : CQ) (N : Nat) (σ : CS) (x1 : Nat) (x2 : Int32) (R : Unit × CS) (hf : f_X3_begin N σ x1 x2 = some R) : Met l yX3_begin wzX3_begin ({ frames := 2, cells := CS.hs R.2 - CS.hs σ, slots := 17 * (CS.hs R.2 - CS.hs σ), locals := 60 * 2 }) (va_Pc [.ref (Q.o 7), .ref x1, .int x2] (zPre dC dI (CS.hs σ) (cW Q σ) (cT Q))) (va_Qv (fun (_ : Unit) => True) (fun (_ : Unit) (t : State) => zPost dC dI (va_A (cW Q σ) (CS.hs σ)) (cW Q R.2) (cT Q) t ∧ t.heap.size = CS.hs R.2) (va_A (cW Q σ) (CS.hs σ))) (CS.hs R.2 - CS.hs σ) (17 * (CS.hs R.2 - CS.hs σ)) (va_A (cW Q σ) (CS.hs σ)) := by
  refine Met.ofW (cc := cX3_begin) (maxL := 3) (ret := none) (by decide) rfl ?_
  intro p e s m args below meth c s₁ B hml hv
  obtain ⟨rfl, hsz, hZ, hP, hK, hD0⟩ := hv
  have hx := B.exec
  have hb := B.bytes
  have hr := B.returns
  have hts := atoms_spec (ws := wzX3_begin) B.pre
  have hown : s.vm.findClass RX3 = some m.cls := findClass_of_methodNamed B.named
  have hlocks := B.notSynchronized
  have hD := hD0.self (sz := CS.hs σ)
  generalize hAe : va_A (cW Q σ) (CS.hs σ) = A at hD ⊢
  have hA : ∀ q : Nat, s.heap.size ≤ q → A q := fun q h => by rw [← hAe]; exact Or.inr (hsz ▸ h)
  have hC : CP dC dI Q A s.heap σ s.heap [] := ⟨hP, hD, va_S.rf, hsz⟩
  have h0 : CS.hs σ ≤ CS.hs σ := Nat.le_refl _
  have hl := lv_entry ([.ref (Q.o 7), .ref x1, .int x2]) (n := 3) (Nat.le_of_ble_eq_true rfl)
  rw [lg_entry_eq]
  generalize (lg_sl ([.ref (Q.o 7), .ref x1, .int x2]) ++ List.replicate (3 - (lg_sl ([.ref (Q.o 7), .ref x1, .int x2])).length) Slot.unset).toArray = ls at hl ⊢
  have hl : lv_has ls 3 [(0, .ref (Q.o 7)), (1, .ref x1), (2, .int x2)] := hl
  unfold f_X3_begin at hf
  refine W.widen (k := CS.hs σ - CS.hs σ) (n := 17 * (CS.hs σ - CS.hs σ)) (Nat.zero_le _) (Nat.zero_le _) ?_
  refine lv_aload_n hx hb dX3_begin_0 rfl (lv_at hl 0 rfl) ?_
  refine lv_aload_n hx hb dX3_begin_1 rfl (lv_at hl 1 rfl) ?_
  obtain ⟨b1, hf⟩ := hf_ite hf
  refine pGN_X2_2 (v := (CS.o σ x1 2)) hx hb hts i_X3_begin_X2 hown hK hC (va_Nw.use rfl (hZ.1 (.fieldLinkNest RX3 200 "StatementRules2$Frame" "height" "I" "StatementRules2") (by decide +kernel))) (fun _ q9 => q9) dX3_begin_2 b1 rfl ?_
  refine cP_65 (v := (CS.o σ x1 2)) hx hb hts i_X3_begin_X3 hown hK hC (hts (.fieldLink RX3 54 "StatementRules2$Machine" "height" "I") k_X3_begin_fieldLink_RX3_54_SR_Machine_height_I) (fun _ q9 => q9) dX3_begin_5 (fun H locs hC => ?_)
  refine lv_aload_n hx hb dX3_begin_8 rfl (lv_at hl 0 rfl) ?_
  refine lv_aload_n hx hb dX3_begin_9 rfl (lv_at hl 0 rfl) ?_
  refine cG_58 hx hb hts i_X3_begin_X3 hown hK hC (hts (.fieldLink RX3 40 "StatementRules2$Machine" "code" "LStatementRules2$Code;") k_X3_begin_fieldLink_RX3_40_SR_Machine_code_LSR_Code) (fun _ q9 => q9) dX3_begin_10 ?_
  refine cGN_17 hx hb hts i_X3_begin_X0 hown hK hC (va_Nw.use rfl (hZ.1 (.fieldLinkNest RX3 153 "StatementRules2$Code" "targets" "[I" "StatementRules2") (by decide +kernel))) (fun _ q9 => q9) dX3_begin_13 ?_
  refine lv_iload_n hx hb dX3_begin_16 rfl (lv_at hl 2 rfl) ?_
  have he9 := (show (cW Q (CS.setI σ 65 (CS.o σ x1 2)))[15]? = some (Q.q 17, .inl (Q.c 0, 1024, .inl (σ.a 17))) from rfl)
  have hFc := cFree1 hC hA he9
  have hr9 : CS.hs σ ≤ CS.hs R.2 := Mono.go hf (mono_some (Nat.le_refl _))
  refine va_calli (va_runSN (As := [.ref (Q.q 17), .int x2]) (rest := [.ref (Q.o 7)]) ⟨hx, hb, hml, hown, hts⟩ (c_X11_at l dC dI _ (Q.q 17) (Q.c 0) 1024 (σ.a 17) x2 (by decide)) ⟨va_cnB 2 hts hX3_begin_X11_at_n111 rfl rfl rfl (hZ.1 (.methodLinkNest RX3 111 yX11_at "StatementRules2") (by decide +kernel)) (hts (.initialized RX11) k_X3_begin_initialized_RX11) (by decide +kernel) ⟨(show 1 + 1 ≤ 2 by omega), (show 8 + (2 + 11) + 60 * 1 ≤ 60 * 2 by omega)⟩, (hts (.static yX11_at) k_X3_begin_static_yX11_at), trivial⟩ ⟨zPre.blind, zPre.go hZ (cOne hC.1 he9) (hK.sub (tys' := [(Q.c 0, .int)]) [0] rfl) (cOneD hC.2.1 he9)⟩ rfl rfl hl.1 rfl (lv_room (Nat.le_of_ble_eq_true rfl)) dX3_begin_17 ⟨cAcc4 h0 hr9, cAcc5 h0 hr9⟩) hC.2.2.1 (fun q _ h => hFc q h) hFc (fun r2 u9 t9 H1 locs ht hvm hw hB hz1 hk1 hS => ?_)
  obtain ⟨⟨hP1, hK1, hD1⟩, hsz1⟩ := hB
  rw [ht] at hP1 hsz1
  have hC := cBack (σ' := CS.setI σ 65 (CS.o σ x1 2)) hC he9 (cSelf he9) rfl hk1 hP1 hsz1 hS
  generalize H1 = H at hC ⊢
  obtain rfl : r2 = (gAt (σ.a 17) 1024 x2) := hw
  refine cP_66 (v := (gAt (σ.a 17) 1024 x2)) hx hb hts i_X3_begin_X3 hown hK hC (hts (.fieldLink RX3 57 "StatementRules2$Machine" "place" "I") k_X3_begin_fieldLink_RX3_57_SR_Machine_place_I) (fun _ q9 => q9) dX3_begin_20 (fun H locs hC => ?_)
  refine lv_aload_n hx hb dX3_begin_23 rfl (lv_at hl 0 rfl) ?_
  refine lv_iconst (v := 0) hx hb dX3_begin_24 (by decide) ?_
  refine cP_73 (v := 0) hx hb hts i_X3_begin_X3 hown hK hC (hts (.fieldLink RX3 75 "StatementRules2$Machine" "way" "I") k_X3_begin_fieldLink_RX3_75_SR_Machine_way_I) (fun _ q9 => q9) dX3_begin_25 (fun H locs hC => ?_)
  obtain rfl := Option.some.inj hf
  exact W.vret hx hb hr (fun t ht hW => ⟨⟨(), rfl, trivial, ⟨by rw [ht]; exact hC.1, va_K.moved hW.alike hK, hC.2.1⟩, by rw [ht]; exact hC.2.2.2⟩, hC.2.2.1.F ht⟩) hC.2.2.1.2.2 dX3_begin_28
theorem k_X3_leaveBody_fieldLink_RX3_63_SR_Machine_openedCount_I : Cond.fieldLink RX3 63 "StatementRules2$Machine" "openedCount" "I" ∈ wzX3_leaveBody := List.mem_cons_of_mem _ (List.mem_append_left _ (List.mem_of_getElem? (i := 0) rfl))
theorem i_X3_leaveBody_X3 : ∀ w ∈ wsX30, w ∈ wzX3_leaveBody := fun _ h => List.mem_cons_of_mem _ (List.mem_append_right _ (List.mem_append_left _ (h)))
theorem i_X3_leaveBody_X2 : ∀ w ∈ wsX20, w ∈ wzX3_leaveBody := fun _ h => List.mem_cons_of_mem _ (List.mem_append_right _ (List.mem_append_right _ (List.mem_append_left _ (h))))
theorem k_X3_leaveBody_fieldLink_RX3_75_SR_Machine_way_I : Cond.fieldLink RX3 75 "StatementRules2$Machine" "way" "I" ∈ wzX3_leaveBody := List.mem_cons_of_mem _ (List.mem_append_left _ (List.mem_of_getElem? (i := 1) rfl))
theorem k_X3_leaveBody_fieldLink_RX3_81_SR_Machine_wayThrown_LSR_Thrown : Cond.fieldLink RX3 81 "StatementRules2$Machine" "wayThrown" "LStatementRules2$Thrown;" ∈ wzX3_leaveBody := List.mem_cons_of_mem _ (List.mem_append_left _ (List.mem_of_getElem? (i := 2) rfl))
theorem k_X3_leaveBody_fieldLink_RX3_30_SR_Machine_opened_I : Cond.fieldLink RX3 30 "StatementRules2$Machine" "opened" "[I" ∈ wzX3_leaveBody := List.mem_cons_of_mem _ (List.mem_append_left _ (List.mem_of_getElem? (i := 3) rfl))
theorem k_X3_leaveBody_initialized_RX11 : Cond.initialized RX11 ∈ wzX3_leaveBody := List.mem_cons_of_mem _ (List.mem_append_left _ (List.mem_of_getElem? (i := 4) rfl))
theorem k_X3_leaveBody_static_yX11_at : Cond.static yX11_at ∈ wzX3_leaveBody := List.mem_cons_of_mem _ (List.mem_append_left _ (List.mem_of_getElem? (i := 5) rfl))
set_option maxHeartbeats 4000000 in
set_option maxRecDepth 100000 in
theorem j_X3_leaveBody_7 {p : Program} {e : Env} {s : State} {m : MethodId} {args : Array Value} {below : List Frame} {meth : Method} {c : Code} {A : Nat → Prop} (l : Launch) (dC : Nat → ClassId) (dI : Nat → Nat → Nat) (Q : CQ) (N : Nat) (z9h : Nat) (R : Unit × CS) (hx : p.tables.exec = Jvm.exec) (hb : c.code = cX3_leaveBody) (hr : meth.sig.returnType = none) (hml : c.maxLocals = 3) (hown : s.vm.findClass RX3 = some m.cls) (hts : ∀ w ∈ wzX3_leaveBody, w.before args s = true) (hlocks : meth.locks = false) (hZ : zAMB s) (hA : ∀ q : Nat, s.heap.size ≤ q → A q) (hK : va_K (dC, dI) vwCl (cT Q) s) : ∀ (n9 : Nat), ∀ (σ : CS) (x1 : Nat) (x2 : Int32) (H : Heap) (locs : List Loc) (ls : Array Slot), f_X3_leaveBody_7 N n9 σ x1 x2 = some R → z9h ≤ CS.hs σ → CP dC dI Q A s.heap σ H locs → lv_has ls 3 [(0, .ref (Q.o 7)), (1, .ref x1), (2, .int x2)] → W p l e ({ frames := 5, cells := CS.hs R.2 - z9h, slots := 17 * (CS.hs R.2 - z9h), locals := 60 * 5 }) s m args below meth c H locs (CS.hs σ - z9h) (17 * (CS.hs σ - z9h)) (MQ below (va_Qv (fun (_ : Unit) => True) (fun (_ : Unit) (t : State) => zPost dC dI A (cW Q R.2) (cT Q) t ∧ t.heap.size = CS.hs R.2) A) args s (CS.hs R.2 - z9h) (17 * (CS.hs R.2 - z9h)) A) (F0 m 7 ls []) := by
  intro n9
  induction n9 with
  | zero => intro σ x1 x2 H locs ls hf; exact absurd hf (by intro q9; cases q9)
  | succ n9 ih =>
    intro σ x1 x2 H locs ls hf h0 hC hl
    replace hf : b_X3_leaveBody_7 N (f_X3_leaveBody_7 N n9) σ x1 x2 = some R := hf
    unfold b_X3_leaveBody_7 at hf
    have hMK := fun (σ : CS) (x1 : Nat) (x2 : Int32) => m_X3_leaveBody_7 N n9 σ x1 x2
    refine lv_iload_n hx hb dX3_leaveBody_7 rfl (lv_at hl 2 rfl) ?_
    refine lv_aload_n hx hb dX3_leaveBody_8 rfl (lv_at hl 1 rfl) ?_
    obtain ⟨b1, hf⟩ := hf_ite hf
    refine pGN_X2_3 (v := (CS.o σ x1 3)) hx hb hts i_X3_leaveBody_X2 hown hK hC (va_Nw.use rfl (hZ.1 (.fieldLinkNest RX3 201 "StatementRules2$Frame" "openedBefore" "I" "StatementRules2") (by decide +kernel))) (fun _ q9 => q9) dX3_leaveBody_9 b1 rfl ?_
    refine lv_icmp_lt (tgt := 33) hx hb dX3_leaveBody_12 (by decide) (fun c2 => ?_) (fun c2 => ?_)
    ·
      replace hf := (if_pos c2).symm.trans hf
      refine lv_aload_n hx hb dX3_leaveBody_33 rfl (lv_at hl 0 rfl) ?_
      refine lv_aload_n hx hb dX3_leaveBody_34 rfl (lv_at hl 1 rfl) ?_
      refine pGN_X2_3 (v := (CS.o σ x1 3)) hx hb hts i_X3_leaveBody_X2 hown hK hC (va_Nw.use rfl (hZ.1 (.fieldLinkNest RX3 201 "StatementRules2$Frame" "openedBefore" "I" "StatementRules2") (by decide +kernel))) (fun _ q9 => q9) dX3_leaveBody_35 b1 rfl ?_
      refine cP_68 (v := (CS.o σ x1 3)) hx hb hts i_X3_leaveBody_X3 hown hK hC (hts (.fieldLink RX3 63 "StatementRules2$Machine" "openedCount" "I") k_X3_leaveBody_fieldLink_RX3_63_SR_Machine_openedCount_I) (fun _ q9 => q9) dX3_leaveBody_38 (fun H locs hC => ?_)
      refine lv_aload_n hx hb dX3_leaveBody_41 rfl (lv_at hl 1 rfl) ?_
      refine lv_iconst (v := 2) hx hb dX3_leaveBody_42 (by decide) ?_
      refine pPN_X2_0 (v := 2) hx hb hts i_X3_leaveBody_X2 hown hK hC (va_Nw.use rfl (hZ.1 (.fieldLinkNest RX3 194 "StatementRules2$Frame" "phase" "I" "StatementRules2") (by decide +kernel))) (fun _ q9 => q9) dX3_leaveBody_43 b1 (fun H locs hC => ?_)
      refine lv_aload_n hx hb dX3_leaveBody_46 rfl (lv_at hl 0 rfl) ?_
      refine cG_73 (v := (σ.i 73)) hx hb hts i_X3_leaveBody_X3 hown hK hC (hts (.fieldLink RX3 75 "StatementRules2$Machine" "way" "I") k_X3_leaveBody_fieldLink_RX3_75_SR_Machine_way_I) (fun _ q9 => q9) dX3_leaveBody_47 rfl ?_
      refine lv_iconst (v := 4) hx hb dX3_leaveBody_50 (by decide) ?_
      refine lv_icmp_ne (tgt := 71) hx hb dX3_leaveBody_51 (by decide) (fun c3 => ?_) (fun c3 => ?_)
      ·
        replace hf := (if_neg c3).symm.trans hf
        obtain rfl := Option.some.inj hf
        exact W.vret hx hb hr (fun t ht hW => ⟨⟨(), rfl, trivial, ⟨by rw [ht]; exact hC.1, va_K.moved hW.alike hK, hC.2.1⟩, by rw [ht]; exact hC.2.2.2⟩, hC.2.2.1.F ht⟩) hC.2.2.1.2.2 dX3_leaveBody_71
      ·
        replace hf := (if_pos c3).symm.trans hf
        refine lv_aload_n hx hb dX3_leaveBody_54 rfl (lv_at hl 1 rfl) ?_
        refine lv_aload_n hx hb dX3_leaveBody_55 rfl (lv_at hl 0 rfl) ?_
        refine cG_76 (v := (CS.w (CS.setO (CS.setI σ 68 (CS.o σ x1 3)) x1 0 2))) hx hb hts i_X3_leaveBody_X3 hown hK hC (hts (.fieldLink RX3 81 "StatementRules2$Machine" "wayThrown" "LStatementRules2$Thrown;") k_X3_leaveBody_fieldLink_RX3_81_SR_Machine_wayThrown_LSR_Thrown) (fun _ q9 => q9) dX3_leaveBody_56 rfl ?_
        rcases hf_oc hf with ⟨q4, hf⟩ | ⟨a5, q4, hf⟩
        ·
          refine W.eq (congrArg (fun v9 => F0 m 59 ls (va_rf v9 :: [.ref x1])) q4) ?_
          refine W.eq (g2 := F0 m 59 ls (.null :: [.ref x1])) rfl ?_
          refine pPN_X2_4 (v := none) hx hb hts i_X3_leaveBody_X2 hown hK hC (va_Nw.use rfl (hZ.1 (.fieldLinkNest RX3 204 "StatementRules2$Frame" "thrown" "LStatementRules2$Thrown;" "StatementRules2") (by decide +kernel))) (fun _ q9 => q9) dX3_leaveBody_59 b1 (fun H locs hC => ?_)
          refine lv_aload_n hx hb dX3_leaveBody_62 rfl (lv_at hl 0 rfl) ?_
          refine lv_aload_n hx hb dX3_leaveBody_63 rfl (lv_at hl 1 rfl) ?_
          refine lv_aload_n hx hb dX3_leaveBody_64 rfl (lv_at hl 1 rfl) ?_
          refine pGN_X2_1 (v := (CS.o (CS.setOt (CS.setO (CS.setI σ 68 (CS.o σ x1 3)) x1 0 2) x1 none) x1 1)) hx hb hts i_X3_leaveBody_X2 hown hK hC (va_Nw.use rfl (hZ.1 (.fieldLinkNest RX3 197 "StatementRules2$Frame" "argument" "I" "StatementRules2") (by decide +kernel))) (fun _ q9 => q9) dX3_leaveBody_65 b1 rfl ?_
          obtain ⟨p6, hcp6, hf⟩ := hf_bind hf
          have hm7 : CS.hs σ ≤ CS.hs p6.2 := Mono.go hcp6 (m_X3_begin N (CS.setOt (CS.setO (CS.setI σ 68 (CS.o σ x1 3)) x1 0 2) x1 none) x1 (CS.o (CS.setOt (CS.setO (CS.setI σ 68 (CS.o σ x1 3)) x1 0 2) x1 none) x1 1))
          have hr9 : CS.hs p6.2 ≤ CS.hs R.2 := Mono.go hf (mono_some (Nat.le_refl _))
          have hFc := cFree hC hA
          refine va_callv (va_runV (As := [.ref x1, .int (CS.o (CS.setOt (CS.setO (CS.setI σ 68 (CS.o σ x1 3)) x1 0 2) x1 none) x1 1)]) (rest := []) ⟨hx, hb, hml, hown, hts⟩ (c_X3_begin l dC dI Q N (CS.setOt (CS.setO (CS.setI σ 68 (CS.o σ x1 3)) x1 0 2) x1 none) x1 (CS.o (CS.setOt (CS.setO (CS.setI σ 68 (CS.o σ x1 3)) x1 0 2) x1 none) x1 1) p6 hcp6) (cwV 2 hts hX3_leaveBody_X3_begin_v261 rfl rfl rfl (by decide +kernel) ⟨(show 2 + 1 ≤ 5 by omega), (show 8 + (3 + 11) + 60 * 2 ≤ 60 * 5 by omega)⟩) ⟨zPre.blind, va_recv hK hC.1 (ci := 2) (q0 := 7) rfl rfl, cPre_go hZ hK hC⟩ rfl rfl hl.1 rfl (lv_room (Nat.le_of_ble_eq_true rfl)) dX3_leaveBody_68 (cAcc h0 hm7 hr9)) hC.2.2.1 (fun q _ h => hFc q h) hFc (fun u9 t9 H1 locs ht hvm hw hB hz1 hk1 hS => ?_)
          obtain ⟨⟨hP, hK1, hD1⟩, hsz1⟩ := hB
          rw [ht] at hP hsz1
          have hC : CP dC dI Q A s.heap p6.2 H1 locs := ⟨hP, hD1.weaken (fun _ _ _ h => hFc _ h), hS, hsz1⟩
          generalize H1 = H at hC ⊢
          have h9 : z9h ≤ CS.hs p6.2 := Nat.le_trans h0 hm7
          refine W.widen (k := CS.hs p6.2 - z9h) (n := 17 * (CS.hs p6.2 - z9h)) (cAcc2 h0 hm7) (cAcc3 h0 hm7) ?_
          obtain rfl := Option.some.inj hf
          exact W.vret hx hb hr (fun t ht hW => ⟨⟨(), rfl, trivial, ⟨by rw [ht]; exact hC.1, va_K.moved hW.alike hK, hC.2.1⟩, by rw [ht]; exact hC.2.2.2⟩, hC.2.2.1.F ht⟩) hC.2.2.1.2.2 dX3_leaveBody_71
        ·
          refine W.eq (congrArg (fun v9 => F0 m 59 ls (va_rf v9 :: [.ref x1])) q4) ?_
          refine W.eq (g2 := F0 m 59 ls (.ref a5 :: [.ref x1])) rfl ?_
          refine pPN_X2_4 (v := (some a5)) hx hb hts i_X3_leaveBody_X2 hown hK hC (va_Nw.use rfl (hZ.1 (.fieldLinkNest RX3 204 "StatementRules2$Frame" "thrown" "LStatementRules2$Thrown;" "StatementRules2") (by decide +kernel))) (fun _ q9 => q9) dX3_leaveBody_59 b1 (fun H locs hC => ?_)
          refine lv_aload_n hx hb dX3_leaveBody_62 rfl (lv_at hl 0 rfl) ?_
          refine lv_aload_n hx hb dX3_leaveBody_63 rfl (lv_at hl 1 rfl) ?_
          refine lv_aload_n hx hb dX3_leaveBody_64 rfl (lv_at hl 1 rfl) ?_
          refine pGN_X2_1 (v := (CS.o (CS.setOt (CS.setO (CS.setI σ 68 (CS.o σ x1 3)) x1 0 2) x1 (some a5)) x1 1)) hx hb hts i_X3_leaveBody_X2 hown hK hC (va_Nw.use rfl (hZ.1 (.fieldLinkNest RX3 197 "StatementRules2$Frame" "argument" "I" "StatementRules2") (by decide +kernel))) (fun _ q9 => q9) dX3_leaveBody_65 b1 rfl ?_
          obtain ⟨p10, hcp10, hf⟩ := hf_bind hf
          have hm11 : CS.hs σ ≤ CS.hs p10.2 := Mono.go hcp10 (m_X3_begin N (CS.setOt (CS.setO (CS.setI σ 68 (CS.o σ x1 3)) x1 0 2) x1 (some a5)) x1 (CS.o (CS.setOt (CS.setO (CS.setI σ 68 (CS.o σ x1 3)) x1 0 2) x1 (some a5)) x1 1))
          have hr9 : CS.hs p10.2 ≤ CS.hs R.2 := Mono.go hf (mono_some (Nat.le_refl _))
          have hFc := cFree hC hA
          refine va_callv (va_runV (As := [.ref x1, .int (CS.o (CS.setOt (CS.setO (CS.setI σ 68 (CS.o σ x1 3)) x1 0 2) x1 (some a5)) x1 1)]) (rest := []) ⟨hx, hb, hml, hown, hts⟩ (c_X3_begin l dC dI Q N (CS.setOt (CS.setO (CS.setI σ 68 (CS.o σ x1 3)) x1 0 2) x1 (some a5)) x1 (CS.o (CS.setOt (CS.setO (CS.setI σ 68 (CS.o σ x1 3)) x1 0 2) x1 (some a5)) x1 1) p10 hcp10) (cwV 2 hts hX3_leaveBody_X3_begin_v261 rfl rfl rfl (by decide +kernel) ⟨(show 2 + 1 ≤ 5 by omega), (show 8 + (3 + 11) + 60 * 2 ≤ 60 * 5 by omega)⟩) ⟨zPre.blind, va_recv hK hC.1 (ci := 2) (q0 := 7) rfl rfl, cPre_go hZ hK hC⟩ rfl rfl hl.1 rfl (lv_room (Nat.le_of_ble_eq_true rfl)) dX3_leaveBody_68 (cAcc h0 hm11 hr9)) hC.2.2.1 (fun q _ h => hFc q h) hFc (fun u9 t9 H1 locs ht hvm hw hB hz1 hk1 hS => ?_)
          obtain ⟨⟨hP, hK1, hD1⟩, hsz1⟩ := hB
          rw [ht] at hP hsz1
          have hC : CP dC dI Q A s.heap p10.2 H1 locs := ⟨hP, hD1.weaken (fun _ _ _ h => hFc _ h), hS, hsz1⟩
          generalize H1 = H at hC ⊢
          have h13 : z9h ≤ CS.hs p10.2 := Nat.le_trans h0 hm11
          refine W.widen (k := CS.hs p10.2 - z9h) (n := 17 * (CS.hs p10.2 - z9h)) (cAcc2 h0 hm11) (cAcc3 h0 hm11) ?_
          obtain rfl := Option.some.inj hf
          exact W.vret hx hb hr (fun t ht hW => ⟨⟨(), rfl, trivial, ⟨by rw [ht]; exact hC.1, va_K.moved hW.alike hK, hC.2.1⟩, by rw [ht]; exact hC.2.2.2⟩, hC.2.2.1.F ht⟩) hC.2.2.1.2.2 dX3_leaveBody_71
    ·
      replace hf := (if_neg c2).symm.trans hf
      refine lv_aload_n hx hb dX3_leaveBody_15 rfl (lv_at hl 0 rfl) ?_
      refine lv_aload_n hx hb dX3_leaveBody_16 rfl (lv_at hl 0 rfl) ?_
      refine cG_63 hx hb hts i_X3_leaveBody_X3 hown hK hC (hts (.fieldLink RX3 30 "StatementRules2$Machine" "opened" "[I") k_X3_leaveBody_fieldLink_RX3_30_SR_Machine_opened_I) (fun _ q9 => q9) dX3_leaveBody_17 ?_
      refine lv_iload_n hx hb dX3_leaveBody_20 rfl (lv_at hl 2 rfl) ?_
      have he9 := (show (cW Q σ)[28]? = some (Q.q 63, .inl (Q.c 0, 320, .inl (σ.a 63))) from rfl)
      have hFc := cFree1 hC hA he9
      have hr9 : CS.hs σ ≤ CS.hs R.2 := Mono.go hf (mono_bind (m_X3_closeOne N σ (gAt (σ.a 63) 320 x2)) (fun p15 => (hMK p15.2 x1 (x2 + (-1)))))
      refine va_calli (va_runSN (As := [.ref (Q.q 63), .int x2]) (rest := [.ref (Q.o 7)]) ⟨hx, hb, hml, hown, hts⟩ (c_X11_at l dC dI _ (Q.q 63) (Q.c 0) 320 (σ.a 63) x2 (by decide)) ⟨va_cnB 2 hts hX3_leaveBody_X11_at_n111 rfl rfl rfl (hZ.1 (.methodLinkNest RX3 111 yX11_at "StatementRules2") (by decide +kernel)) (hts (.initialized RX11) k_X3_leaveBody_initialized_RX11) (by decide +kernel) ⟨(show 1 + 1 ≤ 5 by omega), (show 8 + (2 + 11) + 60 * 1 ≤ 60 * 5 by omega)⟩, (hts (.static yX11_at) k_X3_leaveBody_static_yX11_at), trivial⟩ ⟨zPre.blind, zPre.go hZ (cOne hC.1 he9) (hK.sub (tys' := [(Q.c 0, .int)]) [0] rfl) (cOneD hC.2.1 he9)⟩ rfl rfl hl.1 rfl (lv_room (Nat.le_of_ble_eq_true rfl)) dX3_leaveBody_21 ⟨cAcc4 h0 hr9, cAcc5 h0 hr9⟩) hC.2.2.1 (fun q _ h => hFc q h) hFc (fun r14 u9 t9 H1 locs ht hvm hw hB hz1 hk1 hS => ?_)
      obtain ⟨⟨hP1, hK1, hD1⟩, hsz1⟩ := hB
      rw [ht] at hP1 hsz1
      have hC := cBack (σ' := σ) hC he9 (cSelf he9) rfl hk1 hP1 hsz1 hS
      generalize H1 = H at hC ⊢
      obtain rfl : r14 = (gAt (σ.a 63) 320 x2) := hw
      obtain ⟨p15, hcp15, hf⟩ := hf_bind hf
      have hm16 : CS.hs σ ≤ CS.hs p15.2 := Mono.go hcp15 (m_X3_closeOne N σ (gAt (σ.a 63) 320 x2))
      have hr9 : CS.hs p15.2 ≤ CS.hs R.2 := Mono.go hf (hMK p15.2 x1 (x2 + (-1)))
      have hFc := cFree hC hA
      refine va_callv (va_runV (As := [.int (gAt (σ.a 63) 320 x2)]) (rest := []) ⟨hx, hb, hml, hown, hts⟩ (c_X3_closeOne l dC dI Q N σ (gAt (σ.a 63) 320 x2) p15 hcp15) (cwV 1 hts hX3_leaveBody_X3_closeOne_v258 rfl rfl rfl (by decide +kernel) ⟨(show 4 + 1 ≤ 5 by omega), (show 8 + (3 + 11) + 60 * 4 ≤ 60 * 5 by omega)⟩) ⟨zPre.blind, va_recv hK hC.1 (ci := 2) (q0 := 7) rfl rfl, cPre_go hZ hK hC⟩ rfl rfl hl.1 rfl (lv_room (Nat.le_of_ble_eq_true rfl)) dX3_leaveBody_24 (cAcc h0 hm16 hr9)) hC.2.2.1 (fun q _ h => hFc q h) hFc (fun u9 t9 H1 locs ht hvm hw hB hz1 hk1 hS => ?_)
      obtain ⟨⟨hP, hK1, hD1⟩, hsz1⟩ := hB
      rw [ht] at hP hsz1
      have hC : CP dC dI Q A s.heap p15.2 H1 locs := ⟨hP, hD1.weaken (fun _ _ _ h => hFc _ h), hS, hsz1⟩
      generalize H1 = H at hC ⊢
      have h18 : z9h ≤ CS.hs p15.2 := Nat.le_trans h0 hm16
      refine W.widen (k := CS.hs p15.2 - z9h) (n := 17 * (CS.hs p15.2 - z9h)) (cAcc2 h0 hm16) (cAcc3 h0 hm16) ?_
      refine lv_iinc (v := (x2 + (-1))) (lv' := [(2, .int (x2 + (-1))), (0, .ref (Q.o 7)), (1, .ref x1)]) hx hb dX3_leaveBody_27 hl (k := 2) rfl rfl (by decide) rfl (fun ls hl => ?_)
      refine lv_goto (tgt := 7) hx hb dX3_leaveBody_30 (by decide) ?_
      exact ih p15.2 x1 (x2 + (-1)) _ _ _ hf h18 hC (lv_sub hl [1, 2, 0] rfl)
set_option maxHeartbeats 4000000 in
set_option maxRecDepth 100000 in
theorem c_X3_leaveBody (l : Launch) (dC : Nat → ClassId) (dI : Nat → Nat → Nat) (Q : CQ) (N : Nat) (σ : CS) (x1 : Nat) (R : Unit × CS) (hf : f_X3_leaveBody N σ x1 = some R) : Met l yX3_leaveBody wzX3_leaveBody ({ frames := 5, cells := CS.hs R.2 - CS.hs σ, slots := 17 * (CS.hs R.2 - CS.hs σ), locals := 60 * 5 }) (va_Pc [.ref (Q.o 7), .ref x1] (zPre dC dI (CS.hs σ) (cW Q σ) (cT Q))) (va_Qv (fun (_ : Unit) => True) (fun (_ : Unit) (t : State) => zPost dC dI (va_A (cW Q σ) (CS.hs σ)) (cW Q R.2) (cT Q) t ∧ t.heap.size = CS.hs R.2) (va_A (cW Q σ) (CS.hs σ))) (CS.hs R.2 - CS.hs σ) (17 * (CS.hs R.2 - CS.hs σ)) (va_A (cW Q σ) (CS.hs σ)) := by
  refine Met.ofW (cc := cX3_leaveBody) (maxL := 3) (ret := none) (by decide) rfl ?_
  intro p e s m args below meth c s₁ B hml hv
  obtain ⟨rfl, hsz, hZ, hP, hK, hD0⟩ := hv
  have hx := B.exec
  have hb := B.bytes
  have hr := B.returns
  have hts := atoms_spec (ws := wzX3_leaveBody) B.pre
  have hown : s.vm.findClass RX3 = some m.cls := findClass_of_methodNamed B.named
  have hlocks := B.notSynchronized
  have hD := hD0.self (sz := CS.hs σ)
  generalize hAe : va_A (cW Q σ) (CS.hs σ) = A at hD ⊢
  have hA : ∀ q : Nat, s.heap.size ≤ q → A q := fun q h => by rw [← hAe]; exact Or.inr (hsz ▸ h)
  have hC : CP dC dI Q A s.heap σ s.heap [] := ⟨hP, hD, va_S.rf, hsz⟩
  have h0 : CS.hs σ ≤ CS.hs σ := Nat.le_refl _
  have hl := lv_entry ([.ref (Q.o 7), .ref x1]) (n := 3) (Nat.le_of_ble_eq_true rfl)
  rw [lg_entry_eq]
  generalize (lg_sl ([.ref (Q.o 7), .ref x1]) ++ List.replicate (3 - (lg_sl ([.ref (Q.o 7), .ref x1])).length) Slot.unset).toArray = ls at hl ⊢
  have hl : lv_has ls 3 [(0, .ref (Q.o 7)), (1, .ref x1)] := hl
  unfold f_X3_leaveBody at hf
  refine W.widen (k := CS.hs σ - CS.hs σ) (n := 17 * (CS.hs σ - CS.hs σ)) (Nat.zero_le _) (Nat.zero_le _) ?_
  refine lv_aload_n hx hb dX3_leaveBody_0 rfl (lv_at hl 0 rfl) ?_
  refine cG_68 (v := (σ.i 68)) hx hb hts i_X3_leaveBody_X3 hown hK hC (hts (.fieldLink RX3 63 "StatementRules2$Machine" "openedCount" "I") k_X3_leaveBody_fieldLink_RX3_63_SR_Machine_openedCount_I) (fun _ q9 => q9) dX3_leaveBody_1 rfl ?_
  refine lv_iconst (v := 1) hx hb dX3_leaveBody_4 (by decide) ?_
  refine lv_isub hx hb dX3_leaveBody_5 ?_
  refine lv_istore_n (lv' := [(2, .int ((σ.i 68) - 1)), (0, .ref (Q.o 7)), (1, .ref x1)]) hx hb dX3_leaveBody_6 rfl hl (by decide) rfl (fun ls hl => ?_)
  exact j_X3_leaveBody_7 l dC dI Q N (CS.hs σ) R hx hb hr hml hown hts hlocks hZ hA hK N σ x1 ((σ.i 68) - 1) _ _ _ hf h0 hC (lv_sub hl [1, 2, 0] rfl)
theorem i_X3_enterFinally_X2 : ∀ w ∈ wsX20, w ∈ wzX3_enterFinally := fun _ h => List.mem_cons_of_mem _ (List.mem_append_right _ (List.mem_append_left _ (h)))
theorem k_X3_enterFinally_fieldLink_RX3_81_SR_Machine_wayThrown_LSR_Thrown : Cond.fieldLink RX3 81 "StatementRules2$Machine" "wayThrown" "LStatementRules2$Thrown;" ∈ wzX3_enterFinally := List.mem_cons_of_mem _ (List.mem_append_left _ (List.mem_of_getElem? (i := 0) rfl))
theorem i_X3_enterFinally_X3 : ∀ w ∈ wsX30, w ∈ wzX3_enterFinally := fun _ h => List.mem_cons_of_mem _ (List.mem_append_right _ (List.mem_append_right _ (List.mem_append_left _ (h))))
theorem k_X3_enterFinally_fieldLink_RX3_75_SR_Machine_way_I : Cond.fieldLink RX3 75 "StatementRules2$Machine" "way" "I" ∈ wzX3_enterFinally := List.mem_cons_of_mem _ (List.mem_append_left _ (List.mem_of_getElem? (i := 1) rfl))
theorem k_X3_enterFinally_fieldLink_RX3_78_SR_Machine_wayValue_I : Cond.fieldLink RX3 78 "StatementRules2$Machine" "wayValue" "I" ∈ wzX3_enterFinally := List.mem_cons_of_mem _ (List.mem_append_left _ (List.mem_of_getElem? (i := 2) rfl))
theorem k_X3_enterFinally_fieldLink_RX3_235_SR_Machine_wayTarget_I : Cond.fieldLink RX3 235 "StatementRules2$Machine" "wayTarget" "I" ∈ wzX3_enterFinally := List.mem_cons_of_mem _ (List.mem_append_left _ (List.mem_of_getElem? (i := 3) rfl))
set_option maxHeartbeats 4000000 in
set_option maxRecDepth 100000 in
theorem c_X3_enterFinally (l : Launch) (dC : Nat → ClassId) (dI : Nat → Nat → Nat) (Q : CQ) (N : Nat) (σ : CS) (x1 : Nat) (R : Unit × CS) (hf : f_X3_enterFinally N σ x1 = some R) : Met l yX3_enterFinally wzX3_enterFinally ({ frames := 3, cells := CS.hs R.2 - CS.hs σ, slots := 17 * (CS.hs R.2 - CS.hs σ), locals := 60 * 3 }) (va_Pc [.ref (Q.o 7), .ref x1] (zPre dC dI (CS.hs σ) (cW Q σ) (cT Q))) (va_Qv (fun (_ : Unit) => True) (fun (_ : Unit) (t : State) => zPost dC dI (va_A (cW Q σ) (CS.hs σ)) (cW Q R.2) (cT Q) t ∧ t.heap.size = CS.hs R.2) (va_A (cW Q σ) (CS.hs σ))) (CS.hs R.2 - CS.hs σ) (17 * (CS.hs R.2 - CS.hs σ)) (va_A (cW Q σ) (CS.hs σ)) := by
  refine Met.ofW (cc := cX3_enterFinally) (maxL := 2) (ret := none) (by decide) rfl ?_
  intro p e s m args below meth c s₁ B hml hv
  obtain ⟨rfl, hsz, hZ, hP, hK, hD0⟩ := hv
  have hx := B.exec
  have hb := B.bytes
  have hr := B.returns
  have hts := atoms_spec (ws := wzX3_enterFinally) B.pre
  have hown : s.vm.findClass RX3 = some m.cls := findClass_of_methodNamed B.named
  have hlocks := B.notSynchronized
  have hD := hD0.self (sz := CS.hs σ)
  generalize hAe : va_A (cW Q σ) (CS.hs σ) = A at hD ⊢
  have hA : ∀ q : Nat, s.heap.size ≤ q → A q := fun q h => by rw [← hAe]; exact Or.inr (hsz ▸ h)
  have hC : CP dC dI Q A s.heap σ s.heap [] := ⟨hP, hD, va_S.rf, hsz⟩
  have h0 : CS.hs σ ≤ CS.hs σ := Nat.le_refl _
  have hl := lv_entry ([.ref (Q.o 7), .ref x1]) (n := 2) (Nat.le_of_ble_eq_true rfl)
  rw [lg_entry_eq]
  generalize (lg_sl ([.ref (Q.o 7), .ref x1]) ++ List.replicate (2 - (lg_sl ([.ref (Q.o 7), .ref x1])).length) Slot.unset).toArray = ls at hl ⊢
  have hl : lv_has ls 2 [(0, .ref (Q.o 7)), (1, .ref x1)] := hl
  unfold f_X3_enterFinally at hf
  refine W.widen (k := CS.hs σ - CS.hs σ) (n := 17 * (CS.hs σ - CS.hs σ)) (Nat.zero_le _) (Nat.zero_le _) ?_
  refine lv_aload_n hx hb dX3_enterFinally_0 rfl (lv_at hl 1 rfl) ?_
  refine lv_iconst (v := 3) hx hb dX3_enterFinally_1 (by decide) ?_
  obtain ⟨b1, hf⟩ := hf_ite hf
  refine pPN_X2_0 (v := 3) hx hb hts i_X3_enterFinally_X2 hown hK hC (va_Nw.use rfl (hZ.1 (.fieldLinkNest RX3 194 "StatementRules2$Frame" "phase" "I" "StatementRules2") (by decide +kernel))) (fun _ q9 => q9) dX3_enterFinally_2 b1 (fun H locs hC => ?_)
  refine lv_aload_n hx hb dX3_enterFinally_5 rfl (lv_at hl 1 rfl) ?_
  refine lv_aload_n hx hb dX3_enterFinally_6 rfl (lv_at hl 0 rfl) ?_
  refine cG_76 (v := (CS.w (CS.setO σ x1 0 3))) hx hb hts i_X3_enterFinally_X3 hown hK hC (hts (.fieldLink RX3 81 "StatementRules2$Machine" "wayThrown" "LStatementRules2$Thrown;") k_X3_enterFinally_fieldLink_RX3_81_SR_Machine_wayThrown_LSR_Thrown) (fun _ q9 => q9) dX3_enterFinally_7 rfl ?_
  rcases hf_oc hf with ⟨q2, hf⟩ | ⟨a3, q2, hf⟩
  ·
    refine W.eq (congrArg (fun v9 => F0 m 10 ls (va_rf v9 :: [.ref x1])) q2) ?_
    refine W.eq (g2 := F0 m 10 ls (.null :: [.ref x1])) rfl ?_
    refine pPN_X2_4 (v := none) hx hb hts i_X3_enterFinally_X2 hown hK hC (va_Nw.use rfl (hZ.1 (.fieldLinkNest RX3 204 "StatementRules2$Frame" "thrown" "LStatementRules2$Thrown;" "StatementRules2") (by decide +kernel))) (fun _ q9 => q9) dX3_enterFinally_10 b1 (fun H locs hC => ?_)
    refine lv_aload_n hx hb dX3_enterFinally_13 rfl (lv_at hl 1 rfl) ?_
    refine lv_aload_n hx hb dX3_enterFinally_14 rfl (lv_at hl 0 rfl) ?_
    refine cG_73 (v := (σ.i 73)) hx hb hts i_X3_enterFinally_X3 hown hK hC (hts (.fieldLink RX3 75 "StatementRules2$Machine" "way" "I") k_X3_enterFinally_fieldLink_RX3_75_SR_Machine_way_I) (fun _ q9 => q9) dX3_enterFinally_15 rfl ?_
    refine pPN_X2_5 (v := (σ.i 73)) hx hb hts i_X3_enterFinally_X2 hown hK hC (va_Nw.use rfl (hZ.1 (.fieldLinkNest RX3 246 "StatementRules2$Frame" "way" "I" "StatementRules2") (by decide +kernel))) (fun _ q9 => q9) dX3_enterFinally_18 b1 (fun H locs hC => ?_)
    refine lv_aload_n hx hb dX3_enterFinally_21 rfl (lv_at hl 1 rfl) ?_
    refine lv_aload_n hx hb dX3_enterFinally_22 rfl (lv_at hl 0 rfl) ?_
    refine cG_74 (v := (σ.i 74)) hx hb hts i_X3_enterFinally_X3 hown hK hC (hts (.fieldLink RX3 78 "StatementRules2$Machine" "wayValue" "I") k_X3_enterFinally_fieldLink_RX3_78_SR_Machine_wayValue_I) (fun _ q9 => q9) dX3_enterFinally_23 rfl ?_
    refine pPN_X2_6 (v := (σ.i 74)) hx hb hts i_X3_enterFinally_X2 hown hK hC (va_Nw.use rfl (hZ.1 (.fieldLinkNest RX3 247 "StatementRules2$Frame" "wayValue" "I" "StatementRules2") (by decide +kernel))) (fun _ q9 => q9) dX3_enterFinally_26 b1 (fun H locs hC => ?_)
    refine lv_aload_n hx hb dX3_enterFinally_29 rfl (lv_at hl 1 rfl) ?_
    refine lv_aload_n hx hb dX3_enterFinally_30 rfl (lv_at hl 0 rfl) ?_
    refine cG_75 (v := (σ.i 75)) hx hb hts i_X3_enterFinally_X3 hown hK hC (hts (.fieldLink RX3 235 "StatementRules2$Machine" "wayTarget" "I") k_X3_enterFinally_fieldLink_RX3_235_SR_Machine_wayTarget_I) (fun _ q9 => q9) dX3_enterFinally_31 rfl ?_
    refine pPN_X2_7 (v := (σ.i 75)) hx hb hts i_X3_enterFinally_X2 hown hK hC (va_Nw.use rfl (hZ.1 (.fieldLinkNest RX3 248 "StatementRules2$Frame" "wayTarget" "I" "StatementRules2") (by decide +kernel))) (fun _ q9 => q9) dX3_enterFinally_34 b1 (fun H locs hC => ?_)
    refine lv_aload_n hx hb dX3_enterFinally_37 rfl (lv_at hl 0 rfl) ?_
    refine lv_aload_n hx hb dX3_enterFinally_38 rfl (lv_at hl 1 rfl) ?_
    refine lv_aload_n hx hb dX3_enterFinally_39 rfl (lv_at hl 1 rfl) ?_
    refine pGN_X2_1 (v := (CS.o (CS.setO (CS.setO (CS.setO (CS.setOt (CS.setO σ x1 0 3) x1 none) x1 5 (σ.i 73)) x1 6 (σ.i 74)) x1 7 (σ.i 75)) x1 1)) hx hb hts i_X3_enterFinally_X2 hown hK hC (va_Nw.use rfl (hZ.1 (.fieldLinkNest RX3 197 "StatementRules2$Frame" "argument" "I" "StatementRules2") (by decide +kernel))) (fun _ q9 => q9) dX3_enterFinally_40 b1 rfl ?_
    refine lv_iconst (v := 1) hx hb dX3_enterFinally_43 (by decide) ?_
    refine lv_iadd hx hb dX3_enterFinally_44 ?_
    obtain ⟨p4, hcp4, hf⟩ := hf_bind hf
    have hm5 : CS.hs σ ≤ CS.hs p4.2 := Mono.go hcp4 (m_X3_begin N (CS.setO (CS.setO (CS.setO (CS.setOt (CS.setO σ x1 0 3) x1 none) x1 5 (σ.i 73)) x1 6 (σ.i 74)) x1 7 (σ.i 75)) x1 ((CS.o (CS.setO (CS.setO (CS.setO (CS.setOt (CS.setO σ x1 0 3) x1 none) x1 5 (σ.i 73)) x1 6 (σ.i 74)) x1 7 (σ.i 75)) x1 1) + 1))
    have hr9 : CS.hs p4.2 ≤ CS.hs R.2 := Mono.go hf (mono_some (Nat.le_refl _))
    have hFc := cFree hC hA
    refine va_callv (va_runV (As := [.ref x1, .int ((CS.o (CS.setO (CS.setO (CS.setO (CS.setOt (CS.setO σ x1 0 3) x1 none) x1 5 (σ.i 73)) x1 6 (σ.i 74)) x1 7 (σ.i 75)) x1 1) + 1)]) (rest := []) ⟨hx, hb, hml, hown, hts⟩ (c_X3_begin l dC dI Q N (CS.setO (CS.setO (CS.setO (CS.setOt (CS.setO σ x1 0 3) x1 none) x1 5 (σ.i 73)) x1 6 (σ.i 74)) x1 7 (σ.i 75)) x1 ((CS.o (CS.setO (CS.setO (CS.setO (CS.setOt (CS.setO σ x1 0 3) x1 none) x1 5 (σ.i 73)) x1 6 (σ.i 74)) x1 7 (σ.i 75)) x1 1) + 1) p4 hcp4) (cwV 2 hts hX3_enterFinally_X3_begin_v261 rfl rfl rfl (by decide +kernel) ⟨(show 2 + 1 ≤ 3 by omega), (show 8 + (3 + 11) + 60 * 2 ≤ 60 * 3 by omega)⟩) ⟨zPre.blind, va_recv hK hC.1 (ci := 2) (q0 := 7) rfl rfl, cPre_go hZ hK hC⟩ rfl rfl hl.1 rfl (lv_room (Nat.le_of_ble_eq_true rfl)) dX3_enterFinally_45 (cAcc h0 hm5 hr9)) hC.2.2.1 (fun q _ h => hFc q h) hFc (fun u9 t9 H1 locs ht hvm hw hB hz1 hk1 hS => ?_)
    obtain ⟨⟨hP, hK1, hD1⟩, hsz1⟩ := hB
    rw [ht] at hP hsz1
    have hC : CP dC dI Q A s.heap p4.2 H1 locs := ⟨hP, hD1.weaken (fun _ _ _ h => hFc _ h), hS, hsz1⟩
    generalize H1 = H at hC ⊢
    have h7 : (CS.hs σ) ≤ CS.hs p4.2 := Nat.le_trans h0 hm5
    refine W.widen (k := CS.hs p4.2 - (CS.hs σ)) (n := 17 * (CS.hs p4.2 - (CS.hs σ))) (cAcc2 h0 hm5) (cAcc3 h0 hm5) ?_
    obtain rfl := Option.some.inj hf
    exact W.vret hx hb hr (fun t ht hW => ⟨⟨(), rfl, trivial, ⟨by rw [ht]; exact hC.1, va_K.moved hW.alike hK, hC.2.1⟩, by rw [ht]; exact hC.2.2.2⟩, hC.2.2.1.F ht⟩) hC.2.2.1.2.2 dX3_enterFinally_48
  ·
    refine W.eq (congrArg (fun v9 => F0 m 10 ls (va_rf v9 :: [.ref x1])) q2) ?_
    refine W.eq (g2 := F0 m 10 ls (.ref a3 :: [.ref x1])) rfl ?_
    refine pPN_X2_4 (v := (some a3)) hx hb hts i_X3_enterFinally_X2 hown hK hC (va_Nw.use rfl (hZ.1 (.fieldLinkNest RX3 204 "StatementRules2$Frame" "thrown" "LStatementRules2$Thrown;" "StatementRules2") (by decide +kernel))) (fun _ q9 => q9) dX3_enterFinally_10 b1 (fun H locs hC => ?_)
    refine lv_aload_n hx hb dX3_enterFinally_13 rfl (lv_at hl 1 rfl) ?_
    refine lv_aload_n hx hb dX3_enterFinally_14 rfl (lv_at hl 0 rfl) ?_
    refine cG_73 (v := (σ.i 73)) hx hb hts i_X3_enterFinally_X3 hown hK hC (hts (.fieldLink RX3 75 "StatementRules2$Machine" "way" "I") k_X3_enterFinally_fieldLink_RX3_75_SR_Machine_way_I) (fun _ q9 => q9) dX3_enterFinally_15 rfl ?_
    refine pPN_X2_5 (v := (σ.i 73)) hx hb hts i_X3_enterFinally_X2 hown hK hC (va_Nw.use rfl (hZ.1 (.fieldLinkNest RX3 246 "StatementRules2$Frame" "way" "I" "StatementRules2") (by decide +kernel))) (fun _ q9 => q9) dX3_enterFinally_18 b1 (fun H locs hC => ?_)
    refine lv_aload_n hx hb dX3_enterFinally_21 rfl (lv_at hl 1 rfl) ?_
    refine lv_aload_n hx hb dX3_enterFinally_22 rfl (lv_at hl 0 rfl) ?_
    refine cG_74 (v := (σ.i 74)) hx hb hts i_X3_enterFinally_X3 hown hK hC (hts (.fieldLink RX3 78 "StatementRules2$Machine" "wayValue" "I") k_X3_enterFinally_fieldLink_RX3_78_SR_Machine_wayValue_I) (fun _ q9 => q9) dX3_enterFinally_23 rfl ?_
    refine pPN_X2_6 (v := (σ.i 74)) hx hb hts i_X3_enterFinally_X2 hown hK hC (va_Nw.use rfl (hZ.1 (.fieldLinkNest RX3 247 "StatementRules2$Frame" "wayValue" "I" "StatementRules2") (by decide +kernel))) (fun _ q9 => q9) dX3_enterFinally_26 b1 (fun H locs hC => ?_)
    refine lv_aload_n hx hb dX3_enterFinally_29 rfl (lv_at hl 1 rfl) ?_
    refine lv_aload_n hx hb dX3_enterFinally_30 rfl (lv_at hl 0 rfl) ?_
    refine cG_75 (v := (σ.i 75)) hx hb hts i_X3_enterFinally_X3 hown hK hC (hts (.fieldLink RX3 235 "StatementRules2$Machine" "wayTarget" "I") k_X3_enterFinally_fieldLink_RX3_235_SR_Machine_wayTarget_I) (fun _ q9 => q9) dX3_enterFinally_31 rfl ?_
    refine pPN_X2_7 (v := (σ.i 75)) hx hb hts i_X3_enterFinally_X2 hown hK hC (va_Nw.use rfl (hZ.1 (.fieldLinkNest RX3 248 "StatementRules2$Frame" "wayTarget" "I" "StatementRules2") (by decide +kernel))) (fun _ q9 => q9) dX3_enterFinally_34 b1 (fun H locs hC => ?_)
    refine lv_aload_n hx hb dX3_enterFinally_37 rfl (lv_at hl 0 rfl) ?_
    refine lv_aload_n hx hb dX3_enterFinally_38 rfl (lv_at hl 1 rfl) ?_
    refine lv_aload_n hx hb dX3_enterFinally_39 rfl (lv_at hl 1 rfl) ?_
    refine pGN_X2_1 (v := (CS.o (CS.setO (CS.setO (CS.setO (CS.setOt (CS.setO σ x1 0 3) x1 (some a3)) x1 5 (σ.i 73)) x1 6 (σ.i 74)) x1 7 (σ.i 75)) x1 1)) hx hb hts i_X3_enterFinally_X2 hown hK hC (va_Nw.use rfl (hZ.1 (.fieldLinkNest RX3 197 "StatementRules2$Frame" "argument" "I" "StatementRules2") (by decide +kernel))) (fun _ q9 => q9) dX3_enterFinally_40 b1 rfl ?_
    refine lv_iconst (v := 1) hx hb dX3_enterFinally_43 (by decide) ?_
    refine lv_iadd hx hb dX3_enterFinally_44 ?_
    obtain ⟨p8, hcp8, hf⟩ := hf_bind hf
    have hm9 : CS.hs σ ≤ CS.hs p8.2 := Mono.go hcp8 (m_X3_begin N (CS.setO (CS.setO (CS.setO (CS.setOt (CS.setO σ x1 0 3) x1 (some a3)) x1 5 (σ.i 73)) x1 6 (σ.i 74)) x1 7 (σ.i 75)) x1 ((CS.o (CS.setO (CS.setO (CS.setO (CS.setOt (CS.setO σ x1 0 3) x1 (some a3)) x1 5 (σ.i 73)) x1 6 (σ.i 74)) x1 7 (σ.i 75)) x1 1) + 1))
    have hr9 : CS.hs p8.2 ≤ CS.hs R.2 := Mono.go hf (mono_some (Nat.le_refl _))
    have hFc := cFree hC hA
    refine va_callv (va_runV (As := [.ref x1, .int ((CS.o (CS.setO (CS.setO (CS.setO (CS.setOt (CS.setO σ x1 0 3) x1 (some a3)) x1 5 (σ.i 73)) x1 6 (σ.i 74)) x1 7 (σ.i 75)) x1 1) + 1)]) (rest := []) ⟨hx, hb, hml, hown, hts⟩ (c_X3_begin l dC dI Q N (CS.setO (CS.setO (CS.setO (CS.setOt (CS.setO σ x1 0 3) x1 (some a3)) x1 5 (σ.i 73)) x1 6 (σ.i 74)) x1 7 (σ.i 75)) x1 ((CS.o (CS.setO (CS.setO (CS.setO (CS.setOt (CS.setO σ x1 0 3) x1 (some a3)) x1 5 (σ.i 73)) x1 6 (σ.i 74)) x1 7 (σ.i 75)) x1 1) + 1) p8 hcp8) (cwV 2 hts hX3_enterFinally_X3_begin_v261 rfl rfl rfl (by decide +kernel) ⟨(show 2 + 1 ≤ 3 by omega), (show 8 + (3 + 11) + 60 * 2 ≤ 60 * 3 by omega)⟩) ⟨zPre.blind, va_recv hK hC.1 (ci := 2) (q0 := 7) rfl rfl, cPre_go hZ hK hC⟩ rfl rfl hl.1 rfl (lv_room (Nat.le_of_ble_eq_true rfl)) dX3_enterFinally_45 (cAcc h0 hm9 hr9)) hC.2.2.1 (fun q _ h => hFc q h) hFc (fun u9 t9 H1 locs ht hvm hw hB hz1 hk1 hS => ?_)
    obtain ⟨⟨hP, hK1, hD1⟩, hsz1⟩ := hB
    rw [ht] at hP hsz1
    have hC : CP dC dI Q A s.heap p8.2 H1 locs := ⟨hP, hD1.weaken (fun _ _ _ h => hFc _ h), hS, hsz1⟩
    generalize H1 = H at hC ⊢
    have h11 : (CS.hs σ) ≤ CS.hs p8.2 := Nat.le_trans h0 hm9
    refine W.widen (k := CS.hs p8.2 - (CS.hs σ)) (n := 17 * (CS.hs p8.2 - (CS.hs σ))) (cAcc2 h0 hm9) (cAcc3 h0 hm9) ?_
    obtain rfl := Option.some.inj hf
    exact W.vret hx hb hr (fun t ht hW => ⟨⟨(), rfl, trivial, ⟨by rw [ht]; exact hC.1, va_K.moved hW.alike hK, hC.2.1⟩, by rw [ht]; exact hC.2.2.2⟩, hC.2.2.1.F ht⟩) hC.2.2.1.2.2 dX3_enterFinally_48
