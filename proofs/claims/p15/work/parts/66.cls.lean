theorem k_X3_openOne_fieldLink_RX3_36_SR_Machine_told_LSR_Told : Cond.fieldLink RX3 36 "StatementRules2$Machine" "told" "LStatementRules2$Told;" ∈ wzX3_openOne := List.mem_cons_of_mem _ (List.mem_append_left _ (List.mem_of_getElem? (i := 0) rfl))
theorem i_X3_openOne_X3 : ∀ w ∈ wsX30, w ∈ wzX3_openOne := fun _ h => List.mem_cons_of_mem _ (List.mem_append_right _ (List.mem_append_left _ (h)))
theorem i_X3_openOne_X10 : ∀ w ∈ wsX100, w ∈ wzX3_openOne := fun _ h => List.mem_cons_of_mem _ (List.mem_append_right _ (List.mem_append_right _ (List.mem_append_left _ (h))))
theorem k_X3_openOne_initialized_RX11 : Cond.initialized RX11 ∈ wzX3_openOne := List.mem_cons_of_mem _ (List.mem_append_left _ (List.mem_of_getElem? (i := 1) rfl))
theorem k_X3_openOne_static_yX11_at : Cond.static yX11_at ∈ wzX3_openOne := List.mem_cons_of_mem _ (List.mem_append_left _ (List.mem_of_getElem? (i := 2) rfl))
theorem k_X3_openOne_fieldLink_RX3_30_SR_Machine_opened_I : Cond.fieldLink RX3 30 "StatementRules2$Machine" "opened" "[I" ∈ wzX3_openOne := List.mem_cons_of_mem _ (List.mem_append_left _ (List.mem_of_getElem? (i := 3) rfl))
theorem k_X3_openOne_fieldLink_RX3_63_SR_Machine_openedCount_I : Cond.fieldLink RX3 63 "StatementRules2$Machine" "openedCount" "I" ∈ wzX3_openOne := List.mem_cons_of_mem _ (List.mem_append_left _ (List.mem_of_getElem? (i := 4) rfl))
theorem k_X3_openOne_static_yX11_put : Cond.static yX11_put ∈ wzX3_openOne := List.mem_cons_of_mem _ (List.mem_append_left _ (List.mem_of_getElem? (i := 5) rfl))
set_option maxHeartbeats 4000000 in
set_option maxRecDepth 100000 in
theorem c_X3_openOne (l : Launch) (dC : Nat → ClassId) (dI : Nat → Nat → Nat) (Q : CQ) (N : Nat) (σ : CS) (x1 : Int32) (R : Unit × CS) (hf : f_X3_openOne N σ x1 = some R) : Met l yX3_openOne wzX3_openOne ({ frames := 4, cells := CS.hs R.2 - CS.hs σ, slots := 17 * (CS.hs R.2 - CS.hs σ), locals := 60 * 4 }) (va_Pc [.ref (Q.o 7), .int x1] (zPre dC dI (CS.hs σ) (cW Q σ) (cT Q))) (va_Qv (fun (_ : Unit) => True) (fun (_ : Unit) (t : State) => zPost dC dI (va_A (cW Q σ) (CS.hs σ)) (cW Q R.2) (cT Q) t ∧ t.heap.size = CS.hs R.2) (va_A (cW Q σ) (CS.hs σ))) (CS.hs R.2 - CS.hs σ) (17 * (CS.hs R.2 - CS.hs σ)) (va_A (cW Q σ) (CS.hs σ)) := by
  refine Met.ofW (cc := cX3_openOne) (maxL := 2) (ret := none) (by decide) rfl ?_
  intro p e s m args below meth c s₁ B hml hv
  obtain ⟨rfl, hsz, hZ, hP, hK, hD0⟩ := hv
  have hx := B.exec
  have hb := B.bytes
  have hr := B.returns
  have hts := atoms_spec (ws := wzX3_openOne) B.pre
  have hown : s.vm.findClass RX3 = some m.cls := findClass_of_methodNamed B.named
  have hlocks := B.notSynchronized
  have hD := hD0.self (sz := CS.hs σ)
  generalize hAe : va_A (cW Q σ) (CS.hs σ) = A at hD ⊢
  have hA : ∀ q : Nat, s.heap.size ≤ q → A q := fun q h => by rw [← hAe]; exact Or.inr (hsz ▸ h)
  have hC : CP dC dI Q A s.heap σ s.heap [] := ⟨hP, hD, va_S.rf, hsz⟩
  have h0 : CS.hs σ ≤ CS.hs σ := Nat.le_refl _
  have hl := lv_entry ([.ref (Q.o 7), .int x1]) (n := 2) (Nat.le_of_ble_eq_true rfl)
  rw [lg_entry_eq]
  generalize (lg_sl ([.ref (Q.o 7), .int x1]) ++ List.replicate (2 - (lg_sl ([.ref (Q.o 7), .int x1])).length) Slot.unset).toArray = ls at hl ⊢
  have hl : lv_has ls 2 [(0, .ref (Q.o 7)), (1, .int x1)] := hl
  unfold f_X3_openOne at hf
  refine W.widen (k := CS.hs σ - CS.hs σ) (n := 17 * (CS.hs σ - CS.hs σ)) (Nat.zero_le _) (Nat.zero_le _) ?_
  refine lv_aload_n hx hb dX3_openOne_0 rfl (lv_at hl 0 rfl) ?_
  refine cG_57 hx hb hts i_X3_openOne_X3 hown hK hC (hts (.fieldLink RX3 36 "StatementRules2$Machine" "told" "LStatementRules2$Told;") k_X3_openOne_fieldLink_RX3_36_SR_Machine_told_LSR_Told) (fun _ q9 => q9) dX3_openOne_1 ?_
  refine cGN_11 hx hb hts i_X3_openOne_X10 hown hK hC (va_Nw.use rfl (hZ.1 (.fieldLinkNest RX3 207 "StatementRules2$Told" "opening" "[I" "StatementRules2") (by decide +kernel))) (fun _ q9 => q9) dX3_openOne_4 ?_
  refine lv_iload_n hx hb dX3_openOne_7 rfl (lv_at hl 1 rfl) ?_
  have he9 := (show (cW Q σ)[11]? = some (Q.q 11, .inl (Q.c 0, 8, .inl (σ.a 11))) from rfl)
  have hFc := cFree1 hC hA he9
  have hr9 : CS.hs σ ≤ CS.hs R.2 := Mono.go hf (mono_ite (mono_ite (mono_bind (m_X3_note N σ 1 x1) (fun p5 => (mono_some (Nat.le_refl _)))) (mono_some (Nat.le_refl _))) (mono_bind (m_X3_raise N σ (gAt (σ.a 11) 8 x1) x1) (fun p10 => (mono_some (Nat.le_refl _)))))
  refine va_calli (va_runSN (As := [.ref (Q.q 11), .int x1]) (rest := []) ⟨hx, hb, hml, hown, hts⟩ (c_X11_at l dC dI _ (Q.q 11) (Q.c 0) 8 (σ.a 11) x1 (by decide)) ⟨va_cnB 2 hts hX3_openOne_X11_at_n111 rfl rfl rfl (hZ.1 (.methodLinkNest RX3 111 yX11_at "StatementRules2") (by decide +kernel)) (hts (.initialized RX11) k_X3_openOne_initialized_RX11) (by decide +kernel) ⟨(show 1 + 1 ≤ 4 by omega), (show 8 + (2 + 11) + 60 * 1 ≤ 60 * 4 by omega)⟩, (hts (.static yX11_at) k_X3_openOne_static_yX11_at), trivial⟩ ⟨zPre.blind, zPre.go hZ (cOne hC.1 he9) (hK.sub (tys' := [(Q.c 0, .int)]) [0] rfl) (cOneD hC.2.1 he9)⟩ rfl rfl hl.1 rfl (lv_room (Nat.le_of_ble_eq_true rfl)) dX3_openOne_8 ⟨cAcc4 h0 hr9, cAcc5 h0 hr9⟩) hC.2.2.1 (fun q _ h => hFc q h) hFc (fun r1 u9 t9 H1 locs ht hvm hw hB hz1 hk1 hS => ?_)
  obtain ⟨⟨hP1, hK1, hD1⟩, hsz1⟩ := hB
  rw [ht] at hP1 hsz1
  have hC := cBack (σ' := σ) hC he9 (cSelf he9) rfl hk1 hP1 hsz1 hS
  generalize H1 = H at hC ⊢
  obtain rfl : r1 = (gAt (σ.a 11) 8 x1) := hw
  refine lv_if_lt (tgt := 33) hx hb dX3_openOne_11 (by decide) (fun c2 => ?_) (fun c2 => ?_)
  ·
    replace hf := (if_pos c2).symm.trans hf
    refine lv_aload_n hx hb dX3_openOne_33 rfl (lv_at hl 0 rfl) ?_
    refine cG_57 hx hb hts i_X3_openOne_X3 hown hK hC (hts (.fieldLink RX3 36 "StatementRules2$Machine" "told" "LStatementRules2$Told;") k_X3_openOne_fieldLink_RX3_36_SR_Machine_told_LSR_Told) (fun _ q9 => q9) dX3_openOne_34 ?_
    refine cGN_10 hx hb hts i_X3_openOne_X10 hown hK hC (va_Nw.use rfl (hZ.1 (.fieldLinkNest RX3 210 "StatementRules2$Told" "isNull" "[I" "StatementRules2") (by decide +kernel))) (fun _ q9 => q9) dX3_openOne_37 ?_
    refine lv_iload_n hx hb dX3_openOne_40 rfl (lv_at hl 1 rfl) ?_
    have he9 := (show (cW Q σ)[10]? = some (Q.q 10, .inl (Q.c 0, 8, .inl (σ.a 10))) from rfl)
    have hFc := cFree1 hC hA he9
    have hr9 : CS.hs σ ≤ CS.hs R.2 := Mono.go hf (mono_ite (mono_bind (m_X3_note N σ 1 x1) (fun p5 => (mono_some (Nat.le_refl _)))) (mono_some (Nat.le_refl _)))
    refine va_calli (va_runSN (As := [.ref (Q.q 10), .int x1]) (rest := []) ⟨hx, hb, hml, hown, hts⟩ (c_X11_at l dC dI _ (Q.q 10) (Q.c 0) 8 (σ.a 10) x1 (by decide)) ⟨va_cnB 2 hts hX3_openOne_X11_at_n111 rfl rfl rfl (hZ.1 (.methodLinkNest RX3 111 yX11_at "StatementRules2") (by decide +kernel)) (hts (.initialized RX11) k_X3_openOne_initialized_RX11) (by decide +kernel) ⟨(show 1 + 1 ≤ 4 by omega), (show 8 + (2 + 11) + 60 * 1 ≤ 60 * 4 by omega)⟩, (hts (.static yX11_at) k_X3_openOne_static_yX11_at), trivial⟩ ⟨zPre.blind, zPre.go hZ (cOne hC.1 he9) (hK.sub (tys' := [(Q.c 0, .int)]) [0] rfl) (cOneD hC.2.1 he9)⟩ rfl rfl hl.1 rfl (lv_room (Nat.le_of_ble_eq_true rfl)) dX3_openOne_41 ⟨cAcc4 h0 hr9, cAcc5 h0 hr9⟩) hC.2.2.1 (fun q _ h => hFc q h) hFc (fun r3 u9 t9 H1 locs ht hvm hw hB hz1 hk1 hS => ?_)
    obtain ⟨⟨hP1, hK1, hD1⟩, hsz1⟩ := hB
    rw [ht] at hP1 hsz1
    have hC := cBack (σ' := σ) hC he9 (cSelf he9) rfl hk1 hP1 hsz1 hS
    generalize H1 = H at hC ⊢
    obtain rfl : r3 = (gAt (σ.a 10) 8 x1) := hw
    refine lv_if_ne (tgt := 75) hx hb dX3_openOne_44 (by decide) (fun c4 => ?_) (fun c4 => ?_)
    ·
      replace hf := (if_neg c4).symm.trans hf
      obtain rfl := Option.some.inj hf
      exact W.vret hx hb hr (fun t ht hW => ⟨⟨(), rfl, trivial, ⟨by rw [ht]; exact hC.1, va_K.moved hW.alike hK, hC.2.1⟩, by rw [ht]; exact hC.2.2.2⟩, hC.2.2.1.F ht⟩) hC.2.2.1.2.2 dX3_openOne_75
    ·
      replace hf := (if_pos c4).symm.trans hf
      refine lv_aload_n hx hb dX3_openOne_47 rfl (lv_at hl 0 rfl) ?_
      refine lv_iconst (v := 1) hx hb dX3_openOne_48 (by decide) ?_
      refine lv_iload_n hx hb dX3_openOne_49 rfl (lv_at hl 1 rfl) ?_
      obtain ⟨p5, hcp5, hf⟩ := hf_bind hf
      have hm6 : CS.hs σ ≤ CS.hs p5.2 := Mono.go hcp5 (m_X3_note N σ 1 x1)
      have hr9 : CS.hs p5.2 ≤ CS.hs R.2 := Mono.go hf (mono_some (Nat.le_refl _))
      have hFc := cFree hC hA
      refine va_callv (va_runV (As := [.int 1, .int x1]) (rest := []) ⟨hx, hb, hml, hown, hts⟩ (c_X3_note l dC dI Q N σ 1 x1 p5 hcp5) (cwV 2 hts hX3_openOne_X3_note_v178 rfl rfl rfl (by decide +kernel) ⟨(show 2 + 1 ≤ 4 by omega), (show 8 + (3 + 11) + 60 * 2 ≤ 60 * 4 by omega)⟩) ⟨zPre.blind, va_recv hK hC.1 (ci := 2) (q0 := 7) rfl rfl, cPre_go hZ hK hC⟩ rfl rfl hl.1 rfl (lv_room (Nat.le_of_ble_eq_true rfl)) dX3_openOne_50 (cAcc h0 hm6 hr9)) hC.2.2.1 (fun q _ h => hFc q h) hFc (fun u9 t9 H1 locs ht hvm hw hB hz1 hk1 hS => ?_)
      obtain ⟨⟨hP, hK1, hD1⟩, hsz1⟩ := hB
      rw [ht] at hP hsz1
      have hC : CP dC dI Q A s.heap p5.2 H1 locs := ⟨hP, hD1.weaken (fun _ _ _ h => hFc _ h), hS, hsz1⟩
      generalize H1 = H at hC ⊢
      have h8 : (CS.hs σ) ≤ CS.hs p5.2 := Nat.le_trans h0 hm6
      refine W.widen (k := CS.hs p5.2 - (CS.hs σ)) (n := 17 * (CS.hs p5.2 - (CS.hs σ))) (cAcc2 h0 hm6) (cAcc3 h0 hm6) ?_
      refine lv_aload_n hx hb dX3_openOne_53 rfl (lv_at hl 0 rfl) ?_
      refine cG_63 hx hb hts i_X3_openOne_X3 hown hK hC (hts (.fieldLink RX3 30 "StatementRules2$Machine" "opened" "[I") k_X3_openOne_fieldLink_RX3_30_SR_Machine_opened_I) (fun _ q9 => q9) dX3_openOne_54 ?_
      refine lv_aload_n hx hb dX3_openOne_57 rfl (lv_at hl 0 rfl) ?_
      refine cG_68 (v := (p5.2.i 68)) hx hb hts i_X3_openOne_X3 hown hK hC (hts (.fieldLink RX3 63 "StatementRules2$Machine" "openedCount" "I") k_X3_openOne_fieldLink_RX3_63_SR_Machine_openedCount_I) (fun _ q9 => q9) dX3_openOne_58 rfl ?_
      refine lv_iload_n hx hb dX3_openOne_61 rfl (lv_at hl 1 rfl) ?_
      have he9 := (show (cW Q p5.2)[28]? = some (Q.q 63, .inl (Q.c 0, 320, .inl (p5.2.a 63))) from rfl)
      have hFc := cFree1 hC hA he9
      have hr9 : CS.hs p5.2 ≤ CS.hs R.2 := Mono.go hf (mono_some (Nat.le_refl _))
      refine va_callv (va_runSN (As := [.ref (Q.q 63), .int (p5.2.i 68), .int x1]) (rest := []) ⟨hx, hb, hml, hown, hts⟩ (c_X11_put l dC dI _ (Q.q 63) (Q.c 0) 320 (p5.2.a 63) (p5.2.i 68) x1 (by decide)) ⟨va_cnB 3 hts hX3_openOne_X11_put_n50 rfl rfl rfl (hZ.1 (.methodLinkNest RX3 50 yX11_put "StatementRules2") (by decide +kernel)) (hts (.initialized RX11) k_X3_openOne_initialized_RX11) (by decide +kernel) ⟨(show 1 + 1 ≤ 4 by omega), (show 8 + (3 + 11) + 60 * 1 ≤ 60 * 4 by omega)⟩, (hts (.static yX11_put) k_X3_openOne_static_yX11_put), trivial⟩ ⟨zPre.blind, zPre.go hZ (cOne hC.1 he9) (hK.sub (tys' := [(Q.c 0, .int)]) [0] rfl) (cOneD hC.2.1 he9)⟩ rfl rfl hl.1 rfl (lv_room (Nat.le_of_ble_eq_true rfl)) dX3_openOne_62 ⟨cAcc4 h8 hr9, cAcc5 h8 hr9⟩) hC.2.2.1 (fun q _ h => hFc q h) hFc (fun u9 t9 H1 locs ht hvm hw hB hz1 hk1 hS => ?_)
      obtain ⟨⟨hP1, hK1, hD1⟩, hsz1⟩ := hB
      rw [ht] at hP1 hsz1
      have hC := cBack (σ' := CS.putA p5.2 63 (gPut (p5.2.a 63) 320 (p5.2.i 68) x1)) hC he9 rfl rfl hk1 hP1 hsz1 hS
      generalize H1 = H at hC ⊢
      refine lv_aload_n hx hb dX3_openOne_65 rfl (lv_at hl 0 rfl) ?_
      refine lv_dup hx hb dX3_openOne_66 rfl ?_
      refine cG_68 (v := (p5.2.i 68)) hx hb hts i_X3_openOne_X3 hown hK hC (hts (.fieldLink RX3 63 "StatementRules2$Machine" "openedCount" "I") k_X3_openOne_fieldLink_RX3_63_SR_Machine_openedCount_I) (fun _ q9 => q9) dX3_openOne_67 rfl ?_
      refine lv_iconst (v := 1) hx hb dX3_openOne_70 (by decide) ?_
      refine lv_iadd hx hb dX3_openOne_71 ?_
      refine cP_68 (v := ((p5.2.i 68) + 1)) hx hb hts i_X3_openOne_X3 hown hK hC (hts (.fieldLink RX3 63 "StatementRules2$Machine" "openedCount" "I") k_X3_openOne_fieldLink_RX3_63_SR_Machine_openedCount_I) (fun _ q9 => q9) dX3_openOne_72 (fun H locs hC => ?_)
      obtain rfl := Option.some.inj hf
      exact W.vret hx hb hr (fun t ht hW => ⟨⟨(), rfl, trivial, ⟨by rw [ht]; exact hC.1, va_K.moved hW.alike hK, hC.2.1⟩, by rw [ht]; exact hC.2.2.2⟩, hC.2.2.1.F ht⟩) hC.2.2.1.2.2 dX3_openOne_75
  ·
    replace hf := (if_neg c2).symm.trans hf
    refine lv_aload_n hx hb dX3_openOne_14 rfl (lv_at hl 0 rfl) ?_
    refine lv_aload_n hx hb dX3_openOne_15 rfl (lv_at hl 0 rfl) ?_
    refine cG_57 hx hb hts i_X3_openOne_X3 hown hK hC (hts (.fieldLink RX3 36 "StatementRules2$Machine" "told" "LStatementRules2$Told;") k_X3_openOne_fieldLink_RX3_36_SR_Machine_told_LSR_Told) (fun _ q9 => q9) dX3_openOne_16 ?_
    refine cGN_11 hx hb hts i_X3_openOne_X10 hown hK hC (va_Nw.use rfl (hZ.1 (.fieldLinkNest RX3 207 "StatementRules2$Told" "opening" "[I" "StatementRules2") (by decide +kernel))) (fun _ q9 => q9) dX3_openOne_19 ?_
    refine lv_iload_n hx hb dX3_openOne_22 rfl (lv_at hl 1 rfl) ?_
    have he9 := (show (cW Q σ)[11]? = some (Q.q 11, .inl (Q.c 0, 8, .inl (σ.a 11))) from rfl)
    have hFc := cFree1 hC hA he9
    have hr9 : CS.hs σ ≤ CS.hs R.2 := Mono.go hf (mono_bind (m_X3_raise N σ (gAt (σ.a 11) 8 x1) x1) (fun p10 => (mono_some (Nat.le_refl _))))
    refine va_calli (va_runSN (As := [.ref (Q.q 11), .int x1]) (rest := [.ref (Q.o 7)]) ⟨hx, hb, hml, hown, hts⟩ (c_X11_at l dC dI _ (Q.q 11) (Q.c 0) 8 (σ.a 11) x1 (by decide)) ⟨va_cnB 2 hts hX3_openOne_X11_at_n111 rfl rfl rfl (hZ.1 (.methodLinkNest RX3 111 yX11_at "StatementRules2") (by decide +kernel)) (hts (.initialized RX11) k_X3_openOne_initialized_RX11) (by decide +kernel) ⟨(show 1 + 1 ≤ 4 by omega), (show 8 + (2 + 11) + 60 * 1 ≤ 60 * 4 by omega)⟩, (hts (.static yX11_at) k_X3_openOne_static_yX11_at), trivial⟩ ⟨zPre.blind, zPre.go hZ (cOne hC.1 he9) (hK.sub (tys' := [(Q.c 0, .int)]) [0] rfl) (cOneD hC.2.1 he9)⟩ rfl rfl hl.1 rfl (lv_room (Nat.le_of_ble_eq_true rfl)) dX3_openOne_23 ⟨cAcc4 h0 hr9, cAcc5 h0 hr9⟩) hC.2.2.1 (fun q _ h => hFc q h) hFc (fun r9 u9 t9 H1 locs ht hvm hw hB hz1 hk1 hS => ?_)
    obtain ⟨⟨hP1, hK1, hD1⟩, hsz1⟩ := hB
    rw [ht] at hP1 hsz1
    have hC := cBack (σ' := σ) hC he9 (cSelf he9) rfl hk1 hP1 hsz1 hS
    generalize H1 = H at hC ⊢
    obtain rfl : r9 = (gAt (σ.a 11) 8 x1) := hw
    refine lv_iload_n hx hb dX3_openOne_26 rfl (lv_at hl 1 rfl) ?_
    obtain ⟨p10, hcp10, hf⟩ := hf_bind hf
    have hm11 : CS.hs σ ≤ CS.hs p10.2 := Mono.go hcp10 (m_X3_raise N σ (gAt (σ.a 11) 8 x1) x1)
    have hr9 : CS.hs p10.2 ≤ CS.hs R.2 := Mono.go hf (mono_some (Nat.le_refl _))
    have hFc := cFree hC hA
    refine va_callv (va_runV (As := [.int (gAt (σ.a 11) 8 x1), .int x1]) (rest := []) ⟨hx, hb, hml, hown, hts⟩ (c_X3_raise l dC dI Q N σ (gAt (σ.a 11) 8 x1) x1 p10 hcp10) (cwV 2 hts hX3_openOne_X3_raise_v150 rfl rfl rfl (by decide +kernel) ⟨(show 3 + 1 ≤ 4 by omega), (show 8 + (3 + 11) + 60 * 3 ≤ 60 * 4 by omega)⟩) ⟨zPre.blind, va_recv hK hC.1 (ci := 2) (q0 := 7) rfl rfl, cPre_go hZ hK hC⟩ rfl rfl hl.1 rfl (lv_room (Nat.le_of_ble_eq_true rfl)) dX3_openOne_27 (cAcc h0 hm11 hr9)) hC.2.2.1 (fun q _ h => hFc q h) hFc (fun u9 t9 H1 locs ht hvm hw hB hz1 hk1 hS => ?_)
    obtain ⟨⟨hP, hK1, hD1⟩, hsz1⟩ := hB
    rw [ht] at hP hsz1
    have hC : CP dC dI Q A s.heap p10.2 H1 locs := ⟨hP, hD1.weaken (fun _ _ _ h => hFc _ h), hS, hsz1⟩
    generalize H1 = H at hC ⊢
    have h13 : (CS.hs σ) ≤ CS.hs p10.2 := Nat.le_trans h0 hm11
    refine W.widen (k := CS.hs p10.2 - (CS.hs σ)) (n := 17 * (CS.hs p10.2 - (CS.hs σ))) (cAcc2 h0 hm11) (cAcc3 h0 hm11) ?_
    refine lv_goto (tgt := 75) hx hb dX3_openOne_30 (by decide) ?_
    obtain rfl := Option.some.inj hf
    exact W.vret hx hb hr (fun t ht hW => ⟨⟨(), rfl, trivial, ⟨by rw [ht]; exact hC.1, va_K.moved hW.alike hK, hC.2.1⟩, by rw [ht]; exact hC.2.2.2⟩, hC.2.2.1.F ht⟩) hC.2.2.1.2.2 dX3_openOne_75
theorem k_X3_act_fieldLink_RX3_72_SR_Machine_taken_I : Cond.fieldLink RX3 72 "StatementRules2$Machine" "taken" "I" ∈ wzX3_act := List.mem_cons_of_mem _ (List.mem_append_left _ (List.mem_of_getElem? (i := 0) rfl))
theorem i_X3_act_X3 : ∀ w ∈ wsX30, w ∈ wzX3_act := fun _ h => List.mem_cons_of_mem _ (List.mem_append_right _ (List.mem_append_left _ (h)))
theorem k_X3_act_fieldLink_RX3_85_SR_Machine_outcome_I : Cond.fieldLink RX3 85 "StatementRules2$Machine" "outcome" "I" ∈ wzX3_act := List.mem_cons_of_mem _ (List.mem_append_left _ (List.mem_of_getElem? (i := 1) rfl))
set_option maxHeartbeats 4000000 in
set_option maxRecDepth 100000 in
theorem c_X3_act (l : Launch) (dC : Nat → ClassId) (dI : Nat → Nat → Nat) (Q : CQ) (N : Nat) (σ : CS) (x1 : Int32) (x2 : Int32) (R : Unit × CS) (hf : f_X3_act N σ x1 x2 = some R) : Met l yX3_act wzX3_act ({ frames := 5, cells := CS.hs R.2 - CS.hs σ, slots := 17 * (CS.hs R.2 - CS.hs σ), locals := 60 * 5 }) (va_Pc [.ref (Q.o 7), .int x1, .int x2] (zPre dC dI (CS.hs σ) (cW Q σ) (cT Q))) (va_Qv (fun (_ : Unit) => True) (fun (_ : Unit) (t : State) => zPost dC dI (va_A (cW Q σ) (CS.hs σ)) (cW Q R.2) (cT Q) t ∧ t.heap.size = CS.hs R.2) (va_A (cW Q σ) (CS.hs σ))) (CS.hs R.2 - CS.hs σ) (17 * (CS.hs R.2 - CS.hs σ)) (va_A (cW Q σ) (CS.hs σ)) := by
  refine Met.ofW (cc := cX3_act) (maxL := 3) (ret := none) (by decide) rfl ?_
  intro p e s m args below meth c s₁ B hml hv
  obtain ⟨rfl, hsz, hZ, hP, hK, hD0⟩ := hv
  have hx := B.exec
  have hb := B.bytes
  have hr := B.returns
  have hts := atoms_spec (ws := wzX3_act) B.pre
  have hown : s.vm.findClass RX3 = some m.cls := findClass_of_methodNamed B.named
  have hlocks := B.notSynchronized
  have hD := hD0.self (sz := CS.hs σ)
  generalize hAe : va_A (cW Q σ) (CS.hs σ) = A at hD ⊢
  have hA : ∀ q : Nat, s.heap.size ≤ q → A q := fun q h => by rw [← hAe]; exact Or.inr (hsz ▸ h)
  have hC : CP dC dI Q A s.heap σ s.heap [] := ⟨hP, hD, va_S.rf, hsz⟩
  have h0 : CS.hs σ ≤ CS.hs σ := Nat.le_refl _
  have hl := lv_entry ([.ref (Q.o 7), .int x1, .int x2]) (n := 3) (Nat.le_of_ble_eq_true rfl)
  rw [lg_entry_eq]
  generalize (lg_sl ([.ref (Q.o 7), .int x1, .int x2]) ++ List.replicate (3 - (lg_sl ([.ref (Q.o 7), .int x1, .int x2])).length) Slot.unset).toArray = ls at hl ⊢
  have hl : lv_has ls 3 [(0, .ref (Q.o 7)), (1, .int x1), (2, .int x2)] := hl
  unfold f_X3_act at hf
  refine W.widen (k := CS.hs σ - CS.hs σ) (n := 17 * (CS.hs σ - CS.hs σ)) (Nat.zero_le _) (Nat.zero_le _) ?_
  refine lv_iload_n hx hb dX3_act_0 rfl (lv_at hl 1 rfl) ?_
  by_cases c1 : x1 = 51
  ·
    replace hf := (if_pos c1).symm.trans hf
    refine lv_tableIn (off := 35) (tgt := 36) hx hb dX3_act_1 (by rw [c1]; decide) (by rw [c1]; decide) (by rw [c1]; decide) (by decide) ?_
    refine lv_aload_n hx hb dX3_act_36 rfl (lv_at hl 0 rfl) ?_
    obtain ⟨p2, hcp2, hf⟩ := hf_bind hf
    have hm3 : CS.hs σ ≤ CS.hs p2.2 := Mono.go hcp2 (m_X3_step N σ)
    have hr9 : CS.hs p2.2 ≤ CS.hs R.2 := Mono.go hf (mono_some (Nat.le_refl _))
    have hFc := cFree hC hA
    refine va_callv (va_runV (As := []) (rest := []) ⟨hx, hb, hml, hown, hts⟩ (c_X3_step l dC dI Q N σ p2 hcp2) (cwV 0 hts hX3_act_X3_step_v175 rfl rfl rfl (by decide +kernel) ⟨(show 1 + 1 ≤ 5 by omega), (show 8 + (1 + 11) + 60 * 1 ≤ 60 * 5 by omega)⟩) ⟨zPre.blind, va_recv hK hC.1 (ci := 2) (q0 := 7) rfl rfl, cPre_go hZ hK hC⟩ rfl rfl hl.1 rfl (lv_room (Nat.le_of_ble_eq_true rfl)) dX3_act_37 (cAcc h0 hm3 hr9)) hC.2.2.1 (fun q _ h => hFc q h) hFc (fun u9 t9 H1 locs ht hvm hw hB hz1 hk1 hS => ?_)
    obtain ⟨⟨hP, hK1, hD1⟩, hsz1⟩ := hB
    rw [ht] at hP hsz1
    have hC : CP dC dI Q A s.heap p2.2 H1 locs := ⟨hP, hD1.weaken (fun _ _ _ h => hFc _ h), hS, hsz1⟩
    generalize H1 = H at hC ⊢
    have h5 : (CS.hs σ) ≤ CS.hs p2.2 := Nat.le_trans h0 hm3
    refine W.widen (k := CS.hs p2.2 - (CS.hs σ)) (n := 17 * (CS.hs p2.2 - (CS.hs σ))) (cAcc2 h0 hm3) (cAcc3 h0 hm3) ?_
    refine lv_goto (tgt := 102) hx hb dX3_act_40 (by decide) ?_
    obtain rfl := Option.some.inj hf
    exact W.vret hx hb hr (fun t ht hW => ⟨⟨(), rfl, trivial, ⟨by rw [ht]; exact hC.1, va_K.moved hW.alike hK, hC.2.1⟩, by rw [ht]; exact hC.2.2.2⟩, hC.2.2.1.F ht⟩) hC.2.2.1.2.2 dX3_act_102
  replace hf := (if_neg c1).symm.trans hf
  by_cases c6 : x1 = 52
  ·
    replace hf := (if_pos c6).symm.trans hf
    refine lv_tableIn (off := 42) (tgt := 43) hx hb dX3_act_1 (by rw [c6]; decide) (by rw [c6]; decide) (by rw [c6]; decide) (by decide) ?_
    refine lv_aload_n hx hb dX3_act_43 rfl (lv_at hl 0 rfl) ?_
    refine lv_iconst (v := 0) hx hb dX3_act_44 (by decide) ?_
    refine lv_aload_n hx hb dX3_act_45 rfl (lv_at hl 0 rfl) ?_
    obtain ⟨p7, hcp7, hf⟩ := hf_bind hf
    have hm8 : CS.hs σ ≤ CS.hs p7.2 := Mono.go hcp7 (m_X3_pop N σ)
    have hr9 : CS.hs p7.2 ≤ CS.hs R.2 := Mono.go hf (mono_bind (m_X3_note N p7.2 0 p7.1) (fun p11 => (mono_some (Nat.le_refl _))))
    have hFc := cFree hC hA
    refine va_calli (va_runV (As := []) (rest := [.int 0, .ref (Q.o 7)]) ⟨hx, hb, hml, hown, hts⟩ (c_X3_pop l dC dI Q N σ p7 hcp7) (cwV 0 hts hX3_act_X3_pop_v138 rfl rfl rfl (by decide +kernel) ⟨(show 2 + 1 ≤ 5 by omega), (show 8 + (1 + 11) + 60 * 2 ≤ 60 * 5 by omega)⟩) ⟨zPre.blind, va_recv hK hC.1 (ci := 2) (q0 := 7) rfl rfl, cPre_go hZ hK hC⟩ rfl rfl hl.1 rfl (lv_room (Nat.le_of_ble_eq_true rfl)) dX3_act_46 (cAcc h0 hm8 hr9)) hC.2.2.1 (fun q _ h => hFc q h) hFc (fun r9 u9 t9 H1 locs ht hvm hw hB hz1 hk1 hS => ?_)
    obtain ⟨⟨hP, hK1, hD1⟩, hsz1⟩ := hB
    rw [ht] at hP hsz1
    have hC : CP dC dI Q A s.heap p7.2 H1 locs := ⟨hP, hD1.weaken (fun _ _ _ h => hFc _ h), hS, hsz1⟩
    generalize H1 = H at hC ⊢
    have h10 : (CS.hs σ) ≤ CS.hs p7.2 := Nat.le_trans h0 hm8
    refine W.widen (k := CS.hs p7.2 - (CS.hs σ)) (n := 17 * (CS.hs p7.2 - (CS.hs σ))) (cAcc2 h0 hm8) (cAcc3 h0 hm8) ?_
    obtain rfl : r9 = p7.1 := hw
    obtain ⟨p11, hcp11, hf⟩ := hf_bind hf
    have hm12 : CS.hs p7.2 ≤ CS.hs p11.2 := Mono.go hcp11 (m_X3_note N p7.2 0 p7.1)
    have hr9 : CS.hs p11.2 ≤ CS.hs R.2 := Mono.go hf (mono_some (Nat.le_refl _))
    have hFc := cFree hC hA
    refine va_callv (va_runV (As := [.int 0, .int p7.1]) (rest := []) ⟨hx, hb, hml, hown, hts⟩ (c_X3_note l dC dI Q N p7.2 0 p7.1 p11 hcp11) (cwV 2 hts hX3_act_X3_note_v178 rfl rfl rfl (by decide +kernel) ⟨(show 2 + 1 ≤ 5 by omega), (show 8 + (3 + 11) + 60 * 2 ≤ 60 * 5 by omega)⟩) ⟨zPre.blind, va_recv hK hC.1 (ci := 2) (q0 := 7) rfl rfl, cPre_go hZ hK hC⟩ rfl rfl hl.1 rfl (lv_room (Nat.le_of_ble_eq_true rfl)) dX3_act_49 (cAcc h10 hm12 hr9)) hC.2.2.1 (fun q _ h => hFc q h) hFc (fun u9 t9 H1 locs ht hvm hw hB hz1 hk1 hS => ?_)
    obtain ⟨⟨hP, hK1, hD1⟩, hsz1⟩ := hB
    rw [ht] at hP hsz1
    have hC : CP dC dI Q A s.heap p11.2 H1 locs := ⟨hP, hD1.weaken (fun _ _ _ h => hFc _ h), hS, hsz1⟩
    generalize H1 = H at hC ⊢
    have h14 : (CS.hs σ) ≤ CS.hs p11.2 := Nat.le_trans h10 hm12
    refine W.widen (k := CS.hs p11.2 - (CS.hs σ)) (n := 17 * (CS.hs p11.2 - (CS.hs σ))) (cAcc2 h10 hm12) (cAcc3 h10 hm12) ?_
    refine lv_goto (tgt := 102) hx hb dX3_act_52 (by decide) ?_
    obtain rfl := Option.some.inj hf
    exact W.vret hx hb hr (fun t ht hW => ⟨⟨(), rfl, trivial, ⟨by rw [ht]; exact hC.1, va_K.moved hW.alike hK, hC.2.1⟩, by rw [ht]; exact hC.2.2.2⟩, hC.2.2.1.F ht⟩) hC.2.2.1.2.2 dX3_act_102
  replace hf := (if_neg c6).symm.trans hf
  by_cases c15 : x1 = 53
  ·
    replace hf := (if_pos c15).symm.trans hf
    refine lv_tableIn (off := 54) (tgt := 55) hx hb dX3_act_1 (by rw [c15]; decide) (by rw [c15]; decide) (by rw [c15]; decide) (by decide) ?_
    refine lv_aload_n hx hb dX3_act_55 rfl (lv_at hl 0 rfl) ?_
    refine lv_iconst (v := 0) hx hb dX3_act_56 (by decide) ?_
    refine lv_iload_n hx hb dX3_act_57 rfl (lv_at hl 2 rfl) ?_
    obtain ⟨p16, hcp16, hf⟩ := hf_bind hf
    have hm17 : CS.hs σ ≤ CS.hs p16.2 := Mono.go hcp16 (m_X3_enter N σ 0 x2)
    have hr9 : CS.hs p16.2 ≤ CS.hs R.2 := Mono.go hf (mono_bind (m_X3_note N (CS.setI p16.2 71 ((p16.2.i 71) + 1)) 3 x2) (fun p20 => (mono_some (Nat.le_refl _))))
    have hFc := cFree hC hA
    refine va_callv (va_runV (As := [.int 0, .int x2]) (rest := []) ⟨hx, hb, hml, hown, hts⟩ (c_X3_enter l dC dI Q N σ 0 x2 p16 hcp16) (cwV 2 hts hX3_act_X3_enter_v181 rfl rfl rfl (by decide +kernel) ⟨(show 2 + 1 ≤ 5 by omega), (show 8 + (5 + 11) + 60 * 2 ≤ 60 * 5 by omega)⟩) ⟨zPre.blind, va_recv hK hC.1 (ci := 2) (q0 := 7) rfl rfl, cPre_go hZ hK hC⟩ rfl rfl hl.1 rfl (lv_room (Nat.le_of_ble_eq_true rfl)) dX3_act_58 (cAcc h0 hm17 hr9)) hC.2.2.1 (fun q _ h => hFc q h) hFc (fun u9 t9 H1 locs ht hvm hw hB hz1 hk1 hS => ?_)
    obtain ⟨⟨hP, hK1, hD1⟩, hsz1⟩ := hB
    rw [ht] at hP hsz1
    have hC : CP dC dI Q A s.heap p16.2 H1 locs := ⟨hP, hD1.weaken (fun _ _ _ h => hFc _ h), hS, hsz1⟩
    generalize H1 = H at hC ⊢
    have h19 : (CS.hs σ) ≤ CS.hs p16.2 := Nat.le_trans h0 hm17
    refine W.widen (k := CS.hs p16.2 - (CS.hs σ)) (n := 17 * (CS.hs p16.2 - (CS.hs σ))) (cAcc2 h0 hm17) (cAcc3 h0 hm17) ?_
    refine lv_aload_n hx hb dX3_act_61 rfl (lv_at hl 0 rfl) ?_
    refine lv_dup hx hb dX3_act_62 rfl ?_
    refine cG_71 (v := (p16.2.i 71)) hx hb hts i_X3_act_X3 hown hK hC (hts (.fieldLink RX3 72 "StatementRules2$Machine" "taken" "I") k_X3_act_fieldLink_RX3_72_SR_Machine_taken_I) (fun _ q9 => q9) dX3_act_63 rfl ?_
    refine lv_iconst (v := 1) hx hb dX3_act_66 (by decide) ?_
    refine lv_iadd hx hb dX3_act_67 ?_
    refine cP_71 (v := ((p16.2.i 71) + 1)) hx hb hts i_X3_act_X3 hown hK hC (hts (.fieldLink RX3 72 "StatementRules2$Machine" "taken" "I") k_X3_act_fieldLink_RX3_72_SR_Machine_taken_I) (fun _ q9 => q9) dX3_act_68 (fun H locs hC => ?_)
    refine lv_aload_n hx hb dX3_act_71 rfl (lv_at hl 0 rfl) ?_
    refine lv_iconst (v := 3) hx hb dX3_act_72 (by decide) ?_
    refine lv_iload_n hx hb dX3_act_73 rfl (lv_at hl 2 rfl) ?_
    obtain ⟨p20, hcp20, hf⟩ := hf_bind hf
    have hm21 : CS.hs p16.2 ≤ CS.hs p20.2 := Mono.go hcp20 (m_X3_note N (CS.setI p16.2 71 ((p16.2.i 71) + 1)) 3 x2)
    have hr9 : CS.hs p20.2 ≤ CS.hs R.2 := Mono.go hf (mono_some (Nat.le_refl _))
    have hFc := cFree hC hA
    refine va_callv (va_runV (As := [.int 3, .int x2]) (rest := []) ⟨hx, hb, hml, hown, hts⟩ (c_X3_note l dC dI Q N (CS.setI p16.2 71 ((p16.2.i 71) + 1)) 3 x2 p20 hcp20) (cwV 2 hts hX3_act_X3_note_v178 rfl rfl rfl (by decide +kernel) ⟨(show 2 + 1 ≤ 5 by omega), (show 8 + (3 + 11) + 60 * 2 ≤ 60 * 5 by omega)⟩) ⟨zPre.blind, va_recv hK hC.1 (ci := 2) (q0 := 7) rfl rfl, cPre_go hZ hK hC⟩ rfl rfl hl.1 rfl (lv_room (Nat.le_of_ble_eq_true rfl)) dX3_act_74 (cAcc h19 hm21 hr9)) hC.2.2.1 (fun q _ h => hFc q h) hFc (fun u9 t9 H1 locs ht hvm hw hB hz1 hk1 hS => ?_)
    obtain ⟨⟨hP, hK1, hD1⟩, hsz1⟩ := hB
    rw [ht] at hP hsz1
    have hC : CP dC dI Q A s.heap p20.2 H1 locs := ⟨hP, hD1.weaken (fun _ _ _ h => hFc _ h), hS, hsz1⟩
    generalize H1 = H at hC ⊢
    have h23 : (CS.hs σ) ≤ CS.hs p20.2 := Nat.le_trans h19 hm21
    refine W.widen (k := CS.hs p20.2 - (CS.hs σ)) (n := 17 * (CS.hs p20.2 - (CS.hs σ))) (cAcc2 h19 hm21) (cAcc3 h19 hm21) ?_
    refine lv_goto (tgt := 102) hx hb dX3_act_77 (by decide) ?_
    obtain rfl := Option.some.inj hf
    exact W.vret hx hb hr (fun t ht hW => ⟨⟨(), rfl, trivial, ⟨by rw [ht]; exact hC.1, va_K.moved hW.alike hK, hC.2.1⟩, by rw [ht]; exact hC.2.2.2⟩, hC.2.2.1.F ht⟩) hC.2.2.1.2.2 dX3_act_102
  replace hf := (if_neg c15).symm.trans hf
  by_cases c24 : x1 = 54
  ·
    replace hf := (if_pos c24).symm.trans hf
    refine lv_tableIn (off := 79) (tgt := 80) hx hb dX3_act_1 (by rw [c24]; decide) (by rw [c24]; decide) (by rw [c24]; decide) (by decide) ?_
    refine lv_aload_n hx hb dX3_act_80 rfl (lv_at hl 0 rfl) ?_
    refine lv_iconst (v := 1) hx hb dX3_act_81 (by decide) ?_
    refine lv_iload_n hx hb dX3_act_82 rfl (lv_at hl 2 rfl) ?_
    obtain ⟨p25, hcp25, hf⟩ := hf_bind hf
    have hm26 : CS.hs σ ≤ CS.hs p25.2 := Mono.go hcp25 (m_X3_enter N σ 1 x2)
    have hr9 : CS.hs p25.2 ≤ CS.hs R.2 := Mono.go hf (mono_some (Nat.le_refl _))
    have hFc := cFree hC hA
    refine va_callv (va_runV (As := [.int 1, .int x2]) (rest := []) ⟨hx, hb, hml, hown, hts⟩ (c_X3_enter l dC dI Q N σ 1 x2 p25 hcp25) (cwV 2 hts hX3_act_X3_enter_v181 rfl rfl rfl (by decide +kernel) ⟨(show 2 + 1 ≤ 5 by omega), (show 8 + (5 + 11) + 60 * 2 ≤ 60 * 5 by omega)⟩) ⟨zPre.blind, va_recv hK hC.1 (ci := 2) (q0 := 7) rfl rfl, cPre_go hZ hK hC⟩ rfl rfl hl.1 rfl (lv_room (Nat.le_of_ble_eq_true rfl)) dX3_act_83 (cAcc h0 hm26 hr9)) hC.2.2.1 (fun q _ h => hFc q h) hFc (fun u9 t9 H1 locs ht hvm hw hB hz1 hk1 hS => ?_)
    obtain ⟨⟨hP, hK1, hD1⟩, hsz1⟩ := hB
    rw [ht] at hP hsz1
    have hC : CP dC dI Q A s.heap p25.2 H1 locs := ⟨hP, hD1.weaken (fun _ _ _ h => hFc _ h), hS, hsz1⟩
    generalize H1 = H at hC ⊢
    have h28 : (CS.hs σ) ≤ CS.hs p25.2 := Nat.le_trans h0 hm26
    refine W.widen (k := CS.hs p25.2 - (CS.hs σ)) (n := 17 * (CS.hs p25.2 - (CS.hs σ))) (cAcc2 h0 hm26) (cAcc3 h0 hm26) ?_
    refine lv_goto (tgt := 102) hx hb dX3_act_86 (by decide) ?_
    obtain rfl := Option.some.inj hf
    exact W.vret hx hb hr (fun t ht hW => ⟨⟨(), rfl, trivial, ⟨by rw [ht]; exact hC.1, va_K.moved hW.alike hK, hC.2.1⟩, by rw [ht]; exact hC.2.2.2⟩, hC.2.2.1.F ht⟩) hC.2.2.1.2.2 dX3_act_102
  replace hf := (if_neg c24).symm.trans hf
  by_cases c29 : x1 = 55
  ·
    replace hf := (if_pos c29).symm.trans hf
    refine lv_tableIn (off := 88) (tgt := 89) hx hb dX3_act_1 (by rw [c29]; decide) (by rw [c29]; decide) (by rw [c29]; decide) (by decide) ?_
    refine lv_aload_n hx hb dX3_act_89 rfl (lv_at hl 0 rfl) ?_
    refine lv_iload_n hx hb dX3_act_90 rfl (lv_at hl 2 rfl) ?_
    obtain ⟨p30, hcp30, hf⟩ := hf_bind hf
    have hm31 : CS.hs σ ≤ CS.hs p30.2 := Mono.go hcp30 (m_X3_openOne N σ x2)
    have hr9 : CS.hs p30.2 ≤ CS.hs R.2 := Mono.go hf (mono_some (Nat.le_refl _))
    have hFc := cFree hC hA
    refine va_callv (va_runV (As := [.int x2]) (rest := []) ⟨hx, hb, hml, hown, hts⟩ (c_X3_openOne l dC dI Q N σ x2 p30 hcp30) (cwV 1 hts hX3_act_X3_openOne_v184 rfl rfl rfl (by decide +kernel) ⟨(show 4 + 1 ≤ 5 by omega), (show 8 + (2 + 11) + 60 * 4 ≤ 60 * 5 by omega)⟩) ⟨zPre.blind, va_recv hK hC.1 (ci := 2) (q0 := 7) rfl rfl, cPre_go hZ hK hC⟩ rfl rfl hl.1 rfl (lv_room (Nat.le_of_ble_eq_true rfl)) dX3_act_91 (cAcc h0 hm31 hr9)) hC.2.2.1 (fun q _ h => hFc q h) hFc (fun u9 t9 H1 locs ht hvm hw hB hz1 hk1 hS => ?_)
    obtain ⟨⟨hP, hK1, hD1⟩, hsz1⟩ := hB
    rw [ht] at hP hsz1
    have hC : CP dC dI Q A s.heap p30.2 H1 locs := ⟨hP, hD1.weaken (fun _ _ _ h => hFc _ h), hS, hsz1⟩
    generalize H1 = H at hC ⊢
    have h33 : (CS.hs σ) ≤ CS.hs p30.2 := Nat.le_trans h0 hm31
    refine W.widen (k := CS.hs p30.2 - (CS.hs σ)) (n := 17 * (CS.hs p30.2 - (CS.hs σ))) (cAcc2 h0 hm31) (cAcc3 h0 hm31) ?_
    refine lv_goto (tgt := 102) hx hb dX3_act_94 (by decide) ?_
    obtain rfl := Option.some.inj hf
    exact W.vret hx hb hr (fun t ht hW => ⟨⟨(), rfl, trivial, ⟨by rw [ht]; exact hC.1, va_K.moved hW.alike hK, hC.2.1⟩, by rw [ht]; exact hC.2.2.2⟩, hC.2.2.1.F ht⟩) hC.2.2.1.2.2 dX3_act_102
  replace hf := (if_neg c29).symm.trans hf
  refine lv_tableOut (tgt := 97) hx hb dX3_act_1 (by have := z_ton (a := 51) c1 (by decide); have := z_ton (a := 52) c6 (by decide); have := z_ton (a := 53) c15 (by decide); have := z_ton (a := 54) c24 (by decide); have := z_ton (a := 55) c29 (by decide); omega) (by decide) ?_
  refine lv_aload_n hx hb dX3_act_97 rfl (lv_at hl 0 rfl) ?_
  refine lv_iconst (v := 0) hx hb dX3_act_98 (by decide) ?_
  refine cP_72 (v := 0) hx hb hts i_X3_act_X3 hown hK hC (hts (.fieldLink RX3 85 "StatementRules2$Machine" "outcome" "I") k_X3_act_fieldLink_RX3_85_SR_Machine_outcome_I) (fun _ q9 => q9) dX3_act_99 (fun H locs hC => ?_)
  obtain rfl := Option.some.inj hf
  exact W.vret hx hb hr (fun t ht hW => ⟨⟨(), rfl, trivial, ⟨by rw [ht]; exact hC.1, va_K.moved hW.alike hK, hC.2.1⟩, by rw [ht]; exact hC.2.2.2⟩, hC.2.2.1.F ht⟩) hC.2.2.1.2.2 dX3_act_102
theorem k_X3_frame_fieldLink_RX3_60_SR_Machine_depth_I : Cond.fieldLink RX3 60 "StatementRules2$Machine" "depth" "I" ∈ wzX3_frame := List.mem_cons_of_mem _ (List.mem_append_left _ (List.mem_of_getElem? (i := 0) rfl))
theorem i_X3_frame_X3 : ∀ w ∈ wsX30, w ∈ wzX3_frame := fun _ h => List.mem_cons_of_mem _ (List.mem_append_right _ (List.mem_append_left _ (h)))
theorem k_X3_frame_fieldLink_RX3_20_SR_Machine_frames_LSR_Frame : Cond.fieldLink RX3 20 "StatementRules2$Machine" "frames" "[LStatementRules2$Frame;" ∈ wzX3_frame := List.mem_cons_of_mem _ (List.mem_append_left _ (List.mem_of_getElem? (i := 1) rfl))
set_option maxHeartbeats 4000000 in
set_option maxRecDepth 100000 in
theorem j_X3_frame_30 {p : Program} {e : Env} {s : State} {m : MethodId} {args : Array Value} {below : List Frame} {meth : Method} {c : Code} {A : Nat → Prop} (l : Launch) (dC : Nat → ClassId) (dI : Nat → Nat → Nat) (Q : CQ) (N : Nat) (z9h : Nat) (R : Option Nat × CS) (hx : p.tables.exec = Jvm.exec) (hb : c.code = cX3_frame) (hr : meth.sig.returnType = (some (.object "StatementRules2$Frame"))) (hml : c.maxLocals = 2) (hown : s.vm.findClass RX3 = some m.cls) (hts : ∀ w ∈ wzX3_frame, w.before args s = true) (hlocks : meth.locks = false) (hZ : zAMB s) (hA : ∀ q : Nat, s.heap.size ≤ q → A q) (hK : va_K (dC, dI) vwCl (cT Q) s) : ∀ (σ : CS) (H : Heap) (locs : List Loc) (ls : Array Slot), f_X3_frame_30 N σ = some R → z9h ≤ CS.hs σ → CP dC dI Q A s.heap σ H locs → lv_has ls 2 [] → W p l e ({ frames := 1, cells := CS.hs R.2 - z9h, slots := 17 * (CS.hs R.2 - z9h), locals := 60 * 1 }) s m args below meth c H locs (CS.hs σ - z9h) (17 * (CS.hs σ - z9h)) (MQ below (va_Qq (fun (r : Option Nat) (_ : Unit) => r = R.1) (fun (_ : Unit) (t : State) => zPost dC dI A (cW Q R.2) (cT Q) t ∧ t.heap.size = CS.hs R.2) A) args s (CS.hs R.2 - z9h) (17 * (CS.hs R.2 - z9h)) A) (F0 m 30 ls []) := by
  intro σ  H locs ls hf h0 hC hl
  unfold f_X3_frame_30 at hf
  refine lv_null hx hb dX3_frame_30 ?_
  obtain rfl := Option.some.inj hf
  exact W.aret (v := .null) hx hb hr (Or.inl ⟨_, rfl⟩) (Or.inl rfl) (fun t ht hW => ⟨⟨none, (), rfl, rfl, ⟨by rw [ht]; exact hC.1, va_K.moved hW.alike hK, hC.2.1⟩, by rw [ht]; exact hC.2.2.2⟩, hC.2.2.1.F ht⟩) hC.2.2.1.2.2 dX3_frame_31
set_option maxHeartbeats 4000000 in
set_option maxRecDepth 100000 in
theorem c_X3_frame (l : Launch) (dC : Nat → ClassId) (dI : Nat → Nat → Nat) (Q : CQ) (N : Nat) (σ : CS) (x1 : Int32) (R : Option Nat × CS) (hf : f_X3_frame N σ x1 = some R) : Met l yX3_frame wzX3_frame ({ frames := 1, cells := CS.hs R.2 - CS.hs σ, slots := 17 * (CS.hs R.2 - CS.hs σ), locals := 60 * 1 }) (va_Pc [.ref (Q.o 7), .int x1] (zPre dC dI (CS.hs σ) (cW Q σ) (cT Q))) (va_Qq (fun (r : Option Nat) (_ : Unit) => r = R.1) (fun (_ : Unit) (t : State) => zPost dC dI (va_A (cW Q σ) (CS.hs σ)) (cW Q R.2) (cT Q) t ∧ t.heap.size = CS.hs R.2) (va_A (cW Q σ) (CS.hs σ))) (CS.hs R.2 - CS.hs σ) (17 * (CS.hs R.2 - CS.hs σ)) (va_A (cW Q σ) (CS.hs σ)) := by
  refine Met.ofW (cc := cX3_frame) (maxL := 2) (ret := (some (.object "StatementRules2$Frame"))) (by decide) rfl ?_
  intro p e s m args below meth c s₁ B hml hv
  obtain ⟨rfl, hsz, hZ, hP, hK, hD0⟩ := hv
  have hx := B.exec
  have hb := B.bytes
  have hr := B.returns
  have hts := atoms_spec (ws := wzX3_frame) B.pre
  have hown : s.vm.findClass RX3 = some m.cls := findClass_of_methodNamed B.named
  have hlocks := B.notSynchronized
  have hD := hD0.self (sz := CS.hs σ)
  generalize hAe : va_A (cW Q σ) (CS.hs σ) = A at hD ⊢
  have hA : ∀ q : Nat, s.heap.size ≤ q → A q := fun q h => by rw [← hAe]; exact Or.inr (hsz ▸ h)
  have hC : CP dC dI Q A s.heap σ s.heap [] := ⟨hP, hD, va_S.rf, hsz⟩
  have h0 : CS.hs σ ≤ CS.hs σ := Nat.le_refl _
  have hl := lv_entry ([.ref (Q.o 7), .int x1]) (n := 2) (Nat.le_of_ble_eq_true rfl)
  rw [lg_entry_eq]
  generalize (lg_sl ([.ref (Q.o 7), .int x1]) ++ List.replicate (2 - (lg_sl ([.ref (Q.o 7), .int x1])).length) Slot.unset).toArray = ls at hl ⊢
  have hl : lv_has ls 2 [(0, .ref (Q.o 7)), (1, .int x1)] := hl
  unfold f_X3_frame at hf
  refine W.widen (k := CS.hs σ - CS.hs σ) (n := 17 * (CS.hs σ - CS.hs σ)) (Nat.zero_le _) (Nat.zero_le _) ?_
  refine lv_iload_n hx hb dX3_frame_0 rfl (lv_at hl 1 rfl) ?_
  refine lv_if_lt (tgt := 30) hx hb dX3_frame_1 (by decide) (fun c1 => ?_) (fun c1 => ?_)
  ·
    replace hf := (if_pos c1).symm.trans hf
    exact j_X3_frame_30 l dC dI Q N (CS.hs σ) R hx hb hr hml hown hts hlocks hZ hA hK σ _ _ _ hf h0 hC (lv_sub hl [] rfl)
  ·
    replace hf := (if_neg c1).symm.trans hf
    refine lv_iload_n hx hb dX3_frame_4 rfl (lv_at hl 1 rfl) ?_
    refine lv_aload_n hx hb dX3_frame_5 rfl (lv_at hl 0 rfl) ?_
    refine cG_67 (v := (σ.i 67)) hx hb hts i_X3_frame_X3 hown hK hC (hts (.fieldLink RX3 60 "StatementRules2$Machine" "depth" "I") k_X3_frame_fieldLink_RX3_60_SR_Machine_depth_I) (fun _ q9 => q9) dX3_frame_6 rfl ?_
    refine lv_icmp_ge (tgt := 30) hx hb dX3_frame_9 (by decide) (fun c2 => ?_) (fun c2 => ?_)
    ·
      replace hf := (if_pos c2).symm.trans hf
      exact j_X3_frame_30 l dC dI Q N (CS.hs σ) R hx hb hr hml hown hts hlocks hZ hA hK σ _ _ _ hf h0 hC (lv_sub hl [] rfl)
    ·
      replace hf := (if_neg c2).symm.trans hf
      refine lv_iload_n hx hb dX3_frame_12 rfl (lv_at hl 1 rfl) ?_
      refine lv_aload_n hx hb dX3_frame_13 rfl (lv_at hl 0 rfl) ?_
      refine cG_61 hx hb hts i_X3_frame_X3 hown hK hC (hts (.fieldLink RX3 20 "StatementRules2$Machine" "frames" "[LStatementRules2$Frame;") k_X3_frame_fieldLink_RX3_20_SR_Machine_frames_LSR_Frame) (fun _ q9 => q9) dX3_frame_14 ?_
      refine va_alen (v := 24) hx hb hK hC.1 26 3 rfl rfl rfl dX3_frame_17 ?_
      refine lv_icmp_ge (tgt := 30) hx hb dX3_frame_18 (by decide) (fun c3 => ?_) (fun c3 => ?_)
      ·
        replace hf := (if_pos c3).symm.trans hf
        exact j_X3_frame_30 l dC dI Q N (CS.hs σ) R hx hb hr hml hown hts hlocks hZ hA hK σ _ _ _ hf h0 hC (lv_sub hl [] rfl)
      ·
        replace hf := (if_neg c3).symm.trans hf
        refine lv_aload_n hx hb dX3_frame_21 rfl (lv_at hl 0 rfl) ?_
        refine cG_61 hx hb hts i_X3_frame_X3 hown hK hC (hts (.fieldLink RX3 20 "StatementRules2$Machine" "frames" "[LStatementRules2$Frame;") k_X3_frame_fieldLink_RX3_20_SR_Machine_frames_LSR_Frame) (fun _ q9 => q9) dX3_frame_22 ?_
        refine lv_iload_n hx hb dX3_frame_25 rfl (lv_at hl 1 rfl) ?_
        obtain ⟨b4, hf⟩ := hf_ite hf
        refine cL_61 (v := (CS.r σ 61 ((x1 : Int32).toNatClampNeg))) hx hb hK hC b4 dX3_frame_26 rfl ?_
        rcases hf_oc hf with ⟨q5, hf⟩ | ⟨a6, q5, hf⟩
        ·
          refine W.eq (congrArg (fun v9 => F0 m 27 ls (va_rf v9 :: [])) q5) ?_
          refine W.eq (g2 := F0 m 27 ls (.null :: [])) rfl ?_
          refine lv_goto (tgt := 31) hx hb dX3_frame_27 (by decide) ?_
          obtain rfl := Option.some.inj hf
          exact W.aret (v := .null) hx hb hr (Or.inl ⟨_, rfl⟩) (Or.inl rfl) (fun t ht hW => ⟨⟨none, (), rfl, rfl, ⟨by rw [ht]; exact hC.1, va_K.moved hW.alike hK, hC.2.1⟩, by rw [ht]; exact hC.2.2.2⟩, hC.2.2.1.F ht⟩) hC.2.2.1.2.2 dX3_frame_31
        ·
          refine W.eq (congrArg (fun v9 => F0 m 27 ls (va_rf v9 :: [])) q5) ?_
          refine W.eq (g2 := F0 m 27 ls (.ref a6 :: [])) rfl ?_
          refine lv_goto (tgt := 31) hx hb dX3_frame_27 (by decide) ?_
          obtain rfl := Option.some.inj hf
          exact W.aret (v := .ref a6) hx hb hr (Or.inl ⟨_, rfl⟩) (Or.inr ⟨_, rfl⟩) (fun t ht hW => ⟨⟨(some a6), (), rfl, rfl, ⟨by rw [ht]; exact hC.1, va_K.moved hW.alike hK, hC.2.1⟩, by rw [ht]; exact hC.2.2.2⟩, hC.2.2.1.F ht⟩) hC.2.2.1.2.2 dX3_frame_31
theorem i_X3_throwAgain_X2 : ∀ w ∈ wsX20, w ∈ wzX3_throwAgain := fun _ h => List.mem_cons_of_mem _ (List.mem_append_right _ (List.mem_append_left _ (h)))
theorem k_X3_throwAgain_fieldLink_RX3_81_SR_Machine_wayThrown_LSR_Thrown : Cond.fieldLink RX3 81 "StatementRules2$Machine" "wayThrown" "LStatementRules2$Thrown;" ∈ wzX3_throwAgain := List.mem_cons_of_mem _ (List.mem_append_left _ (List.mem_of_getElem? (i := 0) rfl))
theorem i_X3_throwAgain_X3 : ∀ w ∈ wsX30, w ∈ wzX3_throwAgain := fun _ h => List.mem_cons_of_mem _ (List.mem_append_right _ (List.mem_append_right _ (List.mem_append_left _ (h))))
set_option maxHeartbeats 4000000 in
set_option maxRecDepth 100000 in
theorem c_X3_throwAgain (l : Launch) (dC : Nat → ClassId) (dI : Nat → Nat → Nat) (Q : CQ) (N : Nat) (σ : CS) (x1 : Option Nat) (R : Unit × CS) (hf : f_X3_throwAgain N σ x1 = some R) : Met l yX3_throwAgain wzX3_throwAgain ({ frames := 2, cells := CS.hs R.2 - CS.hs σ, slots := 17 * (CS.hs R.2 - CS.hs σ), locals := 60 * 2 }) (va_Pc [.ref (Q.o 7), va_rf x1] (zPre dC dI (CS.hs σ) (cW Q σ) (cT Q))) (va_Qv (fun (_ : Unit) => True) (fun (_ : Unit) (t : State) => zPost dC dI (va_A (cW Q σ) (CS.hs σ)) (cW Q R.2) (cT Q) t ∧ t.heap.size = CS.hs R.2) (va_A (cW Q σ) (CS.hs σ))) (CS.hs R.2 - CS.hs σ) (17 * (CS.hs R.2 - CS.hs σ)) (va_A (cW Q σ) (CS.hs σ)) := by
  refine Met.ofW (cc := cX3_throwAgain) (maxL := 2) (ret := none) (by decide) rfl ?_
  intro p e s m args below meth c s₁ B hml hv
  obtain ⟨rfl, hsz, hZ, hP, hK, hD0⟩ := hv
  have hx := B.exec
  have hb := B.bytes
  have hr := B.returns
  have hts := atoms_spec (ws := wzX3_throwAgain) B.pre
  have hown : s.vm.findClass RX3 = some m.cls := findClass_of_methodNamed B.named
  have hlocks := B.notSynchronized
  have hD := hD0.self (sz := CS.hs σ)
  generalize hAe : va_A (cW Q σ) (CS.hs σ) = A at hD ⊢
  have hA : ∀ q : Nat, s.heap.size ≤ q → A q := fun q h => by rw [← hAe]; exact Or.inr (hsz ▸ h)
  have hC : CP dC dI Q A s.heap σ s.heap [] := ⟨hP, hD, va_S.rf, hsz⟩
  have h0 : CS.hs σ ≤ CS.hs σ := Nat.le_refl _
  have hl := lv_entry ([.ref (Q.o 7), va_rf x1]) (n := 2) (by cases x1 <;> exact Nat.le_of_ble_eq_true rfl)
  rw [lg_entry_eq]
  generalize (lg_sl ([.ref (Q.o 7), va_rf x1]) ++ List.replicate (2 - (lg_sl ([.ref (Q.o 7), va_rf x1])).length) Slot.unset).toArray = ls at hl ⊢
  have hl : lv_has ls 2 [(0, .ref (Q.o 7)), (1, va_rf x1)] := hl
  unfold f_X3_throwAgain at hf
  refine W.widen (k := CS.hs σ - CS.hs σ) (n := 17 * (CS.hs σ - CS.hs σ)) (Nat.zero_le _) (Nat.zero_le _) ?_
  rcases hf_oc hf with ⟨q1, hf⟩ | ⟨a2, q1, hf⟩
  ·
    subst q1
    have hl : lv_has ls 2 [(0, .ref (Q.o 7)), (1, .null)] := hl
    refine lv_aload_nN hx hb dX3_throwAgain_0 rfl (lv_at hl 1 rfl) ?_
    refine lv_ifnullN (tgt := 19) hx hb dX3_throwAgain_1 (by decide) ?_
    obtain rfl := Option.some.inj hf
    exact W.vret hx hb hr (fun t ht hW => ⟨⟨(), rfl, trivial, ⟨by rw [ht]; exact hC.1, va_K.moved hW.alike hK, hC.2.1⟩, by rw [ht]; exact hC.2.2.2⟩, hC.2.2.1.F ht⟩) hC.2.2.1.2.2 dX3_throwAgain_19
  ·
    subst q1
    have hl : lv_has ls 2 [(0, .ref (Q.o 7)), (1, .ref a2)] := hl
    refine lv_aload_n hx hb dX3_throwAgain_0 rfl (lv_at hl 1 rfl) ?_
    refine lv_ifnull hx hb dX3_throwAgain_1 ?_
    refine lv_aload_n hx hb dX3_throwAgain_4 rfl (lv_at hl 0 rfl) ?_
    refine lv_aload_n hx hb dX3_throwAgain_5 rfl (lv_at hl 1 rfl) ?_
    obtain ⟨b3, hf⟩ := hf_ite hf
    refine pGN_X2_4 (v := (CS.ot σ a2)) hx hb hts i_X3_throwAgain_X2 hown hK hC (va_Nw.use rfl (hZ.1 (.fieldLinkNest RX3 204 "StatementRules2$Frame" "thrown" "LStatementRules2$Thrown;" "StatementRules2") (by decide +kernel))) (fun _ q9 => q9) dX3_throwAgain_6 b3 rfl ?_
    rcases hf_oc hf with ⟨q4, hf⟩ | ⟨a5, q4, hf⟩
    ·
      refine W.eq (congrArg (fun v9 => F0 m 9 ls (va_rf v9 :: [.ref (Q.o 7)])) q4) ?_
      refine W.eq (g2 := F0 m 9 ls (.null :: [.ref (Q.o 7)])) rfl ?_
      refine cP_76 (v := none) hx hb hts i_X3_throwAgain_X3 hown hK hC (hts (.fieldLink RX3 81 "StatementRules2$Machine" "wayThrown" "LStatementRules2$Thrown;") k_X3_throwAgain_fieldLink_RX3_81_SR_Machine_wayThrown_LSR_Thrown) (fun _ q9 => q9) dX3_throwAgain_9 (fun H locs hC => ?_)
      refine lv_aload_n hx hb dX3_throwAgain_12 rfl (lv_at hl 0 rfl) ?_
      refine lv_iconst (v := 4) hx hb dX3_throwAgain_13 (by decide) ?_
      refine lv_iconst (v := 0) hx hb dX3_throwAgain_14 (by decide) ?_
      refine lv_iconst (v := 0) hx hb dX3_throwAgain_15 (by decide) ?_
      obtain ⟨p6, hcp6, hf⟩ := hf_bind hf
      have hm7 : CS.hs σ ≤ CS.hs p6.2 := Mono.go hcp6 (m_X3_go N (CS.setW σ none) 4 0 0)
      have hr9 : CS.hs p6.2 ≤ CS.hs R.2 := Mono.go hf (mono_some (Nat.le_refl _))
      have hFc := cFree hC hA
      refine va_callv (va_runV (As := [.int 4, .int 0, .int 0]) (rest := []) ⟨hx, hb, hml, hown, hts⟩ (c_X3_go l dC dI Q N (CS.setW σ none) 4 0 0 p6 hcp6) (cwV 3 hts hX3_throwAgain_X3_go_v213 rfl rfl rfl (by decide +kernel) ⟨(show 1 + 1 ≤ 2 by omega), (show 8 + (4 + 11) + 60 * 1 ≤ 60 * 2 by omega)⟩) ⟨zPre.blind, va_recv hK hC.1 (ci := 2) (q0 := 7) rfl rfl, cPre_go hZ hK hC⟩ rfl rfl hl.1 rfl (lv_room (Nat.le_of_ble_eq_true rfl)) dX3_throwAgain_16 (cAcc h0 hm7 hr9)) hC.2.2.1 (fun q _ h => hFc q h) hFc (fun u9 t9 H1 locs ht hvm hw hB hz1 hk1 hS => ?_)
      obtain ⟨⟨hP, hK1, hD1⟩, hsz1⟩ := hB
      rw [ht] at hP hsz1
      have hC : CP dC dI Q A s.heap p6.2 H1 locs := ⟨hP, hD1.weaken (fun _ _ _ h => hFc _ h), hS, hsz1⟩
      generalize H1 = H at hC ⊢
      have h9 : (CS.hs σ) ≤ CS.hs p6.2 := Nat.le_trans h0 hm7
      refine W.widen (k := CS.hs p6.2 - (CS.hs σ)) (n := 17 * (CS.hs p6.2 - (CS.hs σ))) (cAcc2 h0 hm7) (cAcc3 h0 hm7) ?_
      obtain rfl := Option.some.inj hf
      exact W.vret hx hb hr (fun t ht hW => ⟨⟨(), rfl, trivial, ⟨by rw [ht]; exact hC.1, va_K.moved hW.alike hK, hC.2.1⟩, by rw [ht]; exact hC.2.2.2⟩, hC.2.2.1.F ht⟩) hC.2.2.1.2.2 dX3_throwAgain_19
    ·
      refine W.eq (congrArg (fun v9 => F0 m 9 ls (va_rf v9 :: [.ref (Q.o 7)])) q4) ?_
      refine W.eq (g2 := F0 m 9 ls (.ref a5 :: [.ref (Q.o 7)])) rfl ?_
      refine cP_76 (v := (some a5)) hx hb hts i_X3_throwAgain_X3 hown hK hC (hts (.fieldLink RX3 81 "StatementRules2$Machine" "wayThrown" "LStatementRules2$Thrown;") k_X3_throwAgain_fieldLink_RX3_81_SR_Machine_wayThrown_LSR_Thrown) (fun _ q9 => q9) dX3_throwAgain_9 (fun H locs hC => ?_)
      refine lv_aload_n hx hb dX3_throwAgain_12 rfl (lv_at hl 0 rfl) ?_
      refine lv_iconst (v := 4) hx hb dX3_throwAgain_13 (by decide) ?_
      refine lv_iconst (v := 0) hx hb dX3_throwAgain_14 (by decide) ?_
      refine lv_iconst (v := 0) hx hb dX3_throwAgain_15 (by decide) ?_
      obtain ⟨p10, hcp10, hf⟩ := hf_bind hf
      have hm11 : CS.hs σ ≤ CS.hs p10.2 := Mono.go hcp10 (m_X3_go N (CS.setW σ (some a5)) 4 0 0)
      have hr9 : CS.hs p10.2 ≤ CS.hs R.2 := Mono.go hf (mono_some (Nat.le_refl _))
      have hFc := cFree hC hA
      refine va_callv (va_runV (As := [.int 4, .int 0, .int 0]) (rest := []) ⟨hx, hb, hml, hown, hts⟩ (c_X3_go l dC dI Q N (CS.setW σ (some a5)) 4 0 0 p10 hcp10) (cwV 3 hts hX3_throwAgain_X3_go_v213 rfl rfl rfl (by decide +kernel) ⟨(show 1 + 1 ≤ 2 by omega), (show 8 + (4 + 11) + 60 * 1 ≤ 60 * 2 by omega)⟩) ⟨zPre.blind, va_recv hK hC.1 (ci := 2) (q0 := 7) rfl rfl, cPre_go hZ hK hC⟩ rfl rfl hl.1 rfl (lv_room (Nat.le_of_ble_eq_true rfl)) dX3_throwAgain_16 (cAcc h0 hm11 hr9)) hC.2.2.1 (fun q _ h => hFc q h) hFc (fun u9 t9 H1 locs ht hvm hw hB hz1 hk1 hS => ?_)
      obtain ⟨⟨hP, hK1, hD1⟩, hsz1⟩ := hB
      rw [ht] at hP hsz1
      have hC : CP dC dI Q A s.heap p10.2 H1 locs := ⟨hP, hD1.weaken (fun _ _ _ h => hFc _ h), hS, hsz1⟩
      generalize H1 = H at hC ⊢
      have h13 : (CS.hs σ) ≤ CS.hs p10.2 := Nat.le_trans h0 hm11
      refine W.widen (k := CS.hs p10.2 - (CS.hs σ)) (n := 17 * (CS.hs p10.2 - (CS.hs σ))) (cAcc2 h0 hm11) (cAcc3 h0 hm11) ?_
      obtain rfl := Option.some.inj hf
      exact W.vret hx hb hr (fun t ht hW => ⟨⟨(), rfl, trivial, ⟨by rw [ht]; exact hC.1, va_K.moved hW.alike hK, hC.2.1⟩, by rw [ht]; exact hC.2.2.2⟩, hC.2.2.1.F ht⟩) hC.2.2.1.2.2 dX3_throwAgain_19
theorem k_X3_resume_fieldLink_RX3_60_SR_Machine_depth_I : Cond.fieldLink RX3 60 "StatementRules2$Machine" "depth" "I" ∈ wzX3_resume := List.mem_cons_of_mem _ (List.mem_append_left _ (List.mem_of_getElem? (i := 0) rfl))
theorem i_X3_resume_X3 : ∀ w ∈ wsX30, w ∈ wzX3_resume := fun _ h => List.mem_cons_of_mem _ (List.mem_append_right _ (List.mem_append_left _ (h)))
theorem i_X3_resume_X2 : ∀ w ∈ wsX20, w ∈ wzX3_resume := fun _ h => List.mem_cons_of_mem _ (List.mem_append_right _ (List.mem_append_right _ (List.mem_append_left _ (h))))
theorem k_X3_resume_fieldLink_RX3_81_SR_Machine_wayThrown_LSR_Thrown : Cond.fieldLink RX3 81 "StatementRules2$Machine" "wayThrown" "LStatementRules2$Thrown;" ∈ wzX3_resume := List.mem_cons_of_mem _ (List.mem_append_left _ (List.mem_of_getElem? (i := 1) rfl))
set_option maxHeartbeats 4000000 in
set_option maxRecDepth 100000 in
theorem c_X3_resume (l : Launch) (dC : Nat → ClassId) (dI : Nat → Nat → Nat) (Q : CQ) (N : Nat) (σ : CS) (x1 : Option Nat) (R : Unit × CS) (hf : f_X3_resume N σ x1 = some R) : Met l yX3_resume wzX3_resume ({ frames := 2, cells := CS.hs R.2 - CS.hs σ, slots := 17 * (CS.hs R.2 - CS.hs σ), locals := 60 * 2 }) (va_Pc [.ref (Q.o 7), va_rf x1] (zPre dC dI (CS.hs σ) (cW Q σ) (cT Q))) (va_Qv (fun (_ : Unit) => True) (fun (_ : Unit) (t : State) => zPost dC dI (va_A (cW Q σ) (CS.hs σ)) (cW Q R.2) (cT Q) t ∧ t.heap.size = CS.hs R.2) (va_A (cW Q σ) (CS.hs σ))) (CS.hs R.2 - CS.hs σ) (17 * (CS.hs R.2 - CS.hs σ)) (va_A (cW Q σ) (CS.hs σ)) := by
  refine Met.ofW (cc := cX3_resume) (maxL := 2) (ret := none) (by decide) rfl ?_
  intro p e s m args below meth c s₁ B hml hv
  obtain ⟨rfl, hsz, hZ, hP, hK, hD0⟩ := hv
  have hx := B.exec
  have hb := B.bytes
  have hr := B.returns
  have hts := atoms_spec (ws := wzX3_resume) B.pre
  have hown : s.vm.findClass RX3 = some m.cls := findClass_of_methodNamed B.named
  have hlocks := B.notSynchronized
  have hD := hD0.self (sz := CS.hs σ)
  generalize hAe : va_A (cW Q σ) (CS.hs σ) = A at hD ⊢
  have hA : ∀ q : Nat, s.heap.size ≤ q → A q := fun q h => by rw [← hAe]; exact Or.inr (hsz ▸ h)
  have hC : CP dC dI Q A s.heap σ s.heap [] := ⟨hP, hD, va_S.rf, hsz⟩
  have h0 : CS.hs σ ≤ CS.hs σ := Nat.le_refl _
  have hl := lv_entry ([.ref (Q.o 7), va_rf x1]) (n := 2) (by cases x1 <;> exact Nat.le_of_ble_eq_true rfl)
  rw [lg_entry_eq]
  generalize (lg_sl ([.ref (Q.o 7), va_rf x1]) ++ List.replicate (2 - (lg_sl ([.ref (Q.o 7), va_rf x1])).length) Slot.unset).toArray = ls at hl ⊢
  have hl : lv_has ls 2 [(0, .ref (Q.o 7)), (1, va_rf x1)] := hl
  unfold f_X3_resume at hf
  refine W.widen (k := CS.hs σ - CS.hs σ) (n := 17 * (CS.hs σ - CS.hs σ)) (Nat.zero_le _) (Nat.zero_le _) ?_
  rcases hf_oc hf with ⟨q1, hf⟩ | ⟨a2, q1, hf⟩
  ·
    subst q1
    have hl : lv_has ls 2 [(0, .ref (Q.o 7)), (1, .null)] := hl
    refine lv_aload_nN hx hb dX3_resume_0 rfl (lv_at hl 1 rfl) ?_
    refine lv_ifnullN (tgt := 38) hx hb dX3_resume_1 (by decide) ?_
    obtain rfl := Option.some.inj hf
    exact W.vret hx hb hr (fun t ht hW => ⟨⟨(), rfl, trivial, ⟨by rw [ht]; exact hC.1, va_K.moved hW.alike hK, hC.2.1⟩, by rw [ht]; exact hC.2.2.2⟩, hC.2.2.1.F ht⟩) hC.2.2.1.2.2 dX3_resume_38
  ·
    subst q1
    have hl : lv_has ls 2 [(0, .ref (Q.o 7)), (1, .ref a2)] := hl
    refine lv_aload_n hx hb dX3_resume_0 rfl (lv_at hl 1 rfl) ?_
    refine lv_ifnull hx hb dX3_resume_1 ?_
    refine lv_aload_n hx hb dX3_resume_4 rfl (lv_at hl 0 rfl) ?_
    refine lv_dup hx hb dX3_resume_5 rfl ?_
    refine cG_67 (v := (σ.i 67)) hx hb hts i_X3_resume_X3 hown hK hC (hts (.fieldLink RX3 60 "StatementRules2$Machine" "depth" "I") k_X3_resume_fieldLink_RX3_60_SR_Machine_depth_I) (fun _ q9 => q9) dX3_resume_6 rfl ?_
    refine lv_iconst (v := 1) hx hb dX3_resume_9 (by decide) ?_
    refine lv_isub hx hb dX3_resume_10 ?_
    refine cP_67 (v := ((σ.i 67) - 1)) hx hb hts i_X3_resume_X3 hown hK hC (hts (.fieldLink RX3 60 "StatementRules2$Machine" "depth" "I") k_X3_resume_fieldLink_RX3_60_SR_Machine_depth_I) (fun _ q9 => q9) dX3_resume_11 (fun H locs hC => ?_)
    refine lv_aload_n hx hb dX3_resume_14 rfl (lv_at hl 0 rfl) ?_
    refine lv_aload_n hx hb dX3_resume_15 rfl (lv_at hl 1 rfl) ?_
    obtain ⟨b3, hf⟩ := hf_ite hf
    refine pGN_X2_4 (v := (CS.ot (CS.setI σ 67 ((σ.i 67) - 1)) a2)) hx hb hts i_X3_resume_X2 hown hK hC (va_Nw.use rfl (hZ.1 (.fieldLinkNest RX3 204 "StatementRules2$Frame" "thrown" "LStatementRules2$Thrown;" "StatementRules2") (by decide +kernel))) (fun _ q9 => q9) dX3_resume_16 b3 rfl ?_
    rcases hf_oc hf with ⟨q4, hf⟩ | ⟨a5, q4, hf⟩
    ·
      refine W.eq (congrArg (fun v9 => F0 m 19 ls (va_rf v9 :: [.ref (Q.o 7)])) q4) ?_
      refine W.eq (g2 := F0 m 19 ls (.null :: [.ref (Q.o 7)])) rfl ?_
      refine cP_76 (v := none) hx hb hts i_X3_resume_X3 hown hK hC (hts (.fieldLink RX3 81 "StatementRules2$Machine" "wayThrown" "LStatementRules2$Thrown;") k_X3_resume_fieldLink_RX3_81_SR_Machine_wayThrown_LSR_Thrown) (fun _ q9 => q9) dX3_resume_19 (fun H locs hC => ?_)
      refine lv_aload_n hx hb dX3_resume_22 rfl (lv_at hl 0 rfl) ?_
      refine lv_aload_n hx hb dX3_resume_23 rfl (lv_at hl 1 rfl) ?_
      refine pGN_X2_5 (v := (CS.o (CS.setW (CS.setI σ 67 ((σ.i 67) - 1)) none) a2 5)) hx hb hts i_X3_resume_X2 hown hK hC (va_Nw.use rfl (hZ.1 (.fieldLinkNest RX3 246 "StatementRules2$Frame" "way" "I" "StatementRules2") (by decide +kernel))) (fun _ q9 => q9) dX3_resume_24 b3 rfl ?_
      refine lv_aload_n hx hb dX3_resume_27 rfl (lv_at hl 1 rfl) ?_
      refine pGN_X2_6 (v := (CS.o (CS.setW (CS.setI σ 67 ((σ.i 67) - 1)) none) a2 6)) hx hb hts i_X3_resume_X2 hown hK hC (va_Nw.use rfl (hZ.1 (.fieldLinkNest RX3 247 "StatementRules2$Frame" "wayValue" "I" "StatementRules2") (by decide +kernel))) (fun _ q9 => q9) dX3_resume_28 b3 rfl ?_
      refine lv_aload_n hx hb dX3_resume_31 rfl (lv_at hl 1 rfl) ?_
      refine pGN_X2_7 (v := (CS.o (CS.setW (CS.setI σ 67 ((σ.i 67) - 1)) none) a2 7)) hx hb hts i_X3_resume_X2 hown hK hC (va_Nw.use rfl (hZ.1 (.fieldLinkNest RX3 248 "StatementRules2$Frame" "wayTarget" "I" "StatementRules2") (by decide +kernel))) (fun _ q9 => q9) dX3_resume_32 b3 rfl ?_
      obtain ⟨p6, hcp6, hf⟩ := hf_bind hf
      have hm7 : CS.hs σ ≤ CS.hs p6.2 := Mono.go hcp6 (m_X3_go N (CS.setW (CS.setI σ 67 ((σ.i 67) - 1)) none) (CS.o (CS.setW (CS.setI σ 67 ((σ.i 67) - 1)) none) a2 5) (CS.o (CS.setW (CS.setI σ 67 ((σ.i 67) - 1)) none) a2 6) (CS.o (CS.setW (CS.setI σ 67 ((σ.i 67) - 1)) none) a2 7))
      have hr9 : CS.hs p6.2 ≤ CS.hs R.2 := Mono.go hf (mono_some (Nat.le_refl _))
      have hFc := cFree hC hA
      refine va_callv (va_runV (As := [.int (CS.o (CS.setW (CS.setI σ 67 ((σ.i 67) - 1)) none) a2 5), .int (CS.o (CS.setW (CS.setI σ 67 ((σ.i 67) - 1)) none) a2 6), .int (CS.o (CS.setW (CS.setI σ 67 ((σ.i 67) - 1)) none) a2 7)]) (rest := []) ⟨hx, hb, hml, hown, hts⟩ (c_X3_go l dC dI Q N (CS.setW (CS.setI σ 67 ((σ.i 67) - 1)) none) (CS.o (CS.setW (CS.setI σ 67 ((σ.i 67) - 1)) none) a2 5) (CS.o (CS.setW (CS.setI σ 67 ((σ.i 67) - 1)) none) a2 6) (CS.o (CS.setW (CS.setI σ 67 ((σ.i 67) - 1)) none) a2 7) p6 hcp6) (cwV 3 hts hX3_resume_X3_go_v213 rfl rfl rfl (by decide +kernel) ⟨(show 1 + 1 ≤ 2 by omega), (show 8 + (4 + 11) + 60 * 1 ≤ 60 * 2 by omega)⟩) ⟨zPre.blind, va_recv hK hC.1 (ci := 2) (q0 := 7) rfl rfl, cPre_go hZ hK hC⟩ rfl rfl hl.1 rfl (lv_room (Nat.le_of_ble_eq_true rfl)) dX3_resume_35 (cAcc h0 hm7 hr9)) hC.2.2.1 (fun q _ h => hFc q h) hFc (fun u9 t9 H1 locs ht hvm hw hB hz1 hk1 hS => ?_)
      obtain ⟨⟨hP, hK1, hD1⟩, hsz1⟩ := hB
      rw [ht] at hP hsz1
      have hC : CP dC dI Q A s.heap p6.2 H1 locs := ⟨hP, hD1.weaken (fun _ _ _ h => hFc _ h), hS, hsz1⟩
      generalize H1 = H at hC ⊢
      have h9 : (CS.hs σ) ≤ CS.hs p6.2 := Nat.le_trans h0 hm7
      refine W.widen (k := CS.hs p6.2 - (CS.hs σ)) (n := 17 * (CS.hs p6.2 - (CS.hs σ))) (cAcc2 h0 hm7) (cAcc3 h0 hm7) ?_
      obtain rfl := Option.some.inj hf
      exact W.vret hx hb hr (fun t ht hW => ⟨⟨(), rfl, trivial, ⟨by rw [ht]; exact hC.1, va_K.moved hW.alike hK, hC.2.1⟩, by rw [ht]; exact hC.2.2.2⟩, hC.2.2.1.F ht⟩) hC.2.2.1.2.2 dX3_resume_38
    ·
      refine W.eq (congrArg (fun v9 => F0 m 19 ls (va_rf v9 :: [.ref (Q.o 7)])) q4) ?_
      refine W.eq (g2 := F0 m 19 ls (.ref a5 :: [.ref (Q.o 7)])) rfl ?_
      refine cP_76 (v := (some a5)) hx hb hts i_X3_resume_X3 hown hK hC (hts (.fieldLink RX3 81 "StatementRules2$Machine" "wayThrown" "LStatementRules2$Thrown;") k_X3_resume_fieldLink_RX3_81_SR_Machine_wayThrown_LSR_Thrown) (fun _ q9 => q9) dX3_resume_19 (fun H locs hC => ?_)
      refine lv_aload_n hx hb dX3_resume_22 rfl (lv_at hl 0 rfl) ?_
      refine lv_aload_n hx hb dX3_resume_23 rfl (lv_at hl 1 rfl) ?_
      refine pGN_X2_5 (v := (CS.o (CS.setW (CS.setI σ 67 ((σ.i 67) - 1)) (some a5)) a2 5)) hx hb hts i_X3_resume_X2 hown hK hC (va_Nw.use rfl (hZ.1 (.fieldLinkNest RX3 246 "StatementRules2$Frame" "way" "I" "StatementRules2") (by decide +kernel))) (fun _ q9 => q9) dX3_resume_24 b3 rfl ?_
      refine lv_aload_n hx hb dX3_resume_27 rfl (lv_at hl 1 rfl) ?_
      refine pGN_X2_6 (v := (CS.o (CS.setW (CS.setI σ 67 ((σ.i 67) - 1)) (some a5)) a2 6)) hx hb hts i_X3_resume_X2 hown hK hC (va_Nw.use rfl (hZ.1 (.fieldLinkNest RX3 247 "StatementRules2$Frame" "wayValue" "I" "StatementRules2") (by decide +kernel))) (fun _ q9 => q9) dX3_resume_28 b3 rfl ?_
      refine lv_aload_n hx hb dX3_resume_31 rfl (lv_at hl 1 rfl) ?_
      refine pGN_X2_7 (v := (CS.o (CS.setW (CS.setI σ 67 ((σ.i 67) - 1)) (some a5)) a2 7)) hx hb hts i_X3_resume_X2 hown hK hC (va_Nw.use rfl (hZ.1 (.fieldLinkNest RX3 248 "StatementRules2$Frame" "wayTarget" "I" "StatementRules2") (by decide +kernel))) (fun _ q9 => q9) dX3_resume_32 b3 rfl ?_
      obtain ⟨p10, hcp10, hf⟩ := hf_bind hf
      have hm11 : CS.hs σ ≤ CS.hs p10.2 := Mono.go hcp10 (m_X3_go N (CS.setW (CS.setI σ 67 ((σ.i 67) - 1)) (some a5)) (CS.o (CS.setW (CS.setI σ 67 ((σ.i 67) - 1)) (some a5)) a2 5) (CS.o (CS.setW (CS.setI σ 67 ((σ.i 67) - 1)) (some a5)) a2 6) (CS.o (CS.setW (CS.setI σ 67 ((σ.i 67) - 1)) (some a5)) a2 7))
      have hr9 : CS.hs p10.2 ≤ CS.hs R.2 := Mono.go hf (mono_some (Nat.le_refl _))
      have hFc := cFree hC hA
      refine va_callv (va_runV (As := [.int (CS.o (CS.setW (CS.setI σ 67 ((σ.i 67) - 1)) (some a5)) a2 5), .int (CS.o (CS.setW (CS.setI σ 67 ((σ.i 67) - 1)) (some a5)) a2 6), .int (CS.o (CS.setW (CS.setI σ 67 ((σ.i 67) - 1)) (some a5)) a2 7)]) (rest := []) ⟨hx, hb, hml, hown, hts⟩ (c_X3_go l dC dI Q N (CS.setW (CS.setI σ 67 ((σ.i 67) - 1)) (some a5)) (CS.o (CS.setW (CS.setI σ 67 ((σ.i 67) - 1)) (some a5)) a2 5) (CS.o (CS.setW (CS.setI σ 67 ((σ.i 67) - 1)) (some a5)) a2 6) (CS.o (CS.setW (CS.setI σ 67 ((σ.i 67) - 1)) (some a5)) a2 7) p10 hcp10) (cwV 3 hts hX3_resume_X3_go_v213 rfl rfl rfl (by decide +kernel) ⟨(show 1 + 1 ≤ 2 by omega), (show 8 + (4 + 11) + 60 * 1 ≤ 60 * 2 by omega)⟩) ⟨zPre.blind, va_recv hK hC.1 (ci := 2) (q0 := 7) rfl rfl, cPre_go hZ hK hC⟩ rfl rfl hl.1 rfl (lv_room (Nat.le_of_ble_eq_true rfl)) dX3_resume_35 (cAcc h0 hm11 hr9)) hC.2.2.1 (fun q _ h => hFc q h) hFc (fun u9 t9 H1 locs ht hvm hw hB hz1 hk1 hS => ?_)
      obtain ⟨⟨hP, hK1, hD1⟩, hsz1⟩ := hB
      rw [ht] at hP hsz1
      have hC : CP dC dI Q A s.heap p10.2 H1 locs := ⟨hP, hD1.weaken (fun _ _ _ h => hFc _ h), hS, hsz1⟩
      generalize H1 = H at hC ⊢
      have h13 : (CS.hs σ) ≤ CS.hs p10.2 := Nat.le_trans h0 hm11
      refine W.widen (k := CS.hs p10.2 - (CS.hs σ)) (n := 17 * (CS.hs p10.2 - (CS.hs σ))) (cAcc2 h0 hm11) (cAcc3 h0 hm11) ?_
      obtain rfl := Option.some.inj hf
      exact W.vret hx hb hr (fun t ht hW => ⟨⟨(), rfl, trivial, ⟨by rw [ht]; exact hC.1, va_K.moved hW.alike hK, hC.2.1⟩, by rw [ht]; exact hC.2.2.2⟩, hC.2.2.1.F ht⟩) hC.2.2.1.2.2 dX3_resume_38
theorem k_X10_isUnder_fieldLink_RX10_9_SR_Told_above_I : Cond.fieldLink RX10 9 "StatementRules2$Told" "above" "[I" ∈ wzX10_isUnder := List.mem_cons_of_mem _ (List.mem_append_left _ (List.mem_of_getElem? (i := 0) rfl))
theorem i_X10_isUnder_X10 : ∀ w ∈ wsX100, w ∈ wzX10_isUnder := fun _ h => List.mem_cons_of_mem _ (List.mem_append_right _ (List.mem_append_left _ (h)))
theorem k_X10_isUnder_initialized_RX11 : Cond.initialized RX11 ∈ wzX10_isUnder := List.mem_cons_of_mem _ (List.mem_append_left _ (List.mem_of_getElem? (i := 1) rfl))
theorem k_X10_isUnder_static_yX11_at : Cond.static yX11_at ∈ wzX10_isUnder := List.mem_cons_of_mem _ (List.mem_append_left _ (List.mem_of_getElem? (i := 2) rfl))
set_option maxHeartbeats 4000000 in
set_option maxRecDepth 100000 in
theorem j_X10_isUnder_38 {p : Program} {e : Env} {s : State} {m : MethodId} {args : Array Value} {below : List Frame} {meth : Method} {c : Code} {A : Nat → Prop} (l : Launch) (dC : Nat → ClassId) (dI : Nat → Nat → Nat) (Q : CQ) (N : Nat) (z9h : Nat) (R : Int32 × CS) (hx : p.tables.exec = Jvm.exec) (hb : c.code = cX10_isUnder) (hr : meth.sig.returnType = (some .boolean)) (hml : c.maxLocals = 5) (hown : s.vm.findClass RX10 = some m.cls) (hts : ∀ w ∈ wzX10_isUnder, w.before args s = true) (hlocks : meth.locks = false) (hZ : zAMB s) (hA : ∀ q : Nat, s.heap.size ≤ q → A q) (hK : va_K (dC, dI) vwCl (cT Q) s) : ∀ (σ : CS) (H : Heap) (locs : List Loc) (ls : Array Slot), f_X10_isUnder_38 N σ = some R → z9h ≤ CS.hs σ → CP dC dI Q A s.heap σ H locs → lv_has ls 5 [] → W p l e ({ frames := 2, cells := CS.hs R.2 - z9h, slots := 17 * (CS.hs R.2 - z9h), locals := 60 * 2 }) s m args below meth c H locs (CS.hs σ - z9h) (17 * (CS.hs σ - z9h)) (MQ below (va_Qi (fun (r : Int32) (_ : Unit) => r = R.1) (fun (_ : Unit) (t : State) => zPost dC dI A (cW Q R.2) (cT Q) t ∧ t.heap.size = CS.hs R.2) A) args s (CS.hs R.2 - z9h) (17 * (CS.hs R.2 - z9h)) A) (F0 m 38 ls []) := by
  intro σ  H locs ls hf h0 hC hl
  unfold f_X10_isUnder_38 at hf
  refine lv_iconst (v := 0) hx hb dX10_isUnder_38 (by decide) ?_
  obtain rfl := Option.some.inj hf
  exact W.zret (v := 0) hx hb hr (rfl) (fun t ht hW => ⟨⟨0, (), rfl, rfl, ⟨by rw [ht]; exact hC.1, va_K.moved hW.alike hK, hC.2.1⟩, by rw [ht]; exact hC.2.2.2⟩, hC.2.2.1.F ht⟩) hC.2.2.1.2.2 dX10_isUnder_39
set_option maxHeartbeats 4000000 in
set_option maxRecDepth 100000 in
theorem j_X10_isUnder_5 {p : Program} {e : Env} {s : State} {m : MethodId} {args : Array Value} {below : List Frame} {meth : Method} {c : Code} {A : Nat → Prop} (l : Launch) (dC : Nat → ClassId) (dI : Nat → Nat → Nat) (Q : CQ) (N : Nat) (z9h : Nat) (R : Int32 × CS) (hx : p.tables.exec = Jvm.exec) (hb : c.code = cX10_isUnder) (hr : meth.sig.returnType = (some .boolean)) (hml : c.maxLocals = 5) (hown : s.vm.findClass RX10 = some m.cls) (hts : ∀ w ∈ wzX10_isUnder, w.before args s = true) (hlocks : meth.locks = false) (hZ : zAMB s) (hA : ∀ q : Nat, s.heap.size ≤ q → A q) (hK : va_K (dC, dI) vwCl (cT Q) s) : ∀ (n9 : Nat), ∀ (σ : CS) (x2 : Int32) (x3 : Int32) (x4 : Int32) (H : Heap) (locs : List Loc) (ls : Array Slot), f_X10_isUnder_5 N n9 σ x2 x3 x4 = some R → z9h ≤ CS.hs σ → CP dC dI Q A s.heap σ H locs → lv_has ls 5 [(0, .ref (Q.o 1)), (2, .int x2), (3, .int x3), (4, .int x4)] → W p l e ({ frames := 2, cells := CS.hs R.2 - z9h, slots := 17 * (CS.hs R.2 - z9h), locals := 60 * 2 }) s m args below meth c H locs (CS.hs σ - z9h) (17 * (CS.hs σ - z9h)) (MQ below (va_Qi (fun (r : Int32) (_ : Unit) => r = R.1) (fun (_ : Unit) (t : State) => zPost dC dI A (cW Q R.2) (cT Q) t ∧ t.heap.size = CS.hs R.2) A) args s (CS.hs R.2 - z9h) (17 * (CS.hs R.2 - z9h)) A) (F0 m 5 ls []) := by
  intro n9
  induction n9 with
  | zero => intro σ x2 x3 x4 H locs ls hf; exact absurd hf (by intro q9; cases q9)
  | succ n9 ih =>
    intro σ x2 x3 x4 H locs ls hf h0 hC hl
    replace hf : b_X10_isUnder_5 N (f_X10_isUnder_5 N n9) σ x2 x3 x4 = some R := hf
    unfold b_X10_isUnder_5 at hf
    have hMK := fun (σ : CS) (x2 : Int32) (x3 : Int32) (x4 : Int32) => m_X10_isUnder_5 N n9 σ x2 x3 x4
    refine lv_iload hx hb dX10_isUnder_5 (lv_at hl 3 rfl) ?_
    refine lv_bipush (v := 12) hx hb dX10_isUnder_7 (by decide) ?_
    refine lv_icmp_ge (tgt := 38) hx hb dX10_isUnder_9 (by decide) (fun c1 => ?_) (fun c1 => ?_)
    ·
      replace hf := (if_pos c1).symm.trans hf
      exact j_X10_isUnder_38 l dC dI Q N z9h R hx hb hr hml hown hts hlocks hZ hA hK σ _ _ _ hf h0 hC (lv_sub hl [] rfl)
    ·
      replace hf := (if_neg c1).symm.trans hf
      refine lv_iload_n hx hb dX10_isUnder_12 rfl (lv_at hl 2 rfl) ?_
      refine lv_if_lt (tgt := 38) hx hb dX10_isUnder_13 (by decide) (fun c2 => ?_) (fun c2 => ?_)
      ·
        replace hf := (if_pos c2).symm.trans hf
        exact j_X10_isUnder_38 l dC dI Q N z9h R hx hb hr hml hown hts hlocks hZ hA hK σ _ _ _ hf h0 hC (lv_sub hl [] rfl)
      ·
        replace hf := (if_neg c2).symm.trans hf
        refine lv_iload_n hx hb dX10_isUnder_16 rfl (lv_at hl 2 rfl) ?_
        refine lv_iload_n hx hb dX10_isUnder_17 rfl (lv_at hl 1 rfl) ?_
        refine lv_icmp_ne (tgt := 23) hx hb dX10_isUnder_18 (by decide) (fun c3 => ?_) (fun c3 => ?_)
        ·
          replace hf := (if_neg c3).symm.trans hf
          refine lv_aload_n hx hb dX10_isUnder_23 rfl (lv_at hl 0 rfl) ?_
          refine cG_9 hx hb hts i_X10_isUnder_X10 hown hK hC (hts (.fieldLink RX10 9 "StatementRules2$Told" "above" "[I") k_X10_isUnder_fieldLink_RX10_9_SR_Told_above_I) (fun _ q9 => q9) dX10_isUnder_24 ?_
          refine lv_iload_n hx hb dX10_isUnder_27 rfl (lv_at hl 2 rfl) ?_
          have he9 := (show (cW Q σ)[9]? = some (Q.q 9, .inl (Q.c 0, 12, .inl (σ.a 9))) from rfl)
          have hFc := cFree1 hC hA he9
          have hr9 : CS.hs σ ≤ CS.hs R.2 := Mono.go hf (hMK σ x2 (gAt (σ.a 9) 12 x3) (x4 + 1))
          refine va_calli (va_runSN (As := [.ref (Q.q 9), .int x3]) (rest := []) ⟨hx, hb, hml, hown, hts⟩ (c_X11_at l dC dI _ (Q.q 9) (Q.c 0) 12 (σ.a 9) x3 (by decide)) ⟨va_cnB 2 hts hX10_isUnder_X11_at_n32 rfl rfl rfl (hZ.1 (.methodLinkNest RX10 32 yX11_at "StatementRules2") (by decide +kernel)) (hts (.initialized RX11) k_X10_isUnder_initialized_RX11) (by decide +kernel) ⟨(show 1 + 1 ≤ 2 by omega), (show 8 + (2 + 11) + 60 * 1 ≤ 60 * 2 by omega)⟩, (hts (.static yX11_at) k_X10_isUnder_static_yX11_at), trivial⟩ ⟨zPre.blind, zPre.go hZ (cOne hC.1 he9) (hK.sub (tys' := [(Q.c 0, .int)]) [0] rfl) (cOneD hC.2.1 he9)⟩ rfl rfl hl.1 rfl (lv_room (Nat.le_of_ble_eq_true rfl)) dX10_isUnder_28 ⟨cAcc4 h0 hr9, cAcc5 h0 hr9⟩) hC.2.2.1 (fun q _ h => hFc q h) hFc (fun r4 u9 t9 H1 locs ht hvm hw hB hz1 hk1 hS => ?_)
          obtain ⟨⟨hP1, hK1, hD1⟩, hsz1⟩ := hB
          rw [ht] at hP1 hsz1
          have hC := cBack (σ' := σ) hC he9 (cSelf he9) rfl hk1 hP1 hsz1 hS
          generalize H1 = H at hC ⊢
          obtain rfl : r4 = (gAt (σ.a 9) 12 x3) := hw
          refine lv_istore_n (lv' := [(3, .int (gAt (σ.a 9) 12 x3)), (0, .ref (Q.o 1)), (2, .int x2), (4, .int x4)]) hx hb dX10_isUnder_31 rfl hl (by decide) rfl (fun ls hl => ?_)
          refine lv_iinc (v := (x4 + 1)) (lv' := [(4, .int (x4 + 1)), (3, .int (gAt (σ.a 9) 12 x3)), (0, .ref (Q.o 1)), (2, .int x2)]) hx hb dX10_isUnder_32 hl (k := 3) rfl rfl (by decide) rfl (fun ls hl => ?_)
          refine lv_goto (tgt := 5) hx hb dX10_isUnder_35 (by decide) ?_
          exact ih σ x2 (gAt (σ.a 9) 12 x3) (x4 + 1) _ _ _ hf h0 hC (lv_sub hl [2, 3, 1, 0] rfl)
        ·
          replace hf := (if_pos c3).symm.trans hf
          refine lv_iconst (v := 1) hx hb dX10_isUnder_21 (by decide) ?_
          obtain rfl := Option.some.inj hf
          exact W.zret (v := 1) hx hb hr (rfl) (fun t ht hW => ⟨⟨1, (), rfl, rfl, ⟨by rw [ht]; exact hC.1, va_K.moved hW.alike hK, hC.2.1⟩, by rw [ht]; exact hC.2.2.2⟩, hC.2.2.1.F ht⟩) hC.2.2.1.2.2 dX10_isUnder_22
set_option maxHeartbeats 4000000 in
set_option maxRecDepth 100000 in
theorem c_X10_isUnder (l : Launch) (dC : Nat → ClassId) (dI : Nat → Nat → Nat) (Q : CQ) (N : Nat) (σ : CS) (x1 : Int32) (x2 : Int32) (R : Int32 × CS) (hf : f_X10_isUnder N σ x1 x2 = some R) : Met l yX10_isUnder wzX10_isUnder ({ frames := 2, cells := CS.hs R.2 - CS.hs σ, slots := 17 * (CS.hs R.2 - CS.hs σ), locals := 60 * 2 }) (va_Pc [.ref (Q.o 1), .int x1, .int x2] (zPre dC dI (CS.hs σ) (cW Q σ) (cT Q))) (va_Qi (fun (r : Int32) (_ : Unit) => r = R.1) (fun (_ : Unit) (t : State) => zPost dC dI (va_A (cW Q σ) (CS.hs σ)) (cW Q R.2) (cT Q) t ∧ t.heap.size = CS.hs R.2) (va_A (cW Q σ) (CS.hs σ))) (CS.hs R.2 - CS.hs σ) (17 * (CS.hs R.2 - CS.hs σ)) (va_A (cW Q σ) (CS.hs σ)) := by
  refine Met.ofW (cc := cX10_isUnder) (maxL := 5) (ret := (some .boolean)) (by decide) rfl ?_
  intro p e s m args below meth c s₁ B hml hv
  obtain ⟨rfl, hsz, hZ, hP, hK, hD0⟩ := hv
  have hx := B.exec
  have hb := B.bytes
  have hr := B.returns
  have hts := atoms_spec (ws := wzX10_isUnder) B.pre
  have hown : s.vm.findClass RX10 = some m.cls := findClass_of_methodNamed B.named
  have hlocks := B.notSynchronized
  have hD := hD0.self (sz := CS.hs σ)
  generalize hAe : va_A (cW Q σ) (CS.hs σ) = A at hD ⊢
  have hA : ∀ q : Nat, s.heap.size ≤ q → A q := fun q h => by rw [← hAe]; exact Or.inr (hsz ▸ h)
  have hC : CP dC dI Q A s.heap σ s.heap [] := ⟨hP, hD, va_S.rf, hsz⟩
  have h0 : CS.hs σ ≤ CS.hs σ := Nat.le_refl _
  have hl := lv_entry ([.ref (Q.o 1), .int x1, .int x2]) (n := 5) (Nat.le_of_ble_eq_true rfl)
  rw [lg_entry_eq]
  generalize (lg_sl ([.ref (Q.o 1), .int x1, .int x2]) ++ List.replicate (5 - (lg_sl ([.ref (Q.o 1), .int x1, .int x2])).length) Slot.unset).toArray = ls at hl ⊢
  have hl : lv_has ls 5 [(0, .ref (Q.o 1)), (1, .int x1), (2, .int x2)] := hl
  unfold f_X10_isUnder at hf
  refine W.widen (k := CS.hs σ - CS.hs σ) (n := 17 * (CS.hs σ - CS.hs σ)) (Nat.zero_le _) (Nat.zero_le _) ?_
  refine lv_iload_n hx hb dX10_isUnder_0 rfl (lv_at hl 1 rfl) ?_
  refine lv_istore_n (lv' := [(3, .int x1), (0, .ref (Q.o 1)), (1, .int x1), (2, .int x2)]) hx hb dX10_isUnder_1 rfl hl (by decide) rfl (fun ls hl => ?_)
  refine lv_iconst (v := 0) hx hb dX10_isUnder_2 (by decide) ?_
  refine lv_istore (lv' := [(4, .int 0), (3, .int x1), (0, .ref (Q.o 1)), (1, .int x1), (2, .int x2)]) hx hb dX10_isUnder_3 hl (by decide) rfl (fun ls hl => ?_)
  exact j_X10_isUnder_5 l dC dI Q N (CS.hs σ) R hx hb hr hml hown hts hlocks hZ hA hK N σ x2 x1 0 _ _ _ hf h0 hC (lv_sub hl [2, 4, 1, 0] rfl)
theorem i_X3_handle_X2 : ∀ w ∈ wsX20, w ∈ wzX3_handle := fun _ h => List.mem_cons_of_mem _ (List.mem_append_right _ (List.mem_append_left _ (h)))
theorem k_X3_handle_fieldLink_RX3_36_SR_Machine_told_LSR_Told : Cond.fieldLink RX3 36 "StatementRules2$Machine" "told" "LStatementRules2$Told;" ∈ wzX3_handle := List.mem_cons_of_mem _ (List.mem_append_left _ (List.mem_of_getElem? (i := 0) rfl))
theorem i_X3_handle_X3 : ∀ w ∈ wsX30, w ∈ wzX3_handle := fun _ h => List.mem_cons_of_mem _ (List.mem_append_right _ (List.mem_append_right _ (List.mem_append_left _ (h))))
theorem i_X3_handle_X8 : ∀ w ∈ wsX80, w ∈ wzX3_handle := fun _ h => List.mem_cons_of_mem _ (List.mem_append_right _ (List.mem_append_right _ (List.mem_append_right _ (List.mem_append_left _ (h)))))
theorem k_X3_handle_fieldLink_RX3_9_SR_Machine_cells_I : Cond.fieldLink RX3 9 "StatementRules2$Machine" "cells" "[I" ∈ wzX3_handle := List.mem_cons_of_mem _ (List.mem_append_left _ (List.mem_of_getElem? (i := 1) rfl))
theorem k_X3_handle_initialized_RX11 : Cond.initialized RX11 ∈ wzX3_handle := List.mem_cons_of_mem _ (List.mem_append_left _ (List.mem_of_getElem? (i := 2) rfl))
theorem k_X3_handle_static_yX11_put : Cond.static yX11_put ∈ wzX3_handle := List.mem_cons_of_mem _ (List.mem_append_left _ (List.mem_of_getElem? (i := 3) rfl))
set_option maxHeartbeats 4000000 in
set_option maxRecDepth 100000 in
theorem c_X3_handle (l : Launch) (dC : Nat → ClassId) (dI : Nat → Nat → Nat) (Q : CQ) (N : Nat) (σ : CS) (x1 : Int32) (x2 : Int32) (x3 : Option Nat) (R : Unit × CS) (hf : f_X3_handle N σ x1 x2 x3 = some R) : Met l yX3_handle wzX3_handle ({ frames := 3, cells := CS.hs R.2 - CS.hs σ, slots := 17 * (CS.hs R.2 - CS.hs σ), locals := 60 * 3 }) (va_Pc [.ref (Q.o 7), .int x1, .int x2, va_rf x3] (zPre dC dI (CS.hs σ) (cW Q σ) (cT Q))) (va_Qv (fun (_ : Unit) => True) (fun (_ : Unit) (t : State) => zPost dC dI (va_A (cW Q σ) (CS.hs σ)) (cW Q R.2) (cT Q) t ∧ t.heap.size = CS.hs R.2) (va_A (cW Q σ) (CS.hs σ))) (CS.hs R.2 - CS.hs σ) (17 * (CS.hs R.2 - CS.hs σ)) (va_A (cW Q σ) (CS.hs σ)) := by
  refine Met.ofW (cc := cX3_handle) (maxL := 4) (ret := none) (by decide) rfl ?_
  intro p e s m args below meth c s₁ B hml hv
  obtain ⟨rfl, hsz, hZ, hP, hK, hD0⟩ := hv
  have hx := B.exec
  have hb := B.bytes
  have hr := B.returns
  have hts := atoms_spec (ws := wzX3_handle) B.pre
  have hown : s.vm.findClass RX3 = some m.cls := findClass_of_methodNamed B.named
  have hlocks := B.notSynchronized
  have hD := hD0.self (sz := CS.hs σ)
  generalize hAe : va_A (cW Q σ) (CS.hs σ) = A at hD ⊢
  have hA : ∀ q : Nat, s.heap.size ≤ q → A q := fun q h => by rw [← hAe]; exact Or.inr (hsz ▸ h)
  have hC : CP dC dI Q A s.heap σ s.heap [] := ⟨hP, hD, va_S.rf, hsz⟩
  have h0 : CS.hs σ ≤ CS.hs σ := Nat.le_refl _
  have hl := lv_entry ([.ref (Q.o 7), .int x1, .int x2, va_rf x3]) (n := 4) (by cases x3 <;> exact Nat.le_of_ble_eq_true rfl)
  rw [lg_entry_eq]
  generalize (lg_sl ([.ref (Q.o 7), .int x1, .int x2, va_rf x3]) ++ List.replicate (4 - (lg_sl ([.ref (Q.o 7), .int x1, .int x2, va_rf x3])).length) Slot.unset).toArray = ls at hl ⊢
  have hl : lv_has ls 4 [(0, .ref (Q.o 7)), (1, .int x1), (2, .int x2), (3, va_rf x3)] := hl
  unfold f_X3_handle at hf
  refine W.widen (k := CS.hs σ - CS.hs σ) (n := 17 * (CS.hs σ - CS.hs σ)) (Nat.zero_le _) (Nat.zero_le _) ?_
  rcases hf_oc hf with ⟨q1, hf⟩ | ⟨a2, q1, hf⟩
  ·
    subst q1
    have hl : lv_has ls 4 [(0, .ref (Q.o 7)), (1, .int x1), (2, .int x2), (3, .null)] := hl
    refine lv_aload_nN hx hb dX3_handle_0 rfl (lv_at hl 3 rfl) ?_
    refine lv_ifnullN (tgt := 11) hx hb dX3_handle_1 (by decide) ?_
    obtain rfl := Option.some.inj hf
    exact W.vret hx hb hr (fun t ht hW => ⟨⟨(), rfl, trivial, ⟨by rw [ht]; exact hC.1, va_K.moved hW.alike hK, hC.2.1⟩, by rw [ht]; exact hC.2.2.2⟩, hC.2.2.1.F ht⟩) hC.2.2.1.2.2 dX3_handle_11
  ·
    subst q1
    have hl : lv_has ls 4 [(0, .ref (Q.o 7)), (1, .int x1), (2, .int x2), (3, .ref a2)] := hl
    refine lv_aload_n hx hb dX3_handle_0 rfl (lv_at hl 3 rfl) ?_
    refine lv_ifnull hx hb dX3_handle_1 ?_
    refine lv_aload_n hx hb dX3_handle_4 rfl (lv_at hl 3 rfl) ?_
    obtain ⟨b3, hf⟩ := hf_ite hf
    refine pGN_X2_4 (v := (CS.ot σ a2)) hx hb hts i_X3_handle_X2 hown hK hC (va_Nw.use rfl (hZ.1 (.fieldLinkNest RX3 204 "StatementRules2$Frame" "thrown" "LStatementRules2$Thrown;" "StatementRules2") (by decide +kernel))) (fun _ q9 => q9) dX3_handle_5 b3 rfl ?_
    rcases hf_oc hf with ⟨q4, hf⟩ | ⟨a5, q4, hf⟩
    ·
      refine W.eq (congrArg (fun v9 => F0 m 8 ls (va_rf v9 :: [])) q4) ?_
      refine W.eq (g2 := F0 m 8 ls (.null :: [])) rfl ?_
      refine lv_ifnonnullN hx hb dX3_handle_8 ?_
      obtain rfl := Option.some.inj hf
      exact W.vret hx hb hr (fun t ht hW => ⟨⟨(), rfl, trivial, ⟨by rw [ht]; exact hC.1, va_K.moved hW.alike hK, hC.2.1⟩, by rw [ht]; exact hC.2.2.2⟩, hC.2.2.1.F ht⟩) hC.2.2.1.2.2 dX3_handle_11
    ·
      refine W.eq (congrArg (fun v9 => F0 m 8 ls (va_rf v9 :: [])) q4) ?_
      refine W.eq (g2 := F0 m 8 ls (.ref a5 :: [])) rfl ?_
      refine lv_ifnonnull (tgt := 12) hx hb dX3_handle_8 (by decide) ?_
      refine lv_iload_n hx hb dX3_handle_12 rfl (lv_at hl 1 rfl) ?_
      refine lv_bipush (v := 58) hx hb dX3_handle_13 (by decide) ?_
      refine lv_icmp_ne (tgt := 26) hx hb dX3_handle_15 (by decide) (fun c6 => ?_) (fun c6 => ?_)
      ·
        replace hf := (if_neg c6).symm.trans hf
        refine lv_iload_n hx hb dX3_handle_26 rfl (lv_at hl 1 rfl) ?_
        refine lv_bipush (v := 57) hx hb dX3_handle_27 (by decide) ?_
        refine lv_icmp_ne (tgt := 50) hx hb dX3_handle_29 (by decide) (fun c7 => ?_) (fun c7 => ?_)
        ·
          replace hf := (if_neg c7).symm.trans hf
          refine lv_aload_n hx hb dX3_handle_50 rfl (lv_at hl 0 rfl) ?_
          refine lv_aload_n hx hb dX3_handle_51 rfl (lv_at hl 0 rfl) ?_
          refine cG_57 hx hb hts i_X3_handle_X3 hown hK hC (hts (.fieldLink RX3 36 "StatementRules2$Machine" "told" "LStatementRules2$Told;") k_X3_handle_fieldLink_RX3_36_SR_Machine_told_LSR_Told) (fun _ q9 => q9) dX3_handle_52 ?_
          refine lv_aload_n hx hb dX3_handle_55 rfl (lv_at hl 3 rfl) ?_
          refine pGN_X2_4 (v := (CS.ot σ a2)) hx hb hts i_X3_handle_X2 hown hK hC (va_Nw.use rfl (hZ.1 (.fieldLinkNest RX3 204 "StatementRules2$Frame" "thrown" "LStatementRules2$Thrown;" "StatementRules2") (by decide +kernel))) (fun _ q9 => q9) dX3_handle_56 b3 rfl ?_
          rcases hf_oc hf with ⟨q8, hf⟩ | ⟨a9, q8, hf⟩
          ·
            refine W.eq (congrArg (fun v9 => F0 m 59 ls (va_rf v9 :: [.ref (Q.o 1), .ref (Q.o 7)])) q8) ?_
            refine W.eq (g2 := F0 m 59 ls (.null :: [.ref (Q.o 1), .ref (Q.o 7)])) rfl ?_
            cases hf
          ·
            refine W.eq (congrArg (fun v9 => F0 m 59 ls (va_rf v9 :: [.ref (Q.o 1), .ref (Q.o 7)])) q8) ?_
            refine W.eq (g2 := F0 m 59 ls (.ref a9 :: [.ref (Q.o 1), .ref (Q.o 7)])) rfl ?_
            obtain ⟨b10, hf⟩ := hf_ite hf
            refine pGN_X8_2 (v := (CS.o σ a9 2)) hx hb hts i_X3_handle_X8 hown hK hC (va_Nw.use rfl (hZ.1 (.fieldLinkNest RX3 99 "StatementRules2$Thrown" "sort" "I" "StatementRules2") (by decide +kernel))) (fun _ q9 => q9) dX3_handle_59 b10 rfl ?_
            refine lv_iload_n hx hb dX3_handle_62 rfl (lv_at hl 2 rfl) ?_
            refine lv_bipush (v := 16) hx hb dX3_handle_63 (by decide) ?_
            refine lv_irem hx hb dX3_handle_65 (by decide) ?_
            obtain ⟨p11, hcp11, hf⟩ := hf_bind hf
            have hm12 : CS.hs σ ≤ CS.hs p11.2 := Mono.go hcp11 (m_X10_isUnder N σ (CS.o σ a9 2) (x2 - x2 / 16 * 16))
            have hr9 : CS.hs p11.2 ≤ CS.hs R.2 := Mono.go hf (mono_bind (m_X3_goIf N p11.2 p11.1 (x2 / 16)) (fun p15 => (mono_some (Nat.le_refl _))))
            have hFc := cFree hC hA
            refine va_calli (va_runV (As := [.int (CS.o σ a9 2), .int (x2 - x2 / 16 * 16)]) (rest := [.ref (Q.o 7)]) ⟨hx, hb, hml, hown, hts⟩ (c_X10_isUnder l dC dI Q N σ (CS.o σ a9 2) (x2 - x2 / 16 * 16) p11 hcp11) (cwV 2 hts hX3_handle_X10_isUnder_v231 rfl rfl rfl (by decide +kernel) ⟨(show 2 + 1 ≤ 3 by omega), (show 8 + (5 + 11) + 60 * 2 ≤ 60 * 3 by omega)⟩) ⟨zPre.blind, va_recv hK hC.1 (ci := 9) (q0 := 1) rfl rfl, cPre_go hZ hK hC⟩ rfl rfl hl.1 rfl (lv_room (Nat.le_of_ble_eq_true rfl)) dX3_handle_66 (cAcc h0 hm12 hr9)) hC.2.2.1 (fun q _ h => hFc q h) hFc (fun r13 u9 t9 H1 locs ht hvm hw hB hz1 hk1 hS => ?_)
            obtain ⟨⟨hP, hK1, hD1⟩, hsz1⟩ := hB
            rw [ht] at hP hsz1
            have hC : CP dC dI Q A s.heap p11.2 H1 locs := ⟨hP, hD1.weaken (fun _ _ _ h => hFc _ h), hS, hsz1⟩
            generalize H1 = H at hC ⊢
            have h14 : (CS.hs σ) ≤ CS.hs p11.2 := Nat.le_trans h0 hm12
            refine W.widen (k := CS.hs p11.2 - (CS.hs σ)) (n := 17 * (CS.hs p11.2 - (CS.hs σ))) (cAcc2 h0 hm12) (cAcc3 h0 hm12) ?_
            obtain rfl : r13 = p11.1 := hw
            refine lv_iload_n hx hb dX3_handle_69 rfl (lv_at hl 2 rfl) ?_
            refine lv_bipush (v := 16) hx hb dX3_handle_70 (by decide) ?_
            refine lv_idiv hx hb dX3_handle_72 (by decide) ?_
            obtain ⟨p15, hcp15, hf⟩ := hf_bind hf
            have hm16 : CS.hs p11.2 ≤ CS.hs p15.2 := Mono.go hcp15 (m_X3_goIf N p11.2 p11.1 (x2 / 16))
            have hr9 : CS.hs p15.2 ≤ CS.hs R.2 := Mono.go hf (mono_some (Nat.le_refl _))
            have hFc := cFree hC hA
            refine va_callv (va_runV (As := [.int p11.1, .int (x2 / 16)]) (rest := []) ⟨hx, hb, hml, hown, hts⟩ (c_X3_goIf l dC dI Q N p11.2 p11.1 (x2 / 16) p15 hcp15) (cwV 2 hts hX3_handle_X3_goIf_v156 rfl rfl rfl (by decide +kernel) ⟨(show 2 + 1 ≤ 3 by omega), (show 8 + (3 + 11) + 60 * 2 ≤ 60 * 3 by omega)⟩) ⟨zPre.blind, va_recv hK hC.1 (ci := 2) (q0 := 7) rfl rfl, cPre_go hZ hK hC⟩ rfl rfl hl.1 rfl (lv_room (Nat.le_of_ble_eq_true rfl)) dX3_handle_73 (cAcc h14 hm16 hr9)) hC.2.2.1 (fun q _ h => hFc q h) hFc (fun u9 t9 H1 locs ht hvm hw hB hz1 hk1 hS => ?_)
            obtain ⟨⟨hP, hK1, hD1⟩, hsz1⟩ := hB
            rw [ht] at hP hsz1
            have hC : CP dC dI Q A s.heap p15.2 H1 locs := ⟨hP, hD1.weaken (fun _ _ _ h => hFc _ h), hS, hsz1⟩
            generalize H1 = H at hC ⊢
            have h18 : (CS.hs σ) ≤ CS.hs p15.2 := Nat.le_trans h14 hm16
            refine W.widen (k := CS.hs p15.2 - (CS.hs σ)) (n := 17 * (CS.hs p15.2 - (CS.hs σ))) (cAcc2 h14 hm16) (cAcc3 h14 hm16) ?_
            obtain rfl := Option.some.inj hf
            exact W.vret hx hb hr (fun t ht hW => ⟨⟨(), rfl, trivial, ⟨by rw [ht]; exact hC.1, va_K.moved hW.alike hK, hC.2.1⟩, by rw [ht]; exact hC.2.2.2⟩, hC.2.2.1.F ht⟩) hC.2.2.1.2.2 dX3_handle_76
        ·
          replace hf := (if_pos c7).symm.trans hf
          refine lv_aload_n hx hb dX3_handle_32 rfl (lv_at hl 0 rfl) ?_
          refine cG_59 hx hb hts i_X3_handle_X3 hown hK hC (hts (.fieldLink RX3 9 "StatementRules2$Machine" "cells" "[I") k_X3_handle_fieldLink_RX3_9_SR_Machine_cells_I) (fun _ q9 => q9) dX3_handle_33 ?_
          refine lv_iload_n hx hb dX3_handle_36 rfl (lv_at hl 2 rfl) ?_
          refine lv_aload_n hx hb dX3_handle_37 rfl (lv_at hl 3 rfl) ?_
          refine pGN_X2_4 (v := (CS.ot σ a2)) hx hb hts i_X3_handle_X2 hown hK hC (va_Nw.use rfl (hZ.1 (.fieldLinkNest RX3 204 "StatementRules2$Frame" "thrown" "LStatementRules2$Thrown;" "StatementRules2") (by decide +kernel))) (fun _ q9 => q9) dX3_handle_38 b3 rfl ?_
          rcases hf_oc hf with ⟨q19, hf⟩ | ⟨a20, q19, hf⟩
          ·
            refine W.eq (congrArg (fun v9 => F0 m 41 ls (va_rf v9 :: [.int x2, .ref (Q.q 59)])) q19) ?_
            refine W.eq (g2 := F0 m 41 ls (.null :: [.int x2, .ref (Q.q 59)])) rfl ?_
            cases hf
          ·
            refine W.eq (congrArg (fun v9 => F0 m 41 ls (va_rf v9 :: [.int x2, .ref (Q.q 59)])) q19) ?_
            refine W.eq (g2 := F0 m 41 ls (.ref a20 :: [.int x2, .ref (Q.q 59)])) rfl ?_
            obtain ⟨b21, hf⟩ := hf_ite hf
            refine pGN_X8_3 (v := (CS.o σ a20 3)) hx hb hts i_X3_handle_X8 hown hK hC (va_Nw.use rfl (hZ.1 (.fieldLinkNest RX3 102 "StatementRules2$Thrown" "number" "I" "StatementRules2") (by decide +kernel))) (fun _ q9 => q9) dX3_handle_41 b21 rfl ?_
            have he9 := (show (cW Q σ)[24]? = some (Q.q 59, .inl (Q.c 0, 720, .inl (σ.a 59))) from rfl)
            have hFc := cFree1 hC hA he9
            have hr9 : CS.hs σ ≤ CS.hs R.2 := Mono.go hf (mono_some (Nat.le_refl _))
            refine va_callv (va_runSN (As := [.ref (Q.q 59), .int x2, .int (CS.o σ a20 3)]) (rest := []) ⟨hx, hb, hml, hown, hts⟩ (c_X11_put l dC dI _ (Q.q 59) (Q.c 0) 720 (σ.a 59) x2 (CS.o σ a20 3) (by decide)) ⟨va_cnB 3 hts hX3_handle_X11_put_n50 rfl rfl rfl (hZ.1 (.methodLinkNest RX3 50 yX11_put "StatementRules2") (by decide +kernel)) (hts (.initialized RX11) k_X3_handle_initialized_RX11) (by decide +kernel) ⟨(show 1 + 1 ≤ 3 by omega), (show 8 + (3 + 11) + 60 * 1 ≤ 60 * 3 by omega)⟩, (hts (.static yX11_put) k_X3_handle_static_yX11_put), trivial⟩ ⟨zPre.blind, zPre.go hZ (cOne hC.1 he9) (hK.sub (tys' := [(Q.c 0, .int)]) [0] rfl) (cOneD hC.2.1 he9)⟩ rfl rfl hl.1 rfl (lv_room (Nat.le_of_ble_eq_true rfl)) dX3_handle_44 ⟨cAcc4 h0 hr9, cAcc5 h0 hr9⟩) hC.2.2.1 (fun q _ h => hFc q h) hFc (fun u9 t9 H1 locs ht hvm hw hB hz1 hk1 hS => ?_)
            obtain ⟨⟨hP1, hK1, hD1⟩, hsz1⟩ := hB
            rw [ht] at hP1 hsz1
            have hC := cBack (σ' := CS.putA σ 59 (gPut (σ.a 59) 720 x2 (CS.o σ a20 3))) hC he9 rfl rfl hk1 hP1 hsz1 hS
            generalize H1 = H at hC ⊢
            refine lv_goto (tgt := 76) hx hb dX3_handle_47 (by decide) ?_
            obtain rfl := Option.some.inj hf
            exact W.vret hx hb hr (fun t ht hW => ⟨⟨(), rfl, trivial, ⟨by rw [ht]; exact hC.1, va_K.moved hW.alike hK, hC.2.1⟩, by rw [ht]; exact hC.2.2.2⟩, hC.2.2.1.F ht⟩) hC.2.2.1.2.2 dX3_handle_76
      ·
        replace hf := (if_pos c6).symm.trans hf
        refine lv_aload_n hx hb dX3_handle_18 rfl (lv_at hl 0 rfl) ?_
        refine lv_aload_n hx hb dX3_handle_19 rfl (lv_at hl 3 rfl) ?_
        obtain ⟨p22, hcp22, hf⟩ := hf_bind hf
        have hm23 : CS.hs σ ≤ CS.hs p22.2 := Mono.go hcp22 (m_X3_throwAgain N σ (some a2))
        have hr9 : CS.hs p22.2 ≤ CS.hs R.2 := Mono.go hf (mono_some (Nat.le_refl _))
        have hFc := cFree hC hA
        refine va_callv (va_runV (As := [.ref a2]) (rest := []) ⟨hx, hb, hml, hown, hts⟩ (c_X3_throwAgain l dC dI Q N σ (some a2) p22 hcp22) (cwV 1 hts hX3_handle_X3_throwAgain_v220 rfl rfl rfl (by decide +kernel) ⟨(show 2 + 1 ≤ 3 by omega), (show 8 + (2 + 11) + 60 * 2 ≤ 60 * 3 by omega)⟩) ⟨zPre.blind, va_recv hK hC.1 (ci := 2) (q0 := 7) rfl rfl, cPre_go hZ hK hC⟩ rfl rfl hl.1 rfl (lv_room (Nat.le_of_ble_eq_true rfl)) dX3_handle_20 (cAcc h0 hm23 hr9)) hC.2.2.1 (fun q _ h => hFc q h) hFc (fun u9 t9 H1 locs ht hvm hw hB hz1 hk1 hS => ?_)
        obtain ⟨⟨hP, hK1, hD1⟩, hsz1⟩ := hB
        rw [ht] at hP hsz1
        have hC : CP dC dI Q A s.heap p22.2 H1 locs := ⟨hP, hD1.weaken (fun _ _ _ h => hFc _ h), hS, hsz1⟩
        generalize H1 = H at hC ⊢
        have h25 : (CS.hs σ) ≤ CS.hs p22.2 := Nat.le_trans h0 hm23
        refine W.widen (k := CS.hs p22.2 - (CS.hs σ)) (n := 17 * (CS.hs p22.2 - (CS.hs σ))) (cAcc2 h0 hm23) (cAcc3 h0 hm23) ?_
        refine lv_goto (tgt := 76) hx hb dX3_handle_23 (by decide) ?_
        obtain rfl := Option.some.inj hf
        exact W.vret hx hb hr (fun t ht hW => ⟨⟨(), rfl, trivial, ⟨by rw [ht]; exact hC.1, va_K.moved hW.alike hK, hC.2.1⟩, by rw [ht]; exact hC.2.2.2⟩, hC.2.2.1.F ht⟩) hC.2.2.1.2.2 dX3_handle_76
theorem k_X3_turn_fieldLink_RX3_60_SR_Machine_depth_I : Cond.fieldLink RX3 60 "StatementRules2$Machine" "depth" "I" ∈ wzX3_turn := List.mem_cons_of_mem _ (List.mem_append_left _ (List.mem_of_getElem? (i := 0) rfl))
theorem i_X3_turn_X3 : ∀ w ∈ wsX30, w ∈ wzX3_turn := fun _ h => List.mem_cons_of_mem _ (List.mem_append_right _ (List.mem_append_left _ (h)))
set_option maxHeartbeats 4000000 in
set_option maxRecDepth 100000 in
theorem c_X3_turn (l : Launch) (dC : Nat → ClassId) (dI : Nat → Nat → Nat) (Q : CQ) (N : Nat) (σ : CS) (x1 : Int32) (x2 : Int32) (R : Unit × CS) (hf : f_X3_turn N σ x1 x2 = some R) : Met l yX3_turn wzX3_turn ({ frames := 4, cells := CS.hs R.2 - CS.hs σ, slots := 17 * (CS.hs R.2 - CS.hs σ), locals := 60 * 4 }) (va_Pc [.ref (Q.o 7), .int x1, .int x2] (zPre dC dI (CS.hs σ) (cW Q σ) (cT Q))) (va_Qv (fun (_ : Unit) => True) (fun (_ : Unit) (t : State) => zPost dC dI (va_A (cW Q σ) (CS.hs σ)) (cW Q R.2) (cT Q) t ∧ t.heap.size = CS.hs R.2) (va_A (cW Q σ) (CS.hs σ))) (CS.hs R.2 - CS.hs σ) (17 * (CS.hs R.2 - CS.hs σ)) (va_A (cW Q σ) (CS.hs σ)) := by
  refine Met.ofW (cc := cX3_turn) (maxL := 3) (ret := none) (by decide) rfl ?_
  intro p e s m args below meth c s₁ B hml hv
  obtain ⟨rfl, hsz, hZ, hP, hK, hD0⟩ := hv
  have hx := B.exec
  have hb := B.bytes
  have hr := B.returns
  have hts := atoms_spec (ws := wzX3_turn) B.pre
  have hown : s.vm.findClass RX3 = some m.cls := findClass_of_methodNamed B.named
  have hlocks := B.notSynchronized
  have hD := hD0.self (sz := CS.hs σ)
  generalize hAe : va_A (cW Q σ) (CS.hs σ) = A at hD ⊢
  have hA : ∀ q : Nat, s.heap.size ≤ q → A q := fun q h => by rw [← hAe]; exact Or.inr (hsz ▸ h)
  have hC : CP dC dI Q A s.heap σ s.heap [] := ⟨hP, hD, va_S.rf, hsz⟩
  have h0 : CS.hs σ ≤ CS.hs σ := Nat.le_refl _
  have hl := lv_entry ([.ref (Q.o 7), .int x1, .int x2]) (n := 3) (Nat.le_of_ble_eq_true rfl)
  rw [lg_entry_eq]
  generalize (lg_sl ([.ref (Q.o 7), .int x1, .int x2]) ++ List.replicate (3 - (lg_sl ([.ref (Q.o 7), .int x1, .int x2])).length) Slot.unset).toArray = ls at hl ⊢
  have hl : lv_has ls 3 [(0, .ref (Q.o 7)), (1, .int x1), (2, .int x2)] := hl
  unfold f_X3_turn at hf
  refine W.widen (k := CS.hs σ - CS.hs σ) (n := 17 * (CS.hs σ - CS.hs σ)) (Nat.zero_le _) (Nat.zero_le _) ?_
  refine lv_iload_n hx hb dX3_turn_0 rfl (lv_at hl 1 rfl) ?_
  by_cases c1 : x1 = 59
  ·
    replace hf := (if_pos c1).symm.trans hf
    refine lv_tableIn (off := 99) (tgt := 100) hx hb dX3_turn_1 (by rw [c1]; decide) (by rw [c1]; decide) (by rw [c1]; decide) (by decide) ?_
    refine lv_aload_n hx hb dX3_turn_100 rfl (lv_at hl 0 rfl) ?_
    refine lv_aload_n hx hb dX3_turn_101 rfl (lv_at hl 0 rfl) ?_
    refine lv_aload_n hx hb dX3_turn_102 rfl (lv_at hl 0 rfl) ?_
    refine cG_67 (v := (σ.i 67)) hx hb hts i_X3_turn_X3 hown hK hC (hts (.fieldLink RX3 60 "StatementRules2$Machine" "depth" "I") k_X3_turn_fieldLink_RX3_60_SR_Machine_depth_I) (fun _ q9 => q9) dX3_turn_103 rfl ?_
    refine lv_iconst (v := 1) hx hb dX3_turn_106 (by decide) ?_
    refine lv_isub hx hb dX3_turn_107 ?_
    obtain ⟨p2, hcp2, hf⟩ := hf_bind hf
    have hm3 : CS.hs σ ≤ CS.hs p2.2 := Mono.go hcp2 (m_X3_frame N σ ((σ.i 67) - 1))
    have hr9 : CS.hs p2.2 ≤ CS.hs R.2 := Mono.go hf (mono_oc (mono_bind (m_X3_resume N p2.2 none) (fun p8 => (mono_some (Nat.le_refl _)))) (fun a7 => (mono_bind (m_X3_resume N p2.2 (some a7)) (fun p12 => (mono_some (Nat.le_refl _))))))
    have hFc := cFree hC hA
    refine va_callq (va_runV (As := [.int ((σ.i 67) - 1)]) (rest := [.ref (Q.o 7)]) ⟨hx, hb, hml, hown, hts⟩ (c_X3_frame l dC dI Q N σ ((σ.i 67) - 1) p2 hcp2) (cwV 1 hts hX3_turn_X3_frame_v216 rfl rfl rfl (by decide +kernel) ⟨(show 1 + 1 ≤ 4 by omega), (show 8 + (2 + 11) + 60 * 1 ≤ 60 * 4 by omega)⟩) ⟨zPre.blind, va_recv hK hC.1 (ci := 2) (q0 := 7) rfl rfl, cPre_go hZ hK hC⟩ rfl rfl hl.1 rfl (lv_room (Nat.le_of_ble_eq_true rfl)) dX3_turn_108 (cAcc h0 hm3 hr9)) hC.2.2.1 (fun q _ h => hFc q h) hFc (fun r4 u9 t9 H1 locs ht hvm hw hB hz1 hk1 hS => ?_)
    obtain ⟨⟨hP, hK1, hD1⟩, hsz1⟩ := hB
    rw [ht] at hP hsz1
    have hC : CP dC dI Q A s.heap p2.2 H1 locs := ⟨hP, hD1.weaken (fun _ _ _ h => hFc _ h), hS, hsz1⟩
    generalize H1 = H at hC ⊢
    have h5 : (CS.hs σ) ≤ CS.hs p2.2 := Nat.le_trans h0 hm3
    refine W.widen (k := CS.hs p2.2 - (CS.hs σ)) (n := 17 * (CS.hs p2.2 - (CS.hs σ))) (cAcc2 h0 hm3) (cAcc3 h0 hm3) ?_
    obtain rfl : r4 = p2.1 := hw
    rcases hf_oc hf with ⟨q6, hf⟩ | ⟨a7, q6, hf⟩
    ·
      refine W.eq (congrArg (fun v9 => F0 m 111 ls (va_rf v9 :: [.ref (Q.o 7)])) q6) ?_
      refine W.eq (g2 := F0 m 111 ls (.null :: [.ref (Q.o 7)])) rfl ?_
      obtain ⟨p8, hcp8, hf⟩ := hf_bind hf
      have hm9 : CS.hs p2.2 ≤ CS.hs p8.2 := Mono.go hcp8 (m_X3_resume N p2.2 none)
      have hr9 : CS.hs p8.2 ≤ CS.hs R.2 := Mono.go hf (mono_some (Nat.le_refl _))
      have hFc := cFree hC hA
      refine va_callv (va_runV (As := [.null]) (rest := []) ⟨hx, hb, hml, hown, hts⟩ (c_X3_resume l dC dI Q N p2.2 none p8 hcp8) (cwV 1 hts hX3_turn_X3_resume_v224 rfl rfl rfl (by decide +kernel) ⟨(show 2 + 1 ≤ 4 by omega), (show 8 + (2 + 11) + 60 * 2 ≤ 60 * 4 by omega)⟩) ⟨zPre.blind, va_recv hK hC.1 (ci := 2) (q0 := 7) rfl rfl, cPre_go hZ hK hC⟩ rfl rfl hl.1 rfl (lv_room (Nat.le_of_ble_eq_true rfl)) dX3_turn_111 (cAcc h5 hm9 hr9)) hC.2.2.1 (fun q _ h => hFc q h) hFc (fun u9 t9 H1 locs ht hvm hw hB hz1 hk1 hS => ?_)
      obtain ⟨⟨hP, hK1, hD1⟩, hsz1⟩ := hB
      rw [ht] at hP hsz1
      have hC : CP dC dI Q A s.heap p8.2 H1 locs := ⟨hP, hD1.weaken (fun _ _ _ h => hFc _ h), hS, hsz1⟩
      generalize H1 = H at hC ⊢
      have h11 : (CS.hs σ) ≤ CS.hs p8.2 := Nat.le_trans h5 hm9
      refine W.widen (k := CS.hs p8.2 - (CS.hs σ)) (n := 17 * (CS.hs p8.2 - (CS.hs σ))) (cAcc2 h5 hm9) (cAcc3 h5 hm9) ?_
      refine lv_goto (tgt := 133) hx hb dX3_turn_114 (by decide) ?_
      obtain rfl := Option.some.inj hf
      exact W.vret hx hb hr (fun t ht hW => ⟨⟨(), rfl, trivial, ⟨by rw [ht]; exact hC.1, va_K.moved hW.alike hK, hC.2.1⟩, by rw [ht]; exact hC.2.2.2⟩, hC.2.2.1.F ht⟩) hC.2.2.1.2.2 dX3_turn_133
    ·
      refine W.eq (congrArg (fun v9 => F0 m 111 ls (va_rf v9 :: [.ref (Q.o 7)])) q6) ?_
      refine W.eq (g2 := F0 m 111 ls (.ref a7 :: [.ref (Q.o 7)])) rfl ?_
      obtain ⟨p12, hcp12, hf⟩ := hf_bind hf
      have hm13 : CS.hs p2.2 ≤ CS.hs p12.2 := Mono.go hcp12 (m_X3_resume N p2.2 (some a7))
      have hr9 : CS.hs p12.2 ≤ CS.hs R.2 := Mono.go hf (mono_some (Nat.le_refl _))
      have hFc := cFree hC hA
      refine va_callv (va_runV (As := [.ref a7]) (rest := []) ⟨hx, hb, hml, hown, hts⟩ (c_X3_resume l dC dI Q N p2.2 (some a7) p12 hcp12) (cwV 1 hts hX3_turn_X3_resume_v224 rfl rfl rfl (by decide +kernel) ⟨(show 2 + 1 ≤ 4 by omega), (show 8 + (2 + 11) + 60 * 2 ≤ 60 * 4 by omega)⟩) ⟨zPre.blind, va_recv hK hC.1 (ci := 2) (q0 := 7) rfl rfl, cPre_go hZ hK hC⟩ rfl rfl hl.1 rfl (lv_room (Nat.le_of_ble_eq_true rfl)) dX3_turn_111 (cAcc h5 hm13 hr9)) hC.2.2.1 (fun q _ h => hFc q h) hFc (fun u9 t9 H1 locs ht hvm hw hB hz1 hk1 hS => ?_)
      obtain ⟨⟨hP, hK1, hD1⟩, hsz1⟩ := hB
      rw [ht] at hP hsz1
      have hC : CP dC dI Q A s.heap p12.2 H1 locs := ⟨hP, hD1.weaken (fun _ _ _ h => hFc _ h), hS, hsz1⟩
      generalize H1 = H at hC ⊢
      have h15 : (CS.hs σ) ≤ CS.hs p12.2 := Nat.le_trans h5 hm13
      refine W.widen (k := CS.hs p12.2 - (CS.hs σ)) (n := 17 * (CS.hs p12.2 - (CS.hs σ))) (cAcc2 h5 hm13) (cAcc3 h5 hm13) ?_
      refine lv_goto (tgt := 133) hx hb dX3_turn_114 (by decide) ?_
      obtain rfl := Option.some.inj hf
      exact W.vret hx hb hr (fun t ht hW => ⟨⟨(), rfl, trivial, ⟨by rw [ht]; exact hC.1, va_K.moved hW.alike hK, hC.2.1⟩, by rw [ht]; exact hC.2.2.2⟩, hC.2.2.1.F ht⟩) hC.2.2.1.2.2 dX3_turn_133
  replace hf := (if_neg c1).symm.trans hf
  by_cases c16 : x1 = 60
  ·
    replace hf := (if_pos c16).symm.trans hf
    refine lv_tableIn (off := 39) (tgt := 40) hx hb dX3_turn_1 (by rw [c16]; decide) (by rw [c16]; decide) (by rw [c16]; decide) (by decide) ?_
    refine lv_aload_n hx hb dX3_turn_40 rfl (lv_at hl 0 rfl) ?_
    refine lv_iconst (v := 1) hx hb dX3_turn_41 (by decide) ?_
    refine lv_iconst (v := 0) hx hb dX3_turn_42 (by decide) ?_
    refine lv_iload_n hx hb dX3_turn_43 rfl (lv_at hl 2 rfl) ?_
    obtain ⟨p17, hcp17, hf⟩ := hf_bind hf
    have hm18 : CS.hs σ ≤ CS.hs p17.2 := Mono.go hcp17 (m_X3_go N σ 1 0 x2)
    have hr9 : CS.hs p17.2 ≤ CS.hs R.2 := Mono.go hf (mono_some (Nat.le_refl _))
    have hFc := cFree hC hA
    refine va_callv (va_runV (As := [.int 1, .int 0, .int x2]) (rest := []) ⟨hx, hb, hml, hown, hts⟩ (c_X3_go l dC dI Q N σ 1 0 x2 p17 hcp17) (cwV 3 hts hX3_turn_X3_go_v213 rfl rfl rfl (by decide +kernel) ⟨(show 1 + 1 ≤ 4 by omega), (show 8 + (4 + 11) + 60 * 1 ≤ 60 * 4 by omega)⟩) ⟨zPre.blind, va_recv hK hC.1 (ci := 2) (q0 := 7) rfl rfl, cPre_go hZ hK hC⟩ rfl rfl hl.1 rfl (lv_room (Nat.le_of_ble_eq_true rfl)) dX3_turn_44 (cAcc h0 hm18 hr9)) hC.2.2.1 (fun q _ h => hFc q h) hFc (fun u9 t9 H1 locs ht hvm hw hB hz1 hk1 hS => ?_)
    obtain ⟨⟨hP, hK1, hD1⟩, hsz1⟩ := hB
    rw [ht] at hP hsz1
    have hC : CP dC dI Q A s.heap p17.2 H1 locs := ⟨hP, hD1.weaken (fun _ _ _ h => hFc _ h), hS, hsz1⟩
    generalize H1 = H at hC ⊢
    have h20 : (CS.hs σ) ≤ CS.hs p17.2 := Nat.le_trans h0 hm18
    refine W.widen (k := CS.hs p17.2 - (CS.hs σ)) (n := 17 * (CS.hs p17.2 - (CS.hs σ))) (cAcc2 h0 hm18) (cAcc3 h0 hm18) ?_
    refine lv_goto (tgt := 133) hx hb dX3_turn_47 (by decide) ?_
    obtain rfl := Option.some.inj hf
    exact W.vret hx hb hr (fun t ht hW => ⟨⟨(), rfl, trivial, ⟨by rw [ht]; exact hC.1, va_K.moved hW.alike hK, hC.2.1⟩, by rw [ht]; exact hC.2.2.2⟩, hC.2.2.1.F ht⟩) hC.2.2.1.2.2 dX3_turn_133
  replace hf := (if_neg c16).symm.trans hf
  by_cases c21 : x1 = 61
  ·
    replace hf := (if_pos c21).symm.trans hf
    refine lv_tableIn (off := 49) (tgt := 50) hx hb dX3_turn_1 (by rw [c21]; decide) (by rw [c21]; decide) (by rw [c21]; decide) (by decide) ?_
    refine lv_aload_n hx hb dX3_turn_50 rfl (lv_at hl 0 rfl) ?_
    refine lv_iconst (v := 2) hx hb dX3_turn_51 (by decide) ?_
    refine lv_aload_n hx hb dX3_turn_52 rfl (lv_at hl 0 rfl) ?_
    obtain ⟨p22, hcp22, hf⟩ := hf_bind hf
    have hm23 : CS.hs σ ≤ CS.hs p22.2 := Mono.go hcp22 (m_X3_pop N σ)
    have hr9 : CS.hs p22.2 ≤ CS.hs R.2 := Mono.go hf (mono_bind (m_X3_go N p22.2 2 p22.1 x2) (fun p26 => (mono_some (Nat.le_refl _))))
    have hFc := cFree hC hA
    refine va_calli (va_runV (As := []) (rest := [.int 2, .ref (Q.o 7)]) ⟨hx, hb, hml, hown, hts⟩ (c_X3_pop l dC dI Q N σ p22 hcp22) (cwV 0 hts hX3_turn_X3_pop_v138 rfl rfl rfl (by decide +kernel) ⟨(show 2 + 1 ≤ 4 by omega), (show 8 + (1 + 11) + 60 * 2 ≤ 60 * 4 by omega)⟩) ⟨zPre.blind, va_recv hK hC.1 (ci := 2) (q0 := 7) rfl rfl, cPre_go hZ hK hC⟩ rfl rfl hl.1 rfl (lv_room (Nat.le_of_ble_eq_true rfl)) dX3_turn_53 (cAcc h0 hm23 hr9)) hC.2.2.1 (fun q _ h => hFc q h) hFc (fun r24 u9 t9 H1 locs ht hvm hw hB hz1 hk1 hS => ?_)
    obtain ⟨⟨hP, hK1, hD1⟩, hsz1⟩ := hB
    rw [ht] at hP hsz1
    have hC : CP dC dI Q A s.heap p22.2 H1 locs := ⟨hP, hD1.weaken (fun _ _ _ h => hFc _ h), hS, hsz1⟩
    generalize H1 = H at hC ⊢
    have h25 : (CS.hs σ) ≤ CS.hs p22.2 := Nat.le_trans h0 hm23
    refine W.widen (k := CS.hs p22.2 - (CS.hs σ)) (n := 17 * (CS.hs p22.2 - (CS.hs σ))) (cAcc2 h0 hm23) (cAcc3 h0 hm23) ?_
    obtain rfl : r24 = p22.1 := hw
    refine lv_iload_n hx hb dX3_turn_56 rfl (lv_at hl 2 rfl) ?_
    obtain ⟨p26, hcp26, hf⟩ := hf_bind hf
    have hm27 : CS.hs p22.2 ≤ CS.hs p26.2 := Mono.go hcp26 (m_X3_go N p22.2 2 p22.1 x2)
    have hr9 : CS.hs p26.2 ≤ CS.hs R.2 := Mono.go hf (mono_some (Nat.le_refl _))
    have hFc := cFree hC hA
    refine va_callv (va_runV (As := [.int 2, .int p22.1, .int x2]) (rest := []) ⟨hx, hb, hml, hown, hts⟩ (c_X3_go l dC dI Q N p22.2 2 p22.1 x2 p26 hcp26) (cwV 3 hts hX3_turn_X3_go_v213 rfl rfl rfl (by decide +kernel) ⟨(show 1 + 1 ≤ 4 by omega), (show 8 + (4 + 11) + 60 * 1 ≤ 60 * 4 by omega)⟩) ⟨zPre.blind, va_recv hK hC.1 (ci := 2) (q0 := 7) rfl rfl, cPre_go hZ hK hC⟩ rfl rfl hl.1 rfl (lv_room (Nat.le_of_ble_eq_true rfl)) dX3_turn_57 (cAcc h25 hm27 hr9)) hC.2.2.1 (fun q _ h => hFc q h) hFc (fun u9 t9 H1 locs ht hvm hw hB hz1 hk1 hS => ?_)
    obtain ⟨⟨hP, hK1, hD1⟩, hsz1⟩ := hB
    rw [ht] at hP hsz1
    have hC : CP dC dI Q A s.heap p26.2 H1 locs := ⟨hP, hD1.weaken (fun _ _ _ h => hFc _ h), hS, hsz1⟩
    generalize H1 = H at hC ⊢
    have h29 : (CS.hs σ) ≤ CS.hs p26.2 := Nat.le_trans h25 hm27
    refine W.widen (k := CS.hs p26.2 - (CS.hs σ)) (n := 17 * (CS.hs p26.2 - (CS.hs σ))) (cAcc2 h25 hm27) (cAcc3 h25 hm27) ?_
    refine lv_goto (tgt := 133) hx hb dX3_turn_60 (by decide) ?_
    obtain rfl := Option.some.inj hf
    exact W.vret hx hb hr (fun t ht hW => ⟨⟨(), rfl, trivial, ⟨by rw [ht]; exact hC.1, va_K.moved hW.alike hK, hC.2.1⟩, by rw [ht]; exact hC.2.2.2⟩, hC.2.2.1.F ht⟩) hC.2.2.1.2.2 dX3_turn_133
  replace hf := (if_neg c21).symm.trans hf
  by_cases c30 : x1 = 62
  ·
    replace hf := (if_pos c30).symm.trans hf
    refine lv_tableIn (off := 62) (tgt := 63) hx hb dX3_turn_1 (by rw [c30]; decide) (by rw [c30]; decide) (by rw [c30]; decide) (by decide) ?_
    refine lv_aload_n hx hb dX3_turn_63 rfl (lv_at hl 0 rfl) ?_
    refine lv_iconst (v := 3) hx hb dX3_turn_64 (by decide) ?_
    refine lv_aload_n hx hb dX3_turn_65 rfl (lv_at hl 0 rfl) ?_
    obtain ⟨p31, hcp31, hf⟩ := hf_bind hf
    have hm32 : CS.hs σ ≤ CS.hs p31.2 := Mono.go hcp31 (m_X3_pop N σ)
    have hr9 : CS.hs p31.2 ≤ CS.hs R.2 := Mono.go hf (mono_bind (m_X3_go N p31.2 3 p31.1 0) (fun p35 => (mono_some (Nat.le_refl _))))
    have hFc := cFree hC hA
    refine va_calli (va_runV (As := []) (rest := [.int 3, .ref (Q.o 7)]) ⟨hx, hb, hml, hown, hts⟩ (c_X3_pop l dC dI Q N σ p31 hcp31) (cwV 0 hts hX3_turn_X3_pop_v138 rfl rfl rfl (by decide +kernel) ⟨(show 2 + 1 ≤ 4 by omega), (show 8 + (1 + 11) + 60 * 2 ≤ 60 * 4 by omega)⟩) ⟨zPre.blind, va_recv hK hC.1 (ci := 2) (q0 := 7) rfl rfl, cPre_go hZ hK hC⟩ rfl rfl hl.1 rfl (lv_room (Nat.le_of_ble_eq_true rfl)) dX3_turn_66 (cAcc h0 hm32 hr9)) hC.2.2.1 (fun q _ h => hFc q h) hFc (fun r33 u9 t9 H1 locs ht hvm hw hB hz1 hk1 hS => ?_)
    obtain ⟨⟨hP, hK1, hD1⟩, hsz1⟩ := hB
    rw [ht] at hP hsz1
    have hC : CP dC dI Q A s.heap p31.2 H1 locs := ⟨hP, hD1.weaken (fun _ _ _ h => hFc _ h), hS, hsz1⟩
    generalize H1 = H at hC ⊢
    have h34 : (CS.hs σ) ≤ CS.hs p31.2 := Nat.le_trans h0 hm32
    refine W.widen (k := CS.hs p31.2 - (CS.hs σ)) (n := 17 * (CS.hs p31.2 - (CS.hs σ))) (cAcc2 h0 hm32) (cAcc3 h0 hm32) ?_
    obtain rfl : r33 = p31.1 := hw
    refine lv_iconst (v := 0) hx hb dX3_turn_69 (by decide) ?_
    obtain ⟨p35, hcp35, hf⟩ := hf_bind hf
    have hm36 : CS.hs p31.2 ≤ CS.hs p35.2 := Mono.go hcp35 (m_X3_go N p31.2 3 p31.1 0)
    have hr9 : CS.hs p35.2 ≤ CS.hs R.2 := Mono.go hf (mono_some (Nat.le_refl _))
    have hFc := cFree hC hA
    refine va_callv (va_runV (As := [.int 3, .int p31.1, .int 0]) (rest := []) ⟨hx, hb, hml, hown, hts⟩ (c_X3_go l dC dI Q N p31.2 3 p31.1 0 p35 hcp35) (cwV 3 hts hX3_turn_X3_go_v213 rfl rfl rfl (by decide +kernel) ⟨(show 1 + 1 ≤ 4 by omega), (show 8 + (4 + 11) + 60 * 1 ≤ 60 * 4 by omega)⟩) ⟨zPre.blind, va_recv hK hC.1 (ci := 2) (q0 := 7) rfl rfl, cPre_go hZ hK hC⟩ rfl rfl hl.1 rfl (lv_room (Nat.le_of_ble_eq_true rfl)) dX3_turn_70 (cAcc h34 hm36 hr9)) hC.2.2.1 (fun q _ h => hFc q h) hFc (fun u9 t9 H1 locs ht hvm hw hB hz1 hk1 hS => ?_)
    obtain ⟨⟨hP, hK1, hD1⟩, hsz1⟩ := hB
    rw [ht] at hP hsz1
    have hC : CP dC dI Q A s.heap p35.2 H1 locs := ⟨hP, hD1.weaken (fun _ _ _ h => hFc _ h), hS, hsz1⟩
    generalize H1 = H at hC ⊢
    have h38 : (CS.hs σ) ≤ CS.hs p35.2 := Nat.le_trans h34 hm36
    refine W.widen (k := CS.hs p35.2 - (CS.hs σ)) (n := 17 * (CS.hs p35.2 - (CS.hs σ))) (cAcc2 h34 hm36) (cAcc3 h34 hm36) ?_
    refine lv_goto (tgt := 133) hx hb dX3_turn_73 (by decide) ?_
    obtain rfl := Option.some.inj hf
    exact W.vret hx hb hr (fun t ht hW => ⟨⟨(), rfl, trivial, ⟨by rw [ht]; exact hC.1, va_K.moved hW.alike hK, hC.2.1⟩, by rw [ht]; exact hC.2.2.2⟩, hC.2.2.1.F ht⟩) hC.2.2.1.2.2 dX3_turn_133
  replace hf := (if_neg c30).symm.trans hf
  by_cases c39 : x1 = 63
  ·
    replace hf := (if_pos c39).symm.trans hf
    refine lv_tableIn (off := 75) (tgt := 76) hx hb dX3_turn_1 (by rw [c39]; decide) (by rw [c39]; decide) (by rw [c39]; decide) (by decide) ?_
    refine lv_aload_n hx hb dX3_turn_76 rfl (lv_at hl 0 rfl) ?_
    refine lv_iload_n hx hb dX3_turn_77 rfl (lv_at hl 2 rfl) ?_
    refine lv_aload_n hx hb dX3_turn_78 rfl (lv_at hl 0 rfl) ?_
    obtain ⟨p40, hcp40, hf⟩ := hf_bind hf
    have hm41 : CS.hs σ ≤ CS.hs p40.2 := Mono.go hcp40 (m_X3_pop N σ)
    have hr9 : CS.hs p40.2 ≤ CS.hs R.2 := Mono.go hf (mono_bind (m_X3_raise N p40.2 x2 p40.1) (fun p44 => (mono_some (Nat.le_refl _))))
    have hFc := cFree hC hA
    refine va_calli (va_runV (As := []) (rest := [.int x2, .ref (Q.o 7)]) ⟨hx, hb, hml, hown, hts⟩ (c_X3_pop l dC dI Q N σ p40 hcp40) (cwV 0 hts hX3_turn_X3_pop_v138 rfl rfl rfl (by decide +kernel) ⟨(show 2 + 1 ≤ 4 by omega), (show 8 + (1 + 11) + 60 * 2 ≤ 60 * 4 by omega)⟩) ⟨zPre.blind, va_recv hK hC.1 (ci := 2) (q0 := 7) rfl rfl, cPre_go hZ hK hC⟩ rfl rfl hl.1 rfl (lv_room (Nat.le_of_ble_eq_true rfl)) dX3_turn_79 (cAcc h0 hm41 hr9)) hC.2.2.1 (fun q _ h => hFc q h) hFc (fun r42 u9 t9 H1 locs ht hvm hw hB hz1 hk1 hS => ?_)
    obtain ⟨⟨hP, hK1, hD1⟩, hsz1⟩ := hB
    rw [ht] at hP hsz1
    have hC : CP dC dI Q A s.heap p40.2 H1 locs := ⟨hP, hD1.weaken (fun _ _ _ h => hFc _ h), hS, hsz1⟩
    generalize H1 = H at hC ⊢
    have h43 : (CS.hs σ) ≤ CS.hs p40.2 := Nat.le_trans h0 hm41
    refine W.widen (k := CS.hs p40.2 - (CS.hs σ)) (n := 17 * (CS.hs p40.2 - (CS.hs σ))) (cAcc2 h0 hm41) (cAcc3 h0 hm41) ?_
    obtain rfl : r42 = p40.1 := hw
    obtain ⟨p44, hcp44, hf⟩ := hf_bind hf
    have hm45 : CS.hs p40.2 ≤ CS.hs p44.2 := Mono.go hcp44 (m_X3_raise N p40.2 x2 p40.1)
    have hr9 : CS.hs p44.2 ≤ CS.hs R.2 := Mono.go hf (mono_some (Nat.le_refl _))
    have hFc := cFree hC hA
    refine va_callv (va_runV (As := [.int x2, .int p40.1]) (rest := []) ⟨hx, hb, hml, hown, hts⟩ (c_X3_raise l dC dI Q N p40.2 x2 p40.1 p44 hcp44) (cwV 2 hts hX3_turn_X3_raise_v150 rfl rfl rfl (by decide +kernel) ⟨(show 3 + 1 ≤ 4 by omega), (show 8 + (3 + 11) + 60 * 3 ≤ 60 * 4 by omega)⟩) ⟨zPre.blind, va_recv hK hC.1 (ci := 2) (q0 := 7) rfl rfl, cPre_go hZ hK hC⟩ rfl rfl hl.1 rfl (lv_room (Nat.le_of_ble_eq_true rfl)) dX3_turn_82 (cAcc h43 hm45 hr9)) hC.2.2.1 (fun q _ h => hFc q h) hFc (fun u9 t9 H1 locs ht hvm hw hB hz1 hk1 hS => ?_)
    obtain ⟨⟨hP, hK1, hD1⟩, hsz1⟩ := hB
    rw [ht] at hP hsz1
    have hC : CP dC dI Q A s.heap p44.2 H1 locs := ⟨hP, hD1.weaken (fun _ _ _ h => hFc _ h), hS, hsz1⟩
    generalize H1 = H at hC ⊢
    have h47 : (CS.hs σ) ≤ CS.hs p44.2 := Nat.le_trans h43 hm45
    refine W.widen (k := CS.hs p44.2 - (CS.hs σ)) (n := 17 * (CS.hs p44.2 - (CS.hs σ))) (cAcc2 h43 hm45) (cAcc3 h43 hm45) ?_
    refine lv_goto (tgt := 133) hx hb dX3_turn_85 (by decide) ?_
    obtain rfl := Option.some.inj hf
    exact W.vret hx hb hr (fun t ht hW => ⟨⟨(), rfl, trivial, ⟨by rw [ht]; exact hC.1, va_K.moved hW.alike hK, hC.2.1⟩, by rw [ht]; exact hC.2.2.2⟩, hC.2.2.1.F ht⟩) hC.2.2.1.2.2 dX3_turn_133
  replace hf := (if_neg c39).symm.trans hf
  by_cases c48 : x1 = 64
  ·
    replace hf := (if_pos c48).symm.trans hf
    refine lv_tableIn (off := 87) (tgt := 88) hx hb dX3_turn_1 (by rw [c48]; decide) (by rw [c48]; decide) (by rw [c48]; decide) (by decide) ?_
    refine lv_aload_n hx hb dX3_turn_88 rfl (lv_at hl 0 rfl) ?_
    refine lv_aload_n hx hb dX3_turn_89 rfl (lv_at hl 0 rfl) ?_
    refine lv_iload_n hx hb dX3_turn_90 rfl (lv_at hl 2 rfl) ?_
    obtain ⟨p49, hcp49, hf⟩ := hf_bind hf
    have hm50 : CS.hs σ ≤ CS.hs p49.2 := Mono.go hcp49 (m_X3_frame N σ x2)
    have hr9 : CS.hs p49.2 ≤ CS.hs R.2 := Mono.go hf (mono_oc (mono_bind (m_X3_throwAgain N p49.2 none) (fun p55 => (mono_some (Nat.le_refl _)))) (fun a54 => (mono_bind (m_X3_throwAgain N p49.2 (some a54)) (fun p59 => (mono_some (Nat.le_refl _))))))
    have hFc := cFree hC hA
    refine va_callq (va_runV (As := [.int x2]) (rest := [.ref (Q.o 7)]) ⟨hx, hb, hml, hown, hts⟩ (c_X3_frame l dC dI Q N σ x2 p49 hcp49) (cwV 1 hts hX3_turn_X3_frame_v216 rfl rfl rfl (by decide +kernel) ⟨(show 1 + 1 ≤ 4 by omega), (show 8 + (2 + 11) + 60 * 1 ≤ 60 * 4 by omega)⟩) ⟨zPre.blind, va_recv hK hC.1 (ci := 2) (q0 := 7) rfl rfl, cPre_go hZ hK hC⟩ rfl rfl hl.1 rfl (lv_room (Nat.le_of_ble_eq_true rfl)) dX3_turn_91 (cAcc h0 hm50 hr9)) hC.2.2.1 (fun q _ h => hFc q h) hFc (fun r51 u9 t9 H1 locs ht hvm hw hB hz1 hk1 hS => ?_)
    obtain ⟨⟨hP, hK1, hD1⟩, hsz1⟩ := hB
    rw [ht] at hP hsz1
    have hC : CP dC dI Q A s.heap p49.2 H1 locs := ⟨hP, hD1.weaken (fun _ _ _ h => hFc _ h), hS, hsz1⟩
    generalize H1 = H at hC ⊢
    have h52 : (CS.hs σ) ≤ CS.hs p49.2 := Nat.le_trans h0 hm50
    refine W.widen (k := CS.hs p49.2 - (CS.hs σ)) (n := 17 * (CS.hs p49.2 - (CS.hs σ))) (cAcc2 h0 hm50) (cAcc3 h0 hm50) ?_
    obtain rfl : r51 = p49.1 := hw
    rcases hf_oc hf with ⟨q53, hf⟩ | ⟨a54, q53, hf⟩
    ·
      refine W.eq (congrArg (fun v9 => F0 m 94 ls (va_rf v9 :: [.ref (Q.o 7)])) q53) ?_
      refine W.eq (g2 := F0 m 94 ls (.null :: [.ref (Q.o 7)])) rfl ?_
      obtain ⟨p55, hcp55, hf⟩ := hf_bind hf
      have hm56 : CS.hs p49.2 ≤ CS.hs p55.2 := Mono.go hcp55 (m_X3_throwAgain N p49.2 none)
      have hr9 : CS.hs p55.2 ≤ CS.hs R.2 := Mono.go hf (mono_some (Nat.le_refl _))
      have hFc := cFree hC hA
      refine va_callv (va_runV (As := [.null]) (rest := []) ⟨hx, hb, hml, hown, hts⟩ (c_X3_throwAgain l dC dI Q N p49.2 none p55 hcp55) (cwV 1 hts hX3_turn_X3_throwAgain_v220 rfl rfl rfl (by decide +kernel) ⟨(show 2 + 1 ≤ 4 by omega), (show 8 + (2 + 11) + 60 * 2 ≤ 60 * 4 by omega)⟩) ⟨zPre.blind, va_recv hK hC.1 (ci := 2) (q0 := 7) rfl rfl, cPre_go hZ hK hC⟩ rfl rfl hl.1 rfl (lv_room (Nat.le_of_ble_eq_true rfl)) dX3_turn_94 (cAcc h52 hm56 hr9)) hC.2.2.1 (fun q _ h => hFc q h) hFc (fun u9 t9 H1 locs ht hvm hw hB hz1 hk1 hS => ?_)
      obtain ⟨⟨hP, hK1, hD1⟩, hsz1⟩ := hB
      rw [ht] at hP hsz1
      have hC : CP dC dI Q A s.heap p55.2 H1 locs := ⟨hP, hD1.weaken (fun _ _ _ h => hFc _ h), hS, hsz1⟩
      generalize H1 = H at hC ⊢
      have h58 : (CS.hs σ) ≤ CS.hs p55.2 := Nat.le_trans h52 hm56
      refine W.widen (k := CS.hs p55.2 - (CS.hs σ)) (n := 17 * (CS.hs p55.2 - (CS.hs σ))) (cAcc2 h52 hm56) (cAcc3 h52 hm56) ?_
      refine lv_goto (tgt := 133) hx hb dX3_turn_97 (by decide) ?_
      obtain rfl := Option.some.inj hf
      exact W.vret hx hb hr (fun t ht hW => ⟨⟨(), rfl, trivial, ⟨by rw [ht]; exact hC.1, va_K.moved hW.alike hK, hC.2.1⟩, by rw [ht]; exact hC.2.2.2⟩, hC.2.2.1.F ht⟩) hC.2.2.1.2.2 dX3_turn_133
    ·
      refine W.eq (congrArg (fun v9 => F0 m 94 ls (va_rf v9 :: [.ref (Q.o 7)])) q53) ?_
      refine W.eq (g2 := F0 m 94 ls (.ref a54 :: [.ref (Q.o 7)])) rfl ?_
      obtain ⟨p59, hcp59, hf⟩ := hf_bind hf
      have hm60 : CS.hs p49.2 ≤ CS.hs p59.2 := Mono.go hcp59 (m_X3_throwAgain N p49.2 (some a54))
      have hr9 : CS.hs p59.2 ≤ CS.hs R.2 := Mono.go hf (mono_some (Nat.le_refl _))
      have hFc := cFree hC hA
      refine va_callv (va_runV (As := [.ref a54]) (rest := []) ⟨hx, hb, hml, hown, hts⟩ (c_X3_throwAgain l dC dI Q N p49.2 (some a54) p59 hcp59) (cwV 1 hts hX3_turn_X3_throwAgain_v220 rfl rfl rfl (by decide +kernel) ⟨(show 2 + 1 ≤ 4 by omega), (show 8 + (2 + 11) + 60 * 2 ≤ 60 * 4 by omega)⟩) ⟨zPre.blind, va_recv hK hC.1 (ci := 2) (q0 := 7) rfl rfl, cPre_go hZ hK hC⟩ rfl rfl hl.1 rfl (lv_room (Nat.le_of_ble_eq_true rfl)) dX3_turn_94 (cAcc h52 hm60 hr9)) hC.2.2.1 (fun q _ h => hFc q h) hFc (fun u9 t9 H1 locs ht hvm hw hB hz1 hk1 hS => ?_)
      obtain ⟨⟨hP, hK1, hD1⟩, hsz1⟩ := hB
      rw [ht] at hP hsz1
      have hC : CP dC dI Q A s.heap p59.2 H1 locs := ⟨hP, hD1.weaken (fun _ _ _ h => hFc _ h), hS, hsz1⟩
      generalize H1 = H at hC ⊢
      have h62 : (CS.hs σ) ≤ CS.hs p59.2 := Nat.le_trans h52 hm60
      refine W.widen (k := CS.hs p59.2 - (CS.hs σ)) (n := 17 * (CS.hs p59.2 - (CS.hs σ))) (cAcc2 h52 hm60) (cAcc3 h52 hm60) ?_
      refine lv_goto (tgt := 133) hx hb dX3_turn_97 (by decide) ?_
      obtain rfl := Option.some.inj hf
      exact W.vret hx hb hr (fun t ht hW => ⟨⟨(), rfl, trivial, ⟨by rw [ht]; exact hC.1, va_K.moved hW.alike hK, hC.2.1⟩, by rw [ht]; exact hC.2.2.2⟩, hC.2.2.1.F ht⟩) hC.2.2.1.2.2 dX3_turn_133
  replace hf := (if_neg c48).symm.trans hf
  refine lv_tableOut (tgt := 117) hx hb dX3_turn_1 (by have := z_ton (a := 59) c1 (by decide); have := z_ton (a := 60) c16 (by decide); have := z_ton (a := 61) c21 (by decide); have := z_ton (a := 62) c30 (by decide); have := z_ton (a := 63) c39 (by decide); have := z_ton (a := 64) c48 (by decide); omega) (by decide) ?_
  refine lv_aload_n hx hb dX3_turn_117 rfl (lv_at hl 0 rfl) ?_
  refine lv_iload_n hx hb dX3_turn_118 rfl (lv_at hl 1 rfl) ?_
  refine lv_iload_n hx hb dX3_turn_119 rfl (lv_at hl 2 rfl) ?_
  refine lv_aload_n hx hb dX3_turn_120 rfl (lv_at hl 0 rfl) ?_
  refine lv_aload_n hx hb dX3_turn_121 rfl (lv_at hl 0 rfl) ?_
  refine cG_67 (v := (σ.i 67)) hx hb hts i_X3_turn_X3 hown hK hC (hts (.fieldLink RX3 60 "StatementRules2$Machine" "depth" "I") k_X3_turn_fieldLink_RX3_60_SR_Machine_depth_I) (fun _ q9 => q9) dX3_turn_122 rfl ?_
  refine lv_iconst (v := 1) hx hb dX3_turn_125 (by decide) ?_
  refine lv_isub hx hb dX3_turn_126 ?_
  obtain ⟨p63, hcp63, hf⟩ := hf_bind hf
  have hm64 : CS.hs σ ≤ CS.hs p63.2 := Mono.go hcp63 (m_X3_frame N σ ((σ.i 67) - 1))
  have hr9 : CS.hs p63.2 ≤ CS.hs R.2 := Mono.go hf (mono_oc (mono_bind (m_X3_handle N p63.2 x1 x2 none) (fun p69 => (mono_some (Nat.le_refl _)))) (fun a68 => (mono_bind (m_X3_handle N p63.2 x1 x2 (some a68)) (fun p73 => (mono_some (Nat.le_refl _))))))
  have hFc := cFree hC hA
  refine va_callq (va_runV (As := [.int ((σ.i 67) - 1)]) (rest := [.int x2, .int x1, .ref (Q.o 7)]) ⟨hx, hb, hml, hown, hts⟩ (c_X3_frame l dC dI Q N σ ((σ.i 67) - 1) p63 hcp63) (cwV 1 hts hX3_turn_X3_frame_v216 rfl rfl rfl (by decide +kernel) ⟨(show 1 + 1 ≤ 4 by omega), (show 8 + (2 + 11) + 60 * 1 ≤ 60 * 4 by omega)⟩) ⟨zPre.blind, va_recv hK hC.1 (ci := 2) (q0 := 7) rfl rfl, cPre_go hZ hK hC⟩ rfl rfl hl.1 rfl (lv_room (Nat.le_of_ble_eq_true rfl)) dX3_turn_127 (cAcc h0 hm64 hr9)) hC.2.2.1 (fun q _ h => hFc q h) hFc (fun r65 u9 t9 H1 locs ht hvm hw hB hz1 hk1 hS => ?_)
  obtain ⟨⟨hP, hK1, hD1⟩, hsz1⟩ := hB
  rw [ht] at hP hsz1
  have hC : CP dC dI Q A s.heap p63.2 H1 locs := ⟨hP, hD1.weaken (fun _ _ _ h => hFc _ h), hS, hsz1⟩
  generalize H1 = H at hC ⊢
  have h66 : (CS.hs σ) ≤ CS.hs p63.2 := Nat.le_trans h0 hm64
  refine W.widen (k := CS.hs p63.2 - (CS.hs σ)) (n := 17 * (CS.hs p63.2 - (CS.hs σ))) (cAcc2 h0 hm64) (cAcc3 h0 hm64) ?_
  obtain rfl : r65 = p63.1 := hw
  rcases hf_oc hf with ⟨q67, hf⟩ | ⟨a68, q67, hf⟩
  ·
    refine W.eq (congrArg (fun v9 => F0 m 130 ls (va_rf v9 :: [.int x2, .int x1, .ref (Q.o 7)])) q67) ?_
    refine W.eq (g2 := F0 m 130 ls (.null :: [.int x2, .int x1, .ref (Q.o 7)])) rfl ?_
    obtain ⟨p69, hcp69, hf⟩ := hf_bind hf
    have hm70 : CS.hs p63.2 ≤ CS.hs p69.2 := Mono.go hcp69 (m_X3_handle N p63.2 x1 x2 none)
    have hr9 : CS.hs p69.2 ≤ CS.hs R.2 := Mono.go hf (mono_some (Nat.le_refl _))
    have hFc := cFree hC hA
    refine va_callv (va_runV (As := [.int x1, .int x2, .null]) (rest := []) ⟨hx, hb, hml, hown, hts⟩ (c_X3_handle l dC dI Q N p63.2 x1 x2 none p69 hcp69) (cwV 3 hts hX3_turn_X3_handle_v227 rfl rfl rfl (by decide +kernel) ⟨(show 3 + 1 ≤ 4 by omega), (show 8 + (4 + 11) + 60 * 3 ≤ 60 * 4 by omega)⟩) ⟨zPre.blind, va_recv hK hC.1 (ci := 2) (q0 := 7) rfl rfl, cPre_go hZ hK hC⟩ rfl rfl hl.1 rfl (lv_room (Nat.le_of_ble_eq_true rfl)) dX3_turn_130 (cAcc h66 hm70 hr9)) hC.2.2.1 (fun q _ h => hFc q h) hFc (fun u9 t9 H1 locs ht hvm hw hB hz1 hk1 hS => ?_)
    obtain ⟨⟨hP, hK1, hD1⟩, hsz1⟩ := hB
    rw [ht] at hP hsz1
    have hC : CP dC dI Q A s.heap p69.2 H1 locs := ⟨hP, hD1.weaken (fun _ _ _ h => hFc _ h), hS, hsz1⟩
    generalize H1 = H at hC ⊢
    have h72 : (CS.hs σ) ≤ CS.hs p69.2 := Nat.le_trans h66 hm70
    refine W.widen (k := CS.hs p69.2 - (CS.hs σ)) (n := 17 * (CS.hs p69.2 - (CS.hs σ))) (cAcc2 h66 hm70) (cAcc3 h66 hm70) ?_
    obtain rfl := Option.some.inj hf
    exact W.vret hx hb hr (fun t ht hW => ⟨⟨(), rfl, trivial, ⟨by rw [ht]; exact hC.1, va_K.moved hW.alike hK, hC.2.1⟩, by rw [ht]; exact hC.2.2.2⟩, hC.2.2.1.F ht⟩) hC.2.2.1.2.2 dX3_turn_133
  ·
    refine W.eq (congrArg (fun v9 => F0 m 130 ls (va_rf v9 :: [.int x2, .int x1, .ref (Q.o 7)])) q67) ?_
    refine W.eq (g2 := F0 m 130 ls (.ref a68 :: [.int x2, .int x1, .ref (Q.o 7)])) rfl ?_
    obtain ⟨p73, hcp73, hf⟩ := hf_bind hf
    have hm74 : CS.hs p63.2 ≤ CS.hs p73.2 := Mono.go hcp73 (m_X3_handle N p63.2 x1 x2 (some a68))
    have hr9 : CS.hs p73.2 ≤ CS.hs R.2 := Mono.go hf (mono_some (Nat.le_refl _))
    have hFc := cFree hC hA
    refine va_callv (va_runV (As := [.int x1, .int x2, .ref a68]) (rest := []) ⟨hx, hb, hml, hown, hts⟩ (c_X3_handle l dC dI Q N p63.2 x1 x2 (some a68) p73 hcp73) (cwV 3 hts hX3_turn_X3_handle_v227 rfl rfl rfl (by decide +kernel) ⟨(show 3 + 1 ≤ 4 by omega), (show 8 + (4 + 11) + 60 * 3 ≤ 60 * 4 by omega)⟩) ⟨zPre.blind, va_recv hK hC.1 (ci := 2) (q0 := 7) rfl rfl, cPre_go hZ hK hC⟩ rfl rfl hl.1 rfl (lv_room (Nat.le_of_ble_eq_true rfl)) dX3_turn_130 (cAcc h66 hm74 hr9)) hC.2.2.1 (fun q _ h => hFc q h) hFc (fun u9 t9 H1 locs ht hvm hw hB hz1 hk1 hS => ?_)
    obtain ⟨⟨hP, hK1, hD1⟩, hsz1⟩ := hB
    rw [ht] at hP hsz1
    have hC : CP dC dI Q A s.heap p73.2 H1 locs := ⟨hP, hD1.weaken (fun _ _ _ h => hFc _ h), hS, hsz1⟩
    generalize H1 = H at hC ⊢
    have h76 : (CS.hs σ) ≤ CS.hs p73.2 := Nat.le_trans h66 hm74
    refine W.widen (k := CS.hs p73.2 - (CS.hs σ)) (n := 17 * (CS.hs p73.2 - (CS.hs σ))) (cAcc2 h66 hm74) (cAcc3 h66 hm74) ?_
    obtain rfl := Option.some.inj hf
    exact W.vret hx hb hr (fun t ht hW => ⟨⟨(), rfl, trivial, ⟨by rw [ht]; exact hC.1, va_K.moved hW.alike hK, hC.2.1⟩, by rw [ht]; exact hC.2.2.2⟩, hC.2.2.1.F ht⟩) hC.2.2.1.2.2 dX3_turn_133
