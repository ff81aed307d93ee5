theorem k_X7_beginLock_fieldLink_RX7_71_SR_Statements_tokens_LSR_Tokens : Cond.fieldLink RX7 71 "StatementRules2$Statements" "tokens" "LStatementRules2$Tokens;" ∈ wzX7_beginLock := List.mem_cons_of_mem _ (List.mem_append_left _ (List.mem_of_getElem? (i := 0) rfl))
theorem k_X7_beginLock_sameField_SR_Statements_SR_Formulas_tokens_LSR_Tokens : Cond.sameField "StatementRules2$Statements" "StatementRules2$Formulas" "tokens" "LStatementRules2$Tokens;" ∈ wzX7_beginLock := List.mem_cons_of_mem _ (List.mem_append_left _ (List.mem_of_getElem? (i := 1) rfl))
theorem i_X7_beginLock_X7 : ∀ w ∈ wsX70, w ∈ wzX7_beginLock := fun _ h => List.mem_cons_of_mem _ (List.mem_append_right _ (List.mem_append_left _ (h)))
theorem k_X7_beginLock_fieldLink_RX7_14_SR_Statements_opens_LSR_Opens : Cond.fieldLink RX7 14 "StatementRules2$Statements" "opens" "LStatementRules2$Opens;" ∈ wzX7_beginLock := List.mem_cons_of_mem _ (List.mem_append_left _ (List.mem_of_getElem? (i := 2) rfl))
theorem k_X7_beginLock_fieldLink_RX7_68_SR_Statements_depth_I : Cond.fieldLink RX7 68 "StatementRules2$Statements" "depth" "I" ∈ wzX7_beginLock := List.mem_cons_of_mem _ (List.mem_append_left _ (List.mem_of_getElem? (i := 3) rfl))
theorem k_X7_beginLock_fieldLink_RX7_29_SR_Statements_names_LSR_Names : Cond.fieldLink RX7 29 "StatementRules2$Statements" "names" "LStatementRules2$Names;" ∈ wzX7_beginLock := List.mem_cons_of_mem _ (List.mem_append_left _ (List.mem_of_getElem? (i := 4) rfl))
theorem k_X7_beginLock_sameField_SR_Statements_SR_Formulas_names_LSR_Names : Cond.sameField "StatementRules2$Statements" "StatementRules2$Formulas" "names" "LStatementRules2$Names;" ∈ wzX7_beginLock := List.mem_cons_of_mem _ (List.mem_append_left _ (List.mem_of_getElem? (i := 5) rfl))
theorem i_X7_beginLock_X4 : ∀ w ∈ wsX40, w ∈ wzX7_beginLock := fun _ h => List.mem_cons_of_mem _ (List.mem_append_right _ (List.mem_append_right _ (List.mem_append_left _ (h))))
theorem k_X7_beginLock_fieldLink_RX7_20_SR_Statements_code_LSR_Code : Cond.fieldLink RX7 20 "StatementRules2$Statements" "code" "LStatementRules2$Code;" ∈ wzX7_beginLock := List.mem_cons_of_mem _ (List.mem_append_left _ (List.mem_of_getElem? (i := 6) rfl))
theorem k_X7_beginLock_sameField_SR_Statements_SR_Formulas_code_LSR_Code : Cond.sameField "StatementRules2$Statements" "StatementRules2$Formulas" "code" "LStatementRules2$Code;" ∈ wzX7_beginLock := List.mem_cons_of_mem _ (List.mem_append_left _ (List.mem_of_getElem? (i := 7) rfl))
theorem i_X7_beginLock_X5 : ∀ w ∈ wsX50, w ∈ wzX7_beginLock := fun _ h => List.mem_cons_of_mem _ (List.mem_append_right _ (List.mem_append_right _ (List.mem_append_right _ (List.mem_append_left _ (h)))))
theorem i_X7_beginLock_X9 : ∀ w ∈ wsX90, w ∈ wzX7_beginLock := fun _ h => List.mem_cons_of_mem _ (List.mem_append_right _ (List.mem_append_right _ (List.mem_append_right _ (List.mem_append_right _ (List.mem_append_left _ (h))))))
set_option maxHeartbeats 4000000 in
set_option maxRecDepth 100000 in
theorem j_X7_beginLock_58 {p : Program} {e : Env} {s : State} {m : MethodId} {args : Array Value} {below : List Frame} {meth : Method} {c : Code} {A : Nat → Prop} (l : Launch) (dC : Nat → ClassId) (dI : Nat → Nat → Nat) (Q : CQ) (N : Nat) (z9h : Nat) (R : Unit × CS) (hx : p.tables.exec = Jvm.exec) (hb : c.code = cX7_beginLock) (hr : meth.sig.returnType = none) (hml : c.maxLocals = 2) (hown : s.vm.findClass RX7 = some m.cls) (hts : ∀ w ∈ wzX7_beginLock, w.before args s = true) (hlocks : meth.locks = false) (hZ : zAMB s) (hA : ∀ q : Nat, s.heap.size ≤ q → A q) (hK : va_K (dC, dI) vwCl (cT Q) s) : ∀ (σ : CS) (H : Heap) (locs : List Loc) (ls : Array Slot), f_X7_beginLock_58 N σ = some R → z9h ≤ CS.hs σ → CP dC dI Q A s.heap σ H locs → lv_has ls 2 [(0, .ref (Q.o 3))] → W p l e ({ frames := 5, cells := CS.hs R.2 - z9h, slots := 17 * (CS.hs R.2 - z9h), locals := 60 * 5 }) s m args below meth c H locs (CS.hs σ - z9h) (17 * (CS.hs σ - z9h)) (MQ below (va_Qv (fun (_ : Unit) => True) (fun (_ : Unit) (t : State) => zPost dC dI A (cW Q R.2) (cT Q) t ∧ t.heap.size = CS.hs R.2) A) args s (CS.hs R.2 - z9h) (17 * (CS.hs R.2 - z9h)) A) (F0 m 58 ls []) := by
  intro σ  H locs ls hf h0 hC hl
  unfold f_X7_beginLock_58 at hf
  refine lv_aload_n hx hb dX7_beginLock_58 rfl (lv_at hl 0 rfl) ?_
  refine lv_bipush (v := 41) hx hb dX7_beginLock_59 (by decide) ?_
  obtain ⟨p22, hcp22, hf⟩ := hf_bind hf
  have mo23 : CS.hs σ ≤ CS.hs p22.2 := Mono.go hcp22 (m_X1_close N σ 41)
  have hr9 : CS.hs p22.2 ≤ CS.hs R.2 := Mono.go hf (mono_bind (m_X1_open N p22.2 123) (fun p26 => (mono_bind (m_X6_push N p26.2 212 (p26.2.i 38) (p26.2.i 50)) (fun p30 => (mono_oc (mono_bind (m_X0_newTarget N p30.2) (fun p36 => mono_none)) (fun a35 => (mono_bind (m_X0_newTarget N p30.2) (fun p40 => (mono_ite (mono_some (Nat.le_refl _)) mono_none)))))))))
  have hFc := cFree hC hA
  refine va_callv (va_runU (As := [.int 41]) (rest := []) ⟨hx, hb, hml, hown, hts⟩ (c_X1_close l dC dI Q N σ 41 p22 hcp22) (va_cwU 1 hts hX7_beginLock_X1_close_u318 rfl rfl rfl rfl (by decide +kernel) ⟨(show 4 + 1 ≤ 5 by omega), (show 8 + (2 + 11) + 60 * 4 ≤ 60 * 5 by omega)⟩) ⟨zPre.blind, va_recv hK hC.1 (ci := 6) (q0 := 3) rfl rfl, cPre_go hZ hK hC⟩ rfl rfl hl.1 rfl (lv_room (Nat.le_of_ble_eq_true rfl)) dX7_beginLock_61 (cAcc h0 mo23 hr9)) hC.2.2.1 (fun q _ h => hFc q h) hFc (fun u9 t9 H1 locs ht hvm hw hB hz1 hk1 hS => ?_)
  obtain ⟨⟨hP, hK1, hD1⟩, hsz1⟩ := hB
  rw [ht] at hP hsz1
  have hC : CP dC dI Q A s.heap p22.2 H1 locs := ⟨hP, hD1.weaken (fun _ _ _ h => hFc _ h), hS, hsz1⟩
  generalize H1 = H at hC ⊢
  have h25 : z9h ≤ CS.hs p22.2 := Nat.le_trans h0 mo23
  refine W.widen (k := CS.hs p22.2 - z9h) (n := 17 * (CS.hs p22.2 - z9h)) (cAcc2 h0 mo23) (cAcc3 h0 mo23) ?_
  refine lv_aload_n hx hb dX7_beginLock_64 rfl (lv_at hl 0 rfl) ?_
  refine lv_bipush (v := 123) hx hb dX7_beginLock_65 (by decide) ?_
  obtain ⟨p26, hcp26, hf⟩ := hf_bind hf
  have mo27 : CS.hs p22.2 ≤ CS.hs p26.2 := Mono.go hcp26 (m_X1_open N p22.2 123)
  have hr9 : CS.hs p26.2 ≤ CS.hs R.2 := Mono.go hf (mono_bind (m_X6_push N p26.2 212 (p26.2.i 38) (p26.2.i 50)) (fun p30 => (mono_oc (mono_bind (m_X0_newTarget N p30.2) (fun p36 => mono_none)) (fun a35 => (mono_bind (m_X0_newTarget N p30.2) (fun p40 => (mono_ite (mono_some (Nat.le_refl _)) mono_none)))))))
  have hFc := cFree hC hA
  refine va_callv (va_runU (As := [.int 123]) (rest := []) ⟨hx, hb, hml, hown, hts⟩ (c_X1_open l dC dI Q N p22.2 123 p26 hcp26) (va_cwU 1 hts hX7_beginLock_X1_open_u173 rfl rfl rfl rfl (by decide +kernel) ⟨(show 4 + 1 ≤ 5 by omega), (show 8 + (2 + 11) + 60 * 4 ≤ 60 * 5 by omega)⟩) ⟨zPre.blind, va_recv hK hC.1 (ci := 6) (q0 := 3) rfl rfl, cPre_go hZ hK hC⟩ rfl rfl hl.1 rfl (lv_room (Nat.le_of_ble_eq_true rfl)) dX7_beginLock_67 (cAcc h25 mo27 hr9)) hC.2.2.1 (fun q _ h => hFc q h) hFc (fun u9 t9 H1 locs ht hvm hw hB hz1 hk1 hS => ?_)
  obtain ⟨⟨hP, hK1, hD1⟩, hsz1⟩ := hB
  rw [ht] at hP hsz1
  have hC : CP dC dI Q A s.heap p26.2 H1 locs := ⟨hP, hD1.weaken (fun _ _ _ h => hFc _ h), hS, hsz1⟩
  generalize H1 = H at hC ⊢
  have h29 : z9h ≤ CS.hs p26.2 := Nat.le_trans h25 mo27
  refine W.widen (k := CS.hs p26.2 - z9h) (n := 17 * (CS.hs p26.2 - z9h)) (cAcc2 h25 mo27) (cAcc3 h25 mo27) ?_
  refine lv_aload_n hx hb dX7_beginLock_70 rfl (lv_at hl 0 rfl) ?_
  refine cG_35 hx hb hts i_X7_beginLock_X7 hown hK hC (hts (.fieldLink RX7 14 "StatementRules2$Statements" "opens" "LStatementRules2$Opens;") k_X7_beginLock_fieldLink_RX7_14_SR_Statements_opens_LSR_Opens) (fun _ q9 => q9) dX7_beginLock_71 ?_
  refine lv_sipush (v := 212) hx hb dX7_beginLock_74 (by decide) ?_
  refine lv_aload_n hx hb dX7_beginLock_77 rfl (lv_at hl 0 rfl) ?_
  refine cG_38 (v := (p26.2.i 38)) hx hb hts i_X7_beginLock_X7 hown hK hC (hts (.fieldLink RX7 68 "StatementRules2$Statements" "depth" "I") k_X7_beginLock_fieldLink_RX7_68_SR_Statements_depth_I) (fun _ q9 => q9) dX7_beginLock_78 rfl ?_
  refine lv_aload_n hx hb dX7_beginLock_81 rfl (lv_at hl 0 rfl) ?_
  refine cG_31 hx hb hts i_X7_beginLock_X7 hown hK hC (hts (.fieldLink RX7 29 "StatementRules2$Statements" "names" "LStatementRules2$Names;") k_X7_beginLock_fieldLink_RX7_29_SR_Statements_names_LSR_Names) (fun x9 q9 => u_same (hts (.sameField "StatementRules2$Statements" "StatementRules2$Formulas" "names" "LStatementRules2$Names;") k_X7_beginLock_sameField_SR_Statements_SR_Formulas_names_LSR_Names) x9 q9) dX7_beginLock_82 ?_
  refine cGN_50 (v := (p26.2.i 50)) hx hb hts i_X7_beginLock_X4 hown hK hC (va_Nw.use rfl (hZ.1 (.fieldLinkNest RX7 33 "StatementRules2$Names" "count" "I" "StatementRules2") (by decide +kernel))) (fun _ q9 => q9) dX7_beginLock_85 rfl ?_
  obtain ⟨p30, hcp30, hf⟩ := hf_bind hf
  have mo31 : CS.hs p26.2 ≤ CS.hs p30.2 := Mono.go hcp30 (m_X6_push N p26.2 212 (p26.2.i 38) (p26.2.i 50))
  have hr9 : CS.hs p30.2 ≤ CS.hs R.2 := Mono.go hf (mono_oc (mono_bind (m_X0_newTarget N p30.2) (fun p36 => mono_none)) (fun a35 => (mono_bind (m_X0_newTarget N p30.2) (fun p40 => (mono_ite (mono_some (Nat.le_refl _)) mono_none)))))
  have hFc := cFree hC hA
  refine va_callq (va_runV (As := [.int 212, .int (p26.2.i 38), .int (p26.2.i 50)]) (rest := []) ⟨hx, hb, hml, hown, hts⟩ (c_X6_push l dC dI Q N p26.2 212 (p26.2.i 38) (p26.2.i 50) p30 hcp30) (cwV 3 hts hX7_beginLock_X6_push_v81 rfl rfl rfl (by decide +kernel) ⟨(show 2 + 1 ≤ 5 by omega), (show 8 + (6 + 11) + 60 * 2 ≤ 60 * 5 by omega)⟩) ⟨zPre.blind, va_recv hK hC.1 (ci := 5) (q0 := 6) rfl rfl, cPre_go hZ hK hC⟩ rfl rfl hl.1 rfl (lv_room (Nat.le_of_ble_eq_true rfl)) dX7_beginLock_88 (cAcc h29 mo31 hr9)) hC.2.2.1 (fun q _ h => hFc q h) hFc (fun r32 u9 t9 H1 locs ht hvm hw hB hz1 hk1 hS => ?_)
  obtain ⟨⟨hP, hK1, hD1⟩, hsz1⟩ := hB
  rw [ht] at hP hsz1
  have hC : CP dC dI Q A s.heap p30.2 H1 locs := ⟨hP, hD1.weaken (fun _ _ _ h => hFc _ h), hS, hsz1⟩
  generalize H1 = H at hC ⊢
  have h33 : z9h ≤ CS.hs p30.2 := Nat.le_trans h29 mo31
  refine W.widen (k := CS.hs p30.2 - z9h) (n := 17 * (CS.hs p30.2 - z9h)) (cAcc2 h29 mo31) (cAcc3 h29 mo31) ?_
  obtain rfl : r32 = p30.1 := hw
  rcases hf_oc hf with ⟨q34, hf⟩ | ⟨a35, q34, hf⟩
  ·
    refine W.eq (congrArg (fun v9 => F0 m 91 ls (va_rf v9 :: [])) q34) ?_
    refine W.eq (g2 := F0 m 91 ls (.null :: [])) rfl ?_
    refine lv_astore_nN (lv' := [(1, .null), (0, .ref (Q.o 3))]) hx hb dX7_beginLock_91 rfl hl (by decide) rfl (fun ls hl => ?_)
    refine lv_aload_nN hx hb dX7_beginLock_92 rfl (lv_at hl 0 rfl) ?_
    refine lv_aload_n hx hb dX7_beginLock_93 rfl (lv_at hl 1 rfl) ?_
    refine cG_29 hx hb hts i_X7_beginLock_X7 hown hK hC (hts (.fieldLink RX7 20 "StatementRules2$Statements" "code" "LStatementRules2$Code;") k_X7_beginLock_fieldLink_RX7_20_SR_Statements_code_LSR_Code) (fun x9 q9 => u_same (hts (.sameField "StatementRules2$Statements" "StatementRules2$Formulas" "code" "LStatementRules2$Code;") k_X7_beginLock_sameField_SR_Statements_SR_Formulas_code_LSR_Code) x9 q9) dX7_beginLock_94 ?_
    obtain ⟨p36, hcp36, hf⟩ := hf_bind hf
    have mo37 : CS.hs p30.2 ≤ CS.hs p36.2 := Mono.go hcp36 (m_X0_newTarget N p30.2)
    have hr9 : CS.hs p36.2 ≤ CS.hs R.2 := Mono.go hf mono_none
    have hFc := cFree hC hA
    refine va_calli (va_runV (As := []) (rest := [.null]) ⟨hx, hb, hml, hown, hts⟩ (c_X0_newTarget l dC dI Q N p30.2 p36 hcp36) (cwV 0 hts hX7_beginLock_X0_newTarget_v136 rfl rfl rfl (by decide +kernel) ⟨(show 2 + 1 ≤ 5 by omega), (show 8 + (1 + 11) + 60 * 2 ≤ 60 * 5 by omega)⟩) ⟨zPre.blind, va_recv hK hC.1 (ci := 0) (q0 := 2) rfl rfl, cPre_go hZ hK hC⟩ rfl rfl hl.1 rfl (lv_room (Nat.le_of_ble_eq_true rfl)) dX7_beginLock_97 (cAcc h33 mo37 hr9)) hC.2.2.1 (fun q _ h => hFc q h) hFc (fun r38 u9 t9 H1 locs ht hvm hw hB hz1 hk1 hS => ?_)
    obtain ⟨⟨hP, hK1, hD1⟩, hsz1⟩ := hB
    rw [ht] at hP hsz1
    have hC : CP dC dI Q A s.heap p36.2 H1 locs := ⟨hP, hD1.weaken (fun _ _ _ h => hFc _ h), hS, hsz1⟩
    generalize H1 = H at hC ⊢
    have h39 : z9h ≤ CS.hs p36.2 := Nat.le_trans h33 mo37
    refine W.widen (k := CS.hs p36.2 - z9h) (n := 17 * (CS.hs p36.2 - z9h)) (cAcc2 h33 mo37) (cAcc3 h33 mo37) ?_
    obtain rfl : r38 = p36.1 := hw
    cases hf
  ·
    refine W.eq (congrArg (fun v9 => F0 m 91 ls (va_rf v9 :: [])) q34) ?_
    refine W.eq (g2 := F0 m 91 ls (.ref a35 :: [])) rfl ?_
    refine lv_astore_n (lv' := [(1, .ref a35), (0, .ref (Q.o 3))]) hx hb dX7_beginLock_91 rfl hl (by decide) rfl (fun ls hl => ?_)
    refine lv_aload_n hx hb dX7_beginLock_92 rfl (lv_at hl 0 rfl) ?_
    refine lv_aload_n hx hb dX7_beginLock_93 rfl (lv_at hl 1 rfl) ?_
    refine cG_29 hx hb hts i_X7_beginLock_X7 hown hK hC (hts (.fieldLink RX7 20 "StatementRules2$Statements" "code" "LStatementRules2$Code;") k_X7_beginLock_fieldLink_RX7_20_SR_Statements_code_LSR_Code) (fun x9 q9 => u_same (hts (.sameField "StatementRules2$Statements" "StatementRules2$Formulas" "code" "LStatementRules2$Code;") k_X7_beginLock_sameField_SR_Statements_SR_Formulas_code_LSR_Code) x9 q9) dX7_beginLock_94 ?_
    obtain ⟨p40, hcp40, hf⟩ := hf_bind hf
    have mo41 : CS.hs p30.2 ≤ CS.hs p40.2 := Mono.go hcp40 (m_X0_newTarget N p30.2)
    have hr9 : CS.hs p40.2 ≤ CS.hs R.2 := Mono.go hf (mono_ite (mono_some (Nat.le_refl _)) mono_none)
    have hFc := cFree hC hA
    refine va_calli (va_runV (As := []) (rest := [.ref a35]) ⟨hx, hb, hml, hown, hts⟩ (c_X0_newTarget l dC dI Q N p30.2 p40 hcp40) (cwV 0 hts hX7_beginLock_X0_newTarget_v136 rfl rfl rfl (by decide +kernel) ⟨(show 2 + 1 ≤ 5 by omega), (show 8 + (1 + 11) + 60 * 2 ≤ 60 * 5 by omega)⟩) ⟨zPre.blind, va_recv hK hC.1 (ci := 0) (q0 := 2) rfl rfl, cPre_go hZ hK hC⟩ rfl rfl hl.1 rfl (lv_room (Nat.le_of_ble_eq_true rfl)) dX7_beginLock_97 (cAcc h33 mo41 hr9)) hC.2.2.1 (fun q _ h => hFc q h) hFc (fun r42 u9 t9 H1 locs ht hvm hw hB hz1 hk1 hS => ?_)
    obtain ⟨⟨hP, hK1, hD1⟩, hsz1⟩ := hB
    rw [ht] at hP hsz1
    have hC : CP dC dI Q A s.heap p40.2 H1 locs := ⟨hP, hD1.weaken (fun _ _ _ h => hFc _ h), hS, hsz1⟩
    generalize H1 = H at hC ⊢
    have h43 : z9h ≤ CS.hs p40.2 := Nat.le_trans h33 mo41
    refine W.widen (k := CS.hs p40.2 - z9h) (n := 17 * (CS.hs p40.2 - z9h)) (cAcc2 h33 mo41) (cAcc3 h33 mo41) ?_
    obtain rfl : r42 = p40.1 := hw
    obtain ⟨b44, hf⟩ := hf_ite hf
    refine pPN_X5_9 (v := p40.1) hx hb hts i_X7_beginLock_X5 hown hK hC (va_Nw.use rfl (hZ.1 (.fieldLinkNest RX7 196 "StatementRules2$Open" "exit" "I" "StatementRules2") (by decide +kernel))) (fun _ q9 => q9) dX7_beginLock_100 b44 (fun H locs hC => ?_)
    refine lv_aload_n hx hb dX7_beginLock_103 rfl (lv_at hl 1 rfl) ?_
    refine lv_dup hx hb dX7_beginLock_104 rfl ?_
    refine cG_38 (v := (p40.2.i 38)) hx hb hts i_X7_beginLock_X7 hown hK hC (hts (.fieldLink RX7 68 "StatementRules2$Statements" "depth" "I") k_X7_beginLock_fieldLink_RX7_68_SR_Statements_depth_I) (fun _ q9 => q9) dX7_beginLock_105 rfl ?_
    refine lv_iconst (v := 1) hx hb dX7_beginLock_108 (by decide) ?_
    refine lv_iadd hx hb dX7_beginLock_109 ?_
    refine cP_38 (v := ((p40.2.i 38) + 1)) hx hb hts i_X7_beginLock_X7 hown hK hC (hts (.fieldLink RX7 68 "StatementRules2$Statements" "depth" "I") k_X7_beginLock_fieldLink_RX7_68_SR_Statements_depth_I) (fun _ q9 => q9) dX7_beginLock_110 (fun H locs hC => ?_)
    obtain rfl := Option.some.inj hf
    exact W.vret hx hb hr (fun t ht hW => ⟨⟨(), rfl, trivial, ⟨by rw [ht]; exact hC.1, va_K.moved hW.alike hK, hC.2.1⟩, by rw [ht]; exact hC.2.2.2⟩, hC.2.2.1.F ht⟩) hC.2.2.1.2.2 dX7_beginLock_113
set_option maxHeartbeats 4000000 in
set_option maxRecDepth 100000 in
theorem c_X7_beginLock (l : Launch) (dC : Nat → ClassId) (dI : Nat → Nat → Nat) (Q : CQ) (N : Nat) (σ : CS) (R : Unit × CS) (hf : f_X7_beginLock N σ = some R) : Met l yX7_beginLock wzX7_beginLock ({ frames := 5, cells := CS.hs R.2 - CS.hs σ, slots := 17 * (CS.hs R.2 - CS.hs σ), locals := 60 * 5 }) (va_Pc [.ref (Q.o 3)] (zPre dC dI (CS.hs σ) (cW Q σ) (cT Q))) (va_Qv (fun (_ : Unit) => True) (fun (_ : Unit) (t : State) => zPost dC dI (va_A (cW Q σ) (CS.hs σ)) (cW Q R.2) (cT Q) t ∧ t.heap.size = CS.hs R.2) (va_A (cW Q σ) (CS.hs σ))) (CS.hs R.2 - CS.hs σ) (17 * (CS.hs R.2 - CS.hs σ)) (va_A (cW Q σ) (CS.hs σ)) := by
  refine Met.ofW (cc := cX7_beginLock) (maxL := 2) (ret := none) (by decide) rfl ?_
  intro p e s m args below meth c s₁ B hml hv
  obtain ⟨rfl, hsz, hZ, hP, hK, hD0⟩ := hv
  have hx := B.exec
  have hb := B.bytes
  have hr := B.returns
  have hts := atoms_spec (ws := wzX7_beginLock) B.pre
  have hown : s.vm.findClass RX7 = some m.cls := findClass_of_methodNamed B.named
  have hlocks := B.notSynchronized
  have hD := hD0.self (sz := CS.hs σ)
  generalize hAe : va_A (cW Q σ) (CS.hs σ) = A at hD ⊢
  have hA : ∀ q : Nat, s.heap.size ≤ q → A q := fun q h => by rw [← hAe]; exact Or.inr (hsz ▸ h)
  have hC : CP dC dI Q A s.heap σ s.heap [] := ⟨hP, hD, va_S.rf, hsz⟩
  have h0 : CS.hs σ ≤ CS.hs σ := Nat.le_refl _
  have hl := lv_entry ([.ref (Q.o 3)]) (n := 2) (Nat.le_of_ble_eq_true rfl)
  rw [lg_entry_eq]
  generalize (lg_sl ([.ref (Q.o 3)]) ++ List.replicate (2 - (lg_sl ([.ref (Q.o 3)])).length) Slot.unset).toArray = ls at hl ⊢
  have hl : lv_has ls 2 [(0, .ref (Q.o 3))] := hl
  unfold f_X7_beginLock at hf
  refine W.widen (k := CS.hs σ - CS.hs σ) (n := 17 * (CS.hs σ - CS.hs σ)) (Nat.zero_le _) (Nat.zero_le _) ?_
  refine lv_aload_n hx hb dX7_beginLock_0 rfl (lv_at hl 0 rfl) ?_
  refine cG_28 hx hb hts i_X7_beginLock_X7 hown hK hC (hts (.fieldLink RX7 71 "StatementRules2$Statements" "tokens" "LStatementRules2$Tokens;") k_X7_beginLock_fieldLink_RX7_71_SR_Statements_tokens_LSR_Tokens) (fun x9 q9 => u_same (hts (.sameField "StatementRules2$Statements" "StatementRules2$Formulas" "tokens" "LStatementRules2$Tokens;") k_X7_beginLock_sameField_SR_Statements_SR_Formulas_tokens_LSR_Tokens) x9 q9) dX7_beginLock_1 ?_
  obtain ⟨p1, hcp1, hf⟩ := hf_bind hf
  have mo2 : CS.hs σ ≤ CS.hs p1.2 := Mono.go hcp1 (m_X9_advance N σ)
  have hr9 : CS.hs p1.2 ≤ CS.hs R.2 := Mono.go hf (mono_bind (m_X1_open N p1.2 40) (fun p5 => (mono_bind (m_X1_found N p5.2 3) (fun p9 => (mono_ite (mono_bind (m_X1_expect N p9.2 224) (fun p14 => (mono_bind (m_X7_throwNull N p14.2) (fun p18 => (m_X7_beginLock_58 N p18.2))))) (mono_bind (m_X0_add N p9.2 53 (p9.2.i 45)) (fun p45 => (mono_bind (m_X9_advance N p45.2) (fun p49 => (m_X7_beginLock_58 N p49.2))))))))))
  have hFc := cFree hC hA
  refine va_callv (va_runV (As := []) (rest := []) ⟨hx, hb, hml, hown, hts⟩ (c_X9_advance l dC dI Q N σ p1 hcp1) (cwV 0 hts hX7_beginLock_X9_advance_v146 rfl rfl rfl (by decide +kernel) ⟨(show 3 + 1 ≤ 5 by omega), (show 8 + (2 + 11) + 60 * 3 ≤ 60 * 5 by omega)⟩) ⟨zPre.blind, va_recv hK hC.1 (ci := 8) (q0 := 4) rfl rfl, cPre_go hZ hK hC⟩ rfl rfl hl.1 rfl (lv_room (Nat.le_of_ble_eq_true rfl)) dX7_beginLock_4 (cAcc h0 mo2 hr9)) hC.2.2.1 (fun q _ h => hFc q h) hFc (fun u9 t9 H1 locs ht hvm hw hB hz1 hk1 hS => ?_)
  obtain ⟨⟨hP, hK1, hD1⟩, hsz1⟩ := hB
  rw [ht] at hP hsz1
  have hC : CP dC dI Q A s.heap p1.2 H1 locs := ⟨hP, hD1.weaken (fun _ _ _ h => hFc _ h), hS, hsz1⟩
  generalize H1 = H at hC ⊢
  have h4 : (CS.hs σ) ≤ CS.hs p1.2 := Nat.le_trans h0 mo2
  refine W.widen (k := CS.hs p1.2 - (CS.hs σ)) (n := 17 * (CS.hs p1.2 - (CS.hs σ))) (cAcc2 h0 mo2) (cAcc3 h0 mo2) ?_
  refine lv_aload_n hx hb dX7_beginLock_7 rfl (lv_at hl 0 rfl) ?_
  refine lv_bipush (v := 40) hx hb dX7_beginLock_8 (by decide) ?_
  obtain ⟨p5, hcp5, hf⟩ := hf_bind hf
  have mo6 : CS.hs p1.2 ≤ CS.hs p5.2 := Mono.go hcp5 (m_X1_open N p1.2 40)
  have hr9 : CS.hs p5.2 ≤ CS.hs R.2 := Mono.go hf (mono_bind (m_X1_found N p5.2 3) (fun p9 => (mono_ite (mono_bind (m_X1_expect N p9.2 224) (fun p14 => (mono_bind (m_X7_throwNull N p14.2) (fun p18 => (m_X7_beginLock_58 N p18.2))))) (mono_bind (m_X0_add N p9.2 53 (p9.2.i 45)) (fun p45 => (mono_bind (m_X9_advance N p45.2) (fun p49 => (m_X7_beginLock_58 N p49.2))))))))
  have hFc := cFree hC hA
  refine va_callv (va_runU (As := [.int 40]) (rest := []) ⟨hx, hb, hml, hown, hts⟩ (c_X1_open l dC dI Q N p1.2 40 p5 hcp5) (va_cwU 1 hts hX7_beginLock_X1_open_u173 rfl rfl rfl rfl (by decide +kernel) ⟨(show 4 + 1 ≤ 5 by omega), (show 8 + (2 + 11) + 60 * 4 ≤ 60 * 5 by omega)⟩) ⟨zPre.blind, va_recv hK hC.1 (ci := 6) (q0 := 3) rfl rfl, cPre_go hZ hK hC⟩ rfl rfl hl.1 rfl (lv_room (Nat.le_of_ble_eq_true rfl)) dX7_beginLock_10 (cAcc h4 mo6 hr9)) hC.2.2.1 (fun q _ h => hFc q h) hFc (fun u9 t9 H1 locs ht hvm hw hB hz1 hk1 hS => ?_)
  obtain ⟨⟨hP, hK1, hD1⟩, hsz1⟩ := hB
  rw [ht] at hP hsz1
  have hC : CP dC dI Q A s.heap p5.2 H1 locs := ⟨hP, hD1.weaken (fun _ _ _ h => hFc _ h), hS, hsz1⟩
  generalize H1 = H at hC ⊢
  have h8 : (CS.hs σ) ≤ CS.hs p5.2 := Nat.le_trans h4 mo6
  refine W.widen (k := CS.hs p5.2 - (CS.hs σ)) (n := 17 * (CS.hs p5.2 - (CS.hs σ))) (cAcc2 h4 mo6) (cAcc3 h4 mo6) ?_
  refine lv_aload_n hx hb dX7_beginLock_13 rfl (lv_at hl 0 rfl) ?_
  refine lv_iconst (v := 3) hx hb dX7_beginLock_14 (by decide) ?_
  obtain ⟨p9, hcp9, hf⟩ := hf_bind hf
  have mo10 : CS.hs p5.2 ≤ CS.hs p9.2 := Mono.go hcp9 (m_X1_found N p5.2 3)
  have hr9 : CS.hs p9.2 ≤ CS.hs R.2 := Mono.go hf (mono_ite (mono_bind (m_X1_expect N p9.2 224) (fun p14 => (mono_bind (m_X7_throwNull N p14.2) (fun p18 => (m_X7_beginLock_58 N p18.2))))) (mono_bind (m_X0_add N p9.2 53 (p9.2.i 45)) (fun p45 => (mono_bind (m_X9_advance N p45.2) (fun p49 => (m_X7_beginLock_58 N p49.2))))))
  have hFc := cFree hC hA
  refine va_calli (va_runU (As := [.int 3]) (rest := []) ⟨hx, hb, hml, hown, hts⟩ (c_X1_found l dC dI Q N p5.2 3 p9 hcp9) (va_cwU 1 hts hX7_beginLock_X1_found_u110 rfl rfl rfl rfl (by decide +kernel) ⟨(show 1 + 1 ≤ 5 by omega), (show 8 + (2 + 11) + 60 * 1 ≤ 60 * 5 by omega)⟩) ⟨zPre.blind, va_recv hK hC.1 (ci := 6) (q0 := 3) rfl rfl, cPre_go hZ hK hC⟩ rfl rfl hl.1 rfl (lv_room (Nat.le_of_ble_eq_true rfl)) dX7_beginLock_15 (cAcc h8 mo10 hr9)) hC.2.2.1 (fun q _ h => hFc q h) hFc (fun r11 u9 t9 H1 locs ht hvm hw hB hz1 hk1 hS => ?_)
  obtain ⟨⟨hP, hK1, hD1⟩, hsz1⟩ := hB
  rw [ht] at hP hsz1
  have hC : CP dC dI Q A s.heap p9.2 H1 locs := ⟨hP, hD1.weaken (fun _ _ _ h => hFc _ h), hS, hsz1⟩
  generalize H1 = H at hC ⊢
  have h12 : (CS.hs σ) ≤ CS.hs p9.2 := Nat.le_trans h8 mo10
  refine W.widen (k := CS.hs p9.2 - (CS.hs σ)) (n := 17 * (CS.hs p9.2 - (CS.hs σ))) (cAcc2 h8 mo10) (cAcc3 h8 mo10) ?_
  obtain rfl : r11 = p9.1 := hw
  refine lv_if_eq (tgt := 47) hx hb dX7_beginLock_18 (by decide) (fun c13 => ?_) (fun c13 => ?_)
  ·
    replace hf := (if_pos c13).symm.trans hf
    refine lv_aload_n hx hb dX7_beginLock_47 rfl (lv_at hl 0 rfl) ?_
    refine lv_sipush (v := 224) hx hb dX7_beginLock_48 (by decide) ?_
    obtain ⟨p14, hcp14, hf⟩ := hf_bind hf
    have mo15 : CS.hs p9.2 ≤ CS.hs p14.2 := Mono.go hcp14 (m_X1_expect N p9.2 224)
    have hr9 : CS.hs p14.2 ≤ CS.hs R.2 := Mono.go hf (mono_bind (m_X7_throwNull N p14.2) (fun p18 => (m_X7_beginLock_58 N p18.2)))
    have hFc := cFree hC hA
    refine va_callv (va_runU (As := [.int 224]) (rest := []) ⟨hx, hb, hml, hown, hts⟩ (c_X1_expect l dC dI Q N p9.2 224 p14 hcp14) (va_cwU 1 hts hX7_beginLock_X1_expect_u155 rfl rfl rfl rfl (by decide +kernel) ⟨(show 4 + 1 ≤ 5 by omega), (show 8 + (2 + 11) + 60 * 4 ≤ 60 * 5 by omega)⟩) ⟨zPre.blind, va_recv hK hC.1 (ci := 6) (q0 := 3) rfl rfl, cPre_go hZ hK hC⟩ rfl rfl hl.1 rfl (lv_room (Nat.le_of_ble_eq_true rfl)) dX7_beginLock_51 (cAcc h12 mo15 hr9)) hC.2.2.1 (fun q _ h => hFc q h) hFc (fun u9 t9 H1 locs ht hvm hw hB hz1 hk1 hS => ?_)
    obtain ⟨⟨hP, hK1, hD1⟩, hsz1⟩ := hB
    rw [ht] at hP hsz1
    have hC : CP dC dI Q A s.heap p14.2 H1 locs := ⟨hP, hD1.weaken (fun _ _ _ h => hFc _ h), hS, hsz1⟩
    generalize H1 = H at hC ⊢
    have h17 : (CS.hs σ) ≤ CS.hs p14.2 := Nat.le_trans h12 mo15
    refine W.widen (k := CS.hs p14.2 - (CS.hs σ)) (n := 17 * (CS.hs p14.2 - (CS.hs σ))) (cAcc2 h12 mo15) (cAcc3 h12 mo15) ?_
    refine lv_aload_n hx hb dX7_beginLock_54 rfl (lv_at hl 0 rfl) ?_
    obtain ⟨p18, hcp18, hf⟩ := hf_bind hf
    have mo19 : CS.hs p14.2 ≤ CS.hs p18.2 := Mono.go hcp18 (m_X7_throwNull N p14.2)
    have hr9 : CS.hs p18.2 ≤ CS.hs R.2 := Mono.go hf (m_X7_beginLock_58 N p18.2)
    have hFc := cFree hC hA
    refine va_callv (va_runV (As := []) (rest := []) ⟨hx, hb, hml, hown, hts⟩ (c_X7_throwNull l dC dI Q N p14.2 p18 hcp18) (cwV 0 hts hX7_beginLock_X7_throwNull_v344 rfl rfl rfl (by decide +kernel) ⟨(show 3 + 1 ≤ 5 by omega), (show 8 + (1 + 11) + 60 * 3 ≤ 60 * 5 by omega)⟩) ⟨zPre.blind, va_recv hK hC.1 (ci := 6) (q0 := 3) rfl rfl, cPre_go hZ hK hC⟩ rfl rfl hl.1 rfl (lv_room (Nat.le_of_ble_eq_true rfl)) dX7_beginLock_55 (cAcc h17 mo19 hr9)) hC.2.2.1 (fun q _ h => hFc q h) hFc (fun u9 t9 H1 locs ht hvm hw hB hz1 hk1 hS => ?_)
    obtain ⟨⟨hP, hK1, hD1⟩, hsz1⟩ := hB
    rw [ht] at hP hsz1
    have hC : CP dC dI Q A s.heap p18.2 H1 locs := ⟨hP, hD1.weaken (fun _ _ _ h => hFc _ h), hS, hsz1⟩
    generalize H1 = H at hC ⊢
    have h21 : (CS.hs σ) ≤ CS.hs p18.2 := Nat.le_trans h17 mo19
    refine W.widen (k := CS.hs p18.2 - (CS.hs σ)) (n := 17 * (CS.hs p18.2 - (CS.hs σ))) (cAcc2 h17 mo19) (cAcc3 h17 mo19) ?_
    exact j_X7_beginLock_58 l dC dI Q N (CS.hs σ) R hx hb hr hml hown hts hlocks hZ hA hK p18.2 _ _ _ hf h21 hC (lv_sub hl [0] rfl)
  ·
    replace hf := (if_neg c13).symm.trans hf
    refine lv_aload_n hx hb dX7_beginLock_21 rfl (lv_at hl 0 rfl) ?_
    refine cG_29 hx hb hts i_X7_beginLock_X7 hown hK hC (hts (.fieldLink RX7 20 "StatementRules2$Statements" "code" "LStatementRules2$Code;") k_X7_beginLock_fieldLink_RX7_20_SR_Statements_code_LSR_Code) (fun x9 q9 => u_same (hts (.sameField "StatementRules2$Statements" "StatementRules2$Formulas" "code" "LStatementRules2$Code;") k_X7_beginLock_sameField_SR_Statements_SR_Formulas_code_LSR_Code) x9 q9) dX7_beginLock_22 ?_
    refine lv_bipush (v := 53) hx hb dX7_beginLock_25 (by decide) ?_
    refine lv_aload_n hx hb dX7_beginLock_27 rfl (lv_at hl 0 rfl) ?_
    refine cG_28 hx hb hts i_X7_beginLock_X7 hown hK hC (hts (.fieldLink RX7 71 "StatementRules2$Statements" "tokens" "LStatementRules2$Tokens;") k_X7_beginLock_fieldLink_RX7_71_SR_Statements_tokens_LSR_Tokens) (fun x9 q9 => u_same (hts (.sameField "StatementRules2$Statements" "StatementRules2$Formulas" "tokens" "LStatementRules2$Tokens;") k_X7_beginLock_sameField_SR_Statements_SR_Formulas_tokens_LSR_Tokens) x9 q9) dX7_beginLock_28 ?_
    refine cGN_45 (v := (p9.2.i 45)) hx hb hts i_X7_beginLock_X9 hown hK hC (va_Nw.use rfl (hZ.1 (.fieldLinkNest RX7 297 "StatementRules2$Tokens" "value" "I" "StatementRules2") (by decide +kernel))) (fun _ q9 => q9) dX7_beginLock_31 rfl ?_
    obtain ⟨p45, hcp45, hf⟩ := hf_bind hf
    have mo46 : CS.hs p9.2 ≤ CS.hs p45.2 := Mono.go hcp45 (m_X0_add N p9.2 53 (p9.2.i 45))
    have hr9 : CS.hs p45.2 ≤ CS.hs R.2 := Mono.go hf (mono_bind (m_X9_advance N p45.2) (fun p49 => (m_X7_beginLock_58 N p49.2)))
    have hFc := cFree hC hA
    refine va_callv (va_runV (As := [.int 53, .int (p9.2.i 45)]) (rest := []) ⟨hx, hb, hml, hown, hts⟩ (c_X0_add l dC dI Q N p9.2 53 (p9.2.i 45) p45 hcp45) (cwV 2 hts hX7_beginLock_X0_add_v176 rfl rfl rfl (by decide +kernel) ⟨(show 2 + 1 ≤ 5 by omega), (show 8 + (3 + 11) + 60 * 2 ≤ 60 * 5 by omega)⟩) ⟨zPre.blind, va_recv hK hC.1 (ci := 0) (q0 := 2) rfl rfl, cPre_go hZ hK hC⟩ rfl rfl hl.1 rfl (lv_room (Nat.le_of_ble_eq_true rfl)) dX7_beginLock_34 (cAcc h12 mo46 hr9)) hC.2.2.1 (fun q _ h => hFc q h) hFc (fun u9 t9 H1 locs ht hvm hw hB hz1 hk1 hS => ?_)
    obtain ⟨⟨hP, hK1, hD1⟩, hsz1⟩ := hB
    rw [ht] at hP hsz1
    have hC : CP dC dI Q A s.heap p45.2 H1 locs := ⟨hP, hD1.weaken (fun _ _ _ h => hFc _ h), hS, hsz1⟩
    generalize H1 = H at hC ⊢
    have h48 : (CS.hs σ) ≤ CS.hs p45.2 := Nat.le_trans h12 mo46
    refine W.widen (k := CS.hs p45.2 - (CS.hs σ)) (n := 17 * (CS.hs p45.2 - (CS.hs σ))) (cAcc2 h12 mo46) (cAcc3 h12 mo46) ?_
    refine lv_aload_n hx hb dX7_beginLock_37 rfl (lv_at hl 0 rfl) ?_
    refine cG_28 hx hb hts i_X7_beginLock_X7 hown hK hC (hts (.fieldLink RX7 71 "StatementRules2$Statements" "tokens" "LStatementRules2$Tokens;") k_X7_beginLock_fieldLink_RX7_71_SR_Statements_tokens_LSR_Tokens) (fun x9 q9 => u_same (hts (.sameField "StatementRules2$Statements" "StatementRules2$Formulas" "tokens" "LStatementRules2$Tokens;") k_X7_beginLock_sameField_SR_Statements_SR_Formulas_tokens_LSR_Tokens) x9 q9) dX7_beginLock_38 ?_
    obtain ⟨p49, hcp49, hf⟩ := hf_bind hf
    have mo50 : CS.hs p45.2 ≤ CS.hs p49.2 := Mono.go hcp49 (m_X9_advance N p45.2)
    have hr9 : CS.hs p49.2 ≤ CS.hs R.2 := Mono.go hf (m_X7_beginLock_58 N p49.2)
    have hFc := cFree hC hA
    refine va_callv (va_runV (As := []) (rest := []) ⟨hx, hb, hml, hown, hts⟩ (c_X9_advance l dC dI Q N p45.2 p49 hcp49) (cwV 0 hts hX7_beginLock_X9_advance_v146 rfl rfl rfl (by decide +kernel) ⟨(show 3 + 1 ≤ 5 by omega), (show 8 + (2 + 11) + 60 * 3 ≤ 60 * 5 by omega)⟩) ⟨zPre.blind, va_recv hK hC.1 (ci := 8) (q0 := 4) rfl rfl, cPre_go hZ hK hC⟩ rfl rfl hl.1 rfl (lv_room (Nat.le_of_ble_eq_true rfl)) dX7_beginLock_41 (cAcc h48 mo50 hr9)) hC.2.2.1 (fun q _ h => hFc q h) hFc (fun u9 t9 H1 locs ht hvm hw hB hz1 hk1 hS => ?_)
    obtain ⟨⟨hP, hK1, hD1⟩, hsz1⟩ := hB
    rw [ht] at hP hsz1
    have hC : CP dC dI Q A s.heap p49.2 H1 locs := ⟨hP, hD1.weaken (fun _ _ _ h => hFc _ h), hS, hsz1⟩
    generalize H1 = H at hC ⊢
    have h52 : (CS.hs σ) ≤ CS.hs p49.2 := Nat.le_trans h48 mo50
    refine W.widen (k := CS.hs p49.2 - (CS.hs σ)) (n := 17 * (CS.hs p49.2 - (CS.hs σ))) (cAcc2 h48 mo50) (cAcc3 h48 mo50) ?_
    refine lv_goto (tgt := 58) hx hb dX7_beginLock_44 (by decide) ?_
    exact j_X7_beginLock_58 l dC dI Q N (CS.hs σ) R hx hb hr hml hown hts hlocks hZ hA hK p49.2 _ _ _ hf h52 hC (lv_sub hl [0] rfl)
theorem k_X7_beginSwitch_fieldLink_RX7_71_SR_Statements_tokens_LSR_Tokens : Cond.fieldLink RX7 71 "StatementRules2$Statements" "tokens" "LStatementRules2$Tokens;" ∈ wzX7_beginSwitch := List.mem_cons_of_mem _ (List.mem_append_right _ (List.mem_append_right _ (List.mem_append_right _ (List.mem_append_right _ (List.mem_append_right _ (List.mem_append_right _ (List.mem_append_right _ (List.mem_append_right _ (List.mem_append_right _ (List.mem_append_right _ (List.mem_append_right _ (List.mem_append_right _ (List.mem_append_right _ (List.mem_append_right _ (List.mem_append_left _ (List.mem_of_getElem? (i := 0) rfl))))))))))))))))
theorem k_X7_beginSwitch_sameField_SR_Statements_SR_Formulas_tokens_LSR_Tokens : Cond.sameField "StatementRules2$Statements" "StatementRules2$Formulas" "tokens" "LStatementRules2$Tokens;" ∈ wzX7_beginSwitch := List.mem_cons_of_mem _ (List.mem_append_right _ (List.mem_append_right _ (List.mem_append_right _ (List.mem_append_right _ (List.mem_append_right _ (List.mem_append_right _ (List.mem_append_right _ (List.mem_append_right _ (List.mem_append_right _ (List.mem_append_right _ (List.mem_append_right _ (List.mem_append_right _ (List.mem_append_right _ (List.mem_append_right _ (List.mem_append_left _ (List.mem_of_getElem? (i := 1) rfl))))))))))))))))
theorem i_X7_beginSwitch_X7 : ∀ w ∈ wsX70, w ∈ wzX7_beginSwitch := fun _ h => List.mem_cons_of_mem _ (List.mem_append_right _ (List.mem_append_right _ (List.mem_append_right _ (List.mem_append_right _ (List.mem_append_right _ (List.mem_append_right _ (List.mem_append_right _ (List.mem_append_right _ (List.mem_append_right _ (List.mem_append_right _ (List.mem_append_right _ (List.mem_append_right _ (List.mem_append_right _ (List.mem_append_right _ (List.mem_append_right _ (List.mem_append_right _ (List.mem_append_right _ (List.mem_append_right _ (List.mem_append_right _ (List.mem_append_right _ (List.mem_append_right _ (List.mem_append_right _ (List.mem_append_right _ (List.mem_append_right _ (List.mem_append_right _ (List.mem_append_right _ (List.mem_append_right _ (List.mem_append_right _ (List.mem_append_right _ (List.mem_append_right _ (List.mem_append_right _ (List.mem_append_right _ (List.mem_append_right _ (List.mem_append_right _ (List.mem_append_right _ (List.mem_append_right _ (List.mem_append_left _ (h))))))))))))))))))))))))))))))))))))))
theorem k_X7_beginSwitch_fieldLink_RX7_14_SR_Statements_opens_LSR_Opens : Cond.fieldLink RX7 14 "StatementRules2$Statements" "opens" "LStatementRules2$Opens;" ∈ wzX7_beginSwitch := List.mem_cons_of_mem _ (List.mem_append_right _ (List.mem_append_right _ (List.mem_append_right _ (List.mem_append_right _ (List.mem_append_right _ (List.mem_append_right _ (List.mem_append_right _ (List.mem_append_right _ (List.mem_append_right _ (List.mem_append_right _ (List.mem_append_right _ (List.mem_append_right _ (List.mem_append_right _ (List.mem_append_right _ (List.mem_append_left _ (List.mem_of_getElem? (i := 2) rfl))))))))))))))))
theorem k_X7_beginSwitch_fieldLink_RX7_68_SR_Statements_depth_I : Cond.fieldLink RX7 68 "StatementRules2$Statements" "depth" "I" ∈ wzX7_beginSwitch := List.mem_cons_of_mem _ (List.mem_append_right _ (List.mem_append_right _ (List.mem_append_right _ (List.mem_append_right _ (List.mem_append_right _ (List.mem_append_right _ (List.mem_append_right _ (List.mem_append_right _ (List.mem_append_right _ (List.mem_append_right _ (List.mem_append_right _ (List.mem_append_right _ (List.mem_append_right _ (List.mem_append_right _ (List.mem_append_left _ (List.mem_of_getElem? (i := 3) rfl))))))))))))))))
theorem k_X7_beginSwitch_fieldLink_RX7_29_SR_Statements_names_LSR_Names : Cond.fieldLink RX7 29 "StatementRules2$Statements" "names" "LStatementRules2$Names;" ∈ wzX7_beginSwitch := List.mem_cons_of_mem _ (List.mem_append_right _ (List.mem_append_right _ (List.mem_append_right _ (List.mem_append_right _ (List.mem_append_right _ (List.mem_append_right _ (List.mem_append_right _ (List.mem_append_right _ (List.mem_append_right _ (List.mem_append_right _ (List.mem_append_right _ (List.mem_append_right _ (List.mem_append_right _ (List.mem_append_right _ (List.mem_append_left _ (List.mem_of_getElem? (i := 4) rfl))))))))))))))))
theorem k_X7_beginSwitch_sameField_SR_Statements_SR_Formulas_names_LSR_Names : Cond.sameField "StatementRules2$Statements" "StatementRules2$Formulas" "names" "LStatementRules2$Names;" ∈ wzX7_beginSwitch := List.mem_cons_of_mem _ (List.mem_append_right _ (List.mem_append_right _ (List.mem_append_right _ (List.mem_append_right _ (List.mem_append_right _ (List.mem_append_right _ (List.mem_append_right _ (List.mem_append_right _ (List.mem_append_right _ (List.mem_append_right _ (List.mem_append_right _ (List.mem_append_right _ (List.mem_append_right _ (List.mem_append_right _ (List.mem_append_left _ (List.mem_of_getElem? (i := 5) rfl))))))))))))))))
theorem i_X7_beginSwitch_X4 : ∀ w ∈ wsX40, w ∈ wzX7_beginSwitch := fun _ h => List.mem_cons_of_mem _ (List.mem_append_right _ (List.mem_append_right _ (List.mem_append_right _ (List.mem_append_right _ (List.mem_append_right _ (List.mem_append_right _ (List.mem_append_right _ (List.mem_append_right _ (List.mem_append_right _ (List.mem_append_right _ (List.mem_append_right _ (List.mem_append_right _ (List.mem_append_right _ (List.mem_append_right _ (List.mem_append_right _ (List.mem_append_right _ (List.mem_append_right _ (List.mem_append_right _ (List.mem_append_right _ (List.mem_append_right _ (List.mem_append_right _ (List.mem_append_right _ (List.mem_append_right _ (List.mem_append_right _ (List.mem_append_right _ (List.mem_append_right _ (List.mem_append_right _ (List.mem_append_right _ (List.mem_append_right _ (List.mem_append_right _ (List.mem_append_right _ (List.mem_append_right _ (List.mem_append_right _ (List.mem_append_right _ (List.mem_append_right _ (List.mem_append_right _ (List.mem_append_right _ (List.mem_append_right _ (List.mem_append_right _ (List.mem_append_right _ (List.mem_append_left _ (h))))))))))))))))))))))))))))))))))))))))))
theorem k_X7_beginSwitch_fieldLink_RX7_20_SR_Statements_code_LSR_Code : Cond.fieldLink RX7 20 "StatementRules2$Statements" "code" "LStatementRules2$Code;" ∈ wzX7_beginSwitch := List.mem_cons_of_mem _ (List.mem_append_right _ (List.mem_append_right _ (List.mem_append_right _ (List.mem_append_right _ (List.mem_append_right _ (List.mem_append_right _ (List.mem_append_right _ (List.mem_append_right _ (List.mem_append_right _ (List.mem_append_right _ (List.mem_append_right _ (List.mem_append_right _ (List.mem_append_right _ (List.mem_append_right _ (List.mem_append_left _ (List.mem_of_getElem? (i := 6) rfl))))))))))))))))
theorem k_X7_beginSwitch_sameField_SR_Statements_SR_Formulas_code_LSR_Code : Cond.sameField "StatementRules2$Statements" "StatementRules2$Formulas" "code" "LStatementRules2$Code;" ∈ wzX7_beginSwitch := List.mem_cons_of_mem _ (List.mem_append_right _ (List.mem_append_right _ (List.mem_append_right _ (List.mem_append_right _ (List.mem_append_right _ (List.mem_append_right _ (List.mem_append_right _ (List.mem_append_right _ (List.mem_append_right _ (List.mem_append_right _ (List.mem_append_right _ (List.mem_append_right _ (List.mem_append_right _ (List.mem_append_right _ (List.mem_append_left _ (List.mem_of_getElem? (i := 7) rfl))))))))))))))))
theorem i_X7_beginSwitch_X5 : ∀ w ∈ wsX50, w ∈ wzX7_beginSwitch := fun _ h => List.mem_cons_of_mem _ (List.mem_append_right _ (List.mem_append_right _ (List.mem_append_right _ (List.mem_append_right _ (List.mem_append_right _ (List.mem_append_right _ (List.mem_append_right _ (List.mem_append_right _ (List.mem_append_right _ (List.mem_append_right _ (List.mem_append_right _ (List.mem_append_right _ (List.mem_append_right _ (List.mem_append_right _ (List.mem_append_right _ (List.mem_append_right _ (List.mem_append_right _ (List.mem_append_right _ (List.mem_append_right _ (List.mem_append_right _ (List.mem_append_right _ (List.mem_append_right _ (List.mem_append_right _ (List.mem_append_right _ (List.mem_append_right _ (List.mem_append_right _ (List.mem_append_right _ (List.mem_append_right _ (List.mem_append_right _ (List.mem_append_right _ (List.mem_append_right _ (List.mem_append_right _ (List.mem_append_right _ (List.mem_append_right _ (List.mem_append_right _ (List.mem_append_right _ (List.mem_append_right _ (List.mem_append_right _ (List.mem_append_right _ (List.mem_append_right _ (List.mem_append_right _ (List.mem_append_left _ (h)))))))))))))))))))))))))))))))))))))))))))
theorem i_X7_beginSwitch_X0 : ∀ w ∈ wsX00, w ∈ wzX7_beginSwitch := fun _ h => List.mem_cons_of_mem _ (List.mem_append_right _ (List.mem_append_right _ (List.mem_append_right _ (List.mem_append_right _ (List.mem_append_right _ (List.mem_append_right _ (List.mem_append_right _ (List.mem_append_right _ (List.mem_append_right _ (List.mem_append_right _ (List.mem_append_right _ (List.mem_append_right _ (List.mem_append_right _ (List.mem_append_right _ (List.mem_append_right _ (List.mem_append_right _ (List.mem_append_right _ (List.mem_append_right _ (List.mem_append_right _ (List.mem_append_right _ (List.mem_append_right _ (List.mem_append_right _ (List.mem_append_right _ (List.mem_append_right _ (List.mem_append_right _ (List.mem_append_right _ (List.mem_append_right _ (List.mem_append_right _ (List.mem_append_right _ (List.mem_append_right _ (List.mem_append_right _ (List.mem_append_right _ (List.mem_append_right _ (List.mem_append_right _ (List.mem_append_right _ (List.mem_append_right _ (List.mem_append_right _ (List.mem_append_right _ (List.mem_append_left _ (h))))))))))))))))))))))))))))))))))))))))
set_option maxHeartbeats 4000000 in
set_option maxRecDepth 100000 in
theorem c_X7_beginSwitch (l : Launch) (dC : Nat → ClassId) (dI : Nat → Nat → Nat) (Q : CQ) (N : Nat) (d : Nat) (E1 : CS → Option (Unit × CS)) (E2 : CS → Option (Int32 × CS)) (hE1 : cMF l dC dI Q d E1) (hE2 : cMO l dC dI Q d E2) (hm1 : ∀ σ, Mono (CS.hs σ) (E1 σ)) (hm2 : ∀ σ, Mono (CS.hs σ) (E2 σ)) (σ : CS) (R : Unit × CS) (hf : f_X7_beginSwitch N E1 E2 σ = some R) : Met l yX7_beginSwitch wzX7_beginSwitch ({ frames := (13 + 40 * d), cells := CS.hs R.2 - CS.hs σ, slots := 17 * (CS.hs R.2 - CS.hs σ), locals := 60 * (13 + 40 * d) }) (va_Pc [.ref (Q.o 3)] (zPre dC dI (CS.hs σ) (cW Q σ) (cT Q))) (va_Qv (fun (_ : Unit) => True) (fun (_ : Unit) (t : State) => zPost dC dI (va_A (cW Q σ) (CS.hs σ)) (cW Q R.2) (cT Q) t ∧ t.heap.size = CS.hs R.2) (va_A (cW Q σ) (CS.hs σ))) (CS.hs R.2 - CS.hs σ) (17 * (CS.hs R.2 - CS.hs σ)) (va_A (cW Q σ) (CS.hs σ)) := by
  refine Met.ofW (cc := cX7_beginSwitch) (maxL := 2) (ret := none) (by decide) rfl ?_
  intro p e s m args below meth c s₁ B hml hv
  obtain ⟨rfl, hsz, hZ, hP, hK, hD0⟩ := hv
  have hx := B.exec
  have hb := B.bytes
  have hr := B.returns
  have hts := atoms_spec (ws := wzX7_beginSwitch) B.pre
  have hown : s.vm.findClass RX7 = some m.cls := findClass_of_methodNamed B.named
  have hlocks := B.notSynchronized
  have hD := hD0.self (sz := CS.hs σ)
  generalize hAe : va_A (cW Q σ) (CS.hs σ) = A at hD ⊢
  have hA : ∀ q : Nat, s.heap.size ≤ q → A q := fun q h => by rw [← hAe]; exact Or.inr (hsz ▸ h)
  have hC : CP dC dI Q A s.heap σ s.heap [] := ⟨hP, hD, va_S.rf, hsz⟩
  have h0 : CS.hs σ ≤ CS.hs σ := Nat.le_refl _
  have hl := lv_entry ([.ref (Q.o 3)]) (n := 2) (Nat.le_of_ble_eq_true rfl)
  rw [lg_entry_eq]
  generalize (lg_sl ([.ref (Q.o 3)]) ++ List.replicate (2 - (lg_sl ([.ref (Q.o 3)])).length) Slot.unset).toArray = ls at hl ⊢
  have hl : lv_has ls 2 [(0, .ref (Q.o 3))] := hl
  unfold f_X7_beginSwitch at hf
  refine W.widen (k := CS.hs σ - CS.hs σ) (n := 17 * (CS.hs σ - CS.hs σ)) (Nat.zero_le _) (Nat.zero_le _) ?_
  refine lv_aload_n hx hb dX7_beginSwitch_0 rfl (lv_at hl 0 rfl) ?_
  refine cG_28 hx hb hts i_X7_beginSwitch_X7 hown hK hC (hts (.fieldLink RX7 71 "StatementRules2$Statements" "tokens" "LStatementRules2$Tokens;") k_X7_beginSwitch_fieldLink_RX7_71_SR_Statements_tokens_LSR_Tokens) (fun x9 q9 => u_same (hts (.sameField "StatementRules2$Statements" "StatementRules2$Formulas" "tokens" "LStatementRules2$Tokens;") k_X7_beginSwitch_sameField_SR_Statements_SR_Formulas_tokens_LSR_Tokens) x9 q9) dX7_beginSwitch_1 ?_
  obtain ⟨p1, hcp1, hf⟩ := hf_bind hf
  have mo2 : CS.hs σ ≤ CS.hs p1.2 := Mono.go hcp1 (m_X9_advance N σ)
  have hr9 : CS.hs p1.2 ≤ CS.hs R.2 := Mono.go hf (mono_bind (m_X1_open N p1.2 40) (fun p5 => (mono_bind (m_X1_expression N E1 E2 hm1 hm2 p5.2) (fun p9 => (mono_bind (m_X1_close N p9.2 41) (fun p13 => (mono_bind (m_X1_open N p13.2 123) (fun p17 => (mono_bind (m_X6_push N p17.2 218 (p17.2.i 38) (p17.2.i 50)) (fun p21 => (mono_oc (mono_bind (m_X0_newTarget N p21.2) (fun p27 => mono_none)) (fun a26 => (mono_bind (m_X0_newTarget N p21.2) (fun p31 => (mono_ite (mono_bind (m_X0_newTarget N (CS.setO p31.2 a26 10 p31.1)) (fun p36 => (mono_ite (mono_bind (m_X0_add N (CS.setO (CS.setO p36.2 a26 9 p36.1) a26 13 (p36.2.i 22)) 30 (CS.o (CS.setO (CS.setO p36.2 a26 9 p36.1) a26 13 (p36.2.i 22)) a26 10)) (fun p41 => (mono_some (Nat.le_refl _)))) mono_none))) mono_none)))))))))))))))
  have hFc := cFree hC hA
  refine va_callv (va_runV (As := []) (rest := []) ⟨hx, hb, hml, hown, hts⟩ (c_X9_advance l dC dI Q N σ p1 hcp1) (cwV 0 hts hX7_beginSwitch_X9_advance_v146 rfl rfl rfl (by decide +kernel) ⟨(show 3 + 1 ≤ (13 + 40 * d) by omega), (show 8 + (2 + 11) + 60 * 3 ≤ 60 * (13 + 40 * d) by omega)⟩) ⟨zPre.blind, va_recv hK hC.1 (ci := 8) (q0 := 4) rfl rfl, cPre_go hZ hK hC⟩ rfl rfl hl.1 rfl (lv_room (Nat.le_of_ble_eq_true rfl)) dX7_beginSwitch_4 (cAcc h0 mo2 hr9)) hC.2.2.1 (fun q _ h => hFc q h) hFc (fun u9 t9 H1 locs ht hvm hw hB hz1 hk1 hS => ?_)
  obtain ⟨⟨hP, hK1, hD1⟩, hsz1⟩ := hB
  rw [ht] at hP hsz1
  have hC : CP dC dI Q A s.heap p1.2 H1 locs := ⟨hP, hD1.weaken (fun _ _ _ h => hFc _ h), hS, hsz1⟩
  generalize H1 = H at hC ⊢
  have h4 : (CS.hs σ) ≤ CS.hs p1.2 := Nat.le_trans h0 mo2
  refine W.widen (k := CS.hs p1.2 - (CS.hs σ)) (n := 17 * (CS.hs p1.2 - (CS.hs σ))) (cAcc2 h0 mo2) (cAcc3 h0 mo2) ?_
  refine lv_aload_n hx hb dX7_beginSwitch_7 rfl (lv_at hl 0 rfl) ?_
  refine lv_bipush (v := 40) hx hb dX7_beginSwitch_8 (by decide) ?_
  obtain ⟨p5, hcp5, hf⟩ := hf_bind hf
  have mo6 : CS.hs p1.2 ≤ CS.hs p5.2 := Mono.go hcp5 (m_X1_open N p1.2 40)
  have hr9 : CS.hs p5.2 ≤ CS.hs R.2 := Mono.go hf (mono_bind (m_X1_expression N E1 E2 hm1 hm2 p5.2) (fun p9 => (mono_bind (m_X1_close N p9.2 41) (fun p13 => (mono_bind (m_X1_open N p13.2 123) (fun p17 => (mono_bind (m_X6_push N p17.2 218 (p17.2.i 38) (p17.2.i 50)) (fun p21 => (mono_oc (mono_bind (m_X0_newTarget N p21.2) (fun p27 => mono_none)) (fun a26 => (mono_bind (m_X0_newTarget N p21.2) (fun p31 => (mono_ite (mono_bind (m_X0_newTarget N (CS.setO p31.2 a26 10 p31.1)) (fun p36 => (mono_ite (mono_bind (m_X0_add N (CS.setO (CS.setO p36.2 a26 9 p36.1) a26 13 (p36.2.i 22)) 30 (CS.o (CS.setO (CS.setO p36.2 a26 9 p36.1) a26 13 (p36.2.i 22)) a26 10)) (fun p41 => (mono_some (Nat.le_refl _)))) mono_none))) mono_none)))))))))))))
  have hFc := cFree hC hA
  refine va_callv (va_runU (As := [.int 40]) (rest := []) ⟨hx, hb, hml, hown, hts⟩ (c_X1_open l dC dI Q N p1.2 40 p5 hcp5) (va_cwU 1 hts hX7_beginSwitch_X1_open_u173 rfl rfl rfl rfl (by decide +kernel) ⟨(show 4 + 1 ≤ (13 + 40 * d) by omega), (show 8 + (2 + 11) + 60 * 4 ≤ 60 * (13 + 40 * d) by omega)⟩) ⟨zPre.blind, va_recv hK hC.1 (ci := 6) (q0 := 3) rfl rfl, cPre_go hZ hK hC⟩ rfl rfl hl.1 rfl (lv_room (Nat.le_of_ble_eq_true rfl)) dX7_beginSwitch_10 (cAcc h4 mo6 hr9)) hC.2.2.1 (fun q _ h => hFc q h) hFc (fun u9 t9 H1 locs ht hvm hw hB hz1 hk1 hS => ?_)
  obtain ⟨⟨hP, hK1, hD1⟩, hsz1⟩ := hB
  rw [ht] at hP hsz1
  have hC : CP dC dI Q A s.heap p5.2 H1 locs := ⟨hP, hD1.weaken (fun _ _ _ h => hFc _ h), hS, hsz1⟩
  generalize H1 = H at hC ⊢
  have h8 : (CS.hs σ) ≤ CS.hs p5.2 := Nat.le_trans h4 mo6
  refine W.widen (k := CS.hs p5.2 - (CS.hs σ)) (n := 17 * (CS.hs p5.2 - (CS.hs σ))) (cAcc2 h4 mo6) (cAcc3 h4 mo6) ?_
  refine lv_aload_n hx hb dX7_beginSwitch_13 rfl (lv_at hl 0 rfl) ?_
  obtain ⟨p9, hcp9, hf⟩ := hf_bind hf
  have mo10 : CS.hs p5.2 ≤ CS.hs p9.2 := Mono.go hcp9 (m_X1_expression N E1 E2 hm1 hm2 p5.2)
  have hr9 : CS.hs p9.2 ≤ CS.hs R.2 := Mono.go hf (mono_bind (m_X1_close N p9.2 41) (fun p13 => (mono_bind (m_X1_open N p13.2 123) (fun p17 => (mono_bind (m_X6_push N p17.2 218 (p17.2.i 38) (p17.2.i 50)) (fun p21 => (mono_oc (mono_bind (m_X0_newTarget N p21.2) (fun p27 => mono_none)) (fun a26 => (mono_bind (m_X0_newTarget N p21.2) (fun p31 => (mono_ite (mono_bind (m_X0_newTarget N (CS.setO p31.2 a26 10 p31.1)) (fun p36 => (mono_ite (mono_bind (m_X0_add N (CS.setO (CS.setO p36.2 a26 9 p36.1) a26 13 (p36.2.i 22)) 30 (CS.o (CS.setO (CS.setO p36.2 a26 9 p36.1) a26 13 (p36.2.i 22)) a26 10)) (fun p41 => (mono_some (Nat.le_refl _)))) mono_none))) mono_none)))))))))))
  have hFc := cFree hC hA
  refine va_callv (va_runU (As := []) (rest := []) ⟨hx, hb, hml, hown, hts⟩ (c_X1_expression l dC dI Q N d E1 E2 hE1 hE2 hm1 hm2 p5.2 p9 hcp9) (va_cwU 0 hts hX7_beginSwitch_X1_expression_u211 rfl rfl rfl rfl (by decide +kernel) ⟨(show (12 + 40 * d) + 1 ≤ (13 + 40 * d) by omega), (show 8 + (3 + 11) + 60 * (12 + 40 * d) ≤ 60 * (13 + 40 * d) by omega)⟩) ⟨zPre.blind, va_recv hK hC.1 (ci := 6) (q0 := 3) rfl rfl, cPre_go hZ hK hC⟩ rfl rfl hl.1 rfl (lv_room (Nat.le_of_ble_eq_true rfl)) dX7_beginSwitch_14 (cAcc h8 mo10 hr9)) hC.2.2.1 (fun q _ h => hFc q h) hFc (fun u9 t9 H1 locs ht hvm hw hB hz1 hk1 hS => ?_)
  obtain ⟨⟨hP, hK1, hD1⟩, hsz1⟩ := hB
  rw [ht] at hP hsz1
  have hC : CP dC dI Q A s.heap p9.2 H1 locs := ⟨hP, hD1.weaken (fun _ _ _ h => hFc _ h), hS, hsz1⟩
  generalize H1 = H at hC ⊢
  have h12 : (CS.hs σ) ≤ CS.hs p9.2 := Nat.le_trans h8 mo10
  refine W.widen (k := CS.hs p9.2 - (CS.hs σ)) (n := 17 * (CS.hs p9.2 - (CS.hs σ))) (cAcc2 h8 mo10) (cAcc3 h8 mo10) ?_
  refine lv_aload_n hx hb dX7_beginSwitch_17 rfl (lv_at hl 0 rfl) ?_
  refine lv_bipush (v := 41) hx hb dX7_beginSwitch_18 (by decide) ?_
  obtain ⟨p13, hcp13, hf⟩ := hf_bind hf
  have mo14 : CS.hs p9.2 ≤ CS.hs p13.2 := Mono.go hcp13 (m_X1_close N p9.2 41)
  have hr9 : CS.hs p13.2 ≤ CS.hs R.2 := Mono.go hf (mono_bind (m_X1_open N p13.2 123) (fun p17 => (mono_bind (m_X6_push N p17.2 218 (p17.2.i 38) (p17.2.i 50)) (fun p21 => (mono_oc (mono_bind (m_X0_newTarget N p21.2) (fun p27 => mono_none)) (fun a26 => (mono_bind (m_X0_newTarget N p21.2) (fun p31 => (mono_ite (mono_bind (m_X0_newTarget N (CS.setO p31.2 a26 10 p31.1)) (fun p36 => (mono_ite (mono_bind (m_X0_add N (CS.setO (CS.setO p36.2 a26 9 p36.1) a26 13 (p36.2.i 22)) 30 (CS.o (CS.setO (CS.setO p36.2 a26 9 p36.1) a26 13 (p36.2.i 22)) a26 10)) (fun p41 => (mono_some (Nat.le_refl _)))) mono_none))) mono_none)))))))))
  have hFc := cFree hC hA
  refine va_callv (va_runU (As := [.int 41]) (rest := []) ⟨hx, hb, hml, hown, hts⟩ (c_X1_close l dC dI Q N p9.2 41 p13 hcp13) (va_cwU 1 hts hX7_beginSwitch_X1_close_u318 rfl rfl rfl rfl (by decide +kernel) ⟨(show 4 + 1 ≤ (13 + 40 * d) by omega), (show 8 + (2 + 11) + 60 * 4 ≤ 60 * (13 + 40 * d) by omega)⟩) ⟨zPre.blind, va_recv hK hC.1 (ci := 6) (q0 := 3) rfl rfl, cPre_go hZ hK hC⟩ rfl rfl hl.1 rfl (lv_room (Nat.le_of_ble_eq_true rfl)) dX7_beginSwitch_20 (cAcc h12 mo14 hr9)) hC.2.2.1 (fun q _ h => hFc q h) hFc (fun u9 t9 H1 locs ht hvm hw hB hz1 hk1 hS => ?_)
  obtain ⟨⟨hP, hK1, hD1⟩, hsz1⟩ := hB
  rw [ht] at hP hsz1
  have hC : CP dC dI Q A s.heap p13.2 H1 locs := ⟨hP, hD1.weaken (fun _ _ _ h => hFc _ h), hS, hsz1⟩
  generalize H1 = H at hC ⊢
  have h16 : (CS.hs σ) ≤ CS.hs p13.2 := Nat.le_trans h12 mo14
  refine W.widen (k := CS.hs p13.2 - (CS.hs σ)) (n := 17 * (CS.hs p13.2 - (CS.hs σ))) (cAcc2 h12 mo14) (cAcc3 h12 mo14) ?_
  refine lv_aload_n hx hb dX7_beginSwitch_23 rfl (lv_at hl 0 rfl) ?_
  refine lv_bipush (v := 123) hx hb dX7_beginSwitch_24 (by decide) ?_
  obtain ⟨p17, hcp17, hf⟩ := hf_bind hf
  have mo18 : CS.hs p13.2 ≤ CS.hs p17.2 := Mono.go hcp17 (m_X1_open N p13.2 123)
  have hr9 : CS.hs p17.2 ≤ CS.hs R.2 := Mono.go hf (mono_bind (m_X6_push N p17.2 218 (p17.2.i 38) (p17.2.i 50)) (fun p21 => (mono_oc (mono_bind (m_X0_newTarget N p21.2) (fun p27 => mono_none)) (fun a26 => (mono_bind (m_X0_newTarget N p21.2) (fun p31 => (mono_ite (mono_bind (m_X0_newTarget N (CS.setO p31.2 a26 10 p31.1)) (fun p36 => (mono_ite (mono_bind (m_X0_add N (CS.setO (CS.setO p36.2 a26 9 p36.1) a26 13 (p36.2.i 22)) 30 (CS.o (CS.setO (CS.setO p36.2 a26 9 p36.1) a26 13 (p36.2.i 22)) a26 10)) (fun p41 => (mono_some (Nat.le_refl _)))) mono_none))) mono_none)))))))
  have hFc := cFree hC hA
  refine va_callv (va_runU (As := [.int 123]) (rest := []) ⟨hx, hb, hml, hown, hts⟩ (c_X1_open l dC dI Q N p13.2 123 p17 hcp17) (va_cwU 1 hts hX7_beginSwitch_X1_open_u173 rfl rfl rfl rfl (by decide +kernel) ⟨(show 4 + 1 ≤ (13 + 40 * d) by omega), (show 8 + (2 + 11) + 60 * 4 ≤ 60 * (13 + 40 * d) by omega)⟩) ⟨zPre.blind, va_recv hK hC.1 (ci := 6) (q0 := 3) rfl rfl, cPre_go hZ hK hC⟩ rfl rfl hl.1 rfl (lv_room (Nat.le_of_ble_eq_true rfl)) dX7_beginSwitch_26 (cAcc h16 mo18 hr9)) hC.2.2.1 (fun q _ h => hFc q h) hFc (fun u9 t9 H1 locs ht hvm hw hB hz1 hk1 hS => ?_)
  obtain ⟨⟨hP, hK1, hD1⟩, hsz1⟩ := hB
  rw [ht] at hP hsz1
  have hC : CP dC dI Q A s.heap p17.2 H1 locs := ⟨hP, hD1.weaken (fun _ _ _ h => hFc _ h), hS, hsz1⟩
  generalize H1 = H at hC ⊢
  have h20 : (CS.hs σ) ≤ CS.hs p17.2 := Nat.le_trans h16 mo18
  refine W.widen (k := CS.hs p17.2 - (CS.hs σ)) (n := 17 * (CS.hs p17.2 - (CS.hs σ))) (cAcc2 h16 mo18) (cAcc3 h16 mo18) ?_
  refine lv_aload_n hx hb dX7_beginSwitch_29 rfl (lv_at hl 0 rfl) ?_
  refine cG_35 hx hb hts i_X7_beginSwitch_X7 hown hK hC (hts (.fieldLink RX7 14 "StatementRules2$Statements" "opens" "LStatementRules2$Opens;") k_X7_beginSwitch_fieldLink_RX7_14_SR_Statements_opens_LSR_Opens) (fun _ q9 => q9) dX7_beginSwitch_30 ?_
  refine lv_sipush (v := 218) hx hb dX7_beginSwitch_33 (by decide) ?_
  refine lv_aload_n hx hb dX7_beginSwitch_36 rfl (lv_at hl 0 rfl) ?_
  refine cG_38 (v := (p17.2.i 38)) hx hb hts i_X7_beginSwitch_X7 hown hK hC (hts (.fieldLink RX7 68 "StatementRules2$Statements" "depth" "I") k_X7_beginSwitch_fieldLink_RX7_68_SR_Statements_depth_I) (fun _ q9 => q9) dX7_beginSwitch_37 rfl ?_
  refine lv_aload_n hx hb dX7_beginSwitch_40 rfl (lv_at hl 0 rfl) ?_
  refine cG_31 hx hb hts i_X7_beginSwitch_X7 hown hK hC (hts (.fieldLink RX7 29 "StatementRules2$Statements" "names" "LStatementRules2$Names;") k_X7_beginSwitch_fieldLink_RX7_29_SR_Statements_names_LSR_Names) (fun x9 q9 => u_same (hts (.sameField "StatementRules2$Statements" "StatementRules2$Formulas" "names" "LStatementRules2$Names;") k_X7_beginSwitch_sameField_SR_Statements_SR_Formulas_names_LSR_Names) x9 q9) dX7_beginSwitch_41 ?_
  refine cGN_50 (v := (p17.2.i 50)) hx hb hts i_X7_beginSwitch_X4 hown hK hC (va_Nw.use rfl (hZ.1 (.fieldLinkNest RX7 33 "StatementRules2$Names" "count" "I" "StatementRules2") (by decide +kernel))) (fun _ q9 => q9) dX7_beginSwitch_44 rfl ?_
  obtain ⟨p21, hcp21, hf⟩ := hf_bind hf
  have mo22 : CS.hs p17.2 ≤ CS.hs p21.2 := Mono.go hcp21 (m_X6_push N p17.2 218 (p17.2.i 38) (p17.2.i 50))
  have hr9 : CS.hs p21.2 ≤ CS.hs R.2 := Mono.go hf (mono_oc (mono_bind (m_X0_newTarget N p21.2) (fun p27 => mono_none)) (fun a26 => (mono_bind (m_X0_newTarget N p21.2) (fun p31 => (mono_ite (mono_bind (m_X0_newTarget N (CS.setO p31.2 a26 10 p31.1)) (fun p36 => (mono_ite (mono_bind (m_X0_add N (CS.setO (CS.setO p36.2 a26 9 p36.1) a26 13 (p36.2.i 22)) 30 (CS.o (CS.setO (CS.setO p36.2 a26 9 p36.1) a26 13 (p36.2.i 22)) a26 10)) (fun p41 => (mono_some (Nat.le_refl _)))) mono_none))) mono_none)))))
  have hFc := cFree hC hA
  refine va_callq (va_runV (As := [.int 218, .int (p17.2.i 38), .int (p17.2.i 50)]) (rest := []) ⟨hx, hb, hml, hown, hts⟩ (c_X6_push l dC dI Q N p17.2 218 (p17.2.i 38) (p17.2.i 50) p21 hcp21) (cwV 3 hts hX7_beginSwitch_X6_push_v81 rfl rfl rfl (by decide +kernel) ⟨(show 2 + 1 ≤ (13 + 40 * d) by omega), (show 8 + (6 + 11) + 60 * 2 ≤ 60 * (13 + 40 * d) by omega)⟩) ⟨zPre.blind, va_recv hK hC.1 (ci := 5) (q0 := 6) rfl rfl, cPre_go hZ hK hC⟩ rfl rfl hl.1 rfl (lv_room (Nat.le_of_ble_eq_true rfl)) dX7_beginSwitch_47 (cAcc h20 mo22 hr9)) hC.2.2.1 (fun q _ h => hFc q h) hFc (fun r23 u9 t9 H1 locs ht hvm hw hB hz1 hk1 hS => ?_)
  obtain ⟨⟨hP, hK1, hD1⟩, hsz1⟩ := hB
  rw [ht] at hP hsz1
  have hC : CP dC dI Q A s.heap p21.2 H1 locs := ⟨hP, hD1.weaken (fun _ _ _ h => hFc _ h), hS, hsz1⟩
  generalize H1 = H at hC ⊢
  have h24 : (CS.hs σ) ≤ CS.hs p21.2 := Nat.le_trans h20 mo22
  refine W.widen (k := CS.hs p21.2 - (CS.hs σ)) (n := 17 * (CS.hs p21.2 - (CS.hs σ))) (cAcc2 h20 mo22) (cAcc3 h20 mo22) ?_
  obtain rfl : r23 = p21.1 := hw
  rcases hf_oc hf with ⟨q25, hf⟩ | ⟨a26, q25, hf⟩
  ·
    refine W.eq (congrArg (fun v9 => F0 m 50 ls (va_rf v9 :: [])) q25) ?_
    refine W.eq (g2 := F0 m 50 ls (.null :: [])) rfl ?_
    refine lv_astore_nN (lv' := [(1, .null), (0, .ref (Q.o 3))]) hx hb dX7_beginSwitch_50 rfl hl (by decide) rfl (fun ls hl => ?_)
    refine lv_aload_nN hx hb dX7_beginSwitch_51 rfl (lv_at hl 0 rfl) ?_
    refine lv_aload_n hx hb dX7_beginSwitch_52 rfl (lv_at hl 1 rfl) ?_
    refine cG_29 hx hb hts i_X7_beginSwitch_X7 hown hK hC (hts (.fieldLink RX7 20 "StatementRules2$Statements" "code" "LStatementRules2$Code;") k_X7_beginSwitch_fieldLink_RX7_20_SR_Statements_code_LSR_Code) (fun x9 q9 => u_same (hts (.sameField "StatementRules2$Statements" "StatementRules2$Formulas" "code" "LStatementRules2$Code;") k_X7_beginSwitch_sameField_SR_Statements_SR_Formulas_code_LSR_Code) x9 q9) dX7_beginSwitch_53 ?_
    obtain ⟨p27, hcp27, hf⟩ := hf_bind hf
    have mo28 : CS.hs p21.2 ≤ CS.hs p27.2 := Mono.go hcp27 (m_X0_newTarget N p21.2)
    have hr9 : CS.hs p27.2 ≤ CS.hs R.2 := Mono.go hf mono_none
    have hFc := cFree hC hA
    refine va_calli (va_runV (As := []) (rest := [.null]) ⟨hx, hb, hml, hown, hts⟩ (c_X0_newTarget l dC dI Q N p21.2 p27 hcp27) (cwV 0 hts hX7_beginSwitch_X0_newTarget_v136 rfl rfl rfl (by decide +kernel) ⟨(show 2 + 1 ≤ (13 + 40 * d) by omega), (show 8 + (1 + 11) + 60 * 2 ≤ 60 * (13 + 40 * d) by omega)⟩) ⟨zPre.blind, va_recv hK hC.1 (ci := 0) (q0 := 2) rfl rfl, cPre_go hZ hK hC⟩ rfl rfl hl.1 rfl (lv_room (Nat.le_of_ble_eq_true rfl)) dX7_beginSwitch_56 (cAcc h24 mo28 hr9)) hC.2.2.1 (fun q _ h => hFc q h) hFc (fun r29 u9 t9 H1 locs ht hvm hw hB hz1 hk1 hS => ?_)
    obtain ⟨⟨hP, hK1, hD1⟩, hsz1⟩ := hB
    rw [ht] at hP hsz1
    have hC : CP dC dI Q A s.heap p27.2 H1 locs := ⟨hP, hD1.weaken (fun _ _ _ h => hFc _ h), hS, hsz1⟩
    generalize H1 = H at hC ⊢
    have h30 : (CS.hs σ) ≤ CS.hs p27.2 := Nat.le_trans h24 mo28
    refine W.widen (k := CS.hs p27.2 - (CS.hs σ)) (n := 17 * (CS.hs p27.2 - (CS.hs σ))) (cAcc2 h24 mo28) (cAcc3 h24 mo28) ?_
    obtain rfl : r29 = p27.1 := hw
    cases hf
  ·
    refine W.eq (congrArg (fun v9 => F0 m 50 ls (va_rf v9 :: [])) q25) ?_
    refine W.eq (g2 := F0 m 50 ls (.ref a26 :: [])) rfl ?_
    refine lv_astore_n (lv' := [(1, .ref a26), (0, .ref (Q.o 3))]) hx hb dX7_beginSwitch_50 rfl hl (by decide) rfl (fun ls hl => ?_)
    refine lv_aload_n hx hb dX7_beginSwitch_51 rfl (lv_at hl 0 rfl) ?_
    refine lv_aload_n hx hb dX7_beginSwitch_52 rfl (lv_at hl 1 rfl) ?_
    refine cG_29 hx hb hts i_X7_beginSwitch_X7 hown hK hC (hts (.fieldLink RX7 20 "StatementRules2$Statements" "code" "LStatementRules2$Code;") k_X7_beginSwitch_fieldLink_RX7_20_SR_Statements_code_LSR_Code) (fun x9 q9 => u_same (hts (.sameField "StatementRules2$Statements" "StatementRules2$Formulas" "code" "LStatementRules2$Code;") k_X7_beginSwitch_sameField_SR_Statements_SR_Formulas_code_LSR_Code) x9 q9) dX7_beginSwitch_53 ?_
    obtain ⟨p31, hcp31, hf⟩ := hf_bind hf
    have mo32 : CS.hs p21.2 ≤ CS.hs p31.2 := Mono.go hcp31 (m_X0_newTarget N p21.2)
    have hr9 : CS.hs p31.2 ≤ CS.hs R.2 := Mono.go hf (mono_ite (mono_bind (m_X0_newTarget N (CS.setO p31.2 a26 10 p31.1)) (fun p36 => (mono_ite (mono_bind (m_X0_add N (CS.setO (CS.setO p36.2 a26 9 p36.1) a26 13 (p36.2.i 22)) 30 (CS.o (CS.setO (CS.setO p36.2 a26 9 p36.1) a26 13 (p36.2.i 22)) a26 10)) (fun p41 => (mono_some (Nat.le_refl _)))) mono_none))) mono_none)
    have hFc := cFree hC hA
    refine va_calli (va_runV (As := []) (rest := [.ref a26]) ⟨hx, hb, hml, hown, hts⟩ (c_X0_newTarget l dC dI Q N p21.2 p31 hcp31) (cwV 0 hts hX7_beginSwitch_X0_newTarget_v136 rfl rfl rfl (by decide +kernel) ⟨(show 2 + 1 ≤ (13 + 40 * d) by omega), (show 8 + (1 + 11) + 60 * 2 ≤ 60 * (13 + 40 * d) by omega)⟩) ⟨zPre.blind, va_recv hK hC.1 (ci := 0) (q0 := 2) rfl rfl, cPre_go hZ hK hC⟩ rfl rfl hl.1 rfl (lv_room (Nat.le_of_ble_eq_true rfl)) dX7_beginSwitch_56 (cAcc h24 mo32 hr9)) hC.2.2.1 (fun q _ h => hFc q h) hFc (fun r33 u9 t9 H1 locs ht hvm hw hB hz1 hk1 hS => ?_)
    obtain ⟨⟨hP, hK1, hD1⟩, hsz1⟩ := hB
    rw [ht] at hP hsz1
    have hC : CP dC dI Q A s.heap p31.2 H1 locs := ⟨hP, hD1.weaken (fun _ _ _ h => hFc _ h), hS, hsz1⟩
    generalize H1 = H at hC ⊢
    have h34 : (CS.hs σ) ≤ CS.hs p31.2 := Nat.le_trans h24 mo32
    refine W.widen (k := CS.hs p31.2 - (CS.hs σ)) (n := 17 * (CS.hs p31.2 - (CS.hs σ))) (cAcc2 h24 mo32) (cAcc3 h24 mo32) ?_
    obtain rfl : r33 = p31.1 := hw
    obtain ⟨b35, hf⟩ := hf_ite hf
    refine pPN_X5_10 (v := p31.1) hx hb hts i_X7_beginSwitch_X5 hown hK hC (va_Nw.use rfl (hZ.1 (.fieldLinkNest RX7 284 "StatementRules2$Open" "next" "I" "StatementRules2") (by decide +kernel))) (fun _ q9 => q9) dX7_beginSwitch_59 b35 (fun H locs hC => ?_)
    refine lv_aload_n hx hb dX7_beginSwitch_62 rfl (lv_at hl 0 rfl) ?_
    refine lv_aload_n hx hb dX7_beginSwitch_63 rfl (lv_at hl 1 rfl) ?_
    refine cG_29 hx hb hts i_X7_beginSwitch_X7 hown hK hC (hts (.fieldLink RX7 20 "StatementRules2$Statements" "code" "LStatementRules2$Code;") k_X7_beginSwitch_fieldLink_RX7_20_SR_Statements_code_LSR_Code) (fun x9 q9 => u_same (hts (.sameField "StatementRules2$Statements" "StatementRules2$Formulas" "code" "LStatementRules2$Code;") k_X7_beginSwitch_sameField_SR_Statements_SR_Formulas_code_LSR_Code) x9 q9) dX7_beginSwitch_64 ?_
    obtain ⟨p36, hcp36, hf⟩ := hf_bind hf
    have mo37 : CS.hs p31.2 ≤ CS.hs p36.2 := Mono.go hcp36 (m_X0_newTarget N (CS.setO p31.2 a26 10 p31.1))
    have hr9 : CS.hs p36.2 ≤ CS.hs R.2 := Mono.go hf (mono_ite (mono_bind (m_X0_add N (CS.setO (CS.setO p36.2 a26 9 p36.1) a26 13 (p36.2.i 22)) 30 (CS.o (CS.setO (CS.setO p36.2 a26 9 p36.1) a26 13 (p36.2.i 22)) a26 10)) (fun p41 => (mono_some (Nat.le_refl _)))) mono_none)
    have hFc := cFree hC hA
    refine va_calli (va_runV (As := []) (rest := [.ref a26]) ⟨hx, hb, hml, hown, hts⟩ (c_X0_newTarget l dC dI Q N (CS.setO p31.2 a26 10 p31.1) p36 hcp36) (cwV 0 hts hX7_beginSwitch_X0_newTarget_v136 rfl rfl rfl (by decide +kernel) ⟨(show 2 + 1 ≤ (13 + 40 * d) by omega), (show 8 + (1 + 11) + 60 * 2 ≤ 60 * (13 + 40 * d) by omega)⟩) ⟨zPre.blind, va_recv hK hC.1 (ci := 0) (q0 := 2) rfl rfl, cPre_go hZ hK hC⟩ rfl rfl hl.1 rfl (lv_room (Nat.le_of_ble_eq_true rfl)) dX7_beginSwitch_67 (cAcc h34 mo37 hr9)) hC.2.2.1 (fun q _ h => hFc q h) hFc (fun r38 u9 t9 H1 locs ht hvm hw hB hz1 hk1 hS => ?_)
    obtain ⟨⟨hP, hK1, hD1⟩, hsz1⟩ := hB
    rw [ht] at hP hsz1
    have hC : CP dC dI Q A s.heap p36.2 H1 locs := ⟨hP, hD1.weaken (fun _ _ _ h => hFc _ h), hS, hsz1⟩
    generalize H1 = H at hC ⊢
    have h39 : (CS.hs σ) ≤ CS.hs p36.2 := Nat.le_trans h34 mo37
    refine W.widen (k := CS.hs p36.2 - (CS.hs σ)) (n := 17 * (CS.hs p36.2 - (CS.hs σ))) (cAcc2 h34 mo37) (cAcc3 h34 mo37) ?_
    obtain rfl : r38 = p36.1 := hw
    obtain ⟨b40, hf⟩ := hf_ite hf
    refine pPN_X5_9 (v := p36.1) hx hb hts i_X7_beginSwitch_X5 hown hK hC (va_Nw.use rfl (hZ.1 (.fieldLinkNest RX7 196 "StatementRules2$Open" "exit" "I" "StatementRules2") (by decide +kernel))) (fun _ q9 => q9) dX7_beginSwitch_70 b40 (fun H locs hC => ?_)
    refine lv_aload_n hx hb dX7_beginSwitch_73 rfl (lv_at hl 0 rfl) ?_
    refine lv_aload_n hx hb dX7_beginSwitch_74 rfl (lv_at hl 1 rfl) ?_
    refine cG_29 hx hb hts i_X7_beginSwitch_X7 hown hK hC (hts (.fieldLink RX7 20 "StatementRules2$Statements" "code" "LStatementRules2$Code;") k_X7_beginSwitch_fieldLink_RX7_20_SR_Statements_code_LSR_Code) (fun x9 q9 => u_same (hts (.sameField "StatementRules2$Statements" "StatementRules2$Formulas" "code" "LStatementRules2$Code;") k_X7_beginSwitch_sameField_SR_Statements_SR_Formulas_code_LSR_Code) x9 q9) dX7_beginSwitch_75 ?_
    refine cGN_22 (v := (p36.2.i 22)) hx hb hts i_X7_beginSwitch_X0 hown hK hC (va_Nw.use rfl (hZ.1 (.fieldLinkNest RX7 347 "StatementRules2$Code" "caseCount" "I" "StatementRules2") (by decide +kernel))) (fun _ q9 => q9) dX7_beginSwitch_78 rfl ?_
    refine pPN_X5_13 (v := (p36.2.i 22)) hx hb hts i_X7_beginSwitch_X5 hown hK hC (va_Nw.use rfl (hZ.1 (.fieldLinkNest RX7 149 "StatementRules2$Open" "firstCase" "I" "StatementRules2") (by decide +kernel))) (fun _ q9 => q9) dX7_beginSwitch_81 b40 (fun H locs hC => ?_)
    refine lv_aload_n hx hb dX7_beginSwitch_84 rfl (lv_at hl 1 rfl) ?_
    refine cG_29 hx hb hts i_X7_beginSwitch_X7 hown hK hC (hts (.fieldLink RX7 20 "StatementRules2$Statements" "code" "LStatementRules2$Code;") k_X7_beginSwitch_fieldLink_RX7_20_SR_Statements_code_LSR_Code) (fun x9 q9 => u_same (hts (.sameField "StatementRules2$Statements" "StatementRules2$Formulas" "code" "LStatementRules2$Code;") k_X7_beginSwitch_sameField_SR_Statements_SR_Formulas_code_LSR_Code) x9 q9) dX7_beginSwitch_85 ?_
    refine lv_bipush (v := 30) hx hb dX7_beginSwitch_88 (by decide) ?_
    refine lv_aload_n hx hb dX7_beginSwitch_90 rfl (lv_at hl 0 rfl) ?_
    refine pGN_X5_10 (v := (CS.o (CS.setO (CS.setO p36.2 a26 9 p36.1) a26 13 (p36.2.i 22)) a26 10)) hx hb hts i_X7_beginSwitch_X5 hown hK hC (va_Nw.use rfl (hZ.1 (.fieldLinkNest RX7 284 "StatementRules2$Open" "next" "I" "StatementRules2") (by decide +kernel))) (fun _ q9 => q9) dX7_beginSwitch_91 b40 rfl ?_
    obtain ⟨p41, hcp41, hf⟩ := hf_bind hf
    have mo42 : CS.hs p36.2 ≤ CS.hs p41.2 := Mono.go hcp41 (m_X0_add N (CS.setO (CS.setO p36.2 a26 9 p36.1) a26 13 (p36.2.i 22)) 30 (CS.o (CS.setO (CS.setO p36.2 a26 9 p36.1) a26 13 (p36.2.i 22)) a26 10))
    have hr9 : CS.hs p41.2 ≤ CS.hs R.2 := Mono.go hf (mono_some (Nat.le_refl _))
    have hFc := cFree hC hA
    refine va_callv (va_runV (As := [.int 30, .int (CS.o (CS.setO (CS.setO p36.2 a26 9 p36.1) a26 13 (p36.2.i 22)) a26 10)]) (rest := []) ⟨hx, hb, hml, hown, hts⟩ (c_X0_add l dC dI Q N (CS.setO (CS.setO p36.2 a26 9 p36.1) a26 13 (p36.2.i 22)) 30 (CS.o (CS.setO (CS.setO p36.2 a26 9 p36.1) a26 13 (p36.2.i 22)) a26 10) p41 hcp41) (cwV 2 hts hX7_beginSwitch_X0_add_v176 rfl rfl rfl (by decide +kernel) ⟨(show 2 + 1 ≤ (13 + 40 * d) by omega), (show 8 + (3 + 11) + 60 * 2 ≤ 60 * (13 + 40 * d) by omega)⟩) ⟨zPre.blind, va_recv hK hC.1 (ci := 0) (q0 := 2) rfl rfl, cPre_go hZ hK hC⟩ rfl rfl hl.1 rfl (lv_room (Nat.le_of_ble_eq_true rfl)) dX7_beginSwitch_94 (cAcc h39 mo42 hr9)) hC.2.2.1 (fun q _ h => hFc q h) hFc (fun u9 t9 H1 locs ht hvm hw hB hz1 hk1 hS => ?_)
    obtain ⟨⟨hP, hK1, hD1⟩, hsz1⟩ := hB
    rw [ht] at hP hsz1
    have hC : CP dC dI Q A s.heap p41.2 H1 locs := ⟨hP, hD1.weaken (fun _ _ _ h => hFc _ h), hS, hsz1⟩
    generalize H1 = H at hC ⊢
    have h44 : (CS.hs σ) ≤ CS.hs p41.2 := Nat.le_trans h39 mo42
    refine W.widen (k := CS.hs p41.2 - (CS.hs σ)) (n := 17 * (CS.hs p41.2 - (CS.hs σ))) (cAcc2 h39 mo42) (cAcc3 h39 mo42) ?_
    obtain rfl := Option.some.inj hf
    exact W.vret hx hb hr (fun t ht hW => ⟨⟨(), rfl, trivial, ⟨by rw [ht]; exact hC.1, va_K.moved hW.alike hK, hC.2.1⟩, by rw [ht]; exact hC.2.2.2⟩, hC.2.2.1.F ht⟩) hC.2.2.1.2.2 dX7_beginSwitch_97
theorem k_X7_openResource_fieldLink_RX7_20_SR_Statements_code_LSR_Code : Cond.fieldLink RX7 20 "StatementRules2$Statements" "code" "LStatementRules2$Code;" ∈ wzX7_openResource := List.mem_cons_of_mem _ (List.mem_append_left _ (List.mem_of_getElem? (i := 0) rfl))
theorem k_X7_openResource_sameField_SR_Statements_SR_Formulas_code_LSR_Code : Cond.sameField "StatementRules2$Statements" "StatementRules2$Formulas" "code" "LStatementRules2$Code;" ∈ wzX7_openResource := List.mem_cons_of_mem _ (List.mem_append_left _ (List.mem_of_getElem? (i := 1) rfl))
theorem i_X7_openResource_X7 : ∀ w ∈ wsX70, w ∈ wzX7_openResource := fun _ h => List.mem_cons_of_mem _ (List.mem_append_right _ (List.mem_append_left _ (h)))
theorem k_X7_openResource_fieldLink_RX7_71_SR_Statements_tokens_LSR_Tokens : Cond.fieldLink RX7 71 "StatementRules2$Statements" "tokens" "LStatementRules2$Tokens;" ∈ wzX7_openResource := List.mem_cons_of_mem _ (List.mem_append_left _ (List.mem_of_getElem? (i := 2) rfl))
theorem k_X7_openResource_sameField_SR_Statements_SR_Formulas_tokens_LSR_Tokens : Cond.sameField "StatementRules2$Statements" "StatementRules2$Formulas" "tokens" "LStatementRules2$Tokens;" ∈ wzX7_openResource := List.mem_cons_of_mem _ (List.mem_append_left _ (List.mem_of_getElem? (i := 3) rfl))
theorem i_X7_openResource_X9 : ∀ w ∈ wsX90, w ∈ wzX7_openResource := fun _ h => List.mem_cons_of_mem _ (List.mem_append_right _ (List.mem_append_right _ (List.mem_append_left _ (h))))
set_option maxHeartbeats 4000000 in
set_option maxRecDepth 100000 in
theorem c_X7_openResource (l : Launch) (dC : Nat → ClassId) (dI : Nat → Nat → Nat) (Q : CQ) (N : Nat) (σ : CS) (R : Unit × CS) (hf : f_X7_openResource N σ = some R) : Met l yX7_openResource wzX7_openResource ({ frames := 4, cells := CS.hs R.2 - CS.hs σ, slots := 17 * (CS.hs R.2 - CS.hs σ), locals := 60 * 4 }) (va_Pc [.ref (Q.o 3)] (zPre dC dI (CS.hs σ) (cW Q σ) (cT Q))) (va_Qv (fun (_ : Unit) => True) (fun (_ : Unit) (t : State) => zPost dC dI (va_A (cW Q σ) (CS.hs σ)) (cW Q R.2) (cT Q) t ∧ t.heap.size = CS.hs R.2) (va_A (cW Q σ) (CS.hs σ))) (CS.hs R.2 - CS.hs σ) (17 * (CS.hs R.2 - CS.hs σ)) (va_A (cW Q σ) (CS.hs σ)) := by
  refine Met.ofW (cc := cX7_openResource) (maxL := 1) (ret := none) (by decide) rfl ?_
  intro p e s m args below meth c s₁ B hml hv
  obtain ⟨rfl, hsz, hZ, hP, hK, hD0⟩ := hv
  have hx := B.exec
  have hb := B.bytes
  have hr := B.returns
  have hts := atoms_spec (ws := wzX7_openResource) B.pre
  have hown : s.vm.findClass RX7 = some m.cls := findClass_of_methodNamed B.named
  have hlocks := B.notSynchronized
  have hD := hD0.self (sz := CS.hs σ)
  generalize hAe : va_A (cW Q σ) (CS.hs σ) = A at hD ⊢
  have hA : ∀ q : Nat, s.heap.size ≤ q → A q := fun q h => by rw [← hAe]; exact Or.inr (hsz ▸ h)
  have hC : CP dC dI Q A s.heap σ s.heap [] := ⟨hP, hD, va_S.rf, hsz⟩
  have h0 : CS.hs σ ≤ CS.hs σ := Nat.le_refl _
  have hl := lv_entry ([.ref (Q.o 3)]) (n := 1) (Nat.le_of_ble_eq_true rfl)
  rw [lg_entry_eq]
  generalize (lg_sl ([.ref (Q.o 3)]) ++ List.replicate (1 - (lg_sl ([.ref (Q.o 3)])).length) Slot.unset).toArray = ls at hl ⊢
  have hl : lv_has ls 1 [(0, .ref (Q.o 3))] := hl
  unfold f_X7_openResource at hf
  refine W.widen (k := CS.hs σ - CS.hs σ) (n := 17 * (CS.hs σ - CS.hs σ)) (Nat.zero_le _) (Nat.zero_le _) ?_
  refine lv_aload_n hx hb dX7_openResource_0 rfl (lv_at hl 0 rfl) ?_
  refine lv_iconst (v := 4) hx hb dX7_openResource_1 (by decide) ?_
  obtain ⟨p1, hcp1, hf⟩ := hf_bind hf
  have mo2 : CS.hs σ ≤ CS.hs p1.2 := Mono.go hcp1 (m_X1_found N σ 4)
  have hr9 : CS.hs p1.2 ≤ CS.hs R.2 := Mono.go hf (mono_ite (mono_bind (m_X1_misplaced N p1.2) (fun p14 => (mono_some (Nat.le_refl _)))) (mono_bind (m_X0_add N p1.2 55 (p1.2.i 45)) (fun p6 => (mono_bind (m_X9_advance N p6.2) (fun p10 => (mono_some (Nat.le_refl _)))))))
  have hFc := cFree hC hA
  refine va_calli (va_runU (As := [.int 4]) (rest := []) ⟨hx, hb, hml, hown, hts⟩ (c_X1_found l dC dI Q N σ 4 p1 hcp1) (va_cwU 1 hts hX7_openResource_X1_found_u110 rfl rfl rfl rfl (by decide +kernel) ⟨(show 1 + 1 ≤ 4 by omega), (show 8 + (2 + 11) + 60 * 1 ≤ 60 * 4 by omega)⟩) ⟨zPre.blind, va_recv hK hC.1 (ci := 6) (q0 := 3) rfl rfl, cPre_go hZ hK hC⟩ rfl rfl hl.1 rfl (lv_room (Nat.le_of_ble_eq_true rfl)) dX7_openResource_2 (cAcc h0 mo2 hr9)) hC.2.2.1 (fun q _ h => hFc q h) hFc (fun r3 u9 t9 H1 locs ht hvm hw hB hz1 hk1 hS => ?_)
  obtain ⟨⟨hP, hK1, hD1⟩, hsz1⟩ := hB
  rw [ht] at hP hsz1
  have hC : CP dC dI Q A s.heap p1.2 H1 locs := ⟨hP, hD1.weaken (fun _ _ _ h => hFc _ h), hS, hsz1⟩
  generalize H1 = H at hC ⊢
  have h4 : (CS.hs σ) ≤ CS.hs p1.2 := Nat.le_trans h0 mo2
  refine W.widen (k := CS.hs p1.2 - (CS.hs σ)) (n := 17 * (CS.hs p1.2 - (CS.hs σ))) (cAcc2 h0 mo2) (cAcc3 h0 mo2) ?_
  obtain rfl : r3 = p1.1 := hw
  refine lv_if_ne (tgt := 13) hx hb dX7_openResource_5 (by decide) (fun c5 => ?_) (fun c5 => ?_)
  ·
    replace hf := (if_neg c5).symm.trans hf
    refine lv_aload_n hx hb dX7_openResource_13 rfl (lv_at hl 0 rfl) ?_
    refine cG_29 hx hb hts i_X7_openResource_X7 hown hK hC (hts (.fieldLink RX7 20 "StatementRules2$Statements" "code" "LStatementRules2$Code;") k_X7_openResource_fieldLink_RX7_20_SR_Statements_code_LSR_Code) (fun x9 q9 => u_same (hts (.sameField "StatementRules2$Statements" "StatementRules2$Formulas" "code" "LStatementRules2$Code;") k_X7_openResource_sameField_SR_Statements_SR_Formulas_code_LSR_Code) x9 q9) dX7_openResource_14 ?_
    refine lv_bipush (v := 55) hx hb dX7_openResource_17 (by decide) ?_
    refine lv_aload_n hx hb dX7_openResource_19 rfl (lv_at hl 0 rfl) ?_
    refine cG_28 hx hb hts i_X7_openResource_X7 hown hK hC (hts (.fieldLink RX7 71 "StatementRules2$Statements" "tokens" "LStatementRules2$Tokens;") k_X7_openResource_fieldLink_RX7_71_SR_Statements_tokens_LSR_Tokens) (fun x9 q9 => u_same (hts (.sameField "StatementRules2$Statements" "StatementRules2$Formulas" "tokens" "LStatementRules2$Tokens;") k_X7_openResource_sameField_SR_Statements_SR_Formulas_tokens_LSR_Tokens) x9 q9) dX7_openResource_20 ?_
    refine cGN_45 (v := (p1.2.i 45)) hx hb hts i_X7_openResource_X9 hown hK hC (va_Nw.use rfl (hZ.1 (.fieldLinkNest RX7 297 "StatementRules2$Tokens" "value" "I" "StatementRules2") (by decide +kernel))) (fun _ q9 => q9) dX7_openResource_23 rfl ?_
    obtain ⟨p6, hcp6, hf⟩ := hf_bind hf
    have mo7 : CS.hs p1.2 ≤ CS.hs p6.2 := Mono.go hcp6 (m_X0_add N p1.2 55 (p1.2.i 45))
    have hr9 : CS.hs p6.2 ≤ CS.hs R.2 := Mono.go hf (mono_bind (m_X9_advance N p6.2) (fun p10 => (mono_some (Nat.le_refl _))))
    have hFc := cFree hC hA
    refine va_callv (va_runV (As := [.int 55, .int (p1.2.i 45)]) (rest := []) ⟨hx, hb, hml, hown, hts⟩ (c_X0_add l dC dI Q N p1.2 55 (p1.2.i 45) p6 hcp6) (cwV 2 hts hX7_openResource_X0_add_v176 rfl rfl rfl (by decide +kernel) ⟨(show 2 + 1 ≤ 4 by omega), (show 8 + (3 + 11) + 60 * 2 ≤ 60 * 4 by omega)⟩) ⟨zPre.blind, va_recv hK hC.1 (ci := 0) (q0 := 2) rfl rfl, cPre_go hZ hK hC⟩ rfl rfl hl.1 rfl (lv_room (Nat.le_of_ble_eq_true rfl)) dX7_openResource_26 (cAcc h4 mo7 hr9)) hC.2.2.1 (fun q _ h => hFc q h) hFc (fun u9 t9 H1 locs ht hvm hw hB hz1 hk1 hS => ?_)
    obtain ⟨⟨hP, hK1, hD1⟩, hsz1⟩ := hB
    rw [ht] at hP hsz1
    have hC : CP dC dI Q A s.heap p6.2 H1 locs := ⟨hP, hD1.weaken (fun _ _ _ h => hFc _ h), hS, hsz1⟩
    generalize H1 = H at hC ⊢
    have h9 : (CS.hs σ) ≤ CS.hs p6.2 := Nat.le_trans h4 mo7
    refine W.widen (k := CS.hs p6.2 - (CS.hs σ)) (n := 17 * (CS.hs p6.2 - (CS.hs σ))) (cAcc2 h4 mo7) (cAcc3 h4 mo7) ?_
    refine lv_aload_n hx hb dX7_openResource_29 rfl (lv_at hl 0 rfl) ?_
    refine cG_28 hx hb hts i_X7_openResource_X7 hown hK hC (hts (.fieldLink RX7 71 "StatementRules2$Statements" "tokens" "LStatementRules2$Tokens;") k_X7_openResource_fieldLink_RX7_71_SR_Statements_tokens_LSR_Tokens) (fun x9 q9 => u_same (hts (.sameField "StatementRules2$Statements" "StatementRules2$Formulas" "tokens" "LStatementRules2$Tokens;") k_X7_openResource_sameField_SR_Statements_SR_Formulas_tokens_LSR_Tokens) x9 q9) dX7_openResource_30 ?_
    obtain ⟨p10, hcp10, hf⟩ := hf_bind hf
    have mo11 : CS.hs p6.2 ≤ CS.hs p10.2 := Mono.go hcp10 (m_X9_advance N p6.2)
    have hr9 : CS.hs p10.2 ≤ CS.hs R.2 := Mono.go hf (mono_some (Nat.le_refl _))
    have hFc := cFree hC hA
    refine va_callv (va_runV (As := []) (rest := []) ⟨hx, hb, hml, hown, hts⟩ (c_X9_advance l dC dI Q N p6.2 p10 hcp10) (cwV 0 hts hX7_openResource_X9_advance_v146 rfl rfl rfl (by decide +kernel) ⟨(show 3 + 1 ≤ 4 by omega), (show 8 + (2 + 11) + 60 * 3 ≤ 60 * 4 by omega)⟩) ⟨zPre.blind, va_recv hK hC.1 (ci := 8) (q0 := 4) rfl rfl, cPre_go hZ hK hC⟩ rfl rfl hl.1 rfl (lv_room (Nat.le_of_ble_eq_true rfl)) dX7_openResource_33 (cAcc h9 mo11 hr9)) hC.2.2.1 (fun q _ h => hFc q h) hFc (fun u9 t9 H1 locs ht hvm hw hB hz1 hk1 hS => ?_)
    obtain ⟨⟨hP, hK1, hD1⟩, hsz1⟩ := hB
    rw [ht] at hP hsz1
    have hC : CP dC dI Q A s.heap p10.2 H1 locs := ⟨hP, hD1.weaken (fun _ _ _ h => hFc _ h), hS, hsz1⟩
    generalize H1 = H at hC ⊢
    have h13 : (CS.hs σ) ≤ CS.hs p10.2 := Nat.le_trans h9 mo11
    refine W.widen (k := CS.hs p10.2 - (CS.hs σ)) (n := 17 * (CS.hs p10.2 - (CS.hs σ))) (cAcc2 h9 mo11) (cAcc3 h9 mo11) ?_
    obtain rfl := Option.some.inj hf
    exact W.vret hx hb hr (fun t ht hW => ⟨⟨(), rfl, trivial, ⟨by rw [ht]; exact hC.1, va_K.moved hW.alike hK, hC.2.1⟩, by rw [ht]; exact hC.2.2.2⟩, hC.2.2.1.F ht⟩) hC.2.2.1.2.2 dX7_openResource_36
  ·
    replace hf := (if_pos c5).symm.trans hf
    refine lv_aload_n hx hb dX7_openResource_8 rfl (lv_at hl 0 rfl) ?_
    obtain ⟨p14, hcp14, hf⟩ := hf_bind hf
    have mo15 : CS.hs p1.2 ≤ CS.hs p14.2 := Mono.go hcp14 (m_X1_misplaced N p1.2)
    have hr9 : CS.hs p14.2 ≤ CS.hs R.2 := Mono.go hf (mono_some (Nat.le_refl _))
    have hFc := cFree hC hA
    refine va_callv (va_runU (As := []) (rest := []) ⟨hx, hb, hml, hown, hts⟩ (c_X1_misplaced l dC dI Q N p1.2 p14 hcp14) (va_cwU 0 hts hX7_openResource_X1_misplaced_u161 rfl rfl rfl rfl (by decide +kernel) ⟨(show 3 + 1 ≤ 4 by omega), (show 8 + (1 + 11) + 60 * 3 ≤ 60 * 4 by omega)⟩) ⟨zPre.blind, va_recv hK hC.1 (ci := 6) (q0 := 3) rfl rfl, cPre_go hZ hK hC⟩ rfl rfl hl.1 rfl (lv_room (Nat.le_of_ble_eq_true rfl)) dX7_openResource_9 (cAcc h4 mo15 hr9)) hC.2.2.1 (fun q _ h => hFc q h) hFc (fun u9 t9 H1 locs ht hvm hw hB hz1 hk1 hS => ?_)
    obtain ⟨⟨hP, hK1, hD1⟩, hsz1⟩ := hB
    rw [ht] at hP hsz1
    have hC : CP dC dI Q A s.heap p14.2 H1 locs := ⟨hP, hD1.weaken (fun _ _ _ h => hFc _ h), hS, hsz1⟩
    generalize H1 = H at hC ⊢
    have h17 : (CS.hs σ) ≤ CS.hs p14.2 := Nat.le_trans h4 mo15
    refine W.widen (k := CS.hs p14.2 - (CS.hs σ)) (n := 17 * (CS.hs p14.2 - (CS.hs σ))) (cAcc2 h4 mo15) (cAcc3 h4 mo15) ?_
    obtain rfl := Option.some.inj hf
    exact W.vret hx hb hr (fun t ht hW => ⟨⟨(), rfl, trivial, ⟨by rw [ht]; exact hC.1, va_K.moved hW.alike hK, hC.2.1⟩, by rw [ht]; exact hC.2.2.2⟩, hC.2.2.1.F ht⟩) hC.2.2.1.2.2 dX7_openResource_12
theorem k_X7_beginTry_fieldLink_RX7_14_SR_Statements_opens_LSR_Opens : Cond.fieldLink RX7 14 "StatementRules2$Statements" "opens" "LStatementRules2$Opens;" ∈ wzX7_beginTry := List.mem_cons_of_mem _ (List.mem_append_left _ (List.mem_of_getElem? (i := 0) rfl))
theorem i_X7_beginTry_X7 : ∀ w ∈ wsX70, w ∈ wzX7_beginTry := fun _ h => List.mem_cons_of_mem _ (List.mem_append_right _ (List.mem_append_left _ (h)))
theorem k_X7_beginTry_fieldLink_RX7_68_SR_Statements_depth_I : Cond.fieldLink RX7 68 "StatementRules2$Statements" "depth" "I" ∈ wzX7_beginTry := List.mem_cons_of_mem _ (List.mem_append_left _ (List.mem_of_getElem? (i := 1) rfl))
theorem k_X7_beginTry_fieldLink_RX7_29_SR_Statements_names_LSR_Names : Cond.fieldLink RX7 29 "StatementRules2$Statements" "names" "LStatementRules2$Names;" ∈ wzX7_beginTry := List.mem_cons_of_mem _ (List.mem_append_left _ (List.mem_of_getElem? (i := 2) rfl))
theorem k_X7_beginTry_sameField_SR_Statements_SR_Formulas_names_LSR_Names : Cond.sameField "StatementRules2$Statements" "StatementRules2$Formulas" "names" "LStatementRules2$Names;" ∈ wzX7_beginTry := List.mem_cons_of_mem _ (List.mem_append_left _ (List.mem_of_getElem? (i := 3) rfl))
theorem i_X7_beginTry_X4 : ∀ w ∈ wsX40, w ∈ wzX7_beginTry := fun _ h => List.mem_cons_of_mem _ (List.mem_append_right _ (List.mem_append_right _ (List.mem_append_left _ (h))))
theorem k_X7_beginTry_fieldLink_RX7_20_SR_Statements_code_LSR_Code : Cond.fieldLink RX7 20 "StatementRules2$Statements" "code" "LStatementRules2$Code;" ∈ wzX7_beginTry := List.mem_cons_of_mem _ (List.mem_append_left _ (List.mem_of_getElem? (i := 4) rfl))
theorem k_X7_beginTry_sameField_SR_Statements_SR_Formulas_code_LSR_Code : Cond.sameField "StatementRules2$Statements" "StatementRules2$Formulas" "code" "LStatementRules2$Code;" ∈ wzX7_beginTry := List.mem_cons_of_mem _ (List.mem_append_left _ (List.mem_of_getElem? (i := 5) rfl))
theorem i_X7_beginTry_X5 : ∀ w ∈ wsX50, w ∈ wzX7_beginTry := fun _ h => List.mem_cons_of_mem _ (List.mem_append_right _ (List.mem_append_right _ (List.mem_append_right _ (List.mem_append_left _ (h)))))
theorem k_X7_beginTry_fieldLink_RX7_71_SR_Statements_tokens_LSR_Tokens : Cond.fieldLink RX7 71 "StatementRules2$Statements" "tokens" "LStatementRules2$Tokens;" ∈ wzX7_beginTry := List.mem_cons_of_mem _ (List.mem_append_left _ (List.mem_of_getElem? (i := 6) rfl))
theorem k_X7_beginTry_sameField_SR_Statements_SR_Formulas_tokens_LSR_Tokens : Cond.sameField "StatementRules2$Statements" "StatementRules2$Formulas" "tokens" "LStatementRules2$Tokens;" ∈ wzX7_beginTry := List.mem_cons_of_mem _ (List.mem_append_left _ (List.mem_of_getElem? (i := 7) rfl))
set_option maxHeartbeats 4000000 in
set_option maxRecDepth 100000 in
theorem j_X7_beginTry_132 {p : Program} {e : Env} {s : State} {m : MethodId} {args : Array Value} {below : List Frame} {meth : Method} {c : Code} {A : Nat → Prop} (l : Launch) (dC : Nat → ClassId) (dI : Nat → Nat → Nat) (Q : CQ) (N : Nat) (z9h : Nat) (R : Unit × CS) (hx : p.tables.exec = Jvm.exec) (hb : c.code = cX7_beginTry) (hr : meth.sig.returnType = none) (hml : c.maxLocals = 3) (hown : s.vm.findClass RX7 = some m.cls) (hts : ∀ w ∈ wzX7_beginTry, w.before args s = true) (hlocks : meth.locks = false) (hZ : zAMB s) (hA : ∀ q : Nat, s.heap.size ≤ q → A q) (hK : va_K (dC, dI) vwCl (cT Q) s) : ∀ (σ : CS) (H : Heap) (locs : List Loc) (ls : Array Slot), f_X7_beginTry_132 N σ = some R → z9h ≤ CS.hs σ → CP dC dI Q A s.heap σ H locs → lv_has ls 3 [(0, .ref (Q.o 3))] → W p l e ({ frames := 5, cells := CS.hs R.2 - z9h, slots := 17 * (CS.hs R.2 - z9h), locals := 60 * 5 }) s m args below meth c H locs (CS.hs σ - z9h) (17 * (CS.hs σ - z9h)) (MQ below (va_Qv (fun (_ : Unit) => True) (fun (_ : Unit) (t : State) => zPost dC dI A (cW Q R.2) (cT Q) t ∧ t.heap.size = CS.hs R.2) A) args s (CS.hs R.2 - z9h) (17 * (CS.hs R.2 - z9h)) A) (F0 m 132 ls []) := by
  intro σ  H locs ls hf h0 hC hl
  unfold f_X7_beginTry_132 at hf
  refine lv_aload_n hx hb dX7_beginTry_132 rfl (lv_at hl 0 rfl) ?_
  refine lv_bipush (v := 123) hx hb dX7_beginTry_133 (by decide) ?_
  obtain ⟨p40, hcp40, hf⟩ := hf_bind hf
  have mo41 : CS.hs σ ≤ CS.hs p40.2 := Mono.go hcp40 (m_X1_open N σ 123)
  have hr9 : CS.hs p40.2 ≤ CS.hs R.2 := Mono.go hf (mono_some (Nat.le_refl _))
  have hFc := cFree hC hA
  refine va_callv (va_runU (As := [.int 123]) (rest := []) ⟨hx, hb, hml, hown, hts⟩ (c_X1_open l dC dI Q N σ 123 p40 hcp40) (va_cwU 1 hts hX7_beginTry_X1_open_u173 rfl rfl rfl rfl (by decide +kernel) ⟨(show 4 + 1 ≤ 5 by omega), (show 8 + (2 + 11) + 60 * 4 ≤ 60 * 5 by omega)⟩) ⟨zPre.blind, va_recv hK hC.1 (ci := 6) (q0 := 3) rfl rfl, cPre_go hZ hK hC⟩ rfl rfl hl.1 rfl (lv_room (Nat.le_of_ble_eq_true rfl)) dX7_beginTry_135 (cAcc h0 mo41 hr9)) hC.2.2.1 (fun q _ h => hFc q h) hFc (fun u9 t9 H1 locs ht hvm hw hB hz1 hk1 hS => ?_)
  obtain ⟨⟨hP, hK1, hD1⟩, hsz1⟩ := hB
  rw [ht] at hP hsz1
  have hC : CP dC dI Q A s.heap p40.2 H1 locs := ⟨hP, hD1.weaken (fun _ _ _ h => hFc _ h), hS, hsz1⟩
  generalize H1 = H at hC ⊢
  have h43 : z9h ≤ CS.hs p40.2 := Nat.le_trans h0 mo41
  refine W.widen (k := CS.hs p40.2 - z9h) (n := 17 * (CS.hs p40.2 - z9h)) (cAcc2 h0 mo41) (cAcc3 h0 mo41) ?_
  obtain rfl := Option.some.inj hf
  exact W.vret hx hb hr (fun t ht hW => ⟨⟨(), rfl, trivial, ⟨by rw [ht]; exact hC.1, va_K.moved hW.alike hK, hC.2.1⟩, by rw [ht]; exact hC.2.2.2⟩, hC.2.2.1.F ht⟩) hC.2.2.1.2.2 dX7_beginTry_138
set_option maxHeartbeats 4000000 in
set_option maxRecDepth 100000 in
theorem j_X7_beginTry_106 {p : Program} {e : Env} {s : State} {m : MethodId} {args : Array Value} {below : List Frame} {meth : Method} {c : Code} {A : Nat → Prop} (l : Launch) (dC : Nat → ClassId) (dI : Nat → Nat → Nat) (Q : CQ) (N : Nat) (z9h : Nat) (R : Unit × CS) (hx : p.tables.exec = Jvm.exec) (hb : c.code = cX7_beginTry) (hr : meth.sig.returnType = none) (hml : c.maxLocals = 3) (hown : s.vm.findClass RX7 = some m.cls) (hts : ∀ w ∈ wzX7_beginTry, w.before args s = true) (hlocks : meth.locks = false) (hZ : zAMB s) (hA : ∀ q : Nat, s.heap.size ≤ q → A q) (hK : va_K (dC, dI) vwCl (cT Q) s) : ∀ (n9 : Nat), ∀ (σ : CS) (x2 : Int32) (H : Heap) (locs : List Loc) (ls : Array Slot), f_X7_beginTry_106 N n9 σ x2 = some R → z9h ≤ CS.hs σ → CP dC dI Q A s.heap σ H locs → lv_has ls 3 [(0, .ref (Q.o 3)), (2, .int x2)] → W p l e ({ frames := 5, cells := CS.hs R.2 - z9h, slots := 17 * (CS.hs R.2 - z9h), locals := 60 * 5 }) s m args below meth c H locs (CS.hs σ - z9h) (17 * (CS.hs σ - z9h)) (MQ below (va_Qv (fun (_ : Unit) => True) (fun (_ : Unit) (t : State) => zPost dC dI A (cW Q R.2) (cT Q) t ∧ t.heap.size = CS.hs R.2) A) args s (CS.hs R.2 - z9h) (17 * (CS.hs R.2 - z9h)) A) (F0 m 106 ls []) := by
  intro n9
  induction n9 with
  | zero => intro σ x2 H locs ls hf; exact absurd hf (by intro q9; cases q9)
  | succ n9 ih =>
    intro σ x2 H locs ls hf h0 hC hl
    replace hf : b_X7_beginTry_106 N (f_X7_beginTry_106 N n9) σ x2 = some R := hf
    unfold b_X7_beginTry_106 at hf
    have hMK := fun (σ : CS) (x2 : Int32) => m_X7_beginTry_106 N n9 σ x2
    refine lv_iload_n hx hb dX7_beginTry_106 rfl (lv_at hl 1 rfl) ?_
    refine lv_sipush (v := 900) hx hb dX7_beginTry_107 (by decide) ?_
    refine lv_icmp_ge (tgt := 132) hx hb dX7_beginTry_110 (by decide) (fun c49 => ?_) (fun c49 => ?_)
    ·
      replace hf := (if_pos c49).symm.trans hf
      exact j_X7_beginTry_132 l dC dI Q N z9h R hx hb hr hml hown hts hlocks hZ hA hK σ _ _ _ hf h0 hC (lv_sub hl [0] rfl)
    ·
      replace hf := (if_neg c49).symm.trans hf
      refine lv_aload_n hx hb dX7_beginTry_113 rfl (lv_at hl 0 rfl) ?_
      refine lv_bipush (v := 44) hx hb dX7_beginTry_114 (by decide) ?_
      obtain ⟨p50, hcp50, hf⟩ := hf_bind hf
      have mo51 : CS.hs σ ≤ CS.hs p50.2 := Mono.go hcp50 (m_X1_skip N σ 44)
      have hr9 : CS.hs p50.2 ≤ CS.hs R.2 := Mono.go hf (mono_ite (m_X7_beginTry_132 N p50.2) (mono_bind (m_X7_openResource N p50.2) (fun p55 => (hMK p55.2 (x2 + 1)))))
      have hFc := cFree hC hA
      refine va_calli (va_runU (As := [.int 44]) (rest := []) ⟨hx, hb, hml, hown, hts⟩ (c_X1_skip l dC dI Q N σ 44 p50 hcp50) (va_cwU 1 hts hX7_beginTry_X1_skip_u205 rfl rfl rfl rfl (by decide +kernel) ⟨(show 4 + 1 ≤ 5 by omega), (show 8 + (3 + 11) + 60 * 4 ≤ 60 * 5 by omega)⟩) ⟨zPre.blind, va_recv hK hC.1 (ci := 6) (q0 := 3) rfl rfl, cPre_go hZ hK hC⟩ rfl rfl hl.1 rfl (lv_room (Nat.le_of_ble_eq_true rfl)) dX7_beginTry_116 (cAcc h0 mo51 hr9)) hC.2.2.1 (fun q _ h => hFc q h) hFc (fun r52 u9 t9 H1 locs ht hvm hw hB hz1 hk1 hS => ?_)
      obtain ⟨⟨hP, hK1, hD1⟩, hsz1⟩ := hB
      rw [ht] at hP hsz1
      have hC : CP dC dI Q A s.heap p50.2 H1 locs := ⟨hP, hD1.weaken (fun _ _ _ h => hFc _ h), hS, hsz1⟩
      generalize H1 = H at hC ⊢
      have h53 : z9h ≤ CS.hs p50.2 := Nat.le_trans h0 mo51
      refine W.widen (k := CS.hs p50.2 - z9h) (n := 17 * (CS.hs p50.2 - z9h)) (cAcc2 h0 mo51) (cAcc3 h0 mo51) ?_
      obtain rfl : r52 = p50.1 := hw
      refine lv_if_eq (tgt := 132) hx hb dX7_beginTry_119 (by decide) (fun c54 => ?_) (fun c54 => ?_)
      ·
        replace hf := (if_pos c54).symm.trans hf
        exact j_X7_beginTry_132 l dC dI Q N z9h R hx hb hr hml hown hts hlocks hZ hA hK p50.2 _ _ _ hf h53 hC (lv_sub hl [0] rfl)
      ·
        replace hf := (if_neg c54).symm.trans hf
        refine lv_aload_n hx hb dX7_beginTry_122 rfl (lv_at hl 0 rfl) ?_
        obtain ⟨p55, hcp55, hf⟩ := hf_bind hf
        have mo56 : CS.hs p50.2 ≤ CS.hs p55.2 := Mono.go hcp55 (m_X7_openResource N p50.2)
        have hr9 : CS.hs p55.2 ≤ CS.hs R.2 := Mono.go hf (hMK p55.2 (x2 + 1))
        have hFc := cFree hC hA
        refine va_callv (va_runV (As := []) (rest := []) ⟨hx, hb, hml, hown, hts⟩ (c_X7_openResource l dC dI Q N p50.2 p55 hcp55) (cwV 0 hts hX7_beginTry_X7_openResource_v353 rfl rfl rfl (by decide +kernel) ⟨(show 4 + 1 ≤ 5 by omega), (show 8 + (1 + 11) + 60 * 4 ≤ 60 * 5 by omega)⟩) ⟨zPre.blind, va_recv hK hC.1 (ci := 6) (q0 := 3) rfl rfl, cPre_go hZ hK hC⟩ rfl rfl hl.1 rfl (lv_room (Nat.le_of_ble_eq_true rfl)) dX7_beginTry_123 (cAcc h53 mo56 hr9)) hC.2.2.1 (fun q _ h => hFc q h) hFc (fun u9 t9 H1 locs ht hvm hw hB hz1 hk1 hS => ?_)
        obtain ⟨⟨hP, hK1, hD1⟩, hsz1⟩ := hB
        rw [ht] at hP hsz1
        have hC : CP dC dI Q A s.heap p55.2 H1 locs := ⟨hP, hD1.weaken (fun _ _ _ h => hFc _ h), hS, hsz1⟩
        generalize H1 = H at hC ⊢
        have h58 : z9h ≤ CS.hs p55.2 := Nat.le_trans h53 mo56
        refine W.widen (k := CS.hs p55.2 - z9h) (n := 17 * (CS.hs p55.2 - z9h)) (cAcc2 h53 mo56) (cAcc3 h53 mo56) ?_
        refine lv_iinc (v := (x2 + 1)) (lv' := [(2, .int (x2 + 1)), (0, .ref (Q.o 3))]) hx hb dX7_beginTry_126 hl (k := 1) rfl rfl (by decide) rfl (fun ls hl => ?_)
        refine lv_goto (tgt := 106) hx hb dX7_beginTry_129 (by decide) ?_
        exact ih p55.2 (x2 + 1) _ _ _ hf h58 hC (lv_sub hl [1, 0] rfl)
set_option maxHeartbeats 4000000 in
set_option maxRecDepth 100000 in
theorem c_X7_beginTry (l : Launch) (dC : Nat → ClassId) (dI : Nat → Nat → Nat) (Q : CQ) (N : Nat) (σ : CS) (R : Unit × CS) (hf : f_X7_beginTry N σ = some R) : Met l yX7_beginTry wzX7_beginTry ({ frames := 5, cells := CS.hs R.2 - CS.hs σ, slots := 17 * (CS.hs R.2 - CS.hs σ), locals := 60 * 5 }) (va_Pc [.ref (Q.o 3)] (zPre dC dI (CS.hs σ) (cW Q σ) (cT Q))) (va_Qv (fun (_ : Unit) => True) (fun (_ : Unit) (t : State) => zPost dC dI (va_A (cW Q σ) (CS.hs σ)) (cW Q R.2) (cT Q) t ∧ t.heap.size = CS.hs R.2) (va_A (cW Q σ) (CS.hs σ))) (CS.hs R.2 - CS.hs σ) (17 * (CS.hs R.2 - CS.hs σ)) (va_A (cW Q σ) (CS.hs σ)) := by
  refine Met.ofW (cc := cX7_beginTry) (maxL := 3) (ret := none) (by decide) rfl ?_
  intro p e s m args below meth c s₁ B hml hv
  obtain ⟨rfl, hsz, hZ, hP, hK, hD0⟩ := hv
  have hx := B.exec
  have hb := B.bytes
  have hr := B.returns
  have hts := atoms_spec (ws := wzX7_beginTry) B.pre
  have hown : s.vm.findClass RX7 = some m.cls := findClass_of_methodNamed B.named
  have hlocks := B.notSynchronized
  have hD := hD0.self (sz := CS.hs σ)
  generalize hAe : va_A (cW Q σ) (CS.hs σ) = A at hD ⊢
  have hA : ∀ q : Nat, s.heap.size ≤ q → A q := fun q h => by rw [← hAe]; exact Or.inr (hsz ▸ h)
  have hC : CP dC dI Q A s.heap σ s.heap [] := ⟨hP, hD, va_S.rf, hsz⟩
  have h0 : CS.hs σ ≤ CS.hs σ := Nat.le_refl _
  have hl := lv_entry ([.ref (Q.o 3)]) (n := 3) (Nat.le_of_ble_eq_true rfl)
  rw [lg_entry_eq]
  generalize (lg_sl ([.ref (Q.o 3)]) ++ List.replicate (3 - (lg_sl ([.ref (Q.o 3)])).length) Slot.unset).toArray = ls at hl ⊢
  have hl : lv_has ls 3 [(0, .ref (Q.o 3))] := hl
  unfold f_X7_beginTry at hf
  refine W.widen (k := CS.hs σ - CS.hs σ) (n := 17 * (CS.hs σ - CS.hs σ)) (Nat.zero_le _) (Nat.zero_le _) ?_
  refine lv_aload_n hx hb dX7_beginTry_0 rfl (lv_at hl 0 rfl) ?_
  refine cG_35 hx hb hts i_X7_beginTry_X7 hown hK hC (hts (.fieldLink RX7 14 "StatementRules2$Statements" "opens" "LStatementRules2$Opens;") k_X7_beginTry_fieldLink_RX7_14_SR_Statements_opens_LSR_Opens) (fun _ q9 => q9) dX7_beginTry_1 ?_
  refine lv_sipush (v := 213) hx hb dX7_beginTry_4 (by decide) ?_
  refine lv_aload_n hx hb dX7_beginTry_7 rfl (lv_at hl 0 rfl) ?_
  refine cG_38 (v := (σ.i 38)) hx hb hts i_X7_beginTry_X7 hown hK hC (hts (.fieldLink RX7 68 "StatementRules2$Statements" "depth" "I") k_X7_beginTry_fieldLink_RX7_68_SR_Statements_depth_I) (fun _ q9 => q9) dX7_beginTry_8 rfl ?_
  refine lv_aload_n hx hb dX7_beginTry_11 rfl (lv_at hl 0 rfl) ?_
  refine cG_31 hx hb hts i_X7_beginTry_X7 hown hK hC (hts (.fieldLink RX7 29 "StatementRules2$Statements" "names" "LStatementRules2$Names;") k_X7_beginTry_fieldLink_RX7_29_SR_Statements_names_LSR_Names) (fun x9 q9 => u_same (hts (.sameField "StatementRules2$Statements" "StatementRules2$Formulas" "names" "LStatementRules2$Names;") k_X7_beginTry_sameField_SR_Statements_SR_Formulas_names_LSR_Names) x9 q9) dX7_beginTry_12 ?_
  refine cGN_50 (v := (σ.i 50)) hx hb hts i_X7_beginTry_X4 hown hK hC (va_Nw.use rfl (hZ.1 (.fieldLinkNest RX7 33 "StatementRules2$Names" "count" "I" "StatementRules2") (by decide +kernel))) (fun _ q9 => q9) dX7_beginTry_15 rfl ?_
  obtain ⟨p1, hcp1, hf⟩ := hf_bind hf
  have mo2 : CS.hs σ ≤ CS.hs p1.2 := Mono.go hcp1 (m_X6_push N σ 213 (σ.i 38) (σ.i 50))
  have hr9 : CS.hs p1.2 ≤ CS.hs R.2 := Mono.go hf (mono_oc (mono_bind (m_X0_newTarget N p1.2) (fun p7 => mono_none)) (fun a6 => (mono_bind (m_X0_newTarget N p1.2) (fun p11 => (mono_ite (mono_bind (m_X0_newTarget N (CS.setO p11.2 a6 10 p11.1)) (fun p16 => (mono_ite (mono_bind (m_X0_newTarget N (CS.setO p16.2 a6 11 p16.1)) (fun p21 => (mono_ite (mono_bind (m_X9_advance N (CS.setO p21.2 a6 9 p21.1)) (fun p26 => (mono_ite (mono_bind (m_X0_add N p26.2 54 (CS.o p26.2 a6 10)) (fun p31 => (mono_bind (m_X1_skip N (CS.setI p31.2 38 ((p31.2.i 38) + 1)) 214) (fun p35 => (mono_ite (m_X7_beginTry_132 N p35.2) (mono_ite (mono_bind (m_X7_openResource N (CS.setO p35.2 a6 8 1)) (fun p45 => (m_X7_beginTry_106 N N p45.2 0))) mono_none)))))) mono_none))) mono_none))) mono_none))) mono_none)))))
  have hFc := cFree hC hA
  refine va_callq (va_runV (As := [.int 213, .int (σ.i 38), .int (σ.i 50)]) (rest := []) ⟨hx, hb, hml, hown, hts⟩ (c_X6_push l dC dI Q N σ 213 (σ.i 38) (σ.i 50) p1 hcp1) (cwV 3 hts hX7_beginTry_X6_push_v81 rfl rfl rfl (by decide +kernel) ⟨(show 2 + 1 ≤ 5 by omega), (show 8 + (6 + 11) + 60 * 2 ≤ 60 * 5 by omega)⟩) ⟨zPre.blind, va_recv hK hC.1 (ci := 5) (q0 := 6) rfl rfl, cPre_go hZ hK hC⟩ rfl rfl hl.1 rfl (lv_room (Nat.le_of_ble_eq_true rfl)) dX7_beginTry_18 (cAcc h0 mo2 hr9)) hC.2.2.1 (fun q _ h => hFc q h) hFc (fun r3 u9 t9 H1 locs ht hvm hw hB hz1 hk1 hS => ?_)
  obtain ⟨⟨hP, hK1, hD1⟩, hsz1⟩ := hB
  rw [ht] at hP hsz1
  have hC : CP dC dI Q A s.heap p1.2 H1 locs := ⟨hP, hD1.weaken (fun _ _ _ h => hFc _ h), hS, hsz1⟩
  generalize H1 = H at hC ⊢
  have h4 : (CS.hs σ) ≤ CS.hs p1.2 := Nat.le_trans h0 mo2
  refine W.widen (k := CS.hs p1.2 - (CS.hs σ)) (n := 17 * (CS.hs p1.2 - (CS.hs σ))) (cAcc2 h0 mo2) (cAcc3 h0 mo2) ?_
  obtain rfl : r3 = p1.1 := hw
  rcases hf_oc hf with ⟨q5, hf⟩ | ⟨a6, q5, hf⟩
  ·
    refine W.eq (congrArg (fun v9 => F0 m 21 ls (va_rf v9 :: [])) q5) ?_
    refine W.eq (g2 := F0 m 21 ls (.null :: [])) rfl ?_
    refine lv_astore_nN (lv' := [(1, .null), (0, .ref (Q.o 3))]) hx hb dX7_beginTry_21 rfl hl (by decide) rfl (fun ls hl => ?_)
    refine lv_aload_nN hx hb dX7_beginTry_22 rfl (lv_at hl 0 rfl) ?_
    refine lv_aload_n hx hb dX7_beginTry_23 rfl (lv_at hl 1 rfl) ?_
    refine cG_29 hx hb hts i_X7_beginTry_X7 hown hK hC (hts (.fieldLink RX7 20 "StatementRules2$Statements" "code" "LStatementRules2$Code;") k_X7_beginTry_fieldLink_RX7_20_SR_Statements_code_LSR_Code) (fun x9 q9 => u_same (hts (.sameField "StatementRules2$Statements" "StatementRules2$Formulas" "code" "LStatementRules2$Code;") k_X7_beginTry_sameField_SR_Statements_SR_Formulas_code_LSR_Code) x9 q9) dX7_beginTry_24 ?_
    obtain ⟨p7, hcp7, hf⟩ := hf_bind hf
    have mo8 : CS.hs p1.2 ≤ CS.hs p7.2 := Mono.go hcp7 (m_X0_newTarget N p1.2)
    have hr9 : CS.hs p7.2 ≤ CS.hs R.2 := Mono.go hf mono_none
    have hFc := cFree hC hA
    refine va_calli (va_runV (As := []) (rest := [.null]) ⟨hx, hb, hml, hown, hts⟩ (c_X0_newTarget l dC dI Q N p1.2 p7 hcp7) (cwV 0 hts hX7_beginTry_X0_newTarget_v136 rfl rfl rfl (by decide +kernel) ⟨(show 2 + 1 ≤ 5 by omega), (show 8 + (1 + 11) + 60 * 2 ≤ 60 * 5 by omega)⟩) ⟨zPre.blind, va_recv hK hC.1 (ci := 0) (q0 := 2) rfl rfl, cPre_go hZ hK hC⟩ rfl rfl hl.1 rfl (lv_room (Nat.le_of_ble_eq_true rfl)) dX7_beginTry_27 (cAcc h4 mo8 hr9)) hC.2.2.1 (fun q _ h => hFc q h) hFc (fun r9 u9 t9 H1 locs ht hvm hw hB hz1 hk1 hS => ?_)
    obtain ⟨⟨hP, hK1, hD1⟩, hsz1⟩ := hB
    rw [ht] at hP hsz1
    have hC : CP dC dI Q A s.heap p7.2 H1 locs := ⟨hP, hD1.weaken (fun _ _ _ h => hFc _ h), hS, hsz1⟩
    generalize H1 = H at hC ⊢
    have h10 : (CS.hs σ) ≤ CS.hs p7.2 := Nat.le_trans h4 mo8
    refine W.widen (k := CS.hs p7.2 - (CS.hs σ)) (n := 17 * (CS.hs p7.2 - (CS.hs σ))) (cAcc2 h4 mo8) (cAcc3 h4 mo8) ?_
    obtain rfl : r9 = p7.1 := hw
    cases hf
  ·
    refine W.eq (congrArg (fun v9 => F0 m 21 ls (va_rf v9 :: [])) q5) ?_
    refine W.eq (g2 := F0 m 21 ls (.ref a6 :: [])) rfl ?_
    refine lv_astore_n (lv' := [(1, .ref a6), (0, .ref (Q.o 3))]) hx hb dX7_beginTry_21 rfl hl (by decide) rfl (fun ls hl => ?_)
    refine lv_aload_n hx hb dX7_beginTry_22 rfl (lv_at hl 0 rfl) ?_
    refine lv_aload_n hx hb dX7_beginTry_23 rfl (lv_at hl 1 rfl) ?_
    refine cG_29 hx hb hts i_X7_beginTry_X7 hown hK hC (hts (.fieldLink RX7 20 "StatementRules2$Statements" "code" "LStatementRules2$Code;") k_X7_beginTry_fieldLink_RX7_20_SR_Statements_code_LSR_Code) (fun x9 q9 => u_same (hts (.sameField "StatementRules2$Statements" "StatementRules2$Formulas" "code" "LStatementRules2$Code;") k_X7_beginTry_sameField_SR_Statements_SR_Formulas_code_LSR_Code) x9 q9) dX7_beginTry_24 ?_
    obtain ⟨p11, hcp11, hf⟩ := hf_bind hf
    have mo12 : CS.hs p1.2 ≤ CS.hs p11.2 := Mono.go hcp11 (m_X0_newTarget N p1.2)
    have hr9 : CS.hs p11.2 ≤ CS.hs R.2 := Mono.go hf (mono_ite (mono_bind (m_X0_newTarget N (CS.setO p11.2 a6 10 p11.1)) (fun p16 => (mono_ite (mono_bind (m_X0_newTarget N (CS.setO p16.2 a6 11 p16.1)) (fun p21 => (mono_ite (mono_bind (m_X9_advance N (CS.setO p21.2 a6 9 p21.1)) (fun p26 => (mono_ite (mono_bind (m_X0_add N p26.2 54 (CS.o p26.2 a6 10)) (fun p31 => (mono_bind (m_X1_skip N (CS.setI p31.2 38 ((p31.2.i 38) + 1)) 214) (fun p35 => (mono_ite (m_X7_beginTry_132 N p35.2) (mono_ite (mono_bind (m_X7_openResource N (CS.setO p35.2 a6 8 1)) (fun p45 => (m_X7_beginTry_106 N N p45.2 0))) mono_none)))))) mono_none))) mono_none))) mono_none))) mono_none)
    have hFc := cFree hC hA
    refine va_calli (va_runV (As := []) (rest := [.ref a6]) ⟨hx, hb, hml, hown, hts⟩ (c_X0_newTarget l dC dI Q N p1.2 p11 hcp11) (cwV 0 hts hX7_beginTry_X0_newTarget_v136 rfl rfl rfl (by decide +kernel) ⟨(show 2 + 1 ≤ 5 by omega), (show 8 + (1 + 11) + 60 * 2 ≤ 60 * 5 by omega)⟩) ⟨zPre.blind, va_recv hK hC.1 (ci := 0) (q0 := 2) rfl rfl, cPre_go hZ hK hC⟩ rfl rfl hl.1 rfl (lv_room (Nat.le_of_ble_eq_true rfl)) dX7_beginTry_27 (cAcc h4 mo12 hr9)) hC.2.2.1 (fun q _ h => hFc q h) hFc (fun r13 u9 t9 H1 locs ht hvm hw hB hz1 hk1 hS => ?_)
    obtain ⟨⟨hP, hK1, hD1⟩, hsz1⟩ := hB
    rw [ht] at hP hsz1
    have hC : CP dC dI Q A s.heap p11.2 H1 locs := ⟨hP, hD1.weaken (fun _ _ _ h => hFc _ h), hS, hsz1⟩
    generalize H1 = H at hC ⊢
    have h14 : (CS.hs σ) ≤ CS.hs p11.2 := Nat.le_trans h4 mo12
    refine W.widen (k := CS.hs p11.2 - (CS.hs σ)) (n := 17 * (CS.hs p11.2 - (CS.hs σ))) (cAcc2 h4 mo12) (cAcc3 h4 mo12) ?_
    obtain rfl : r13 = p11.1 := hw
    obtain ⟨b15, hf⟩ := hf_ite hf
    refine pPN_X5_10 (v := p11.1) hx hb hts i_X7_beginTry_X5 hown hK hC (va_Nw.use rfl (hZ.1 (.fieldLinkNest RX7 284 "StatementRules2$Open" "next" "I" "StatementRules2") (by decide +kernel))) (fun _ q9 => q9) dX7_beginTry_30 b15 (fun H locs hC => ?_)
    refine lv_aload_n hx hb dX7_beginTry_33 rfl (lv_at hl 0 rfl) ?_
    refine lv_aload_n hx hb dX7_beginTry_34 rfl (lv_at hl 1 rfl) ?_
    refine cG_29 hx hb hts i_X7_beginTry_X7 hown hK hC (hts (.fieldLink RX7 20 "StatementRules2$Statements" "code" "LStatementRules2$Code;") k_X7_beginTry_fieldLink_RX7_20_SR_Statements_code_LSR_Code) (fun x9 q9 => u_same (hts (.sameField "StatementRules2$Statements" "StatementRules2$Formulas" "code" "LStatementRules2$Code;") k_X7_beginTry_sameField_SR_Statements_SR_Formulas_code_LSR_Code) x9 q9) dX7_beginTry_35 ?_
    obtain ⟨p16, hcp16, hf⟩ := hf_bind hf
    have mo17 : CS.hs p11.2 ≤ CS.hs p16.2 := Mono.go hcp16 (m_X0_newTarget N (CS.setO p11.2 a6 10 p11.1))
    have hr9 : CS.hs p16.2 ≤ CS.hs R.2 := Mono.go hf (mono_ite (mono_bind (m_X0_newTarget N (CS.setO p16.2 a6 11 p16.1)) (fun p21 => (mono_ite (mono_bind (m_X9_advance N (CS.setO p21.2 a6 9 p21.1)) (fun p26 => (mono_ite (mono_bind (m_X0_add N p26.2 54 (CS.o p26.2 a6 10)) (fun p31 => (mono_bind (m_X1_skip N (CS.setI p31.2 38 ((p31.2.i 38) + 1)) 214) (fun p35 => (mono_ite (m_X7_beginTry_132 N p35.2) (mono_ite (mono_bind (m_X7_openResource N (CS.setO p35.2 a6 8 1)) (fun p45 => (m_X7_beginTry_106 N N p45.2 0))) mono_none)))))) mono_none))) mono_none))) mono_none)
    have hFc := cFree hC hA
    refine va_calli (va_runV (As := []) (rest := [.ref a6]) ⟨hx, hb, hml, hown, hts⟩ (c_X0_newTarget l dC dI Q N (CS.setO p11.2 a6 10 p11.1) p16 hcp16) (cwV 0 hts hX7_beginTry_X0_newTarget_v136 rfl rfl rfl (by decide +kernel) ⟨(show 2 + 1 ≤ 5 by omega), (show 8 + (1 + 11) + 60 * 2 ≤ 60 * 5 by omega)⟩) ⟨zPre.blind, va_recv hK hC.1 (ci := 0) (q0 := 2) rfl rfl, cPre_go hZ hK hC⟩ rfl rfl hl.1 rfl (lv_room (Nat.le_of_ble_eq_true rfl)) dX7_beginTry_38 (cAcc h14 mo17 hr9)) hC.2.2.1 (fun q _ h => hFc q h) hFc (fun r18 u9 t9 H1 locs ht hvm hw hB hz1 hk1 hS => ?_)
    obtain ⟨⟨hP, hK1, hD1⟩, hsz1⟩ := hB
    rw [ht] at hP hsz1
    have hC : CP dC dI Q A s.heap p16.2 H1 locs := ⟨hP, hD1.weaken (fun _ _ _ h => hFc _ h), hS, hsz1⟩
    generalize H1 = H at hC ⊢
    have h19 : (CS.hs σ) ≤ CS.hs p16.2 := Nat.le_trans h14 mo17
    refine W.widen (k := CS.hs p16.2 - (CS.hs σ)) (n := 17 * (CS.hs p16.2 - (CS.hs σ))) (cAcc2 h14 mo17) (cAcc3 h14 mo17) ?_
    obtain rfl : r18 = p16.1 := hw
    obtain ⟨b20, hf⟩ := hf_ite hf
    refine pPN_X5_11 (v := p16.1) hx hb hts i_X7_beginTry_X5 hown hK hC (va_Nw.use rfl (hZ.1 (.fieldLinkNest RX7 140 "StatementRules2$Open" "other" "I" "StatementRules2") (by decide +kernel))) (fun _ q9 => q9) dX7_beginTry_41 b20 (fun H locs hC => ?_)
    refine lv_aload_n hx hb dX7_beginTry_44 rfl (lv_at hl 0 rfl) ?_
    refine lv_aload_n hx hb dX7_beginTry_45 rfl (lv_at hl 1 rfl) ?_
    refine cG_29 hx hb hts i_X7_beginTry_X7 hown hK hC (hts (.fieldLink RX7 20 "StatementRules2$Statements" "code" "LStatementRules2$Code;") k_X7_beginTry_fieldLink_RX7_20_SR_Statements_code_LSR_Code) (fun x9 q9 => u_same (hts (.sameField "StatementRules2$Statements" "StatementRules2$Formulas" "code" "LStatementRules2$Code;") k_X7_beginTry_sameField_SR_Statements_SR_Formulas_code_LSR_Code) x9 q9) dX7_beginTry_46 ?_
    obtain ⟨p21, hcp21, hf⟩ := hf_bind hf
    have mo22 : CS.hs p16.2 ≤ CS.hs p21.2 := Mono.go hcp21 (m_X0_newTarget N (CS.setO p16.2 a6 11 p16.1))
    have hr9 : CS.hs p21.2 ≤ CS.hs R.2 := Mono.go hf (mono_ite (mono_bind (m_X9_advance N (CS.setO p21.2 a6 9 p21.1)) (fun p26 => (mono_ite (mono_bind (m_X0_add N p26.2 54 (CS.o p26.2 a6 10)) (fun p31 => (mono_bind (m_X1_skip N (CS.setI p31.2 38 ((p31.2.i 38) + 1)) 214) (fun p35 => (mono_ite (m_X7_beginTry_132 N p35.2) (mono_ite (mono_bind (m_X7_openResource N (CS.setO p35.2 a6 8 1)) (fun p45 => (m_X7_beginTry_106 N N p45.2 0))) mono_none)))))) mono_none))) mono_none)
    have hFc := cFree hC hA
    refine va_calli (va_runV (As := []) (rest := [.ref a6]) ⟨hx, hb, hml, hown, hts⟩ (c_X0_newTarget l dC dI Q N (CS.setO p16.2 a6 11 p16.1) p21 hcp21) (cwV 0 hts hX7_beginTry_X0_newTarget_v136 rfl rfl rfl (by decide +kernel) ⟨(show 2 + 1 ≤ 5 by omega), (show 8 + (1 + 11) + 60 * 2 ≤ 60 * 5 by omega)⟩) ⟨zPre.blind, va_recv hK hC.1 (ci := 0) (q0 := 2) rfl rfl, cPre_go hZ hK hC⟩ rfl rfl hl.1 rfl (lv_room (Nat.le_of_ble_eq_true rfl)) dX7_beginTry_49 (cAcc h19 mo22 hr9)) hC.2.2.1 (fun q _ h => hFc q h) hFc (fun r23 u9 t9 H1 locs ht hvm hw hB hz1 hk1 hS => ?_)
    obtain ⟨⟨hP, hK1, hD1⟩, hsz1⟩ := hB
    rw [ht] at hP hsz1
    have hC : CP dC dI Q A s.heap p21.2 H1 locs := ⟨hP, hD1.weaken (fun _ _ _ h => hFc _ h), hS, hsz1⟩
    generalize H1 = H at hC ⊢
    have h24 : (CS.hs σ) ≤ CS.hs p21.2 := Nat.le_trans h19 mo22
    refine W.widen (k := CS.hs p21.2 - (CS.hs σ)) (n := 17 * (CS.hs p21.2 - (CS.hs σ))) (cAcc2 h19 mo22) (cAcc3 h19 mo22) ?_
    obtain rfl : r23 = p21.1 := hw
    obtain ⟨b25, hf⟩ := hf_ite hf
    refine pPN_X5_9 (v := p21.1) hx hb hts i_X7_beginTry_X5 hown hK hC (va_Nw.use rfl (hZ.1 (.fieldLinkNest RX7 196 "StatementRules2$Open" "exit" "I" "StatementRules2") (by decide +kernel))) (fun _ q9 => q9) dX7_beginTry_52 b25 (fun H locs hC => ?_)
    refine lv_aload_n hx hb dX7_beginTry_55 rfl (lv_at hl 1 rfl) ?_
    refine cG_28 hx hb hts i_X7_beginTry_X7 hown hK hC (hts (.fieldLink RX7 71 "StatementRules2$Statements" "tokens" "LStatementRules2$Tokens;") k_X7_beginTry_fieldLink_RX7_71_SR_Statements_tokens_LSR_Tokens) (fun x9 q9 => u_same (hts (.sameField "StatementRules2$Statements" "StatementRules2$Formulas" "tokens" "LStatementRules2$Tokens;") k_X7_beginTry_sameField_SR_Statements_SR_Formulas_tokens_LSR_Tokens) x9 q9) dX7_beginTry_56 ?_
    obtain ⟨p26, hcp26, hf⟩ := hf_bind hf
    have mo27 : CS.hs p21.2 ≤ CS.hs p26.2 := Mono.go hcp26 (m_X9_advance N (CS.setO p21.2 a6 9 p21.1))
    have hr9 : CS.hs p26.2 ≤ CS.hs R.2 := Mono.go hf (mono_ite (mono_bind (m_X0_add N p26.2 54 (CS.o p26.2 a6 10)) (fun p31 => (mono_bind (m_X1_skip N (CS.setI p31.2 38 ((p31.2.i 38) + 1)) 214) (fun p35 => (mono_ite (m_X7_beginTry_132 N p35.2) (mono_ite (mono_bind (m_X7_openResource N (CS.setO p35.2 a6 8 1)) (fun p45 => (m_X7_beginTry_106 N N p45.2 0))) mono_none)))))) mono_none)
    have hFc := cFree hC hA
    refine va_callv (va_runV (As := []) (rest := []) ⟨hx, hb, hml, hown, hts⟩ (c_X9_advance l dC dI Q N (CS.setO p21.2 a6 9 p21.1) p26 hcp26) (cwV 0 hts hX7_beginTry_X9_advance_v146 rfl rfl rfl (by decide +kernel) ⟨(show 3 + 1 ≤ 5 by omega), (show 8 + (2 + 11) + 60 * 3 ≤ 60 * 5 by omega)⟩) ⟨zPre.blind, va_recv hK hC.1 (ci := 8) (q0 := 4) rfl rfl, cPre_go hZ hK hC⟩ rfl rfl hl.1 rfl (lv_room (Nat.le_of_ble_eq_true rfl)) dX7_beginTry_59 (cAcc h24 mo27 hr9)) hC.2.2.1 (fun q _ h => hFc q h) hFc (fun u9 t9 H1 locs ht hvm hw hB hz1 hk1 hS => ?_)
    obtain ⟨⟨hP, hK1, hD1⟩, hsz1⟩ := hB
    rw [ht] at hP hsz1
    have hC : CP dC dI Q A s.heap p26.2 H1 locs := ⟨hP, hD1.weaken (fun _ _ _ h => hFc _ h), hS, hsz1⟩
    generalize H1 = H at hC ⊢
    have h29 : (CS.hs σ) ≤ CS.hs p26.2 := Nat.le_trans h24 mo27
    refine W.widen (k := CS.hs p26.2 - (CS.hs σ)) (n := 17 * (CS.hs p26.2 - (CS.hs σ))) (cAcc2 h24 mo27) (cAcc3 h24 mo27) ?_
    refine lv_aload_n hx hb dX7_beginTry_62 rfl (lv_at hl 1 rfl) ?_
    refine cG_29 hx hb hts i_X7_beginTry_X7 hown hK hC (hts (.fieldLink RX7 20 "StatementRules2$Statements" "code" "LStatementRules2$Code;") k_X7_beginTry_fieldLink_RX7_20_SR_Statements_code_LSR_Code) (fun x9 q9 => u_same (hts (.sameField "StatementRules2$Statements" "StatementRules2$Formulas" "code" "LStatementRules2$Code;") k_X7_beginTry_sameField_SR_Statements_SR_Formulas_code_LSR_Code) x9 q9) dX7_beginTry_63 ?_
    refine lv_bipush (v := 54) hx hb dX7_beginTry_66 (by decide) ?_
    refine lv_aload_n hx hb dX7_beginTry_68 rfl (lv_at hl 0 rfl) ?_
    obtain ⟨b30, hf⟩ := hf_ite hf
    refine pGN_X5_10 (v := (CS.o p26.2 a6 10)) hx hb hts i_X7_beginTry_X5 hown hK hC (va_Nw.use rfl (hZ.1 (.fieldLinkNest RX7 284 "StatementRules2$Open" "next" "I" "StatementRules2") (by decide +kernel))) (fun _ q9 => q9) dX7_beginTry_69 b30 rfl ?_
    obtain ⟨p31, hcp31, hf⟩ := hf_bind hf
    have mo32 : CS.hs p26.2 ≤ CS.hs p31.2 := Mono.go hcp31 (m_X0_add N p26.2 54 (CS.o p26.2 a6 10))
    have hr9 : CS.hs p31.2 ≤ CS.hs R.2 := Mono.go hf (mono_bind (m_X1_skip N (CS.setI p31.2 38 ((p31.2.i 38) + 1)) 214) (fun p35 => (mono_ite (m_X7_beginTry_132 N p35.2) (mono_ite (mono_bind (m_X7_openResource N (CS.setO p35.2 a6 8 1)) (fun p45 => (m_X7_beginTry_106 N N p45.2 0))) mono_none))))
    have hFc := cFree hC hA
    refine va_callv (va_runV (As := [.int 54, .int (CS.o p26.2 a6 10)]) (rest := []) ⟨hx, hb, hml, hown, hts⟩ (c_X0_add l dC dI Q N p26.2 54 (CS.o p26.2 a6 10) p31 hcp31) (cwV 2 hts hX7_beginTry_X0_add_v176 rfl rfl rfl (by decide +kernel) ⟨(show 2 + 1 ≤ 5 by omega), (show 8 + (3 + 11) + 60 * 2 ≤ 60 * 5 by omega)⟩) ⟨zPre.blind, va_recv hK hC.1 (ci := 0) (q0 := 2) rfl rfl, cPre_go hZ hK hC⟩ rfl rfl hl.1 rfl (lv_room (Nat.le_of_ble_eq_true rfl)) dX7_beginTry_72 (cAcc h29 mo32 hr9)) hC.2.2.1 (fun q _ h => hFc q h) hFc (fun u9 t9 H1 locs ht hvm hw hB hz1 hk1 hS => ?_)
    obtain ⟨⟨hP, hK1, hD1⟩, hsz1⟩ := hB
    rw [ht] at hP hsz1
    have hC : CP dC dI Q A s.heap p31.2 H1 locs := ⟨hP, hD1.weaken (fun _ _ _ h => hFc _ h), hS, hsz1⟩
    generalize H1 = H at hC ⊢
    have h34 : (CS.hs σ) ≤ CS.hs p31.2 := Nat.le_trans h29 mo32
    refine W.widen (k := CS.hs p31.2 - (CS.hs σ)) (n := 17 * (CS.hs p31.2 - (CS.hs σ))) (cAcc2 h29 mo32) (cAcc3 h29 mo32) ?_
    refine lv_aload_n hx hb dX7_beginTry_75 rfl (lv_at hl 1 rfl) ?_
    refine lv_dup hx hb dX7_beginTry_76 rfl ?_
    refine cG_38 (v := (p31.2.i 38)) hx hb hts i_X7_beginTry_X7 hown hK hC (hts (.fieldLink RX7 68 "StatementRules2$Statements" "depth" "I") k_X7_beginTry_fieldLink_RX7_68_SR_Statements_depth_I) (fun _ q9 => q9) dX7_beginTry_77 rfl ?_
    refine lv_iconst (v := 1) hx hb dX7_beginTry_80 (by decide) ?_
    refine lv_iadd hx hb dX7_beginTry_81 ?_
    refine cP_38 (v := ((p31.2.i 38) + 1)) hx hb hts i_X7_beginTry_X7 hown hK hC (hts (.fieldLink RX7 68 "StatementRules2$Statements" "depth" "I") k_X7_beginTry_fieldLink_RX7_68_SR_Statements_depth_I) (fun _ q9 => q9) dX7_beginTry_82 (fun H locs hC => ?_)
    refine lv_aload_n hx hb dX7_beginTry_85 rfl (lv_at hl 1 rfl) ?_
    refine lv_sipush (v := 214) hx hb dX7_beginTry_86 (by decide) ?_
    obtain ⟨p35, hcp35, hf⟩ := hf_bind hf
    have mo36 : CS.hs p31.2 ≤ CS.hs p35.2 := Mono.go hcp35 (m_X1_skip N (CS.setI p31.2 38 ((p31.2.i 38) + 1)) 214)
    have hr9 : CS.hs p35.2 ≤ CS.hs R.2 := Mono.go hf (mono_ite (m_X7_beginTry_132 N p35.2) (mono_ite (mono_bind (m_X7_openResource N (CS.setO p35.2 a6 8 1)) (fun p45 => (m_X7_beginTry_106 N N p45.2 0))) mono_none))
    have hFc := cFree hC hA
    refine va_calli (va_runU (As := [.int 214]) (rest := []) ⟨hx, hb, hml, hown, hts⟩ (c_X1_skip l dC dI Q N (CS.setI p31.2 38 ((p31.2.i 38) + 1)) 214 p35 hcp35) (va_cwU 1 hts hX7_beginTry_X1_skip_u205 rfl rfl rfl rfl (by decide +kernel) ⟨(show 4 + 1 ≤ 5 by omega), (show 8 + (3 + 11) + 60 * 4 ≤ 60 * 5 by omega)⟩) ⟨zPre.blind, va_recv hK hC.1 (ci := 6) (q0 := 3) rfl rfl, cPre_go hZ hK hC⟩ rfl rfl hl.1 rfl (lv_room (Nat.le_of_ble_eq_true rfl)) dX7_beginTry_89 (cAcc h34 mo36 hr9)) hC.2.2.1 (fun q _ h => hFc q h) hFc (fun r37 u9 t9 H1 locs ht hvm hw hB hz1 hk1 hS => ?_)
    obtain ⟨⟨hP, hK1, hD1⟩, hsz1⟩ := hB
    rw [ht] at hP hsz1
    have hC : CP dC dI Q A s.heap p35.2 H1 locs := ⟨hP, hD1.weaken (fun _ _ _ h => hFc _ h), hS, hsz1⟩
    generalize H1 = H at hC ⊢
    have h38 : (CS.hs σ) ≤ CS.hs p35.2 := Nat.le_trans h34 mo36
    refine W.widen (k := CS.hs p35.2 - (CS.hs σ)) (n := 17 * (CS.hs p35.2 - (CS.hs σ))) (cAcc2 h34 mo36) (cAcc3 h34 mo36) ?_
    obtain rfl : r37 = p35.1 := hw
    refine lv_if_eq (tgt := 132) hx hb dX7_beginTry_92 (by decide) (fun c39 => ?_) (fun c39 => ?_)
    ·
      replace hf := (if_pos c39).symm.trans hf
      exact j_X7_beginTry_132 l dC dI Q N (CS.hs σ) R hx hb hr hml hown hts hlocks hZ hA hK p35.2 _ _ _ hf h38 hC (lv_sub hl [1] rfl)
    ·
      replace hf := (if_neg c39).symm.trans hf
      refine lv_aload_n hx hb dX7_beginTry_95 rfl (lv_at hl 0 rfl) ?_
      refine lv_iconst (v := 1) hx hb dX7_beginTry_96 (by decide) ?_
      obtain ⟨b44, hf⟩ := hf_ite hf
      refine pPN_X5_8 (v := 1) hx hb hts i_X7_beginTry_X5 hown hK hC (va_Nw.use rfl (hZ.1 (.fieldLinkNest RX7 350 "StatementRules2$Open" "whole" "Z" "StatementRules2") (by decide +kernel))) (fun _ q9 => q9) dX7_beginTry_97 b44 (by decide) (fun H locs hC => ?_)
      refine lv_aload_n hx hb dX7_beginTry_100 rfl (lv_at hl 1 rfl) ?_
      obtain ⟨p45, hcp45, hf⟩ := hf_bind hf
      have mo46 : CS.hs p35.2 ≤ CS.hs p45.2 := Mono.go hcp45 (m_X7_openResource N (CS.setO p35.2 a6 8 1))
      have hr9 : CS.hs p45.2 ≤ CS.hs R.2 := Mono.go hf (m_X7_beginTry_106 N N p45.2 0)
      have hFc := cFree hC hA
      refine va_callv (va_runV (As := []) (rest := []) ⟨hx, hb, hml, hown, hts⟩ (c_X7_openResource l dC dI Q N (CS.setO p35.2 a6 8 1) p45 hcp45) (cwV 0 hts hX7_beginTry_X7_openResource_v353 rfl rfl rfl (by decide +kernel) ⟨(show 4 + 1 ≤ 5 by omega), (show 8 + (1 + 11) + 60 * 4 ≤ 60 * 5 by omega)⟩) ⟨zPre.blind, va_recv hK hC.1 (ci := 6) (q0 := 3) rfl rfl, cPre_go hZ hK hC⟩ rfl rfl hl.1 rfl (lv_room (Nat.le_of_ble_eq_true rfl)) dX7_beginTry_101 (cAcc h38 mo46 hr9)) hC.2.2.1 (fun q _ h => hFc q h) hFc (fun u9 t9 H1 locs ht hvm hw hB hz1 hk1 hS => ?_)
      obtain ⟨⟨hP, hK1, hD1⟩, hsz1⟩ := hB
      rw [ht] at hP hsz1
      have hC : CP dC dI Q A s.heap p45.2 H1 locs := ⟨hP, hD1.weaken (fun _ _ _ h => hFc _ h), hS, hsz1⟩
      generalize H1 = H at hC ⊢
      have h48 : (CS.hs σ) ≤ CS.hs p45.2 := Nat.le_trans h38 mo46
      refine W.widen (k := CS.hs p45.2 - (CS.hs σ)) (n := 17 * (CS.hs p45.2 - (CS.hs σ))) (cAcc2 h38 mo46) (cAcc3 h38 mo46) ?_
      refine lv_iconst (v := 0) hx hb dX7_beginTry_104 (by decide) ?_
      refine lv_istore_n (lv' := [(2, .int 0), (1, .ref a6), (0, .ref (Q.o 3))]) hx hb dX7_beginTry_105 rfl hl (by decide) rfl (fun ls hl => ?_)
      exact j_X7_beginTry_106 l dC dI Q N (CS.hs σ) R hx hb hr hml hown hts hlocks hZ hA hK N p45.2 0 _ _ _ hf h48 hC (lv_sub hl [2, 0] rfl)
