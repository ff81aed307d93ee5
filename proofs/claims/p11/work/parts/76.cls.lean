theorem k_X7_groupTurn_fieldLink_RX7_20_SR_Statements_code_LSR_Code : Cond.fieldLink RX7 20 "StatementRules2$Statements" "code" "LStatementRules2$Code;" ∈ wzX7_groupTurn := List.mem_cons_of_mem _ (List.mem_append_right _ (List.mem_append_right _ (List.mem_append_right _ (List.mem_append_right _ (List.mem_append_right _ (List.mem_append_right _ (List.mem_append_right _ (List.mem_append_right _ (List.mem_append_right _ (List.mem_append_right _ (List.mem_append_right _ (List.mem_append_right _ (List.mem_append_right _ (List.mem_append_right _ (List.mem_append_right _ (List.mem_append_right _ (List.mem_append_right _ (List.mem_append_right _ (List.mem_append_right _ (List.mem_append_right _ (List.mem_append_right _ (List.mem_append_right _ (List.mem_append_right _ (List.mem_append_right _ (List.mem_append_right _ (List.mem_append_right _ (List.mem_append_right _ (List.mem_append_left _ (List.mem_of_getElem? (i := 0) rfl)))))))))))))))))))))))))))))
theorem k_X7_groupTurn_sameField_SR_Statements_SR_Formulas_code_LSR_Code : Cond.sameField "StatementRules2$Statements" "StatementRules2$Formulas" "code" "LStatementRules2$Code;" ∈ wzX7_groupTurn := List.mem_cons_of_mem _ (List.mem_append_right _ (List.mem_append_right _ (List.mem_append_right _ (List.mem_append_right _ (List.mem_append_right _ (List.mem_append_right _ (List.mem_append_right _ (List.mem_append_right _ (List.mem_append_right _ (List.mem_append_right _ (List.mem_append_right _ (List.mem_append_right _ (List.mem_append_right _ (List.mem_append_right _ (List.mem_append_right _ (List.mem_append_right _ (List.mem_append_right _ (List.mem_append_right _ (List.mem_append_right _ (List.mem_append_right _ (List.mem_append_right _ (List.mem_append_right _ (List.mem_append_right _ (List.mem_append_right _ (List.mem_append_right _ (List.mem_append_right _ (List.mem_append_right _ (List.mem_append_left _ (List.mem_of_getElem? (i := 1) rfl)))))))))))))))))))))))))))))
theorem i_X7_groupTurn_X7 : ∀ w ∈ wsX70, w ∈ wzX7_groupTurn := fun _ h => List.mem_cons_of_mem _ (List.mem_append_right _ (List.mem_append_right _ (List.mem_append_right _ (List.mem_append_right _ (List.mem_append_right _ (List.mem_append_right _ (List.mem_append_right _ (List.mem_append_right _ (List.mem_append_right _ (List.mem_append_right _ (List.mem_append_right _ (List.mem_append_right _ (List.mem_append_right _ (List.mem_append_right _ (List.mem_append_right _ (List.mem_append_right _ (List.mem_append_right _ (List.mem_append_right _ (List.mem_append_right _ (List.mem_append_right _ (List.mem_append_right _ (List.mem_append_right _ (List.mem_append_right _ (List.mem_append_right _ (List.mem_append_right _ (List.mem_append_right _ (List.mem_append_right _ (List.mem_append_right _ (List.mem_append_right _ (List.mem_append_right _ (List.mem_append_right _ (List.mem_append_right _ (List.mem_append_right _ (List.mem_append_right _ (List.mem_append_right _ (List.mem_append_right _ (List.mem_append_left _ (h))))))))))))))))))))))))))))))))))))))
theorem k_X7_groupTurn_fieldLink_RX7_71_SR_Statements_tokens_LSR_Tokens : Cond.fieldLink RX7 71 "StatementRules2$Statements" "tokens" "LStatementRules2$Tokens;" ∈ wzX7_groupTurn := List.mem_cons_of_mem _ (List.mem_append_right _ (List.mem_append_right _ (List.mem_append_right _ (List.mem_append_right _ (List.mem_append_right _ (List.mem_append_right _ (List.mem_append_right _ (List.mem_append_right _ (List.mem_append_right _ (List.mem_append_right _ (List.mem_append_right _ (List.mem_append_right _ (List.mem_append_right _ (List.mem_append_right _ (List.mem_append_right _ (List.mem_append_right _ (List.mem_append_right _ (List.mem_append_right _ (List.mem_append_right _ (List.mem_append_right _ (List.mem_append_right _ (List.mem_append_right _ (List.mem_append_right _ (List.mem_append_right _ (List.mem_append_right _ (List.mem_append_right _ (List.mem_append_right _ (List.mem_append_left _ (List.mem_of_getElem? (i := 2) rfl)))))))))))))))))))))))))))))
theorem k_X7_groupTurn_sameField_SR_Statements_SR_Formulas_tokens_LSR_Tokens : Cond.sameField "StatementRules2$Statements" "StatementRules2$Formulas" "tokens" "LStatementRules2$Tokens;" ∈ wzX7_groupTurn := List.mem_cons_of_mem _ (List.mem_append_right _ (List.mem_append_right _ (List.mem_append_right _ (List.mem_append_right _ (List.mem_append_right _ (List.mem_append_right _ (List.mem_append_right _ (List.mem_append_right _ (List.mem_append_right _ (List.mem_append_right _ (List.mem_append_right _ (List.mem_append_right _ (List.mem_append_right _ (List.mem_append_right _ (List.mem_append_right _ (List.mem_append_right _ (List.mem_append_right _ (List.mem_append_right _ (List.mem_append_right _ (List.mem_append_right _ (List.mem_append_right _ (List.mem_append_right _ (List.mem_append_right _ (List.mem_append_right _ (List.mem_append_right _ (List.mem_append_right _ (List.mem_append_right _ (List.mem_append_left _ (List.mem_of_getElem? (i := 3) rfl)))))))))))))))))))))))))))))
theorem i_X7_groupTurn_X5 : ∀ w ∈ wsX50, w ∈ wzX7_groupTurn := fun _ h => List.mem_cons_of_mem _ (List.mem_append_right _ (List.mem_append_right _ (List.mem_append_right _ (List.mem_append_right _ (List.mem_append_right _ (List.mem_append_right _ (List.mem_append_right _ (List.mem_append_right _ (List.mem_append_right _ (List.mem_append_right _ (List.mem_append_right _ (List.mem_append_right _ (List.mem_append_right _ (List.mem_append_right _ (List.mem_append_right _ (List.mem_append_right _ (List.mem_append_right _ (List.mem_append_right _ (List.mem_append_right _ (List.mem_append_right _ (List.mem_append_right _ (List.mem_append_right _ (List.mem_append_right _ (List.mem_append_right _ (List.mem_append_right _ (List.mem_append_right _ (List.mem_append_right _ (List.mem_append_right _ (List.mem_append_right _ (List.mem_append_right _ (List.mem_append_right _ (List.mem_append_right _ (List.mem_append_right _ (List.mem_append_right _ (List.mem_append_right _ (List.mem_append_right _ (List.mem_append_right _ (List.mem_append_right _ (List.mem_append_right _ (List.mem_append_right _ (List.mem_append_right _ (List.mem_append_left _ (h)))))))))))))))))))))))))))))))))))))))))))
theorem k_X7_groupTurn_fieldLink_RX7_61_SR_Statements_alive_Z : Cond.fieldLink RX7 61 "StatementRules2$Statements" "alive" "Z" ∈ wzX7_groupTurn := List.mem_cons_of_mem _ (List.mem_append_right _ (List.mem_append_right _ (List.mem_append_right _ (List.mem_append_right _ (List.mem_append_right _ (List.mem_append_right _ (List.mem_append_right _ (List.mem_append_right _ (List.mem_append_right _ (List.mem_append_right _ (List.mem_append_right _ (List.mem_append_right _ (List.mem_append_right _ (List.mem_append_right _ (List.mem_append_right _ (List.mem_append_right _ (List.mem_append_right _ (List.mem_append_right _ (List.mem_append_right _ (List.mem_append_right _ (List.mem_append_right _ (List.mem_append_right _ (List.mem_append_right _ (List.mem_append_right _ (List.mem_append_right _ (List.mem_append_right _ (List.mem_append_right _ (List.mem_append_left _ (List.mem_of_getElem? (i := 4) rfl)))))))))))))))))))))))))))))
theorem i_X7_groupTurn_X9 : ∀ w ∈ wsX90, w ∈ wzX7_groupTurn := fun _ h => List.mem_cons_of_mem _ (List.mem_append_right _ (List.mem_append_right _ (List.mem_append_right _ (List.mem_append_right _ (List.mem_append_right _ (List.mem_append_right _ (List.mem_append_right _ (List.mem_append_right _ (List.mem_append_right _ (List.mem_append_right _ (List.mem_append_right _ (List.mem_append_right _ (List.mem_append_right _ (List.mem_append_right _ (List.mem_append_right _ (List.mem_append_right _ (List.mem_append_right _ (List.mem_append_right _ (List.mem_append_right _ (List.mem_append_right _ (List.mem_append_right _ (List.mem_append_right _ (List.mem_append_right _ (List.mem_append_right _ (List.mem_append_right _ (List.mem_append_right _ (List.mem_append_right _ (List.mem_append_right _ (List.mem_append_right _ (List.mem_append_right _ (List.mem_append_right _ (List.mem_append_right _ (List.mem_append_right _ (List.mem_append_right _ (List.mem_append_right _ (List.mem_append_right _ (List.mem_append_right _ (List.mem_append_left _ (h)))))))))))))))))))))))))))))))))))))))
set_option maxHeartbeats 4000000 in
set_option maxRecDepth 100000 in
theorem j_X7_groupTurn_87 {p : Program} {e : Env} {s : State} {m : MethodId} {args : Array Value} {below : List Frame} {meth : Method} {c : Code} {A : Nat → Prop} (l : Launch) (dC : Nat → ClassId) (dI : Nat → Nat → Nat) (Q : CQ) (N : Nat) (d : Nat) (E1 : CS → Option (Unit × CS)) (E2 : CS → Option (Int32 × CS)) (hE1 : cMF l dC dI Q d E1) (hE2 : cMO l dC dI Q d E2) (hm1 : ∀ σ, Mono (CS.hs σ) (E1 σ)) (hm2 : ∀ σ, Mono (CS.hs σ) (E2 σ)) (z9h : Nat) (R : Unit × CS) (hx : p.tables.exec = Jvm.exec) (hb : c.code = cX7_groupTurn) (hr : meth.sig.returnType = none) (hml : c.maxLocals = 4) (hown : s.vm.findClass RX7 = some m.cls) (hts : ∀ w ∈ wzX7_groupTurn, w.before args s = true) (hlocks : meth.locks = false) (hZ : zAMB s) (hA : ∀ q : Nat, s.heap.size ≤ q → A q) (hK : va_K (dC, dI) vwCl (cT Q) s) : ∀ (σ : CS) (x1 : Nat) (x2 : Int32) (H : Heap) (locs : List Loc) (ls : Array Slot), f_X7_groupTurn_87 N E1 E2 σ x1 x2 = some R → z9h ≤ CS.hs σ → CP dC dI Q A s.heap σ H locs → lv_has ls 4 [(0, .ref (Q.o 3)), (1, .ref x1), (2, .int x2)] → W p l e ({ frames := (20 + 40 * d), cells := CS.hs R.2 - z9h, slots := 17 * (CS.hs R.2 - z9h), locals := 60 * (20 + 40 * d) }) s m args below meth c H locs (CS.hs σ - z9h) (17 * (CS.hs σ - z9h)) (MQ below (va_Qv (fun (_ : Unit) => True) (fun (_ : Unit) (t : State) => zPost dC dI A (cW Q R.2) (cT Q) t ∧ t.heap.size = CS.hs R.2) A) args s (CS.hs R.2 - z9h) (17 * (CS.hs R.2 - z9h)) A) (F0 m 87 ls []) := by
  intro σ x1 x2 H locs ls hf h0 hC hl
  unfold f_X7_groupTurn_87 at hf
  refine lv_aload_n hx hb dX7_groupTurn_87 rfl (lv_at hl 0 rfl) ?_
  refine lv_bipush (v := 58) hx hb dX7_groupTurn_88 (by decide) ?_
  obtain ⟨p21, hcp21, hf⟩ := hf_bind hf
  have mo22 : CS.hs σ ≤ CS.hs p21.2 := Mono.go hcp21 (m_X1_expect N σ 58)
  have hr9 : CS.hs p21.2 ≤ CS.hs R.2 := Mono.go hf (mono_bind (m_X0_aim N p21.2 x2) (fun p25 => (mono_ite (mono_some (Nat.le_refl _)) mono_none)))
  have hFc := cFree hC hA
  refine va_callv (va_runU (As := [.int 58]) (rest := []) ⟨hx, hb, hml, hown, hts⟩ (c_X1_expect l dC dI Q N σ 58 p21 hcp21) (va_cwU 1 hts hX7_groupTurn_X1_expect_u155 rfl rfl rfl rfl (by decide +kernel) ⟨(show 4 + 1 ≤ (20 + 40 * d) by omega), (show 8 + (2 + 11) + 60 * 4 ≤ 60 * (20 + 40 * d) by omega)⟩) ⟨zPre.blind, va_recv hK hC.1 (ci := 6) (q0 := 3) rfl rfl, cPre_go hZ hK hC⟩ rfl rfl hl.1 rfl (lv_room (Nat.le_of_ble_eq_true rfl)) dX7_groupTurn_90 (cAcc h0 mo22 hr9)) hC.2.2.1 (fun q _ h => hFc q h) hFc (fun u9 t9 H1 locs ht hvm hw hB hz1 hk1 hS => ?_)
  obtain ⟨⟨hP, hK1, hD1⟩, hsz1⟩ := hB
  rw [ht] at hP hsz1
  have hC : CP dC dI Q A s.heap p21.2 H1 locs := ⟨hP, hD1.weaken (fun _ _ _ h => hFc _ h), hS, hsz1⟩
  generalize H1 = H at hC ⊢
  have h24 : z9h ≤ CS.hs p21.2 := Nat.le_trans h0 mo22
  refine W.widen (k := CS.hs p21.2 - z9h) (n := 17 * (CS.hs p21.2 - z9h)) (cAcc2 h0 mo22) (cAcc3 h0 mo22) ?_
  refine lv_aload_n hx hb dX7_groupTurn_93 rfl (lv_at hl 0 rfl) ?_
  refine cG_29 hx hb hts i_X7_groupTurn_X7 hown hK hC (hts (.fieldLink RX7 20 "StatementRules2$Statements" "code" "LStatementRules2$Code;") k_X7_groupTurn_fieldLink_RX7_20_SR_Statements_code_LSR_Code) (fun x9 q9 => u_same (hts (.sameField "StatementRules2$Statements" "StatementRules2$Formulas" "code" "LStatementRules2$Code;") k_X7_groupTurn_sameField_SR_Statements_SR_Formulas_code_LSR_Code) x9 q9) dX7_groupTurn_94 ?_
  refine lv_iload_n hx hb dX7_groupTurn_97 rfl (lv_at hl 2 rfl) ?_
  obtain ⟨p25, hcp25, hf⟩ := hf_bind hf
  have mo26 : CS.hs p21.2 ≤ CS.hs p25.2 := Mono.go hcp25 (m_X0_aim N p21.2 x2)
  have hr9 : CS.hs p25.2 ≤ CS.hs R.2 := Mono.go hf (mono_ite (mono_some (Nat.le_refl _)) mono_none)
  have hFc := cFree hC hA
  refine va_callv (va_runV (As := [.int x2]) (rest := []) ⟨hx, hb, hml, hown, hts⟩ (c_X0_aim l dC dI Q N p21.2 x2 p25 hcp25) (cwV 1 hts hX7_groupTurn_X0_aim_v158 rfl rfl rfl (by decide +kernel) ⟨(show 2 + 1 ≤ (20 + 40 * d) by omega), (show 8 + (2 + 11) + 60 * 2 ≤ 60 * (20 + 40 * d) by omega)⟩) ⟨zPre.blind, va_recv hK hC.1 (ci := 0) (q0 := 2) rfl rfl, cPre_go hZ hK hC⟩ rfl rfl hl.1 rfl (lv_room (Nat.le_of_ble_eq_true rfl)) dX7_groupTurn_98 (cAcc h24 mo26 hr9)) hC.2.2.1 (fun q _ h => hFc q h) hFc (fun u9 t9 H1 locs ht hvm hw hB hz1 hk1 hS => ?_)
  obtain ⟨⟨hP, hK1, hD1⟩, hsz1⟩ := hB
  rw [ht] at hP hsz1
  have hC : CP dC dI Q A s.heap p25.2 H1 locs := ⟨hP, hD1.weaken (fun _ _ _ h => hFc _ h), hS, hsz1⟩
  generalize H1 = H at hC ⊢
  have h28 : z9h ≤ CS.hs p25.2 := Nat.le_trans h24 mo26
  refine W.widen (k := CS.hs p25.2 - z9h) (n := 17 * (CS.hs p25.2 - z9h)) (cAcc2 h24 mo26) (cAcc3 h24 mo26) ?_
  refine lv_aload_n hx hb dX7_groupTurn_101 rfl (lv_at hl 1 rfl) ?_
  refine lv_iconst (v := 1) hx hb dX7_groupTurn_102 (by decide) ?_
  obtain ⟨b29, hf⟩ := hf_ite hf
  refine pPN_X5_5 (v := 1) hx hb hts i_X7_groupTurn_X5 hown hK hC (va_Nw.use rfl (hZ.1 (.fieldLinkNest RX7 130 "StatementRules2$Open" "begun" "Z" "StatementRules2") (by decide +kernel))) (fun _ q9 => q9) dX7_groupTurn_103 b29 (by decide) (fun H locs hC => ?_)
  refine lv_aload_n hx hb dX7_groupTurn_106 rfl (lv_at hl 0 rfl) ?_
  refine lv_iconst (v := 1) hx hb dX7_groupTurn_107 (by decide) ?_
  refine cP_36 (v := 1) hx hb hts i_X7_groupTurn_X7 hown hK hC (hts (.fieldLink RX7 61 "StatementRules2$Statements" "alive" "Z") k_X7_groupTurn_fieldLink_RX7_61_SR_Statements_alive_Z) (fun _ q9 => q9) dX7_groupTurn_108 (by decide) (fun H locs hC => ?_)
  refine lv_goto (tgt := 133) hx hb dX7_groupTurn_111 (by decide) ?_
  obtain rfl := Option.some.inj hf
  exact W.vret hx hb hr (fun t ht hW => ⟨⟨(), rfl, trivial, ⟨by rw [ht]; exact hC.1, va_K.moved hW.alike hK, hC.2.1⟩, by rw [ht]; exact hC.2.2.2⟩, hC.2.2.1.F ht⟩) hC.2.2.1.2.2 dX7_groupTurn_133
set_option maxHeartbeats 4000000 in
set_option maxRecDepth 100000 in
theorem j_X7_groupTurn_59 {p : Program} {e : Env} {s : State} {m : MethodId} {args : Array Value} {below : List Frame} {meth : Method} {c : Code} {A : Nat → Prop} (l : Launch) (dC : Nat → ClassId) (dI : Nat → Nat → Nat) (Q : CQ) (N : Nat) (d : Nat) (E1 : CS → Option (Unit × CS)) (E2 : CS → Option (Int32 × CS)) (hE1 : cMF l dC dI Q d E1) (hE2 : cMO l dC dI Q d E2) (hm1 : ∀ σ, Mono (CS.hs σ) (E1 σ)) (hm2 : ∀ σ, Mono (CS.hs σ) (E2 σ)) (z9h : Nat) (R : Unit × CS) (hx : p.tables.exec = Jvm.exec) (hb : c.code = cX7_groupTurn) (hr : meth.sig.returnType = none) (hml : c.maxLocals = 4) (hown : s.vm.findClass RX7 = some m.cls) (hts : ∀ w ∈ wzX7_groupTurn, w.before args s = true) (hlocks : meth.locks = false) (hZ : zAMB s) (hA : ∀ q : Nat, s.heap.size ≤ q → A q) (hK : va_K (dC, dI) vwCl (cT Q) s) : ∀ (σ : CS) (x1 : Nat) (x2 : Int32) (x3 : Int32) (H : Heap) (locs : List Loc) (ls : Array Slot), f_X7_groupTurn_59 N E1 E2 σ x1 x2 x3 = some R → z9h ≤ CS.hs σ → CP dC dI Q A s.heap σ H locs → lv_has ls 4 [(0, .ref (Q.o 3)), (1, .ref x1), (2, .int x2), (3, .int x3)] → W p l e ({ frames := (20 + 40 * d), cells := CS.hs R.2 - z9h, slots := 17 * (CS.hs R.2 - z9h), locals := 60 * (20 + 40 * d) }) s m args below meth c H locs (CS.hs σ - z9h) (17 * (CS.hs σ - z9h)) (MQ below (va_Qv (fun (_ : Unit) => True) (fun (_ : Unit) (t : State) => zPost dC dI A (cW Q R.2) (cT Q) t ∧ t.heap.size = CS.hs R.2) A) args s (CS.hs R.2 - z9h) (17 * (CS.hs R.2 - z9h)) A) (F0 m 59 ls []) := by
  intro σ x1 x2 x3 H locs ls hf h0 hC hl
  unfold f_X7_groupTurn_59 at hf
  refine lv_aload_n hx hb dX7_groupTurn_59 rfl (lv_at hl 0 rfl) ?_
  refine cG_28 hx hb hts i_X7_groupTurn_X7 hown hK hC (hts (.fieldLink RX7 71 "StatementRules2$Statements" "tokens" "LStatementRules2$Tokens;") k_X7_groupTurn_fieldLink_RX7_71_SR_Statements_tokens_LSR_Tokens) (fun x9 q9 => u_same (hts (.sameField "StatementRules2$Statements" "StatementRules2$Formulas" "tokens" "LStatementRules2$Tokens;") k_X7_groupTurn_sameField_SR_Statements_SR_Formulas_tokens_LSR_Tokens) x9 q9) dX7_groupTurn_60 ?_
  obtain ⟨p15, hcp15, hf⟩ := hf_bind hf
  have mo16 : CS.hs σ ≤ CS.hs p15.2 := Mono.go hcp15 (m_X9_advance N σ)
  have hr9 : CS.hs p15.2 ≤ CS.hs R.2 := Mono.go hf (mono_ite (mono_ite (m_X7_groupTurn_87 N E1 E2 hm1 hm2 (CS.setO p15.2 x1 11 x2) x1 x2) mono_none) (mono_ite (mono_bind (m_X1_caseNumber N p15.2 (CS.o p15.2 x1 13) x2) (fun p31 => (m_X7_groupTurn_87 N E1 E2 hm1 hm2 p31.2 x1 x2))) mono_none))
  have hFc := cFree hC hA
  refine va_callv (va_runV (As := []) (rest := []) ⟨hx, hb, hml, hown, hts⟩ (c_X9_advance l dC dI Q N σ p15 hcp15) (cwV 0 hts hX7_groupTurn_X9_advance_v146 rfl rfl rfl (by decide +kernel) ⟨(show 3 + 1 ≤ (20 + 40 * d) by omega), (show 8 + (2 + 11) + 60 * 3 ≤ 60 * (20 + 40 * d) by omega)⟩) ⟨zPre.blind, va_recv hK hC.1 (ci := 8) (q0 := 4) rfl rfl, cPre_go hZ hK hC⟩ rfl rfl hl.1 rfl (lv_room (Nat.le_of_ble_eq_true rfl)) dX7_groupTurn_63 (cAcc h0 mo16 hr9)) hC.2.2.1 (fun q _ h => hFc q h) hFc (fun u9 t9 H1 locs ht hvm hw hB hz1 hk1 hS => ?_)
  obtain ⟨⟨hP, hK1, hD1⟩, hsz1⟩ := hB
  rw [ht] at hP hsz1
  have hC : CP dC dI Q A s.heap p15.2 H1 locs := ⟨hP, hD1.weaken (fun _ _ _ h => hFc _ h), hS, hsz1⟩
  generalize H1 = H at hC ⊢
  have h18 : z9h ≤ CS.hs p15.2 := Nat.le_trans h0 mo16
  refine W.widen (k := CS.hs p15.2 - z9h) (n := 17 * (CS.hs p15.2 - z9h)) (cAcc2 h0 mo16) (cAcc3 h0 mo16) ?_
  refine lv_iload_n hx hb dX7_groupTurn_66 rfl (lv_at hl 3 rfl) ?_
  refine lv_if_eq (tgt := 82) hx hb dX7_groupTurn_67 (by decide) (fun c19 => ?_) (fun c19 => ?_)
  ·
    replace hf := (if_pos c19).symm.trans hf
    refine lv_aload_n hx hb dX7_groupTurn_82 rfl (lv_at hl 1 rfl) ?_
    refine lv_iload_n hx hb dX7_groupTurn_83 rfl (lv_at hl 2 rfl) ?_
    obtain ⟨b20, hf⟩ := hf_ite hf
    refine pPN_X5_11 (v := x2) hx hb hts i_X7_groupTurn_X5 hown hK hC (va_Nw.use rfl (hZ.1 (.fieldLinkNest RX7 140 "StatementRules2$Open" "other" "I" "StatementRules2") (by decide +kernel))) (fun _ q9 => q9) dX7_groupTurn_84 b20 (fun H locs hC => ?_)
    exact j_X7_groupTurn_87 l dC dI Q N d E1 E2 hE1 hE2 hm1 hm2 z9h R hx hb hr hml hown hts hlocks hZ hA hK (CS.setO p15.2 x1 11 x2) x1 x2 _ _ _ hf h18 hC (lv_sub hl [0, 1, 2] rfl)
  ·
    replace hf := (if_neg c19).symm.trans hf
    refine lv_aload_n hx hb dX7_groupTurn_70 rfl (lv_at hl 0 rfl) ?_
    refine lv_aload_n hx hb dX7_groupTurn_71 rfl (lv_at hl 1 rfl) ?_
    obtain ⟨b30, hf⟩ := hf_ite hf
    refine pGN_X5_13 (v := (CS.o p15.2 x1 13)) hx hb hts i_X7_groupTurn_X5 hown hK hC (va_Nw.use rfl (hZ.1 (.fieldLinkNest RX7 149 "StatementRules2$Open" "firstCase" "I" "StatementRules2") (by decide +kernel))) (fun _ q9 => q9) dX7_groupTurn_72 b30 rfl ?_
    refine lv_iload_n hx hb dX7_groupTurn_75 rfl (lv_at hl 2 rfl) ?_
    obtain ⟨p31, hcp31, hf⟩ := hf_bind hf
    have mo32 : CS.hs p15.2 ≤ CS.hs p31.2 := Mono.go hcp31 (m_X1_caseNumber N p15.2 (CS.o p15.2 x1 13) x2)
    have hr9 : CS.hs p31.2 ≤ CS.hs R.2 := Mono.go hf (m_X7_groupTurn_87 N E1 E2 hm1 hm2 p31.2 x1 x2)
    have hFc := cFree hC hA
    refine va_callv (va_runU (As := [.int (CS.o p15.2 x1 13), .int x2]) (rest := []) ⟨hx, hb, hml, hown, hts⟩ (c_X1_caseNumber l dC dI Q N p15.2 (CS.o p15.2 x1 13) x2 p31 hcp31) (va_cwU 2 hts hX7_groupTurn_X1_caseNumber_u152 rfl rfl rfl rfl (by decide +kernel) ⟨(show 5 + 1 ≤ (20 + 40 * d) by omega), (show 8 + (5 + 11) + 60 * 5 ≤ 60 * (20 + 40 * d) by omega)⟩) ⟨zPre.blind, va_recv hK hC.1 (ci := 6) (q0 := 3) rfl rfl, cPre_go hZ hK hC⟩ rfl rfl hl.1 rfl (lv_room (Nat.le_of_ble_eq_true rfl)) dX7_groupTurn_76 (cAcc h18 mo32 hr9)) hC.2.2.1 (fun q _ h => hFc q h) hFc (fun u9 t9 H1 locs ht hvm hw hB hz1 hk1 hS => ?_)
    obtain ⟨⟨hP, hK1, hD1⟩, hsz1⟩ := hB
    rw [ht] at hP hsz1
    have hC : CP dC dI Q A s.heap p31.2 H1 locs := ⟨hP, hD1.weaken (fun _ _ _ h => hFc _ h), hS, hsz1⟩
    generalize H1 = H at hC ⊢
    have h34 : z9h ≤ CS.hs p31.2 := Nat.le_trans h18 mo32
    refine W.widen (k := CS.hs p31.2 - z9h) (n := 17 * (CS.hs p31.2 - z9h)) (cAcc2 h18 mo32) (cAcc3 h18 mo32) ?_
    refine lv_goto (tgt := 87) hx hb dX7_groupTurn_79 (by decide) ?_
    exact j_X7_groupTurn_87 l dC dI Q N d E1 E2 hE1 hE2 hm1 hm2 z9h R hx hb hr hml hown hts hlocks hZ hA hK p31.2 x1 x2 _ _ _ hf h34 hC (lv_sub hl [0, 1, 2] rfl)
set_option maxHeartbeats 4000000 in
set_option maxRecDepth 100000 in
theorem j_X7_groupTurn_20 {p : Program} {e : Env} {s : State} {m : MethodId} {args : Array Value} {below : List Frame} {meth : Method} {c : Code} {A : Nat → Prop} (l : Launch) (dC : Nat → ClassId) (dI : Nat → Nat → Nat) (Q : CQ) (N : Nat) (d : Nat) (E1 : CS → Option (Unit × CS)) (E2 : CS → Option (Int32 × CS)) (hE1 : cMF l dC dI Q d E1) (hE2 : cMO l dC dI Q d E2) (hm1 : ∀ σ, Mono (CS.hs σ) (E1 σ)) (hm2 : ∀ σ, Mono (CS.hs σ) (E2 σ)) (z9h : Nat) (R : Unit × CS) (hx : p.tables.exec = Jvm.exec) (hb : c.code = cX7_groupTurn) (hr : meth.sig.returnType = none) (hml : c.maxLocals = 4) (hown : s.vm.findClass RX7 = some m.cls) (hts : ∀ w ∈ wzX7_groupTurn, w.before args s = true) (hlocks : meth.locks = false) (hZ : zAMB s) (hA : ∀ q : Nat, s.heap.size ≤ q → A q) (hK : va_K (dC, dI) vwCl (cT Q) s) : ∀ (σ : CS) (x1 : Nat) (H : Heap) (locs : List Loc) (ls : Array Slot), f_X7_groupTurn_20 N E1 E2 σ x1 = some R → z9h ≤ CS.hs σ → CP dC dI Q A s.heap σ H locs → lv_has ls 4 [(0, .ref (Q.o 3)), (1, .ref x1)] → W p l e ({ frames := (20 + 40 * d), cells := CS.hs R.2 - z9h, slots := 17 * (CS.hs R.2 - z9h), locals := 60 * (20 + 40 * d) }) s m args below meth c H locs (CS.hs σ - z9h) (17 * (CS.hs σ - z9h)) (MQ below (va_Qv (fun (_ : Unit) => True) (fun (_ : Unit) (t : State) => zPost dC dI A (cW Q R.2) (cT Q) t ∧ t.heap.size = CS.hs R.2) A) args s (CS.hs R.2 - z9h) (17 * (CS.hs R.2 - z9h)) A) (F0 m 20 ls []) := by
  intro σ x1 H locs ls hf h0 hC hl
  unfold f_X7_groupTurn_20 at hf
  refine lv_aload_n hx hb dX7_groupTurn_20 rfl (lv_at hl 0 rfl) ?_
  refine cG_29 hx hb hts i_X7_groupTurn_X7 hown hK hC (hts (.fieldLink RX7 20 "StatementRules2$Statements" "code" "LStatementRules2$Code;") k_X7_groupTurn_fieldLink_RX7_20_SR_Statements_code_LSR_Code) (fun x9 q9 => u_same (hts (.sameField "StatementRules2$Statements" "StatementRules2$Formulas" "code" "LStatementRules2$Code;") k_X7_groupTurn_sameField_SR_Statements_SR_Formulas_code_LSR_Code) x9 q9) dX7_groupTurn_21 ?_
  obtain ⟨p6, hcp6, hf⟩ := hf_bind hf
  have mo7 : CS.hs σ ≤ CS.hs p6.2 := Mono.go hcp6 (m_X0_newTarget N σ)
  have hr9 : CS.hs p6.2 ≤ CS.hs R.2 := Mono.go hf (mono_bind (m_X1_found N p6.2 219) (fun p10 => (mono_ite (mono_ite (mono_ite (m_X7_groupTurn_59 N E1 E2 hm1 hm2 p10.2 x1 p6.1 p10.1) (mono_bind (m_X1_fail N p10.2 4 (p10.2.i 44)) (fun p37 => (m_X7_groupTurn_59 N E1 E2 hm1 hm2 p37.2 x1 p6.1 p10.1)))) mono_none) (m_X7_groupTurn_59 N E1 E2 hm1 hm2 p10.2 x1 p6.1 p10.1))))
  have hFc := cFree hC hA
  refine va_calli (va_runV (As := []) (rest := []) ⟨hx, hb, hml, hown, hts⟩ (c_X0_newTarget l dC dI Q N σ p6 hcp6) (cwV 0 hts hX7_groupTurn_X0_newTarget_v136 rfl rfl rfl (by decide +kernel) ⟨(show 2 + 1 ≤ (20 + 40 * d) by omega), (show 8 + (1 + 11) + 60 * 2 ≤ 60 * (20 + 40 * d) by omega)⟩) ⟨zPre.blind, va_recv hK hC.1 (ci := 0) (q0 := 2) rfl rfl, cPre_go hZ hK hC⟩ rfl rfl hl.1 rfl (lv_room (Nat.le_of_ble_eq_true rfl)) dX7_groupTurn_24 (cAcc h0 mo7 hr9)) hC.2.2.1 (fun q _ h => hFc q h) hFc (fun r8 u9 t9 H1 locs ht hvm hw hB hz1 hk1 hS => ?_)
  obtain ⟨⟨hP, hK1, hD1⟩, hsz1⟩ := hB
  rw [ht] at hP hsz1
  have hC : CP dC dI Q A s.heap p6.2 H1 locs := ⟨hP, hD1.weaken (fun _ _ _ h => hFc _ h), hS, hsz1⟩
  generalize H1 = H at hC ⊢
  have h9 : z9h ≤ CS.hs p6.2 := Nat.le_trans h0 mo7
  refine W.widen (k := CS.hs p6.2 - z9h) (n := 17 * (CS.hs p6.2 - z9h)) (cAcc2 h0 mo7) (cAcc3 h0 mo7) ?_
  obtain rfl : r8 = p6.1 := hw
  refine lv_istore_n (lv' := [(2, .int p6.1), (0, .ref (Q.o 3)), (1, .ref x1)]) hx hb dX7_groupTurn_27 rfl hl (by decide) rfl (fun ls hl => ?_)
  refine lv_aload_n hx hb dX7_groupTurn_28 rfl (lv_at hl 1 rfl) ?_
  refine lv_sipush (v := 219) hx hb dX7_groupTurn_29 (by decide) ?_
  obtain ⟨p10, hcp10, hf⟩ := hf_bind hf
  have mo11 : CS.hs p6.2 ≤ CS.hs p10.2 := Mono.go hcp10 (m_X1_found N p6.2 219)
  have hr9 : CS.hs p10.2 ≤ CS.hs R.2 := Mono.go hf (mono_ite (mono_ite (mono_ite (m_X7_groupTurn_59 N E1 E2 hm1 hm2 p10.2 x1 p6.1 p10.1) (mono_bind (m_X1_fail N p10.2 4 (p10.2.i 44)) (fun p37 => (m_X7_groupTurn_59 N E1 E2 hm1 hm2 p37.2 x1 p6.1 p10.1)))) mono_none) (m_X7_groupTurn_59 N E1 E2 hm1 hm2 p10.2 x1 p6.1 p10.1))
  have hFc := cFree hC hA
  refine va_calli (va_runU (As := [.int 219]) (rest := []) ⟨hx, hb, hml, hown, hts⟩ (c_X1_found l dC dI Q N p6.2 219 p10 hcp10) (va_cwU 1 hts hX7_groupTurn_X1_found_u110 rfl rfl rfl rfl (by decide +kernel) ⟨(show 1 + 1 ≤ (20 + 40 * d) by omega), (show 8 + (2 + 11) + 60 * 1 ≤ 60 * (20 + 40 * d) by omega)⟩) ⟨zPre.blind, va_recv hK hC.1 (ci := 6) (q0 := 3) rfl rfl, cPre_go hZ hK hC⟩ rfl rfl hl.1 rfl (lv_room (Nat.le_of_ble_eq_true rfl)) dX7_groupTurn_32 (cAcc h9 mo11 hr9)) hC.2.2.1 (fun q _ h => hFc q h) hFc (fun r12 u9 t9 H1 locs ht hvm hw hB hz1 hk1 hS => ?_)
  obtain ⟨⟨hP, hK1, hD1⟩, hsz1⟩ := hB
  rw [ht] at hP hsz1
  have hC : CP dC dI Q A s.heap p10.2 H1 locs := ⟨hP, hD1.weaken (fun _ _ _ h => hFc _ h), hS, hsz1⟩
  generalize H1 = H at hC ⊢
  have h13 : z9h ≤ CS.hs p10.2 := Nat.le_trans h9 mo11
  refine W.widen (k := CS.hs p10.2 - z9h) (n := 17 * (CS.hs p10.2 - z9h)) (cAcc2 h9 mo11) (cAcc3 h9 mo11) ?_
  obtain rfl : r12 = p10.1 := hw
  refine lv_istore_n (lv' := [(3, .int p10.1), (2, .int p6.1), (0, .ref (Q.o 3)), (1, .ref x1)]) hx hb dX7_groupTurn_35 rfl hl (by decide) rfl (fun ls hl => ?_)
  refine lv_iload_n hx hb dX7_groupTurn_36 rfl (lv_at hl 0 rfl) ?_
  refine lv_if_ne (tgt := 59) hx hb dX7_groupTurn_37 (by decide) (fun c14 => ?_) (fun c14 => ?_)
  ·
    replace hf := (if_neg c14).symm.trans hf
    exact j_X7_groupTurn_59 l dC dI Q N d E1 E2 hE1 hE2 hm1 hm2 z9h R hx hb hr hml hown hts hlocks hZ hA hK p10.2 x1 p6.1 p10.1 _ _ _ hf h13 hC (lv_sub hl [2, 3, 1, 0] rfl)
  ·
    replace hf := (if_pos c14).symm.trans hf
    refine lv_aload_n hx hb dX7_groupTurn_40 rfl (lv_at hl 3 rfl) ?_
    obtain ⟨b35, hf⟩ := hf_ite hf
    refine pGN_X5_11 (v := (CS.o p10.2 x1 11)) hx hb hts i_X7_groupTurn_X5 hown hK hC (va_Nw.use rfl (hZ.1 (.fieldLinkNest RX7 140 "StatementRules2$Open" "other" "I" "StatementRules2") (by decide +kernel))) (fun _ q9 => q9) dX7_groupTurn_41 b35 rfl ?_
    refine lv_if_lt (tgt := 59) hx hb dX7_groupTurn_44 (by decide) (fun c36 => ?_) (fun c36 => ?_)
    ·
      replace hf := (if_pos c36).symm.trans hf
      exact j_X7_groupTurn_59 l dC dI Q N d E1 E2 hE1 hE2 hm1 hm2 z9h R hx hb hr hml hown hts hlocks hZ hA hK p10.2 x1 p6.1 p10.1 _ _ _ hf h13 hC (lv_sub hl [2, 3, 1, 0] rfl)
    ·
      replace hf := (if_neg c36).symm.trans hf
      refine lv_aload_n hx hb dX7_groupTurn_47 rfl (lv_at hl 2 rfl) ?_
      refine lv_iconst (v := 4) hx hb dX7_groupTurn_48 (by decide) ?_
      refine lv_aload_n hx hb dX7_groupTurn_49 rfl (lv_at hl 2 rfl) ?_
      refine cG_28 hx hb hts i_X7_groupTurn_X7 hown hK hC (hts (.fieldLink RX7 71 "StatementRules2$Statements" "tokens" "LStatementRules2$Tokens;") k_X7_groupTurn_fieldLink_RX7_71_SR_Statements_tokens_LSR_Tokens) (fun x9 q9 => u_same (hts (.sameField "StatementRules2$Statements" "StatementRules2$Formulas" "tokens" "LStatementRules2$Tokens;") k_X7_groupTurn_sameField_SR_Statements_SR_Formulas_tokens_LSR_Tokens) x9 q9) dX7_groupTurn_50 ?_
      refine cGN_44 (v := (p10.2.i 44)) hx hb hts i_X7_groupTurn_X9 hown hK hC (va_Nw.use rfl (hZ.1 (.fieldLinkNest RX7 143 "StatementRules2$Tokens" "place" "I" "StatementRules2") (by decide +kernel))) (fun _ q9 => q9) dX7_groupTurn_53 rfl ?_
      obtain ⟨p37, hcp37, hf⟩ := hf_bind hf
      have mo38 : CS.hs p10.2 ≤ CS.hs p37.2 := Mono.go hcp37 (m_X1_fail N p10.2 4 (p10.2.i 44))
      have hr9 : CS.hs p37.2 ≤ CS.hs R.2 := Mono.go hf (m_X7_groupTurn_59 N E1 E2 hm1 hm2 p37.2 x1 p6.1 p10.1)
      have hFc := cFree hC hA
      refine va_callv (va_runU (As := [.int 4, .int (p10.2.i 44)]) (rest := []) ⟨hx, hb, hml, hown, hts⟩ (c_X1_fail l dC dI Q N p10.2 4 (p10.2.i 44) p37 hcp37) (va_cwU 2 hts hX7_groupTurn_X1_fail_u88 rfl rfl rfl rfl (by decide +kernel) ⟨(show 2 + 1 ≤ (20 + 40 * d) by omega), (show 8 + (3 + 11) + 60 * 2 ≤ 60 * (20 + 40 * d) by omega)⟩) ⟨zPre.blind, va_recv hK hC.1 (ci := 6) (q0 := 3) rfl rfl, cPre_go hZ hK hC⟩ rfl rfl hl.1 rfl (lv_room (Nat.le_of_ble_eq_true rfl)) dX7_groupTurn_56 (cAcc h13 mo38 hr9)) hC.2.2.1 (fun q _ h => hFc q h) hFc (fun u9 t9 H1 locs ht hvm hw hB hz1 hk1 hS => ?_)
      obtain ⟨⟨hP, hK1, hD1⟩, hsz1⟩ := hB
      rw [ht] at hP hsz1
      have hC : CP dC dI Q A s.heap p37.2 H1 locs := ⟨hP, hD1.weaken (fun _ _ _ h => hFc _ h), hS, hsz1⟩
      generalize H1 = H at hC ⊢
      have h40 : z9h ≤ CS.hs p37.2 := Nat.le_trans h13 mo38
      refine W.widen (k := CS.hs p37.2 - z9h) (n := 17 * (CS.hs p37.2 - z9h)) (cAcc2 h13 mo38) (cAcc3 h13 mo38) ?_
      exact j_X7_groupTurn_59 l dC dI Q N d E1 E2 hE1 hE2 hm1 hm2 z9h R hx hb hr hml hown hts hlocks hZ hA hK p37.2 x1 p6.1 p10.1 _ _ _ hf h40 hC (lv_sub hl [2, 3, 1, 0] rfl)
set_option maxHeartbeats 4000000 in
set_option maxRecDepth 100000 in
theorem c_X7_groupTurn (l : Launch) (dC : Nat → ClassId) (dI : Nat → Nat → Nat) (Q : CQ) (N : Nat) (d : Nat) (E1 : CS → Option (Unit × CS)) (E2 : CS → Option (Int32 × CS)) (hE1 : cMF l dC dI Q d E1) (hE2 : cMO l dC dI Q d E2) (hm1 : ∀ σ, Mono (CS.hs σ) (E1 σ)) (hm2 : ∀ σ, Mono (CS.hs σ) (E2 σ)) (σ : CS) (x1 : Nat) (R : Unit × CS) (hf : f_X7_groupTurn N E1 E2 σ x1 = some R) : Met l yX7_groupTurn wzX7_groupTurn ({ frames := (20 + 40 * d), cells := CS.hs R.2 - CS.hs σ, slots := 17 * (CS.hs R.2 - CS.hs σ), locals := 60 * (20 + 40 * d) }) (va_Pc [.ref (Q.o 3), .ref x1] (zPre dC dI (CS.hs σ) (cW Q σ) (cT Q))) (va_Qv (fun (_ : Unit) => True) (fun (_ : Unit) (t : State) => zPost dC dI (va_A (cW Q σ) (CS.hs σ)) (cW Q R.2) (cT Q) t ∧ t.heap.size = CS.hs R.2) (va_A (cW Q σ) (CS.hs σ))) (CS.hs R.2 - CS.hs σ) (17 * (CS.hs R.2 - CS.hs σ)) (va_A (cW Q σ) (CS.hs σ)) := by
  refine Met.ofW (cc := cX7_groupTurn) (maxL := 4) (ret := none) (by decide) rfl ?_
  intro p e s m args below meth c s₁ B hml hv
  obtain ⟨rfl, hsz, hZ, hP, hK, hD0⟩ := hv
  have hx := B.exec
  have hb := B.bytes
  have hr := B.returns
  have hts := atoms_spec (ws := wzX7_groupTurn) B.pre
  have hown : s.vm.findClass RX7 = some m.cls := findClass_of_methodNamed B.named
  have hlocks := B.notSynchronized
  have hD := hD0.self (sz := CS.hs σ)
  generalize hAe : va_A (cW Q σ) (CS.hs σ) = A at hD ⊢
  have hA : ∀ q : Nat, s.heap.size ≤ q → A q := fun q h => by rw [← hAe]; exact Or.inr (hsz ▸ h)
  have hC : CP dC dI Q A s.heap σ s.heap [] := ⟨hP, hD, va_S.rf, hsz⟩
  have h0 : CS.hs σ ≤ CS.hs σ := Nat.le_refl _
  have hl := lv_entry ([.ref (Q.o 3), .ref x1]) (n := 4) (Nat.le_of_ble_eq_true rfl)
  rw [lg_entry_eq]
  generalize (lg_sl ([.ref (Q.o 3), .ref x1]) ++ List.replicate (4 - (lg_sl ([.ref (Q.o 3), .ref x1])).length) Slot.unset).toArray = ls at hl ⊢
  have hl : lv_has ls 4 [(0, .ref (Q.o 3)), (1, .ref x1)] := hl
  unfold f_X7_groupTurn at hf
  refine W.widen (k := CS.hs σ - CS.hs σ) (n := 17 * (CS.hs σ - CS.hs σ)) (Nat.zero_le _) (Nat.zero_le _) ?_
  refine lv_aload_n hx hb dX7_groupTurn_0 rfl (lv_at hl 0 rfl) ?_
  refine lv_sipush (v := 219) hx hb dX7_groupTurn_1 (by decide) ?_
  obtain ⟨p1, hcp1, hf⟩ := hf_bind hf
  have mo2 : CS.hs σ ≤ CS.hs p1.2 := Mono.go hcp1 (m_X1_found N σ 219)
  have hr9 : CS.hs p1.2 ≤ CS.hs R.2 := Mono.go hf (mono_ite (mono_bind (m_X1_found N p1.2 220) (fun p41 => (mono_ite (mono_ite (mono_ite (mono_bind (m_X1_misplaced N p41.2) (fun p48 => (mono_some (Nat.le_refl _)))) (mono_bind (m_X7_statement N E1 E2 hm1 hm2 p41.2 0) (fun p52 => (mono_some (Nat.le_refl _))))) mono_none) (m_X7_groupTurn_20 N E1 E2 hm1 hm2 p41.2 x1)))) (m_X7_groupTurn_20 N E1 E2 hm1 hm2 p1.2 x1))
  have hFc := cFree hC hA
  refine va_calli (va_runU (As := [.int 219]) (rest := []) ⟨hx, hb, hml, hown, hts⟩ (c_X1_found l dC dI Q N σ 219 p1 hcp1) (va_cwU 1 hts hX7_groupTurn_X1_found_u110 rfl rfl rfl rfl (by decide +kernel) ⟨(show 1 + 1 ≤ (20 + 40 * d) by omega), (show 8 + (2 + 11) + 60 * 1 ≤ 60 * (20 + 40 * d) by omega)⟩) ⟨zPre.blind, va_recv hK hC.1 (ci := 6) (q0 := 3) rfl rfl, cPre_go hZ hK hC⟩ rfl rfl hl.1 rfl (lv_room (Nat.le_of_ble_eq_true rfl)) dX7_groupTurn_4 (cAcc h0 mo2 hr9)) hC.2.2.1 (fun q _ h => hFc q h) hFc (fun r3 u9 t9 H1 locs ht hvm hw hB hz1 hk1 hS => ?_)
  obtain ⟨⟨hP, hK1, hD1⟩, hsz1⟩ := hB
  rw [ht] at hP hsz1
  have hC : CP dC dI Q A s.heap p1.2 H1 locs := ⟨hP, hD1.weaken (fun _ _ _ h => hFc _ h), hS, hsz1⟩
  generalize H1 = H at hC ⊢
  have h4 : (CS.hs σ) ≤ CS.hs p1.2 := Nat.le_trans h0 mo2
  refine W.widen (k := CS.hs p1.2 - (CS.hs σ)) (n := 17 * (CS.hs p1.2 - (CS.hs σ))) (cAcc2 h0 mo2) (cAcc3 h0 mo2) ?_
  obtain rfl : r3 = p1.1 := hw
  refine lv_if_ne (tgt := 20) hx hb dX7_groupTurn_7 (by decide) (fun c5 => ?_) (fun c5 => ?_)
  ·
    replace hf := (if_neg c5).symm.trans hf
    exact j_X7_groupTurn_20 l dC dI Q N d E1 E2 hE1 hE2 hm1 hm2 (CS.hs σ) R hx hb hr hml hown hts hlocks hZ hA hK p1.2 x1 _ _ _ hf h4 hC (lv_sub hl [0, 1] rfl)
  ·
    replace hf := (if_pos c5).symm.trans hf
    refine lv_aload_n hx hb dX7_groupTurn_10 rfl (lv_at hl 0 rfl) ?_
    refine lv_sipush (v := 220) hx hb dX7_groupTurn_11 (by decide) ?_
    obtain ⟨p41, hcp41, hf⟩ := hf_bind hf
    have mo42 : CS.hs p1.2 ≤ CS.hs p41.2 := Mono.go hcp41 (m_X1_found N p1.2 220)
    have hr9 : CS.hs p41.2 ≤ CS.hs R.2 := Mono.go hf (mono_ite (mono_ite (mono_ite (mono_bind (m_X1_misplaced N p41.2) (fun p48 => (mono_some (Nat.le_refl _)))) (mono_bind (m_X7_statement N E1 E2 hm1 hm2 p41.2 0) (fun p52 => (mono_some (Nat.le_refl _))))) mono_none) (m_X7_groupTurn_20 N E1 E2 hm1 hm2 p41.2 x1))
    have hFc := cFree hC hA
    refine va_calli (va_runU (As := [.int 220]) (rest := []) ⟨hx, hb, hml, hown, hts⟩ (c_X1_found l dC dI Q N p1.2 220 p41 hcp41) (va_cwU 1 hts hX7_groupTurn_X1_found_u110 rfl rfl rfl rfl (by decide +kernel) ⟨(show 1 + 1 ≤ (20 + 40 * d) by omega), (show 8 + (2 + 11) + 60 * 1 ≤ 60 * (20 + 40 * d) by omega)⟩) ⟨zPre.blind, va_recv hK hC.1 (ci := 6) (q0 := 3) rfl rfl, cPre_go hZ hK hC⟩ rfl rfl hl.1 rfl (lv_room (Nat.le_of_ble_eq_true rfl)) dX7_groupTurn_14 (cAcc h4 mo42 hr9)) hC.2.2.1 (fun q _ h => hFc q h) hFc (fun r43 u9 t9 H1 locs ht hvm hw hB hz1 hk1 hS => ?_)
    obtain ⟨⟨hP, hK1, hD1⟩, hsz1⟩ := hB
    rw [ht] at hP hsz1
    have hC : CP dC dI Q A s.heap p41.2 H1 locs := ⟨hP, hD1.weaken (fun _ _ _ h => hFc _ h), hS, hsz1⟩
    generalize H1 = H at hC ⊢
    have h44 : (CS.hs σ) ≤ CS.hs p41.2 := Nat.le_trans h4 mo42
    refine W.widen (k := CS.hs p41.2 - (CS.hs σ)) (n := 17 * (CS.hs p41.2 - (CS.hs σ))) (cAcc2 h4 mo42) (cAcc3 h4 mo42) ?_
    obtain rfl : r43 = p41.1 := hw
    refine lv_if_eq (tgt := 114) hx hb dX7_groupTurn_17 (by decide) (fun c45 => ?_) (fun c45 => ?_)
    ·
      replace hf := (if_pos c45).symm.trans hf
      refine lv_aload_n hx hb dX7_groupTurn_114 rfl (lv_at hl 1 rfl) ?_
      obtain ⟨b46, hf⟩ := hf_ite hf
      refine pGN_X5_5 (v := (CS.o p41.2 x1 5)) hx hb hts i_X7_groupTurn_X5 hown hK hC (va_Nw.use rfl (hZ.1 (.fieldLinkNest RX7 130 "StatementRules2$Open" "begun" "Z" "StatementRules2") (by decide +kernel))) (fun _ q9 => q9) dX7_groupTurn_115 b46 rfl ?_
      refine lv_if_eq (tgt := 129) hx hb dX7_groupTurn_118 (by decide) (fun c47 => ?_) (fun c47 => ?_)
      ·
        replace hf := (if_pos c47).symm.trans hf
        refine lv_aload_n hx hb dX7_groupTurn_129 rfl (lv_at hl 0 rfl) ?_
        obtain ⟨p48, hcp48, hf⟩ := hf_bind hf
        have mo49 : CS.hs p41.2 ≤ CS.hs p48.2 := Mono.go hcp48 (m_X1_misplaced N p41.2)
        have hr9 : CS.hs p48.2 ≤ CS.hs R.2 := Mono.go hf (mono_some (Nat.le_refl _))
        have hFc := cFree hC hA
        refine va_callv (va_runU (As := []) (rest := []) ⟨hx, hb, hml, hown, hts⟩ (c_X1_misplaced l dC dI Q N p41.2 p48 hcp48) (va_cwU 0 hts hX7_groupTurn_X1_misplaced_u161 rfl rfl rfl rfl (by decide +kernel) ⟨(show 3 + 1 ≤ (20 + 40 * d) by omega), (show 8 + (1 + 11) + 60 * 3 ≤ 60 * (20 + 40 * d) by omega)⟩) ⟨zPre.blind, va_recv hK hC.1 (ci := 6) (q0 := 3) rfl rfl, cPre_go hZ hK hC⟩ rfl rfl hl.1 rfl (lv_room (Nat.le_of_ble_eq_true rfl)) dX7_groupTurn_130 (cAcc h44 mo49 hr9)) hC.2.2.1 (fun q _ h => hFc q h) hFc (fun u9 t9 H1 locs ht hvm hw hB hz1 hk1 hS => ?_)
        obtain ⟨⟨hP, hK1, hD1⟩, hsz1⟩ := hB
        rw [ht] at hP hsz1
        have hC : CP dC dI Q A s.heap p48.2 H1 locs := ⟨hP, hD1.weaken (fun _ _ _ h => hFc _ h), hS, hsz1⟩
        generalize H1 = H at hC ⊢
        have h51 : (CS.hs σ) ≤ CS.hs p48.2 := Nat.le_trans h44 mo49
        refine W.widen (k := CS.hs p48.2 - (CS.hs σ)) (n := 17 * (CS.hs p48.2 - (CS.hs σ))) (cAcc2 h44 mo49) (cAcc3 h44 mo49) ?_
        obtain rfl := Option.some.inj hf
        exact W.vret hx hb hr (fun t ht hW => ⟨⟨(), rfl, trivial, ⟨by rw [ht]; exact hC.1, va_K.moved hW.alike hK, hC.2.1⟩, by rw [ht]; exact hC.2.2.2⟩, hC.2.2.1.F ht⟩) hC.2.2.1.2.2 dX7_groupTurn_133
      ·
        replace hf := (if_neg c47).symm.trans hf
        refine lv_aload_n hx hb dX7_groupTurn_121 rfl (lv_at hl 0 rfl) ?_
        refine lv_iconst (v := 0) hx hb dX7_groupTurn_122 (by decide) ?_
        obtain ⟨p52, hcp52, hf⟩ := hf_bind hf
        have mo53 : CS.hs p41.2 ≤ CS.hs p52.2 := Mono.go hcp52 (m_X7_statement N E1 E2 hm1 hm2 p41.2 0)
        have hr9 : CS.hs p52.2 ≤ CS.hs R.2 := Mono.go hf (mono_some (Nat.le_refl _))
        have hFc := cFree hC hA
        refine va_callv (va_runV (As := [.int 0]) (rest := []) ⟨hx, hb, hml, hown, hts⟩ (c_X7_statement l dC dI Q N d E1 E2 hE1 hE2 hm1 hm2 p41.2 0 p52 hcp52) (cwV 1 hts hX7_groupTurn_X7_statement_v126 rfl rfl rfl (by decide +kernel) ⟨(show (19 + 40 * d) + 1 ≤ (20 + 40 * d) by omega), (show 8 + (2 + 11) + 60 * (19 + 40 * d) ≤ 60 * (20 + 40 * d) by omega)⟩) ⟨zPre.blind, va_recv hK hC.1 (ci := 6) (q0 := 3) rfl rfl, cPre_go hZ hK hC⟩ rfl rfl hl.1 rfl (lv_room (Nat.le_of_ble_eq_true rfl)) dX7_groupTurn_123 (cAcc h44 mo53 hr9)) hC.2.2.1 (fun q _ h => hFc q h) hFc (fun u9 t9 H1 locs ht hvm hw hB hz1 hk1 hS => ?_)
        obtain ⟨⟨hP, hK1, hD1⟩, hsz1⟩ := hB
        rw [ht] at hP hsz1
        have hC : CP dC dI Q A s.heap p52.2 H1 locs := ⟨hP, hD1.weaken (fun _ _ _ h => hFc _ h), hS, hsz1⟩
        generalize H1 = H at hC ⊢
        have h55 : (CS.hs σ) ≤ CS.hs p52.2 := Nat.le_trans h44 mo53
        refine W.widen (k := CS.hs p52.2 - (CS.hs σ)) (n := 17 * (CS.hs p52.2 - (CS.hs σ))) (cAcc2 h44 mo53) (cAcc3 h44 mo53) ?_
        refine lv_goto (tgt := 133) hx hb dX7_groupTurn_126 (by decide) ?_
        obtain rfl := Option.some.inj hf
        exact W.vret hx hb hr (fun t ht hW => ⟨⟨(), rfl, trivial, ⟨by rw [ht]; exact hC.1, va_K.moved hW.alike hK, hC.2.1⟩, by rw [ht]; exact hC.2.2.2⟩, hC.2.2.1.F ht⟩) hC.2.2.1.2.2 dX7_groupTurn_133
    ·
      replace hf := (if_neg c45).symm.trans hf
      exact j_X7_groupTurn_20 l dC dI Q N d E1 E2 hE1 hE2 hm1 hm2 (CS.hs σ) R hx hb hr hml hown hts hlocks hZ hA hK p41.2 x1 _ _ _ hf h44 hC (lv_sub hl [0, 1] rfl)
theorem k_X7_turns_fieldLink_RX7_52_SR_Statements_faultNumber_I : Cond.fieldLink RX7 52 "StatementRules2$Statements" "faultNumber" "I" ∈ wzX7_turns := List.mem_cons_of_mem _ (List.mem_append_right _ (List.mem_append_right _ (List.mem_append_right _ (List.mem_append_right _ (List.mem_append_right _ (List.mem_append_right _ (List.mem_append_right _ (List.mem_append_right _ (List.mem_append_right _ (List.mem_append_right _ (List.mem_append_right _ (List.mem_append_right _ (List.mem_append_right _ (List.mem_append_right _ (List.mem_append_right _ (List.mem_append_right _ (List.mem_append_right _ (List.mem_append_right _ (List.mem_append_right _ (List.mem_append_right _ (List.mem_append_right _ (List.mem_append_right _ (List.mem_append_right _ (List.mem_append_right _ (List.mem_append_right _ (List.mem_append_right _ (List.mem_append_right _ (List.mem_append_right _ (List.mem_append_right _ (List.mem_append_right _ (List.mem_append_right _ (List.mem_append_right _ (List.mem_append_right _ (List.mem_append_right _ (List.mem_append_left _ (List.mem_of_getElem? (i := 0) rfl))))))))))))))))))))))))))))))))))))
theorem k_X7_turns_sameField_SR_Statements_SR_Formulas_faultNumber_I : Cond.sameField "StatementRules2$Statements" "StatementRules2$Formulas" "faultNumber" "I" ∈ wzX7_turns := List.mem_cons_of_mem _ (List.mem_append_right _ (List.mem_append_right _ (List.mem_append_right _ (List.mem_append_right _ (List.mem_append_right _ (List.mem_append_right _ (List.mem_append_right _ (List.mem_append_right _ (List.mem_append_right _ (List.mem_append_right _ (List.mem_append_right _ (List.mem_append_right _ (List.mem_append_right _ (List.mem_append_right _ (List.mem_append_right _ (List.mem_append_right _ (List.mem_append_right _ (List.mem_append_right _ (List.mem_append_right _ (List.mem_append_right _ (List.mem_append_right _ (List.mem_append_right _ (List.mem_append_right _ (List.mem_append_right _ (List.mem_append_right _ (List.mem_append_right _ (List.mem_append_right _ (List.mem_append_right _ (List.mem_append_right _ (List.mem_append_right _ (List.mem_append_right _ (List.mem_append_right _ (List.mem_append_right _ (List.mem_append_right _ (List.mem_append_left _ (List.mem_of_getElem? (i := 1) rfl))))))))))))))))))))))))))))))))))))
theorem i_X7_turns_X7 : ∀ w ∈ wsX70, w ∈ wzX7_turns := fun _ h => List.mem_cons_of_mem _ (List.mem_append_right _ (List.mem_append_right _ (List.mem_append_right _ (List.mem_append_right _ (List.mem_append_right _ (List.mem_append_right _ (List.mem_append_right _ (List.mem_append_right _ (List.mem_append_right _ (List.mem_append_right _ (List.mem_append_right _ (List.mem_append_right _ (List.mem_append_right _ (List.mem_append_right _ (List.mem_append_right _ (List.mem_append_right _ (List.mem_append_right _ (List.mem_append_right _ (List.mem_append_right _ (List.mem_append_right _ (List.mem_append_right _ (List.mem_append_right _ (List.mem_append_right _ (List.mem_append_right _ (List.mem_append_right _ (List.mem_append_right _ (List.mem_append_right _ (List.mem_append_right _ (List.mem_append_right _ (List.mem_append_right _ (List.mem_append_right _ (List.mem_append_right _ (List.mem_append_right _ (List.mem_append_right _ (List.mem_append_right _ (List.mem_append_right _ (List.mem_append_left _ (h))))))))))))))))))))))))))))))))))))))
theorem k_X7_turns_fieldLink_RX7_14_SR_Statements_opens_LSR_Opens : Cond.fieldLink RX7 14 "StatementRules2$Statements" "opens" "LStatementRules2$Opens;" ∈ wzX7_turns := List.mem_cons_of_mem _ (List.mem_append_right _ (List.mem_append_right _ (List.mem_append_right _ (List.mem_append_right _ (List.mem_append_right _ (List.mem_append_right _ (List.mem_append_right _ (List.mem_append_right _ (List.mem_append_right _ (List.mem_append_right _ (List.mem_append_right _ (List.mem_append_right _ (List.mem_append_right _ (List.mem_append_right _ (List.mem_append_right _ (List.mem_append_right _ (List.mem_append_right _ (List.mem_append_right _ (List.mem_append_right _ (List.mem_append_right _ (List.mem_append_right _ (List.mem_append_right _ (List.mem_append_right _ (List.mem_append_right _ (List.mem_append_right _ (List.mem_append_right _ (List.mem_append_right _ (List.mem_append_right _ (List.mem_append_right _ (List.mem_append_right _ (List.mem_append_right _ (List.mem_append_right _ (List.mem_append_right _ (List.mem_append_right _ (List.mem_append_left _ (List.mem_of_getElem? (i := 2) rfl))))))))))))))))))))))))))))))))))))
theorem i_X7_turns_X6 : ∀ w ∈ wsX60, w ∈ wzX7_turns := fun _ h => List.mem_cons_of_mem _ (List.mem_append_right _ (List.mem_append_right _ (List.mem_append_right _ (List.mem_append_right _ (List.mem_append_right _ (List.mem_append_right _ (List.mem_append_right _ (List.mem_append_right _ (List.mem_append_right _ (List.mem_append_right _ (List.mem_append_right _ (List.mem_append_right _ (List.mem_append_right _ (List.mem_append_right _ (List.mem_append_right _ (List.mem_append_right _ (List.mem_append_right _ (List.mem_append_right _ (List.mem_append_right _ (List.mem_append_right _ (List.mem_append_right _ (List.mem_append_right _ (List.mem_append_right _ (List.mem_append_right _ (List.mem_append_right _ (List.mem_append_right _ (List.mem_append_right _ (List.mem_append_right _ (List.mem_append_right _ (List.mem_append_right _ (List.mem_append_right _ (List.mem_append_right _ (List.mem_append_right _ (List.mem_append_right _ (List.mem_append_right _ (List.mem_append_right _ (List.mem_append_right _ (List.mem_append_right _ (List.mem_append_right _ (List.mem_append_left _ (h)))))))))))))))))))))))))))))))))))))))))
theorem i_X7_turns_X5 : ∀ w ∈ wsX50, w ∈ wzX7_turns := fun _ h => List.mem_cons_of_mem _ (List.mem_append_right _ (List.mem_append_right _ (List.mem_append_right _ (List.mem_append_right _ (List.mem_append_right _ (List.mem_append_right _ (List.mem_append_right _ (List.mem_append_right _ (List.mem_append_right _ (List.mem_append_right _ (List.mem_append_right _ (List.mem_append_right _ (List.mem_append_right _ (List.mem_append_right _ (List.mem_append_right _ (List.mem_append_right _ (List.mem_append_right _ (List.mem_append_right _ (List.mem_append_right _ (List.mem_append_right _ (List.mem_append_right _ (List.mem_append_right _ (List.mem_append_right _ (List.mem_append_right _ (List.mem_append_right _ (List.mem_append_right _ (List.mem_append_right _ (List.mem_append_right _ (List.mem_append_right _ (List.mem_append_right _ (List.mem_append_right _ (List.mem_append_right _ (List.mem_append_right _ (List.mem_append_right _ (List.mem_append_right _ (List.mem_append_right _ (List.mem_append_right _ (List.mem_append_right _ (List.mem_append_right _ (List.mem_append_right _ (List.mem_append_right _ (List.mem_append_left _ (h)))))))))))))))))))))))))))))))))))))))))))
set_option maxHeartbeats 4000000 in
set_option maxRecDepth 100000 in
theorem j_X7_turns_2 {p : Program} {e : Env} {s : State} {m : MethodId} {args : Array Value} {below : List Frame} {meth : Method} {c : Code} {A : Nat → Prop} (l : Launch) (dC : Nat → ClassId) (dI : Nat → Nat → Nat) (Q : CQ) (N : Nat) (d : Nat) (E1 : CS → Option (Unit × CS)) (E2 : CS → Option (Int32 × CS)) (hE1 : cMF l dC dI Q d E1) (hE2 : cMO l dC dI Q d E2) (hm1 : ∀ σ, Mono (CS.hs σ) (E1 σ)) (hm2 : ∀ σ, Mono (CS.hs σ) (E2 σ)) (z9h : Nat) (R : Unit × CS) (hx : p.tables.exec = Jvm.exec) (hb : c.code = cX7_turns) (hr : meth.sig.returnType = none) (hml : c.maxLocals = 4) (hown : s.vm.findClass RX7 = some m.cls) (hts : ∀ w ∈ wzX7_turns, w.before args s = true) (hlocks : meth.locks = false) (hZ : zAMB s) (hA : ∀ q : Nat, s.heap.size ≤ q → A q) (hK : va_K (dC, dI) vwCl (cT Q) s) : ∀ (n9 : Nat), ∀ (σ : CS) (x1 : Int32) (x2 : Int32) (H : Heap) (locs : List Loc) (ls : Array Slot), f_X7_turns_2 N E1 E2 n9 σ x1 x2 = some R → z9h ≤ CS.hs σ → CP dC dI Q A s.heap σ H locs → lv_has ls 4 [(0, .ref (Q.o 3)), (1, .int x1), (2, .int x2)] → W p l e ({ frames := (21 + 40 * d), cells := CS.hs R.2 - z9h, slots := 17 * (CS.hs R.2 - z9h), locals := 60 * (21 + 40 * d) }) s m args below meth c H locs (CS.hs σ - z9h) (17 * (CS.hs σ - z9h)) (MQ below (va_Qv (fun (_ : Unit) => True) (fun (_ : Unit) (t : State) => zPost dC dI A (cW Q R.2) (cT Q) t ∧ t.heap.size = CS.hs R.2) A) args s (CS.hs R.2 - z9h) (17 * (CS.hs R.2 - z9h)) A) (F0 m 2 ls []) := by
  intro n9
  induction n9 with
  | zero => intro σ x1 x2 H locs ls hf; exact absurd hf (by intro q9; cases q9)
  | succ n9 ih =>
    intro σ x1 x2 H locs ls hf h0 hC hl
    replace hf : b_X7_turns_2 N E1 E2 (f_X7_turns_2 N E1 E2 n9) σ x1 x2 = some R := hf
    unfold b_X7_turns_2 at hf
    have hMK := fun (σ : CS) (x1 : Int32) (x2 : Int32) => m_X7_turns_2 N E1 E2 hm1 hm2 n9 σ x1 x2
    refine lv_iload_n hx hb dX7_turns_2 rfl (lv_at hl 2 rfl) ?_
    refine lv_sipush (v := 10000) hx hb dX7_turns_3 (by decide) ?_
    refine lv_icmp_ge (tgt := 164) hx hb dX7_turns_6 (by decide) (fun c1 => ?_) (fun c1 => ?_)
    ·
      replace hf := (if_pos c1).symm.trans hf
      have w9 : ¬ ((σ.i 32) = 0 ∧ ¬ (σ.i 53) ≤ x1) := fun z9 => by rw [if_pos z9] at hf; cases hf
      replace hf := (if_neg w9).symm.trans hf
      obtain rfl := Option.some.inj hf
      exact W.vret hx hb hr (fun t ht hW => ⟨⟨(), rfl, trivial, ⟨by rw [ht]; exact hC.1, va_K.moved hW.alike hK, hC.2.1⟩, by rw [ht]; exact hC.2.2.2⟩, hC.2.2.1.F ht⟩) hC.2.2.1.2.2 dX7_turns_164
    ·
      replace hf := (if_neg c1).symm.trans hf
      refine lv_aload_n hx hb dX7_turns_9 rfl (lv_at hl 0 rfl) ?_
      refine cG_32 (v := (σ.i 32)) hx hb hts i_X7_turns_X7 hown hK hC (hts (.fieldLink RX7 52 "StatementRules2$Statements" "faultNumber" "I") k_X7_turns_fieldLink_RX7_52_SR_Statements_faultNumber_I) (fun x9 q9 => u_same (hts (.sameField "StatementRules2$Statements" "StatementRules2$Formulas" "faultNumber" "I") k_X7_turns_sameField_SR_Statements_SR_Formulas_faultNumber_I) x9 q9) dX7_turns_10 rfl ?_
      refine lv_if_ne (tgt := 164) hx hb dX7_turns_13 (by decide) (fun c2 => ?_) (fun c2 => ?_)
      ·
        replace hf := (if_neg c2).symm.trans hf
        obtain rfl := Option.some.inj hf
        exact W.vret hx hb hr (fun t ht hW => ⟨⟨(), rfl, trivial, ⟨by rw [ht]; exact hC.1, va_K.moved hW.alike hK, hC.2.1⟩, by rw [ht]; exact hC.2.2.2⟩, hC.2.2.1.F ht⟩) hC.2.2.1.2.2 dX7_turns_164
      ·
        replace hf := (if_pos c2).symm.trans hf
        refine lv_aload_n hx hb dX7_turns_16 rfl (lv_at hl 0 rfl) ?_
        refine cG_35 hx hb hts i_X7_turns_X7 hown hK hC (hts (.fieldLink RX7 14 "StatementRules2$Statements" "opens" "LStatementRules2$Opens;") k_X7_turns_fieldLink_RX7_14_SR_Statements_opens_LSR_Opens) (fun _ q9 => q9) dX7_turns_17 ?_
        refine cGN_53 (v := (σ.i 53)) hx hb hts i_X7_turns_X6 hown hK hC (va_Nw.use rfl (hZ.1 (.fieldLinkNest RX7 92 "StatementRules2$Opens" "count" "I" "StatementRules2") (by decide +kernel))) (fun _ q9 => q9) dX7_turns_20 rfl ?_
        refine lv_iload_n hx hb dX7_turns_23 rfl (lv_at hl 1 rfl) ?_
        refine lv_icmp_le (tgt := 164) hx hb dX7_turns_24 (by decide) (fun c3 => ?_) (fun c3 => ?_)
        ·
          replace hf := (if_pos c3).symm.trans hf
          obtain rfl := Option.some.inj hf
          exact W.vret hx hb hr (fun t ht hW => ⟨⟨(), rfl, trivial, ⟨by rw [ht]; exact hC.1, va_K.moved hW.alike hK, hC.2.1⟩, by rw [ht]; exact hC.2.2.2⟩, hC.2.2.1.F ht⟩) hC.2.2.1.2.2 dX7_turns_164
        ·
          replace hf := (if_neg c3).symm.trans hf
          refine lv_aload_n hx hb dX7_turns_27 rfl (lv_at hl 0 rfl) ?_
          refine cG_35 hx hb hts i_X7_turns_X7 hown hK hC (hts (.fieldLink RX7 14 "StatementRules2$Statements" "opens" "LStatementRules2$Opens;") k_X7_turns_fieldLink_RX7_14_SR_Statements_opens_LSR_Opens) (fun _ q9 => q9) dX7_turns_28 ?_
          refine lv_aload_n hx hb dX7_turns_31 rfl (lv_at hl 0 rfl) ?_
          refine cG_35 hx hb hts i_X7_turns_X7 hown hK hC (hts (.fieldLink RX7 14 "StatementRules2$Statements" "opens" "LStatementRules2$Opens;") k_X7_turns_fieldLink_RX7_14_SR_Statements_opens_LSR_Opens) (fun _ q9 => q9) dX7_turns_32 ?_
          refine cGN_53 (v := (σ.i 53)) hx hb hts i_X7_turns_X6 hown hK hC (va_Nw.use rfl (hZ.1 (.fieldLinkNest RX7 92 "StatementRules2$Opens" "count" "I" "StatementRules2") (by decide +kernel))) (fun _ q9 => q9) dX7_turns_35 rfl ?_
          refine lv_iconst (v := 1) hx hb dX7_turns_38 (by decide) ?_
          refine lv_isub hx hb dX7_turns_39 ?_
          obtain ⟨p4, hcp4, hf⟩ := hf_bind hf
          have mo5 : CS.hs σ ≤ CS.hs p4.2 := Mono.go hcp4 (m_X6_row N σ ((σ.i 53) - 1))
          have hr9 : CS.hs p4.2 ≤ CS.hs R.2 := Mono.go hf (mono_oc (mono_some (Nat.le_refl _)) (fun a9 => (mono_ite (mono_bind (m_X5_hasOneBody N p4.2 a9) (fun p12 => (mono_ite (mono_ite (mono_ite (mono_bind (m_X1_found N p12.2 215) (fun p47 => (mono_ite (mono_ite (mono_ite (mono_bind (m_X7_beginFinally N p47.2 a9) (fun p82 => (hMK p82.2 x1 (x2 + 1)))) (mono_bind (m_X1_found N p47.2 125) (fun p54 => (mono_ite (mono_bind (m_X1_found N p54.2 0) (fun p63 => (mono_ite (mono_ite (mono_ite (mono_bind (m_X7_groupTurn N E1 E2 hm1 hm2 p63.2 a9) (fun p74 => (hMK p74.2 x1 (x2 + 1)))) (mono_bind (m_X7_statement N E1 E2 hm1 hm2 p63.2 0) (fun p70 => (hMK p70.2 x1 (x2 + 1))))) mono_none) (mono_bind (m_X7_endList N p63.2 a9) (fun p78 => (hMK p78.2 x1 (x2 + 1))))))) (mono_bind (m_X7_endList N p54.2 a9) (fun p59 => (hMK p59.2 x1 (x2 + 1)))))))) mono_none) (mono_bind (m_X7_beginCatch N p47.2 a9) (fun p86 => (hMK p86.2 x1 (x2 + 1))))))) (mono_bind (m_X1_found N p12.2 125) (fun p19 => (mono_ite (mono_bind (m_X1_found N p19.2 0) (fun p28 => (mono_ite (mono_ite (mono_ite (mono_bind (m_X7_groupTurn N E1 E2 hm1 hm2 p28.2 a9) (fun p39 => (hMK p39.2 x1 (x2 + 1)))) (mono_bind (m_X7_statement N E1 E2 hm1 hm2 p28.2 0) (fun p35 => (hMK p35.2 x1 (x2 + 1))))) mono_none) (mono_bind (m_X7_endList N p28.2 a9) (fun p43 => (hMK p43.2 x1 (x2 + 1))))))) (mono_bind (m_X7_endList N p19.2 a9) (fun p24 => (hMK p24.2 x1 (x2 + 1)))))))) mono_none) (mono_bind (m_X7_bodyTurn N E1 E2 hm1 hm2 p12.2 a9) (fun p90 => (hMK p90.2 x1 (x2 + 1))))))) mono_none)))
          have hFc := cFree hC hA
          refine va_callq (va_runV (As := [.int ((σ.i 53) - 1)]) (rest := []) ⟨hx, hb, hml, hown, hts⟩ (c_X6_row l dC dI Q N σ ((σ.i 53) - 1) p4 hcp4) (cwV 1 hts hX7_turns_X6_row_v93 rfl rfl rfl (by decide +kernel) ⟨(show 1 + 1 ≤ (21 + 40 * d) by omega), (show 8 + (2 + 11) + 60 * 1 ≤ 60 * (21 + 40 * d) by omega)⟩) ⟨zPre.blind, va_recv hK hC.1 (ci := 5) (q0 := 6) rfl rfl, cPre_go hZ hK hC⟩ rfl rfl hl.1 rfl (lv_room (Nat.le_of_ble_eq_true rfl)) dX7_turns_40 (cAcc h0 mo5 hr9)) hC.2.2.1 (fun q _ h => hFc q h) hFc (fun r6 u9 t9 H1 locs ht hvm hw hB hz1 hk1 hS => ?_)
          obtain ⟨⟨hP, hK1, hD1⟩, hsz1⟩ := hB
          rw [ht] at hP hsz1
          have hC : CP dC dI Q A s.heap p4.2 H1 locs := ⟨hP, hD1.weaken (fun _ _ _ h => hFc _ h), hS, hsz1⟩
          generalize H1 = H at hC ⊢
          have h7 : z9h ≤ CS.hs p4.2 := Nat.le_trans h0 mo5
          refine W.widen (k := CS.hs p4.2 - z9h) (n := 17 * (CS.hs p4.2 - z9h)) (cAcc2 h0 mo5) (cAcc3 h0 mo5) ?_
          obtain rfl : r6 = p4.1 := hw
          rcases hf_oc hf with ⟨q8, hf⟩ | ⟨a9, q8, hf⟩
          ·
            refine W.eq (congrArg (fun v9 => F0 m 43 ls (va_rf v9 :: [])) q8) ?_
            refine W.eq (g2 := F0 m 43 ls (.null :: [])) rfl ?_
            refine lv_astore_nN (lv' := [(3, .null), (0, .ref (Q.o 3)), (1, .int x1), (2, .int x2)]) hx hb dX7_turns_43 rfl hl (by decide) rfl (fun ls hl => ?_)
            refine lv_aload_nN hx hb dX7_turns_44 rfl (lv_at hl 0 rfl) ?_
            refine lv_ifnonnullN hx hb dX7_turns_45 ?_
            obtain rfl := Option.some.inj hf
            exact W.vret hx hb hr (fun t ht hW => ⟨⟨(), rfl, trivial, ⟨by rw [ht]; exact hC.1, va_K.moved hW.alike hK, hC.2.1⟩, by rw [ht]; exact hC.2.2.2⟩, hC.2.2.1.F ht⟩) hC.2.2.1.2.2 dX7_turns_48
          ·
            refine W.eq (congrArg (fun v9 => F0 m 43 ls (va_rf v9 :: [])) q8) ?_
            refine W.eq (g2 := F0 m 43 ls (.ref a9 :: [])) rfl ?_
            refine lv_astore_n (lv' := [(3, .ref a9), (0, .ref (Q.o 3)), (1, .int x1), (2, .int x2)]) hx hb dX7_turns_43 rfl hl (by decide) rfl (fun ls hl => ?_)
            refine lv_aload_n hx hb dX7_turns_44 rfl (lv_at hl 0 rfl) ?_
            refine lv_ifnonnull (tgt := 49) hx hb dX7_turns_45 (by decide) ?_
            refine lv_aload_n hx hb dX7_turns_49 rfl (lv_at hl 0 rfl) ?_
            obtain ⟨b10, hf⟩ := hf_ite hf
            obtain ⟨k11, hk11⟩ := cPl (Q := Q) (s := p4.2) (a := a9) b10.1
            rw [cE0 (show CS.k p4.2 a9 = 0 from b10.2)] at hk11
            obtain ⟨p12, hcp12, hf⟩ := hf_bind hf
            have mo13 : CS.hs p4.2 ≤ CS.hs p12.2 := Mono.go hcp12 (m_X5_hasOneBody N p4.2 a9)
            have hr9 : CS.hs p12.2 ≤ CS.hs R.2 := Mono.go hf (mono_ite (mono_ite (mono_ite (mono_bind (m_X1_found N p12.2 215) (fun p47 => (mono_ite (mono_ite (mono_ite (mono_bind (m_X7_beginFinally N p47.2 a9) (fun p82 => (hMK p82.2 x1 (x2 + 1)))) (mono_bind (m_X1_found N p47.2 125) (fun p54 => (mono_ite (mono_bind (m_X1_found N p54.2 0) (fun p63 => (mono_ite (mono_ite (mono_ite (mono_bind (m_X7_groupTurn N E1 E2 hm1 hm2 p63.2 a9) (fun p74 => (hMK p74.2 x1 (x2 + 1)))) (mono_bind (m_X7_statement N E1 E2 hm1 hm2 p63.2 0) (fun p70 => (hMK p70.2 x1 (x2 + 1))))) mono_none) (mono_bind (m_X7_endList N p63.2 a9) (fun p78 => (hMK p78.2 x1 (x2 + 1))))))) (mono_bind (m_X7_endList N p54.2 a9) (fun p59 => (hMK p59.2 x1 (x2 + 1)))))))) mono_none) (mono_bind (m_X7_beginCatch N p47.2 a9) (fun p86 => (hMK p86.2 x1 (x2 + 1))))))) (mono_bind (m_X1_found N p12.2 125) (fun p19 => (mono_ite (mono_bind (m_X1_found N p19.2 0) (fun p28 => (mono_ite (mono_ite (mono_ite (mono_bind (m_X7_groupTurn N E1 E2 hm1 hm2 p28.2 a9) (fun p39 => (hMK p39.2 x1 (x2 + 1)))) (mono_bind (m_X7_statement N E1 E2 hm1 hm2 p28.2 0) (fun p35 => (hMK p35.2 x1 (x2 + 1))))) mono_none) (mono_bind (m_X7_endList N p28.2 a9) (fun p43 => (hMK p43.2 x1 (x2 + 1))))))) (mono_bind (m_X7_endList N p19.2 a9) (fun p24 => (hMK p24.2 x1 (x2 + 1)))))))) mono_none) (mono_bind (m_X7_bodyTurn N E1 E2 hm1 hm2 p12.2 a9) (fun p90 => (hMK p90.2 x1 (x2 + 1)))))
            have hFc := cFree hC hA
            refine va_calli (va_runV (As := []) (rest := []) ⟨hx, hb, hml, hown, hts⟩ (c_X5_hasOneBody l dC dI Q N p4.2 a9 p12 hcp12) (cwV 0 hts hX7_turns_X5_hasOneBody_v97 rfl rfl rfl (by decide +kernel) ⟨(show 2 + 1 ≤ (21 + 40 * d) by omega), (show 8 + (1 + 11) + 60 * 2 ≤ 60 * (21 + 40 * d) by omega)⟩) ⟨zPre.blind, va_recv hK hC.1 (ci := 4) (q0 := k11) rfl hk11, cPre_go hZ hK hC⟩ rfl rfl hl.1 rfl (lv_room (Nat.le_of_ble_eq_true rfl)) dX7_turns_50 (cAcc h7 mo13 hr9)) hC.2.2.1 (fun q _ h => hFc q h) hFc (fun r14 u9 t9 H1 locs ht hvm hw hB hz1 hk1 hS => ?_)
            obtain ⟨⟨hP, hK1, hD1⟩, hsz1⟩ := hB
            rw [ht] at hP hsz1
            have hC : CP dC dI Q A s.heap p12.2 H1 locs := ⟨hP, hD1.weaken (fun _ _ _ h => hFc _ h), hS, hsz1⟩
            generalize H1 = H at hC ⊢
            have h15 : z9h ≤ CS.hs p12.2 := Nat.le_trans h7 mo13
            refine W.widen (k := CS.hs p12.2 - z9h) (n := 17 * (CS.hs p12.2 - z9h)) (cAcc2 h7 mo13) (cAcc3 h7 mo13) ?_
            obtain rfl : r14 = p12.1 := hw
            refine lv_if_eq (tgt := 64) hx hb dX7_turns_53 (by decide) (fun c16 => ?_) (fun c16 => ?_)
            ·
              replace hf := (if_pos c16).symm.trans hf
              refine lv_aload_n hx hb dX7_turns_64 rfl (lv_at hl 0 rfl) ?_
              obtain ⟨b17, hf⟩ := hf_ite hf
              refine pGN_X5_0 (v := (CS.o p12.2 a9 0)) hx hb hts i_X7_turns_X5 hown hK hC (va_Nw.use rfl (hZ.1 (.fieldLinkNest RX7 107 "StatementRules2$Open" "sort" "I" "StatementRules2") (by decide +kernel))) (fun _ q9 => q9) dX7_turns_65 b17 rfl ?_
              refine lv_sipush (v := 305) hx hb dX7_turns_68 (by decide) ?_
              refine lv_icmp_ne (tgt := 92) hx hb dX7_turns_71 (by decide) (fun c18 => ?_) (fun c18 => ?_)
              ·
                replace hf := (if_neg c18).symm.trans hf
                refine lv_aload_n hx hb dX7_turns_92 rfl (lv_at hl 0 rfl) ?_
                refine pGN_X5_0 (v := (CS.o p12.2 a9 0)) hx hb hts i_X7_turns_X5 hown hK hC (va_Nw.use rfl (hZ.1 (.fieldLinkNest RX7 107 "StatementRules2$Open" "sort" "I" "StatementRules2") (by decide +kernel))) (fun _ q9 => q9) dX7_turns_93 b17 rfl ?_
                refine lv_sipush (v := 305) hx hb dX7_turns_96 (by decide) ?_
                refine lv_icmp_ne (tgt := 110) hx hb dX7_turns_99 (by decide) (fun _ => ?_) (fun c9 => absurd c9 c18)
                refine lv_aload_n hx hb dX7_turns_110 rfl (lv_at hl 1 rfl) ?_
                refine lv_bipush (v := 125) hx hb dX7_turns_111 (by decide) ?_
                obtain ⟨p19, hcp19, hf⟩ := hf_bind hf
                have mo20 : CS.hs p12.2 ≤ CS.hs p19.2 := Mono.go hcp19 (m_X1_found N p12.2 125)
                have hr9 : CS.hs p19.2 ≤ CS.hs R.2 := Mono.go hf (mono_ite (mono_bind (m_X1_found N p19.2 0) (fun p28 => (mono_ite (mono_ite (mono_ite (mono_bind (m_X7_groupTurn N E1 E2 hm1 hm2 p28.2 a9) (fun p39 => (hMK p39.2 x1 (x2 + 1)))) (mono_bind (m_X7_statement N E1 E2 hm1 hm2 p28.2 0) (fun p35 => (hMK p35.2 x1 (x2 + 1))))) mono_none) (mono_bind (m_X7_endList N p28.2 a9) (fun p43 => (hMK p43.2 x1 (x2 + 1))))))) (mono_bind (m_X7_endList N p19.2 a9) (fun p24 => (hMK p24.2 x1 (x2 + 1)))))
                have hFc := cFree hC hA
                refine va_calli (va_runU (As := [.int 125]) (rest := []) ⟨hx, hb, hml, hown, hts⟩ (c_X1_found l dC dI Q N p12.2 125 p19 hcp19) (va_cwU 1 hts hX7_turns_X1_found_u110 rfl rfl rfl rfl (by decide +kernel) ⟨(show 1 + 1 ≤ (21 + 40 * d) by omega), (show 8 + (2 + 11) + 60 * 1 ≤ 60 * (21 + 40 * d) by omega)⟩) ⟨zPre.blind, va_recv hK hC.1 (ci := 6) (q0 := 3) rfl rfl, cPre_go hZ hK hC⟩ rfl rfl hl.1 rfl (lv_room (Nat.le_of_ble_eq_true rfl)) dX7_turns_113 (cAcc h15 mo20 hr9)) hC.2.2.1 (fun q _ h => hFc q h) hFc (fun r21 u9 t9 H1 locs ht hvm hw hB hz1 hk1 hS => ?_)
                obtain ⟨⟨hP, hK1, hD1⟩, hsz1⟩ := hB
                rw [ht] at hP hsz1
                have hC : CP dC dI Q A s.heap p19.2 H1 locs := ⟨hP, hD1.weaken (fun _ _ _ h => hFc _ h), hS, hsz1⟩
                generalize H1 = H at hC ⊢
                have h22 : z9h ≤ CS.hs p19.2 := Nat.le_trans h15 mo20
                refine W.widen (k := CS.hs p19.2 - z9h) (n := 17 * (CS.hs p19.2 - z9h)) (cAcc2 h15 mo20) (cAcc3 h15 mo20) ?_
                obtain rfl : r21 = p19.1 := hw
                refine lv_if_ne (tgt := 127) hx hb dX7_turns_116 (by decide) (fun c23 => ?_) (fun c23 => ?_)
                ·
                  replace hf := (if_neg c23).symm.trans hf
                  refine lv_aload_n hx hb dX7_turns_127 rfl (lv_at hl 1 rfl) ?_
                  refine lv_aload_n hx hb dX7_turns_128 rfl (lv_at hl 0 rfl) ?_
                  obtain ⟨p24, hcp24, hf⟩ := hf_bind hf
                  have mo25 : CS.hs p19.2 ≤ CS.hs p24.2 := Mono.go hcp24 (m_X7_endList N p19.2 a9)
                  have hr9 : CS.hs p24.2 ≤ CS.hs R.2 := Mono.go hf (hMK p24.2 x1 (x2 + 1))
                  have hFc := cFree hC hA
                  refine va_callv (va_runV (As := [.ref a9]) (rest := []) ⟨hx, hb, hml, hown, hts⟩ (c_X7_endList l dC dI Q N p19.2 a9 p24 hcp24) (cwV 1 hts hX7_turns_X7_endList_v120 rfl rfl rfl (by decide +kernel) ⟨(show 5 + 1 ≤ (21 + 40 * d) by omega), (show 8 + (2 + 11) + 60 * 5 ≤ 60 * (21 + 40 * d) by omega)⟩) ⟨zPre.blind, va_recv hK hC.1 (ci := 6) (q0 := 3) rfl rfl, cPre_go hZ hK hC⟩ rfl rfl hl.1 rfl (lv_room (Nat.le_of_ble_eq_true rfl)) dX7_turns_129 (cAcc h22 mo25 hr9)) hC.2.2.1 (fun q _ h => hFc q h) hFc (fun u9 t9 H1 locs ht hvm hw hB hz1 hk1 hS => ?_)
                  obtain ⟨⟨hP, hK1, hD1⟩, hsz1⟩ := hB
                  rw [ht] at hP hsz1
                  have hC : CP dC dI Q A s.heap p24.2 H1 locs := ⟨hP, hD1.weaken (fun _ _ _ h => hFc _ h), hS, hsz1⟩
                  generalize H1 = H at hC ⊢
                  have h27 : z9h ≤ CS.hs p24.2 := Nat.le_trans h22 mo25
                  refine W.widen (k := CS.hs p24.2 - z9h) (n := 17 * (CS.hs p24.2 - z9h)) (cAcc2 h22 mo25) (cAcc3 h22 mo25) ?_
                  refine lv_goto (tgt := 158) hx hb dX7_turns_132 (by decide) ?_
                  refine lv_iinc (v := (x2 + 1)) (lv' := [(2, .int (x2 + 1)), (3, .ref a9), (0, .ref (Q.o 3)), (1, .int x1)]) hx hb dX7_turns_158 hl (k := 3) rfl rfl (by decide) rfl (fun ls hl => ?_)
                  refine lv_goto (tgt := 2) hx hb dX7_turns_161 (by decide) ?_
                  exact ih p24.2 x1 (x2 + 1) _ _ _ hf h27 hC (lv_sub hl [2, 3, 0] rfl)
                ·
                  replace hf := (if_pos c23).symm.trans hf
                  refine lv_aload_n hx hb dX7_turns_119 rfl (lv_at hl 1 rfl) ?_
                  refine lv_iconst (v := 0) hx hb dX7_turns_120 (by decide) ?_
                  obtain ⟨p28, hcp28, hf⟩ := hf_bind hf
                  have mo29 : CS.hs p19.2 ≤ CS.hs p28.2 := Mono.go hcp28 (m_X1_found N p19.2 0)
                  have hr9 : CS.hs p28.2 ≤ CS.hs R.2 := Mono.go hf (mono_ite (mono_ite (mono_ite (mono_bind (m_X7_groupTurn N E1 E2 hm1 hm2 p28.2 a9) (fun p39 => (hMK p39.2 x1 (x2 + 1)))) (mono_bind (m_X7_statement N E1 E2 hm1 hm2 p28.2 0) (fun p35 => (hMK p35.2 x1 (x2 + 1))))) mono_none) (mono_bind (m_X7_endList N p28.2 a9) (fun p43 => (hMK p43.2 x1 (x2 + 1)))))
                  have hFc := cFree hC hA
                  refine va_calli (va_runU (As := [.int 0]) (rest := []) ⟨hx, hb, hml, hown, hts⟩ (c_X1_found l dC dI Q N p19.2 0 p28 hcp28) (va_cwU 1 hts hX7_turns_X1_found_u110 rfl rfl rfl rfl (by decide +kernel) ⟨(show 1 + 1 ≤ (21 + 40 * d) by omega), (show 8 + (2 + 11) + 60 * 1 ≤ 60 * (21 + 40 * d) by omega)⟩) ⟨zPre.blind, va_recv hK hC.1 (ci := 6) (q0 := 3) rfl rfl, cPre_go hZ hK hC⟩ rfl rfl hl.1 rfl (lv_room (Nat.le_of_ble_eq_true rfl)) dX7_turns_121 (cAcc h22 mo29 hr9)) hC.2.2.1 (fun q _ h => hFc q h) hFc (fun r30 u9 t9 H1 locs ht hvm hw hB hz1 hk1 hS => ?_)
                  obtain ⟨⟨hP, hK1, hD1⟩, hsz1⟩ := hB
                  rw [ht] at hP hsz1
                  have hC : CP dC dI Q A s.heap p28.2 H1 locs := ⟨hP, hD1.weaken (fun _ _ _ h => hFc _ h), hS, hsz1⟩
                  generalize H1 = H at hC ⊢
                  have h31 : z9h ≤ CS.hs p28.2 := Nat.le_trans h22 mo29
                  refine W.widen (k := CS.hs p28.2 - z9h) (n := 17 * (CS.hs p28.2 - z9h)) (cAcc2 h22 mo29) (cAcc3 h22 mo29) ?_
                  obtain rfl : r30 = p28.1 := hw
                  refine lv_if_eq (tgt := 135) hx hb dX7_turns_124 (by decide) (fun c32 => ?_) (fun c32 => ?_)
                  ·
                    replace hf := (if_pos c32).symm.trans hf
                    refine lv_aload_n hx hb dX7_turns_135 rfl (lv_at hl 0 rfl) ?_
                    obtain ⟨b33, hf⟩ := hf_ite hf
                    refine pGN_X5_0 (v := (CS.o p28.2 a9 0)) hx hb hts i_X7_turns_X5 hown hK hC (va_Nw.use rfl (hZ.1 (.fieldLinkNest RX7 107 "StatementRules2$Open" "sort" "I" "StatementRules2") (by decide +kernel))) (fun _ q9 => q9) dX7_turns_136 b33 rfl ?_
                    refine lv_sipush (v := 218) hx hb dX7_turns_139 (by decide) ?_
                    refine lv_icmp_ne (tgt := 153) hx hb dX7_turns_142 (by decide) (fun c34 => ?_) (fun c34 => ?_)
                    ·
                      replace hf := (if_neg c34).symm.trans hf
                      refine lv_aload_n hx hb dX7_turns_153 rfl (lv_at hl 1 rfl) ?_
                      refine lv_iconst (v := 0) hx hb dX7_turns_154 (by decide) ?_
                      obtain ⟨p35, hcp35, hf⟩ := hf_bind hf
                      have mo36 : CS.hs p28.2 ≤ CS.hs p35.2 := Mono.go hcp35 (m_X7_statement N E1 E2 hm1 hm2 p28.2 0)
                      have hr9 : CS.hs p35.2 ≤ CS.hs R.2 := Mono.go hf (hMK p35.2 x1 (x2 + 1))
                      have hFc := cFree hC hA
                      refine va_callv (va_runV (As := [.int 0]) (rest := []) ⟨hx, hb, hml, hown, hts⟩ (c_X7_statement l dC dI Q N d E1 E2 hE1 hE2 hm1 hm2 p28.2 0 p35 hcp35) (cwV 1 hts hX7_turns_X7_statement_v126 rfl rfl rfl (by decide +kernel) ⟨(show (19 + 40 * d) + 1 ≤ (21 + 40 * d) by omega), (show 8 + (2 + 11) + 60 * (19 + 40 * d) ≤ 60 * (21 + 40 * d) by omega)⟩) ⟨zPre.blind, va_recv hK hC.1 (ci := 6) (q0 := 3) rfl rfl, cPre_go hZ hK hC⟩ rfl rfl hl.1 rfl (lv_room (Nat.le_of_ble_eq_true rfl)) dX7_turns_155 (cAcc h31 mo36 hr9)) hC.2.2.1 (fun q _ h => hFc q h) hFc (fun u9 t9 H1 locs ht hvm hw hB hz1 hk1 hS => ?_)
                      obtain ⟨⟨hP, hK1, hD1⟩, hsz1⟩ := hB
                      rw [ht] at hP hsz1
                      have hC : CP dC dI Q A s.heap p35.2 H1 locs := ⟨hP, hD1.weaken (fun _ _ _ h => hFc _ h), hS, hsz1⟩
                      generalize H1 = H at hC ⊢
                      have h38 : z9h ≤ CS.hs p35.2 := Nat.le_trans h31 mo36
                      refine W.widen (k := CS.hs p35.2 - z9h) (n := 17 * (CS.hs p35.2 - z9h)) (cAcc2 h31 mo36) (cAcc3 h31 mo36) ?_
                      refine lv_iinc (v := (x2 + 1)) (lv' := [(2, .int (x2 + 1)), (3, .ref a9), (0, .ref (Q.o 3)), (1, .int x1)]) hx hb dX7_turns_158 hl (k := 3) rfl rfl (by decide) rfl (fun ls hl => ?_)
                      refine lv_goto (tgt := 2) hx hb dX7_turns_161 (by decide) ?_
                      exact ih p35.2 x1 (x2 + 1) _ _ _ hf h38 hC (lv_sub hl [2, 3, 0] rfl)
                    ·
                      replace hf := (if_pos c34).symm.trans hf
                      refine lv_aload_n hx hb dX7_turns_145 rfl (lv_at hl 1 rfl) ?_
                      refine lv_aload_n hx hb dX7_turns_146 rfl (lv_at hl 0 rfl) ?_
                      obtain ⟨p39, hcp39, hf⟩ := hf_bind hf
                      have mo40 : CS.hs p28.2 ≤ CS.hs p39.2 := Mono.go hcp39 (m_X7_groupTurn N E1 E2 hm1 hm2 p28.2 a9)
                      have hr9 : CS.hs p39.2 ≤ CS.hs R.2 := Mono.go hf (hMK p39.2 x1 (x2 + 1))
                      have hFc := cFree hC hA
                      refine va_callv (va_runV (As := [.ref a9]) (rest := []) ⟨hx, hb, hml, hown, hts⟩ (c_X7_groupTurn l dC dI Q N d E1 E2 hE1 hE2 hm1 hm2 p28.2 a9 p39 hcp39) (cwV 1 hts hX7_turns_X7_groupTurn_v123 rfl rfl rfl (by decide +kernel) ⟨(show (20 + 40 * d) + 1 ≤ (21 + 40 * d) by omega), (show 8 + (4 + 11) + 60 * (20 + 40 * d) ≤ 60 * (21 + 40 * d) by omega)⟩) ⟨zPre.blind, va_recv hK hC.1 (ci := 6) (q0 := 3) rfl rfl, cPre_go hZ hK hC⟩ rfl rfl hl.1 rfl (lv_room (Nat.le_of_ble_eq_true rfl)) dX7_turns_147 (cAcc h31 mo40 hr9)) hC.2.2.1 (fun q _ h => hFc q h) hFc (fun u9 t9 H1 locs ht hvm hw hB hz1 hk1 hS => ?_)
                      obtain ⟨⟨hP, hK1, hD1⟩, hsz1⟩ := hB
                      rw [ht] at hP hsz1
                      have hC : CP dC dI Q A s.heap p39.2 H1 locs := ⟨hP, hD1.weaken (fun _ _ _ h => hFc _ h), hS, hsz1⟩
                      generalize H1 = H at hC ⊢
                      have h42 : z9h ≤ CS.hs p39.2 := Nat.le_trans h31 mo40
                      refine W.widen (k := CS.hs p39.2 - z9h) (n := 17 * (CS.hs p39.2 - z9h)) (cAcc2 h31 mo40) (cAcc3 h31 mo40) ?_
                      refine lv_goto (tgt := 158) hx hb dX7_turns_150 (by decide) ?_
                      refine lv_iinc (v := (x2 + 1)) (lv' := [(2, .int (x2 + 1)), (3, .ref a9), (0, .ref (Q.o 3)), (1, .int x1)]) hx hb dX7_turns_158 hl (k := 3) rfl rfl (by decide) rfl (fun ls hl => ?_)
                      refine lv_goto (tgt := 2) hx hb dX7_turns_161 (by decide) ?_
                      exact ih p39.2 x1 (x2 + 1) _ _ _ hf h42 hC (lv_sub hl [2, 3, 0] rfl)
                  ·
                    replace hf := (if_neg c32).symm.trans hf
                    refine lv_aload_n hx hb dX7_turns_127 rfl (lv_at hl 1 rfl) ?_
                    refine lv_aload_n hx hb dX7_turns_128 rfl (lv_at hl 0 rfl) ?_
                    obtain ⟨p43, hcp43, hf⟩ := hf_bind hf
                    have mo44 : CS.hs p28.2 ≤ CS.hs p43.2 := Mono.go hcp43 (m_X7_endList N p28.2 a9)
                    have hr9 : CS.hs p43.2 ≤ CS.hs R.2 := Mono.go hf (hMK p43.2 x1 (x2 + 1))
                    have hFc := cFree hC hA
                    refine va_callv (va_runV (As := [.ref a9]) (rest := []) ⟨hx, hb, hml, hown, hts⟩ (c_X7_endList l dC dI Q N p28.2 a9 p43 hcp43) (cwV 1 hts hX7_turns_X7_endList_v120 rfl rfl rfl (by decide +kernel) ⟨(show 5 + 1 ≤ (21 + 40 * d) by omega), (show 8 + (2 + 11) + 60 * 5 ≤ 60 * (21 + 40 * d) by omega)⟩) ⟨zPre.blind, va_recv hK hC.1 (ci := 6) (q0 := 3) rfl rfl, cPre_go hZ hK hC⟩ rfl rfl hl.1 rfl (lv_room (Nat.le_of_ble_eq_true rfl)) dX7_turns_129 (cAcc h31 mo44 hr9)) hC.2.2.1 (fun q _ h => hFc q h) hFc (fun u9 t9 H1 locs ht hvm hw hB hz1 hk1 hS => ?_)
                    obtain ⟨⟨hP, hK1, hD1⟩, hsz1⟩ := hB
                    rw [ht] at hP hsz1
                    have hC : CP dC dI Q A s.heap p43.2 H1 locs := ⟨hP, hD1.weaken (fun _ _ _ h => hFc _ h), hS, hsz1⟩
                    generalize H1 = H at hC ⊢
                    have h46 : z9h ≤ CS.hs p43.2 := Nat.le_trans h31 mo44
                    refine W.widen (k := CS.hs p43.2 - z9h) (n := 17 * (CS.hs p43.2 - z9h)) (cAcc2 h31 mo44) (cAcc3 h31 mo44) ?_
                    refine lv_goto (tgt := 158) hx hb dX7_turns_132 (by decide) ?_
                    refine lv_iinc (v := (x2 + 1)) (lv' := [(2, .int (x2 + 1)), (3, .ref a9), (0, .ref (Q.o 3)), (1, .int x1)]) hx hb dX7_turns_158 hl (k := 3) rfl rfl (by decide) rfl (fun ls hl => ?_)
                    refine lv_goto (tgt := 2) hx hb dX7_turns_161 (by decide) ?_
                    exact ih p43.2 x1 (x2 + 1) _ _ _ hf h46 hC (lv_sub hl [2, 3, 0] rfl)
              ·
                replace hf := (if_pos c18).symm.trans hf
                refine lv_aload_n hx hb dX7_turns_74 rfl (lv_at hl 1 rfl) ?_
                refine lv_sipush (v := 215) hx hb dX7_turns_75 (by decide) ?_
                obtain ⟨p47, hcp47, hf⟩ := hf_bind hf
                have mo48 : CS.hs p12.2 ≤ CS.hs p47.2 := Mono.go hcp47 (m_X1_found N p12.2 215)
                have hr9 : CS.hs p47.2 ≤ CS.hs R.2 := Mono.go hf (mono_ite (mono_ite (mono_ite (mono_bind (m_X7_beginFinally N p47.2 a9) (fun p82 => (hMK p82.2 x1 (x2 + 1)))) (mono_bind (m_X1_found N p47.2 125) (fun p54 => (mono_ite (mono_bind (m_X1_found N p54.2 0) (fun p63 => (mono_ite (mono_ite (mono_ite (mono_bind (m_X7_groupTurn N E1 E2 hm1 hm2 p63.2 a9) (fun p74 => (hMK p74.2 x1 (x2 + 1)))) (mono_bind (m_X7_statement N E1 E2 hm1 hm2 p63.2 0) (fun p70 => (hMK p70.2 x1 (x2 + 1))))) mono_none) (mono_bind (m_X7_endList N p63.2 a9) (fun p78 => (hMK p78.2 x1 (x2 + 1))))))) (mono_bind (m_X7_endList N p54.2 a9) (fun p59 => (hMK p59.2 x1 (x2 + 1)))))))) mono_none) (mono_bind (m_X7_beginCatch N p47.2 a9) (fun p86 => (hMK p86.2 x1 (x2 + 1)))))
                have hFc := cFree hC hA
                refine va_calli (va_runU (As := [.int 215]) (rest := []) ⟨hx, hb, hml, hown, hts⟩ (c_X1_found l dC dI Q N p12.2 215 p47 hcp47) (va_cwU 1 hts hX7_turns_X1_found_u110 rfl rfl rfl rfl (by decide +kernel) ⟨(show 1 + 1 ≤ (21 + 40 * d) by omega), (show 8 + (2 + 11) + 60 * 1 ≤ 60 * (21 + 40 * d) by omega)⟩) ⟨zPre.blind, va_recv hK hC.1 (ci := 6) (q0 := 3) rfl rfl, cPre_go hZ hK hC⟩ rfl rfl hl.1 rfl (lv_room (Nat.le_of_ble_eq_true rfl)) dX7_turns_78 (cAcc h15 mo48 hr9)) hC.2.2.1 (fun q _ h => hFc q h) hFc (fun r49 u9 t9 H1 locs ht hvm hw hB hz1 hk1 hS => ?_)
                obtain ⟨⟨hP, hK1, hD1⟩, hsz1⟩ := hB
                rw [ht] at hP hsz1
                have hC : CP dC dI Q A s.heap p47.2 H1 locs := ⟨hP, hD1.weaken (fun _ _ _ h => hFc _ h), hS, hsz1⟩
                generalize H1 = H at hC ⊢
                have h50 : z9h ≤ CS.hs p47.2 := Nat.le_trans h15 mo48
                refine W.widen (k := CS.hs p47.2 - z9h) (n := 17 * (CS.hs p47.2 - z9h)) (cAcc2 h15 mo48) (cAcc3 h15 mo48) ?_
                obtain rfl : r49 = p47.1 := hw
                refine lv_if_eq (tgt := 92) hx hb dX7_turns_81 (by decide) (fun c51 => ?_) (fun c51 => ?_)
                ·
                  replace hf := (if_pos c51).symm.trans hf
                  refine lv_aload_n hx hb dX7_turns_92 rfl (lv_at hl 0 rfl) ?_
                  obtain ⟨b52, hf⟩ := hf_ite hf
                  refine pGN_X5_0 (v := (CS.o p47.2 a9 0)) hx hb hts i_X7_turns_X5 hown hK hC (va_Nw.use rfl (hZ.1 (.fieldLinkNest RX7 107 "StatementRules2$Open" "sort" "I" "StatementRules2") (by decide +kernel))) (fun _ q9 => q9) dX7_turns_93 b52 rfl ?_
                  refine lv_sipush (v := 305) hx hb dX7_turns_96 (by decide) ?_
                  refine lv_icmp_ne (tgt := 110) hx hb dX7_turns_99 (by decide) (fun c53 => ?_) (fun c53 => ?_)
                  ·
                    replace hf := (if_neg c53).symm.trans hf
                    refine lv_aload_n hx hb dX7_turns_110 rfl (lv_at hl 1 rfl) ?_
                    refine lv_bipush (v := 125) hx hb dX7_turns_111 (by decide) ?_
                    obtain ⟨p54, hcp54, hf⟩ := hf_bind hf
                    have mo55 : CS.hs p47.2 ≤ CS.hs p54.2 := Mono.go hcp54 (m_X1_found N p47.2 125)
                    have hr9 : CS.hs p54.2 ≤ CS.hs R.2 := Mono.go hf (mono_ite (mono_bind (m_X1_found N p54.2 0) (fun p63 => (mono_ite (mono_ite (mono_ite (mono_bind (m_X7_groupTurn N E1 E2 hm1 hm2 p63.2 a9) (fun p74 => (hMK p74.2 x1 (x2 + 1)))) (mono_bind (m_X7_statement N E1 E2 hm1 hm2 p63.2 0) (fun p70 => (hMK p70.2 x1 (x2 + 1))))) mono_none) (mono_bind (m_X7_endList N p63.2 a9) (fun p78 => (hMK p78.2 x1 (x2 + 1))))))) (mono_bind (m_X7_endList N p54.2 a9) (fun p59 => (hMK p59.2 x1 (x2 + 1)))))
                    have hFc := cFree hC hA
                    refine va_calli (va_runU (As := [.int 125]) (rest := []) ⟨hx, hb, hml, hown, hts⟩ (c_X1_found l dC dI Q N p47.2 125 p54 hcp54) (va_cwU 1 hts hX7_turns_X1_found_u110 rfl rfl rfl rfl (by decide +kernel) ⟨(show 1 + 1 ≤ (21 + 40 * d) by omega), (show 8 + (2 + 11) + 60 * 1 ≤ 60 * (21 + 40 * d) by omega)⟩) ⟨zPre.blind, va_recv hK hC.1 (ci := 6) (q0 := 3) rfl rfl, cPre_go hZ hK hC⟩ rfl rfl hl.1 rfl (lv_room (Nat.le_of_ble_eq_true rfl)) dX7_turns_113 (cAcc h50 mo55 hr9)) hC.2.2.1 (fun q _ h => hFc q h) hFc (fun r56 u9 t9 H1 locs ht hvm hw hB hz1 hk1 hS => ?_)
                    obtain ⟨⟨hP, hK1, hD1⟩, hsz1⟩ := hB
                    rw [ht] at hP hsz1
                    have hC : CP dC dI Q A s.heap p54.2 H1 locs := ⟨hP, hD1.weaken (fun _ _ _ h => hFc _ h), hS, hsz1⟩
                    generalize H1 = H at hC ⊢
                    have h57 : z9h ≤ CS.hs p54.2 := Nat.le_trans h50 mo55
                    refine W.widen (k := CS.hs p54.2 - z9h) (n := 17 * (CS.hs p54.2 - z9h)) (cAcc2 h50 mo55) (cAcc3 h50 mo55) ?_
                    obtain rfl : r56 = p54.1 := hw
                    refine lv_if_ne (tgt := 127) hx hb dX7_turns_116 (by decide) (fun c58 => ?_) (fun c58 => ?_)
                    ·
                      replace hf := (if_neg c58).symm.trans hf
                      refine lv_aload_n hx hb dX7_turns_127 rfl (lv_at hl 1 rfl) ?_
                      refine lv_aload_n hx hb dX7_turns_128 rfl (lv_at hl 0 rfl) ?_
                      obtain ⟨p59, hcp59, hf⟩ := hf_bind hf
                      have mo60 : CS.hs p54.2 ≤ CS.hs p59.2 := Mono.go hcp59 (m_X7_endList N p54.2 a9)
                      have hr9 : CS.hs p59.2 ≤ CS.hs R.2 := Mono.go hf (hMK p59.2 x1 (x2 + 1))
                      have hFc := cFree hC hA
                      refine va_callv (va_runV (As := [.ref a9]) (rest := []) ⟨hx, hb, hml, hown, hts⟩ (c_X7_endList l dC dI Q N p54.2 a9 p59 hcp59) (cwV 1 hts hX7_turns_X7_endList_v120 rfl rfl rfl (by decide +kernel) ⟨(show 5 + 1 ≤ (21 + 40 * d) by omega), (show 8 + (2 + 11) + 60 * 5 ≤ 60 * (21 + 40 * d) by omega)⟩) ⟨zPre.blind, va_recv hK hC.1 (ci := 6) (q0 := 3) rfl rfl, cPre_go hZ hK hC⟩ rfl rfl hl.1 rfl (lv_room (Nat.le_of_ble_eq_true rfl)) dX7_turns_129 (cAcc h57 mo60 hr9)) hC.2.2.1 (fun q _ h => hFc q h) hFc (fun u9 t9 H1 locs ht hvm hw hB hz1 hk1 hS => ?_)
                      obtain ⟨⟨hP, hK1, hD1⟩, hsz1⟩ := hB
                      rw [ht] at hP hsz1
                      have hC : CP dC dI Q A s.heap p59.2 H1 locs := ⟨hP, hD1.weaken (fun _ _ _ h => hFc _ h), hS, hsz1⟩
                      generalize H1 = H at hC ⊢
                      have h62 : z9h ≤ CS.hs p59.2 := Nat.le_trans h57 mo60
                      refine W.widen (k := CS.hs p59.2 - z9h) (n := 17 * (CS.hs p59.2 - z9h)) (cAcc2 h57 mo60) (cAcc3 h57 mo60) ?_
                      refine lv_goto (tgt := 158) hx hb dX7_turns_132 (by decide) ?_
                      refine lv_iinc (v := (x2 + 1)) (lv' := [(2, .int (x2 + 1)), (3, .ref a9), (0, .ref (Q.o 3)), (1, .int x1)]) hx hb dX7_turns_158 hl (k := 3) rfl rfl (by decide) rfl (fun ls hl => ?_)
                      refine lv_goto (tgt := 2) hx hb dX7_turns_161 (by decide) ?_
                      exact ih p59.2 x1 (x2 + 1) _ _ _ hf h62 hC (lv_sub hl [2, 3, 0] rfl)
                    ·
                      replace hf := (if_pos c58).symm.trans hf
                      refine lv_aload_n hx hb dX7_turns_119 rfl (lv_at hl 1 rfl) ?_
                      refine lv_iconst (v := 0) hx hb dX7_turns_120 (by decide) ?_
                      obtain ⟨p63, hcp63, hf⟩ := hf_bind hf
                      have mo64 : CS.hs p54.2 ≤ CS.hs p63.2 := Mono.go hcp63 (m_X1_found N p54.2 0)
                      have hr9 : CS.hs p63.2 ≤ CS.hs R.2 := Mono.go hf (mono_ite (mono_ite (mono_ite (mono_bind (m_X7_groupTurn N E1 E2 hm1 hm2 p63.2 a9) (fun p74 => (hMK p74.2 x1 (x2 + 1)))) (mono_bind (m_X7_statement N E1 E2 hm1 hm2 p63.2 0) (fun p70 => (hMK p70.2 x1 (x2 + 1))))) mono_none) (mono_bind (m_X7_endList N p63.2 a9) (fun p78 => (hMK p78.2 x1 (x2 + 1)))))
                      have hFc := cFree hC hA
                      refine va_calli (va_runU (As := [.int 0]) (rest := []) ⟨hx, hb, hml, hown, hts⟩ (c_X1_found l dC dI Q N p54.2 0 p63 hcp63) (va_cwU 1 hts hX7_turns_X1_found_u110 rfl rfl rfl rfl (by decide +kernel) ⟨(show 1 + 1 ≤ (21 + 40 * d) by omega), (show 8 + (2 + 11) + 60 * 1 ≤ 60 * (21 + 40 * d) by omega)⟩) ⟨zPre.blind, va_recv hK hC.1 (ci := 6) (q0 := 3) rfl rfl, cPre_go hZ hK hC⟩ rfl rfl hl.1 rfl (lv_room (Nat.le_of_ble_eq_true rfl)) dX7_turns_121 (cAcc h57 mo64 hr9)) hC.2.2.1 (fun q _ h => hFc q h) hFc (fun r65 u9 t9 H1 locs ht hvm hw hB hz1 hk1 hS => ?_)
                      obtain ⟨⟨hP, hK1, hD1⟩, hsz1⟩ := hB
                      rw [ht] at hP hsz1
                      have hC : CP dC dI Q A s.heap p63.2 H1 locs := ⟨hP, hD1.weaken (fun _ _ _ h => hFc _ h), hS, hsz1⟩
                      generalize H1 = H at hC ⊢
                      have h66 : z9h ≤ CS.hs p63.2 := Nat.le_trans h57 mo64
                      refine W.widen (k := CS.hs p63.2 - z9h) (n := 17 * (CS.hs p63.2 - z9h)) (cAcc2 h57 mo64) (cAcc3 h57 mo64) ?_
                      obtain rfl : r65 = p63.1 := hw
                      refine lv_if_eq (tgt := 135) hx hb dX7_turns_124 (by decide) (fun c67 => ?_) (fun c67 => ?_)
                      ·
                        replace hf := (if_pos c67).symm.trans hf
                        refine lv_aload_n hx hb dX7_turns_135 rfl (lv_at hl 0 rfl) ?_
                        obtain ⟨b68, hf⟩ := hf_ite hf
                        refine pGN_X5_0 (v := (CS.o p63.2 a9 0)) hx hb hts i_X7_turns_X5 hown hK hC (va_Nw.use rfl (hZ.1 (.fieldLinkNest RX7 107 "StatementRules2$Open" "sort" "I" "StatementRules2") (by decide +kernel))) (fun _ q9 => q9) dX7_turns_136 b68 rfl ?_
                        refine lv_sipush (v := 218) hx hb dX7_turns_139 (by decide) ?_
                        refine lv_icmp_ne (tgt := 153) hx hb dX7_turns_142 (by decide) (fun c69 => ?_) (fun c69 => ?_)
                        ·
                          replace hf := (if_neg c69).symm.trans hf
                          refine lv_aload_n hx hb dX7_turns_153 rfl (lv_at hl 1 rfl) ?_
                          refine lv_iconst (v := 0) hx hb dX7_turns_154 (by decide) ?_
                          obtain ⟨p70, hcp70, hf⟩ := hf_bind hf
                          have mo71 : CS.hs p63.2 ≤ CS.hs p70.2 := Mono.go hcp70 (m_X7_statement N E1 E2 hm1 hm2 p63.2 0)
                          have hr9 : CS.hs p70.2 ≤ CS.hs R.2 := Mono.go hf (hMK p70.2 x1 (x2 + 1))
                          have hFc := cFree hC hA
                          refine va_callv (va_runV (As := [.int 0]) (rest := []) ⟨hx, hb, hml, hown, hts⟩ (c_X7_statement l dC dI Q N d E1 E2 hE1 hE2 hm1 hm2 p63.2 0 p70 hcp70) (cwV 1 hts hX7_turns_X7_statement_v126 rfl rfl rfl (by decide +kernel) ⟨(show (19 + 40 * d) + 1 ≤ (21 + 40 * d) by omega), (show 8 + (2 + 11) + 60 * (19 + 40 * d) ≤ 60 * (21 + 40 * d) by omega)⟩) ⟨zPre.blind, va_recv hK hC.1 (ci := 6) (q0 := 3) rfl rfl, cPre_go hZ hK hC⟩ rfl rfl hl.1 rfl (lv_room (Nat.le_of_ble_eq_true rfl)) dX7_turns_155 (cAcc h66 mo71 hr9)) hC.2.2.1 (fun q _ h => hFc q h) hFc (fun u9 t9 H1 locs ht hvm hw hB hz1 hk1 hS => ?_)
                          obtain ⟨⟨hP, hK1, hD1⟩, hsz1⟩ := hB
                          rw [ht] at hP hsz1
                          have hC : CP dC dI Q A s.heap p70.2 H1 locs := ⟨hP, hD1.weaken (fun _ _ _ h => hFc _ h), hS, hsz1⟩
                          generalize H1 = H at hC ⊢
                          have h73 : z9h ≤ CS.hs p70.2 := Nat.le_trans h66 mo71
                          refine W.widen (k := CS.hs p70.2 - z9h) (n := 17 * (CS.hs p70.2 - z9h)) (cAcc2 h66 mo71) (cAcc3 h66 mo71) ?_
                          refine lv_iinc (v := (x2 + 1)) (lv' := [(2, .int (x2 + 1)), (3, .ref a9), (0, .ref (Q.o 3)), (1, .int x1)]) hx hb dX7_turns_158 hl (k := 3) rfl rfl (by decide) rfl (fun ls hl => ?_)
                          refine lv_goto (tgt := 2) hx hb dX7_turns_161 (by decide) ?_
                          exact ih p70.2 x1 (x2 + 1) _ _ _ hf h73 hC (lv_sub hl [2, 3, 0] rfl)
                        ·
                          replace hf := (if_pos c69).symm.trans hf
                          refine lv_aload_n hx hb dX7_turns_145 rfl (lv_at hl 1 rfl) ?_
                          refine lv_aload_n hx hb dX7_turns_146 rfl (lv_at hl 0 rfl) ?_
                          obtain ⟨p74, hcp74, hf⟩ := hf_bind hf
                          have mo75 : CS.hs p63.2 ≤ CS.hs p74.2 := Mono.go hcp74 (m_X7_groupTurn N E1 E2 hm1 hm2 p63.2 a9)
                          have hr9 : CS.hs p74.2 ≤ CS.hs R.2 := Mono.go hf (hMK p74.2 x1 (x2 + 1))
                          have hFc := cFree hC hA
                          refine va_callv (va_runV (As := [.ref a9]) (rest := []) ⟨hx, hb, hml, hown, hts⟩ (c_X7_groupTurn l dC dI Q N d E1 E2 hE1 hE2 hm1 hm2 p63.2 a9 p74 hcp74) (cwV 1 hts hX7_turns_X7_groupTurn_v123 rfl rfl rfl (by decide +kernel) ⟨(show (20 + 40 * d) + 1 ≤ (21 + 40 * d) by omega), (show 8 + (4 + 11) + 60 * (20 + 40 * d) ≤ 60 * (21 + 40 * d) by omega)⟩) ⟨zPre.blind, va_recv hK hC.1 (ci := 6) (q0 := 3) rfl rfl, cPre_go hZ hK hC⟩ rfl rfl hl.1 rfl (lv_room (Nat.le_of_ble_eq_true rfl)) dX7_turns_147 (cAcc h66 mo75 hr9)) hC.2.2.1 (fun q _ h => hFc q h) hFc (fun u9 t9 H1 locs ht hvm hw hB hz1 hk1 hS => ?_)
                          obtain ⟨⟨hP, hK1, hD1⟩, hsz1⟩ := hB
                          rw [ht] at hP hsz1
                          have hC : CP dC dI Q A s.heap p74.2 H1 locs := ⟨hP, hD1.weaken (fun _ _ _ h => hFc _ h), hS, hsz1⟩
                          generalize H1 = H at hC ⊢
                          have h77 : z9h ≤ CS.hs p74.2 := Nat.le_trans h66 mo75
                          refine W.widen (k := CS.hs p74.2 - z9h) (n := 17 * (CS.hs p74.2 - z9h)) (cAcc2 h66 mo75) (cAcc3 h66 mo75) ?_
                          refine lv_goto (tgt := 158) hx hb dX7_turns_150 (by decide) ?_
                          refine lv_iinc (v := (x2 + 1)) (lv' := [(2, .int (x2 + 1)), (3, .ref a9), (0, .ref (Q.o 3)), (1, .int x1)]) hx hb dX7_turns_158 hl (k := 3) rfl rfl (by decide) rfl (fun ls hl => ?_)
                          refine lv_goto (tgt := 2) hx hb dX7_turns_161 (by decide) ?_
                          exact ih p74.2 x1 (x2 + 1) _ _ _ hf h77 hC (lv_sub hl [2, 3, 0] rfl)
                      ·
                        replace hf := (if_neg c67).symm.trans hf
                        refine lv_aload_n hx hb dX7_turns_127 rfl (lv_at hl 1 rfl) ?_
                        refine lv_aload_n hx hb dX7_turns_128 rfl (lv_at hl 0 rfl) ?_
                        obtain ⟨p78, hcp78, hf⟩ := hf_bind hf
                        have mo79 : CS.hs p63.2 ≤ CS.hs p78.2 := Mono.go hcp78 (m_X7_endList N p63.2 a9)
                        have hr9 : CS.hs p78.2 ≤ CS.hs R.2 := Mono.go hf (hMK p78.2 x1 (x2 + 1))
                        have hFc := cFree hC hA
                        refine va_callv (va_runV (As := [.ref a9]) (rest := []) ⟨hx, hb, hml, hown, hts⟩ (c_X7_endList l dC dI Q N p63.2 a9 p78 hcp78) (cwV 1 hts hX7_turns_X7_endList_v120 rfl rfl rfl (by decide +kernel) ⟨(show 5 + 1 ≤ (21 + 40 * d) by omega), (show 8 + (2 + 11) + 60 * 5 ≤ 60 * (21 + 40 * d) by omega)⟩) ⟨zPre.blind, va_recv hK hC.1 (ci := 6) (q0 := 3) rfl rfl, cPre_go hZ hK hC⟩ rfl rfl hl.1 rfl (lv_room (Nat.le_of_ble_eq_true rfl)) dX7_turns_129 (cAcc h66 mo79 hr9)) hC.2.2.1 (fun q _ h => hFc q h) hFc (fun u9 t9 H1 locs ht hvm hw hB hz1 hk1 hS => ?_)
                        obtain ⟨⟨hP, hK1, hD1⟩, hsz1⟩ := hB
                        rw [ht] at hP hsz1
                        have hC : CP dC dI Q A s.heap p78.2 H1 locs := ⟨hP, hD1.weaken (fun _ _ _ h => hFc _ h), hS, hsz1⟩
                        generalize H1 = H at hC ⊢
                        have h81 : z9h ≤ CS.hs p78.2 := Nat.le_trans h66 mo79
                        refine W.widen (k := CS.hs p78.2 - z9h) (n := 17 * (CS.hs p78.2 - z9h)) (cAcc2 h66 mo79) (cAcc3 h66 mo79) ?_
                        refine lv_goto (tgt := 158) hx hb dX7_turns_132 (by decide) ?_
                        refine lv_iinc (v := (x2 + 1)) (lv' := [(2, .int (x2 + 1)), (3, .ref a9), (0, .ref (Q.o 3)), (1, .int x1)]) hx hb dX7_turns_158 hl (k := 3) rfl rfl (by decide) rfl (fun ls hl => ?_)
                        refine lv_goto (tgt := 2) hx hb dX7_turns_161 (by decide) ?_
                        exact ih p78.2 x1 (x2 + 1) _ _ _ hf h81 hC (lv_sub hl [2, 3, 0] rfl)
                  ·
                    replace hf := (if_pos c53).symm.trans hf
                    refine lv_aload_n hx hb dX7_turns_102 rfl (lv_at hl 1 rfl) ?_
                    refine lv_aload_n hx hb dX7_turns_103 rfl (lv_at hl 0 rfl) ?_
                    obtain ⟨p82, hcp82, hf⟩ := hf_bind hf
                    have mo83 : CS.hs p47.2 ≤ CS.hs p82.2 := Mono.go hcp82 (m_X7_beginFinally N p47.2 a9)
                    have hr9 : CS.hs p82.2 ≤ CS.hs R.2 := Mono.go hf (hMK p82.2 x1 (x2 + 1))
                    have hFc := cFree hC hA
                    refine va_callv (va_runV (As := [.ref a9]) (rest := []) ⟨hx, hb, hml, hown, hts⟩ (c_X7_beginFinally l dC dI Q N p47.2 a9 p82 hcp82) (cwV 1 hts hX7_turns_X7_beginFinally_v117 rfl rfl rfl (by decide +kernel) ⟨(show 5 + 1 ≤ (21 + 40 * d) by omega), (show 8 + (2 + 11) + 60 * 5 ≤ 60 * (21 + 40 * d) by omega)⟩) ⟨zPre.blind, va_recv hK hC.1 (ci := 6) (q0 := 3) rfl rfl, cPre_go hZ hK hC⟩ rfl rfl hl.1 rfl (lv_room (Nat.le_of_ble_eq_true rfl)) dX7_turns_104 (cAcc h50 mo83 hr9)) hC.2.2.1 (fun q _ h => hFc q h) hFc (fun u9 t9 H1 locs ht hvm hw hB hz1 hk1 hS => ?_)
                    obtain ⟨⟨hP, hK1, hD1⟩, hsz1⟩ := hB
                    rw [ht] at hP hsz1
                    have hC : CP dC dI Q A s.heap p82.2 H1 locs := ⟨hP, hD1.weaken (fun _ _ _ h => hFc _ h), hS, hsz1⟩
                    generalize H1 = H at hC ⊢
                    have h85 : z9h ≤ CS.hs p82.2 := Nat.le_trans h50 mo83
                    refine W.widen (k := CS.hs p82.2 - z9h) (n := 17 * (CS.hs p82.2 - z9h)) (cAcc2 h50 mo83) (cAcc3 h50 mo83) ?_
                    refine lv_goto (tgt := 158) hx hb dX7_turns_107 (by decide) ?_
                    refine lv_iinc (v := (x2 + 1)) (lv' := [(2, .int (x2 + 1)), (3, .ref a9), (0, .ref (Q.o 3)), (1, .int x1)]) hx hb dX7_turns_158 hl (k := 3) rfl rfl (by decide) rfl (fun ls hl => ?_)
                    refine lv_goto (tgt := 2) hx hb dX7_turns_161 (by decide) ?_
                    exact ih p82.2 x1 (x2 + 1) _ _ _ hf h85 hC (lv_sub hl [2, 3, 0] rfl)
                ·
                  replace hf := (if_neg c51).symm.trans hf
                  refine lv_aload_n hx hb dX7_turns_84 rfl (lv_at hl 1 rfl) ?_
                  refine lv_aload_n hx hb dX7_turns_85 rfl (lv_at hl 0 rfl) ?_
                  obtain ⟨p86, hcp86, hf⟩ := hf_bind hf
                  have mo87 : CS.hs p47.2 ≤ CS.hs p86.2 := Mono.go hcp86 (m_X7_beginCatch N p47.2 a9)
                  have hr9 : CS.hs p86.2 ≤ CS.hs R.2 := Mono.go hf (hMK p86.2 x1 (x2 + 1))
                  have hFc := cFree hC hA
                  refine va_callv (va_runV (As := [.ref a9]) (rest := []) ⟨hx, hb, hml, hown, hts⟩ (c_X7_beginCatch l dC dI Q N p47.2 a9 p86 hcp86) (cwV 1 hts hX7_turns_X7_beginCatch_v114 rfl rfl rfl (by decide +kernel) ⟨(show 5 + 1 ≤ (21 + 40 * d) by omega), (show 8 + (4 + 11) + 60 * 5 ≤ 60 * (21 + 40 * d) by omega)⟩) ⟨zPre.blind, va_recv hK hC.1 (ci := 6) (q0 := 3) rfl rfl, cPre_go hZ hK hC⟩ rfl rfl hl.1 rfl (lv_room (Nat.le_of_ble_eq_true rfl)) dX7_turns_86 (cAcc h50 mo87 hr9)) hC.2.2.1 (fun q _ h => hFc q h) hFc (fun u9 t9 H1 locs ht hvm hw hB hz1 hk1 hS => ?_)
                  obtain ⟨⟨hP, hK1, hD1⟩, hsz1⟩ := hB
                  rw [ht] at hP hsz1
                  have hC : CP dC dI Q A s.heap p86.2 H1 locs := ⟨hP, hD1.weaken (fun _ _ _ h => hFc _ h), hS, hsz1⟩
                  generalize H1 = H at hC ⊢
                  have h89 : z9h ≤ CS.hs p86.2 := Nat.le_trans h50 mo87
                  refine W.widen (k := CS.hs p86.2 - z9h) (n := 17 * (CS.hs p86.2 - z9h)) (cAcc2 h50 mo87) (cAcc3 h50 mo87) ?_
                  refine lv_goto (tgt := 158) hx hb dX7_turns_89 (by decide) ?_
                  refine lv_iinc (v := (x2 + 1)) (lv' := [(2, .int (x2 + 1)), (3, .ref a9), (0, .ref (Q.o 3)), (1, .int x1)]) hx hb dX7_turns_158 hl (k := 3) rfl rfl (by decide) rfl (fun ls hl => ?_)
                  refine lv_goto (tgt := 2) hx hb dX7_turns_161 (by decide) ?_
                  exact ih p86.2 x1 (x2 + 1) _ _ _ hf h89 hC (lv_sub hl [2, 3, 0] rfl)
            ·
              replace hf := (if_neg c16).symm.trans hf
              refine lv_aload_n hx hb dX7_turns_56 rfl (lv_at hl 1 rfl) ?_
              refine lv_aload_n hx hb dX7_turns_57 rfl (lv_at hl 0 rfl) ?_
              obtain ⟨p90, hcp90, hf⟩ := hf_bind hf
              have mo91 : CS.hs p12.2 ≤ CS.hs p90.2 := Mono.go hcp90 (m_X7_bodyTurn N E1 E2 hm1 hm2 p12.2 a9)
              have hr9 : CS.hs p90.2 ≤ CS.hs R.2 := Mono.go hf (hMK p90.2 x1 (x2 + 1))
              have hFc := cFree hC hA
              refine va_callv (va_runV (As := [.ref a9]) (rest := []) ⟨hx, hb, hml, hown, hts⟩ (c_X7_bodyTurn l dC dI Q N d E1 E2 hE1 hE2 hm1 hm2 p12.2 a9 p90 hcp90) (cwV 1 hts hX7_turns_X7_bodyTurn_v103 rfl rfl rfl (by decide +kernel) ⟨(show (20 + 40 * d) + 1 ≤ (21 + 40 * d) by omega), (show 8 + (2 + 11) + 60 * (20 + 40 * d) ≤ 60 * (21 + 40 * d) by omega)⟩) ⟨zPre.blind, va_recv hK hC.1 (ci := 6) (q0 := 3) rfl rfl, cPre_go hZ hK hC⟩ rfl rfl hl.1 rfl (lv_room (Nat.le_of_ble_eq_true rfl)) dX7_turns_58 (cAcc h15 mo91 hr9)) hC.2.2.1 (fun q _ h => hFc q h) hFc (fun u9 t9 H1 locs ht hvm hw hB hz1 hk1 hS => ?_)
              obtain ⟨⟨hP, hK1, hD1⟩, hsz1⟩ := hB
              rw [ht] at hP hsz1
              have hC : CP dC dI Q A s.heap p90.2 H1 locs := ⟨hP, hD1.weaken (fun _ _ _ h => hFc _ h), hS, hsz1⟩
              generalize H1 = H at hC ⊢
              have h93 : z9h ≤ CS.hs p90.2 := Nat.le_trans h15 mo91
              refine W.widen (k := CS.hs p90.2 - z9h) (n := 17 * (CS.hs p90.2 - z9h)) (cAcc2 h15 mo91) (cAcc3 h15 mo91) ?_
              refine lv_goto (tgt := 158) hx hb dX7_turns_61 (by decide) ?_
              refine lv_iinc (v := (x2 + 1)) (lv' := [(2, .int (x2 + 1)), (3, .ref a9), (0, .ref (Q.o 3)), (1, .int x1)]) hx hb dX7_turns_158 hl (k := 3) rfl rfl (by decide) rfl (fun ls hl => ?_)
              refine lv_goto (tgt := 2) hx hb dX7_turns_161 (by decide) ?_
              exact ih p90.2 x1 (x2 + 1) _ _ _ hf h93 hC (lv_sub hl [2, 3, 0] rfl)
set_option maxHeartbeats 4000000 in
set_option maxRecDepth 100000 in
theorem c_X7_turns (l : Launch) (dC : Nat → ClassId) (dI : Nat → Nat → Nat) (Q : CQ) (N : Nat) (d : Nat) (E1 : CS → Option (Unit × CS)) (E2 : CS → Option (Int32 × CS)) (hE1 : cMF l dC dI Q d E1) (hE2 : cMO l dC dI Q d E2) (hm1 : ∀ σ, Mono (CS.hs σ) (E1 σ)) (hm2 : ∀ σ, Mono (CS.hs σ) (E2 σ)) (σ : CS) (x1 : Int32) (R : Unit × CS) (hf : f_X7_turns N E1 E2 σ x1 = some R) : Met l yX7_turns wzX7_turns ({ frames := (21 + 40 * d), cells := CS.hs R.2 - CS.hs σ, slots := 17 * (CS.hs R.2 - CS.hs σ), locals := 60 * (21 + 40 * d) }) (va_Pc [.ref (Q.o 3), .int x1] (zPre dC dI (CS.hs σ) (cW Q σ) (cT Q))) (va_Qv (fun (_ : Unit) => True) (fun (_ : Unit) (t : State) => zPost dC dI (va_A (cW Q σ) (CS.hs σ)) (cW Q R.2) (cT Q) t ∧ t.heap.size = CS.hs R.2) (va_A (cW Q σ) (CS.hs σ))) (CS.hs R.2 - CS.hs σ) (17 * (CS.hs R.2 - CS.hs σ)) (va_A (cW Q σ) (CS.hs σ)) := by
  refine Met.ofW (cc := cX7_turns) (maxL := 4) (ret := none) (by decide) rfl ?_
  intro p e s m args below meth c s₁ B hml hv
  obtain ⟨rfl, hsz, hZ, hP, hK, hD0⟩ := hv
  have hx := B.exec
  have hb := B.bytes
  have hr := B.returns
  have hts := atoms_spec (ws := wzX7_turns) B.pre
  have hown : s.vm.findClass RX7 = some m.cls := findClass_of_methodNamed B.named
  have hlocks := B.notSynchronized
  have hD := hD0.self (sz := CS.hs σ)
  generalize hAe : va_A (cW Q σ) (CS.hs σ) = A at hD ⊢
  have hA : ∀ q : Nat, s.heap.size ≤ q → A q := fun q h => by rw [← hAe]; exact Or.inr (hsz ▸ h)
  have hC : CP dC dI Q A s.heap σ s.heap [] := ⟨hP, hD, va_S.rf, hsz⟩
  have h0 : CS.hs σ ≤ CS.hs σ := Nat.le_refl _
  have hl := lv_entry ([.ref (Q.o 3), .int x1]) (n := 4) (Nat.le_of_ble_eq_true rfl)
  rw [lg_entry_eq]
  generalize (lg_sl ([.ref (Q.o 3), .int x1]) ++ List.replicate (4 - (lg_sl ([.ref (Q.o 3), .int x1])).length) Slot.unset).toArray = ls at hl ⊢
  have hl : lv_has ls 4 [(0, .ref (Q.o 3)), (1, .int x1)] := hl
  unfold f_X7_turns at hf
  refine W.widen (k := CS.hs σ - CS.hs σ) (n := 17 * (CS.hs σ - CS.hs σ)) (Nat.zero_le _) (Nat.zero_le _) ?_
  refine lv_iconst (v := 0) hx hb dX7_turns_0 (by decide) ?_
  refine lv_istore_n (lv' := [(2, .int 0), (0, .ref (Q.o 3)), (1, .int x1)]) hx hb dX7_turns_1 rfl hl (by decide) rfl (fun ls hl => ?_)
  exact j_X7_turns_2 l dC dI Q N d E1 E2 hE1 hE2 hm1 hm2 (CS.hs σ) R hx hb hr hml hown hts hlocks hZ hA hK N σ x1 0 _ _ _ hf h0 hC (lv_sub hl [1, 2, 0] rfl)
