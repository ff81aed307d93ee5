section
theorem k_X7_groupTurn_fieldLink_RX7_20_SR_Statements_code_LSR_Code : Cond.fieldLink RX7 20 "StatementRules2$Statements" "code" "LStatementRules2$Code;" ∈ wzX7_groupTurn := List.mem_cons_of_mem _ (List.mem_append_right _ (List.mem_append_right _ (List.mem_append_right _ (List.mem_append_right _ (List.mem_append_right _ (List.mem_append_right _ (List.mem_append_right _ (List.mem_append_right _ (List.mem_append_right _ (List.mem_append_right _ (List.mem_append_right _ (List.mem_append_right _ (List.mem_append_right _ (List.mem_append_right _ (List.mem_append_right _ (List.mem_append_right _ (List.mem_append_right _ (List.mem_append_right _ (List.mem_append_right _ (List.mem_append_right _ (List.mem_append_right _ (List.mem_append_right _ (List.mem_append_right _ (List.mem_append_right _ (List.mem_append_right _ (List.mem_append_right _ (List.mem_append_right _ (List.mem_append_left _ (List.mem_of_getElem? (i := 0) rfl)))))))))))))))))))))))))))))
theorem k_X7_groupTurn_sameField_SR_Statements_SR_Formulas_code_LSR_Code : Cond.sameField "StatementRules2$Statements" "StatementRules2$Formulas" "code" "LStatementRules2$Code;" ∈ wzX7_groupTurn := List.mem_cons_of_mem _ (List.mem_append_right _ (List.mem_append_right _ (List.mem_append_right _ (List.mem_append_right _ (List.mem_append_right _ (List.mem_append_right _ (List.mem_append_right _ (List.mem_append_right _ (List.mem_append_right _ (List.mem_append_right _ (List.mem_append_right _ (List.mem_append_right _ (List.mem_append_right _ (List.mem_append_right _ (List.mem_append_right _ (List.mem_append_right _ (List.mem_append_right _ (List.mem_append_right _ (List.mem_append_right _ (List.mem_append_right _ (List.mem_append_right _ (List.mem_append_right _ (List.mem_append_right _ (List.mem_append_right _ (List.mem_append_right _ (List.mem_append_right _ (List.mem_append_right _ (List.mem_append_left _ (List.mem_of_getElem? (i := 1) rfl)))))))))))))))))))))))))))))
theorem i_X7_groupTurn_X7 : ∀ w ∈ wsX70, w ∈ wzX7_groupTurn := fun _ h => List.mem_cons_of_mem _ (List.mem_append_right _ (List.mem_append_right _ (List.mem_append_right _ (List.mem_append_right _ (List.mem_append_right _ (List.mem_append_right _ (List.mem_append_right _ (List.mem_append_right _ (List.mem_append_right _ (List.mem_append_right _ (List.mem_append_right _ (List.mem_append_right _ (List.mem_append_right _ (List.mem_append_right _ (List.mem_append_right _ (List.mem_append_right _ (List.mem_append_right _ (List.mem_append_right _ (List.mem_append_right _ (List.mem_append_right _ (List.mem_append_right _ (List.mem_append_right _ (List.mem_append_right _ (List.mem_append_right _ (List.mem_append_right _ (List.mem_append_right _ (List.mem_append_right _ (List.mem_append_right _ (List.mem_append_right _ (List.mem_append_right _ (List.mem_append_right _ (List.mem_append_right _ (List.mem_append_right _ (List.mem_append_right _ (List.mem_append_right _ (List.mem_append_right _ (List.mem_append_left _ (h))))))))))))))))))))))))))))))))))))))
theorem k_X7_groupTurn_fieldLink_RX7_71_SR_Statements_tokens_LSR_Tokens : Cond.fieldLink RX7 71 "StatementRules2$Statements" "tokens" "LStatementRules2$Tokens;" ∈ wzX7_groupTurn := List.mem_cons_of_mem _ (List.mem_append_right _ (List.mem_append_right _ (List.mem_append_right _ (List.mem_append_right _ (List.mem_append_right _ (List.mem_append_right _ (List.mem_append_right _ (List.mem_append_right _ (List.mem_append_right _ (List.mem_append_right _ (List.mem_append_right _ (List.mem_append_right _ (List.mem_append_right _ (List.mem_append_right _ (List.mem_append_right _ (List.mem_append_right _ (List.mem_append_right _ (List.mem_append_right _ (List.mem_append_right _ (List.mem_append_right _ (List.mem_append_right _ (List.mem_append_right _ (List.mem_append_right _ (List.mem_append_right _ (List.mem_append_right _ (List.mem_append_right _ (List.mem_append_right _ (List.mem_append_left _ (List.mem_of_getElem? (i := 2) rfl)))))))))))))))))))))))))))))
theorem k_X7_groupTurn_sameField_SR_Statements_SR_Formulas_tokens_LSR_Tokens : Cond.sameField "StatementRules2$Statements" "StatementRules2$Formulas" "tokens" "LStatementRules2$Tokens;" ∈ wzX7_groupTurn := List.mem_cons_of_mem _ (List.mem_append_right _ (List.mem_append_right _ (List.mem_append_right _ (List.mem_append_right _ (List.mem_append_right _ (List.mem_append_right _ (List.mem_append_right _ (List.mem_append_right _ (List.mem_append_right _ (List.mem_append_right _ (List.mem_append_right _ (List.mem_append_right _ (List.mem_append_right _ (List.mem_append_right _ (List.mem_append_right _ (List.mem_append_right _ (List.mem_append_right _ (List.mem_append_right _ (List.mem_append_right _ (List.mem_append_right _ (List.mem_append_right _ (List.mem_append_right _ (List.mem_append_right _ (List.mem_append_right _ (List.mem_append_right _ (List.mem_append_right _ (List.mem_append_right _ (List.mem_append_left _ (List.mem_of_getElem? (i := 3) rfl)))))))))))))))))))))))))))))
theorem i_X7_groupTurn_X5 : ∀ w ∈ wsX50, w ∈ wzX7_groupTurn := fun _ h => List.mem_cons_of_mem _ (List.mem_append_right _ (List.mem_append_right _ (List.mem_append_right _ (List.mem_append_right _ (List.mem_append_right _ (List.mem_append_right _ (List.mem_append_right _ (List.mem_append_right _ (List.mem_append_right _ (List.mem_append_right _ (List.mem_append_right _ (List.mem_append_right _ (List.mem_append_right _ (List.mem_append_right _ (List.mem_append_right _ (List.mem_append_right _ (List.mem_append_right _ (List.mem_append_right _ (List.mem_append_right _ (List.mem_append_right _ (List.mem_append_right _ (List.mem_append_right _ (List.mem_append_right _ (List.mem_append_right _ (List.mem_append_right _ (List.mem_append_right _ (List.mem_append_right _ (List.mem_append_right _ (List.mem_append_right _ (List.mem_append_right _ (List.mem_append_right _ (List.mem_append_right _ (List.mem_append_right _ (List.mem_append_right _ (List.mem_append_right _ (List.mem_append_right _ (List.mem_append_right _ (List.mem_append_right _ (List.mem_append_right _ (List.mem_append_right _ (List.mem_append_right _ (List.mem_append_left _ (h)))))))))))))))))))))))))))))))))))))))))))
theorem k_X7_groupTurn_fieldLink_RX7_61_SR_Statements_alive_Z : Cond.fieldLink RX7 61 "StatementRules2$Statements" "alive" "Z" ∈ wzX7_groupTurn := List.mem_cons_of_mem _ (List.mem_append_right _ (List.mem_append_right _ (List.mem_append_right _ (List.mem_append_right _ (List.mem_append_right _ (List.mem_append_right _ (List.mem_append_right _ (List.mem_append_right _ (List.mem_append_right _ (List.mem_append_right _ (List.mem_append_right _ (List.mem_append_right _ (List.mem_append_right _ (List.mem_append_right _ (List.mem_append_right _ (List.mem_append_right _ (List.mem_append_right _ (List.mem_append_right _ (List.mem_append_right _ (List.mem_append_right _ (List.mem_append_right _ (List.mem_append_right _ (List.mem_append_right _ (List.mem_append_right _ (List.mem_append_right _ (List.mem_append_right _ (List.mem_append_right _ (List.mem_append_left _ (List.mem_of_getElem? (i := 4) rfl)))))))))))))))))))))))))))))
theorem i_X7_groupTurn_X9 : ∀ w ∈ wsX90, w ∈ wzX7_groupTurn := fun _ h => List.mem_cons_of_mem _ (List.mem_append_right _ (List.mem_append_right _ (List.mem_append_right _ (List.mem_append_right _ (List.mem_append_right _ (List.mem_append_right _ (List.mem_append_right _ (List.mem_append_right _ (List.mem_append_right _ (List.mem_append_right _ (List.mem_append_right _ (List.mem_append_right _ (List.mem_append_right _ (List.mem_append_right _ (List.mem_append_right _ (List.mem_append_right _ (List.mem_append_right _ (List.mem_append_right _ (List.mem_append_right _ (List.mem_append_right _ (List.mem_append_right _ (List.mem_append_right _ (List.mem_append_right _ (List.mem_append_right _ (List.mem_append_right _ (List.mem_append_right _ (List.mem_append_right _ (List.mem_append_right _ (List.mem_append_right _ (List.mem_append_right _ (List.mem_append_right _ (List.mem_append_right _ (List.mem_append_right _ (List.mem_append_right _ (List.mem_append_right _ (List.mem_append_right _ (List.mem_append_right _ (List.mem_append_left _ (h)))))))))))))))))))))))))))))))))))))))
set_option maxHeartbeats 4000000 in
set_option maxRecDepth 100000 in
theorem j_X7_groupTurn_87 {p : Program} {e : Env} {s : State} {m : MethodId} {args : Array Value} {below : List Frame} {meth : Method} {c : Code} {A : Nat → Prop} (l : Launch) (dC : Nat → ClassId) (dI : Nat → Nat → Nat) (Q : CQ) (N : Nat) (d : Nat) (E1 : CS → Option (Unit × CS)) (E2 : CS → Option (Int32 × CS)) (hE1 : cMF l dC dI Q d E1) (hE2 : cMO l dC dI Q d E2) (hm1 : ∀ σ, Mono (CS.hs σ) (E1 σ)) (hm2 : ∀ σ, Mono (CS.hs σ) (E2 σ)) (z9h : Nat) (R : Unit × CS) (hx : p.tables.exec = Jvm.exec) (hb : c.code = cX7_groupTurn) (hr : meth.sig.returnType = none) (hml : c.maxLocals = 4) (hown : s.vm.findClass RX7 = some m.cls) (hts : ∀ w ∈ wzX7_groupTurn, w.before args s = true) (hlocks : meth.locks = false) (hZ : zAMB s) (hA : ∀ q : Nat, s.heap.size ≤ q → A q) (hK : va_K (dC, dI) vwCl (cT Q) s) : ∀ (σ : CS) (x1 : Nat) (x2 : Int32) (H : Heap) (locs : List Loc) (ls : Array Slot), f_X7_groupTurn_87 N E1 E2 σ x1 x2 = some R → z9h ≤ CS.hs σ → CP dC dI Q A s.heap σ H locs → lv_has ls 4 [(0, .ref (Q.o 3)), (1, .ref x1), (2, .int x2)] → W p l e ({ frames := (20 + 40 * d), cells := CS.hs R.2 - z9h, slots := 17 * (CS.hs R.2 - z9h), locals := 60 * (20 + 40 * d) }) s m args below meth c H locs (CS.hs σ - z9h) (17 * (CS.hs σ - z9h)) (MQ below (va_Qv (fun (_ : Unit) => True) (fun (_ : Unit) (t : State) => zPost dC dI A (cW Q R.2) (cT Q) t ∧ t.heap.size = CS.hs R.2) A) args s (CS.hs R.2 - z9h) (17 * (CS.hs R.2 - z9h)) A) (F0 m 87 ls []) := by
  intro σ x1 x2 H locs ls hf h0 hC hl
  unfold f_X7_groupTurn_87 at hf
  refine lv_aload_n hx hb dX7_groupTurn_87 rfl (lv_at hl 0 rfl) ?_
  refine lv_bipush (v := 58) hx hb dX7_groupTurn_88 (by decide) ?_
  obtain ⟨p21, hcp21, hf⟩ := hf_bind hf
  have mo22 : CS.hs σ ≤ CS.hs p21.2 := Mono.go hcp21 (m_X1_expect N σ 58)
  have hr9 : CS.hs p21.2 ≤ CS.hs R.2 := Mono.go hf (mono_bind (m_X0_aim N p21.2 x2) (fun p25 => (mono_ite (mono_some (Nat.le_refl _)) mono_none)))
  have hFc := cFree hC hA
  refine va_callv (va_runU (As := [.int 58]) (rest := []) ⟨hx, hb, hml, hown, hts⟩ (c_X1_expect l dC dI Q N σ 58 p21 hcp21) (va_cwU 1 hts hX7_groupTurn_X1_expect_u155 rfl rfl rfl rfl (by decide +kernel) ⟨(show 4 + 1 ≤ (20 + 40 * d) by omega), (show 8 + (2 + 11) + 60 * 4 ≤ 60 * (20 + 40 * d) by omega)⟩) ⟨zPre.blind, va_recv hK hC.1 (ci := 6) (q0 := 3) rfl rfl, cPre_go hZ hK hC⟩ rfl rfl hl.1 rfl (lv_room (Nat.le_of_ble_eq_true rfl)) dX7_groupTurn_90 (cAcc h0 mo22 hr9)) hC.2.2.1 (fun q _ h => hFc q h) hFc (fun u9 t9 H1 locs ht hvm hw hB hz1 hk1 hS => ?_)
  obtain ⟨⟨hP, hK1, hD1⟩, hsz1⟩ := hB
  rw [ht] at hP hsz1
  have hC : CP dC dI Q A s.heap p21.2 H1 locs := ⟨hP, hD1.weaken (fun _ _ _ h => hFc _ h), hS, hsz1⟩
  generalize H1 = H at hC ⊢
  have h24 : z9h ≤ CS.hs p21.2 := Nat.le_trans h0 mo22
  refine W.widen (k := CS.hs p21.2 - z9h) (n := 17 * (CS.hs p21.2 - z9h)) (cAcc2 h0 mo22) (cAcc3 h0 mo22) ?_
  refine lv_aload_n hx hb dX7_groupTurn_93 rfl (lv_at hl 0 rfl) ?_
  refine cG_29 hx hb hts i_X7_groupTurn_X7 hown hK hC (hts (.fieldLink RX7 20 "StatementRules2$Statements" "code" "LStatementRules2$Code;") k_X7_groupTurn_fieldLink_RX7_20_SR_Statements_code_LSR_Code) (fun x9 q9 => u_same (hts (.sameField "StatementRules2$Statements" "StatementRules2$Formulas" "code" "LStatementRules2$Code;") k_X7_groupTurn_sameField_SR_Statements_SR_Formulas_code_LSR_Code) x9 q9) dX7_groupTurn_94 ?_
  refine lv_iload_n hx hb dX7_groupTurn_97 rfl (lv_at hl 2 rfl) ?_
  obtain ⟨p25, hcp25, hf⟩ := hf_bind hf
  have mo26 : CS.hs p21.2 ≤ CS.hs p25.2 := Mono.go hcp25 (m_X0_aim N p21.2 x2)
  have hr9 : CS.hs p25.2 ≤ CS.hs R.2 := Mono.go hf (mono_ite (mono_some (Nat.le_refl _)) mono_none)
  have hFc := cFree hC hA
  refine va_callv (va_runV (As := [.int x2]) (rest := []) ⟨hx, hb, hml, hown, hts⟩ (c_X0_aim l dC dI Q N p21.2 x2 p25 hcp25) (cwV 1 hts hX7_groupTurn_X0_aim_v158 rfl rfl rfl (by decide +kernel) ⟨(show 2 + 1 ≤ (20 + 40 * d) by omega), (show 8 + (2 + 11) + 60 * 2 ≤ 60 * (20 + 40 * d) by omega)⟩) ⟨zPre.blind, va_recv hK hC.1 (ci := 0) (q0 := 2) rfl rfl, cPre_go hZ hK hC⟩ rfl rfl hl.1 rfl (lv_room (Nat.le_of_ble_eq_true rfl)) dX7_groupTurn_98 (cAcc h24 mo26 hr9)) hC.2.2.1 (fun q _ h => hFc q h) hFc (fun u9 t9 H1 locs ht hvm hw hB hz1 hk1 hS => ?_)
  obtain ⟨⟨hP, hK1, hD1⟩, hsz1⟩ := hB
  rw [ht] at hP hsz1
  have hC : CP dC dI Q A s.heap p25.2 H1 locs := ⟨hP, hD1.weaken (fun _ _ _ h => hFc _ h), hS, hsz1⟩
  generalize H1 = H at hC ⊢
  have h28 : z9h ≤ CS.hs p25.2 := Nat.le_trans h24 mo26
  refine W.widen (k := CS.hs p25.2 - z9h) (n := 17 * (CS.hs p25.2 - z9h)) (cAcc2 h24 mo26) (cAcc3 h24 mo26) ?_
  refine lv_aload_n hx hb dX7_groupTurn_101 rfl (lv_at hl 1 rfl) ?_
  refine lv_iconst (v := 1) hx hb dX7_groupTurn_102 (by decide) ?_
  obtain ⟨b29, hf⟩ := hf_ite hf
  refine pPN_X5_5 (v := 1) hx hb hts i_X7_groupTurn_X5 hown hK hC (va_Nw.use rfl (hZ.1 (.fieldLinkNest RX7 130 "StatementRules2$Open" "begun" "Z" "StatementRules2") (by decide +kernel))) (fun _ q9 => q9) dX7_groupTurn_103 b29 (by decide) (fun H locs hC => ?_)
  refine lv_aload_n hx hb dX7_groupTurn_106 rfl (lv_at hl 0 rfl) ?_
  refine lv_iconst (v := 1) hx hb dX7_groupTurn_107 (by decide) ?_
  refine cP_36 (v := 1) hx hb hts i_X7_groupTurn_X7 hown hK hC (hts (.fieldLink RX7 61 "StatementRules2$Statements" "alive" "Z") k_X7_groupTurn_fieldLink_RX7_61_SR_Statements_alive_Z) (fun _ q9 => q9) dX7_groupTurn_108 (by decide) (fun H locs hC => ?_)
  refine lv_goto (tgt := 133) hx hb dX7_groupTurn_111 (by decide) ?_
  obtain rfl := Option.some.inj hf
  exact W.vret hx hb hr (fun t ht hW => ⟨⟨(), rfl, trivial, ⟨by rw [ht]; exact hC.1, va_K.moved hW.alike hK, hC.2.1⟩, by rw [ht]; exact hC.2.2.2⟩, hC.2.2.1.F ht⟩) hC.2.2.1.2.2 dX7_groupTurn_133
set_option maxHeartbeats 4000000 in
set_option maxRecDepth 100000 in
theorem j_X7_groupTurn_59 {p : Program} {e : Env} {s : State} {m : MethodId} {args : Array Value} {below : List Frame} {meth : Method} {c : Code} {A : Nat → Prop} (l : Launch) (dC : Nat → ClassId) (dI : Nat → Nat → Nat) (Q : CQ) (N : Nat) (d : Nat) (E1 : CS → Option (Unit × CS)) (E2 : CS → Option (Int32 × CS)) (hE1 : cMF l dC dI Q d E1) (hE2 : cMO l dC dI Q d E2) (hm1 : ∀ σ, Mono (CS.hs σ) (E1 σ)) (hm2 : ∀ σ, Mono (CS.hs σ) (E2 σ)) (z9h : Nat) (R : Unit × CS) (hx : p.tables.exec = Jvm.exec) (hb : c.code = cX7_groupTurn) (hr : meth.sig.returnType = none) (hml : c.maxLocals = 4) (hown : s.vm.findClass RX7 = some m.cls) (hts : ∀ w ∈ wzX7_groupTurn, w.before args s = true) (hlocks : meth.locks = false) (hZ : zAMB s) (hA : ∀ q : Nat, s.heap.size ≤ q → A q) (hK : va_K (dC, dI) vwCl (cT Q) s) : ∀ (σ : CS) (x1 : Nat) (x2 : Int32) (x3 : Int32) (H : Heap) (locs : List Loc) (ls : Array Slot), f_X7_groupTurn_59 N E1 E2 σ x1 x2 x3 = some R → z9h ≤ CS.hs σ → CP dC dI Q A s.heap σ H locs → lv_has ls 4 [(0, .ref (Q.o 3)), (1, .ref x1), (2, .int x2), (3, .int x3)] → W p l e ({ frames := (20 + 40 * d), cells := CS.hs R.2 - z9h, slots := 17 * (CS.hs R.2 - z9h), locals := 60 * (20 + 40 * d) }) s m args below meth c H locs (CS.hs σ - z9h) (17 * (CS.hs σ - z9h)) (MQ below (va_Qv (fun (_ : Unit) => True) (fun (_ : Unit) (t : State) => zPost dC dI A (cW Q R.2) (cT Q) t ∧ t.heap.size = CS.hs R.2) A) args s (CS.hs R.2 - z9h) (17 * (CS.hs R.2 - z9h)) A) (F0 m 59 ls []) := by
  intro σ x1 x2 x3 H locs ls hf h0 hC hl
  unfold f_X7_groupTurn_59 at hf
  refine lv_aload_n hx hb dX7_groupTurn_59 rfl (lv_at hl 0 rfl) ?_
  refine cG_28 hx hb hts i_X7_groupTurn_X7 hown hK hC (hts (.fieldLink RX7 71 "StatementRules2$Statements" "tokens" "LStatementRules2$Tokens;") k_X7_groupTurn_fieldLink_RX7_71_SR_Statements_tokens_LSR_Tokens) (fun x9 q9 => u_same (hts (.sameField "StatementRules2$Statements" "StatementRules2$Formulas" "tokens" "LStatementRules2$Tokens;") k_X7_groupTurn_sameField_SR_Statements_SR_Formulas_tokens_LSR_Tokens) x9 q9) dX7_groupTurn_60 ?_
  obtain ⟨p15, hcp15, hf⟩ := hf_bind hf
  have mo16 : CS.hs σ ≤ CS.hs p15.2 := Mono.go hcp15 (m_X9_advance N σ)
  have hr9 : CS.hs p15.2 ≤ CS.hs R.2 := Mono.go hf (mono_ite (mono_ite (m_X7_groupTurn_87 N E1 E2 hm1 hm2 (CS.setO p15.2 x1 11 x2) x1 x2) mono_none) (mono_ite (mono_bind (m_X1_caseNumber N p15.2 (CS.o p15.2 x1 13) x2) (fun p31 => (m_X7_groupTurn_87 N E1 E2 hm1 hm2 p31.2 x1 x2))) mono_none))
  have hFc := cFree hC hA
  refine va_callv (va_runV (As := []) (rest := []) ⟨hx, hb, hml, hown, hts⟩ (c_X9_advance l dC dI Q N σ p15 hcp15) (cwV 0 hts hX7_groupTurn_X9_advance_v146 rfl rfl rfl (by decide +kernel) ⟨(show 3 + 1 ≤ (20 + 40 * d) by omega), (show 8 + (2 + 11) + 60 * 3 ≤ 60 * (20 + 40 * d) by omega)⟩) ⟨zPre.blind, va_recv hK hC.1 (ci := 8) (q0 := 4) rfl rfl, cPre_go hZ hK hC⟩ rfl rfl hl.1 rfl (lv_room (Nat.le_of_ble_eq_true rfl)) dX7_groupTurn_63 (cAcc h0 mo16 hr9)) hC.2.2.1 (fun q _ h => hFc q h) hFc (fun u9 t9 H1 locs ht hvm hw hB hz1 hk1 hS => ?_)
  obtain ⟨⟨hP, hK1, hD1⟩, hsz1⟩ := hB
  rw [ht] at hP hsz1
  have hC : CP dC dI Q A s.heap p15.2 H1 locs := ⟨hP, hD1.weaken (fun _ _ _ h => hFc _ h), hS, hsz1⟩
  generalize H1 = H at hC ⊢
  have h18 : z9h ≤ CS.hs p15.2 := Nat.le_trans h0 mo16
  refine W.widen (k := CS.hs p15.2 - z9h) (n := 17 * (CS.hs p15.2 - z9h)) (cAcc2 h0 mo16) (cAcc3 h0 mo16) ?_
  refine lv_iload_n hx hb dX7_groupTurn_66 rfl (lv_at hl 3 rfl) ?_
  refine lv_if_eq (tgt := 82) hx hb dX7_groupTurn_67 (by decide) (fun c19 => ?_) (fun c19 => ?_)
  ·
    replace hf := (if_pos c19).symm.trans hf
    refine lv_aload_n hx hb dX7_groupTurn_82 rfl (lv_at hl 1 rfl) ?_
    refine lv_iload_n hx hb dX7_groupTurn_83 rfl (lv_at hl 2 rfl) ?_
    obtain ⟨b20, hf⟩ := hf_ite hf
    refine pPN_X5_11 (v := x2) hx hb hts i_X7_groupTurn_X5 hown hK hC (va_Nw.use rfl (hZ.1 (.fieldLinkNest RX7 140 "StatementRules2$Open" "other" "I" "StatementRules2") (by decide +kernel))) (fun _ q9 => q9) dX7_groupTurn_84 b20 (fun H locs hC => ?_)
    exact j_X7_groupTurn_87 l dC dI Q N d E1 E2 hE1 hE2 hm1 hm2 z9h R hx hb hr hml hown hts hlocks hZ hA hK (CS.setO p15.2 x1 11 x2) x1 x2 _ _ _ hf h18 hC (lv_sub hl [0, 1, 2] rfl)
  ·
    replace hf := (if_neg c19).symm.trans hf
    refine lv_aload_n hx hb dX7_groupTurn_70 rfl (lv_at hl 0 rfl) ?_
    refine lv_aload_n hx hb dX7_groupTurn_71 rfl (lv_at hl 1 rfl) ?_
    obtain ⟨b30, hf⟩ := hf_ite hf
    refine pGN_X5_13 (v := (CS.o p15.2 x1 13)) hx hb hts i_X7_groupTurn_X5 hown hK hC (va_Nw.use rfl (hZ.1 (.fieldLinkNest RX7 149 "StatementRules2$Open" "firstCase" "I" "StatementRules2") (by decide +kernel))) (fun _ q9 => q9) dX7_groupTurn_72 b30 rfl ?_
    refine lv_iload_n hx hb dX7_groupTurn_75 rfl (lv_at hl 2 rfl) ?_
    obtain ⟨p31, hcp31, hf⟩ := hf_bind hf
    have mo32 : CS.hs p15.2 ≤ CS.hs p31.2 := Mono.go hcp31 (m_X1_caseNumber N p15.2 (CS.o p15.2 x1 13) x2)
    have hr9 : CS.hs p31.2 ≤ CS.hs R.2 := Mono.go hf (m_X7_groupTurn_87 N E1 E2 hm1 hm2 p31.2 x1 x2)
    have hFc := cFree hC hA
    refine va_callv (va_runU (As := [.int (CS.o p15.2 x1 13), .int x2]) (rest := []) ⟨hx, hb, hml, hown, hts⟩ (c_X1_caseNumber l dC dI Q N p15.2 (CS.o p15.2 x1 13) x2 p31 hcp31) (va_cwU 2 hts hX7_groupTurn_X1_caseNumber_u152 rfl rfl rfl rfl (by decide +kernel) ⟨(show 5 + 1 ≤ (20 + 40 * d) by omega), (show 8 + (5 + 11) + 60 * 5 ≤ 60 * (20 + 40 * d) by omega)⟩) ⟨zPre.blind, va_recv hK hC.1 (ci := 6) (q0 := 3) rfl rfl, cPre_go hZ hK hC⟩ rfl rfl hl.1 rfl (lv_room (Nat.le_of_ble_eq_true rfl)) dX7_groupTurn_76 (cAcc h18 mo32 hr9)) hC.2.2.1 (fun q _ h => hFc q h) hFc (fun u9 t9 H1 locs ht hvm hw hB hz1 hk1 hS => ?_)
    obtain ⟨⟨hP, hK1, hD1⟩, hsz1⟩ := hB
    rw [ht] at hP hsz1
    have hC : CP dC dI Q A s.heap p31.2 H1 locs := ⟨hP, hD1.weaken (fun _ _ _ h => hFc _ h), hS, hsz1⟩
    generalize H1 = H at hC ⊢
    have h34 : z9h ≤ CS.hs p31.2 := Nat.le_trans h18 mo32
    refine W.widen (k := CS.hs p31.2 - z9h) (n := 17 * (CS.hs p31.2 - z9h)) (cAcc2 h18 mo32) (cAcc3 h18 mo32) ?_
    refine lv_goto (tgt := 87) hx hb dX7_groupTurn_79 (by decide) ?_
    exact j_X7_groupTurn_87 l dC dI Q N d E1 E2 hE1 hE2 hm1 hm2 z9h R hx hb hr hml hown hts hlocks hZ hA hK p31.2 x1 x2 _ _ _ hf h34 hC (lv_sub hl [0, 1, 2] rfl)
set_option maxHeartbeats 4000000 in
set_option maxRecDepth 100000 in
theorem j_X7_groupTurn_20 {p : Program} {e : Env} {s : State} {m : MethodId} {args : Array Value} {below : List Frame} {meth : Method} {c : Code} {A : Nat → Prop} (l : Launch) (dC : Nat → ClassId) (dI : Nat → Nat → Nat) (Q : CQ) (N : Nat) (d : Nat) (E1 : CS → Option (Unit × CS)) (E2 : CS → Option (Int32 × CS)) (hE1 : cMF l dC dI Q d E1) (hE2 : cMO l dC dI Q d E2) (hm1 : ∀ σ, Mono (CS.hs σ) (E1 σ)) (hm2 : ∀ σ, Mono (CS.hs σ) (E2 σ)) (z9h : Nat) (R : Unit × CS) (hx : p.tables.exec = Jvm.exec) (hb : c.code = cX7_groupTurn) (hr : meth.sig.returnType = none) (hml : c.maxLocals = 4) (hown : s.vm.findClass RX7 = some m.cls) (hts : ∀ w ∈ wzX7_groupTurn, w.before args s = true) (hlocks : meth.locks = false) (hZ : zAMB s) (hA : ∀ q : Nat, s.heap.size ≤ q → A q) (hK : va_K (dC, dI) vwCl (cT Q) s) : ∀ (σ : CS) (x1 : Nat) (H : Heap) (locs : List Loc) (ls : Array Slot), f_X7_groupTurn_20 N E1 E2 σ x1 = some R → z9h ≤ CS.hs σ → CP dC dI Q A s.heap σ H locs → lv_has ls 4 [(0, .ref (Q.o 3)), (1, .ref x1)] → W p l e ({ frames := (20 + 40 * d), cells := CS.hs R.2 - z9h, slots := 17 * (CS.hs R.2 - z9h), locals := 60 * (20 + 40 * d) }) s m args below meth c H locs (CS.hs σ - z9h) (17 * (CS.hs σ - z9h)) (MQ below (va_Qv (fun (_ : Unit) => True) (fun (_ : Unit) (t : State) => zPost dC dI A (cW Q R.2) (cT Q) t ∧ t.heap.size = CS.hs R.2) A) args s (CS.hs R.2 - z9h) (17 * (CS.hs R.2 - z9h)) A) (F0 m 20 ls []) := by
  intro σ x1 H locs ls hf h0 hC hl
  unfold f_X7_groupTurn_20 at hf
  refine lv_aload_n hx hb dX7_groupTurn_20 rfl (lv_at hl 0 rfl) ?_
  refine cG_29 hx hb hts i_X7_groupTurn_X7 hown hK hC (hts (.fieldLink RX7 20 "StatementRules2$Statements" "code" "LStatementRules2$Code;") k_X7_groupTurn_fieldLink_RX7_20_SR_Statements_code_LSR_Code) (fun x9 q9 => u_same (hts (.sameField "StatementRules2$Statements" "StatementRules2$Formulas" "code" "LStatementRules2$Code;") k_X7_groupTurn_sameField_SR_Statements_SR_Formulas_code_LSR_Code) x9 q9) dX7_groupTurn_21 ?_
  obtain ⟨p6, hcp6, hf⟩ := hf_bind hf
  have mo7 : CS.hs σ ≤ CS.hs p6.2 := Mono.go hcp6 (m_X0_newTarget N σ)
  have hr9 : CS.hs p6.2 ≤ CS.hs R.2 := Mono.go hf (mono_bind (m_X1_found N p6.2 219) (fun p10 => (mono_ite (mono_ite (mono_ite (m_X7_groupTurn_59 N E1 E2 hm1 hm2 p10.2 x1 p6.1 p10.1) (mono_bind (m_X1_fail N p10.2 4 (p10.2.i 44)) (fun p37 => (m_X7_groupTurn_59 N E1 E2 hm1 hm2 p37.2 x1 p6.1 p10.1)))) mono_none) (m_X7_groupTurn_59 N E1 E2 hm1 hm2 p10.2 x1 p6.1 p10.1))))
  have hFc := cFree hC hA
  refine va_calli (va_runV (As := []) (rest := []) ⟨hx, hb, hml, hown, hts⟩ (c_X0_newTarget l dC dI Q N σ p6 hcp6) (cwV 0 hts hX7_groupTurn_X0_newTarget_v136 rfl rfl rfl (by decide +kernel) ⟨(show 2 + 1 ≤ (20 + 40 * d) by omega), (show 8 + (1 + 11) + 60 * 2 ≤ 60 * (20 + 40 * d) by omega)⟩) ⟨zPre.blind, va_recv hK hC.1 (ci := 0) (q0 := 2) rfl rfl, cPre_go hZ hK hC⟩ rfl rfl hl.1 rfl (lv_room (Nat.le_of_ble_eq_true rfl)) dX7_groupTurn_24 (cAcc h0 mo7 hr9)) hC.2.2.1 (fun q _ h => hFc q h) hFc (fun r8 u9 t9 H1 locs ht hvm hw hB hz1 hk1 hS => ?_)
  obtain ⟨⟨hP, hK1, hD1⟩, hsz1⟩ := hB
  rw [ht] at hP hsz1
  have hC : CP dC dI Q A s.heap p6.2 H1 locs := ⟨hP, hD1.weaken (fun _ _ _ h => hFc _ h), hS, hsz1⟩
  generalize H1 = H at hC ⊢
  have h9 : z9h ≤ CS.hs p6.2 := Nat.le_trans h0 mo7
  refine W.widen (k := CS.hs p6.2 - z9h) (n := 17 * (CS.hs p6.2 - z9h)) (cAcc2 h0 mo7) (cAcc3 h0 mo7) ?_
  obtain rfl : r8 = p6.1 := hw
  refine lv_istore_n (lv' := [(2, .int p6.1), (0, .ref (Q.o 3)), (1, .ref x1)]) hx hb dX7_groupTurn_27 rfl hl (by decide) rfl (fun ls hl => ?_)
  refine lv_aload_n hx hb dX7_groupTurn_28 rfl (lv_at hl 1 rfl) ?_
  refine lv_sipush (v := 219) hx hb dX7_groupTurn_29 (by decide) ?_
  obtain ⟨p10, hcp10, hf⟩ := hf_bind hf
  have mo11 : CS.hs p6.2 ≤ CS.hs p10.2 := Mono.go hcp10 (m_X1_found N p6.2 219)
  have hr9 : CS.hs p10.2 ≤ CS.hs R.2 := Mono.go hf (mono_ite (mono_ite (mono_ite (m_X7_groupTurn_59 N E1 E2 hm1 hm2 p10.2 x1 p6.1 p10.1) (mono_bind (m_X1_fail N p10.2 4 (p10.2.i 44)) (fun p37 => (m_X7_groupTurn_59 N E1 E2 hm1 hm2 p37.2 x1 p6.1 p10.1)))) mono_none) (m_X7_groupTurn_59 N E1 E2 hm1 hm2 p10.2 x1 p6.1 p10.1))
  have hFc := cFree hC hA
  refine va_calli (va_runU (As := [.int 219]) (rest := []) ⟨hx, hb, hml, hown, hts⟩ (c_X1_found l dC dI Q N p6.2 219 p10 hcp10) (va_cwU 1 hts hX7_groupTurn_X1_found_u110 rfl rfl rfl rfl (by decide +kernel) ⟨(show 1 + 1 ≤ (20 + 40 * d) by omega), (show 8 + (2 + 11) + 60 * 1 ≤ 60 * (20 + 40 * d) by omega)⟩) ⟨zPre.blind, va_recv hK hC.1 (ci := 6) (q0 := 3) rfl rfl, cPre_go hZ hK hC⟩ rfl rfl hl.1 rfl (lv_room (Nat.le_of_ble_eq_true rfl)) dX7_groupTurn_32 (cAcc h9 mo11 hr9)) hC.2.2.1 (fun q _ h => hFc q h) hFc (fun r12 u9 t9 H1 locs ht hvm hw hB hz1 hk1 hS => ?_)
  obtain ⟨⟨hP, hK1, hD1⟩, hsz1⟩ := hB
  rw [ht] at hP hsz1
  have hC : CP dC dI Q A s.heap p10.2 H1 locs := ⟨hP, hD1.weaken (fun _ _ _ h => hFc _ h), hS, hsz1⟩
  generalize H1 = H at hC ⊢
  have h13 : z9h ≤ CS.hs p10.2 := Nat.le_trans h9 mo11
  refine W.widen (k := CS.hs p10.2 - z9h) (n := 17 * (CS.hs p10.2 - z9h)) (cAcc2 h9 mo11) (cAcc3 h9 mo11) ?_
  obtain rfl : r12 = p10.1 := hw
  refine lv_istore_n (lv' := [(3, .int p10.1), (2, .int p6.1), (0, .ref (Q.o 3)), (1, .ref x1)]) hx hb dX7_groupTurn_35 rfl hl (by decide) rfl (fun ls hl => ?_)
  refine lv_iload_n hx hb dX7_groupTurn_36 rfl (lv_at hl 0 rfl) ?_
  refine lv_if_ne (tgt := 59) hx hb dX7_groupTurn_37 (by decide) (fun c14 => ?_) (fun c14 => ?_)
  ·
    replace hf := (if_neg c14).symm.trans hf
    exact j_X7_groupTurn_59 l dC dI Q N d E1 E2 hE1 hE2 hm1 hm2 z9h R hx hb hr hml hown hts hlocks hZ hA hK p10.2 x1 p6.1 p10.1 _ _ _ hf h13 hC (lv_sub hl [2, 3, 1, 0] rfl)
  ·
    replace hf := (if_pos c14).symm.trans hf
    refine lv_aload_n hx hb dX7_groupTurn_40 rfl (lv_at hl 3 rfl) ?_
    obtain ⟨b35, hf⟩ := hf_ite hf
    refine pGN_X5_11 (v := (CS.o p10.2 x1 11)) hx hb hts i_X7_groupTurn_X5 hown hK hC (va_Nw.use rfl (hZ.1 (.fieldLinkNest RX7 140 "StatementRules2$Open" "other" "I" "StatementRules2") (by decide +kernel))) (fun _ q9 => q9) dX7_groupTurn_41 b35 rfl ?_
    refine lv_if_lt (tgt := 59) hx hb dX7_groupTurn_44 (by decide) (fun c36 => ?_) (fun c36 => ?_)
    ·
      replace hf := (if_pos c36).symm.trans hf
      exact j_X7_groupTurn_59 l dC dI Q N d E1 E2 hE1 hE2 hm1 hm2 z9h R hx hb hr hml hown hts hlocks hZ hA hK p10.2 x1 p6.1 p10.1 _ _ _ hf h13 hC (lv_sub hl [2, 3, 1, 0] rfl)
    ·
      replace hf := (if_neg c36).symm.trans hf
      refine lv_aload_n hx hb dX7_groupTurn_47 rfl (lv_at hl 2 rfl) ?_
      refine lv_iconst (v := 4) hx hb dX7_groupTurn_48 (by decide) ?_
      refine lv_aload_n hx hb dX7_groupTurn_49 rfl (lv_at hl 2 rfl) ?_
      refine cG_28 hx hb hts i_X7_groupTurn_X7 hown hK hC (hts (.fieldLink RX7 71 "StatementRules2$Statements" "tokens" "LStatementRules2$Tokens;") k_X7_groupTurn_fieldLink_RX7_71_SR_Statements_tokens_LSR_Tokens) (fun x9 q9 => u_same (hts (.sameField "StatementRules2$Statements" "StatementRules2$Formulas" "tokens" "LStatementRules2$Tokens;") k_X7_groupTurn_sameField_SR_Statements_SR_Formulas_tokens_LSR_Tokens) x9 q9) dX7_groupTurn_50 ?_
      refine cGN_44 (v := (p10.2.i 44)) hx hb hts i_X7_groupTurn_X9 hown hK hC (va_Nw.use rfl (hZ.1 (.fieldLinkNest RX7 143 "StatementRules2$Tokens" "place" "I" "StatementRules2") (by decide +kernel))) (fun _ q9 => q9) dX7_groupTurn_53 rfl ?_
      obtain ⟨p37, hcp37, hf⟩ := hf_bind hf
      have mo38 : CS.hs p10.2 ≤ CS.hs p37.2 := Mono.go hcp37 (m_X1_fail N p10.2 4 (p10.2.i 44))
      have hr9 : CS.hs p37.2 ≤ CS.hs R.2 := Mono.go hf (m_X7_groupTurn_59 N E1 E2 hm1 hm2 p37.2 x1 p6.1 p10.1)
      have hFc := cFree hC hA
      refine va_callv (va_runU (As := [.int 4, .int (p10.2.i 44)]) (rest := []) ⟨hx, hb, hml, hown, hts⟩ (c_X1_fail l dC dI Q N p10.2 4 (p10.2.i 44) p37 hcp37) (va_cwU 2 hts hX7_groupTurn_X1_fail_u88 rfl rfl rfl rfl (by decide +kernel) ⟨(show 2 + 1 ≤ (20 + 40 * d) by omega), (show 8 + (3 + 11) + 60 * 2 ≤ 60 * (20 + 40 * d) by omega)⟩) ⟨zPre.blind, va_recv hK hC.1 (ci := 6) (q0 := 3) rfl rfl, cPre_go hZ hK hC⟩ rfl rfl hl.1 rfl (lv_room (Nat.le_of_ble_eq_true rfl)) dX7_groupTurn_56 (cAcc h13 mo38 hr9)) hC.2.2.1 (fun q _ h => hFc q h) hFc (fun u9 t9 H1 locs ht hvm hw hB hz1 hk1 hS => ?_)
      obtain ⟨⟨hP, hK1, hD1⟩, hsz1⟩ := hB
      rw [ht] at hP hsz1
      have hC : CP dC dI Q A s.heap p37.2 H1 locs := ⟨hP, hD1.weaken (fun _ _ _ h => hFc _ h), hS, hsz1⟩
      generalize H1 = H at hC ⊢
      have h40 : z9h ≤ CS.hs p37.2 := Nat.le_trans h13 mo38
      refine W.widen (k := CS.hs p37.2 - z9h) (n := 17 * (CS.hs p37.2 - z9h)) (cAcc2 h13 mo38) (cAcc3 h13 mo38) ?_
      exact j_X7_groupTurn_59 l dC dI Q N d E1 E2 hE1 hE2 hm1 hm2 z9h R hx hb hr hml hown hts hlocks hZ hA hK p37.2 x1 p6.1 p10.1 _ _ _ hf h40 hC (lv_sub hl [2, 3, 1, 0] rfl)
set_option maxHeartbeats 4000000 in
set_option maxRecDepth 100000 in
theorem c_X7_groupTurn (l : Launch) (dC : Nat → ClassId) (dI : Nat → Nat → Nat) (Q : CQ) (N : Nat) (d : Nat) (E1 : CS → Option (Unit × CS)) (E2 : CS → Option (Int32 × CS)) (hE1 : cMF l dC dI Q d E1) (hE2 : cMO l dC dI Q d E2) (hm1 : ∀ σ, Mono (CS.hs σ) (E1 σ)) (hm2 : ∀ σ, Mono (CS.hs σ) (E2 σ)) (σ : CS) (x1 : Nat) (R : Unit × CS) (hf : f_X7_groupTurn N E1 E2 σ x1 = some R) : Met l yX7_groupTurn wzX7_groupTurn ({ frames := (20 + 40 * d), cells := CS.hs R.2 - CS.hs σ, slots := 17 * (CS.hs R.2 - CS.hs σ), locals := 60 * (20 + 40 * d) }) (va_Pc [.ref (Q.o 3), .ref x1] (zPre dC dI (CS.hs σ) (cW Q σ) (cT Q))) (va_Qv (fun (_ : Unit) => True) (fun (_ : Unit) (t : State) => zPost dC dI (va_A (cW Q σ) (CS.hs σ)) (cW Q R.2) (cT Q) t ∧ t.heap.size = CS.hs R.2) (va_A (cW Q σ) (CS.hs σ))) (CS.hs R.2 - CS.hs σ) (17 * (CS.hs R.2 - CS.hs σ)) (va_A (cW Q σ) (CS.hs σ)) := by
  refine Met.ofW (cc := cX7_groupTurn) (maxL := 4) (ret := none) (by decide) rfl ?_
  intro p e s m args below meth c s₁ B hml hv
  obtain ⟨rfl, hsz, hZ, hP, hK, hD0⟩ := hv
  have hx := B.exec
  have hb := B.bytes
  have hr := B.returns
  have hts := atoms_spec (ws := wzX7_groupTurn) B.pre
  have hown : s.vm.findClass RX7 = some m.cls := findClass_of_methodNamed B.named
  have hlocks := B.notSynchronized
  have hD := hD0.self (sz := CS.hs σ)
  generalize hAe : va_A (cW Q σ) (CS.hs σ) = A at hD ⊢
  have hA : ∀ q : Nat, s.heap.size ≤ q → A q := fun q h => by rw [← hAe]; exact Or.inr (hsz ▸ h)
  have hC : CP dC dI Q A s.heap σ s.heap [] := ⟨hP, hD, va_S.rf, hsz⟩
  have h0 : CS.hs σ ≤ CS.hs σ := Nat.le_refl _
  have hl := lv_entry ([.ref (Q.o 3), .ref x1]) (n := 4) (Nat.le_of_ble_eq_true rfl)
  rw [lg_entry_eq]
  generalize (lg_sl ([.ref (Q.o 3), .ref x1]) ++ List.replicate (4 - (lg_sl ([.ref (Q.o 3), .ref x1])).length) Slot.unset).toArray = ls at hl ⊢
  have hl : lv_has ls 4 [(0, .ref (Q.o 3)), (1, .ref x1)] := hl
  unfold f_X7_groupTurn at hf
  refine W.widen (k := CS.hs σ - CS.hs σ) (n := 17 * (CS.hs σ - CS.hs σ)) (Nat.zero_le _) (Nat.zero_le _) ?_
  refine lv_aload_n hx hb dX7_groupTurn_0 rfl (lv_at hl 0 rfl) ?_
  refine lv_sipush (v := 219) hx hb dX7_groupTurn_1 (by decide) ?_
  obtain ⟨p1, hcp1, hf⟩ := hf_bind hf
  have mo2 : CS.hs σ ≤ CS.hs p1.2 := Mono.go hcp1 (m_X1_found N σ 219)
  have hr9 : CS.hs p1.2 ≤ CS.hs R.2 := Mono.go hf (mono_ite (mono_bind (m_X1_found N p1.2 220) (fun p41 => (mono_ite (mono_ite (mono_ite (mono_bind (m_X1_misplaced N p41.2) (fun p48 => (mono_some (Nat.le_refl _)))) (mono_bind (m_X7_statement N E1 E2 hm1 hm2 p41.2 0) (fun p52 => (mono_some (Nat.le_refl _))))) mono_none) (m_X7_groupTurn_20 N E1 E2 hm1 hm2 p41.2 x1)))) (m_X7_groupTurn_20 N E1 E2 hm1 hm2 p1.2 x1))
  have hFc := cFree hC hA
  refine va_calli (va_runU (As := [.int 219]) (rest := []) ⟨hx, hb, hml, hown, hts⟩ (c_X1_found l dC dI Q N σ 219 p1 hcp1) (va_cwU 1 hts hX7_groupTurn_X1_found_u110 rfl rfl rfl rfl (by decide +kernel) ⟨(show 1 + 1 ≤ (20 + 40 * d) by omega), (show 8 + (2 + 11) + 60 * 1 ≤ 60 * (20 + 40 * d) by omega)⟩) ⟨zPre.blind, va_recv hK hC.1 (ci := 6) (q0 := 3) rfl rfl, cPre_go hZ hK hC⟩ rfl rfl hl.1 rfl (lv_room (Nat.le_of_ble_eq_true rfl)) dX7_groupTurn_4 (cAcc h0 mo2 hr9)) hC.2.2.1 (fun q _ h => hFc q h) hFc (fun r3 u9 t9 H1 locs ht hvm hw hB hz1 hk1 hS => ?_)
  obtain ⟨⟨hP, hK1, hD1⟩, hsz1⟩ := hB
  rw [ht] at hP hsz1
  have hC : CP dC dI Q A s.heap p1.2 H1 locs := ⟨hP, hD1.weaken (fun _ _ _ h => hFc _ h), hS, hsz1⟩
  generalize H1 = H at hC ⊢
  have h4 : (CS.hs σ) ≤ CS.hs p1.2 := Nat.le_trans h0 mo2
  refine W.widen (k := CS.hs p1.2 - (CS.hs σ)) (n := 17 * (CS.hs p1.2 - (CS.hs σ))) (cAcc2 h0 mo2) (cAcc3 h0 mo2) ?_
  obtain rfl : r3 = p1.1 := hw
  refine lv_if_ne (tgt := 20) hx hb dX7_groupTurn_7 (by decide) (fun c5 => ?_) (fun c5 => ?_)
  ·
    replace hf := (if_neg c5).symm.trans hf
    exact j_X7_groupTurn_20 l dC dI Q N d E1 E2 hE1 hE2 hm1 hm2 (CS.hs σ) R hx hb hr hml hown hts hlocks hZ hA hK p1.2 x1 _ _ _ hf h4 hC (lv_sub hl [0, 1] rfl)
  ·
    replace hf := (if_pos c5).symm.trans hf
    refine lv_aload_n hx hb dX7_groupTurn_10 rfl (lv_at hl 0 rfl) ?_
    refine lv_sipush (v := 220) hx hb dX7_groupTurn_11 (by decide) ?_
    obtain ⟨p41, hcp41, hf⟩ := hf_bind hf
    have mo42 : CS.hs p1.2 ≤ CS.hs p41.2 := Mono.go hcp41 (m_X1_found N p1.2 220)
    have hr9 : CS.hs p41.2 ≤ CS.hs R.2 := Mono.go hf (mono_ite (mono_ite (mono_ite (mono_bind (m_X1_misplaced N p41.2) (fun p48 => (mono_some (Nat.le_refl _)))) (mono_bind (m_X7_statement N E1 E2 hm1 hm2 p41.2 0) (fun p52 => (mono_some (Nat.le_refl _))))) mono_none) (m_X7_groupTurn_20 N E1 E2 hm1 hm2 p41.2 x1))
    have hFc := cFree hC hA
    refine va_calli (va_runU (As := [.int 220]) (rest := []) ⟨hx, hb, hml, hown, hts⟩ (c_X1_found l dC dI Q N p1.2 220 p41 hcp41) (va_cwU 1 hts hX7_groupTurn_X1_found_u110 rfl rfl rfl rfl (by decide +kernel) ⟨(show 1 + 1 ≤ (20 + 40 * d) by omega), (show 8 + (2 + 11) + 60 * 1 ≤ 60 * (20 + 40 * d) by omega)⟩) ⟨zPre.blind, va_recv hK hC.1 (ci := 6) (q0 := 3) rfl rfl, cPre_go hZ hK hC⟩ rfl rfl hl.1 rfl (lv_room (Nat.le_of_ble_eq_true rfl)) dX7_groupTurn_14 (cAcc h4 mo42 hr9)) hC.2.2.1 (fun q _ h => hFc q h) hFc (fun r43 u9 t9 H1 locs ht hvm hw hB hz1 hk1 hS => ?_)
    obtain ⟨⟨hP, hK1, hD1⟩, hsz1⟩ := hB
    rw [ht] at hP hsz1
    have hC : CP dC dI Q A s.heap p41.2 H1 locs := ⟨hP, hD1.weaken (fun _ _ _ h => hFc _ h), hS, hsz1⟩
    generalize H1 = H at hC ⊢
    have h44 : (CS.hs σ) ≤ CS.hs p41.2 := Nat.le_trans h4 mo42
    refine W.widen (k := CS.hs p41.2 - (CS.hs σ)) (n := 17 * (CS.hs p41.2 - (CS.hs σ))) (cAcc2 h4 mo42) (cAcc3 h4 mo42) ?_
    obtain rfl : r43 = p41.1 := hw
    refine lv_if_eq (tgt := 114) hx hb dX7_groupTurn_17 (by decide) (fun c45 => ?_) (fun c45 => ?_)
    ·
      replace hf := (if_pos c45).symm.trans hf
      refine lv_aload_n hx hb dX7_groupTurn_114 rfl (lv_at hl 1 rfl) ?_
      obtain ⟨b46, hf⟩ := hf_ite hf
      refine pGN_X5_5 (v := (CS.o p41.2 x1 5)) hx hb hts i_X7_groupTurn_X5 hown hK hC (va_Nw.use rfl (hZ.1 (.fieldLinkNest RX7 130 "StatementRules2$Open" "begun" "Z" "StatementRules2") (by decide +kernel))) (fun _ q9 => q9) dX7_groupTurn_115 b46 rfl ?_
      refine lv_if_eq (tgt := 129) hx hb dX7_groupTurn_118 (by decide) (fun c47 => ?_) (fun c47 => ?_)
      ·
        replace hf := (if_pos c47).symm.trans hf
        refine lv_aload_n hx hb dX7_groupTurn_129 rfl (lv_at hl 0 rfl) ?_
        obtain ⟨p48, hcp48, hf⟩ := hf_bind hf
        have mo49 : CS.hs p41.2 ≤ CS.hs p48.2 := Mono.go hcp48 (m_X1_misplaced N p41.2)
        have hr9 : CS.hs p48.2 ≤ CS.hs R.2 := Mono.go hf (mono_some (Nat.le_refl _))
        have hFc := cFree hC hA
        refine va_callv (va_runU (As := []) (rest := []) ⟨hx, hb, hml, hown, hts⟩ (c_X1_misplaced l dC dI Q N p41.2 p48 hcp48) (va_cwU 0 hts hX7_groupTurn_X1_misplaced_u161 rfl rfl rfl rfl (by decide +kernel) ⟨(show 3 + 1 ≤ (20 + 40 * d) by omega), (show 8 + (1 + 11) + 60 * 3 ≤ 60 * (20 + 40 * d) by omega)⟩) ⟨zPre.blind, va_recv hK hC.1 (ci := 6) (q0 := 3) rfl rfl, cPre_go hZ hK hC⟩ rfl rfl hl.1 rfl (lv_room (Nat.le_of_ble_eq_true rfl)) dX7_groupTurn_130 (cAcc h44 mo49 hr9)) hC.2.2.1 (fun q _ h => hFc q h) hFc (fun u9 t9 H1 locs ht hvm hw hB hz1 hk1 hS => ?_)
        obtain ⟨⟨hP, hK1, hD1⟩, hsz1⟩ := hB
        rw [ht] at hP hsz1
        have hC : CP dC dI Q A s.heap p48.2 H1 locs := ⟨hP, hD1.weaken (fun _ _ _ h => hFc _ h), hS, hsz1⟩
        generalize H1 = H at hC ⊢
        have h51 : (CS.hs σ) ≤ CS.hs p48.2 := Nat.le_trans h44 mo49
        refine W.widen (k := CS.hs p48.2 - (CS.hs σ)) (n := 17 * (CS.hs p48.2 - (CS.hs σ))) (cAcc2 h44 mo49) (cAcc3 h44 mo49) ?_
        obtain rfl := Option.some.inj hf
        exact W.vret hx hb hr (fun t ht hW => ⟨⟨(), rfl, trivial, ⟨by rw [ht]; exact hC.1, va_K.moved hW.alike hK, hC.2.1⟩, by rw [ht]; exact hC.2.2.2⟩, hC.2.2.1.F ht⟩) hC.2.2.1.2.2 dX7_groupTurn_133
      ·
        replace hf := (if_neg c47).symm.trans hf
        refine lv_aload_n hx hb dX7_groupTurn_121 rfl (lv_at hl 0 rfl) ?_
        refine lv_iconst (v := 0) hx hb dX7_groupTurn_122 (by decide) ?_
        obtain ⟨p52, hcp52, hf⟩ := hf_bind hf
        have mo53 : CS.hs p41.2 ≤ CS.hs p52.2 := Mono.go hcp52 (m_X7_statement N E1 E2 hm1 hm2 p41.2 0)
        have hr9 : CS.hs p52.2 ≤ CS.hs R.2 := Mono.go hf (mono_some (Nat.le_refl _))
        have hFc := cFree hC hA
        refine va_callv (va_runV (As := [.int 0]) (rest := []) ⟨hx, hb, hml, hown, hts⟩ (c_X7_statement l dC dI Q N d E1 E2 hE1 hE2 hm1 hm2 p41.2 0 p52 hcp52) (cwV 1 hts hX7_groupTurn_X7_statement_v126 rfl rfl rfl (by decide +kernel) ⟨(show (19 + 40 * d) + 1 ≤ (20 + 40 * d) by omega), (show 8 + (2 + 11) + 60 * (19 + 40 * d) ≤ 60 * (20 + 40 * d) by omega)⟩) ⟨zPre.blind, va_recv hK hC.1 (ci := 6) (q0 := 3) rfl rfl, cPre_go hZ hK hC⟩ rfl rfl hl.1 rfl (lv_room (Nat.le_of_ble_eq_true rfl)) dX7_groupTurn_123 (cAcc h44 mo53 hr9)) hC.2.2.1 (fun q _ h => hFc q h) hFc (fun u9 t9 H1 locs ht hvm hw hB hz1 hk1 hS => ?_)
        obtain ⟨⟨hP, hK1, hD1⟩, hsz1⟩ := hB
        rw [ht] at hP hsz1
        have hC : CP dC dI Q A s.heap p52.2 H1 locs := ⟨hP, hD1.weaken (fun _ _ _ h => hFc _ h), hS, hsz1⟩
        generalize H1 = H at hC ⊢
        have h55 : (CS.hs σ) ≤ CS.hs p52.2 := Nat.le_trans h44 mo53
        refine W.widen (k := CS.hs p52.2 - (CS.hs σ)) (n := 17 * (CS.hs p52.2 - (CS.hs σ))) (cAcc2 h44 mo53) (cAcc3 h44 mo53) ?_
        refine lv_goto (tgt := 133) hx hb dX7_groupTurn_126 (by decide) ?_
        obtain rfl := Option.some.inj hf
        exact W.vret hx hb hr (fun t ht hW => ⟨⟨(), rfl, trivial, ⟨by rw [ht]; exact hC.1, va_K.moved hW.alike hK, hC.2.1⟩, by rw [ht]; exact hC.2.2.2⟩, hC.2.2.1.F ht⟩) hC.2.2.1.2.2 dX7_groupTurn_133
    ·
      replace hf := (if_neg c45).symm.trans hf
      exact j_X7_groupTurn_20 l dC dI Q N d E1 E2 hE1 hE2 hm1 hm2 (CS.hs σ) R hx hb hr hml hown hts hlocks hZ hA hK p41.2 x1 _ _ _ hf h44 hC (lv_sub hl [0, 1] rfl)
theorem k_X7_turns_fieldLink_RX7_52_SR_Statements_faultNumber_I : Cond.fieldLink RX7 52 "StatementRules2$Statements" "faultNumber" "I" ∈ wzX7_turns := List.mem_cons_of_mem _ (List.mem_append_right _ (List.mem_append_right _ (List.mem_append_right _ (List.mem_append_right _ (List.mem_append_right _ (List.mem_append_right _ (List.mem_append_right _ (List.mem_append_right _ (List.mem_append_right _ (List.mem_append_right _ (List.mem_append_right _ (List.mem_append_right _ (List.mem_append_right _ (List.mem_append_right _ (List.mem_append_right _ (List.mem_append_right _ (List.mem_append_right _ (List.mem_append_right _ (List.mem_append_right _ (List.mem_append_right _ (List.mem_append_right _ (List.mem_append_right _ (List.mem_append_right _ (List.mem_append_right _ (List.mem_append_right _ (List.mem_append_right _ (List.mem_append_right _ (List.mem_append_right _ (List.mem_append_right _ (List.mem_append_right _ (List.mem_append_right _ (List.mem_append_right _ (List.mem_append_right _ (List.mem_append_right _ (List.mem_append_left _ (List.mem_of_getElem? (i := 0) rfl))))))))))))))))))))))))))))))))))))
theorem k_X7_turns_sameField_SR_Statements_SR_Formulas_faultNumber_I : Cond.sameField "StatementRules2$Statements" "StatementRules2$Formulas" "faultNumber" "I" ∈ wzX7_turns := List.mem_cons_of_mem _ (List.mem_append_right _ (List.mem_append_right _ (List.mem_append_right _ (List.mem_append_right _ (List.mem_append_right _ (List.mem_append_right _ (List.mem_append_right _ (List.mem_append_right _ (List.mem_append_right _ (List.mem_append_right _ (List.mem_append_right _ (List.mem_append_right _ (List.mem_append_right _ (List.mem_append_right _ (List.mem_append_right _ (List.mem_append_right _ (List.mem_append_right _ (List.mem_append_right _ (List.mem_append_right _ (List.mem_append_right _ (List.mem_append_right _ (List.mem_append_right _ (List.mem_append_right _ (List.mem_append_right _ (List.mem_append_right _ (List.mem_append_right _ (List.mem_append_right _ (List.mem_append_right _ (List.mem_append_right _ (List.mem_append_right _ (List.mem_append_right _ (List.mem_append_right _ (List.mem_append_right _ (List.mem_append_right _ (List.mem_append_left _ (List.mem_of_getElem? (i := 1) rfl))))))))))))))))))))))))))))))))))))
theorem i_X7_turns_X7 : ∀ w ∈ wsX70, w ∈ wzX7_turns := fun _ h => List.mem_cons_of_mem _ (List.mem_append_right _ (List.mem_append_right _ (List.mem_append_right _ (List.mem_append_right _ (List.mem_append_right _ (List.mem_append_right _ (List.mem_append_right _ (List.mem_append_right _ (List.mem_append_right _ (List.mem_append_right _ (List.mem_append_right _ (List.mem_append_right _ (List.mem_append_right _ (List.mem_append_right _ (List.mem_append_right _ (List.mem_append_right _ (List.mem_append_right _ (List.mem_append_right _ (List.mem_append_right _ (List.mem_append_right _ (List.mem_append_right _ (List.mem_append_right _ (List.mem_append_right _ (List.mem_append_right _ (List.mem_append_right _ (List.mem_append_right _ (List.mem_append_right _ (List.mem_append_right _ (List.mem_append_right _ (List.mem_append_right _ (List.mem_append_right _ (List.mem_append_right _ (List.mem_append_right _ (List.mem_append_right _ (List.mem_append_right _ (List.mem_append_right _ (List.mem_append_left _ (h))))))))))))))))))))))))))))))))))))))
theorem k_X7_turns_fieldLink_RX7_14_SR_Statements_opens_LSR_Opens : Cond.fieldLink RX7 14 "StatementRules2$Statements" "opens" "LStatementRules2$Opens;" ∈ wzX7_turns := List.mem_cons_of_mem _ (List.mem_append_right _ (List.mem_append_right _ (List.mem_append_right _ (List.mem_append_right _ (List.mem_append_right _ (List.mem_append_right _ (List.mem_append_right _ (List.mem_append_right _ (List.mem_append_right _ (List.mem_append_right _ (List.mem_append_right _ (List.mem_append_right _ (List.mem_append_right _ (List.mem_append_right _ (List.mem_append_right _ (List.mem_append_right _ (List.mem_append_right _ (List.mem_append_right _ (List.mem_append_right _ (List.mem_append_right _ (List.mem_append_right _ (List.mem_append_right _ (List.mem_append_right _ (List.mem_append_right _ (List.mem_append_right _ (List.mem_append_right _ (List.mem_append_right _ (List.mem_append_right _ (List.mem_append_right _ (List.mem_append_right _ (List.mem_append_right _ (List.mem_append_right _ (List.mem_append_right _ (List.mem_append_right _ (List.mem_append_left _ (List.mem_of_getElem? (i := 2) rfl))))))))))))))))))))))))))))))))))))
theorem i_X7_turns_X6 : ∀ w ∈ wsX60, w ∈ wzX7_turns := fun _ h => List.mem_cons_of_mem _ (List.mem_append_right _ (List.mem_append_right _ (List.mem_append_right _ (List.mem_append_right _ (List.mem_append_right _ (List.mem_append_right _ (List.mem_append_right _ (List.mem_append_right _ (List.mem_append_right _ (List.mem_append_right _ (List.mem_append_right _ (List.mem_append_right _ (List.mem_append_right _ (List.mem_append_right _ (List.mem_append_right _ (List.mem_append_right _ (List.mem_append_right _ (List.mem_append_right _ (List.mem_append_right _ (List.mem_append_right _ (List.mem_append_right _ (List.mem_append_right _ (List.mem_append_right _ (List.mem_append_right _ (List.mem_append_right _ (List.mem_append_right _ (List.mem_append_right _ (List.mem_append_right _ (List.mem_append_right _ (List.mem_append_right _ (List.mem_append_right _ (List.mem_append_right _ (List.mem_append_right _ (List.mem_append_right _ (List.mem_append_right _ (List.mem_append_right _ (List.mem_append_right _ (List.mem_append_right _ (List.mem_append_right _ (List.mem_append_left _ (h)))))))))))))))))))))))))))))))))))))))))
theorem i_X7_turns_X5 : ∀ w ∈ wsX50, w ∈ wzX7_turns := fun _ h => List.mem_cons_of_mem _ (List.mem_append_right _ (List.mem_append_right _ (List.mem_append_right _ (List.mem_append_right _ (List.mem_append_right _ (List.mem_append_right _ (List.mem_append_right _ (List.mem_append_right _ (List.mem_append_right _ (List.mem_append_right _ (List.mem_append_right _ (List.mem_append_right _ (List.mem_append_right _ (List.mem_append_right _ (List.mem_append_right _ (List.mem_append_right _ (List.mem_append_right _ (List.mem_append_right _ (List.mem_append_right _ (List.mem_append_right _ (List.mem_append_right _ (List.mem_append_right _ (List.mem_append_right _ (List.mem_append_right _ (List.mem_append_right _ (List.mem_append_right _ (List.mem_append_right _ (List.mem_append_right _ (List.mem_append_right _ (List.mem_append_right _ (List.mem_append_right _ (List.mem_append_right _ (List.mem_append_right _ (List.mem_append_right _ (List.mem_append_right _ (List.mem_append_right _ (List.mem_append_right _ (List.mem_append_right _ (List.mem_append_right _ (List.mem_append_right _ (List.mem_append_right _ (List.mem_append_left _ (h)))))))))))))))))))))))))))))))))))))))))))
set_option maxHeartbeats 4000000 in
set_option maxRecDepth 100000 in
theorem j_X7_turns_2 {p : Program} {e : Env} {s : State} {m : MethodId} {args : Array Value} {below : List Frame} {meth : Method} {c : Code} {A : Nat → Prop} (l : Launch) (dC : Nat → ClassId) (dI : Nat → Nat → Nat) (Q : CQ) (N : Nat) (d : Nat) (E1 : CS → Option (Unit × CS)) (E2 : CS → Option (Int32 × CS)) (hE1 : cMF l dC dI Q d E1) (hE2 : cMO l dC dI Q d E2) (hm1 : ∀ σ, Mono (CS.hs σ) (E1 σ)) (hm2 : ∀ σ, Mono (CS.hs σ) (E2 σ)) (z9h : Nat) (R : Unit × CS) (hx : p.tables.exec = Jvm.exec) (hb : c.code = cX7_turns) (hr : meth.sig.returnType = none) (hml : c.maxLocals = 4) (hown : s.vm.findClass RX7 = some m.cls) (hts : ∀ w ∈ wzX7_turns, w.before args s = true) (hlocks : meth.locks = false) (hZ : zAMB s) (hA : ∀ q : Nat, s.heap.size ≤ q → A q) (hK : va_K (dC, dI) vwCl (cT Q) s) : ∀ (n9 : Nat), ∀ (σ : CS) (x1 : Int32) (x2 : Int32) (H : Heap) (locs : List Loc) (ls : Array Slot), f_X7_turns_2 N E1 E2 n9 σ x1 x2 = some R → z9h ≤ CS.hs σ → CP dC dI Q A s.heap σ H locs → lv_has ls 4 [(0, .ref (Q.o 3)), (1, .int x1), (2, .int x2)] → W p l e ({ frames := (21 + 40 * d), cells := CS.hs R.2 - z9h, slots := 17 * (CS.hs R.2 - z9h), locals := 60 * (21 + 40 * d) }) s m args below meth c H locs (CS.hs σ - z9h) (17 * (CS.hs σ - z9h)) (MQ below (va_Qv (fun (_ : Unit) => True) (fun (_ : Unit) (t : State) => zPost dC dI A (cW Q R.2) (cT Q) t ∧ t.heap.size = CS.hs R.2) A) args s (CS.hs R.2 - z9h) (17 * (CS.hs R.2 - z9h)) A) (F0 m 2 ls []) := by
  intro n9
  induction n9 with
  | zero => intro σ x1 x2 H locs ls hf; exact absurd hf (by intro q9; cases q9)
  | succ n9 ih =>
    intro σ x1 x2 H locs ls hf h0 hC hl
    replace hf : b_X7_turns_2 N E1 E2 (f_X7_turns_2 N E1 E2 n9) σ x1 x2 = some R := hf
    unfold b_X7_turns_2 at hf
    have hMK := fun (σ : CS) (x1 : Int32) (x2 : Int32) => m_X7_turns_2 N E1 E2 hm1 hm2 n9 σ x1 x2
    refine lv_iload_n hx hb dX7_turns_2 rfl (lv_at hl 2 rfl) ?_
    refine lv_sipush (v := 10000) hx hb dX7_turns_3 (by decide) ?_
    refine lv_icmp_ge (tgt := 164) hx hb dX7_turns_6 (by decide) (fun c1 => ?_) (fun c1 => ?_)
    ·
      replace hf := (if_pos c1).symm.trans hf
      have w9 : ¬ ((σ.i 32) = 0 ∧ ¬ (σ.i 53) ≤ x1) := fun z9 => by rw [if_pos z9] at hf; cases hf
      replace hf := (if_neg w9).symm.trans hf
      obtain rfl := Option.some.inj hf
      exact W.vret hx hb hr (fun t ht hW => ⟨⟨(), rfl, trivial, ⟨by rw [ht]; exact hC.1, va_K.moved hW.alike hK, hC.2.1⟩, by rw [ht]; exact hC.2.2.2⟩, hC.2.2.1.F ht⟩) hC.2.2.1.2.2 dX7_turns_164
    ·
      replace hf := (if_neg c1).symm.trans hf
      refine lv_aload_n hx hb dX7_turns_9 rfl (lv_at hl 0 rfl) ?_
      refine cG_32 (v := (σ.i 32)) hx hb hts i_X7_turns_X7 hown hK hC (hts (.fieldLink RX7 52 "StatementRules2$Statements" "faultNumber" "I") k_X7_turns_fieldLink_RX7_52_SR_Statements_faultNumber_I) (fun x9 q9 => u_same (hts (.sameField "StatementRules2$Statements" "StatementRules2$Formulas" "faultNumber" "I") k_X7_turns_sameField_SR_Statements_SR_Formulas_faultNumber_I) x9 q9) dX7_turns_10 rfl ?_
      refine lv_if_ne (tgt := 164) hx hb dX7_turns_13 (by decide) (fun c2 => ?_) (fun c2 => ?_)
      ·
        replace hf := (if_neg c2).symm.trans hf
        obtain rfl := Option.some.inj hf
        exact W.vret hx hb hr (fun t ht hW => ⟨⟨(), rfl, trivial, ⟨by rw [ht]; exact hC.1, va_K.moved hW.alike hK, hC.2.1⟩, by rw [ht]; exact hC.2.2.2⟩, hC.2.2.1.F ht⟩) hC.2.2.1.2.2 dX7_turns_164
      ·
        replace hf := (if_pos c2).symm.trans hf
        refine lv_aload_n hx hb dX7_turns_16 rfl (lv_at hl 0 rfl) ?_
        refine cG_35 hx hb hts i_X7_turns_X7 hown hK hC (hts (.fieldLink RX7 14 "StatementRules2$Statements" "opens" "LStatementRules2$Opens;") k_X7_turns_fieldLink_RX7_14_SR_Statements_opens_LSR_Opens) (fun _ q9 => q9) dX7_turns_17 ?_
        refine cGN_53 (v := (σ.i 53)) hx hb hts i_X7_turns_X6 hown hK hC (va_Nw.use rfl (hZ.1 (.fieldLinkNest RX7 92 "StatementRules2$Opens" "count" "I" "StatementRules2") (by decide +kernel))) (fun _ q9 => q9) dX7_turns_20 rfl ?_
        refine lv_iload_n hx hb dX7_turns_23 rfl (lv_at hl 1 rfl) ?_
        refine lv_icmp_le (tgt := 164) hx hb dX7_turns_24 (by decide) (fun c3 => ?_) (fun c3 => ?_)
        ·
          replace hf := (if_pos c3).symm.trans hf
          obtain rfl := Option.some.inj hf
          exact W.vret hx hb hr (fun t ht hW => ⟨⟨(), rfl, trivial, ⟨by rw [ht]; exact hC.1, va_K.moved hW.alike hK, hC.2.1⟩, by rw [ht]; exact hC.2.2.2⟩, hC.2.2.1.F ht⟩) hC.2.2.1.2.2 dX7_turns_164
        ·
          replace hf := (if_neg c3).symm.trans hf
          refine lv_aload_n hx hb dX7_turns_27 rfl (lv_at hl 0 rfl) ?_
          refine cG_35 hx hb hts i_X7_turns_X7 hown hK hC (hts (.fieldLink RX7 14 "StatementRules2$Statements" "opens" "LStatementRules2$Opens;") k_X7_turns_fieldLink_RX7_14_SR_Statements_opens_LSR_Opens) (fun _ q9 => q9) dX7_turns_28 ?_
          refine lv_aload_n hx hb dX7_turns_31 rfl (lv_at hl 0 rfl) ?_
          refine cG_35 hx hb hts i_X7_turns_X7 hown hK hC (hts (.fieldLink RX7 14 "StatementRules2$Statements" "opens" "LStatementRules2$Opens;") k_X7_turns_fieldLink_RX7_14_SR_Statements_opens_LSR_Opens) (fun _ q9 => q9) dX7_turns_32 ?_
          refine cGN_53 (v := (σ.i 53)) hx hb hts i_X7_turns_X6 hown hK hC (va_Nw.use rfl (hZ.1 (.fieldLinkNest RX7 92 "StatementRules2$Opens" "count" "I" "StatementRules2") (by decide +kernel))) (fun _ q9 => q9) dX7_turns_35 rfl ?_
          refine lv_iconst (v := 1) hx hb dX7_turns_38 (by decide) ?_
          refine lv_isub hx hb dX7_turns_39 ?_
          obtain ⟨p4, hcp4, hf⟩ := hf_bind hf
          have mo5 : CS.hs σ ≤ CS.hs p4.2 := Mono.go hcp4 (m_X6_row N σ ((σ.i 53) - 1))
          have hr9 : CS.hs p4.2 ≤ CS.hs R.2 := Mono.go hf (mono_oc (mono_some (Nat.le_refl _)) (fun a9 => (mono_ite (mono_bind (m_X5_hasOneBody N p4.2 a9) (fun p12 => (mono_ite (mono_ite (mono_ite (mono_bind (m_X1_found N p12.2 215) (fun p47 => (mono_ite (mono_ite (mono_ite (mono_bind (m_X7_beginFinally N p47.2 a9) (fun p82 => (hMK p82.2 x1 (x2 + 1)))) (mono_bind (m_X1_found N p47.2 125) (fun p54 => (mono_ite (mono_bind (m_X1_found N p54.2 0) (fun p63 => (mono_ite (mono_ite (mono_ite (mono_bind (m_X7_groupTurn N E1 E2 hm1 hm2 p63.2 a9) (fun p74 => (hMK p74.2 x1 (x2 + 1)))) (mono_bind (m_X7_statement N E1 E2 hm1 hm2 p63.2 0) (fun p70 => (hMK p70.2 x1 (x2 + 1))))) mono_none) (mono_bind (m_X7_endList N p63.2 a9) (fun p78 => (hMK p78.2 x1 (x2 + 1))))))) (mono_bind (m_X7_endList N p54.2 a9) (fun p59 => (hMK p59.2 x1 (x2 + 1)))))))) mono_none) (mono_bind (m_X7_beginCatch N p47.2 a9) (fun p86 => (hMK p86.2 x1 (x2 + 1))))))) (mono_bind (m_X1_found N p12.2 125) (fun p19 => (mono_ite (mono_bind (m_X1_found N p19.2 0) (fun p28 => (mono_ite (mono_ite (mono_ite (mono_bind (m_X7_groupTurn N E1 E2 hm1 hm2 p28.2 a9) (fun p39 => (hMK p39.2 x1 (x2 + 1)))) (mono_bind (m_X7_statement N E1 E2 hm1 hm2 p28.2 0) (fun p35 => (hMK p35.2 x1 (x2 + 1))))) mono_none) (mono_bind (m_X7_endList N p28.2 a9) (fun p43 => (hMK p43.2 x1 (x2 + 1))))))) (mono_bind (m_X7_endList N p19.2 a9) (fun p24 => (hMK p24.2 x1 (x2 + 1)))))))) mono_none) (mono_bind (m_X7_bodyTurn N E1 E2 hm1 hm2 p12.2 a9) (fun p90 => (hMK p90.2 x1 (x2 + 1))))))) mono_none)))
          have hFc := cFree hC hA
          refine va_callq (va_runV (As := [.int ((σ.i 53) - 1)]) (rest := []) ⟨hx, hb, hml, hown, hts⟩ (c_X6_row l dC dI Q N σ ((σ.i 53) - 1) p4 hcp4) (cwV 1 hts hX7_turns_X6_row_v93 rfl rfl rfl (by decide +kernel) ⟨(show 1 + 1 ≤ (21 + 40 * d) by omega), (show 8 + (2 + 11) + 60 * 1 ≤ 60 * (21 + 40 * d) by omega)⟩) ⟨zPre.blind, va_recv hK hC.1 (ci := 5) (q0 := 6) rfl rfl, cPre_go hZ hK hC⟩ rfl rfl hl.1 rfl (lv_room (Nat.le_of_ble_eq_true rfl)) dX7_turns_40 (cAcc h0 mo5 hr9)) hC.2.2.1 (fun q _ h => hFc q h) hFc (fun r6 u9 t9 H1 locs ht hvm hw hB hz1 hk1 hS => ?_)
          obtain ⟨⟨hP, hK1, hD1⟩, hsz1⟩ := hB
          rw [ht] at hP hsz1
          have hC : CP dC dI Q A s.heap p4.2 H1 locs := ⟨hP, hD1.weaken (fun _ _ _ h => hFc _ h), hS, hsz1⟩
          generalize H1 = H at hC ⊢
          have h7 : z9h ≤ CS.hs p4.2 := Nat.le_trans h0 mo5
          refine W.widen (k := CS.hs p4.2 - z9h) (n := 17 * (CS.hs p4.2 - z9h)) (cAcc2 h0 mo5) (cAcc3 h0 mo5) ?_
          obtain rfl : r6 = p4.1 := hw
          rcases hf_oc hf with ⟨q8, hf⟩ | ⟨a9, q8, hf⟩
          ·
            refine W.eq (congrArg (fun v9 => F0 m 43 ls (va_rf v9 :: [])) q8) ?_
            refine W.eq (g2 := F0 m 43 ls (.null :: [])) rfl ?_
            refine lv_astore_nN (lv' := [(3, .null), (0, .ref (Q.o 3)), (1, .int x1), (2, .int x2)]) hx hb dX7_turns_43 rfl hl (by decide) rfl (fun ls hl => ?_)
            refine lv_aload_nN hx hb dX7_turns_44 rfl (lv_at hl 0 rfl) ?_
            refine lv_ifnonnullN hx hb dX7_turns_45 ?_
            obtain rfl := Option.some.inj hf
            exact W.vret hx hb hr (fun t ht hW => ⟨⟨(), rfl, trivial, ⟨by rw [ht]; exact hC.1, va_K.moved hW.alike hK, hC.2.1⟩, by rw [ht]; exact hC.2.2.2⟩, hC.2.2.1.F ht⟩) hC.2.2.1.2.2 dX7_turns_48
          ·
            refine W.eq (congrArg (fun v9 => F0 m 43 ls (va_rf v9 :: [])) q8) ?_
            refine W.eq (g2 := F0 m 43 ls (.ref a9 :: [])) rfl ?_
            refine lv_astore_n (lv' := [(3, .ref a9), (0, .ref (Q.o 3)), (1, .int x1), (2, .int x2)]) hx hb dX7_turns_43 rfl hl (by decide) rfl (fun ls hl => ?_)
            refine lv_aload_n hx hb dX7_turns_44 rfl (lv_at hl 0 rfl) ?_
            refine lv_ifnonnull (tgt := 49) hx hb dX7_turns_45 (by decide) ?_
            refine lv_aload_n hx hb dX7_turns_49 rfl (lv_at hl 0 rfl) ?_
            obtain ⟨b10, hf⟩ := hf_ite hf
            obtain ⟨k11, hk11⟩ := cPl (Q := Q) (s := p4.2) (a := a9) b10.1
            rw [cE0 (show CS.k p4.2 a9 = 0 from b10.2)] at hk11
            obtain ⟨p12, hcp12, hf⟩ := hf_bind hf
            have mo13 : CS.hs p4.2 ≤ CS.hs p12.2 := Mono.go hcp12 (m_X5_hasOneBody N p4.2 a9)
            have hr9 : CS.hs p12.2 ≤ CS.hs R.2 := Mono.go hf (mono_ite (mono_ite (mono_ite (mono_bind (m_X1_found N p12.2 215) (fun p47 => (mono_ite (mono_ite (mono_ite (mono_bind (m_X7_beginFinally N p47.2 a9) (fun p82 => (hMK p82.2 x1 (x2 + 1)))) (mono_bind (m_X1_found N p47.2 125) (fun p54 => (mono_ite (mono_bind (m_X1_found N p54.2 0) (fun p63 => (mono_ite (mono_ite (mono_ite (mono_bind (m_X7_groupTurn N E1 E2 hm1 hm2 p63.2 a9) (fun p74 => (hMK p74.2 x1 (x2 + 1)))) (mono_bind (m_X7_statement N E1 E2 hm1 hm2 p63.2 0) (fun p70 => (hMK p70.2 x1 (x2 + 1))))) mono_none) (mono_bind (m_X7_endList N p63.2 a9) (fun p78 => (hMK p78.2 x1 (x2 + 1))))))) (mono_bind (m_X7_endList N p54.2 a9) (fun p59 => (hMK p59.2 x1 (x2 + 1)))))))) mono_none) (mono_bind (m_X7_beginCatch N p47.2 a9) (fun p86 => (hMK p86.2 x1 (x2 + 1))))))) (mono_bind (m_X1_found N p12.2 125) (fun p19 => (mono_ite (mono_bind (m_X1_found N p19.2 0) (fun p28 => (mono_ite (mono_ite (mono_ite (mono_bind (m_X7_groupTurn N E1 E2 hm1 hm2 p28.2 a9) (fun p39 => (hMK p39.2 x1 (x2 + 1)))) (mono_bind (m_X7_statement N E1 E2 hm1 hm2 p28.2 0) (fun p35 => (hMK p35.2 x1 (x2 + 1))))) mono_none) (mono_bind (m_X7_endList N p28.2 a9) (fun p43 => (hMK p43.2 x1 (x2 + 1))))))) (mono_bind (m_X7_endList N p19.2 a9) (fun p24 => (hMK p24.2 x1 (x2 + 1)))))))) mono_none) (mono_bind (m_X7_bodyTurn N E1 E2 hm1 hm2 p12.2 a9) (fun p90 => (hMK p90.2 x1 (x2 + 1)))))
            have hFc := cFree hC hA
            refine va_calli (va_runV (As := []) (rest := []) ⟨hx, hb, hml, hown, hts⟩ (c_X5_hasOneBody l dC dI Q N p4.2 a9 p12 hcp12) (cwV 0 hts hX7_turns_X5_hasOneBody_v97 rfl rfl rfl (by decide +kernel) ⟨(show 2 + 1 ≤ (21 + 40 * d) by omega), (show 8 + (1 + 11) + 60 * 2 ≤ 60 * (21 + 40 * d) by omega)⟩) ⟨zPre.blind, va_recv hK hC.1 (ci := 4) (q0 := k11) rfl hk11, cPre_go hZ hK hC⟩ rfl rfl hl.1 rfl (lv_room (Nat.le_of_ble_eq_true rfl)) dX7_turns_50 (cAcc h7 mo13 hr9)) hC.2.2.1 (fun q _ h => hFc q h) hFc (fun r14 u9 t9 H1 locs ht hvm hw hB hz1 hk1 hS => ?_)
            obtain ⟨⟨hP, hK1, hD1⟩, hsz1⟩ := hB
            rw [ht] at hP hsz1
            have hC : CP dC dI Q A s.heap p12.2 H1 locs := ⟨hP, hD1.weaken (fun _ _ _ h => hFc _ h), hS, hsz1⟩
            generalize H1 = H at hC ⊢
            have h15 : z9h ≤ CS.hs p12.2 := Nat.le_trans h7 mo13
            refine W.widen (k := CS.hs p12.2 - z9h) (n := 17 * (CS.hs p12.2 - z9h)) (cAcc2 h7 mo13) (cAcc3 h7 mo13) ?_
            obtain rfl : r14 = p12.1 := hw
            refine lv_if_eq (tgt := 64) hx hb dX7_turns_53 (by decide) (fun c16 => ?_) (fun c16 => ?_)
            ·
              replace hf := (if_pos c16).symm.trans hf
              refine lv_aload_n hx hb dX7_turns_64 rfl (lv_at hl 0 rfl) ?_
              obtain ⟨b17, hf⟩ := hf_ite hf
              refine pGN_X5_0 (v := (CS.o p12.2 a9 0)) hx hb hts i_X7_turns_X5 hown hK hC (va_Nw.use rfl (hZ.1 (.fieldLinkNest RX7 107 "StatementRules2$Open" "sort" "I" "StatementRules2") (by decide +kernel))) (fun _ q9 => q9) dX7_turns_65 b17 rfl ?_
              refine lv_sipush (v := 305) hx hb dX7_turns_68 (by decide) ?_
              refine lv_icmp_ne (tgt := 92) hx hb dX7_turns_71 (by decide) (fun c18 => ?_) (fun c18 => ?_)
              ·
                replace hf := (if_neg c18).symm.trans hf
                refine lv_aload_n hx hb dX7_turns_92 rfl (lv_at hl 0 rfl) ?_
                refine pGN_X5_0 (v := (CS.o p12.2 a9 0)) hx hb hts i_X7_turns_X5 hown hK hC (va_Nw.use rfl (hZ.1 (.fieldLinkNest RX7 107 "StatementRules2$Open" "sort" "I" "StatementRules2") (by decide +kernel))) (fun _ q9 => q9) dX7_turns_93 b17 rfl ?_
                refine lv_sipush (v := 305) hx hb dX7_turns_96 (by decide) ?_
                refine lv_icmp_ne (tgt := 110) hx hb dX7_turns_99 (by decide) (fun _ => ?_) (fun c9 => absurd c9 c18)
                refine lv_aload_n hx hb dX7_turns_110 rfl (lv_at hl 1 rfl) ?_
                refine lv_bipush (v := 125) hx hb dX7_turns_111 (by decide) ?_
                obtain ⟨p19, hcp19, hf⟩ := hf_bind hf
                have mo20 : CS.hs p12.2 ≤ CS.hs p19.2 := Mono.go hcp19 (m_X1_found N p12.2 125)
                have hr9 : CS.hs p19.2 ≤ CS.hs R.2 := Mono.go hf (mono_ite (mono_bind (m_X1_found N p19.2 0) (fun p28 => (mono_ite (mono_ite (mono_ite (mono_bind (m_X7_groupTurn N E1 E2 hm1 hm2 p28.2 a9) (fun p39 => (hMK p39.2 x1 (x2 + 1)))) (mono_bind (m_X7_statement N E1 E2 hm1 hm2 p28.2 0) (fun p35 => (hMK p35.2 x1 (x2 + 1))))) mono_none) (mono_bind (m_X7_endList N p28.2 a9) (fun p43 => (hMK p43.2 x1 (x2 + 1))))))) (mono_bind (m_X7_endList N p19.2 a9) (fun p24 => (hMK p24.2 x1 (x2 + 1)))))
                have hFc := cFree hC hA
                refine va_calli (va_runU (As := [.int 125]) (rest := []) ⟨hx, hb, hml, hown, hts⟩ (c_X1_found l dC dI Q N p12.2 125 p19 hcp19) (va_cwU 1 hts hX7_turns_X1_found_u110 rfl rfl rfl rfl (by decide +kernel) ⟨(show 1 + 1 ≤ (21 + 40 * d) by omega), (show 8 + (2 + 11) + 60 * 1 ≤ 60 * (21 + 40 * d) by omega)⟩) ⟨zPre.blind, va_recv hK hC.1 (ci := 6) (q0 := 3) rfl rfl, cPre_go hZ hK hC⟩ rfl rfl hl.1 rfl (lv_room (Nat.le_of_ble_eq_true rfl)) dX7_turns_113 (cAcc h15 mo20 hr9)) hC.2.2.1 (fun q _ h => hFc q h) hFc (fun r21 u9 t9 H1 locs ht hvm hw hB hz1 hk1 hS => ?_)
                obtain ⟨⟨hP, hK1, hD1⟩, hsz1⟩ := hB
                rw [ht] at hP hsz1
                have hC : CP dC dI Q A s.heap p19.2 H1 locs := ⟨hP, hD1.weaken (fun _ _ _ h => hFc _ h), hS, hsz1⟩
                generalize H1 = H at hC ⊢
                have h22 : z9h ≤ CS.hs p19.2 := Nat.le_trans h15 mo20
                refine W.widen (k := CS.hs p19.2 - z9h) (n := 17 * (CS.hs p19.2 - z9h)) (cAcc2 h15 mo20) (cAcc3 h15 mo20) ?_
                obtain rfl : r21 = p19.1 := hw
                refine lv_if_ne (tgt := 127) hx hb dX7_turns_116 (by decide) (fun c23 => ?_) (fun c23 => ?_)
                ·
                  replace hf := (if_neg c23).symm.trans hf
                  refine lv_aload_n hx hb dX7_turns_127 rfl (lv_at hl 1 rfl) ?_
                  refine lv_aload_n hx hb dX7_turns_128 rfl (lv_at hl 0 rfl) ?_
                  obtain ⟨p24, hcp24, hf⟩ := hf_bind hf
                  have mo25 : CS.hs p19.2 ≤ CS.hs p24.2 := Mono.go hcp24 (m_X7_endList N p19.2 a9)
                  have hr9 : CS.hs p24.2 ≤ CS.hs R.2 := Mono.go hf (hMK p24.2 x1 (x2 + 1))
                  have hFc := cFree hC hA
                  refine va_callv (va_runV (As := [.ref a9]) (rest := []) ⟨hx, hb, hml, hown, hts⟩ (c_X7_endList l dC dI Q N p19.2 a9 p24 hcp24) (cwV 1 hts hX7_turns_X7_endList_v120 rfl rfl rfl (by decide +kernel) ⟨(show 5 + 1 ≤ (21 + 40 * d) by omega), (show 8 + (2 + 11) + 60 * 5 ≤ 60 * (21 + 40 * d) by omega)⟩) ⟨zPre.blind, va_recv hK hC.1 (ci := 6) (q0 := 3) rfl rfl, cPre_go hZ hK hC⟩ rfl rfl hl.1 rfl (lv_room (Nat.le_of_ble_eq_true rfl)) dX7_turns_129 (cAcc h22 mo25 hr9)) hC.2.2.1 (fun q _ h => hFc q h) hFc (fun u9 t9 H1 locs ht hvm hw hB hz1 hk1 hS => ?_)
                  obtain ⟨⟨hP, hK1, hD1⟩, hsz1⟩ := hB
                  rw [ht] at hP hsz1
                  have hC : CP dC dI Q A s.heap p24.2 H1 locs := ⟨hP, hD1.weaken (fun _ _ _ h => hFc _ h), hS, hsz1⟩
                  generalize H1 = H at hC ⊢
                  have h27 : z9h ≤ CS.hs p24.2 := Nat.le_trans h22 mo25
                  refine W.widen (k := CS.hs p24.2 - z9h) (n := 17 * (CS.hs p24.2 - z9h)) (cAcc2 h22 mo25) (cAcc3 h22 mo25) ?_
                  refine lv_goto (tgt := 158) hx hb dX7_turns_132 (by decide) ?_
                  refine lv_iinc (v := (x2 + 1)) (lv' := [(2, .int (x2 + 1)), (3, .ref a9), (0, .ref (Q.o 3)), (1, .int x1)]) hx hb dX7_turns_158 hl (k := 3) rfl rfl (by decide) rfl (fun ls hl => ?_)
                  refine lv_goto (tgt := 2) hx hb dX7_turns_161 (by decide) ?_
                  exact ih p24.2 x1 (x2 + 1) _ _ _ hf h27 hC (lv_sub hl [2, 3, 0] rfl)
                ·
                  replace hf := (if_pos c23).symm.trans hf
                  refine lv_aload_n hx hb dX7_turns_119 rfl (lv_at hl 1 rfl) ?_
                  refine lv_iconst (v := 0) hx hb dX7_turns_120 (by decide) ?_
                  obtain ⟨p28, hcp28, hf⟩ := hf_bind hf
                  have mo29 : CS.hs p19.2 ≤ CS.hs p28.2 := Mono.go hcp28 (m_X1_found N p19.2 0)
                  have hr9 : CS.hs p28.2 ≤ CS.hs R.2 := Mono.go hf (mono_ite (mono_ite (mono_ite (mono_bind (m_X7_groupTurn N E1 E2 hm1 hm2 p28.2 a9) (fun p39 => (hMK p39.2 x1 (x2 + 1)))) (mono_bind (m_X7_statement N E1 E2 hm1 hm2 p28.2 0) (fun p35 => (hMK p35.2 x1 (x2 + 1))))) mono_none) (mono_bind (m_X7_endList N p28.2 a9) (fun p43 => (hMK p43.2 x1 (x2 + 1)))))
                  have hFc := cFree hC hA
                  refine va_calli (va_runU (As := [.int 0]) (rest := []) ⟨hx, hb, hml, hown, hts⟩ (c_X1_found l dC dI Q N p19.2 0 p28 hcp28) (va_cwU 1 hts hX7_turns_X1_found_u110 rfl rfl rfl rfl (by decide +kernel) ⟨(show 1 + 1 ≤ (21 + 40 * d) by omega), (show 8 + (2 + 11) + 60 * 1 ≤ 60 * (21 + 40 * d) by omega)⟩) ⟨zPre.blind, va_recv hK hC.1 (ci := 6) (q0 := 3) rfl rfl, cPre_go hZ hK hC⟩ rfl rfl hl.1 rfl (lv_room (Nat.le_of_ble_eq_true rfl)) dX7_turns_121 (cAcc h22 mo29 hr9)) hC.2.2.1 (fun q _ h => hFc q h) hFc (fun r30 u9 t9 H1 locs ht hvm hw hB hz1 hk1 hS => ?_)
                  obtain ⟨⟨hP, hK1, hD1⟩, hsz1⟩ := hB
                  rw [ht] at hP hsz1
                  have hC : CP dC dI Q A s.heap p28.2 H1 locs := ⟨hP, hD1.weaken (fun _ _ _ h => hFc _ h), hS, hsz1⟩
                  generalize H1 = H at hC ⊢
                  have h31 : z9h ≤ CS.hs p28.2 := Nat.le_trans h22 mo29
                  refine W.widen (k := CS.hs p28.2 - z9h) (n := 17 * (CS.hs p28.2 - z9h)) (cAcc2 h22 mo29) (cAcc3 h22 mo29) ?_
                  obtain rfl : r30 = p28.1 := hw
                  refine lv_if_eq (tgt := 135) hx hb dX7_turns_124 (by decide) (fun c32 => ?_) (fun c32 => ?_)
                  ·
                    replace hf := (if_pos c32).symm.trans hf
                    refine lv_aload_n hx hb dX7_turns_135 rfl (lv_at hl 0 rfl) ?_
                    obtain ⟨b33, hf⟩ := hf_ite hf
                    refine pGN_X5_0 (v := (CS.o p28.2 a9 0)) hx hb hts i_X7_turns_X5 hown hK hC (va_Nw.use rfl (hZ.1 (.fieldLinkNest RX7 107 "StatementRules2$Open" "sort" "I" "StatementRules2") (by decide +kernel))) (fun _ q9 => q9) dX7_turns_136 b33 rfl ?_
                    refine lv_sipush (v := 218) hx hb dX7_turns_139 (by decide) ?_
                    refine lv_icmp_ne (tgt := 153) hx hb dX7_turns_142 (by decide) (fun c34 => ?_) (fun c34 => ?_)
                    ·
                      replace hf := (if_neg c34).symm.trans hf
                      refine lv_aload_n hx hb dX7_turns_153 rfl (lv_at hl 1 rfl) ?_
                      refine lv_iconst (v := 0) hx hb dX7_turns_154 (by decide) ?_
                      obtain ⟨p35, hcp35, hf⟩ := hf_bind hf
                      have mo36 : CS.hs p28.2 ≤ CS.hs p35.2 := Mono.go hcp35 (m_X7_statement N E1 E2 hm1 hm2 p28.2 0)
                      have hr9 : CS.hs p35.2 ≤ CS.hs R.2 := Mono.go hf (hMK p35.2 x1 (x2 + 1))
                      have hFc := cFree hC hA
                      refine va_callv (va_runV (As := [.int 0]) (rest := []) ⟨hx, hb, hml, hown, hts⟩ (c_X7_statement l dC dI Q N d E1 E2 hE1 hE2 hm1 hm2 p28.2 0 p35 hcp35) (cwV 1 hts hX7_turns_X7_statement_v126 rfl rfl rfl (by decide +kernel) ⟨(show (19 + 40 * d) + 1 ≤ (21 + 40 * d) by omega), (show 8 + (2 + 11) + 60 * (19 + 40 * d) ≤ 60 * (21 + 40 * d) by omega)⟩) ⟨zPre.blind, va_recv hK hC.1 (ci := 6) (q0 := 3) rfl rfl, cPre_go hZ hK hC⟩ rfl rfl hl.1 rfl (lv_room (Nat.le_of_ble_eq_true rfl)) dX7_turns_155 (cAcc h31 mo36 hr9)) hC.2.2.1 (fun q _ h => hFc q h) hFc (fun u9 t9 H1 locs ht hvm hw hB hz1 hk1 hS => ?_)
                      obtain ⟨⟨hP, hK1, hD1⟩, hsz1⟩ := hB
                      rw [ht] at hP hsz1
                      have hC : CP dC dI Q A s.heap p35.2 H1 locs := ⟨hP, hD1.weaken (fun _ _ _ h => hFc _ h), hS, hsz1⟩
                      generalize H1 = H at hC ⊢
                      have h38 : z9h ≤ CS.hs p35.2 := Nat.le_trans h31 mo36
                      refine W.widen (k := CS.hs p35.2 - z9h) (n := 17 * (CS.hs p35.2 - z9h)) (cAcc2 h31 mo36) (cAcc3 h31 mo36) ?_
                      refine lv_iinc (v := (x2 + 1)) (lv' := [(2, .int (x2 + 1)), (3, .ref a9), (0, .ref (Q.o 3)), (1, .int x1)]) hx hb dX7_turns_158 hl (k := 3) rfl rfl (by decide) rfl (fun ls hl => ?_)
                      refine lv_goto (tgt := 2) hx hb dX7_turns_161 (by decide) ?_
                      exact ih p35.2 x1 (x2 + 1) _ _ _ hf h38 hC (lv_sub hl [2, 3, 0] rfl)
                    ·
                      replace hf := (if_pos c34).symm.trans hf
                      refine lv_aload_n hx hb dX7_turns_145 rfl (lv_at hl 1 rfl) ?_
                      refine lv_aload_n hx hb dX7_turns_146 rfl (lv_at hl 0 rfl) ?_
                      obtain ⟨p39, hcp39, hf⟩ := hf_bind hf
                      have mo40 : CS.hs p28.2 ≤ CS.hs p39.2 := Mono.go hcp39 (m_X7_groupTurn N E1 E2 hm1 hm2 p28.2 a9)
                      have hr9 : CS.hs p39.2 ≤ CS.hs R.2 := Mono.go hf (hMK p39.2 x1 (x2 + 1))
                      have hFc := cFree hC hA
                      refine va_callv (va_runV (As := [.ref a9]) (rest := []) ⟨hx, hb, hml, hown, hts⟩ (c_X7_groupTurn l dC dI Q N d E1 E2 hE1 hE2 hm1 hm2 p28.2 a9 p39 hcp39) (cwV 1 hts hX7_turns_X7_groupTurn_v123 rfl rfl rfl (by decide +kernel) ⟨(show (20 + 40 * d) + 1 ≤ (21 + 40 * d) by omega), (show 8 + (4 + 11) + 60 * (20 + 40 * d) ≤ 60 * (21 + 40 * d) by omega)⟩) ⟨zPre.blind, va_recv hK hC.1 (ci := 6) (q0 := 3) rfl rfl, cPre_go hZ hK hC⟩ rfl rfl hl.1 rfl (lv_room (Nat.le_of_ble_eq_true rfl)) dX7_turns_147 (cAcc h31 mo40 hr9)) hC.2.2.1 (fun q _ h => hFc q h) hFc (fun u9 t9 H1 locs ht hvm hw hB hz1 hk1 hS => ?_)
                      obtain ⟨⟨hP, hK1, hD1⟩, hsz1⟩ := hB
                      rw [ht] at hP hsz1
                      have hC : CP dC dI Q A s.heap p39.2 H1 locs := ⟨hP, hD1.weaken (fun _ _ _ h => hFc _ h), hS, hsz1⟩
                      generalize H1 = H at hC ⊢
                      have h42 : z9h ≤ CS.hs p39.2 := Nat.le_trans h31 mo40
                      refine W.widen (k := CS.hs p39.2 - z9h) (n := 17 * (CS.hs p39.2 - z9h)) (cAcc2 h31 mo40) (cAcc3 h31 mo40) ?_
                      refine lv_goto (tgt := 158) hx hb dX7_turns_150 (by decide) ?_
                      refine lv_iinc (v := (x2 + 1)) (lv' := [(2, .int (x2 + 1)), (3, .ref a9), (0, .ref (Q.o 3)), (1, .int x1)]) hx hb dX7_turns_158 hl (k := 3) rfl rfl (by decide) rfl (fun ls hl => ?_)
                      refine lv_goto (tgt := 2) hx hb dX7_turns_161 (by decide) ?_
                      exact ih p39.2 x1 (x2 + 1) _ _ _ hf h42 hC (lv_sub hl [2, 3, 0] rfl)
                  ·
                    replace hf := (if_neg c32).symm.trans hf
                    refine lv_aload_n hx hb dX7_turns_127 rfl (lv_at hl 1 rfl) ?_
                    refine lv_aload_n hx hb dX7_turns_128 rfl (lv_at hl 0 rfl) ?_
                    obtain ⟨p43, hcp43, hf⟩ := hf_bind hf
                    have mo44 : CS.hs p28.2 ≤ CS.hs p43.2 := Mono.go hcp43 (m_X7_endList N p28.2 a9)
                    have hr9 : CS.hs p43.2 ≤ CS.hs R.2 := Mono.go hf (hMK p43.2 x1 (x2 + 1))
                    have hFc := cFree hC hA
                    refine va_callv (va_runV (As := [.ref a9]) (rest := []) ⟨hx, hb, hml, hown, hts⟩ (c_X7_endList l dC dI Q N p28.2 a9 p43 hcp43) (cwV 1 hts hX7_turns_X7_endList_v120 rfl rfl rfl (by decide +kernel) ⟨(show 5 + 1 ≤ (21 + 40 * d) by omega), (show 8 + (2 + 11) + 60 * 5 ≤ 60 * (21 + 40 * d) by omega)⟩) ⟨zPre.blind, va_recv hK hC.1 (ci := 6) (q0 := 3) rfl rfl, cPre_go hZ hK hC⟩ rfl rfl hl.1 rfl (lv_room (Nat.le_of_ble_eq_true rfl)) dX7_turns_129 (cAcc h31 mo44 hr9)) hC.2.2.1 (fun q _ h => hFc q h) hFc (fun u9 t9 H1 locs ht hvm hw hB hz1 hk1 hS => ?_)
                    obtain ⟨⟨hP, hK1, hD1⟩, hsz1⟩ := hB
                    rw [ht] at hP hsz1
                    have hC : CP dC dI Q A s.heap p43.2 H1 locs := ⟨hP, hD1.weaken (fun _ _ _ h => hFc _ h), hS, hsz1⟩
                    generalize H1 = H at hC ⊢
                    have h46 : z9h ≤ CS.hs p43.2 := Nat.le_trans h31 mo44
                    refine W.widen (k := CS.hs p43.2 - z9h) (n := 17 * (CS.hs p43.2 - z9h)) (cAcc2 h31 mo44) (cAcc3 h31 mo44) ?_
                    refine lv_goto (tgt := 158) hx hb dX7_turns_132 (by decide) ?_
                    refine lv_iinc (v := (x2 + 1)) (lv' := [(2, .int (x2 + 1)), (3, .ref a9), (0, .ref (Q.o 3)), (1, .int x1)]) hx hb dX7_turns_158 hl (k := 3) rfl rfl (by decide) rfl (fun ls hl => ?_)
                    refine lv_goto (tgt := 2) hx hb dX7_turns_161 (by decide) ?_
                    exact ih p43.2 x1 (x2 + 1) _ _ _ hf h46 hC (lv_sub hl [2, 3, 0] rfl)
              ·
                replace hf := (if_pos c18).symm.trans hf
                refine lv_aload_n hx hb dX7_turns_74 rfl (lv_at hl 1 rfl) ?_
                refine lv_sipush (v := 215) hx hb dX7_turns_75 (by decide) ?_
                obtain ⟨p47, hcp47, hf⟩ := hf_bind hf
                have mo48 : CS.hs p12.2 ≤ CS.hs p47.2 := Mono.go hcp47 (m_X1_found N p12.2 215)
                have hr9 : CS.hs p47.2 ≤ CS.hs R.2 := Mono.go hf (mono_ite (mono_ite (mono_ite (mono_bind (m_X7_beginFinally N p47.2 a9) (fun p82 => (hMK p82.2 x1 (x2 + 1)))) (mono_bind (m_X1_found N p47.2 125) (fun p54 => (mono_ite (mono_bind (m_X1_found N p54.2 0) (fun p63 => (mono_ite (mono_ite (mono_ite (mono_bind (m_X7_groupTurn N E1 E2 hm1 hm2 p63.2 a9) (fun p74 => (hMK p74.2 x1 (x2 + 1)))) (mono_bind (m_X7_statement N E1 E2 hm1 hm2 p63.2 0) (fun p70 => (hMK p70.2 x1 (x2 + 1))))) mono_none) (mono_bind (m_X7_endList N p63.2 a9) (fun p78 => (hMK p78.2 x1 (x2 + 1))))))) (mono_bind (m_X7_endList N p54.2 a9) (fun p59 => (hMK p59.2 x1 (x2 + 1)))))))) mono_none) (mono_bind (m_X7_beginCatch N p47.2 a9) (fun p86 => (hMK p86.2 x1 (x2 + 1)))))
                have hFc := cFree hC hA
                refine va_calli (va_runU (As := [.int 215]) (rest := []) ⟨hx, hb, hml, hown, hts⟩ (c_X1_found l dC dI Q N p12.2 215 p47 hcp47) (va_cwU 1 hts hX7_turns_X1_found_u110 rfl rfl rfl rfl (by decide +kernel) ⟨(show 1 + 1 ≤ (21 + 40 * d) by omega), (show 8 + (2 + 11) + 60 * 1 ≤ 60 * (21 + 40 * d) by omega)⟩) ⟨zPre.blind, va_recv hK hC.1 (ci := 6) (q0 := 3) rfl rfl, cPre_go hZ hK hC⟩ rfl rfl hl.1 rfl (lv_room (Nat.le_of_ble_eq_true rfl)) dX7_turns_78 (cAcc h15 mo48 hr9)) hC.2.2.1 (fun q _ h => hFc q h) hFc (fun r49 u9 t9 H1 locs ht hvm hw hB hz1 hk1 hS => ?_)
                obtain ⟨⟨hP, hK1, hD1⟩, hsz1⟩ := hB
                rw [ht] at hP hsz1
                have hC : CP dC dI Q A s.heap p47.2 H1 locs := ⟨hP, hD1.weaken (fun _ _ _ h => hFc _ h), hS, hsz1⟩
                generalize H1 = H at hC ⊢
                have h50 : z9h ≤ CS.hs p47.2 := Nat.le_trans h15 mo48
                refine W.widen (k := CS.hs p47.2 - z9h) (n := 17 * (CS.hs p47.2 - z9h)) (cAcc2 h15 mo48) (cAcc3 h15 mo48) ?_
                obtain rfl : r49 = p47.1 := hw
                refine lv_if_eq (tgt := 92) hx hb dX7_turns_81 (by decide) (fun c51 => ?_) (fun c51 => ?_)
                ·
                  replace hf := (if_pos c51).symm.trans hf
                  refine lv_aload_n hx hb dX7_turns_92 rfl (lv_at hl 0 rfl) ?_
                  obtain ⟨b52, hf⟩ := hf_ite hf
                  refine pGN_X5_0 (v := (CS.o p47.2 a9 0)) hx hb hts i_X7_turns_X5 hown hK hC (va_Nw.use rfl (hZ.1 (.fieldLinkNest RX7 107 "StatementRules2$Open" "sort" "I" "StatementRules2") (by decide +kernel))) (fun _ q9 => q9) dX7_turns_93 b52 rfl ?_
                  refine lv_sipush (v := 305) hx hb dX7_turns_96 (by decide) ?_
                  refine lv_icmp_ne (tgt := 110) hx hb dX7_turns_99 (by decide) (fun c53 => ?_) (fun c53 => ?_)
                  ·
                    replace hf := (if_neg c53).symm.trans hf
                    refine lv_aload_n hx hb dX7_turns_110 rfl (lv_at hl 1 rfl) ?_
                    refine lv_bipush (v := 125) hx hb dX7_turns_111 (by decide) ?_
                    obtain ⟨p54, hcp54, hf⟩ := hf_bind hf
                    have mo55 : CS.hs p47.2 ≤ CS.hs p54.2 := Mono.go hcp54 (m_X1_found N p47.2 125)
                    have hr9 : CS.hs p54.2 ≤ CS.hs R.2 := Mono.go hf (mono_ite (mono_bind (m_X1_found N p54.2 0) (fun p63 => (mono_ite (mono_ite (mono_ite (mono_bind (m_X7_groupTurn N E1 E2 hm1 hm2 p63.2 a9) (fun p74 => (hMK p74.2 x1 (x2 + 1)))) (mono_bind (m_X7_statement N E1 E2 hm1 hm2 p63.2 0) (fun p70 => (hMK p70.2 x1 (x2 + 1))))) mono_none) (mono_bind (m_X7_endList N p63.2 a9) (fun p78 => (hMK p78.2 x1 (x2 + 1))))))) (mono_bind (m_X7_endList N p54.2 a9) (fun p59 => (hMK p59.2 x1 (x2 + 1)))))
                    have hFc := cFree hC hA
                    refine va_calli (va_runU (As := [.int 125]) (rest := []) ⟨hx, hb, hml, hown, hts⟩ (c_X1_found l dC dI Q N p47.2 125 p54 hcp54) (va_cwU 1 hts hX7_turns_X1_found_u110 rfl rfl rfl rfl (by decide +kernel) ⟨(show 1 + 1 ≤ (21 + 40 * d) by omega), (show 8 + (2 + 11) + 60 * 1 ≤ 60 * (21 + 40 * d) by omega)⟩) ⟨zPre.blind, va_recv hK hC.1 (ci := 6) (q0 := 3) rfl rfl, cPre_go hZ hK hC⟩ rfl rfl hl.1 rfl (lv_room (Nat.le_of_ble_eq_true rfl)) dX7_turns_113 (cAcc h50 mo55 hr9)) hC.2.2.1 (fun q _ h => hFc q h) hFc (fun r56 u9 t9 H1 locs ht hvm hw hB hz1 hk1 hS => ?_)
                    obtain ⟨⟨hP, hK1, hD1⟩, hsz1⟩ := hB
                    rw [ht] at hP hsz1
                    have hC : CP dC dI Q A s.heap p54.2 H1 locs := ⟨hP, hD1.weaken (fun _ _ _ h => hFc _ h), hS, hsz1⟩
                    generalize H1 = H at hC ⊢
                    have h57 : z9h ≤ CS.hs p54.2 := Nat.le_trans h50 mo55
                    refine W.widen (k := CS.hs p54.2 - z9h) (n := 17 * (CS.hs p54.2 - z9h)) (cAcc2 h50 mo55) (cAcc3 h50 mo55) ?_
                    obtain rfl : r56 = p54.1 := hw
                    refine lv_if_ne (tgt := 127) hx hb dX7_turns_116 (by decide) (fun c58 => ?_) (fun c58 => ?_)
                    ·
                      replace hf := (if_neg c58).symm.trans hf
                      refine lv_aload_n hx hb dX7_turns_127 rfl (lv_at hl 1 rfl) ?_
                      refine lv_aload_n hx hb dX7_turns_128 rfl (lv_at hl 0 rfl) ?_
                      obtain ⟨p59, hcp59, hf⟩ := hf_bind hf
                      have mo60 : CS.hs p54.2 ≤ CS.hs p59.2 := Mono.go hcp59 (m_X7_endList N p54.2 a9)
                      have hr9 : CS.hs p59.2 ≤ CS.hs R.2 := Mono.go hf (hMK p59.2 x1 (x2 + 1))
                      have hFc := cFree hC hA
                      refine va_callv (va_runV (As := [.ref a9]) (rest := []) ⟨hx, hb, hml, hown, hts⟩ (c_X7_endList l dC dI Q N p54.2 a9 p59 hcp59) (cwV 1 hts hX7_turns_X7_endList_v120 rfl rfl rfl (by decide +kernel) ⟨(show 5 + 1 ≤ (21 + 40 * d) by omega), (show 8 + (2 + 11) + 60 * 5 ≤ 60 * (21 + 40 * d) by omega)⟩) ⟨zPre.blind, va_recv hK hC.1 (ci := 6) (q0 := 3) rfl rfl, cPre_go hZ hK hC⟩ rfl rfl hl.1 rfl (lv_room (Nat.le_of_ble_eq_true rfl)) dX7_turns_129 (cAcc h57 mo60 hr9)) hC.2.2.1 (fun q _ h => hFc q h) hFc (fun u9 t9 H1 locs ht hvm hw hB hz1 hk1 hS => ?_)
                      obtain ⟨⟨hP, hK1, hD1⟩, hsz1⟩ := hB
                      rw [ht] at hP hsz1
                      have hC : CP dC dI Q A s.heap p59.2 H1 locs := ⟨hP, hD1.weaken (fun _ _ _ h => hFc _ h), hS, hsz1⟩
                      generalize H1 = H at hC ⊢
                      have h62 : z9h ≤ CS.hs p59.2 := Nat.le_trans h57 mo60
                      refine W.widen (k := CS.hs p59.2 - z9h) (n := 17 * (CS.hs p59.2 - z9h)) (cAcc2 h57 mo60) (cAcc3 h57 mo60) ?_
                      refine lv_goto (tgt := 158) hx hb dX7_turns_132 (by decide) ?_
                      refine lv_iinc (v := (x2 + 1)) (lv' := [(2, .int (x2 + 1)), (3, .ref a9), (0, .ref (Q.o 3)), (1, .int x1)]) hx hb dX7_turns_158 hl (k := 3) rfl rfl (by decide) rfl (fun ls hl => ?_)
                      refine lv_goto (tgt := 2) hx hb dX7_turns_161 (by decide) ?_
                      exact ih p59.2 x1 (x2 + 1) _ _ _ hf h62 hC (lv_sub hl [2, 3, 0] rfl)
                    ·
                      replace hf := (if_pos c58).symm.trans hf
                      refine lv_aload_n hx hb dX7_turns_119 rfl (lv_at hl 1 rfl) ?_
                      refine lv_iconst (v := 0) hx hb dX7_turns_120 (by decide) ?_
                      obtain ⟨p63, hcp63, hf⟩ := hf_bind hf
                      have mo64 : CS.hs p54.2 ≤ CS.hs p63.2 := Mono.go hcp63 (m_X1_found N p54.2 0)
                      have hr9 : CS.hs p63.2 ≤ CS.hs R.2 := Mono.go hf (mono_ite (mono_ite (mono_ite (mono_bind (m_X7_groupTurn N E1 E2 hm1 hm2 p63.2 a9) (fun p74 => (hMK p74.2 x1 (x2 + 1)))) (mono_bind (m_X7_statement N E1 E2 hm1 hm2 p63.2 0) (fun p70 => (hMK p70.2 x1 (x2 + 1))))) mono_none) (mono_bind (m_X7_endList N p63.2 a9) (fun p78 => (hMK p78.2 x1 (x2 + 1)))))
                      have hFc := cFree hC hA
                      refine va_calli (va_runU (As := [.int 0]) (rest := []) ⟨hx, hb, hml, hown, hts⟩ (c_X1_found l dC dI Q N p54.2 0 p63 hcp63) (va_cwU 1 hts hX7_turns_X1_found_u110 rfl rfl rfl rfl (by decide +kernel) ⟨(show 1 + 1 ≤ (21 + 40 * d) by omega), (show 8 + (2 + 11) + 60 * 1 ≤ 60 * (21 + 40 * d) by omega)⟩) ⟨zPre.blind, va_recv hK hC.1 (ci := 6) (q0 := 3) rfl rfl, cPre_go hZ hK hC⟩ rfl rfl hl.1 rfl (lv_room (Nat.le_of_ble_eq_true rfl)) dX7_turns_121 (cAcc h57 mo64 hr9)) hC.2.2.1 (fun q _ h => hFc q h) hFc (fun r65 u9 t9 H1 locs ht hvm hw hB hz1 hk1 hS => ?_)
                      obtain ⟨⟨hP, hK1, hD1⟩, hsz1⟩ := hB
                      rw [ht] at hP hsz1
                      have hC : CP dC dI Q A s.heap p63.2 H1 locs := ⟨hP, hD1.weaken (fun _ _ _ h => hFc _ h), hS, hsz1⟩
                      generalize H1 = H at hC ⊢
                      have h66 : z9h ≤ CS.hs p63.2 := Nat.le_trans h57 mo64
                      refine W.widen (k := CS.hs p63.2 - z9h) (n := 17 * (CS.hs p63.2 - z9h)) (cAcc2 h57 mo64) (cAcc3 h57 mo64) ?_
                      obtain rfl : r65 = p63.1 := hw
                      refine lv_if_eq (tgt := 135) hx hb dX7_turns_124 (by decide) (fun c67 => ?_) (fun c67 => ?_)
                      ·
                        replace hf := (if_pos c67).symm.trans hf
                        refine lv_aload_n hx hb dX7_turns_135 rfl (lv_at hl 0 rfl) ?_
                        obtain ⟨b68, hf⟩ := hf_ite hf
                        refine pGN_X5_0 (v := (CS.o p63.2 a9 0)) hx hb hts i_X7_turns_X5 hown hK hC (va_Nw.use rfl (hZ.1 (.fieldLinkNest RX7 107 "StatementRules2$Open" "sort" "I" "StatementRules2") (by decide +kernel))) (fun _ q9 => q9) dX7_turns_136 b68 rfl ?_
                        refine lv_sipush (v := 218) hx hb dX7_turns_139 (by decide) ?_
                        refine lv_icmp_ne (tgt := 153) hx hb dX7_turns_142 (by decide) (fun c69 => ?_) (fun c69 => ?_)
                        ·
                          replace hf := (if_neg c69).symm.trans hf
                          refine lv_aload_n hx hb dX7_turns_153 rfl (lv_at hl 1 rfl) ?_
                          refine lv_iconst (v := 0) hx hb dX7_turns_154 (by decide) ?_
                          obtain ⟨p70, hcp70, hf⟩ := hf_bind hf
                          have mo71 : CS.hs p63.2 ≤ CS.hs p70.2 := Mono.go hcp70 (m_X7_statement N E1 E2 hm1 hm2 p63.2 0)
                          have hr9 : CS.hs p70.2 ≤ CS.hs R.2 := Mono.go hf (hMK p70.2 x1 (x2 + 1))
                          have hFc := cFree hC hA
                          refine va_callv (va_runV (As := [.int 0]) (rest := []) ⟨hx, hb, hml, hown, hts⟩ (c_X7_statement l dC dI Q N d E1 E2 hE1 hE2 hm1 hm2 p63.2 0 p70 hcp70) (cwV 1 hts hX7_turns_X7_statement_v126 rfl rfl rfl (by decide +kernel) ⟨(show (19 + 40 * d) + 1 ≤ (21 + 40 * d) by omega), (show 8 + (2 + 11) + 60 * (19 + 40 * d) ≤ 60 * (21 + 40 * d) by omega)⟩) ⟨zPre.blind, va_recv hK hC.1 (ci := 6) (q0 := 3) rfl rfl, cPre_go hZ hK hC⟩ rfl rfl hl.1 rfl (lv_room (Nat.le_of_ble_eq_true rfl)) dX7_turns_155 (cAcc h66 mo71 hr9)) hC.2.2.1 (fun q _ h => hFc q h) hFc (fun u9 t9 H1 locs ht hvm hw hB hz1 hk1 hS => ?_)
                          obtain ⟨⟨hP, hK1, hD1⟩, hsz1⟩ := hB
                          rw [ht] at hP hsz1
                          have hC : CP dC dI Q A s.heap p70.2 H1 locs := ⟨hP, hD1.weaken (fun _ _ _ h => hFc _ h), hS, hsz1⟩
                          generalize H1 = H at hC ⊢
                          have h73 : z9h ≤ CS.hs p70.2 := Nat.le_trans h66 mo71
                          refine W.widen (k := CS.hs p70.2 - z9h) (n := 17 * (CS.hs p70.2 - z9h)) (cAcc2 h66 mo71) (cAcc3 h66 mo71) ?_
                          refine lv_iinc (v := (x2 + 1)) (lv' := [(2, .int (x2 + 1)), (3, .ref a9), (0, .ref (Q.o 3)), (1, .int x1)]) hx hb dX7_turns_158 hl (k := 3) rfl rfl (by decide) rfl (fun ls hl => ?_)
                          refine lv_goto (tgt := 2) hx hb dX7_turns_161 (by decide) ?_
                          exact ih p70.2 x1 (x2 + 1) _ _ _ hf h73 hC (lv_sub hl [2, 3, 0] rfl)
                        ·
                          replace hf := (if_pos c69).symm.trans hf
                          refine lv_aload_n hx hb dX7_turns_145 rfl (lv_at hl 1 rfl) ?_
                          refine lv_aload_n hx hb dX7_turns_146 rfl (lv_at hl 0 rfl) ?_
                          obtain ⟨p74, hcp74, hf⟩ := hf_bind hf
                          have mo75 : CS.hs p63.2 ≤ CS.hs p74.2 := Mono.go hcp74 (m_X7_groupTurn N E1 E2 hm1 hm2 p63.2 a9)
                          have hr9 : CS.hs p74.2 ≤ CS.hs R.2 := Mono.go hf (hMK p74.2 x1 (x2 + 1))
                          have hFc := cFree hC hA
                          refine va_callv (va_runV (As := [.ref a9]) (rest := []) ⟨hx, hb, hml, hown, hts⟩ (c_X7_groupTurn l dC dI Q N d E1 E2 hE1 hE2 hm1 hm2 p63.2 a9 p74 hcp74) (cwV 1 hts hX7_turns_X7_groupTurn_v123 rfl rfl rfl (by decide +kernel) ⟨(show (20 + 40 * d) + 1 ≤ (21 + 40 * d) by omega), (show 8 + (4 + 11) + 60 * (20 + 40 * d) ≤ 60 * (21 + 40 * d) by omega)⟩) ⟨zPre.blind, va_recv hK hC.1 (ci := 6) (q0 := 3) rfl rfl, cPre_go hZ hK hC⟩ rfl rfl hl.1 rfl (lv_room (Nat.le_of_ble_eq_true rfl)) dX7_turns_147 (cAcc h66 mo75 hr9)) hC.2.2.1 (fun q _ h => hFc q h) hFc (fun u9 t9 H1 locs ht hvm hw hB hz1 hk1 hS => ?_)
                          obtain ⟨⟨hP, hK1, hD1⟩, hsz1⟩ := hB
                          rw [ht] at hP hsz1
                          have hC : CP dC dI Q A s.heap p74.2 H1 locs := ⟨hP, hD1.weaken (fun _ _ _ h => hFc _ h), hS, hsz1⟩
                          generalize H1 = H at hC ⊢
                          have h77 : z9h ≤ CS.hs p74.2 := Nat.le_trans h66 mo75
                          refine W.widen (k := CS.hs p74.2 - z9h) (n := 17 * (CS.hs p74.2 - z9h)) (cAcc2 h66 mo75) (cAcc3 h66 mo75) ?_
                          refine lv_goto (tgt := 158) hx hb dX7_turns_150 (by decide) ?_
                          refine lv_iinc (v := (x2 + 1)) (lv' := [(2, .int (x2 + 1)), (3, .ref a9), (0, .ref (Q.o 3)), (1, .int x1)]) hx hb dX7_turns_158 hl (k := 3) rfl rfl (by decide) rfl (fun ls hl => ?_)
                          refine lv_goto (tgt := 2) hx hb dX7_turns_161 (by decide) ?_
                          exact ih p74.2 x1 (x2 + 1) _ _ _ hf h77 hC (lv_sub hl [2, 3, 0] rfl)
                      ·
                        replace hf := (if_neg c67).symm.trans hf
                        refine lv_aload_n hx hb dX7_turns_127 rfl (lv_at hl 1 rfl) ?_
                        refine lv_aload_n hx hb dX7_turns_128 rfl (lv_at hl 0 rfl) ?_
                        obtain ⟨p78, hcp78, hf⟩ := hf_bind hf
                        have mo79 : CS.hs p63.2 ≤ CS.hs p78.2 := Mono.go hcp78 (m_X7_endList N p63.2 a9)
                        have hr9 : CS.hs p78.2 ≤ CS.hs R.2 := Mono.go hf (hMK p78.2 x1 (x2 + 1))
                        have hFc := cFree hC hA
                        refine va_callv (va_runV (As := [.ref a9]) (rest := []) ⟨hx, hb, hml, hown, hts⟩ (c_X7_endList l dC dI Q N p63.2 a9 p78 hcp78) (cwV 1 hts hX7_turns_X7_endList_v120 rfl rfl rfl (by decide +kernel) ⟨(show 5 + 1 ≤ (21 + 40 * d) by omega), (show 8 + (2 + 11) + 60 * 5 ≤ 60 * (21 + 40 * d) by omega)⟩) ⟨zPre.blind, va_recv hK hC.1 (ci := 6) (q0 := 3) rfl rfl, cPre_go hZ hK hC⟩ rfl rfl hl.1 rfl (lv_room (Nat.le_of_ble_eq_true rfl)) dX7_turns_129 (cAcc h66 mo79 hr9)) hC.2.2.1 (fun q _ h => hFc q h) hFc (fun u9 t9 H1 locs ht hvm hw hB hz1 hk1 hS => ?_)
                        obtain ⟨⟨hP, hK1, hD1⟩, hsz1⟩ := hB
                        rw [ht] at hP hsz1
                        have hC : CP dC dI Q A s.heap p78.2 H1 locs := ⟨hP, hD1.weaken (fun _ _ _ h => hFc _ h), hS, hsz1⟩
                        generalize H1 = H at hC ⊢
                        have h81 : z9h ≤ CS.hs p78.2 := Nat.le_trans h66 mo79
                        refine W.widen (k := CS.hs p78.2 - z9h) (n := 17 * (CS.hs p78.2 - z9h)) (cAcc2 h66 mo79) (cAcc3 h66 mo79) ?_
                        refine lv_goto (tgt := 158) hx hb dX7_turns_132 (by decide) ?_
                        refine lv_iinc (v := (x2 + 1)) (lv' := [(2, .int (x2 + 1)), (3, .ref a9), (0, .ref (Q.o 3)), (1, .int x1)]) hx hb dX7_turns_158 hl (k := 3) rfl rfl (by decide) rfl (fun ls hl => ?_)
                        refine lv_goto (tgt := 2) hx hb dX7_turns_161 (by decide) ?_
                        exact ih p78.2 x1 (x2 + 1) _ _ _ hf h81 hC (lv_sub hl [2, 3, 0] rfl)
                  ·
                    replace hf := (if_pos c53).symm.trans hf
                    refine lv_aload_n hx hb dX7_turns_102 rfl (lv_at hl 1 rfl) ?_
                    refine lv_aload_n hx hb dX7_turns_103 rfl (lv_at hl 0 rfl) ?_
                    obtain ⟨p82, hcp82, hf⟩ := hf_bind hf
                    have mo83 : CS.hs p47.2 ≤ CS.hs p82.2 := Mono.go hcp82 (m_X7_beginFinally N p47.2 a9)
                    have hr9 : CS.hs p82.2 ≤ CS.hs R.2 := Mono.go hf (hMK p82.2 x1 (x2 + 1))
                    have hFc := cFree hC hA
                    refine va_callv (va_runV (As := [.ref a9]) (rest := []) ⟨hx, hb, hml, hown, hts⟩ (c_X7_beginFinally l dC dI Q N p47.2 a9 p82 hcp82) (cwV 1 hts hX7_turns_X7_beginFinally_v117 rfl rfl rfl (by decide +kernel) ⟨(show 5 + 1 ≤ (21 + 40 * d) by omega), (show 8 + (2 + 11) + 60 * 5 ≤ 60 * (21 + 40 * d) by omega)⟩) ⟨zPre.blind, va_recv hK hC.1 (ci := 6) (q0 := 3) rfl rfl, cPre_go hZ hK hC⟩ rfl rfl hl.1 rfl (lv_room (Nat.le_of_ble_eq_true rfl)) dX7_turns_104 (cAcc h50 mo83 hr9)) hC.2.2.1 (fun q _ h => hFc q h) hFc (fun u9 t9 H1 locs ht hvm hw hB hz1 hk1 hS => ?_)
                    obtain ⟨⟨hP, hK1, hD1⟩, hsz1⟩ := hB
                    rw [ht] at hP hsz1
                    have hC : CP dC dI Q A s.heap p82.2 H1 locs := ⟨hP, hD1.weaken (fun _ _ _ h => hFc _ h), hS, hsz1⟩
                    generalize H1 = H at hC ⊢
                    have h85 : z9h ≤ CS.hs p82.2 := Nat.le_trans h50 mo83
                    refine W.widen (k := CS.hs p82.2 - z9h) (n := 17 * (CS.hs p82.2 - z9h)) (cAcc2 h50 mo83) (cAcc3 h50 mo83) ?_
                    refine lv_goto (tgt := 158) hx hb dX7_turns_107 (by decide) ?_
                    refine lv_iinc (v := (x2 + 1)) (lv' := [(2, .int (x2 + 1)), (3, .ref a9), (0, .ref (Q.o 3)), (1, .int x1)]) hx hb dX7_turns_158 hl (k := 3) rfl rfl (by decide) rfl (fun ls hl => ?_)
                    refine lv_goto (tgt := 2) hx hb dX7_turns_161 (by decide) ?_
                    exact ih p82.2 x1 (x2 + 1) _ _ _ hf h85 hC (lv_sub hl [2, 3, 0] rfl)
                ·
                  replace hf := (if_neg c51).symm.trans hf
                  refine lv_aload_n hx hb dX7_turns_84 rfl (lv_at hl 1 rfl) ?_
                  refine lv_aload_n hx hb dX7_turns_85 rfl (lv_at hl 0 rfl) ?_
                  obtain ⟨p86, hcp86, hf⟩ := hf_bind hf
                  have mo87 : CS.hs p47.2 ≤ CS.hs p86.2 := Mono.go hcp86 (m_X7_beginCatch N p47.2 a9)
                  have hr9 : CS.hs p86.2 ≤ CS.hs R.2 := Mono.go hf (hMK p86.2 x1 (x2 + 1))
                  have hFc := cFree hC hA
                  refine va_callv (va_runV (As := [.ref a9]) (rest := []) ⟨hx, hb, hml, hown, hts⟩ (c_X7_beginCatch l dC dI Q N p47.2 a9 p86 hcp86) (cwV 1 hts hX7_turns_X7_beginCatch_v114 rfl rfl rfl (by decide +kernel) ⟨(show 5 + 1 ≤ (21 + 40 * d) by omega), (show 8 + (4 + 11) + 60 * 5 ≤ 60 * (21 + 40 * d) by omega)⟩) ⟨zPre.blind, va_recv hK hC.1 (ci := 6) (q0 := 3) rfl rfl, cPre_go hZ hK hC⟩ rfl rfl hl.1 rfl (lv_room (Nat.le_of_ble_eq_true rfl)) dX7_turns_86 (cAcc h50 mo87 hr9)) hC.2.2.1 (fun q _ h => hFc q h) hFc (fun u9 t9 H1 locs ht hvm hw hB hz1 hk1 hS => ?_)
                  obtain ⟨⟨hP, hK1, hD1⟩, hsz1⟩ := hB
                  rw [ht] at hP hsz1
                  have hC : CP dC dI Q A s.heap p86.2 H1 locs := ⟨hP, hD1.weaken (fun _ _ _ h => hFc _ h), hS, hsz1⟩
                  generalize H1 = H at hC ⊢
                  have h89 : z9h ≤ CS.hs p86.2 := Nat.le_trans h50 mo87
                  refine W.widen (k := CS.hs p86.2 - z9h) (n := 17 * (CS.hs p86.2 - z9h)) (cAcc2 h50 mo87) (cAcc3 h50 mo87) ?_
                  refine lv_goto (tgt := 158) hx hb dX7_turns_89 (by decide) ?_
                  refine lv_iinc (v := (x2 + 1)) (lv' := [(2, .int (x2 + 1)), (3, .ref a9), (0, .ref (Q.o 3)), (1, .int x1)]) hx hb dX7_turns_158 hl (k := 3) rfl rfl (by decide) rfl (fun ls hl => ?_)
                  refine lv_goto (tgt := 2) hx hb dX7_turns_161 (by decide) ?_
                  exact ih p86.2 x1 (x2 + 1) _ _ _ hf h89 hC (lv_sub hl [2, 3, 0] rfl)
            ·
              replace hf := (if_neg c16).symm.trans hf
              refine lv_aload_n hx hb dX7_turns_56 rfl (lv_at hl 1 rfl) ?_
              refine lv_aload_n hx hb dX7_turns_57 rfl (lv_at hl 0 rfl) ?_
              obtain ⟨p90, hcp90, hf⟩ := hf_bind hf
              have mo91 : CS.hs p12.2 ≤ CS.hs p90.2 := Mono.go hcp90 (m_X7_bodyTurn N E1 E2 hm1 hm2 p12.2 a9)
              have hr9 : CS.hs p90.2 ≤ CS.hs R.2 := Mono.go hf (hMK p90.2 x1 (x2 + 1))
              have hFc := cFree hC hA
              refine va_callv (va_runV (As := [.ref a9]) (rest := []) ⟨hx, hb, hml, hown, hts⟩ (c_X7_bodyTurn l dC dI Q N d E1 E2 hE1 hE2 hm1 hm2 p12.2 a9 p90 hcp90) (cwV 1 hts hX7_turns_X7_bodyTurn_v103 rfl rfl rfl (by decide +kernel) ⟨(show (20 + 40 * d) + 1 ≤ (21 + 40 * d) by omega), (show 8 + (2 + 11) + 60 * (20 + 40 * d) ≤ 60 * (21 + 40 * d) by omega)⟩) ⟨zPre.blind, va_recv hK hC.1 (ci := 6) (q0 := 3) rfl rfl, cPre_go hZ hK hC⟩ rfl rfl hl.1 rfl (lv_room (Nat.le_of_ble_eq_true rfl)) dX7_turns_58 (cAcc h15 mo91 hr9)) hC.2.2.1 (fun q _ h => hFc q h) hFc (fun u9 t9 H1 locs ht hvm hw hB hz1 hk1 hS => ?_)
              obtain ⟨⟨hP, hK1, hD1⟩, hsz1⟩ := hB
              rw [ht] at hP hsz1
              have hC : CP dC dI Q A s.heap p90.2 H1 locs := ⟨hP, hD1.weaken (fun _ _ _ h => hFc _ h), hS, hsz1⟩
              generalize H1 = H at hC ⊢
              have h93 : z9h ≤ CS.hs p90.2 := Nat.le_trans h15 mo91
              refine W.widen (k := CS.hs p90.2 - z9h) (n := 17 * (CS.hs p90.2 - z9h)) (cAcc2 h15 mo91) (cAcc3 h15 mo91) ?_
              refine lv_goto (tgt := 158) hx hb dX7_turns_61 (by decide) ?_
              refine lv_iinc (v := (x2 + 1)) (lv' := [(2, .int (x2 + 1)), (3, .ref a9), (0, .ref (Q.o 3)), (1, .int x1)]) hx hb dX7_turns_158 hl (k := 3) rfl rfl (by decide) rfl (fun ls hl => ?_)
              refine lv_goto (tgt := 2) hx hb dX7_turns_161 (by decide) ?_
              exact ih p90.2 x1 (x2 + 1) _ _ _ hf h93 hC (lv_sub hl [2, 3, 0] rfl)
set_option maxHeartbeats 4000000 in
set_option maxRecDepth 100000 in
theorem c_X7_turns (l : Launch) (dC : Nat → ClassId) (dI : Nat → Nat → Nat) (Q : CQ) (N : Nat) (d : Nat) (E1 : CS → Option (Unit × CS)) (E2 : CS → Option (Int32 × CS)) (hE1 : cMF l dC dI Q d E1) (hE2 : cMO l dC dI Q d E2) (hm1 : ∀ σ, Mono (CS.hs σ) (E1 σ)) (hm2 : ∀ σ, Mono (CS.hs σ) (E2 σ)) (σ : CS) (x1 : Int32) (R : Unit × CS) (hf : f_X7_turns N E1 E2 σ x1 = some R) : Met l yX7_turns wzX7_turns ({ frames := (21 + 40 * d), cells := CS.hs R.2 - CS.hs σ, slots := 17 * (CS.hs R.2 - CS.hs σ), locals := 60 * (21 + 40 * d) }) (va_Pc [.ref (Q.o 3), .int x1] (zPre dC dI (CS.hs σ) (cW Q σ) (cT Q))) (va_Qv (fun (_ : Unit) => True) (fun (_ : Unit) (t : State) => zPost dC dI (va_A (cW Q σ) (CS.hs σ)) (cW Q R.2) (cT Q) t ∧ t.heap.size = CS.hs R.2) (va_A (cW Q σ) (CS.hs σ))) (CS.hs R.2 - CS.hs σ) (17 * (CS.hs R.2 - CS.hs σ)) (va_A (cW Q σ) (CS.hs σ)) := by
  refine Met.ofW (cc := cX7_turns) (maxL := 4) (ret := none) (by decide) rfl ?_
  intro p e s m args below meth c s₁ B hml hv
  obtain ⟨rfl, hsz, hZ, hP, hK, hD0⟩ := hv
  have hx := B.exec
  have hb := B.bytes
  have hr := B.returns
  have hts := atoms_spec (ws := wzX7_turns) B.pre
  have hown : s.vm.findClass RX7 = some m.cls := findClass_of_methodNamed B.named
  have hlocks := B.notSynchronized
  have hD := hD0.self (sz := CS.hs σ)
  generalize hAe : va_A (cW Q σ) (CS.hs σ) = A at hD ⊢
  have hA : ∀ q : Nat, s.heap.size ≤ q → A q := fun q h => by rw [← hAe]; exact Or.inr (hsz ▸ h)
  have hC : CP dC dI Q A s.heap σ s.heap [] := ⟨hP, hD, va_S.rf, hsz⟩
  have h0 : CS.hs σ ≤ CS.hs σ := Nat.le_refl _
  have hl := lv_entry ([.ref (Q.o 3), .int x1]) (n := 4) (Nat.le_of_ble_eq_true rfl)
  rw [lg_entry_eq]
  generalize (lg_sl ([.ref (Q.o 3), .int x1]) ++ List.replicate (4 - (lg_sl ([.ref (Q.o 3), .int x1])).length) Slot.unset).toArray = ls at hl ⊢
  have hl : lv_has ls 4 [(0, .ref (Q.o 3)), (1, .int x1)] := hl
  unfold f_X7_turns at hf
  refine W.widen (k := CS.hs σ - CS.hs σ) (n := 17 * (CS.hs σ - CS.hs σ)) (Nat.zero_le _) (Nat.zero_le _) ?_
  refine lv_iconst (v := 0) hx hb dX7_turns_0 (by decide) ?_
  refine lv_istore_n (lv' := [(2, .int 0), (0, .ref (Q.o 3)), (1, .int x1)]) hx hb dX7_turns_1 rfl hl (by decide) rfl (fun ls hl => ?_)
  exact j_X7_turns_2 l dC dI Q N d E1 E2 hE1 hE2 hm1 hm2 (CS.hs σ) R hx hb hr hml hown hts hlocks hZ hA hK N σ x1 0 _ _ _ hf h0 hC (lv_sub hl [1, 2, 0] rfl)
end
section
theorem k_X7_armBlock_fieldLink_RX7_61_SR_Statements_alive_Z : Cond.fieldLink RX7 61 "StatementRules2$Statements" "alive" "Z" ∈ wzX7_armBlock := List.mem_cons_of_mem _ (List.mem_append_right _ (List.mem_append_right _ (List.mem_append_right _ (List.mem_append_right _ (List.mem_append_right _ (List.mem_append_right _ (List.mem_append_right _ (List.mem_append_right _ (List.mem_append_right _ (List.mem_append_right _ (List.mem_append_right _ (List.mem_append_left _ (List.mem_of_getElem? (i := 0) rfl)))))))))))))
theorem i_X7_armBlock_X7 : ∀ w ∈ wsX70, w ∈ wzX7_armBlock := fun _ h => List.mem_cons_of_mem _ (List.mem_append_right _ (List.mem_append_right _ (List.mem_append_right _ (List.mem_append_right _ (List.mem_append_right _ (List.mem_append_right _ (List.mem_append_right _ (List.mem_append_right _ (List.mem_append_right _ (List.mem_append_right _ (List.mem_append_right _ (List.mem_append_right _ (List.mem_append_right _ (List.mem_append_right _ (List.mem_append_right _ (List.mem_append_right _ (List.mem_append_right _ (List.mem_append_right _ (List.mem_append_right _ (List.mem_append_right _ (List.mem_append_right _ (List.mem_append_right _ (List.mem_append_right _ (List.mem_append_right _ (List.mem_append_right _ (List.mem_append_right _ (List.mem_append_right _ (List.mem_append_right _ (List.mem_append_right _ (List.mem_append_right _ (List.mem_append_right _ (List.mem_append_right _ (List.mem_append_right _ (List.mem_append_right _ (List.mem_append_right _ (List.mem_append_right _ (List.mem_append_left _ (h))))))))))))))))))))))))))))))))))))))
theorem k_X7_armBlock_fieldLink_RX7_14_SR_Statements_opens_LSR_Opens : Cond.fieldLink RX7 14 "StatementRules2$Statements" "opens" "LStatementRules2$Opens;" ∈ wzX7_armBlock := List.mem_cons_of_mem _ (List.mem_append_right _ (List.mem_append_right _ (List.mem_append_right _ (List.mem_append_right _ (List.mem_append_right _ (List.mem_append_right _ (List.mem_append_right _ (List.mem_append_right _ (List.mem_append_right _ (List.mem_append_right _ (List.mem_append_right _ (List.mem_append_left _ (List.mem_of_getElem? (i := 1) rfl)))))))))))))
theorem i_X7_armBlock_X6 : ∀ w ∈ wsX60, w ∈ wzX7_armBlock := fun _ h => List.mem_cons_of_mem _ (List.mem_append_right _ (List.mem_append_right _ (List.mem_append_right _ (List.mem_append_right _ (List.mem_append_right _ (List.mem_append_right _ (List.mem_append_right _ (List.mem_append_right _ (List.mem_append_right _ (List.mem_append_right _ (List.mem_append_right _ (List.mem_append_right _ (List.mem_append_right _ (List.mem_append_right _ (List.mem_append_right _ (List.mem_append_right _ (List.mem_append_right _ (List.mem_append_right _ (List.mem_append_right _ (List.mem_append_right _ (List.mem_append_right _ (List.mem_append_right _ (List.mem_append_right _ (List.mem_append_right _ (List.mem_append_right _ (List.mem_append_right _ (List.mem_append_right _ (List.mem_append_right _ (List.mem_append_right _ (List.mem_append_right _ (List.mem_append_right _ (List.mem_append_right _ (List.mem_append_right _ (List.mem_append_right _ (List.mem_append_right _ (List.mem_append_right _ (List.mem_append_right _ (List.mem_append_right _ (List.mem_append_right _ (List.mem_append_left _ (h)))))))))))))))))))))))))))))))))))))))))
theorem k_X7_armBlock_fieldLink_RX7_68_SR_Statements_depth_I : Cond.fieldLink RX7 68 "StatementRules2$Statements" "depth" "I" ∈ wzX7_armBlock := List.mem_cons_of_mem _ (List.mem_append_right _ (List.mem_append_right _ (List.mem_append_right _ (List.mem_append_right _ (List.mem_append_right _ (List.mem_append_right _ (List.mem_append_right _ (List.mem_append_right _ (List.mem_append_right _ (List.mem_append_right _ (List.mem_append_right _ (List.mem_append_left _ (List.mem_of_getElem? (i := 2) rfl)))))))))))))
theorem k_X7_armBlock_fieldLink_RX7_29_SR_Statements_names_LSR_Names : Cond.fieldLink RX7 29 "StatementRules2$Statements" "names" "LStatementRules2$Names;" ∈ wzX7_armBlock := List.mem_cons_of_mem _ (List.mem_append_right _ (List.mem_append_right _ (List.mem_append_right _ (List.mem_append_right _ (List.mem_append_right _ (List.mem_append_right _ (List.mem_append_right _ (List.mem_append_right _ (List.mem_append_right _ (List.mem_append_right _ (List.mem_append_right _ (List.mem_append_left _ (List.mem_of_getElem? (i := 3) rfl)))))))))))))
theorem k_X7_armBlock_sameField_SR_Statements_SR_Formulas_names_LSR_Names : Cond.sameField "StatementRules2$Statements" "StatementRules2$Formulas" "names" "LStatementRules2$Names;" ∈ wzX7_armBlock := List.mem_cons_of_mem _ (List.mem_append_right _ (List.mem_append_right _ (List.mem_append_right _ (List.mem_append_right _ (List.mem_append_right _ (List.mem_append_right _ (List.mem_append_right _ (List.mem_append_right _ (List.mem_append_right _ (List.mem_append_right _ (List.mem_append_right _ (List.mem_append_left _ (List.mem_of_getElem? (i := 4) rfl)))))))))))))
theorem i_X7_armBlock_X4 : ∀ w ∈ wsX40, w ∈ wzX7_armBlock := fun _ h => List.mem_cons_of_mem _ (List.mem_append_right _ (List.mem_append_right _ (List.mem_append_right _ (List.mem_append_right _ (List.mem_append_right _ (List.mem_append_right _ (List.mem_append_right _ (List.mem_append_right _ (List.mem_append_right _ (List.mem_append_right _ (List.mem_append_right _ (List.mem_append_right _ (List.mem_append_right _ (List.mem_append_right _ (List.mem_append_right _ (List.mem_append_right _ (List.mem_append_right _ (List.mem_append_right _ (List.mem_append_right _ (List.mem_append_right _ (List.mem_append_right _ (List.mem_append_right _ (List.mem_append_right _ (List.mem_append_right _ (List.mem_append_right _ (List.mem_append_right _ (List.mem_append_right _ (List.mem_append_right _ (List.mem_append_right _ (List.mem_append_right _ (List.mem_append_right _ (List.mem_append_right _ (List.mem_append_right _ (List.mem_append_right _ (List.mem_append_right _ (List.mem_append_right _ (List.mem_append_right _ (List.mem_append_right _ (List.mem_append_right _ (List.mem_append_right _ (List.mem_append_left _ (h))))))))))))))))))))))))))))))))))))))))))
theorem i_X7_armBlock_X5 : ∀ w ∈ wsX50, w ∈ wzX7_armBlock := fun _ h => List.mem_cons_of_mem _ (List.mem_append_right _ (List.mem_append_right _ (List.mem_append_right _ (List.mem_append_right _ (List.mem_append_right _ (List.mem_append_right _ (List.mem_append_right _ (List.mem_append_right _ (List.mem_append_right _ (List.mem_append_right _ (List.mem_append_right _ (List.mem_append_right _ (List.mem_append_right _ (List.mem_append_right _ (List.mem_append_right _ (List.mem_append_right _ (List.mem_append_right _ (List.mem_append_right _ (List.mem_append_right _ (List.mem_append_right _ (List.mem_append_right _ (List.mem_append_right _ (List.mem_append_right _ (List.mem_append_right _ (List.mem_append_right _ (List.mem_append_right _ (List.mem_append_right _ (List.mem_append_right _ (List.mem_append_right _ (List.mem_append_right _ (List.mem_append_right _ (List.mem_append_right _ (List.mem_append_right _ (List.mem_append_right _ (List.mem_append_right _ (List.mem_append_right _ (List.mem_append_right _ (List.mem_append_right _ (List.mem_append_right _ (List.mem_append_right _ (List.mem_append_right _ (List.mem_append_left _ (h)))))))))))))))))))))))))))))))))))))))))))
set_option maxHeartbeats 4000000 in
set_option maxRecDepth 100000 in
theorem c_X7_armBlock (l : Launch) (dC : Nat → ClassId) (dI : Nat → Nat → Nat) (Q : CQ) (N : Nat) (d : Nat) (E1 : CS → Option (Unit × CS)) (E2 : CS → Option (Int32 × CS)) (hE1 : cMF l dC dI Q d E1) (hE2 : cMO l dC dI Q d E2) (hm1 : ∀ σ, Mono (CS.hs σ) (E1 σ)) (hm2 : ∀ σ, Mono (CS.hs σ) (E2 σ)) (σ : CS) (x1 : Int32) (R : Unit × CS) (hf : f_X7_armBlock N E1 E2 σ x1 = some R) : Met l yX7_armBlock wzX7_armBlock ({ frames := (22 + 40 * d), cells := CS.hs R.2 - CS.hs σ, slots := 17 * (CS.hs R.2 - CS.hs σ), locals := 60 * (22 + 40 * d) }) (va_Pc [.ref (Q.o 3), .int x1] (zPre dC dI (CS.hs σ) (cW Q σ) (cT Q))) (va_Qv (fun (_ : Unit) => True) (fun (_ : Unit) (t : State) => zPost dC dI (va_A (cW Q σ) (CS.hs σ)) (cW Q R.2) (cT Q) t ∧ t.heap.size = CS.hs R.2) (va_A (cW Q σ) (CS.hs σ))) (CS.hs R.2 - CS.hs σ) (17 * (CS.hs R.2 - CS.hs σ)) (va_A (cW Q σ) (CS.hs σ)) := by
  refine Met.ofW (cc := cX7_armBlock) (maxL := 5) (ret := none) (by decide) rfl ?_
  intro p e s m args below meth c s₁ B hml hv
  obtain ⟨rfl, hsz, hZ, hP, hK, hD0⟩ := hv
  have hx := B.exec
  have hb := B.bytes
  have hr := B.returns
  have hts := atoms_spec (ws := wzX7_armBlock) B.pre
  have hown : s.vm.findClass RX7 = some m.cls := findClass_of_methodNamed B.named
  have hlocks := B.notSynchronized
  have hD := hD0.self (sz := CS.hs σ)
  generalize hAe : va_A (cW Q σ) (CS.hs σ) = A at hD ⊢
  have hA : ∀ q : Nat, s.heap.size ≤ q → A q := fun q h => by rw [← hAe]; exact Or.inr (hsz ▸ h)
  have hC : CP dC dI Q A s.heap σ s.heap [] := ⟨hP, hD, va_S.rf, hsz⟩
  have h0 : CS.hs σ ≤ CS.hs σ := Nat.le_refl _
  have hl := lv_entry ([.ref (Q.o 3), .int x1]) (n := 5) (Nat.le_of_ble_eq_true rfl)
  rw [lg_entry_eq]
  generalize (lg_sl ([.ref (Q.o 3), .int x1]) ++ List.replicate (5 - (lg_sl ([.ref (Q.o 3), .int x1])).length) Slot.unset).toArray = ls at hl ⊢
  have hl : lv_has ls 5 [(0, .ref (Q.o 3)), (1, .int x1)] := hl
  unfold f_X7_armBlock at hf
  refine W.widen (k := CS.hs σ - CS.hs σ) (n := 17 * (CS.hs σ - CS.hs σ)) (Nat.zero_le _) (Nat.zero_le _) ?_
  refine lv_aload_n hx hb dX7_armBlock_0 rfl (lv_at hl 0 rfl) ?_
  refine cG_36 (v := (σ.i 36)) hx hb hts i_X7_armBlock_X7 hown hK hC (hts (.fieldLink RX7 61 "StatementRules2$Statements" "alive" "Z") k_X7_armBlock_fieldLink_RX7_61_SR_Statements_alive_Z) (fun _ q9 => q9) dX7_armBlock_1 rfl ?_
  refine lv_istore_n (lv' := [(2, .int (σ.i 36)), (0, .ref (Q.o 3)), (1, .int x1)]) hx hb dX7_armBlock_4 rfl hl (by decide) rfl (fun ls hl => ?_)
  refine lv_aload_n hx hb dX7_armBlock_5 rfl (lv_at hl 1 rfl) ?_
  refine cG_35 hx hb hts i_X7_armBlock_X7 hown hK hC (hts (.fieldLink RX7 14 "StatementRules2$Statements" "opens" "LStatementRules2$Opens;") k_X7_armBlock_fieldLink_RX7_14_SR_Statements_opens_LSR_Opens) (fun _ q9 => q9) dX7_armBlock_6 ?_
  refine cGN_53 (v := (σ.i 53)) hx hb hts i_X7_armBlock_X6 hown hK hC (va_Nw.use rfl (hZ.1 (.fieldLinkNest RX7 92 "StatementRules2$Opens" "count" "I" "StatementRules2") (by decide +kernel))) (fun _ q9 => q9) dX7_armBlock_9 rfl ?_
  refine lv_istore_n (lv' := [(3, .int (σ.i 53)), (2, .int (σ.i 36)), (0, .ref (Q.o 3)), (1, .int x1)]) hx hb dX7_armBlock_12 rfl hl (by decide) rfl (fun ls hl => ?_)
  refine lv_aload_n hx hb dX7_armBlock_13 rfl (lv_at hl 2 rfl) ?_
  refine lv_bipush (v := 123) hx hb dX7_armBlock_14 (by decide) ?_
  obtain ⟨p1, hcp1, hf⟩ := hf_bind hf
  have mo2 : CS.hs σ ≤ CS.hs p1.2 := Mono.go hcp1 (m_X1_open N σ 123)
  have hr9 : CS.hs p1.2 ≤ CS.hs R.2 := Mono.go hf (mono_bind (m_X6_push N p1.2 302 (p1.2.i 38) (p1.2.i 50)) (fun p5 => (mono_oc mono_none (fun a10 => (mono_ite (mono_bind (m_X7_turns N E1 E2 hm1 hm2 (CS.setI (CS.setI (CS.setO (CS.setO p5.2 a10 9 x1) a10 16 (p5.2.i 56)) 56 (σ.i 53)) 36 1) (σ.i 53)) (fun p12 => (mono_ite (mono_ite (mono_some (Nat.le_refl _)) mono_none) mono_none))) mono_none)))))
  have hFc := cFree hC hA
  refine va_callv (va_runU (As := [.int 123]) (rest := []) ⟨hx, hb, hml, hown, hts⟩ (c_X1_open l dC dI Q N σ 123 p1 hcp1) (va_cwU 1 hts hX7_armBlock_X1_open_u173 rfl rfl rfl rfl (by decide +kernel) ⟨(show 4 + 1 ≤ (22 + 40 * d) by omega), (show 8 + (2 + 11) + 60 * 4 ≤ 60 * (22 + 40 * d) by omega)⟩) ⟨zPre.blind, va_recv hK hC.1 (ci := 6) (q0 := 3) rfl rfl, cPre_go hZ hK hC⟩ rfl rfl hl.1 rfl (lv_room (Nat.le_of_ble_eq_true rfl)) dX7_armBlock_16 (cAcc h0 mo2 hr9)) hC.2.2.1 (fun q _ h => hFc q h) hFc (fun u9 t9 H1 locs ht hvm hw hB hz1 hk1 hS => ?_)
  obtain ⟨⟨hP, hK1, hD1⟩, hsz1⟩ := hB
  rw [ht] at hP hsz1
  have hC : CP dC dI Q A s.heap p1.2 H1 locs := ⟨hP, hD1.weaken (fun _ _ _ h => hFc _ h), hS, hsz1⟩
  generalize H1 = H at hC ⊢
  have h4 : (CS.hs σ) ≤ CS.hs p1.2 := Nat.le_trans h0 mo2
  refine W.widen (k := CS.hs p1.2 - (CS.hs σ)) (n := 17 * (CS.hs p1.2 - (CS.hs σ))) (cAcc2 h0 mo2) (cAcc3 h0 mo2) ?_
  refine lv_aload_n hx hb dX7_armBlock_19 rfl (lv_at hl 2 rfl) ?_
  refine cG_35 hx hb hts i_X7_armBlock_X7 hown hK hC (hts (.fieldLink RX7 14 "StatementRules2$Statements" "opens" "LStatementRules2$Opens;") k_X7_armBlock_fieldLink_RX7_14_SR_Statements_opens_LSR_Opens) (fun _ q9 => q9) dX7_armBlock_20 ?_
  refine lv_sipush (v := 302) hx hb dX7_armBlock_23 (by decide) ?_
  refine lv_aload_n hx hb dX7_armBlock_26 rfl (lv_at hl 2 rfl) ?_
  refine cG_38 (v := (p1.2.i 38)) hx hb hts i_X7_armBlock_X7 hown hK hC (hts (.fieldLink RX7 68 "StatementRules2$Statements" "depth" "I") k_X7_armBlock_fieldLink_RX7_68_SR_Statements_depth_I) (fun _ q9 => q9) dX7_armBlock_27 rfl ?_
  refine lv_aload_n hx hb dX7_armBlock_30 rfl (lv_at hl 2 rfl) ?_
  refine cG_31 hx hb hts i_X7_armBlock_X7 hown hK hC (hts (.fieldLink RX7 29 "StatementRules2$Statements" "names" "LStatementRules2$Names;") k_X7_armBlock_fieldLink_RX7_29_SR_Statements_names_LSR_Names) (fun x9 q9 => u_same (hts (.sameField "StatementRules2$Statements" "StatementRules2$Formulas" "names" "LStatementRules2$Names;") k_X7_armBlock_sameField_SR_Statements_SR_Formulas_names_LSR_Names) x9 q9) dX7_armBlock_31 ?_
  refine cGN_50 (v := (p1.2.i 50)) hx hb hts i_X7_armBlock_X4 hown hK hC (va_Nw.use rfl (hZ.1 (.fieldLinkNest RX7 33 "StatementRules2$Names" "count" "I" "StatementRules2") (by decide +kernel))) (fun _ q9 => q9) dX7_armBlock_34 rfl ?_
  obtain ⟨p5, hcp5, hf⟩ := hf_bind hf
  have mo6 : CS.hs p1.2 ≤ CS.hs p5.2 := Mono.go hcp5 (m_X6_push N p1.2 302 (p1.2.i 38) (p1.2.i 50))
  have hr9 : CS.hs p5.2 ≤ CS.hs R.2 := Mono.go hf (mono_oc mono_none (fun a10 => (mono_ite (mono_bind (m_X7_turns N E1 E2 hm1 hm2 (CS.setI (CS.setI (CS.setO (CS.setO p5.2 a10 9 x1) a10 16 (p5.2.i 56)) 56 (σ.i 53)) 36 1) (σ.i 53)) (fun p12 => (mono_ite (mono_ite (mono_some (Nat.le_refl _)) mono_none) mono_none))) mono_none)))
  have hFc := cFree hC hA
  refine va_callq (va_runV (As := [.int 302, .int (p1.2.i 38), .int (p1.2.i 50)]) (rest := []) ⟨hx, hb, hml, hown, hts⟩ (c_X6_push l dC dI Q N p1.2 302 (p1.2.i 38) (p1.2.i 50) p5 hcp5) (cwV 3 hts hX7_armBlock_X6_push_v81 rfl rfl rfl (by decide +kernel) ⟨(show 2 + 1 ≤ (22 + 40 * d) by omega), (show 8 + (6 + 11) + 60 * 2 ≤ 60 * (22 + 40 * d) by omega)⟩) ⟨zPre.blind, va_recv hK hC.1 (ci := 5) (q0 := 6) rfl rfl, cPre_go hZ hK hC⟩ rfl rfl hl.1 rfl (lv_room (Nat.le_of_ble_eq_true rfl)) dX7_armBlock_37 (cAcc h4 mo6 hr9)) hC.2.2.1 (fun q _ h => hFc q h) hFc (fun r7 u9 t9 H1 locs ht hvm hw hB hz1 hk1 hS => ?_)
  obtain ⟨⟨hP, hK1, hD1⟩, hsz1⟩ := hB
  rw [ht] at hP hsz1
  have hC : CP dC dI Q A s.heap p5.2 H1 locs := ⟨hP, hD1.weaken (fun _ _ _ h => hFc _ h), hS, hsz1⟩
  generalize H1 = H at hC ⊢
  have h8 : (CS.hs σ) ≤ CS.hs p5.2 := Nat.le_trans h4 mo6
  refine W.widen (k := CS.hs p5.2 - (CS.hs σ)) (n := 17 * (CS.hs p5.2 - (CS.hs σ))) (cAcc2 h4 mo6) (cAcc3 h4 mo6) ?_
  obtain rfl : r7 = p5.1 := hw
  rcases hf_oc hf with ⟨q9, hf⟩ | ⟨a10, q9, hf⟩
  ·
    refine W.eq (congrArg (fun v9 => F0 m 40 ls (va_rf v9 :: [])) q9) ?_
    refine W.eq (g2 := F0 m 40 ls (.null :: [])) rfl ?_
    refine lv_astoreN (lv' := [(4, .null), (3, .int (σ.i 53)), (2, .int (σ.i 36)), (0, .ref (Q.o 3)), (1, .int x1)]) hx hb dX7_armBlock_40 hl (by decide) rfl (fun ls hl => ?_)
    refine lv_aloadN hx hb dX7_armBlock_42 (lv_at hl 0 rfl) ?_
    refine lv_iload_n hx hb dX7_armBlock_44 rfl (lv_at hl 4 rfl) ?_
    cases hf
  ·
    refine W.eq (congrArg (fun v9 => F0 m 40 ls (va_rf v9 :: [])) q9) ?_
    refine W.eq (g2 := F0 m 40 ls (.ref a10 :: [])) rfl ?_
    refine lv_astore (lv' := [(4, .ref a10), (3, .int (σ.i 53)), (2, .int (σ.i 36)), (0, .ref (Q.o 3)), (1, .int x1)]) hx hb dX7_armBlock_40 hl (by decide) rfl (fun ls hl => ?_)
    refine lv_aload hx hb dX7_armBlock_42 (lv_at hl 0 rfl) ?_
    refine lv_iload_n hx hb dX7_armBlock_44 rfl (lv_at hl 4 rfl) ?_
    obtain ⟨b11, hf⟩ := hf_ite hf
    refine pPN_X5_9 (v := x1) hx hb hts i_X7_armBlock_X5 hown hK hC (va_Nw.use rfl (hZ.1 (.fieldLinkNest RX7 196 "StatementRules2$Open" "exit" "I" "StatementRules2") (by decide +kernel))) (fun _ q9 => q9) dX7_armBlock_45 b11 (fun H locs hC => ?_)
    refine lv_aload hx hb dX7_armBlock_48 (lv_at hl 0 rfl) ?_
    refine lv_aload_n hx hb dX7_armBlock_50 rfl (lv_at hl 3 rfl) ?_
    refine cG_35 hx hb hts i_X7_armBlock_X7 hown hK hC (hts (.fieldLink RX7 14 "StatementRules2$Statements" "opens" "LStatementRules2$Opens;") k_X7_armBlock_fieldLink_RX7_14_SR_Statements_opens_LSR_Opens) (fun _ q9 => q9) dX7_armBlock_51 ?_
    refine cGN_56 (v := (p5.2.i 56)) hx hb hts i_X7_armBlock_X6 hown hK hC (va_Nw.use rfl (hZ.1 (.fieldLinkNest RX7 294 "StatementRules2$Opens" "arm" "I" "StatementRules2") (by decide +kernel))) (fun _ q9 => q9) dX7_armBlock_54 rfl ?_
    refine pPN_X5_16 (v := (p5.2.i 56)) hx hb hts i_X7_armBlock_X5 hown hK hC (va_Nw.use rfl (hZ.1 (.fieldLinkNest RX7 413 "StatementRules2$Open" "outerArm" "I" "StatementRules2") (by decide +kernel))) (fun _ q9 => q9) dX7_armBlock_57 b11 (fun H locs hC => ?_)
    refine lv_aload_n hx hb dX7_armBlock_60 rfl (lv_at hl 3 rfl) ?_
    refine cG_35 hx hb hts i_X7_armBlock_X7 hown hK hC (hts (.fieldLink RX7 14 "StatementRules2$Statements" "opens" "LStatementRules2$Opens;") k_X7_armBlock_fieldLink_RX7_14_SR_Statements_opens_LSR_Opens) (fun _ q9 => q9) dX7_armBlock_61 ?_
    refine lv_iload_n hx hb dX7_armBlock_64 rfl (lv_at hl 1 rfl) ?_
    refine cPN_56 (v := (σ.i 53)) hx hb hts i_X7_armBlock_X6 hown hK hC (va_Nw.use rfl (hZ.1 (.fieldLinkNest RX7 294 "StatementRules2$Opens" "arm" "I" "StatementRules2") (by decide +kernel))) (fun _ q9 => q9) dX7_armBlock_65 (fun H locs hC => ?_)
    refine lv_aload_n hx hb dX7_armBlock_68 rfl (lv_at hl 3 rfl) ?_
    refine lv_iconst (v := 1) hx hb dX7_armBlock_69 (by decide) ?_
    refine cP_36 (v := 1) hx hb hts i_X7_armBlock_X7 hown hK hC (hts (.fieldLink RX7 61 "StatementRules2$Statements" "alive" "Z") k_X7_armBlock_fieldLink_RX7_61_SR_Statements_alive_Z) (fun _ q9 => q9) dX7_armBlock_70 (by decide) (fun H locs hC => ?_)
    refine lv_aload_n hx hb dX7_armBlock_73 rfl (lv_at hl 3 rfl) ?_
    refine lv_iload_n hx hb dX7_armBlock_74 rfl (lv_at hl 1 rfl) ?_
    obtain ⟨p12, hcp12, hf⟩ := hf_bind hf
    have mo13 : CS.hs p5.2 ≤ CS.hs p12.2 := Mono.go hcp12 (m_X7_turns N E1 E2 hm1 hm2 (CS.setI (CS.setI (CS.setO (CS.setO p5.2 a10 9 x1) a10 16 (p5.2.i 56)) 56 (σ.i 53)) 36 1) (σ.i 53))
    have hr9 : CS.hs p12.2 ≤ CS.hs R.2 := Mono.go hf (mono_ite (mono_ite (mono_some (Nat.le_refl _)) mono_none) mono_none)
    have hFc := cFree hC hA
    refine va_callv (va_runV (As := [.int (σ.i 53)]) (rest := []) ⟨hx, hb, hml, hown, hts⟩ (c_X7_turns l dC dI Q N d E1 E2 hE1 hE2 hm1 hm2 (CS.setI (CS.setI (CS.setO (CS.setO p5.2 a10 9 x1) a10 16 (p5.2.i 56)) 56 (σ.i 53)) 36 1) (σ.i 53) p12 hcp12) (cwV 1 hts hX7_armBlock_X7_turns_v85 rfl rfl rfl (by decide +kernel) ⟨(show (21 + 40 * d) + 1 ≤ (22 + 40 * d) by omega), (show 8 + (4 + 11) + 60 * (21 + 40 * d) ≤ 60 * (22 + 40 * d) by omega)⟩) ⟨zPre.blind, va_recv hK hC.1 (ci := 6) (q0 := 3) rfl rfl, cPre_go hZ hK hC⟩ rfl rfl hl.1 rfl (lv_room (Nat.le_of_ble_eq_true rfl)) dX7_armBlock_75 (cAcc h8 mo13 hr9)) hC.2.2.1 (fun q _ h => hFc q h) hFc (fun u9 t9 H1 locs ht hvm hw hB hz1 hk1 hS => ?_)
    obtain ⟨⟨hP, hK1, hD1⟩, hsz1⟩ := hB
    rw [ht] at hP hsz1
    have hC : CP dC dI Q A s.heap p12.2 H1 locs := ⟨hP, hD1.weaken (fun _ _ _ h => hFc _ h), hS, hsz1⟩
    generalize H1 = H at hC ⊢
    have h15 : (CS.hs σ) ≤ CS.hs p12.2 := Nat.le_trans h8 mo13
    refine W.widen (k := CS.hs p12.2 - (CS.hs σ)) (n := 17 * (CS.hs p12.2 - (CS.hs σ))) (cAcc2 h8 mo13) (cAcc3 h8 mo13) ?_
    refine lv_aload_n hx hb dX7_armBlock_78 rfl (lv_at hl 3 rfl) ?_
    refine cG_35 hx hb hts i_X7_armBlock_X7 hown hK hC (hts (.fieldLink RX7 14 "StatementRules2$Statements" "opens" "LStatementRules2$Opens;") k_X7_armBlock_fieldLink_RX7_14_SR_Statements_opens_LSR_Opens) (fun _ q9 => q9) dX7_armBlock_79 ?_
    refine lv_aload hx hb dX7_armBlock_82 (lv_at hl 0 rfl) ?_
    obtain ⟨b16, hf⟩ := hf_ite hf
    refine pGN_X5_16 (v := (CS.o p12.2 a10 16)) hx hb hts i_X7_armBlock_X5 hown hK hC (va_Nw.use rfl (hZ.1 (.fieldLinkNest RX7 413 "StatementRules2$Open" "outerArm" "I" "StatementRules2") (by decide +kernel))) (fun _ q9 => q9) dX7_armBlock_84 b16 rfl ?_
    refine cPN_56 (v := (CS.o p12.2 a10 16)) hx hb hts i_X7_armBlock_X6 hown hK hC (va_Nw.use rfl (hZ.1 (.fieldLinkNest RX7 294 "StatementRules2$Opens" "arm" "I" "StatementRules2") (by decide +kernel))) (fun _ q9 => q9) dX7_armBlock_87 (fun H locs hC => ?_)
    refine lv_aload_n hx hb dX7_armBlock_90 rfl (lv_at hl 3 rfl) ?_
    refine lv_iload_n hx hb dX7_armBlock_91 rfl (lv_at hl 2 rfl) ?_
    obtain ⟨b17, hf⟩ := hf_ite hf
    refine cP_36 (v := (σ.i 36)) hx hb hts i_X7_armBlock_X7 hown hK hC (hts (.fieldLink RX7 61 "StatementRules2$Statements" "alive" "Z") k_X7_armBlock_fieldLink_RX7_61_SR_Statements_alive_Z) (fun _ q9 => q9) dX7_armBlock_92 b17 (fun H locs hC => ?_)
    obtain rfl := Option.some.inj hf
    exact W.vret hx hb hr (fun t ht hW => ⟨⟨(), rfl, trivial, ⟨by rw [ht]; exact hC.1, va_K.moved hW.alike hK, hC.2.1⟩, by rw [ht]; exact hC.2.2.2⟩, hC.2.2.1.F ht⟩) hC.2.2.1.2.2 dX7_armBlock_95
theorem k_X1_arm_fieldLink_RX1_22_SR_Formulas_code_LSR_Code : Cond.fieldLink RX1 22 "StatementRules2$Formulas" "code" "LStatementRules2$Code;" ∈ wzX1_arm := List.mem_cons_of_mem _ (List.mem_append_right _ (List.mem_append_left _ (List.mem_of_getElem? (i := 0) rfl)))
theorem i_X1_arm_X7 : ∀ w ∈ wsX70, w ∈ wzX1_arm := fun _ h => List.mem_cons_of_mem _ (List.mem_append_right _ (List.mem_append_right _ (List.mem_append_right _ (List.mem_append_right _ (List.mem_append_right _ (List.mem_append_right _ (List.mem_append_right _ (List.mem_append_right _ (List.mem_append_right _ (List.mem_append_right _ (List.mem_append_right _ (List.mem_append_right _ (List.mem_append_right _ (List.mem_append_right _ (List.mem_append_right _ (List.mem_append_right _ (List.mem_append_right _ (List.mem_append_right _ (List.mem_append_right _ (List.mem_append_right _ (List.mem_append_right _ (List.mem_append_right _ (List.mem_append_right _ (List.mem_append_right _ (List.mem_append_right _ (List.mem_append_right _ (List.mem_append_right _ (List.mem_append_right _ (List.mem_append_right _ (List.mem_append_right _ (List.mem_append_right _ (List.mem_append_right _ (List.mem_append_right _ (List.mem_append_right _ (List.mem_append_right _ (List.mem_append_right _ (List.mem_append_left _ (h))))))))))))))))))))))))))))))))))))))
theorem k_X1_arm_fieldLink_RX1_18_SR_Formulas_tokens_LSR_Tokens : Cond.fieldLink RX1 18 "StatementRules2$Formulas" "tokens" "LStatementRules2$Tokens;" ∈ wzX1_arm := List.mem_cons_of_mem _ (List.mem_append_right _ (List.mem_append_left _ (List.mem_of_getElem? (i := 1) rfl)))
theorem i_X1_arm_X9 : ∀ w ∈ wsX90, w ∈ wzX1_arm := fun _ h => List.mem_cons_of_mem _ (List.mem_append_right _ (List.mem_append_right _ (List.mem_append_right _ (List.mem_append_right _ (List.mem_append_right _ (List.mem_append_right _ (List.mem_append_right _ (List.mem_append_right _ (List.mem_append_right _ (List.mem_append_right _ (List.mem_append_right _ (List.mem_append_right _ (List.mem_append_right _ (List.mem_append_right _ (List.mem_append_right _ (List.mem_append_right _ (List.mem_append_right _ (List.mem_append_right _ (List.mem_append_right _ (List.mem_append_right _ (List.mem_append_right _ (List.mem_append_right _ (List.mem_append_right _ (List.mem_append_right _ (List.mem_append_right _ (List.mem_append_right _ (List.mem_append_right _ (List.mem_append_right _ (List.mem_append_right _ (List.mem_append_right _ (List.mem_append_right _ (List.mem_append_right _ (List.mem_append_right _ (List.mem_append_right _ (List.mem_append_right _ (List.mem_append_right _ (List.mem_append_right _ (List.mem_append_left _ (h)))))))))))))))))))))))))))))))))))))))
set_option maxHeartbeats 4000000 in
set_option maxRecDepth 100000 in
theorem j_X1_arm_153 {p : Program} {e : Env} {s : State} {m : MethodId} {args : Array Value} {below : List Frame} {meth : Method} {c : Code} {A : Nat → Prop} (l : Launch) (dC : Nat → ClassId) (dI : Nat → Nat → Nat) (Q : CQ) (N : Nat) (d : Nat) (E1 : CS → Option (Unit × CS)) (E2 : CS → Option (Int32 × CS)) (hE1 : cMF l dC dI Q d E1) (hE2 : cMO l dC dI Q d E2) (hm1 : ∀ σ, Mono (CS.hs σ) (E1 σ)) (hm2 : ∀ σ, Mono (CS.hs σ) (E2 σ)) (z9h : Nat) (R : Int32 × CS) (hx : p.tables.exec = Jvm.exec) (hb : c.code = cX1_arm) (hr : meth.sig.returnType = (some .int)) (hml : c.maxLocals = 7) (hown : s.vm.findClass RX1 = some m.cls) (hts : ∀ w ∈ wzX1_arm, w.before args s = true) (hlocks : meth.locks = false) (hZ : zAMB s) (hA : ∀ q : Nat, s.heap.size ≤ q → A q) (hK : va_K (dC, dI) vwCl (cT Q) s) : ∀ (σ : CS) (x5 : Int32) (H : Heap) (locs : List Loc) (ls : Array Slot), f_X1_arm_153 N E1 E2 σ x5 = some R → z9h ≤ CS.hs σ → CP dC dI Q A s.heap σ H locs → lv_has ls 7 [(5, .int x5)] → W p l e ({ frames := (23 + 40 * d), cells := CS.hs R.2 - z9h, slots := 17 * (CS.hs R.2 - z9h), locals := 60 * (23 + 40 * d) }) s m args below meth c H locs (CS.hs σ - z9h) (17 * (CS.hs σ - z9h)) (MQ below (va_Qi (fun (r : Int32) (_ : Unit) => r = R.1) (fun (_ : Unit) (t : State) => zPost dC dI A (cW Q R.2) (cT Q) t ∧ t.heap.size = CS.hs R.2) A) args s (CS.hs R.2 - z9h) (17 * (CS.hs R.2 - z9h)) A) (F0 m 153 ls []) := by
  intro σ x5 H locs ls hf h0 hC hl
  unfold f_X1_arm_153 at hf
  refine lv_iload hx hb dX1_arm_153 (lv_at hl 0 rfl) ?_
  obtain rfl := Option.some.inj hf
  exact W.iret (v := x5) hx hb hr (fun t ht hW => ⟨⟨x5, (), rfl, rfl, ⟨by rw [ht]; exact hC.1, va_K.moved hW.alike hK, hC.2.1⟩, by rw [ht]; exact hC.2.2.2⟩, hC.2.2.1.F ht⟩) hC.2.2.1.2.2 dX1_arm_155
set_option maxHeartbeats 4000000 in
set_option maxRecDepth 100000 in
theorem j_X1_arm_100 {p : Program} {e : Env} {s : State} {m : MethodId} {args : Array Value} {below : List Frame} {meth : Method} {c : Code} {A : Nat → Prop} (l : Launch) (dC : Nat → ClassId) (dI : Nat → Nat → Nat) (Q : CQ) (N : Nat) (d : Nat) (E1 : CS → Option (Unit × CS)) (E2 : CS → Option (Int32 × CS)) (hE1 : cMF l dC dI Q d E1) (hE2 : cMO l dC dI Q d E2) (hm1 : ∀ σ, Mono (CS.hs σ) (E1 σ)) (hm2 : ∀ σ, Mono (CS.hs σ) (E2 σ)) (z9h : Nat) (R : Int32 × CS) (hx : p.tables.exec = Jvm.exec) (hb : c.code = cX1_arm) (hr : meth.sig.returnType = (some .int)) (hml : c.maxLocals = 7) (hown : s.vm.findClass RX1 = some m.cls) (hts : ∀ w ∈ wzX1_arm, w.before args s = true) (hlocks : meth.locks = false) (hZ : zAMB s) (hA : ∀ q : Nat, s.heap.size ≤ q → A q) (hK : va_K (dC, dI) vwCl (cT Q) s) : ∀ (σ : CS) (x3 : Int32) (x4 : Int32) (x5 : Int32) (H : Heap) (locs : List Loc) (ls : Array Slot), f_X1_arm_100 N E1 E2 σ x3 x4 x5 = some R → z9h ≤ CS.hs σ → CP dC dI Q A s.heap σ H locs → lv_has ls 7 [(0, .ref (Q.o 3)), (3, .int x3), (4, .int x4), (5, .int x5)] → W p l e ({ frames := (23 + 40 * d), cells := CS.hs R.2 - z9h, slots := 17 * (CS.hs R.2 - z9h), locals := 60 * (23 + 40 * d) }) s m args below meth c H locs (CS.hs σ - z9h) (17 * (CS.hs σ - z9h)) (MQ below (va_Qi (fun (r : Int32) (_ : Unit) => r = R.1) (fun (_ : Unit) (t : State) => zPost dC dI A (cW Q R.2) (cT Q) t ∧ t.heap.size = CS.hs R.2) A) args s (CS.hs R.2 - z9h) (17 * (CS.hs R.2 - z9h)) A) (F0 m 100 ls []) := by
  intro σ x3 x4 x5 H locs ls hf h0 hC hl
  unfold f_X1_arm_100 at hf
  refine lv_aload_n hx hb dX1_arm_100 rfl (lv_at hl 0 rfl) ?_
  refine lv_sipush (v := 134) hx hb dX1_arm_101 (by decide) ?_
  obtain ⟨p19, hcp19, hf⟩ := hf_bind hf
  have mo20 : CS.hs σ ≤ CS.hs p19.2 := Mono.go hcp19 (m_X1_expect N σ 134)
  have hr9 : CS.hs p19.2 ≤ CS.hs R.2 := Mono.go hf (mono_bind (m_X0_aim N p19.2 x4) (fun p23 => (mono_bind (m_X1_found N p23.2 123) (fun p27 => (mono_ite (mono_bind (m_X1_expression N E1 E2 hm1 hm2 p27.2) (fun p32 => (mono_bind (m_X1_expect N p32.2 59) (fun p36 => (mono_bind (m_X0_add N p36.2 30 x3) (fun p40 => (m_X1_arm_153 N E1 E2 hm1 hm2 p40.2 x5))))))) (mono_bind (m_X7_armBlock N E1 E2 hm1 hm2 p27.2 x3) (fun p44 => (m_X1_arm_153 N E1 E2 hm1 hm2 p44.2 x5))))))))
  have hFc := cFree hC hA
  refine va_callv (va_runU (As := [.int 134]) (rest := []) ⟨hx, hb, hml, hown, hts⟩ (c_X1_expect l dC dI Q N σ 134 p19 hcp19) (va_cwU 1 hts hX1_arm_X1_expect_u133 rfl rfl rfl rfl (by decide +kernel) ⟨(show 4 + 1 ≤ (23 + 40 * d) by omega), (show 8 + (2 + 11) + 60 * 4 ≤ 60 * (23 + 40 * d) by omega)⟩) ⟨zPre.blind, va_recv hK hC.1 (ci := 6) (q0 := 3) rfl rfl, cPre_go hZ hK hC⟩ rfl rfl hl.1 rfl (lv_room (Nat.le_of_ble_eq_true rfl)) dX1_arm_104 (cAcc h0 mo20 hr9)) hC.2.2.1 (fun q _ h => hFc q h) hFc (fun u9 t9 H1 locs ht hvm hw hB hz1 hk1 hS => ?_)
  obtain ⟨⟨hP, hK1, hD1⟩, hsz1⟩ := hB
  rw [ht] at hP hsz1
  have hC : CP dC dI Q A s.heap p19.2 H1 locs := ⟨hP, hD1.weaken (fun _ _ _ h => hFc _ h), hS, hsz1⟩
  generalize H1 = H at hC ⊢
  have h22 : z9h ≤ CS.hs p19.2 := Nat.le_trans h0 mo20
  refine W.widen (k := CS.hs p19.2 - z9h) (n := 17 * (CS.hs p19.2 - z9h)) (cAcc2 h0 mo20) (cAcc3 h0 mo20) ?_
  refine lv_aload_n hx hb dX1_arm_107 rfl (lv_at hl 0 rfl) ?_
  refine cG_29 hx hb hts i_X1_arm_X7 hown hK hC (hts (.fieldLink RX1 22 "StatementRules2$Formulas" "code" "LStatementRules2$Code;") k_X1_arm_fieldLink_RX1_22_SR_Formulas_code_LSR_Code) (fun _ q9 => q9) dX1_arm_108 ?_
  refine lv_iload hx hb dX1_arm_111 (lv_at hl 2 rfl) ?_
  obtain ⟨p23, hcp23, hf⟩ := hf_bind hf
  have mo24 : CS.hs p19.2 ≤ CS.hs p23.2 := Mono.go hcp23 (m_X0_aim N p19.2 x4)
  have hr9 : CS.hs p23.2 ≤ CS.hs R.2 := Mono.go hf (mono_bind (m_X1_found N p23.2 123) (fun p27 => (mono_ite (mono_bind (m_X1_expression N E1 E2 hm1 hm2 p27.2) (fun p32 => (mono_bind (m_X1_expect N p32.2 59) (fun p36 => (mono_bind (m_X0_add N p36.2 30 x3) (fun p40 => (m_X1_arm_153 N E1 E2 hm1 hm2 p40.2 x5))))))) (mono_bind (m_X7_armBlock N E1 E2 hm1 hm2 p27.2 x3) (fun p44 => (m_X1_arm_153 N E1 E2 hm1 hm2 p44.2 x5))))))
  have hFc := cFree hC hA
  refine va_callv (va_runV (As := [.int x4]) (rest := []) ⟨hx, hb, hml, hown, hts⟩ (c_X0_aim l dC dI Q N p19.2 x4 p23 hcp23) (cwV 1 hts hX1_arm_X0_aim_v121 rfl rfl rfl (by decide +kernel) ⟨(show 2 + 1 ≤ (23 + 40 * d) by omega), (show 8 + (2 + 11) + 60 * 2 ≤ 60 * (23 + 40 * d) by omega)⟩) ⟨zPre.blind, va_recv hK hC.1 (ci := 0) (q0 := 2) rfl rfl, cPre_go hZ hK hC⟩ rfl rfl hl.1 rfl (lv_room (Nat.le_of_ble_eq_true rfl)) dX1_arm_113 (cAcc h22 mo24 hr9)) hC.2.2.1 (fun q _ h => hFc q h) hFc (fun u9 t9 H1 locs ht hvm hw hB hz1 hk1 hS => ?_)
  obtain ⟨⟨hP, hK1, hD1⟩, hsz1⟩ := hB
  rw [ht] at hP hsz1
  have hC : CP dC dI Q A s.heap p23.2 H1 locs := ⟨hP, hD1.weaken (fun _ _ _ h => hFc _ h), hS, hsz1⟩
  generalize H1 = H at hC ⊢
  have h26 : z9h ≤ CS.hs p23.2 := Nat.le_trans h22 mo24
  refine W.widen (k := CS.hs p23.2 - z9h) (n := 17 * (CS.hs p23.2 - z9h)) (cAcc2 h22 mo24) (cAcc3 h22 mo24) ?_
  refine lv_aload_n hx hb dX1_arm_116 rfl (lv_at hl 0 rfl) ?_
  refine lv_bipush (v := 123) hx hb dX1_arm_117 (by decide) ?_
  obtain ⟨p27, hcp27, hf⟩ := hf_bind hf
  have mo28 : CS.hs p23.2 ≤ CS.hs p27.2 := Mono.go hcp27 (m_X1_found N p23.2 123)
  have hr9 : CS.hs p27.2 ≤ CS.hs R.2 := Mono.go hf (mono_ite (mono_bind (m_X1_expression N E1 E2 hm1 hm2 p27.2) (fun p32 => (mono_bind (m_X1_expect N p32.2 59) (fun p36 => (mono_bind (m_X0_add N p36.2 30 x3) (fun p40 => (m_X1_arm_153 N E1 E2 hm1 hm2 p40.2 x5))))))) (mono_bind (m_X7_armBlock N E1 E2 hm1 hm2 p27.2 x3) (fun p44 => (m_X1_arm_153 N E1 E2 hm1 hm2 p44.2 x5))))
  have hFc := cFree hC hA
  refine va_calli (va_runU (As := [.int 123]) (rest := []) ⟨hx, hb, hml, hown, hts⟩ (c_X1_found l dC dI Q N p23.2 123 p27 hcp27) (va_cwU 1 hts hX1_arm_X1_found_u42 rfl rfl rfl rfl (by decide +kernel) ⟨(show 1 + 1 ≤ (23 + 40 * d) by omega), (show 8 + (2 + 11) + 60 * 1 ≤ 60 * (23 + 40 * d) by omega)⟩) ⟨zPre.blind, va_recv hK hC.1 (ci := 6) (q0 := 3) rfl rfl, cPre_go hZ hK hC⟩ rfl rfl hl.1 rfl (lv_room (Nat.le_of_ble_eq_true rfl)) dX1_arm_119 (cAcc h26 mo28 hr9)) hC.2.2.1 (fun q _ h => hFc q h) hFc (fun r29 u9 t9 H1 locs ht hvm hw hB hz1 hk1 hS => ?_)
  obtain ⟨⟨hP, hK1, hD1⟩, hsz1⟩ := hB
  rw [ht] at hP hsz1
  have hC : CP dC dI Q A s.heap p27.2 H1 locs := ⟨hP, hD1.weaken (fun _ _ _ h => hFc _ h), hS, hsz1⟩
  generalize H1 = H at hC ⊢
  have h30 : z9h ≤ CS.hs p27.2 := Nat.le_trans h26 mo28
  refine W.widen (k := CS.hs p27.2 - z9h) (n := 17 * (CS.hs p27.2 - z9h)) (cAcc2 h26 mo28) (cAcc3 h26 mo28) ?_
  obtain rfl : r29 = p27.1 := hw
  refine lv_if_eq (tgt := 133) hx hb dX1_arm_122 (by decide) (fun c31 => ?_) (fun c31 => ?_)
  ·
    replace hf := (if_pos c31).symm.trans hf
    refine lv_aload_n hx hb dX1_arm_133 rfl (lv_at hl 0 rfl) ?_
    obtain ⟨p32, hcp32, hf⟩ := hf_bind hf
    have mo33 : CS.hs p27.2 ≤ CS.hs p32.2 := Mono.go hcp32 (m_X1_expression N E1 E2 hm1 hm2 p27.2)
    have hr9 : CS.hs p32.2 ≤ CS.hs R.2 := Mono.go hf (mono_bind (m_X1_expect N p32.2 59) (fun p36 => (mono_bind (m_X0_add N p36.2 30 x3) (fun p40 => (m_X1_arm_153 N E1 E2 hm1 hm2 p40.2 x5)))))
    have hFc := cFree hC hA
    refine va_callv (va_runU (As := []) (rest := []) ⟨hx, hb, hml, hown, hts⟩ (c_X1_expression l dC dI Q N d E1 E2 hE1 hE2 hm1 hm2 p27.2 p32 hcp32) (va_cwU 0 hts hX1_arm_X1_expression_u89 rfl rfl rfl rfl (by decide +kernel) ⟨(show (12 + 40 * d) + 1 ≤ (23 + 40 * d) by omega), (show 8 + (3 + 11) + 60 * (12 + 40 * d) ≤ 60 * (23 + 40 * d) by omega)⟩) ⟨zPre.blind, va_recv hK hC.1 (ci := 6) (q0 := 3) rfl rfl, cPre_go hZ hK hC⟩ rfl rfl hl.1 rfl (lv_room (Nat.le_of_ble_eq_true rfl)) dX1_arm_134 (cAcc h30 mo33 hr9)) hC.2.2.1 (fun q _ h => hFc q h) hFc (fun u9 t9 H1 locs ht hvm hw hB hz1 hk1 hS => ?_)
    obtain ⟨⟨hP, hK1, hD1⟩, hsz1⟩ := hB
    rw [ht] at hP hsz1
    have hC : CP dC dI Q A s.heap p32.2 H1 locs := ⟨hP, hD1.weaken (fun _ _ _ h => hFc _ h), hS, hsz1⟩
    generalize H1 = H at hC ⊢
    have h35 : z9h ≤ CS.hs p32.2 := Nat.le_trans h30 mo33
    refine W.widen (k := CS.hs p32.2 - z9h) (n := 17 * (CS.hs p32.2 - z9h)) (cAcc2 h30 mo33) (cAcc3 h30 mo33) ?_
    refine lv_aload_n hx hb dX1_arm_137 rfl (lv_at hl 0 rfl) ?_
    refine lv_bipush (v := 59) hx hb dX1_arm_138 (by decide) ?_
    obtain ⟨p36, hcp36, hf⟩ := hf_bind hf
    have mo37 : CS.hs p32.2 ≤ CS.hs p36.2 := Mono.go hcp36 (m_X1_expect N p32.2 59)
    have hr9 : CS.hs p36.2 ≤ CS.hs R.2 := Mono.go hf (mono_bind (m_X0_add N p36.2 30 x3) (fun p40 => (m_X1_arm_153 N E1 E2 hm1 hm2 p40.2 x5)))
    have hFc := cFree hC hA
    refine va_callv (va_runU (As := [.int 59]) (rest := []) ⟨hx, hb, hml, hown, hts⟩ (c_X1_expect l dC dI Q N p32.2 59 p36 hcp36) (va_cwU 1 hts hX1_arm_X1_expect_u133 rfl rfl rfl rfl (by decide +kernel) ⟨(show 4 + 1 ≤ (23 + 40 * d) by omega), (show 8 + (2 + 11) + 60 * 4 ≤ 60 * (23 + 40 * d) by omega)⟩) ⟨zPre.blind, va_recv hK hC.1 (ci := 6) (q0 := 3) rfl rfl, cPre_go hZ hK hC⟩ rfl rfl hl.1 rfl (lv_room (Nat.le_of_ble_eq_true rfl)) dX1_arm_140 (cAcc h35 mo37 hr9)) hC.2.2.1 (fun q _ h => hFc q h) hFc (fun u9 t9 H1 locs ht hvm hw hB hz1 hk1 hS => ?_)
    obtain ⟨⟨hP, hK1, hD1⟩, hsz1⟩ := hB
    rw [ht] at hP hsz1
    have hC : CP dC dI Q A s.heap p36.2 H1 locs := ⟨hP, hD1.weaken (fun _ _ _ h => hFc _ h), hS, hsz1⟩
    generalize H1 = H at hC ⊢
    have h39 : z9h ≤ CS.hs p36.2 := Nat.le_trans h35 mo37
    refine W.widen (k := CS.hs p36.2 - z9h) (n := 17 * (CS.hs p36.2 - z9h)) (cAcc2 h35 mo37) (cAcc3 h35 mo37) ?_
    refine lv_aload_n hx hb dX1_arm_143 rfl (lv_at hl 0 rfl) ?_
    refine cG_29 hx hb hts i_X1_arm_X7 hown hK hC (hts (.fieldLink RX1 22 "StatementRules2$Formulas" "code" "LStatementRules2$Code;") k_X1_arm_fieldLink_RX1_22_SR_Formulas_code_LSR_Code) (fun _ q9 => q9) dX1_arm_144 ?_
    refine lv_bipush (v := 30) hx hb dX1_arm_147 (by decide) ?_
    refine lv_iload_n hx hb dX1_arm_149 rfl (lv_at hl 1 rfl) ?_
    obtain ⟨p40, hcp40, hf⟩ := hf_bind hf
    have mo41 : CS.hs p36.2 ≤ CS.hs p40.2 := Mono.go hcp40 (m_X0_add N p36.2 30 x3)
    have hr9 : CS.hs p40.2 ≤ CS.hs R.2 := Mono.go hf (m_X1_arm_153 N E1 E2 hm1 hm2 p40.2 x5)
    have hFc := cFree hC hA
    refine va_callv (va_runV (As := [.int 30, .int x3]) (rest := []) ⟨hx, hb, hml, hown, hts⟩ (c_X0_add l dC dI Q N p36.2 30 x3 p40 hcp40) (cwV 2 hts hX1_arm_X0_add_v68 rfl rfl rfl (by decide +kernel) ⟨(show 2 + 1 ≤ (23 + 40 * d) by omega), (show 8 + (3 + 11) + 60 * 2 ≤ 60 * (23 + 40 * d) by omega)⟩) ⟨zPre.blind, va_recv hK hC.1 (ci := 0) (q0 := 2) rfl rfl, cPre_go hZ hK hC⟩ rfl rfl hl.1 rfl (lv_room (Nat.le_of_ble_eq_true rfl)) dX1_arm_150 (cAcc h39 mo41 hr9)) hC.2.2.1 (fun q _ h => hFc q h) hFc (fun u9 t9 H1 locs ht hvm hw hB hz1 hk1 hS => ?_)
    obtain ⟨⟨hP, hK1, hD1⟩, hsz1⟩ := hB
    rw [ht] at hP hsz1
    have hC : CP dC dI Q A s.heap p40.2 H1 locs := ⟨hP, hD1.weaken (fun _ _ _ h => hFc _ h), hS, hsz1⟩
    generalize H1 = H at hC ⊢
    have h43 : z9h ≤ CS.hs p40.2 := Nat.le_trans h39 mo41
    refine W.widen (k := CS.hs p40.2 - z9h) (n := 17 * (CS.hs p40.2 - z9h)) (cAcc2 h39 mo41) (cAcc3 h39 mo41) ?_
    exact j_X1_arm_153 l dC dI Q N d E1 E2 hE1 hE2 hm1 hm2 z9h R hx hb hr hml hown hts hlocks hZ hA hK p40.2 x5 _ _ _ hf h43 hC (lv_sub hl [3] rfl)
  ·
    replace hf := (if_neg c31).symm.trans hf
    refine lv_aload_n hx hb dX1_arm_125 rfl (lv_at hl 0 rfl) ?_
    refine lv_iload_n hx hb dX1_arm_126 rfl (lv_at hl 1 rfl) ?_
    obtain ⟨p44, hcp44, hf⟩ := hf_bind hf
    have mo45 : CS.hs p27.2 ≤ CS.hs p44.2 := Mono.go hcp44 (m_X7_armBlock N E1 E2 hm1 hm2 p27.2 x3)
    have hr9 : CS.hs p44.2 ≤ CS.hs R.2 := Mono.go hf (m_X1_arm_153 N E1 E2 hm1 hm2 p44.2 x5)
    have hFc := cFree hC hA
    refine va_callv (va_runU (As := [.int x3]) (rest := []) ⟨hx, hb, hml, hown, hts⟩ (c_X7_armBlock l dC dI Q N d E1 E2 hE1 hE2 hm1 hm2 p27.2 x3 p44 hcp44) (va_cwA 1 hts hX1_arm_X7_armBlock_u136 rfl rfl rfl (hZ.1 (.declares ⟨"StatementRules2$Formulas", "armBlock", "(I)V"⟩) (by decide +kernel)) (by decide +kernel) ⟨(show (22 + 40 * d) + 1 ≤ (23 + 40 * d) by omega), (show 8 + (5 + 11) + 60 * (22 + 40 * d) ≤ 60 * (23 + 40 * d) by omega)⟩) ⟨zPre.blind, va_recv hK hC.1 (ci := 6) (q0 := 3) rfl rfl, cPre_go hZ hK hC⟩ rfl rfl hl.1 rfl (lv_room (Nat.le_of_ble_eq_true rfl)) dX1_arm_127 (cAcc h30 mo45 hr9)) hC.2.2.1 (fun q _ h => hFc q h) hFc (fun u9 t9 H1 locs ht hvm hw hB hz1 hk1 hS => ?_)
    obtain ⟨⟨hP, hK1, hD1⟩, hsz1⟩ := hB
    rw [ht] at hP hsz1
    have hC : CP dC dI Q A s.heap p44.2 H1 locs := ⟨hP, hD1.weaken (fun _ _ _ h => hFc _ h), hS, hsz1⟩
    generalize H1 = H at hC ⊢
    have h47 : z9h ≤ CS.hs p44.2 := Nat.le_trans h30 mo45
    refine W.widen (k := CS.hs p44.2 - z9h) (n := 17 * (CS.hs p44.2 - z9h)) (cAcc2 h30 mo45) (cAcc3 h30 mo45) ?_
    refine lv_goto (tgt := 153) hx hb dX1_arm_130 (by decide) ?_
    exact j_X1_arm_153 l dC dI Q N d E1 E2 hE1 hE2 hm1 hm2 z9h R hx hb hr hml hown hts hlocks hZ hA hK p44.2 x5 _ _ _ hf h47 hC (lv_sub hl [3] rfl)
set_option maxHeartbeats 4000000 in
set_option maxRecDepth 100000 in
theorem j_X1_arm_70 {p : Program} {e : Env} {s : State} {m : MethodId} {args : Array Value} {below : List Frame} {meth : Method} {c : Code} {A : Nat → Prop} (l : Launch) (dC : Nat → ClassId) (dI : Nat → Nat → Nat) (Q : CQ) (N : Nat) (d : Nat) (E1 : CS → Option (Unit × CS)) (E2 : CS → Option (Int32 × CS)) (hE1 : cMF l dC dI Q d E1) (hE2 : cMO l dC dI Q d E2) (hm1 : ∀ σ, Mono (CS.hs σ) (E1 σ)) (hm2 : ∀ σ, Mono (CS.hs σ) (E2 σ)) (z9h : Nat) (R : Int32 × CS) (hx : p.tables.exec = Jvm.exec) (hb : c.code = cX1_arm) (hr : meth.sig.returnType = (some .int)) (hml : c.maxLocals = 7) (hown : s.vm.findClass RX1 = some m.cls) (hts : ∀ w ∈ wzX1_arm, w.before args s = true) (hlocks : meth.locks = false) (hZ : zAMB s) (hA : ∀ q : Nat, s.heap.size ≤ q → A q) (hK : va_K (dC, dI) vwCl (cT Q) s) : ∀ (n9 : Nat), ∀ (σ : CS) (x1 : Int32) (x3 : Int32) (x4 : Int32) (x5 : Int32) (x6 : Int32) (H : Heap) (locs : List Loc) (ls : Array Slot), f_X1_arm_70 N E1 E2 n9 σ x1 x3 x4 x5 x6 = some R → z9h ≤ CS.hs σ → CP dC dI Q A s.heap σ H locs → lv_has ls 7 [(0, .ref (Q.o 3)), (1, .int x1), (3, .int x3), (4, .int x4), (5, .int x5), (6, .int x6)] → W p l e ({ frames := (23 + 40 * d), cells := CS.hs R.2 - z9h, slots := 17 * (CS.hs R.2 - z9h), locals := 60 * (23 + 40 * d) }) s m args below meth c H locs (CS.hs σ - z9h) (17 * (CS.hs σ - z9h)) (MQ below (va_Qi (fun (r : Int32) (_ : Unit) => r = R.1) (fun (_ : Unit) (t : State) => zPost dC dI A (cW Q R.2) (cT Q) t ∧ t.heap.size = CS.hs R.2) A) args s (CS.hs R.2 - z9h) (17 * (CS.hs R.2 - z9h)) A) (F0 m 70 ls []) := by
  intro n9
  induction n9 with
  | zero => intro σ x1 x3 x4 x5 x6 H locs ls hf; exact absurd hf (by intro q9; cases q9)
  | succ n9 ih =>
    intro σ x1 x3 x4 x5 x6 H locs ls hf h0 hC hl
    replace hf : b_X1_arm_70 N E1 E2 (f_X1_arm_70 N E1 E2 n9) σ x1 x3 x4 x5 x6 = some R := hf
    unfold b_X1_arm_70 at hf
    have hMK := fun (σ : CS) (x1 : Int32) (x3 : Int32) (x4 : Int32) (x5 : Int32) (x6 : Int32) => m_X1_arm_70 N E1 E2 hm1 hm2 n9 σ x1 x3 x4 x5 x6
    refine lv_iload hx hb dX1_arm_70 (lv_at hl 5 rfl) ?_
    refine lv_sipush (v := 900) hx hb dX1_arm_72 (by decide) ?_
    refine lv_icmp_ge (tgt := 100) hx hb dX1_arm_75 (by decide) (fun c18 => ?_) (fun c18 => ?_)
    ·
      replace hf := (if_pos c18).symm.trans hf
      exact j_X1_arm_100 l dC dI Q N d E1 E2 hE1 hE2 hm1 hm2 z9h R hx hb hr hml hown hts hlocks hZ hA hK σ x3 x4 x5 _ _ _ hf h0 hC (lv_sub hl [0, 2, 3, 4] rfl)
    ·
      replace hf := (if_neg c18).symm.trans hf
      refine lv_aload_n hx hb dX1_arm_78 rfl (lv_at hl 0 rfl) ?_
      refine lv_bipush (v := 44) hx hb dX1_arm_79 (by decide) ?_
      obtain ⟨p48, hcp48, hf⟩ := hf_bind hf
      have mo49 : CS.hs σ ≤ CS.hs p48.2 := Mono.go hcp48 (m_X1_skip N σ 44)
      have hr9 : CS.hs p48.2 ≤ CS.hs R.2 := Mono.go hf (mono_ite (m_X1_arm_100 N E1 E2 hm1 hm2 p48.2 x3 x4 x5) (mono_bind (m_X1_caseNumber N p48.2 x1 x4) (fun p53 => (hMK p53.2 x1 x3 x4 x5 (x6 + 1)))))
      have hFc := cFree hC hA
      refine va_calli (va_runU (As := [.int 44]) (rest := []) ⟨hx, hb, hml, hown, hts⟩ (c_X1_skip l dC dI Q N σ 44 p48 hcp48) (va_cwU 1 hts hX1_arm_X1_skip_u130 rfl rfl rfl rfl (by decide +kernel) ⟨(show 4 + 1 ≤ (23 + 40 * d) by omega), (show 8 + (3 + 11) + 60 * 4 ≤ 60 * (23 + 40 * d) by omega)⟩) ⟨zPre.blind, va_recv hK hC.1 (ci := 6) (q0 := 3) rfl rfl, cPre_go hZ hK hC⟩ rfl rfl hl.1 rfl (lv_room (Nat.le_of_ble_eq_true rfl)) dX1_arm_81 (cAcc h0 mo49 hr9)) hC.2.2.1 (fun q _ h => hFc q h) hFc (fun r50 u9 t9 H1 locs ht hvm hw hB hz1 hk1 hS => ?_)
      obtain ⟨⟨hP, hK1, hD1⟩, hsz1⟩ := hB
      rw [ht] at hP hsz1
      have hC : CP dC dI Q A s.heap p48.2 H1 locs := ⟨hP, hD1.weaken (fun _ _ _ h => hFc _ h), hS, hsz1⟩
      generalize H1 = H at hC ⊢
      have h51 : z9h ≤ CS.hs p48.2 := Nat.le_trans h0 mo49
      refine W.widen (k := CS.hs p48.2 - z9h) (n := 17 * (CS.hs p48.2 - z9h)) (cAcc2 h0 mo49) (cAcc3 h0 mo49) ?_
      obtain rfl : r50 = p48.1 := hw
      refine lv_if_eq (tgt := 100) hx hb dX1_arm_84 (by decide) (fun c52 => ?_) (fun c52 => ?_)
      ·
        replace hf := (if_pos c52).symm.trans hf
        exact j_X1_arm_100 l dC dI Q N d E1 E2 hE1 hE2 hm1 hm2 z9h R hx hb hr hml hown hts hlocks hZ hA hK p48.2 x3 x4 x5 _ _ _ hf h51 hC (lv_sub hl [0, 2, 3, 4] rfl)
      ·
        replace hf := (if_neg c52).symm.trans hf
        refine lv_aload_n hx hb dX1_arm_87 rfl (lv_at hl 0 rfl) ?_
        refine lv_iload_n hx hb dX1_arm_88 rfl (lv_at hl 1 rfl) ?_
        refine lv_iload hx hb dX1_arm_89 (lv_at hl 3 rfl) ?_
        obtain ⟨p53, hcp53, hf⟩ := hf_bind hf
        have mo54 : CS.hs p48.2 ≤ CS.hs p53.2 := Mono.go hcp53 (m_X1_caseNumber N p48.2 x1 x4)
        have hr9 : CS.hs p53.2 ≤ CS.hs R.2 := Mono.go hf (hMK p53.2 x1 x3 x4 x5 (x6 + 1))
        have hFc := cFree hC hA
        refine va_callv (va_runU (As := [.int x1, .int x4]) (rest := []) ⟨hx, hb, hml, hown, hts⟩ (c_X1_caseNumber l dC dI Q N p48.2 x1 x4 p53 hcp53) (va_cwU 2 hts hX1_arm_X1_caseNumber_u127 rfl rfl rfl rfl (by decide +kernel) ⟨(show 5 + 1 ≤ (23 + 40 * d) by omega), (show 8 + (5 + 11) + 60 * 5 ≤ 60 * (23 + 40 * d) by omega)⟩) ⟨zPre.blind, va_recv hK hC.1 (ci := 6) (q0 := 3) rfl rfl, cPre_go hZ hK hC⟩ rfl rfl hl.1 rfl (lv_room (Nat.le_of_ble_eq_true rfl)) dX1_arm_91 (cAcc h51 mo54 hr9)) hC.2.2.1 (fun q _ h => hFc q h) hFc (fun u9 t9 H1 locs ht hvm hw hB hz1 hk1 hS => ?_)
        obtain ⟨⟨hP, hK1, hD1⟩, hsz1⟩ := hB
        rw [ht] at hP hsz1
        have hC : CP dC dI Q A s.heap p53.2 H1 locs := ⟨hP, hD1.weaken (fun _ _ _ h => hFc _ h), hS, hsz1⟩
        generalize H1 = H at hC ⊢
        have h56 : z9h ≤ CS.hs p53.2 := Nat.le_trans h51 mo54
        refine W.widen (k := CS.hs p53.2 - z9h) (n := 17 * (CS.hs p53.2 - z9h)) (cAcc2 h51 mo54) (cAcc3 h51 mo54) ?_
        refine lv_iinc (v := (x6 + 1)) (lv' := [(6, .int (x6 + 1)), (0, .ref (Q.o 3)), (1, .int x1), (3, .int x3), (4, .int x4), (5, .int x5)]) hx hb dX1_arm_94 hl (k := 5) rfl rfl (by decide) rfl (fun ls hl => ?_)
        refine lv_goto (tgt := 70) hx hb dX1_arm_97 (by decide) ?_
        exact ih p53.2 x1 x3 x4 x5 (x6 + 1) _ _ _ hf h56 hC (lv_sub hl [1, 2, 3, 4, 5, 0] rfl)
set_option maxHeartbeats 4000000 in
set_option maxRecDepth 100000 in
theorem j_X1_arm_39 {p : Program} {e : Env} {s : State} {m : MethodId} {args : Array Value} {below : List Frame} {meth : Method} {c : Code} {A : Nat → Prop} (l : Launch) (dC : Nat → ClassId) (dI : Nat → Nat → Nat) (Q : CQ) (N : Nat) (d : Nat) (E1 : CS → Option (Unit × CS)) (E2 : CS → Option (Int32 × CS)) (hE1 : cMF l dC dI Q d E1) (hE2 : cMO l dC dI Q d E2) (hm1 : ∀ σ, Mono (CS.hs σ) (E1 σ)) (hm2 : ∀ σ, Mono (CS.hs σ) (E2 σ)) (z9h : Nat) (R : Int32 × CS) (hx : p.tables.exec = Jvm.exec) (hb : c.code = cX1_arm) (hr : meth.sig.returnType = (some .int)) (hml : c.maxLocals = 7) (hown : s.vm.findClass RX1 = some m.cls) (hts : ∀ w ∈ wzX1_arm, w.before args s = true) (hlocks : meth.locks = false) (hZ : zAMB s) (hA : ∀ q : Nat, s.heap.size ≤ q → A q) (hK : va_K (dC, dI) vwCl (cT Q) s) : ∀ (σ : CS) (x3 : Int32) (x4 : Int32) (H : Heap) (locs : List Loc) (ls : Array Slot), f_X1_arm_39 N E1 E2 σ x3 x4 = some R → z9h ≤ CS.hs σ → CP dC dI Q A s.heap σ H locs → lv_has ls 7 [(0, .ref (Q.o 3)), (3, .int x3), (4, .int x4)] → W p l e ({ frames := (23 + 40 * d), cells := CS.hs R.2 - z9h, slots := 17 * (CS.hs R.2 - z9h), locals := 60 * (23 + 40 * d) }) s m args below meth c H locs (CS.hs σ - z9h) (17 * (CS.hs σ - z9h)) (MQ below (va_Qi (fun (r : Int32) (_ : Unit) => r = R.1) (fun (_ : Unit) (t : State) => zPost dC dI A (cW Q R.2) (cT Q) t ∧ t.heap.size = CS.hs R.2) A) args s (CS.hs R.2 - z9h) (17 * (CS.hs R.2 - z9h)) A) (F0 m 39 ls []) := by
  intro σ x3 x4 H locs ls hf h0 hC hl
  unfold f_X1_arm_39 at hf
  refine lv_iload hx hb dX1_arm_39 (lv_at hl 2 rfl) ?_
  refine lv_istore (lv' := [(5, .int x4), (0, .ref (Q.o 3)), (3, .int x3), (4, .int x4)]) hx hb dX1_arm_41 hl (by decide) rfl (fun ls hl => ?_)
  refine lv_aload_n hx hb dX1_arm_43 rfl (lv_at hl 1 rfl) ?_
  refine cG_28 hx hb hts i_X1_arm_X7 hown hK hC (hts (.fieldLink RX1 18 "StatementRules2$Formulas" "tokens" "LStatementRules2$Tokens;") k_X1_arm_fieldLink_RX1_18_SR_Formulas_tokens_LSR_Tokens) (fun _ q9 => q9) dX1_arm_44 ?_
  obtain ⟨p58, hcp58, hf⟩ := hf_bind hf
  have mo59 : CS.hs σ ≤ CS.hs p58.2 := Mono.go hcp58 (m_X9_advance N σ)
  have hr9 : CS.hs p58.2 ≤ CS.hs R.2 := Mono.go hf (m_X1_arm_100 N E1 E2 hm1 hm2 p58.2 x3 x4 x4)
  have hFc := cFree hC hA
  refine va_callv (va_runV (As := []) (rest := []) ⟨hx, hb, hml, hown, hts⟩ (c_X9_advance l dC dI Q N σ p58 hcp58) (cwV 0 hts hX1_arm_X9_advance_v56 rfl rfl rfl (by decide +kernel) ⟨(show 3 + 1 ≤ (23 + 40 * d) by omega), (show 8 + (2 + 11) + 60 * 3 ≤ 60 * (23 + 40 * d) by omega)⟩) ⟨zPre.blind, va_recv hK hC.1 (ci := 8) (q0 := 4) rfl rfl, cPre_go hZ hK hC⟩ rfl rfl hl.1 rfl (lv_room (Nat.le_of_ble_eq_true rfl)) dX1_arm_47 (cAcc h0 mo59 hr9)) hC.2.2.1 (fun q _ h => hFc q h) hFc (fun u9 t9 H1 locs ht hvm hw hB hz1 hk1 hS => ?_)
  obtain ⟨⟨hP, hK1, hD1⟩, hsz1⟩ := hB
  rw [ht] at hP hsz1
  have hC : CP dC dI Q A s.heap p58.2 H1 locs := ⟨hP, hD1.weaken (fun _ _ _ h => hFc _ h), hS, hsz1⟩
  generalize H1 = H at hC ⊢
  have h61 : z9h ≤ CS.hs p58.2 := Nat.le_trans h0 mo59
  refine W.widen (k := CS.hs p58.2 - z9h) (n := 17 * (CS.hs p58.2 - z9h)) (cAcc2 h0 mo59) (cAcc3 h0 mo59) ?_
  refine lv_goto (tgt := 100) hx hb dX1_arm_50 (by decide) ?_
  exact j_X1_arm_100 l dC dI Q N d E1 E2 hE1 hE2 hm1 hm2 z9h R hx hb hr hml hown hts hlocks hZ hA hK p58.2 x3 x4 x4 _ _ _ hf h61 hC (lv_sub hl [1, 2, 3, 0] rfl)
set_option maxHeartbeats 4000000 in
set_option maxRecDepth 100000 in
theorem c_X1_arm (l : Launch) (dC : Nat → ClassId) (dI : Nat → Nat → Nat) (Q : CQ) (N : Nat) (d : Nat) (E1 : CS → Option (Unit × CS)) (E2 : CS → Option (Int32 × CS)) (hE1 : cMF l dC dI Q d E1) (hE2 : cMO l dC dI Q d E2) (hm1 : ∀ σ, Mono (CS.hs σ) (E1 σ)) (hm2 : ∀ σ, Mono (CS.hs σ) (E2 σ)) (σ : CS) (x1 : Int32) (x2 : Int32) (x3 : Int32) (R : Int32 × CS) (hf : f_X1_arm N E1 E2 σ x1 x2 x3 = some R) : Met l yX1_arm wzX1_arm ({ frames := (23 + 40 * d), cells := CS.hs R.2 - CS.hs σ, slots := 17 * (CS.hs R.2 - CS.hs σ), locals := 60 * (23 + 40 * d) }) (va_Pc [.ref (Q.o 3), .int x1, .int x2, .int x3] (zPre dC dI (CS.hs σ) (cW Q σ) (cT Q))) (va_Qi (fun (r : Int32) (_ : Unit) => r = R.1) (fun (_ : Unit) (t : State) => zPost dC dI (va_A (cW Q σ) (CS.hs σ)) (cW Q R.2) (cT Q) t ∧ t.heap.size = CS.hs R.2) (va_A (cW Q σ) (CS.hs σ))) (CS.hs R.2 - CS.hs σ) (17 * (CS.hs R.2 - CS.hs σ)) (va_A (cW Q σ) (CS.hs σ)) := by
  refine Met.ofW (cc := cX1_arm) (maxL := 7) (ret := (some .int)) (by decide) rfl ?_
  intro p e s m args below meth c s₁ B hml hv
  obtain ⟨rfl, hsz, hZ, hP, hK, hD0⟩ := hv
  have hx := B.exec
  have hb := B.bytes
  have hr := B.returns
  have hts := atoms_spec (ws := wzX1_arm) B.pre
  have hown : s.vm.findClass RX1 = some m.cls := findClass_of_methodNamed B.named
  have hlocks := B.notSynchronized
  have hD := hD0.self (sz := CS.hs σ)
  generalize hAe : va_A (cW Q σ) (CS.hs σ) = A at hD ⊢
  have hA : ∀ q : Nat, s.heap.size ≤ q → A q := fun q h => by rw [← hAe]; exact Or.inr (hsz ▸ h)
  have hC : CP dC dI Q A s.heap σ s.heap [] := ⟨hP, hD, va_S.rf, hsz⟩
  have h0 : CS.hs σ ≤ CS.hs σ := Nat.le_refl _
  have hl := lv_entry ([.ref (Q.o 3), .int x1, .int x2, .int x3]) (n := 7) (Nat.le_of_ble_eq_true rfl)
  rw [lg_entry_eq]
  generalize (lg_sl ([.ref (Q.o 3), .int x1, .int x2, .int x3]) ++ List.replicate (7 - (lg_sl ([.ref (Q.o 3), .int x1, .int x2, .int x3])).length) Slot.unset).toArray = ls at hl ⊢
  have hl : lv_has ls 7 [(0, .ref (Q.o 3)), (1, .int x1), (2, .int x2), (3, .int x3)] := hl
  unfold f_X1_arm at hf
  refine W.widen (k := CS.hs σ - CS.hs σ) (n := 17 * (CS.hs σ - CS.hs σ)) (Nat.zero_le _) (Nat.zero_le _) ?_
  refine lv_aload_n hx hb dX1_arm_0 rfl (lv_at hl 0 rfl) ?_
  refine cG_29 hx hb hts i_X1_arm_X7 hown hK hC (hts (.fieldLink RX1 22 "StatementRules2$Formulas" "code" "LStatementRules2$Code;") k_X1_arm_fieldLink_RX1_22_SR_Formulas_code_LSR_Code) (fun _ q9 => q9) dX1_arm_1 ?_
  obtain ⟨p1, hcp1, hf⟩ := hf_bind hf
  have mo2 : CS.hs σ ≤ CS.hs p1.2 := Mono.go hcp1 (m_X0_newTarget N σ)
  have hr9 : CS.hs p1.2 ≤ CS.hs R.2 := Mono.go hf (mono_bind (m_X1_found N p1.2 220) (fun p5 => (mono_ite (mono_bind (m_X9_advance N p5.2) (fun p10 => (mono_bind (m_X1_caseNumber N p10.2 x1 p1.1) (fun p14 => (m_X1_arm_70 N E1 E2 hm1 hm2 N p14.2 x1 x3 p1.1 x2 0))))) (mono_ite (m_X1_arm_39 N E1 E2 hm1 hm2 p5.2 x3 p1.1) (mono_bind (m_X1_fail N p5.2 4 (p5.2.i 44)) (fun p62 => (m_X1_arm_39 N E1 E2 hm1 hm2 p62.2 x3 p1.1)))))))
  have hFc := cFree hC hA
  refine va_calli (va_runV (As := []) (rest := []) ⟨hx, hb, hml, hown, hts⟩ (c_X0_newTarget l dC dI Q N σ p1 hcp1) (cwV 0 hts hX1_arm_X0_newTarget_v110 rfl rfl rfl (by decide +kernel) ⟨(show 2 + 1 ≤ (23 + 40 * d) by omega), (show 8 + (1 + 11) + 60 * 2 ≤ 60 * (23 + 40 * d) by omega)⟩) ⟨zPre.blind, va_recv hK hC.1 (ci := 0) (q0 := 2) rfl rfl, cPre_go hZ hK hC⟩ rfl rfl hl.1 rfl (lv_room (Nat.le_of_ble_eq_true rfl)) dX1_arm_4 (cAcc h0 mo2 hr9)) hC.2.2.1 (fun q _ h => hFc q h) hFc (fun r3 u9 t9 H1 locs ht hvm hw hB hz1 hk1 hS => ?_)
  obtain ⟨⟨hP, hK1, hD1⟩, hsz1⟩ := hB
  rw [ht] at hP hsz1
  have hC : CP dC dI Q A s.heap p1.2 H1 locs := ⟨hP, hD1.weaken (fun _ _ _ h => hFc _ h), hS, hsz1⟩
  generalize H1 = H at hC ⊢
  have h4 : (CS.hs σ) ≤ CS.hs p1.2 := Nat.le_trans h0 mo2
  refine W.widen (k := CS.hs p1.2 - (CS.hs σ)) (n := 17 * (CS.hs p1.2 - (CS.hs σ))) (cAcc2 h0 mo2) (cAcc3 h0 mo2) ?_
  obtain rfl : r3 = p1.1 := hw
  refine lv_istore (lv' := [(4, .int p1.1), (0, .ref (Q.o 3)), (1, .int x1), (2, .int x2), (3, .int x3)]) hx hb dX1_arm_7 hl (by decide) rfl (fun ls hl => ?_)
  refine lv_iload_n hx hb dX1_arm_9 rfl (lv_at hl 3 rfl) ?_
  refine lv_istore (lv' := [(5, .int x2), (4, .int p1.1), (0, .ref (Q.o 3)), (1, .int x1), (2, .int x2), (3, .int x3)]) hx hb dX1_arm_10 hl (by decide) rfl (fun ls hl => ?_)
  refine lv_aload_n hx hb dX1_arm_12 rfl (lv_at hl 2 rfl) ?_
  refine lv_sipush (v := 220) hx hb dX1_arm_13 (by decide) ?_
  obtain ⟨p5, hcp5, hf⟩ := hf_bind hf
  have mo6 : CS.hs p1.2 ≤ CS.hs p5.2 := Mono.go hcp5 (m_X1_found N p1.2 220)
  have hr9 : CS.hs p5.2 ≤ CS.hs R.2 := Mono.go hf (mono_ite (mono_bind (m_X9_advance N p5.2) (fun p10 => (mono_bind (m_X1_caseNumber N p10.2 x1 p1.1) (fun p14 => (m_X1_arm_70 N E1 E2 hm1 hm2 N p14.2 x1 x3 p1.1 x2 0))))) (mono_ite (m_X1_arm_39 N E1 E2 hm1 hm2 p5.2 x3 p1.1) (mono_bind (m_X1_fail N p5.2 4 (p5.2.i 44)) (fun p62 => (m_X1_arm_39 N E1 E2 hm1 hm2 p62.2 x3 p1.1)))))
  have hFc := cFree hC hA
  refine va_calli (va_runU (As := [.int 220]) (rest := []) ⟨hx, hb, hml, hown, hts⟩ (c_X1_found l dC dI Q N p1.2 220 p5 hcp5) (va_cwU 1 hts hX1_arm_X1_found_u42 rfl rfl rfl rfl (by decide +kernel) ⟨(show 1 + 1 ≤ (23 + 40 * d) by omega), (show 8 + (2 + 11) + 60 * 1 ≤ 60 * (23 + 40 * d) by omega)⟩) ⟨zPre.blind, va_recv hK hC.1 (ci := 6) (q0 := 3) rfl rfl, cPre_go hZ hK hC⟩ rfl rfl hl.1 rfl (lv_room (Nat.le_of_ble_eq_true rfl)) dX1_arm_16 (cAcc h4 mo6 hr9)) hC.2.2.1 (fun q _ h => hFc q h) hFc (fun r7 u9 t9 H1 locs ht hvm hw hB hz1 hk1 hS => ?_)
  obtain ⟨⟨hP, hK1, hD1⟩, hsz1⟩ := hB
  rw [ht] at hP hsz1
  have hC : CP dC dI Q A s.heap p5.2 H1 locs := ⟨hP, hD1.weaken (fun _ _ _ h => hFc _ h), hS, hsz1⟩
  generalize H1 = H at hC ⊢
  have h8 : (CS.hs σ) ≤ CS.hs p5.2 := Nat.le_trans h4 mo6
  refine W.widen (k := CS.hs p5.2 - (CS.hs σ)) (n := 17 * (CS.hs p5.2 - (CS.hs σ))) (cAcc2 h4 mo6) (cAcc3 h4 mo6) ?_
  obtain rfl : r7 = p5.1 := hw
  refine lv_if_eq (tgt := 53) hx hb dX1_arm_19 (by decide) (fun c9 => ?_) (fun c9 => ?_)
  ·
    replace hf := (if_pos c9).symm.trans hf
    refine lv_aload_n hx hb dX1_arm_53 rfl (lv_at hl 2 rfl) ?_
    refine cG_28 hx hb hts i_X1_arm_X7 hown hK hC (hts (.fieldLink RX1 18 "StatementRules2$Formulas" "tokens" "LStatementRules2$Tokens;") k_X1_arm_fieldLink_RX1_18_SR_Formulas_tokens_LSR_Tokens) (fun _ q9 => q9) dX1_arm_54 ?_
    obtain ⟨p10, hcp10, hf⟩ := hf_bind hf
    have mo11 : CS.hs p5.2 ≤ CS.hs p10.2 := Mono.go hcp10 (m_X9_advance N p5.2)
    have hr9 : CS.hs p10.2 ≤ CS.hs R.2 := Mono.go hf (mono_bind (m_X1_caseNumber N p10.2 x1 p1.1) (fun p14 => (m_X1_arm_70 N E1 E2 hm1 hm2 N p14.2 x1 x3 p1.1 x2 0)))
    have hFc := cFree hC hA
    refine va_callv (va_runV (As := []) (rest := []) ⟨hx, hb, hml, hown, hts⟩ (c_X9_advance l dC dI Q N p5.2 p10 hcp10) (cwV 0 hts hX1_arm_X9_advance_v56 rfl rfl rfl (by decide +kernel) ⟨(show 3 + 1 ≤ (23 + 40 * d) by omega), (show 8 + (2 + 11) + 60 * 3 ≤ 60 * (23 + 40 * d) by omega)⟩) ⟨zPre.blind, va_recv hK hC.1 (ci := 8) (q0 := 4) rfl rfl, cPre_go hZ hK hC⟩ rfl rfl hl.1 rfl (lv_room (Nat.le_of_ble_eq_true rfl)) dX1_arm_57 (cAcc h8 mo11 hr9)) hC.2.2.1 (fun q _ h => hFc q h) hFc (fun u9 t9 H1 locs ht hvm hw hB hz1 hk1 hS => ?_)
    obtain ⟨⟨hP, hK1, hD1⟩, hsz1⟩ := hB
    rw [ht] at hP hsz1
    have hC : CP dC dI Q A s.heap p10.2 H1 locs := ⟨hP, hD1.weaken (fun _ _ _ h => hFc _ h), hS, hsz1⟩
    generalize H1 = H at hC ⊢
    have h13 : (CS.hs σ) ≤ CS.hs p10.2 := Nat.le_trans h8 mo11
    refine W.widen (k := CS.hs p10.2 - (CS.hs σ)) (n := 17 * (CS.hs p10.2 - (CS.hs σ))) (cAcc2 h8 mo11) (cAcc3 h8 mo11) ?_
    refine lv_aload_n hx hb dX1_arm_60 rfl (lv_at hl 2 rfl) ?_
    refine lv_iload_n hx hb dX1_arm_61 rfl (lv_at hl 3 rfl) ?_
    refine lv_iload hx hb dX1_arm_62 (lv_at hl 1 rfl) ?_
    obtain ⟨p14, hcp14, hf⟩ := hf_bind hf
    have mo15 : CS.hs p10.2 ≤ CS.hs p14.2 := Mono.go hcp14 (m_X1_caseNumber N p10.2 x1 p1.1)
    have hr9 : CS.hs p14.2 ≤ CS.hs R.2 := Mono.go hf (m_X1_arm_70 N E1 E2 hm1 hm2 N p14.2 x1 x3 p1.1 x2 0)
    have hFc := cFree hC hA
    refine va_callv (va_runU (As := [.int x1, .int p1.1]) (rest := []) ⟨hx, hb, hml, hown, hts⟩ (c_X1_caseNumber l dC dI Q N p10.2 x1 p1.1 p14 hcp14) (va_cwU 2 hts hX1_arm_X1_caseNumber_u127 rfl rfl rfl rfl (by decide +kernel) ⟨(show 5 + 1 ≤ (23 + 40 * d) by omega), (show 8 + (5 + 11) + 60 * 5 ≤ 60 * (23 + 40 * d) by omega)⟩) ⟨zPre.blind, va_recv hK hC.1 (ci := 6) (q0 := 3) rfl rfl, cPre_go hZ hK hC⟩ rfl rfl hl.1 rfl (lv_room (Nat.le_of_ble_eq_true rfl)) dX1_arm_64 (cAcc h13 mo15 hr9)) hC.2.2.1 (fun q _ h => hFc q h) hFc (fun u9 t9 H1 locs ht hvm hw hB hz1 hk1 hS => ?_)
    obtain ⟨⟨hP, hK1, hD1⟩, hsz1⟩ := hB
    rw [ht] at hP hsz1
    have hC : CP dC dI Q A s.heap p14.2 H1 locs := ⟨hP, hD1.weaken (fun _ _ _ h => hFc _ h), hS, hsz1⟩
    generalize H1 = H at hC ⊢
    have h17 : (CS.hs σ) ≤ CS.hs p14.2 := Nat.le_trans h13 mo15
    refine W.widen (k := CS.hs p14.2 - (CS.hs σ)) (n := 17 * (CS.hs p14.2 - (CS.hs σ))) (cAcc2 h13 mo15) (cAcc3 h13 mo15) ?_
    refine lv_iconst (v := 0) hx hb dX1_arm_67 (by decide) ?_
    refine lv_istore (lv' := [(6, .int 0), (5, .int x2), (4, .int p1.1), (0, .ref (Q.o 3)), (1, .int x1), (2, .int x2), (3, .int x3)]) hx hb dX1_arm_68 hl (by decide) rfl (fun ls hl => ?_)
    exact j_X1_arm_70 l dC dI Q N d E1 E2 hE1 hE2 hm1 hm2 (CS.hs σ) R hx hb hr hml hown hts hlocks hZ hA hK N p14.2 x1 x3 p1.1 x2 0 _ _ _ hf h17 hC (lv_sub hl [3, 4, 6, 2, 1, 0] rfl)
  ·
    replace hf := (if_neg c9).symm.trans hf
    refine lv_iload hx hb dX1_arm_22 (lv_at hl 0 rfl) ?_
    refine lv_if_lt (tgt := 39) hx hb dX1_arm_24 (by decide) (fun c57 => ?_) (fun c57 => ?_)
    ·
      replace hf := (if_pos c57).symm.trans hf
      exact j_X1_arm_39 l dC dI Q N d E1 E2 hE1 hE2 hm1 hm2 (CS.hs σ) R hx hb hr hml hown hts hlocks hZ hA hK p5.2 x3 p1.1 _ _ _ hf h8 hC (lv_sub hl [2, 5, 1] rfl)
    ·
      replace hf := (if_neg c57).symm.trans hf
      refine lv_aload_n hx hb dX1_arm_27 rfl (lv_at hl 2 rfl) ?_
      refine lv_iconst (v := 4) hx hb dX1_arm_28 (by decide) ?_
      refine lv_aload_n hx hb dX1_arm_29 rfl (lv_at hl 2 rfl) ?_
      refine cG_28 hx hb hts i_X1_arm_X7 hown hK hC (hts (.fieldLink RX1 18 "StatementRules2$Formulas" "tokens" "LStatementRules2$Tokens;") k_X1_arm_fieldLink_RX1_18_SR_Formulas_tokens_LSR_Tokens) (fun _ q9 => q9) dX1_arm_30 ?_
      refine cGN_44 (v := (p5.2.i 44)) hx hb hts i_X1_arm_X9 hown hK hC (va_Nw.use rfl (hZ.1 (.fieldLinkNest RX1 46 "StatementRules2$Tokens" "place" "I" "StatementRules2") (by decide +kernel))) (fun _ q9 => q9) dX1_arm_33 rfl ?_
      obtain ⟨p62, hcp62, hf⟩ := hf_bind hf
      have mo63 : CS.hs p5.2 ≤ CS.hs p62.2 := Mono.go hcp62 (m_X1_fail N p5.2 4 (p5.2.i 44))
      have hr9 : CS.hs p62.2 ≤ CS.hs R.2 := Mono.go hf (m_X1_arm_39 N E1 E2 hm1 hm2 p62.2 x3 p1.1)
      have hFc := cFree hC hA
      refine va_callv (va_runU (As := [.int 4, .int (p5.2.i 44)]) (rest := []) ⟨hx, hb, hml, hown, hts⟩ (c_X1_fail l dC dI Q N p5.2 4 (p5.2.i 44) p62 hcp62) (va_cwU 2 hts hX1_arm_X1_fail_u49 rfl rfl rfl rfl (by decide +kernel) ⟨(show 2 + 1 ≤ (23 + 40 * d) by omega), (show 8 + (3 + 11) + 60 * 2 ≤ 60 * (23 + 40 * d) by omega)⟩) ⟨zPre.blind, va_recv hK hC.1 (ci := 6) (q0 := 3) rfl rfl, cPre_go hZ hK hC⟩ rfl rfl hl.1 rfl (lv_room (Nat.le_of_ble_eq_true rfl)) dX1_arm_36 (cAcc h8 mo63 hr9)) hC.2.2.1 (fun q _ h => hFc q h) hFc (fun u9 t9 H1 locs ht hvm hw hB hz1 hk1 hS => ?_)
      obtain ⟨⟨hP, hK1, hD1⟩, hsz1⟩ := hB
      rw [ht] at hP hsz1
      have hC : CP dC dI Q A s.heap p62.2 H1 locs := ⟨hP, hD1.weaken (fun _ _ _ h => hFc _ h), hS, hsz1⟩
      generalize H1 = H at hC ⊢
      have h65 : (CS.hs σ) ≤ CS.hs p62.2 := Nat.le_trans h8 mo63
      refine W.widen (k := CS.hs p62.2 - (CS.hs σ)) (n := 17 * (CS.hs p62.2 - (CS.hs σ))) (cAcc2 h8 mo63) (cAcc3 h8 mo63) ?_
      exact j_X1_arm_39 l dC dI Q N d E1 E2 hE1 hE2 hm1 hm2 (CS.hs σ) R hx hb hr hml hown hts hlocks hZ hA hK p62.2 x3 p1.1 _ _ _ hf h65 hC (lv_sub hl [2, 5, 1] rfl)
theorem k_X1_choice_fieldLink_RX1_18_SR_Formulas_tokens_LSR_Tokens : Cond.fieldLink RX1 18 "StatementRules2$Formulas" "tokens" "LStatementRules2$Tokens;" ∈ wzX1_choice := List.mem_cons_of_mem _ (List.mem_append_right _ (List.mem_append_right _ (List.mem_append_left _ (List.mem_of_getElem? (i := 0) rfl))))
theorem i_X1_choice_X7 : ∀ w ∈ wsX70, w ∈ wzX1_choice := fun _ h => List.mem_cons_of_mem _ (List.mem_append_right _ (List.mem_append_right _ (List.mem_append_right _ (List.mem_append_right _ (List.mem_append_right _ (List.mem_append_right _ (List.mem_append_right _ (List.mem_append_right _ (List.mem_append_right _ (List.mem_append_right _ (List.mem_append_right _ (List.mem_append_right _ (List.mem_append_right _ (List.mem_append_right _ (List.mem_append_right _ (List.mem_append_right _ (List.mem_append_right _ (List.mem_append_right _ (List.mem_append_right _ (List.mem_append_right _ (List.mem_append_right _ (List.mem_append_right _ (List.mem_append_right _ (List.mem_append_right _ (List.mem_append_right _ (List.mem_append_right _ (List.mem_append_right _ (List.mem_append_right _ (List.mem_append_right _ (List.mem_append_right _ (List.mem_append_right _ (List.mem_append_right _ (List.mem_append_right _ (List.mem_append_right _ (List.mem_append_right _ (List.mem_append_right _ (List.mem_append_left _ (h))))))))))))))))))))))))))))))))))))))
theorem k_X1_choice_fieldLink_RX1_22_SR_Formulas_code_LSR_Code : Cond.fieldLink RX1 22 "StatementRules2$Formulas" "code" "LStatementRules2$Code;" ∈ wzX1_choice := List.mem_cons_of_mem _ (List.mem_append_right _ (List.mem_append_right _ (List.mem_append_left _ (List.mem_of_getElem? (i := 1) rfl))))
theorem i_X1_choice_X0 : ∀ w ∈ wsX00, w ∈ wzX1_choice := fun _ h => List.mem_cons_of_mem _ (List.mem_append_right _ (List.mem_append_right _ (List.mem_append_right _ (List.mem_append_right _ (List.mem_append_right _ (List.mem_append_right _ (List.mem_append_right _ (List.mem_append_right _ (List.mem_append_right _ (List.mem_append_right _ (List.mem_append_right _ (List.mem_append_right _ (List.mem_append_right _ (List.mem_append_right _ (List.mem_append_right _ (List.mem_append_right _ (List.mem_append_right _ (List.mem_append_right _ (List.mem_append_right _ (List.mem_append_right _ (List.mem_append_right _ (List.mem_append_right _ (List.mem_append_right _ (List.mem_append_right _ (List.mem_append_right _ (List.mem_append_right _ (List.mem_append_right _ (List.mem_append_right _ (List.mem_append_right _ (List.mem_append_right _ (List.mem_append_right _ (List.mem_append_right _ (List.mem_append_right _ (List.mem_append_right _ (List.mem_append_right _ (List.mem_append_right _ (List.mem_append_right _ (List.mem_append_right _ (List.mem_append_left _ (h))))))))))))))))))))))))))))))))))))))))
set_option maxHeartbeats 4000000 in
set_option maxRecDepth 100000 in
theorem j_X1_choice_122 {p : Program} {e : Env} {s : State} {m : MethodId} {args : Array Value} {below : List Frame} {meth : Method} {c : Code} {A : Nat → Prop} (l : Launch) (dC : Nat → ClassId) (dI : Nat → Nat → Nat) (Q : CQ) (N : Nat) (d : Nat) (E1 : CS → Option (Unit × CS)) (E2 : CS → Option (Int32 × CS)) (hE1 : cMF l dC dI Q d E1) (hE2 : cMO l dC dI Q d E2) (hm1 : ∀ σ, Mono (CS.hs σ) (E1 σ)) (hm2 : ∀ σ, Mono (CS.hs σ) (E2 σ)) (z9h : Nat) (R : Unit × CS) (hx : p.tables.exec = Jvm.exec) (hb : c.code = cX1_choice) (hr : meth.sig.returnType = none) (hml : c.maxLocals = 6) (hown : s.vm.findClass RX1 = some m.cls) (hts : ∀ w ∈ wzX1_choice, w.before args s = true) (hlocks : meth.locks = false) (hZ : zAMB s) (hA : ∀ q : Nat, s.heap.size ≤ q → A q) (hK : va_K (dC, dI) vwCl (cT Q) s) : ∀ (σ : CS) (x1 : Int32) (x2 : Int32) (x3 : Int32) (x4 : Int32) (H : Heap) (locs : List Loc) (ls : Array Slot), f_X1_choice_122 N E1 E2 σ x1 x2 x3 x4 = some R → z9h ≤ CS.hs σ → CP dC dI Q A s.heap σ H locs → lv_has ls 6 [(0, .ref (Q.o 3)), (1, .int x1), (2, .int x2), (3, .int x3), (4, .int x4)] → W p l e ({ frames := (24 + 40 * d), cells := CS.hs R.2 - z9h, slots := 17 * (CS.hs R.2 - z9h), locals := 60 * (24 + 40 * d) }) s m args below meth c H locs (CS.hs σ - z9h) (17 * (CS.hs σ - z9h)) (MQ below (va_Qv (fun (_ : Unit) => True) (fun (_ : Unit) (t : State) => zPost dC dI A (cW Q R.2) (cT Q) t ∧ t.heap.size = CS.hs R.2) A) args s (CS.hs R.2 - z9h) (17 * (CS.hs R.2 - z9h)) A) (F0 m 122 ls []) := by
  intro σ x1 x2 x3 x4 H locs ls hf h0 hC hl
  unfold f_X1_choice_122 at hf
  refine lv_aload_n hx hb dX1_choice_122 rfl (lv_at hl 0 rfl) ?_
  refine lv_bipush (v := 125) hx hb dX1_choice_123 (by decide) ?_
  obtain ⟨p35, hcp35, hf⟩ := hf_bind hf
  have mo36 : CS.hs σ ≤ CS.hs p35.2 := Mono.go hcp35 (m_X1_close N σ 125)
  have hr9 : CS.hs p35.2 ≤ CS.hs R.2 := Mono.go hf (mono_bind (m_X0_aim N p35.2 x1) (fun p39 => (mono_bind (m_X0_addCases N p39.2 x3 x4) (fun p43 => (mono_bind (m_X0_aim N p43.2 x2) (fun p47 => (mono_some (Nat.le_refl _))))))))
  have hFc := cFree hC hA
  refine va_callv (va_runU (As := [.int 125]) (rest := []) ⟨hx, hb, hml, hown, hts⟩ (c_X1_close l dC dI Q N σ 125 p35 hcp35) (va_cwU 1 hts hX1_choice_X1_close_u92 rfl rfl rfl rfl (by decide +kernel) ⟨(show 4 + 1 ≤ (24 + 40 * d) by omega), (show 8 + (2 + 11) + 60 * 4 ≤ 60 * (24 + 40 * d) by omega)⟩) ⟨zPre.blind, va_recv hK hC.1 (ci := 6) (q0 := 3) rfl rfl, cPre_go hZ hK hC⟩ rfl rfl hl.1 rfl (lv_room (Nat.le_of_ble_eq_true rfl)) dX1_choice_125 (cAcc h0 mo36 hr9)) hC.2.2.1 (fun q _ h => hFc q h) hFc (fun u9 t9 H1 locs ht hvm hw hB hz1 hk1 hS => ?_)
  obtain ⟨⟨hP, hK1, hD1⟩, hsz1⟩ := hB
  rw [ht] at hP hsz1
  have hC : CP dC dI Q A s.heap p35.2 H1 locs := ⟨hP, hD1.weaken (fun _ _ _ h => hFc _ h), hS, hsz1⟩
  generalize H1 = H at hC ⊢
  have h38 : z9h ≤ CS.hs p35.2 := Nat.le_trans h0 mo36
  refine W.widen (k := CS.hs p35.2 - z9h) (n := 17 * (CS.hs p35.2 - z9h)) (cAcc2 h0 mo36) (cAcc3 h0 mo36) ?_
  refine lv_aload_n hx hb dX1_choice_128 rfl (lv_at hl 0 rfl) ?_
  refine cG_29 hx hb hts i_X1_choice_X7 hown hK hC (hts (.fieldLink RX1 22 "StatementRules2$Formulas" "code" "LStatementRules2$Code;") k_X1_choice_fieldLink_RX1_22_SR_Formulas_code_LSR_Code) (fun _ q9 => q9) dX1_choice_129 ?_
  refine lv_iload_n hx hb dX1_choice_132 rfl (lv_at hl 1 rfl) ?_
  obtain ⟨p39, hcp39, hf⟩ := hf_bind hf
  have mo40 : CS.hs p35.2 ≤ CS.hs p39.2 := Mono.go hcp39 (m_X0_aim N p35.2 x1)
  have hr9 : CS.hs p39.2 ≤ CS.hs R.2 := Mono.go hf (mono_bind (m_X0_addCases N p39.2 x3 x4) (fun p43 => (mono_bind (m_X0_aim N p43.2 x2) (fun p47 => (mono_some (Nat.le_refl _))))))
  have hFc := cFree hC hA
  refine va_callv (va_runV (As := [.int x1]) (rest := []) ⟨hx, hb, hml, hown, hts⟩ (c_X0_aim l dC dI Q N p35.2 x1 p39 hcp39) (cwV 1 hts hX1_choice_X0_aim_v121 rfl rfl rfl (by decide +kernel) ⟨(show 2 + 1 ≤ (24 + 40 * d) by omega), (show 8 + (2 + 11) + 60 * 2 ≤ 60 * (24 + 40 * d) by omega)⟩) ⟨zPre.blind, va_recv hK hC.1 (ci := 0) (q0 := 2) rfl rfl, cPre_go hZ hK hC⟩ rfl rfl hl.1 rfl (lv_room (Nat.le_of_ble_eq_true rfl)) dX1_choice_133 (cAcc h38 mo40 hr9)) hC.2.2.1 (fun q _ h => hFc q h) hFc (fun u9 t9 H1 locs ht hvm hw hB hz1 hk1 hS => ?_)
  obtain ⟨⟨hP, hK1, hD1⟩, hsz1⟩ := hB
  rw [ht] at hP hsz1
  have hC : CP dC dI Q A s.heap p39.2 H1 locs := ⟨hP, hD1.weaken (fun _ _ _ h => hFc _ h), hS, hsz1⟩
  generalize H1 = H at hC ⊢
  have h42 : z9h ≤ CS.hs p39.2 := Nat.le_trans h38 mo40
  refine W.widen (k := CS.hs p39.2 - z9h) (n := 17 * (CS.hs p39.2 - z9h)) (cAcc2 h38 mo40) (cAcc3 h38 mo40) ?_
  refine lv_aload_n hx hb dX1_choice_136 rfl (lv_at hl 0 rfl) ?_
  refine cG_29 hx hb hts i_X1_choice_X7 hown hK hC (hts (.fieldLink RX1 22 "StatementRules2$Formulas" "code" "LStatementRules2$Code;") k_X1_choice_fieldLink_RX1_22_SR_Formulas_code_LSR_Code) (fun _ q9 => q9) dX1_choice_137 ?_
  refine lv_iload_n hx hb dX1_choice_140 rfl (lv_at hl 3 rfl) ?_
  refine lv_iload hx hb dX1_choice_141 (lv_at hl 4 rfl) ?_
  obtain ⟨p43, hcp43, hf⟩ := hf_bind hf
  have mo44 : CS.hs p39.2 ≤ CS.hs p43.2 := Mono.go hcp43 (m_X0_addCases N p39.2 x3 x4)
  have hr9 : CS.hs p43.2 ≤ CS.hs R.2 := Mono.go hf (mono_bind (m_X0_aim N p43.2 x2) (fun p47 => (mono_some (Nat.le_refl _))))
  have hFc := cFree hC hA
  refine va_callv (va_runV (As := [.int x3, .int x4]) (rest := []) ⟨hx, hb, hml, hown, hts⟩ (c_X0_addCases l dC dI Q N p39.2 x3 x4 p43 hcp43) (cwV 2 hts hX1_choice_X0_addCases_v124 rfl rfl rfl (by decide +kernel) ⟨(show 3 + 1 ≤ (24 + 40 * d) by omega), (show 8 + (4 + 11) + 60 * 3 ≤ 60 * (24 + 40 * d) by omega)⟩) ⟨zPre.blind, va_recv hK hC.1 (ci := 0) (q0 := 2) rfl rfl, cPre_go hZ hK hC⟩ rfl rfl hl.1 rfl (lv_room (Nat.le_of_ble_eq_true rfl)) dX1_choice_143 (cAcc h42 mo44 hr9)) hC.2.2.1 (fun q _ h => hFc q h) hFc (fun u9 t9 H1 locs ht hvm hw hB hz1 hk1 hS => ?_)
  obtain ⟨⟨hP, hK1, hD1⟩, hsz1⟩ := hB
  rw [ht] at hP hsz1
  have hC : CP dC dI Q A s.heap p43.2 H1 locs := ⟨hP, hD1.weaken (fun _ _ _ h => hFc _ h), hS, hsz1⟩
  generalize H1 = H at hC ⊢
  have h46 : z9h ≤ CS.hs p43.2 := Nat.le_trans h42 mo44
  refine W.widen (k := CS.hs p43.2 - z9h) (n := 17 * (CS.hs p43.2 - z9h)) (cAcc2 h42 mo44) (cAcc3 h42 mo44) ?_
  refine lv_aload_n hx hb dX1_choice_146 rfl (lv_at hl 0 rfl) ?_
  refine cG_29 hx hb hts i_X1_choice_X7 hown hK hC (hts (.fieldLink RX1 22 "StatementRules2$Formulas" "code" "LStatementRules2$Code;") k_X1_choice_fieldLink_RX1_22_SR_Formulas_code_LSR_Code) (fun _ q9 => q9) dX1_choice_147 ?_
  refine lv_iload_n hx hb dX1_choice_150 rfl (lv_at hl 2 rfl) ?_
  obtain ⟨p47, hcp47, hf⟩ := hf_bind hf
  have mo48 : CS.hs p43.2 ≤ CS.hs p47.2 := Mono.go hcp47 (m_X0_aim N p43.2 x2)
  have hr9 : CS.hs p47.2 ≤ CS.hs R.2 := Mono.go hf (mono_some (Nat.le_refl _))
  have hFc := cFree hC hA
  refine va_callv (va_runV (As := [.int x2]) (rest := []) ⟨hx, hb, hml, hown, hts⟩ (c_X0_aim l dC dI Q N p43.2 x2 p47 hcp47) (cwV 1 hts hX1_choice_X0_aim_v121 rfl rfl rfl (by decide +kernel) ⟨(show 2 + 1 ≤ (24 + 40 * d) by omega), (show 8 + (2 + 11) + 60 * 2 ≤ 60 * (24 + 40 * d) by omega)⟩) ⟨zPre.blind, va_recv hK hC.1 (ci := 0) (q0 := 2) rfl rfl, cPre_go hZ hK hC⟩ rfl rfl hl.1 rfl (lv_room (Nat.le_of_ble_eq_true rfl)) dX1_choice_151 (cAcc h46 mo48 hr9)) hC.2.2.1 (fun q _ h => hFc q h) hFc (fun u9 t9 H1 locs ht hvm hw hB hz1 hk1 hS => ?_)
  obtain ⟨⟨hP, hK1, hD1⟩, hsz1⟩ := hB
  rw [ht] at hP hsz1
  have hC : CP dC dI Q A s.heap p47.2 H1 locs := ⟨hP, hD1.weaken (fun _ _ _ h => hFc _ h), hS, hsz1⟩
  generalize H1 = H at hC ⊢
  have h50 : z9h ≤ CS.hs p47.2 := Nat.le_trans h46 mo48
  refine W.widen (k := CS.hs p47.2 - z9h) (n := 17 * (CS.hs p47.2 - z9h)) (cAcc2 h46 mo48) (cAcc3 h46 mo48) ?_
  obtain rfl := Option.some.inj hf
  exact W.vret hx hb hr (fun t ht hW => ⟨⟨(), rfl, trivial, ⟨by rw [ht]; exact hC.1, va_K.moved hW.alike hK, hC.2.1⟩, by rw [ht]; exact hC.2.2.2⟩, hC.2.2.1.F ht⟩) hC.2.2.1.2.2 dX1_choice_154
set_option maxHeartbeats 4000000 in
set_option maxRecDepth 100000 in
theorem j_X1_choice_113 {p : Program} {e : Env} {s : State} {m : MethodId} {args : Array Value} {below : List Frame} {meth : Method} {c : Code} {A : Nat → Prop} (l : Launch) (dC : Nat → ClassId) (dI : Nat → Nat → Nat) (Q : CQ) (N : Nat) (d : Nat) (E1 : CS → Option (Unit × CS)) (E2 : CS → Option (Int32 × CS)) (hE1 : cMF l dC dI Q d E1) (hE2 : cMO l dC dI Q d E2) (hm1 : ∀ σ, Mono (CS.hs σ) (E1 σ)) (hm2 : ∀ σ, Mono (CS.hs σ) (E2 σ)) (z9h : Nat) (R : Unit × CS) (hx : p.tables.exec = Jvm.exec) (hb : c.code = cX1_choice) (hr : meth.sig.returnType = none) (hml : c.maxLocals = 6) (hown : s.vm.findClass RX1 = some m.cls) (hts : ∀ w ∈ wzX1_choice, w.before args s = true) (hlocks : meth.locks = false) (hZ : zAMB s) (hA : ∀ q : Nat, s.heap.size ≤ q → A q) (hK : va_K (dC, dI) vwCl (cT Q) s) : ∀ (σ : CS) (x1 : Int32) (x2 : Int32) (x3 : Int32) (x4 : Int32) (H : Heap) (locs : List Loc) (ls : Array Slot), f_X1_choice_113 N E1 E2 σ x1 x2 x3 x4 = some R → z9h ≤ CS.hs σ → CP dC dI Q A s.heap σ H locs → lv_has ls 6 [(0, .ref (Q.o 3)), (1, .int x1), (2, .int x2), (3, .int x3), (4, .int x4)] → W p l e ({ frames := (24 + 40 * d), cells := CS.hs R.2 - z9h, slots := 17 * (CS.hs R.2 - z9h), locals := 60 * (24 + 40 * d) }) s m args below meth c H locs (CS.hs σ - z9h) (17 * (CS.hs σ - z9h)) (MQ below (va_Qv (fun (_ : Unit) => True) (fun (_ : Unit) (t : State) => zPost dC dI A (cW Q R.2) (cT Q) t ∧ t.heap.size = CS.hs R.2) A) args s (CS.hs R.2 - z9h) (17 * (CS.hs R.2 - z9h)) A) (F0 m 113 ls []) := by
  intro σ x1 x2 x3 x4 H locs ls hf h0 hC hl
  unfold f_X1_choice_113 at hf
  refine lv_iload hx hb dX1_choice_113 (lv_at hl 4 rfl) ?_
  refine lv_if_ge (tgt := 122) hx hb dX1_choice_115 (by decide) (fun c34 => ?_) (fun c34 => ?_)
  ·
    replace hf := (if_pos c34).symm.trans hf
    exact j_X1_choice_122 l dC dI Q N d E1 E2 hE1 hE2 hm1 hm2 z9h R hx hb hr hml hown hts hlocks hZ hA hK σ x1 x2 x3 x4 _ _ _ hf h0 hC (lv_sub hl [0, 1, 2, 3, 4] rfl)
  ·
    replace hf := (if_neg c34).symm.trans hf
    refine lv_aload_n hx hb dX1_choice_118 rfl (lv_at hl 0 rfl) ?_
    obtain ⟨p51, hcp51, hf⟩ := hf_bind hf
    have mo52 : CS.hs σ ≤ CS.hs p51.2 := Mono.go hcp51 (m_X1_misplaced N σ)
    have hr9 : CS.hs p51.2 ≤ CS.hs R.2 := Mono.go hf (m_X1_choice_122 N E1 E2 hm1 hm2 p51.2 x1 x2 x3 x4)
    have hFc := cFree hC hA
    refine va_callv (va_runU (As := []) (rest := []) ⟨hx, hb, hml, hown, hts⟩ (c_X1_misplaced l dC dI Q N σ p51 hcp51) (va_cwU 0 hts hX1_choice_X1_misplaced_u59 rfl rfl rfl rfl (by decide +kernel) ⟨(show 3 + 1 ≤ (24 + 40 * d) by omega), (show 8 + (1 + 11) + 60 * 3 ≤ 60 * (24 + 40 * d) by omega)⟩) ⟨zPre.blind, va_recv hK hC.1 (ci := 6) (q0 := 3) rfl rfl, cPre_go hZ hK hC⟩ rfl rfl hl.1 rfl (lv_room (Nat.le_of_ble_eq_true rfl)) dX1_choice_119 (cAcc h0 mo52 hr9)) hC.2.2.1 (fun q _ h => hFc q h) hFc (fun u9 t9 H1 locs ht hvm hw hB hz1 hk1 hS => ?_)
    obtain ⟨⟨hP, hK1, hD1⟩, hsz1⟩ := hB
    rw [ht] at hP hsz1
    have hC : CP dC dI Q A s.heap p51.2 H1 locs := ⟨hP, hD1.weaken (fun _ _ _ h => hFc _ h), hS, hsz1⟩
    generalize H1 = H at hC ⊢
    have h54 : z9h ≤ CS.hs p51.2 := Nat.le_trans h0 mo52
    refine W.widen (k := CS.hs p51.2 - z9h) (n := 17 * (CS.hs p51.2 - z9h)) (cAcc2 h0 mo52) (cAcc3 h0 mo52) ?_
    exact j_X1_choice_122 l dC dI Q N d E1 E2 hE1 hE2 hm1 hm2 z9h R hx hb hr hml hown hts hlocks hZ hA hK p51.2 x1 x2 x3 x4 _ _ _ hf h54 hC (lv_sub hl [0, 1, 2, 3, 4] rfl)
set_option maxHeartbeats 4000000 in
set_option maxRecDepth 100000 in
theorem j_X1_choice_69 {p : Program} {e : Env} {s : State} {m : MethodId} {args : Array Value} {below : List Frame} {meth : Method} {c : Code} {A : Nat → Prop} (l : Launch) (dC : Nat → ClassId) (dI : Nat → Nat → Nat) (Q : CQ) (N : Nat) (d : Nat) (E1 : CS → Option (Unit × CS)) (E2 : CS → Option (Int32 × CS)) (hE1 : cMF l dC dI Q d E1) (hE2 : cMO l dC dI Q d E2) (hm1 : ∀ σ, Mono (CS.hs σ) (E1 σ)) (hm2 : ∀ σ, Mono (CS.hs σ) (E2 σ)) (z9h : Nat) (R : Unit × CS) (hx : p.tables.exec = Jvm.exec) (hb : c.code = cX1_choice) (hr : meth.sig.returnType = none) (hml : c.maxLocals = 6) (hown : s.vm.findClass RX1 = some m.cls) (hts : ∀ w ∈ wzX1_choice, w.before args s = true) (hlocks : meth.locks = false) (hZ : zAMB s) (hA : ∀ q : Nat, s.heap.size ≤ q → A q) (hK : va_K (dC, dI) vwCl (cT Q) s) : ∀ (n9 : Nat), ∀ (σ : CS) (x1 : Int32) (x2 : Int32) (x3 : Int32) (x4 : Int32) (x5 : Int32) (H : Heap) (locs : List Loc) (ls : Array Slot), f_X1_choice_69 N E1 E2 n9 σ x1 x2 x3 x4 x5 = some R → z9h ≤ CS.hs σ → CP dC dI Q A s.heap σ H locs → lv_has ls 6 [(0, .ref (Q.o 3)), (1, .int x1), (2, .int x2), (3, .int x3), (4, .int x4), (5, .int x5)] → W p l e ({ frames := (24 + 40 * d), cells := CS.hs R.2 - z9h, slots := 17 * (CS.hs R.2 - z9h), locals := 60 * (24 + 40 * d) }) s m args below meth c H locs (CS.hs σ - z9h) (17 * (CS.hs σ - z9h)) (MQ below (va_Qv (fun (_ : Unit) => True) (fun (_ : Unit) (t : State) => zPost dC dI A (cW Q R.2) (cT Q) t ∧ t.heap.size = CS.hs R.2) A) args s (CS.hs R.2 - z9h) (17 * (CS.hs R.2 - z9h)) A) (F0 m 69 ls []) := by
  intro n9
  induction n9 with
  | zero => intro σ x1 x2 x3 x4 x5 H locs ls hf; exact absurd hf (by intro q9; cases q9)
  | succ n9 ih =>
    intro σ x1 x2 x3 x4 x5 H locs ls hf h0 hC hl
    replace hf : b_X1_choice_69 N E1 E2 (f_X1_choice_69 N E1 E2 n9) σ x1 x2 x3 x4 x5 = some R := hf
    unfold b_X1_choice_69 at hf
    have hMK := fun (σ : CS) (x1 : Int32) (x2 : Int32) (x3 : Int32) (x4 : Int32) (x5 : Int32) => m_X1_choice_69 N E1 E2 hm1 hm2 n9 σ x1 x2 x3 x4 x5
    refine lv_iload hx hb dX1_choice_69 (lv_at hl 5 rfl) ?_
    refine lv_sipush (v := 900) hx hb dX1_choice_71 (by decide) ?_
    refine lv_icmp_ge (tgt := 113) hx hb dX1_choice_74 (by decide) (fun c33 => ?_) (fun c33 => ?_)
    ·
      replace hf := (if_pos c33).symm.trans hf
      exact j_X1_choice_113 l dC dI Q N d E1 E2 hE1 hE2 hm1 hm2 z9h R hx hb hr hml hown hts hlocks hZ hA hK σ x1 x2 x3 x4 _ _ _ hf h0 hC (lv_sub hl [0, 1, 2, 3, 4] rfl)
    ·
      replace hf := (if_neg c33).symm.trans hf
      refine lv_aload_n hx hb dX1_choice_77 rfl (lv_at hl 0 rfl) ?_
      refine lv_sipush (v := 219) hx hb dX1_choice_78 (by decide) ?_
      obtain ⟨p55, hcp55, hf⟩ := hf_bind hf
      have mo56 : CS.hs σ ≤ CS.hs p55.2 := Mono.go hcp55 (m_X1_found N σ 219)
      have hr9 : CS.hs p55.2 ≤ CS.hs R.2 := Mono.go hf (mono_ite (mono_bind (m_X1_found N p55.2 220) (fun p64 => (mono_ite (m_X1_choice_113 N E1 E2 hm1 hm2 p64.2 x1 x2 x3 x4) (mono_bind (m_X1_arm N E1 E2 hm1 hm2 p64.2 x3 x4 x2) (fun p69 => (hMK p69.2 x1 x2 x3 p69.1 (x5 + 1))))))) (mono_bind (m_X1_arm N E1 E2 hm1 hm2 p55.2 x3 x4 x2) (fun p60 => (hMK p60.2 x1 x2 x3 p60.1 (x5 + 1)))))
      have hFc := cFree hC hA
      refine va_calli (va_runU (As := [.int 219]) (rest := []) ⟨hx, hb, hml, hown, hts⟩ (c_X1_found l dC dI Q N σ 219 p55 hcp55) (va_cwU 1 hts hX1_choice_X1_found_u42 rfl rfl rfl rfl (by decide +kernel) ⟨(show 1 + 1 ≤ (24 + 40 * d) by omega), (show 8 + (2 + 11) + 60 * 1 ≤ 60 * (24 + 40 * d) by omega)⟩) ⟨zPre.blind, va_recv hK hC.1 (ci := 6) (q0 := 3) rfl rfl, cPre_go hZ hK hC⟩ rfl rfl hl.1 rfl (lv_room (Nat.le_of_ble_eq_true rfl)) dX1_choice_81 (cAcc h0 mo56 hr9)) hC.2.2.1 (fun q _ h => hFc q h) hFc (fun r57 u9 t9 H1 locs ht hvm hw hB hz1 hk1 hS => ?_)
      obtain ⟨⟨hP, hK1, hD1⟩, hsz1⟩ := hB
      rw [ht] at hP hsz1
      have hC : CP dC dI Q A s.heap p55.2 H1 locs := ⟨hP, hD1.weaken (fun _ _ _ h => hFc _ h), hS, hsz1⟩
      generalize H1 = H at hC ⊢
      have h58 : z9h ≤ CS.hs p55.2 := Nat.le_trans h0 mo56
      refine W.widen (k := CS.hs p55.2 - z9h) (n := 17 * (CS.hs p55.2 - z9h)) (cAcc2 h0 mo56) (cAcc3 h0 mo56) ?_
      obtain rfl : r57 = p55.1 := hw
      refine lv_if_ne (tgt := 97) hx hb dX1_choice_84 (by decide) (fun c59 => ?_) (fun c59 => ?_)
      ·
        replace hf := (if_neg c59).symm.trans hf
        refine lv_aload_n hx hb dX1_choice_97 rfl (lv_at hl 0 rfl) ?_
        refine lv_iload_n hx hb dX1_choice_98 rfl (lv_at hl 3 rfl) ?_
        refine lv_iload hx hb dX1_choice_99 (lv_at hl 4 rfl) ?_
        refine lv_iload_n hx hb dX1_choice_101 rfl (lv_at hl 2 rfl) ?_
        obtain ⟨p60, hcp60, hf⟩ := hf_bind hf
        have mo61 : CS.hs p55.2 ≤ CS.hs p60.2 := Mono.go hcp60 (m_X1_arm N E1 E2 hm1 hm2 p55.2 x3 x4 x2)
        have hr9 : CS.hs p60.2 ≤ CS.hs R.2 := Mono.go hf (hMK p60.2 x1 x2 x3 p60.1 (x5 + 1))
        have hFc := cFree hC hA
        refine va_calli (va_runU (As := [.int x3, .int x4, .int x2]) (rest := []) ⟨hx, hb, hml, hown, hts⟩ (c_X1_arm l dC dI Q N d E1 E2 hE1 hE2 hm1 hm2 p55.2 x3 x4 x2 p60 hcp60) (va_cwU 3 hts hX1_choice_X1_arm_u117 rfl rfl rfl rfl (by decide +kernel) ⟨(show (23 + 40 * d) + 1 ≤ (24 + 40 * d) by omega), (show 8 + (7 + 11) + 60 * (23 + 40 * d) ≤ 60 * (24 + 40 * d) by omega)⟩) ⟨zPre.blind, va_recv hK hC.1 (ci := 6) (q0 := 3) rfl rfl, cPre_go hZ hK hC⟩ rfl rfl hl.1 rfl (lv_room (Nat.le_of_ble_eq_true rfl)) dX1_choice_102 (cAcc h58 mo61 hr9)) hC.2.2.1 (fun q _ h => hFc q h) hFc (fun r62 u9 t9 H1 locs ht hvm hw hB hz1 hk1 hS => ?_)
        obtain ⟨⟨hP, hK1, hD1⟩, hsz1⟩ := hB
        rw [ht] at hP hsz1
        have hC : CP dC dI Q A s.heap p60.2 H1 locs := ⟨hP, hD1.weaken (fun _ _ _ h => hFc _ h), hS, hsz1⟩
        generalize H1 = H at hC ⊢
        have h63 : z9h ≤ CS.hs p60.2 := Nat.le_trans h58 mo61
        refine W.widen (k := CS.hs p60.2 - z9h) (n := 17 * (CS.hs p60.2 - z9h)) (cAcc2 h58 mo61) (cAcc3 h58 mo61) ?_
        obtain rfl : r62 = p60.1 := hw
        refine lv_istore (lv' := [(4, .int p60.1), (0, .ref (Q.o 3)), (1, .int x1), (2, .int x2), (3, .int x3), (5, .int x5)]) hx hb dX1_choice_105 hl (by decide) rfl (fun ls hl => ?_)
        refine lv_iinc (v := (x5 + 1)) (lv' := [(5, .int (x5 + 1)), (4, .int p60.1), (0, .ref (Q.o 3)), (1, .int x1), (2, .int x2), (3, .int x3)]) hx hb dX1_choice_107 hl (k := 5) rfl rfl (by decide) rfl (fun ls hl => ?_)
        refine lv_goto (tgt := 69) hx hb dX1_choice_110 (by decide) ?_
        exact ih p60.2 x1 x2 x3 p60.1 (x5 + 1) _ _ _ hf h63 hC (lv_sub hl [2, 3, 4, 5, 1, 0] rfl)
      ·
        replace hf := (if_pos c59).symm.trans hf
        refine lv_aload_n hx hb dX1_choice_87 rfl (lv_at hl 0 rfl) ?_
        refine lv_sipush (v := 220) hx hb dX1_choice_88 (by decide) ?_
        obtain ⟨p64, hcp64, hf⟩ := hf_bind hf
        have mo65 : CS.hs p55.2 ≤ CS.hs p64.2 := Mono.go hcp64 (m_X1_found N p55.2 220)
        have hr9 : CS.hs p64.2 ≤ CS.hs R.2 := Mono.go hf (mono_ite (m_X1_choice_113 N E1 E2 hm1 hm2 p64.2 x1 x2 x3 x4) (mono_bind (m_X1_arm N E1 E2 hm1 hm2 p64.2 x3 x4 x2) (fun p69 => (hMK p69.2 x1 x2 x3 p69.1 (x5 + 1)))))
        have hFc := cFree hC hA
        refine va_calli (va_runU (As := [.int 220]) (rest := []) ⟨hx, hb, hml, hown, hts⟩ (c_X1_found l dC dI Q N p55.2 220 p64 hcp64) (va_cwU 1 hts hX1_choice_X1_found_u42 rfl rfl rfl rfl (by decide +kernel) ⟨(show 1 + 1 ≤ (24 + 40 * d) by omega), (show 8 + (2 + 11) + 60 * 1 ≤ 60 * (24 + 40 * d) by omega)⟩) ⟨zPre.blind, va_recv hK hC.1 (ci := 6) (q0 := 3) rfl rfl, cPre_go hZ hK hC⟩ rfl rfl hl.1 rfl (lv_room (Nat.le_of_ble_eq_true rfl)) dX1_choice_91 (cAcc h58 mo65 hr9)) hC.2.2.1 (fun q _ h => hFc q h) hFc (fun r66 u9 t9 H1 locs ht hvm hw hB hz1 hk1 hS => ?_)
        obtain ⟨⟨hP, hK1, hD1⟩, hsz1⟩ := hB
        rw [ht] at hP hsz1
        have hC : CP dC dI Q A s.heap p64.2 H1 locs := ⟨hP, hD1.weaken (fun _ _ _ h => hFc _ h), hS, hsz1⟩
        generalize H1 = H at hC ⊢
        have h67 : z9h ≤ CS.hs p64.2 := Nat.le_trans h58 mo65
        refine W.widen (k := CS.hs p64.2 - z9h) (n := 17 * (CS.hs p64.2 - z9h)) (cAcc2 h58 mo65) (cAcc3 h58 mo65) ?_
        obtain rfl : r66 = p64.1 := hw
        refine lv_if_eq (tgt := 113) hx hb dX1_choice_94 (by decide) (fun c68 => ?_) (fun c68 => ?_)
        ·
          replace hf := (if_pos c68).symm.trans hf
          exact j_X1_choice_113 l dC dI Q N d E1 E2 hE1 hE2 hm1 hm2 z9h R hx hb hr hml hown hts hlocks hZ hA hK p64.2 x1 x2 x3 x4 _ _ _ hf h67 hC (lv_sub hl [0, 1, 2, 3, 4] rfl)
        ·
          replace hf := (if_neg c68).symm.trans hf
          refine lv_aload_n hx hb dX1_choice_97 rfl (lv_at hl 0 rfl) ?_
          refine lv_iload_n hx hb dX1_choice_98 rfl (lv_at hl 3 rfl) ?_
          refine lv_iload hx hb dX1_choice_99 (lv_at hl 4 rfl) ?_
          refine lv_iload_n hx hb dX1_choice_101 rfl (lv_at hl 2 rfl) ?_
          obtain ⟨p69, hcp69, hf⟩ := hf_bind hf
          have mo70 : CS.hs p64.2 ≤ CS.hs p69.2 := Mono.go hcp69 (m_X1_arm N E1 E2 hm1 hm2 p64.2 x3 x4 x2)
          have hr9 : CS.hs p69.2 ≤ CS.hs R.2 := Mono.go hf (hMK p69.2 x1 x2 x3 p69.1 (x5 + 1))
          have hFc := cFree hC hA
          refine va_calli (va_runU (As := [.int x3, .int x4, .int x2]) (rest := []) ⟨hx, hb, hml, hown, hts⟩ (c_X1_arm l dC dI Q N d E1 E2 hE1 hE2 hm1 hm2 p64.2 x3 x4 x2 p69 hcp69) (va_cwU 3 hts hX1_choice_X1_arm_u117 rfl rfl rfl rfl (by decide +kernel) ⟨(show (23 + 40 * d) + 1 ≤ (24 + 40 * d) by omega), (show 8 + (7 + 11) + 60 * (23 + 40 * d) ≤ 60 * (24 + 40 * d) by omega)⟩) ⟨zPre.blind, va_recv hK hC.1 (ci := 6) (q0 := 3) rfl rfl, cPre_go hZ hK hC⟩ rfl rfl hl.1 rfl (lv_room (Nat.le_of_ble_eq_true rfl)) dX1_choice_102 (cAcc h67 mo70 hr9)) hC.2.2.1 (fun q _ h => hFc q h) hFc (fun r71 u9 t9 H1 locs ht hvm hw hB hz1 hk1 hS => ?_)
          obtain ⟨⟨hP, hK1, hD1⟩, hsz1⟩ := hB
          rw [ht] at hP hsz1
          have hC : CP dC dI Q A s.heap p69.2 H1 locs := ⟨hP, hD1.weaken (fun _ _ _ h => hFc _ h), hS, hsz1⟩
          generalize H1 = H at hC ⊢
          have h72 : z9h ≤ CS.hs p69.2 := Nat.le_trans h67 mo70
          refine W.widen (k := CS.hs p69.2 - z9h) (n := 17 * (CS.hs p69.2 - z9h)) (cAcc2 h67 mo70) (cAcc3 h67 mo70) ?_
          obtain rfl : r71 = p69.1 := hw
          refine lv_istore (lv' := [(4, .int p69.1), (0, .ref (Q.o 3)), (1, .int x1), (2, .int x2), (3, .int x3), (5, .int x5)]) hx hb dX1_choice_105 hl (by decide) rfl (fun ls hl => ?_)
          refine lv_iinc (v := (x5 + 1)) (lv' := [(5, .int (x5 + 1)), (4, .int p69.1), (0, .ref (Q.o 3)), (1, .int x1), (2, .int x2), (3, .int x3)]) hx hb dX1_choice_107 hl (k := 5) rfl rfl (by decide) rfl (fun ls hl => ?_)
          refine lv_goto (tgt := 69) hx hb dX1_choice_110 (by decide) ?_
          exact ih p69.2 x1 x2 x3 p69.1 (x5 + 1) _ _ _ hf h72 hC (lv_sub hl [2, 3, 4, 5, 1, 0] rfl)
set_option maxHeartbeats 4000000 in
set_option maxRecDepth 100000 in
theorem c_X1_choice (l : Launch) (dC : Nat → ClassId) (dI : Nat → Nat → Nat) (Q : CQ) (N : Nat) (d : Nat) (E1 : CS → Option (Unit × CS)) (E2 : CS → Option (Int32 × CS)) (hE1 : cMF l dC dI Q d E1) (hE2 : cMO l dC dI Q d E2) (hm1 : ∀ σ, Mono (CS.hs σ) (E1 σ)) (hm2 : ∀ σ, Mono (CS.hs σ) (E2 σ)) (σ : CS) (R : Unit × CS) (hf : f_X1_choice N E1 E2 σ = some R) : Met l yX1_choice wzX1_choice ({ frames := (24 + 40 * d), cells := CS.hs R.2 - CS.hs σ, slots := 17 * (CS.hs R.2 - CS.hs σ), locals := 60 * (24 + 40 * d) }) (va_Pc [.ref (Q.o 3)] (zPre dC dI (CS.hs σ) (cW Q σ) (cT Q))) (va_Qv (fun (_ : Unit) => True) (fun (_ : Unit) (t : State) => zPost dC dI (va_A (cW Q σ) (CS.hs σ)) (cW Q R.2) (cT Q) t ∧ t.heap.size = CS.hs R.2) (va_A (cW Q σ) (CS.hs σ))) (CS.hs R.2 - CS.hs σ) (17 * (CS.hs R.2 - CS.hs σ)) (va_A (cW Q σ) (CS.hs σ)) := by
  refine Met.ofW (cc := cX1_choice) (maxL := 6) (ret := none) (by decide) rfl ?_
  intro p e s m args below meth c s₁ B hml hv
  obtain ⟨rfl, hsz, hZ, hP, hK, hD0⟩ := hv
  have hx := B.exec
  have hb := B.bytes
  have hr := B.returns
  have hts := atoms_spec (ws := wzX1_choice) B.pre
  have hown : s.vm.findClass RX1 = some m.cls := findClass_of_methodNamed B.named
  have hlocks := B.notSynchronized
  have hD := hD0.self (sz := CS.hs σ)
  generalize hAe : va_A (cW Q σ) (CS.hs σ) = A at hD ⊢
  have hA : ∀ q : Nat, s.heap.size ≤ q → A q := fun q h => by rw [← hAe]; exact Or.inr (hsz ▸ h)
  have hC : CP dC dI Q A s.heap σ s.heap [] := ⟨hP, hD, va_S.rf, hsz⟩
  have h0 : CS.hs σ ≤ CS.hs σ := Nat.le_refl _
  have hl := lv_entry ([.ref (Q.o 3)]) (n := 6) (Nat.le_of_ble_eq_true rfl)
  rw [lg_entry_eq]
  generalize (lg_sl ([.ref (Q.o 3)]) ++ List.replicate (6 - (lg_sl ([.ref (Q.o 3)])).length) Slot.unset).toArray = ls at hl ⊢
  have hl : lv_has ls 6 [(0, .ref (Q.o 3))] := hl
  unfold f_X1_choice at hf
  refine W.widen (k := CS.hs σ - CS.hs σ) (n := 17 * (CS.hs σ - CS.hs σ)) (Nat.zero_le _) (Nat.zero_le _) ?_
  refine lv_aload_n hx hb dX1_choice_0 rfl (lv_at hl 0 rfl) ?_
  refine cG_28 hx hb hts i_X1_choice_X7 hown hK hC (hts (.fieldLink RX1 18 "StatementRules2$Formulas" "tokens" "LStatementRules2$Tokens;") k_X1_choice_fieldLink_RX1_18_SR_Formulas_tokens_LSR_Tokens) (fun _ q9 => q9) dX1_choice_1 ?_
  obtain ⟨p1, hcp1, hf⟩ := hf_bind hf
  have mo2 : CS.hs σ ≤ CS.hs p1.2 := Mono.go hcp1 (m_X9_advance N σ)
  have hr9 : CS.hs p1.2 ≤ CS.hs R.2 := Mono.go hf (mono_bind (m_X1_open N p1.2 40) (fun p5 => (mono_bind (m_X1_expression N E1 E2 hm1 hm2 p5.2) (fun p9 => (mono_bind (m_X1_close N p9.2 41) (fun p13 => (mono_bind (m_X1_open N p13.2 123) (fun p17 => (mono_bind (m_X0_newTarget N p17.2) (fun p21 => (mono_bind (m_X0_newTarget N p21.2) (fun p25 => (mono_bind (m_X0_add N p25.2 30 p21.1) (fun p29 => (m_X1_choice_69 N E1 E2 hm1 hm2 N p29.2 p21.1 p25.1 (p25.2.i 22) (-1) 0)))))))))))))))
  have hFc := cFree hC hA
  refine va_callv (va_runV (As := []) (rest := []) ⟨hx, hb, hml, hown, hts⟩ (c_X9_advance l dC dI Q N σ p1 hcp1) (cwV 0 hts hX1_choice_X9_advance_v56 rfl rfl rfl (by decide +kernel) ⟨(show 3 + 1 ≤ (24 + 40 * d) by omega), (show 8 + (2 + 11) + 60 * 3 ≤ 60 * (24 + 40 * d) by omega)⟩) ⟨zPre.blind, va_recv hK hC.1 (ci := 8) (q0 := 4) rfl rfl, cPre_go hZ hK hC⟩ rfl rfl hl.1 rfl (lv_room (Nat.le_of_ble_eq_true rfl)) dX1_choice_4 (cAcc h0 mo2 hr9)) hC.2.2.1 (fun q _ h => hFc q h) hFc (fun u9 t9 H1 locs ht hvm hw hB hz1 hk1 hS => ?_)
  obtain ⟨⟨hP, hK1, hD1⟩, hsz1⟩ := hB
  rw [ht] at hP hsz1
  have hC : CP dC dI Q A s.heap p1.2 H1 locs := ⟨hP, hD1.weaken (fun _ _ _ h => hFc _ h), hS, hsz1⟩
  generalize H1 = H at hC ⊢
  have h4 : (CS.hs σ) ≤ CS.hs p1.2 := Nat.le_trans h0 mo2
  refine W.widen (k := CS.hs p1.2 - (CS.hs σ)) (n := 17 * (CS.hs p1.2 - (CS.hs σ))) (cAcc2 h0 mo2) (cAcc3 h0 mo2) ?_
  refine lv_aload_n hx hb dX1_choice_7 rfl (lv_at hl 0 rfl) ?_
  refine lv_bipush (v := 40) hx hb dX1_choice_8 (by decide) ?_
  obtain ⟨p5, hcp5, hf⟩ := hf_bind hf
  have mo6 : CS.hs p1.2 ≤ CS.hs p5.2 := Mono.go hcp5 (m_X1_open N p1.2 40)
  have hr9 : CS.hs p5.2 ≤ CS.hs R.2 := Mono.go hf (mono_bind (m_X1_expression N E1 E2 hm1 hm2 p5.2) (fun p9 => (mono_bind (m_X1_close N p9.2 41) (fun p13 => (mono_bind (m_X1_open N p13.2 123) (fun p17 => (mono_bind (m_X0_newTarget N p17.2) (fun p21 => (mono_bind (m_X0_newTarget N p21.2) (fun p25 => (mono_bind (m_X0_add N p25.2 30 p21.1) (fun p29 => (m_X1_choice_69 N E1 E2 hm1 hm2 N p29.2 p21.1 p25.1 (p25.2.i 22) (-1) 0)))))))))))))
  have hFc := cFree hC hA
  refine va_callv (va_runU (As := [.int 40]) (rest := []) ⟨hx, hb, hml, hown, hts⟩ (c_X1_open l dC dI Q N p1.2 40 p5 hcp5) (va_cwU 1 hts hX1_choice_X1_open_u85 rfl rfl rfl rfl (by decide +kernel) ⟨(show 4 + 1 ≤ (24 + 40 * d) by omega), (show 8 + (2 + 11) + 60 * 4 ≤ 60 * (24 + 40 * d) by omega)⟩) ⟨zPre.blind, va_recv hK hC.1 (ci := 6) (q0 := 3) rfl rfl, cPre_go hZ hK hC⟩ rfl rfl hl.1 rfl (lv_room (Nat.le_of_ble_eq_true rfl)) dX1_choice_10 (cAcc h4 mo6 hr9)) hC.2.2.1 (fun q _ h => hFc q h) hFc (fun u9 t9 H1 locs ht hvm hw hB hz1 hk1 hS => ?_)
  obtain ⟨⟨hP, hK1, hD1⟩, hsz1⟩ := hB
  rw [ht] at hP hsz1
  have hC : CP dC dI Q A s.heap p5.2 H1 locs := ⟨hP, hD1.weaken (fun _ _ _ h => hFc _ h), hS, hsz1⟩
  generalize H1 = H at hC ⊢
  have h8 : (CS.hs σ) ≤ CS.hs p5.2 := Nat.le_trans h4 mo6
  refine W.widen (k := CS.hs p5.2 - (CS.hs σ)) (n := 17 * (CS.hs p5.2 - (CS.hs σ))) (cAcc2 h4 mo6) (cAcc3 h4 mo6) ?_
  refine lv_aload_n hx hb dX1_choice_13 rfl (lv_at hl 0 rfl) ?_
  obtain ⟨p9, hcp9, hf⟩ := hf_bind hf
  have mo10 : CS.hs p5.2 ≤ CS.hs p9.2 := Mono.go hcp9 (m_X1_expression N E1 E2 hm1 hm2 p5.2)
  have hr9 : CS.hs p9.2 ≤ CS.hs R.2 := Mono.go hf (mono_bind (m_X1_close N p9.2 41) (fun p13 => (mono_bind (m_X1_open N p13.2 123) (fun p17 => (mono_bind (m_X0_newTarget N p17.2) (fun p21 => (mono_bind (m_X0_newTarget N p21.2) (fun p25 => (mono_bind (m_X0_add N p25.2 30 p21.1) (fun p29 => (m_X1_choice_69 N E1 E2 hm1 hm2 N p29.2 p21.1 p25.1 (p25.2.i 22) (-1) 0)))))))))))
  have hFc := cFree hC hA
  refine va_callv (va_runU (As := []) (rest := []) ⟨hx, hb, hml, hown, hts⟩ (c_X1_expression l dC dI Q N d E1 E2 hE1 hE2 hm1 hm2 p5.2 p9 hcp9) (va_cwU 0 hts hX1_choice_X1_expression_u89 rfl rfl rfl rfl (by decide +kernel) ⟨(show (12 + 40 * d) + 1 ≤ (24 + 40 * d) by omega), (show 8 + (3 + 11) + 60 * (12 + 40 * d) ≤ 60 * (24 + 40 * d) by omega)⟩) ⟨zPre.blind, va_recv hK hC.1 (ci := 6) (q0 := 3) rfl rfl, cPre_go hZ hK hC⟩ rfl rfl hl.1 rfl (lv_room (Nat.le_of_ble_eq_true rfl)) dX1_choice_14 (cAcc h8 mo10 hr9)) hC.2.2.1 (fun q _ h => hFc q h) hFc (fun u9 t9 H1 locs ht hvm hw hB hz1 hk1 hS => ?_)
  obtain ⟨⟨hP, hK1, hD1⟩, hsz1⟩ := hB
  rw [ht] at hP hsz1
  have hC : CP dC dI Q A s.heap p9.2 H1 locs := ⟨hP, hD1.weaken (fun _ _ _ h => hFc _ h), hS, hsz1⟩
  generalize H1 = H at hC ⊢
  have h12 : (CS.hs σ) ≤ CS.hs p9.2 := Nat.le_trans h8 mo10
  refine W.widen (k := CS.hs p9.2 - (CS.hs σ)) (n := 17 * (CS.hs p9.2 - (CS.hs σ))) (cAcc2 h8 mo10) (cAcc3 h8 mo10) ?_
  refine lv_aload_n hx hb dX1_choice_17 rfl (lv_at hl 0 rfl) ?_
  refine lv_bipush (v := 41) hx hb dX1_choice_18 (by decide) ?_
  obtain ⟨p13, hcp13, hf⟩ := hf_bind hf
  have mo14 : CS.hs p9.2 ≤ CS.hs p13.2 := Mono.go hcp13 (m_X1_close N p9.2 41)
  have hr9 : CS.hs p13.2 ≤ CS.hs R.2 := Mono.go hf (mono_bind (m_X1_open N p13.2 123) (fun p17 => (mono_bind (m_X0_newTarget N p17.2) (fun p21 => (mono_bind (m_X0_newTarget N p21.2) (fun p25 => (mono_bind (m_X0_add N p25.2 30 p21.1) (fun p29 => (m_X1_choice_69 N E1 E2 hm1 hm2 N p29.2 p21.1 p25.1 (p25.2.i 22) (-1) 0)))))))))
  have hFc := cFree hC hA
  refine va_callv (va_runU (As := [.int 41]) (rest := []) ⟨hx, hb, hml, hown, hts⟩ (c_X1_close l dC dI Q N p9.2 41 p13 hcp13) (va_cwU 1 hts hX1_choice_X1_close_u92 rfl rfl rfl rfl (by decide +kernel) ⟨(show 4 + 1 ≤ (24 + 40 * d) by omega), (show 8 + (2 + 11) + 60 * 4 ≤ 60 * (24 + 40 * d) by omega)⟩) ⟨zPre.blind, va_recv hK hC.1 (ci := 6) (q0 := 3) rfl rfl, cPre_go hZ hK hC⟩ rfl rfl hl.1 rfl (lv_room (Nat.le_of_ble_eq_true rfl)) dX1_choice_20 (cAcc h12 mo14 hr9)) hC.2.2.1 (fun q _ h => hFc q h) hFc (fun u9 t9 H1 locs ht hvm hw hB hz1 hk1 hS => ?_)
  obtain ⟨⟨hP, hK1, hD1⟩, hsz1⟩ := hB
  rw [ht] at hP hsz1
  have hC : CP dC dI Q A s.heap p13.2 H1 locs := ⟨hP, hD1.weaken (fun _ _ _ h => hFc _ h), hS, hsz1⟩
  generalize H1 = H at hC ⊢
  have h16 : (CS.hs σ) ≤ CS.hs p13.2 := Nat.le_trans h12 mo14
  refine W.widen (k := CS.hs p13.2 - (CS.hs σ)) (n := 17 * (CS.hs p13.2 - (CS.hs σ))) (cAcc2 h12 mo14) (cAcc3 h12 mo14) ?_
  refine lv_aload_n hx hb dX1_choice_23 rfl (lv_at hl 0 rfl) ?_
  refine lv_bipush (v := 123) hx hb dX1_choice_24 (by decide) ?_
  obtain ⟨p17, hcp17, hf⟩ := hf_bind hf
  have mo18 : CS.hs p13.2 ≤ CS.hs p17.2 := Mono.go hcp17 (m_X1_open N p13.2 123)
  have hr9 : CS.hs p17.2 ≤ CS.hs R.2 := Mono.go hf (mono_bind (m_X0_newTarget N p17.2) (fun p21 => (mono_bind (m_X0_newTarget N p21.2) (fun p25 => (mono_bind (m_X0_add N p25.2 30 p21.1) (fun p29 => (m_X1_choice_69 N E1 E2 hm1 hm2 N p29.2 p21.1 p25.1 (p25.2.i 22) (-1) 0)))))))
  have hFc := cFree hC hA
  refine va_callv (va_runU (As := [.int 123]) (rest := []) ⟨hx, hb, hml, hown, hts⟩ (c_X1_open l dC dI Q N p13.2 123 p17 hcp17) (va_cwU 1 hts hX1_choice_X1_open_u85 rfl rfl rfl rfl (by decide +kernel) ⟨(show 4 + 1 ≤ (24 + 40 * d) by omega), (show 8 + (2 + 11) + 60 * 4 ≤ 60 * (24 + 40 * d) by omega)⟩) ⟨zPre.blind, va_recv hK hC.1 (ci := 6) (q0 := 3) rfl rfl, cPre_go hZ hK hC⟩ rfl rfl hl.1 rfl (lv_room (Nat.le_of_ble_eq_true rfl)) dX1_choice_26 (cAcc h16 mo18 hr9)) hC.2.2.1 (fun q _ h => hFc q h) hFc (fun u9 t9 H1 locs ht hvm hw hB hz1 hk1 hS => ?_)
  obtain ⟨⟨hP, hK1, hD1⟩, hsz1⟩ := hB
  rw [ht] at hP hsz1
  have hC : CP dC dI Q A s.heap p17.2 H1 locs := ⟨hP, hD1.weaken (fun _ _ _ h => hFc _ h), hS, hsz1⟩
  generalize H1 = H at hC ⊢
  have h20 : (CS.hs σ) ≤ CS.hs p17.2 := Nat.le_trans h16 mo18
  refine W.widen (k := CS.hs p17.2 - (CS.hs σ)) (n := 17 * (CS.hs p17.2 - (CS.hs σ))) (cAcc2 h16 mo18) (cAcc3 h16 mo18) ?_
  refine lv_aload_n hx hb dX1_choice_29 rfl (lv_at hl 0 rfl) ?_
  refine cG_29 hx hb hts i_X1_choice_X7 hown hK hC (hts (.fieldLink RX1 22 "StatementRules2$Formulas" "code" "LStatementRules2$Code;") k_X1_choice_fieldLink_RX1_22_SR_Formulas_code_LSR_Code) (fun _ q9 => q9) dX1_choice_30 ?_
  obtain ⟨p21, hcp21, hf⟩ := hf_bind hf
  have mo22 : CS.hs p17.2 ≤ CS.hs p21.2 := Mono.go hcp21 (m_X0_newTarget N p17.2)
  have hr9 : CS.hs p21.2 ≤ CS.hs R.2 := Mono.go hf (mono_bind (m_X0_newTarget N p21.2) (fun p25 => (mono_bind (m_X0_add N p25.2 30 p21.1) (fun p29 => (m_X1_choice_69 N E1 E2 hm1 hm2 N p29.2 p21.1 p25.1 (p25.2.i 22) (-1) 0)))))
  have hFc := cFree hC hA
  refine va_calli (va_runV (As := []) (rest := []) ⟨hx, hb, hml, hown, hts⟩ (c_X0_newTarget l dC dI Q N p17.2 p21 hcp21) (cwV 0 hts hX1_choice_X0_newTarget_v110 rfl rfl rfl (by decide +kernel) ⟨(show 2 + 1 ≤ (24 + 40 * d) by omega), (show 8 + (1 + 11) + 60 * 2 ≤ 60 * (24 + 40 * d) by omega)⟩) ⟨zPre.blind, va_recv hK hC.1 (ci := 0) (q0 := 2) rfl rfl, cPre_go hZ hK hC⟩ rfl rfl hl.1 rfl (lv_room (Nat.le_of_ble_eq_true rfl)) dX1_choice_33 (cAcc h20 mo22 hr9)) hC.2.2.1 (fun q _ h => hFc q h) hFc (fun r23 u9 t9 H1 locs ht hvm hw hB hz1 hk1 hS => ?_)
  obtain ⟨⟨hP, hK1, hD1⟩, hsz1⟩ := hB
  rw [ht] at hP hsz1
  have hC : CP dC dI Q A s.heap p21.2 H1 locs := ⟨hP, hD1.weaken (fun _ _ _ h => hFc _ h), hS, hsz1⟩
  generalize H1 = H at hC ⊢
  have h24 : (CS.hs σ) ≤ CS.hs p21.2 := Nat.le_trans h20 mo22
  refine W.widen (k := CS.hs p21.2 - (CS.hs σ)) (n := 17 * (CS.hs p21.2 - (CS.hs σ))) (cAcc2 h20 mo22) (cAcc3 h20 mo22) ?_
  obtain rfl : r23 = p21.1 := hw
  refine lv_istore_n (lv' := [(1, .int p21.1), (0, .ref (Q.o 3))]) hx hb dX1_choice_36 rfl hl (by decide) rfl (fun ls hl => ?_)
  refine lv_aload_n hx hb dX1_choice_37 rfl (lv_at hl 1 rfl) ?_
  refine cG_29 hx hb hts i_X1_choice_X7 hown hK hC (hts (.fieldLink RX1 22 "StatementRules2$Formulas" "code" "LStatementRules2$Code;") k_X1_choice_fieldLink_RX1_22_SR_Formulas_code_LSR_Code) (fun _ q9 => q9) dX1_choice_38 ?_
  obtain ⟨p25, hcp25, hf⟩ := hf_bind hf
  have mo26 : CS.hs p21.2 ≤ CS.hs p25.2 := Mono.go hcp25 (m_X0_newTarget N p21.2)
  have hr9 : CS.hs p25.2 ≤ CS.hs R.2 := Mono.go hf (mono_bind (m_X0_add N p25.2 30 p21.1) (fun p29 => (m_X1_choice_69 N E1 E2 hm1 hm2 N p29.2 p21.1 p25.1 (p25.2.i 22) (-1) 0)))
  have hFc := cFree hC hA
  refine va_calli (va_runV (As := []) (rest := []) ⟨hx, hb, hml, hown, hts⟩ (c_X0_newTarget l dC dI Q N p21.2 p25 hcp25) (cwV 0 hts hX1_choice_X0_newTarget_v110 rfl rfl rfl (by decide +kernel) ⟨(show 2 + 1 ≤ (24 + 40 * d) by omega), (show 8 + (1 + 11) + 60 * 2 ≤ 60 * (24 + 40 * d) by omega)⟩) ⟨zPre.blind, va_recv hK hC.1 (ci := 0) (q0 := 2) rfl rfl, cPre_go hZ hK hC⟩ rfl rfl hl.1 rfl (lv_room (Nat.le_of_ble_eq_true rfl)) dX1_choice_41 (cAcc h24 mo26 hr9)) hC.2.2.1 (fun q _ h => hFc q h) hFc (fun r27 u9 t9 H1 locs ht hvm hw hB hz1 hk1 hS => ?_)
  obtain ⟨⟨hP, hK1, hD1⟩, hsz1⟩ := hB
  rw [ht] at hP hsz1
  have hC : CP dC dI Q A s.heap p25.2 H1 locs := ⟨hP, hD1.weaken (fun _ _ _ h => hFc _ h), hS, hsz1⟩
  generalize H1 = H at hC ⊢
  have h28 : (CS.hs σ) ≤ CS.hs p25.2 := Nat.le_trans h24 mo26
  refine W.widen (k := CS.hs p25.2 - (CS.hs σ)) (n := 17 * (CS.hs p25.2 - (CS.hs σ))) (cAcc2 h24 mo26) (cAcc3 h24 mo26) ?_
  obtain rfl : r27 = p25.1 := hw
  refine lv_istore_n (lv' := [(2, .int p25.1), (1, .int p21.1), (0, .ref (Q.o 3))]) hx hb dX1_choice_44 rfl hl (by decide) rfl (fun ls hl => ?_)
  refine lv_aload_n hx hb dX1_choice_45 rfl (lv_at hl 2 rfl) ?_
  refine cG_29 hx hb hts i_X1_choice_X7 hown hK hC (hts (.fieldLink RX1 22 "StatementRules2$Formulas" "code" "LStatementRules2$Code;") k_X1_choice_fieldLink_RX1_22_SR_Formulas_code_LSR_Code) (fun _ q9 => q9) dX1_choice_46 ?_
  refine cGN_22 (v := (p25.2.i 22)) hx hb hts i_X1_choice_X0 hown hK hC (va_Nw.use rfl (hZ.1 (.fieldLinkNest RX1 114 "StatementRules2$Code" "caseCount" "I" "StatementRules2") (by decide +kernel))) (fun _ q9 => q9) dX1_choice_49 rfl ?_
  refine lv_istore_n (lv' := [(3, .int (p25.2.i 22)), (2, .int p25.1), (1, .int p21.1), (0, .ref (Q.o 3))]) hx hb dX1_choice_52 rfl hl (by decide) rfl (fun ls hl => ?_)
  refine lv_iconst (v := (-1)) hx hb dX1_choice_53 (by decide) ?_
  refine lv_istore (lv' := [(4, .int (-1)), (3, .int (p25.2.i 22)), (2, .int p25.1), (1, .int p21.1), (0, .ref (Q.o 3))]) hx hb dX1_choice_54 hl (by decide) rfl (fun ls hl => ?_)
  refine lv_aload_n hx hb dX1_choice_56 rfl (lv_at hl 4 rfl) ?_
  refine cG_29 hx hb hts i_X1_choice_X7 hown hK hC (hts (.fieldLink RX1 22 "StatementRules2$Formulas" "code" "LStatementRules2$Code;") k_X1_choice_fieldLink_RX1_22_SR_Formulas_code_LSR_Code) (fun _ q9 => q9) dX1_choice_57 ?_
  refine lv_bipush (v := 30) hx hb dX1_choice_60 (by decide) ?_
  refine lv_iload_n hx hb dX1_choice_62 rfl (lv_at hl 3 rfl) ?_
  obtain ⟨p29, hcp29, hf⟩ := hf_bind hf
  have mo30 : CS.hs p25.2 ≤ CS.hs p29.2 := Mono.go hcp29 (m_X0_add N p25.2 30 p21.1)
  have hr9 : CS.hs p29.2 ≤ CS.hs R.2 := Mono.go hf (m_X1_choice_69 N E1 E2 hm1 hm2 N p29.2 p21.1 p25.1 (p25.2.i 22) (-1) 0)
  have hFc := cFree hC hA
  refine va_callv (va_runV (As := [.int 30, .int p21.1]) (rest := []) ⟨hx, hb, hml, hown, hts⟩ (c_X0_add l dC dI Q N p25.2 30 p21.1 p29 hcp29) (cwV 2 hts hX1_choice_X0_add_v68 rfl rfl rfl (by decide +kernel) ⟨(show 2 + 1 ≤ (24 + 40 * d) by omega), (show 8 + (3 + 11) + 60 * 2 ≤ 60 * (24 + 40 * d) by omega)⟩) ⟨zPre.blind, va_recv hK hC.1 (ci := 0) (q0 := 2) rfl rfl, cPre_go hZ hK hC⟩ rfl rfl hl.1 rfl (lv_room (Nat.le_of_ble_eq_true rfl)) dX1_choice_63 (cAcc h28 mo30 hr9)) hC.2.2.1 (fun q _ h => hFc q h) hFc (fun u9 t9 H1 locs ht hvm hw hB hz1 hk1 hS => ?_)
  obtain ⟨⟨hP, hK1, hD1⟩, hsz1⟩ := hB
  rw [ht] at hP hsz1
  have hC : CP dC dI Q A s.heap p29.2 H1 locs := ⟨hP, hD1.weaken (fun _ _ _ h => hFc _ h), hS, hsz1⟩
  generalize H1 = H at hC ⊢
  have h32 : (CS.hs σ) ≤ CS.hs p29.2 := Nat.le_trans h28 mo30
  refine W.widen (k := CS.hs p29.2 - (CS.hs σ)) (n := 17 * (CS.hs p29.2 - (CS.hs σ))) (cAcc2 h28 mo30) (cAcc3 h28 mo30) ?_
  refine lv_iconst (v := 0) hx hb dX1_choice_66 (by decide) ?_
  refine lv_istore (lv' := [(5, .int 0), (4, .int (-1)), (3, .int (p25.2.i 22)), (2, .int p25.1), (1, .int p21.1), (0, .ref (Q.o 3))]) hx hb dX1_choice_67 hl (by decide) rfl (fun ls hl => ?_)
  exact j_X1_choice_69 l dC dI Q N d E1 E2 hE1 hE2 hm1 hm2 (CS.hs σ) R hx hb hr hml hown hts hlocks hZ hA hK N p29.2 p21.1 p25.1 (p25.2.i 22) (-1) 0 _ _ _ hf h32 hC (lv_sub hl [5, 4, 3, 2, 1, 0] rfl)
end
section
theorem k_X1_factor_fieldLink_RX1_18_SR_Formulas_tokens_LSR_Tokens : Cond.fieldLink RX1 18 "StatementRules2$Formulas" "tokens" "LStatementRules2$Tokens;" ∈ wzX1_factor := List.mem_cons_of_mem _ (List.mem_append_right _ (List.mem_append_right _ (List.mem_append_right _ (List.mem_append_right _ (List.mem_append_right _ (List.mem_append_right _ (List.mem_append_right _ (List.mem_append_left _ (List.mem_of_getElem? (i := 0) rfl)))))))))
theorem i_X1_factor_X7 : ∀ w ∈ wsX70, w ∈ wzX1_factor := fun _ h => List.mem_cons_of_mem _ (List.mem_append_right _ (List.mem_append_right _ (List.mem_append_right _ (List.mem_append_right _ (List.mem_append_right _ (List.mem_append_right _ (List.mem_append_right _ (List.mem_append_right _ (List.mem_append_right _ (List.mem_append_right _ (List.mem_append_right _ (List.mem_append_right _ (List.mem_append_right _ (List.mem_append_right _ (List.mem_append_right _ (List.mem_append_right _ (List.mem_append_right _ (List.mem_append_right _ (List.mem_append_right _ (List.mem_append_right _ (List.mem_append_right _ (List.mem_append_right _ (List.mem_append_right _ (List.mem_append_right _ (List.mem_append_right _ (List.mem_append_right _ (List.mem_append_right _ (List.mem_append_right _ (List.mem_append_right _ (List.mem_append_right _ (List.mem_append_right _ (List.mem_append_right _ (List.mem_append_right _ (List.mem_append_right _ (List.mem_append_right _ (List.mem_append_right _ (List.mem_append_left _ (h))))))))))))))))))))))))))))))))))))))
theorem i_X1_factor_X9 : ∀ w ∈ wsX90, w ∈ wzX1_factor := fun _ h => List.mem_cons_of_mem _ (List.mem_append_right _ (List.mem_append_right _ (List.mem_append_right _ (List.mem_append_right _ (List.mem_append_right _ (List.mem_append_right _ (List.mem_append_right _ (List.mem_append_right _ (List.mem_append_right _ (List.mem_append_right _ (List.mem_append_right _ (List.mem_append_right _ (List.mem_append_right _ (List.mem_append_right _ (List.mem_append_right _ (List.mem_append_right _ (List.mem_append_right _ (List.mem_append_right _ (List.mem_append_right _ (List.mem_append_right _ (List.mem_append_right _ (List.mem_append_right _ (List.mem_append_right _ (List.mem_append_right _ (List.mem_append_right _ (List.mem_append_right _ (List.mem_append_right _ (List.mem_append_right _ (List.mem_append_right _ (List.mem_append_right _ (List.mem_append_right _ (List.mem_append_right _ (List.mem_append_right _ (List.mem_append_right _ (List.mem_append_right _ (List.mem_append_right _ (List.mem_append_right _ (List.mem_append_left _ (h)))))))))))))))))))))))))))))))))))))))
theorem k_X1_factor_fieldLink_RX1_22_SR_Formulas_code_LSR_Code : Cond.fieldLink RX1 22 "StatementRules2$Formulas" "code" "LStatementRules2$Code;" ∈ wzX1_factor := List.mem_cons_of_mem _ (List.mem_append_right _ (List.mem_append_right _ (List.mem_append_right _ (List.mem_append_right _ (List.mem_append_right _ (List.mem_append_right _ (List.mem_append_right _ (List.mem_append_left _ (List.mem_of_getElem? (i := 1) rfl)))))))))
set_option maxHeartbeats 4000000 in
set_option maxRecDepth 100000 in
theorem c_X1_factor (l : Launch) (dC : Nat → ClassId) (dI : Nat → Nat → Nat) (Q : CQ) (N : Nat) (d : Nat) (E1 : CS → Option (Unit × CS)) (E2 : CS → Option (Int32 × CS)) (hE1 : cMF l dC dI Q d E1) (hE2 : cMO l dC dI Q d E2) (hm1 : ∀ σ, Mono (CS.hs σ) (E1 σ)) (hm2 : ∀ σ, Mono (CS.hs σ) (E2 σ)) (σ : CS) (R : Unit × CS) (hf : f_X1_factor N E1 E2 σ = some R) : Met l yX1_factor wzX1_factor ({ frames := (50 + 40 * d), cells := CS.hs R.2 - CS.hs σ, slots := 17 * (CS.hs R.2 - CS.hs σ), locals := 60 * (50 + 40 * d) }) (va_Pc [.ref (Q.o 3)] (zPre dC dI (CS.hs σ) (cW Q σ) (cT Q))) (va_Qv (fun (_ : Unit) => True) (fun (_ : Unit) (t : State) => zPost dC dI (va_A (cW Q σ) (CS.hs σ)) (cW Q R.2) (cT Q) t ∧ t.heap.size = CS.hs R.2) (va_A (cW Q σ) (CS.hs σ))) (CS.hs R.2 - CS.hs σ) (17 * (CS.hs R.2 - CS.hs σ)) (va_A (cW Q σ) (CS.hs σ)) := by
  refine Met.ofW (cc := cX1_factor) (maxL := 1) (ret := none) (by decide) rfl ?_
  intro p e s m args below meth c s₁ B hml hv
  obtain ⟨rfl, hsz, hZ, hP, hK, hD0⟩ := hv
  have hx := B.exec
  have hb := B.bytes
  have hr := B.returns
  have hts := atoms_spec (ws := wzX1_factor) B.pre
  have hown : s.vm.findClass RX1 = some m.cls := findClass_of_methodNamed B.named
  have hlocks := B.notSynchronized
  have hD := hD0.self (sz := CS.hs σ)
  generalize hAe : va_A (cW Q σ) (CS.hs σ) = A at hD ⊢
  have hA : ∀ q : Nat, s.heap.size ≤ q → A q := fun q h => by rw [← hAe]; exact Or.inr (hsz ▸ h)
  have hC : CP dC dI Q A s.heap σ s.heap [] := ⟨hP, hD, va_S.rf, hsz⟩
  have h0 : CS.hs σ ≤ CS.hs σ := Nat.le_refl _
  have hl := lv_entry ([.ref (Q.o 3)]) (n := 1) (Nat.le_of_ble_eq_true rfl)
  rw [lg_entry_eq]
  generalize (lg_sl ([.ref (Q.o 3)]) ++ List.replicate (1 - (lg_sl ([.ref (Q.o 3)])).length) Slot.unset).toArray = ls at hl ⊢
  have hl : lv_has ls 1 [(0, .ref (Q.o 3))] := hl
  unfold f_X1_factor at hf
  refine W.widen (k := CS.hs σ - CS.hs σ) (n := 17 * (CS.hs σ - CS.hs σ)) (Nat.zero_le _) (Nat.zero_le _) ?_
  refine lv_aload_n hx hb dX1_factor_0 rfl (lv_at hl 0 rfl) ?_
  refine cG_28 hx hb hts i_X1_factor_X7 hown hK hC (hts (.fieldLink RX1 18 "StatementRules2$Formulas" "tokens" "LStatementRules2$Tokens;") k_X1_factor_fieldLink_RX1_18_SR_Formulas_tokens_LSR_Tokens) (fun _ q9 => q9) dX1_factor_1 ?_
  refine cGN_43 (v := (σ.i 43)) hx hb hts i_X1_factor_X9 hown hK hC (va_Nw.use rfl (hZ.1 (.fieldLinkNest RX1 53 "StatementRules2$Tokens" "type" "I" "StatementRules2") (by decide +kernel))) (fun _ q9 => q9) dX1_factor_4 rfl ?_
  by_cases c1 : (σ.i 43) = 1
  ·
    replace hf := (if_pos c1).symm.trans hf
    refine lv_lookup (off := 49) (tgt := 56) hx hb dX1_factor_7 (by decide) (by rw [c1]; decide) (by decide) ?_
    refine lv_aload_n hx hb dX1_factor_56 rfl (lv_at hl 0 rfl) ?_
    refine cG_29 hx hb hts i_X1_factor_X7 hown hK hC (hts (.fieldLink RX1 22 "StatementRules2$Formulas" "code" "LStatementRules2$Code;") k_X1_factor_fieldLink_RX1_22_SR_Formulas_code_LSR_Code) (fun _ q9 => q9) dX1_factor_57 ?_
    refine lv_iconst (v := 0) hx hb dX1_factor_60 (by decide) ?_
    refine lv_aload_n hx hb dX1_factor_61 rfl (lv_at hl 0 rfl) ?_
    refine cG_28 hx hb hts i_X1_factor_X7 hown hK hC (hts (.fieldLink RX1 18 "StatementRules2$Formulas" "tokens" "LStatementRules2$Tokens;") k_X1_factor_fieldLink_RX1_18_SR_Formulas_tokens_LSR_Tokens) (fun _ q9 => q9) dX1_factor_62 ?_
    refine cGN_45 (v := (σ.i 45)) hx hb hts i_X1_factor_X9 hown hK hC (va_Nw.use rfl (hZ.1 (.fieldLinkNest RX1 76 "StatementRules2$Tokens" "value" "I" "StatementRules2") (by decide +kernel))) (fun _ q9 => q9) dX1_factor_65 rfl ?_
    obtain ⟨p2, hcp2, hf⟩ := hf_bind hf
    have mo3 : CS.hs σ ≤ CS.hs p2.2 := Mono.go hcp2 (m_X0_add N σ 0 (σ.i 45))
    have hr9 : CS.hs p2.2 ≤ CS.hs R.2 := Mono.go hf (mono_bind (m_X9_advance N p2.2) (fun p6 => (mono_some (Nat.le_refl _))))
    have hFc := cFree hC hA
    refine va_callv (va_runV (As := [.int 0, .int (σ.i 45)]) (rest := []) ⟨hx, hb, hml, hown, hts⟩ (c_X0_add l dC dI Q N σ 0 (σ.i 45) p2 hcp2) (cwV 2 hts hX1_factor_X0_add_v68 rfl rfl rfl (by decide +kernel) ⟨(show 2 + 1 ≤ (50 + 40 * d) by omega), (show 8 + (3 + 11) + 60 * 2 ≤ 60 * (50 + 40 * d) by omega)⟩) ⟨zPre.blind, va_recv hK hC.1 (ci := 0) (q0 := 2) rfl rfl, cPre_go hZ hK hC⟩ rfl rfl hl.1 rfl (lv_room (Nat.le_of_ble_eq_true rfl)) dX1_factor_68 (cAcc h0 mo3 hr9)) hC.2.2.1 (fun q _ h => hFc q h) hFc (fun u9 t9 H1 locs ht hvm hw hB hz1 hk1 hS => ?_)
    obtain ⟨⟨hP, hK1, hD1⟩, hsz1⟩ := hB
    rw [ht] at hP hsz1
    have hC : CP dC dI Q A s.heap p2.2 H1 locs := ⟨hP, hD1.weaken (fun _ _ _ h => hFc _ h), hS, hsz1⟩
    generalize H1 = H at hC ⊢
    have h5 : (CS.hs σ) ≤ CS.hs p2.2 := Nat.le_trans h0 mo3
    refine W.widen (k := CS.hs p2.2 - (CS.hs σ)) (n := 17 * (CS.hs p2.2 - (CS.hs σ))) (cAcc2 h0 mo3) (cAcc3 h0 mo3) ?_
    refine lv_aload_n hx hb dX1_factor_71 rfl (lv_at hl 0 rfl) ?_
    refine cG_28 hx hb hts i_X1_factor_X7 hown hK hC (hts (.fieldLink RX1 18 "StatementRules2$Formulas" "tokens" "LStatementRules2$Tokens;") k_X1_factor_fieldLink_RX1_18_SR_Formulas_tokens_LSR_Tokens) (fun _ q9 => q9) dX1_factor_72 ?_
    obtain ⟨p6, hcp6, hf⟩ := hf_bind hf
    have mo7 : CS.hs p2.2 ≤ CS.hs p6.2 := Mono.go hcp6 (m_X9_advance N p2.2)
    have hr9 : CS.hs p6.2 ≤ CS.hs R.2 := Mono.go hf (mono_some (Nat.le_refl _))
    have hFc := cFree hC hA
    refine va_callv (va_runV (As := []) (rest := []) ⟨hx, hb, hml, hown, hts⟩ (c_X9_advance l dC dI Q N p2.2 p6 hcp6) (cwV 0 hts hX1_factor_X9_advance_v56 rfl rfl rfl (by decide +kernel) ⟨(show 3 + 1 ≤ (50 + 40 * d) by omega), (show 8 + (2 + 11) + 60 * 3 ≤ 60 * (50 + 40 * d) by omega)⟩) ⟨zPre.blind, va_recv hK hC.1 (ci := 8) (q0 := 4) rfl rfl, cPre_go hZ hK hC⟩ rfl rfl hl.1 rfl (lv_room (Nat.le_of_ble_eq_true rfl)) dX1_factor_75 (cAcc h5 mo7 hr9)) hC.2.2.1 (fun q _ h => hFc q h) hFc (fun u9 t9 H1 locs ht hvm hw hB hz1 hk1 hS => ?_)
    obtain ⟨⟨hP, hK1, hD1⟩, hsz1⟩ := hB
    rw [ht] at hP hsz1
    have hC : CP dC dI Q A s.heap p6.2 H1 locs := ⟨hP, hD1.weaken (fun _ _ _ h => hFc _ h), hS, hsz1⟩
    generalize H1 = H at hC ⊢
    have h9 : (CS.hs σ) ≤ CS.hs p6.2 := Nat.le_trans h5 mo7
    refine W.widen (k := CS.hs p6.2 - (CS.hs σ)) (n := 17 * (CS.hs p6.2 - (CS.hs σ))) (cAcc2 h5 mo7) (cAcc3 h5 mo7) ?_
    refine lv_goto (tgt := 125) hx hb dX1_factor_78 (by decide) ?_
    obtain rfl := Option.some.inj hf
    exact W.vret hx hb hr (fun t ht hW => ⟨⟨(), rfl, trivial, ⟨by rw [ht]; exact hC.1, va_K.moved hW.alike hK, hC.2.1⟩, by rw [ht]; exact hC.2.2.2⟩, hC.2.2.1.F ht⟩) hC.2.2.1.2.2 dX1_factor_125
  replace hf := (if_neg c1).symm.trans hf
  by_cases c10 : (σ.i 43) = 2
  ·
    replace hf := (if_pos c10).symm.trans hf
    refine lv_lookup (off := 74) (tgt := 81) hx hb dX1_factor_7 (by decide) (by rw [c10]; decide) (by decide) ?_
    refine lv_aload_n hx hb dX1_factor_81 rfl (lv_at hl 0 rfl) ?_
    obtain ⟨p11, hcp11, hf⟩ := hf_bind hf
    have mo12 : CS.hs σ ≤ CS.hs p11.2 := Mono.go hcp11 (m_X1_loadName N σ)
    have hr9 : CS.hs p11.2 ≤ CS.hs R.2 := Mono.go hf (mono_some (Nat.le_refl _))
    have hFc := cFree hC hA
    refine va_callv (va_runU (As := []) (rest := []) ⟨hx, hb, hml, hown, hts⟩ (c_X1_loadName l dC dI Q N σ p11 hcp11) (va_cwU 0 hts hX1_factor_X1_loadName_u79 rfl rfl rfl rfl (by decide +kernel) ⟨(show 4 + 1 ≤ (50 + 40 * d) by omega), (show 8 + (2 + 11) + 60 * 4 ≤ 60 * (50 + 40 * d) by omega)⟩) ⟨zPre.blind, va_recv hK hC.1 (ci := 6) (q0 := 3) rfl rfl, cPre_go hZ hK hC⟩ rfl rfl hl.1 rfl (lv_room (Nat.le_of_ble_eq_true rfl)) dX1_factor_82 (cAcc h0 mo12 hr9)) hC.2.2.1 (fun q _ h => hFc q h) hFc (fun u9 t9 H1 locs ht hvm hw hB hz1 hk1 hS => ?_)
    obtain ⟨⟨hP, hK1, hD1⟩, hsz1⟩ := hB
    rw [ht] at hP hsz1
    have hC : CP dC dI Q A s.heap p11.2 H1 locs := ⟨hP, hD1.weaken (fun _ _ _ h => hFc _ h), hS, hsz1⟩
    generalize H1 = H at hC ⊢
    have h14 : (CS.hs σ) ≤ CS.hs p11.2 := Nat.le_trans h0 mo12
    refine W.widen (k := CS.hs p11.2 - (CS.hs σ)) (n := 17 * (CS.hs p11.2 - (CS.hs σ))) (cAcc2 h0 mo12) (cAcc3 h0 mo12) ?_
    refine lv_goto (tgt := 125) hx hb dX1_factor_85 (by decide) ?_
    obtain rfl := Option.some.inj hf
    exact W.vret hx hb hr (fun t ht hW => ⟨⟨(), rfl, trivial, ⟨by rw [ht]; exact hC.1, va_K.moved hW.alike hK, hC.2.1⟩, by rw [ht]; exact hC.2.2.2⟩, hC.2.2.1.F ht⟩) hC.2.2.1.2.2 dX1_factor_125
  replace hf := (if_neg c10).symm.trans hf
  by_cases c15 : (σ.i 43) = 40
  ·
    replace hf := (if_pos c15).symm.trans hf
    refine lv_lookup (off := 88) (tgt := 95) hx hb dX1_factor_7 (by decide) (by rw [c15]; decide) (by decide) ?_
    refine lv_aload_n hx hb dX1_factor_95 rfl (lv_at hl 0 rfl) ?_
    refine lv_bipush (v := 40) hx hb dX1_factor_96 (by decide) ?_
    obtain ⟨p16, hcp16, hf⟩ := hf_bind hf
    have mo17 : CS.hs σ ≤ CS.hs p16.2 := Mono.go hcp16 (m_X1_open N σ 40)
    have hr9 : CS.hs p16.2 ≤ CS.hs R.2 := Mono.go hf (mono_bind (m_X1_expression N E1 E2 hm1 hm2 p16.2) (fun p20 => (mono_bind (m_X1_close N p20.2 41) (fun p24 => (mono_some (Nat.le_refl _))))))
    have hFc := cFree hC hA
    refine va_callv (va_runU (As := [.int 40]) (rest := []) ⟨hx, hb, hml, hown, hts⟩ (c_X1_open l dC dI Q N σ 40 p16 hcp16) (va_cwU 1 hts hX1_factor_X1_open_u85 rfl rfl rfl rfl (by decide +kernel) ⟨(show 4 + 1 ≤ (50 + 40 * d) by omega), (show 8 + (2 + 11) + 60 * 4 ≤ 60 * (50 + 40 * d) by omega)⟩) ⟨zPre.blind, va_recv hK hC.1 (ci := 6) (q0 := 3) rfl rfl, cPre_go hZ hK hC⟩ rfl rfl hl.1 rfl (lv_room (Nat.le_of_ble_eq_true rfl)) dX1_factor_98 (cAcc h0 mo17 hr9)) hC.2.2.1 (fun q _ h => hFc q h) hFc (fun u9 t9 H1 locs ht hvm hw hB hz1 hk1 hS => ?_)
    obtain ⟨⟨hP, hK1, hD1⟩, hsz1⟩ := hB
    rw [ht] at hP hsz1
    have hC : CP dC dI Q A s.heap p16.2 H1 locs := ⟨hP, hD1.weaken (fun _ _ _ h => hFc _ h), hS, hsz1⟩
    generalize H1 = H at hC ⊢
    have h19 : (CS.hs σ) ≤ CS.hs p16.2 := Nat.le_trans h0 mo17
    refine W.widen (k := CS.hs p16.2 - (CS.hs σ)) (n := 17 * (CS.hs p16.2 - (CS.hs σ))) (cAcc2 h0 mo17) (cAcc3 h0 mo17) ?_
    refine lv_aload_n hx hb dX1_factor_101 rfl (lv_at hl 0 rfl) ?_
    obtain ⟨p20, hcp20, hf⟩ := hf_bind hf
    have mo21 : CS.hs p16.2 ≤ CS.hs p20.2 := Mono.go hcp20 (m_X1_expression N E1 E2 hm1 hm2 p16.2)
    have hr9 : CS.hs p20.2 ≤ CS.hs R.2 := Mono.go hf (mono_bind (m_X1_close N p20.2 41) (fun p24 => (mono_some (Nat.le_refl _))))
    have hFc := cFree hC hA
    refine va_callv (va_runU (As := []) (rest := []) ⟨hx, hb, hml, hown, hts⟩ (c_X1_expression l dC dI Q N d E1 E2 hE1 hE2 hm1 hm2 p16.2 p20 hcp20) (va_cwU 0 hts hX1_factor_X1_expression_u89 rfl rfl rfl rfl (by decide +kernel) ⟨(show (12 + 40 * d) + 1 ≤ (50 + 40 * d) by omega), (show 8 + (3 + 11) + 60 * (12 + 40 * d) ≤ 60 * (50 + 40 * d) by omega)⟩) ⟨zPre.blind, va_recv hK hC.1 (ci := 6) (q0 := 3) rfl rfl, cPre_go hZ hK hC⟩ rfl rfl hl.1 rfl (lv_room (Nat.le_of_ble_eq_true rfl)) dX1_factor_102 (cAcc h19 mo21 hr9)) hC.2.2.1 (fun q _ h => hFc q h) hFc (fun u9 t9 H1 locs ht hvm hw hB hz1 hk1 hS => ?_)
    obtain ⟨⟨hP, hK1, hD1⟩, hsz1⟩ := hB
    rw [ht] at hP hsz1
    have hC : CP dC dI Q A s.heap p20.2 H1 locs := ⟨hP, hD1.weaken (fun _ _ _ h => hFc _ h), hS, hsz1⟩
    generalize H1 = H at hC ⊢
    have h23 : (CS.hs σ) ≤ CS.hs p20.2 := Nat.le_trans h19 mo21
    refine W.widen (k := CS.hs p20.2 - (CS.hs σ)) (n := 17 * (CS.hs p20.2 - (CS.hs σ))) (cAcc2 h19 mo21) (cAcc3 h19 mo21) ?_
    refine lv_aload_n hx hb dX1_factor_105 rfl (lv_at hl 0 rfl) ?_
    refine lv_bipush (v := 41) hx hb dX1_factor_106 (by decide) ?_
    obtain ⟨p24, hcp24, hf⟩ := hf_bind hf
    have mo25 : CS.hs p20.2 ≤ CS.hs p24.2 := Mono.go hcp24 (m_X1_close N p20.2 41)
    have hr9 : CS.hs p24.2 ≤ CS.hs R.2 := Mono.go hf (mono_some (Nat.le_refl _))
    have hFc := cFree hC hA
    refine va_callv (va_runU (As := [.int 41]) (rest := []) ⟨hx, hb, hml, hown, hts⟩ (c_X1_close l dC dI Q N p20.2 41 p24 hcp24) (va_cwU 1 hts hX1_factor_X1_close_u92 rfl rfl rfl rfl (by decide +kernel) ⟨(show 4 + 1 ≤ (50 + 40 * d) by omega), (show 8 + (2 + 11) + 60 * 4 ≤ 60 * (50 + 40 * d) by omega)⟩) ⟨zPre.blind, va_recv hK hC.1 (ci := 6) (q0 := 3) rfl rfl, cPre_go hZ hK hC⟩ rfl rfl hl.1 rfl (lv_room (Nat.le_of_ble_eq_true rfl)) dX1_factor_108 (cAcc h23 mo25 hr9)) hC.2.2.1 (fun q _ h => hFc q h) hFc (fun u9 t9 H1 locs ht hvm hw hB hz1 hk1 hS => ?_)
    obtain ⟨⟨hP, hK1, hD1⟩, hsz1⟩ := hB
    rw [ht] at hP hsz1
    have hC : CP dC dI Q A s.heap p24.2 H1 locs := ⟨hP, hD1.weaken (fun _ _ _ h => hFc _ h), hS, hsz1⟩
    generalize H1 = H at hC ⊢
    have h27 : (CS.hs σ) ≤ CS.hs p24.2 := Nat.le_trans h23 mo25
    refine W.widen (k := CS.hs p24.2 - (CS.hs σ)) (n := 17 * (CS.hs p24.2 - (CS.hs σ))) (cAcc2 h23 mo25) (cAcc3 h23 mo25) ?_
    refine lv_goto (tgt := 125) hx hb dX1_factor_111 (by decide) ?_
    obtain rfl := Option.some.inj hf
    exact W.vret hx hb hr (fun t ht hW => ⟨⟨(), rfl, trivial, ⟨by rw [ht]; exact hC.1, va_K.moved hW.alike hK, hC.2.1⟩, by rw [ht]; exact hC.2.2.2⟩, hC.2.2.1.F ht⟩) hC.2.2.1.2.2 dX1_factor_125
  replace hf := (if_neg c15).symm.trans hf
  by_cases c28 : (σ.i 43) = 45
  ·
    replace hf := (if_pos c28).symm.trans hf
    refine lv_lookup (off := 81) (tgt := 88) hx hb dX1_factor_7 (by decide) (by rw [c28]; decide) (by decide) ?_
    refine lv_aload_n hx hb dX1_factor_88 rfl (lv_at hl 0 rfl) ?_
    obtain ⟨p29, hcp29, hf⟩ := hf_bind hf
    have mo30 : CS.hs σ ≤ CS.hs p29.2 := Mono.go hcp29 (m_X1_negated N E1 E2 hm1 hm2 σ)
    have hr9 : CS.hs p29.2 ≤ CS.hs R.2 := Mono.go hf (mono_some (Nat.le_refl _))
    have hFc := cFree hC hA
    refine va_callv (va_runU (As := []) (rest := []) ⟨hx, hb, hml, hown, hts⟩ (c_X1_negated l dC dI Q N d E1 E2 hE1 hE2 hm1 hm2 σ p29 hcp29) (va_cwU 0 hts hX1_factor_X1_negated_u82 rfl rfl rfl rfl (by decide +kernel) ⟨(show (11 + 40 * d) + 1 ≤ (50 + 40 * d) by omega), (show 8 + (1 + 11) + 60 * (11 + 40 * d) ≤ 60 * (50 + 40 * d) by omega)⟩) ⟨zPre.blind, va_recv hK hC.1 (ci := 6) (q0 := 3) rfl rfl, cPre_go hZ hK hC⟩ rfl rfl hl.1 rfl (lv_room (Nat.le_of_ble_eq_true rfl)) dX1_factor_89 (cAcc h0 mo30 hr9)) hC.2.2.1 (fun q _ h => hFc q h) hFc (fun u9 t9 H1 locs ht hvm hw hB hz1 hk1 hS => ?_)
    obtain ⟨⟨hP, hK1, hD1⟩, hsz1⟩ := hB
    rw [ht] at hP hsz1
    have hC : CP dC dI Q A s.heap p29.2 H1 locs := ⟨hP, hD1.weaken (fun _ _ _ h => hFc _ h), hS, hsz1⟩
    generalize H1 = H at hC ⊢
    have h32 : (CS.hs σ) ≤ CS.hs p29.2 := Nat.le_trans h0 mo30
    refine W.widen (k := CS.hs p29.2 - (CS.hs σ)) (n := 17 * (CS.hs p29.2 - (CS.hs σ))) (cAcc2 h0 mo30) (cAcc3 h0 mo30) ?_
    refine lv_goto (tgt := 125) hx hb dX1_factor_92 (by decide) ?_
    obtain rfl := Option.some.inj hf
    exact W.vret hx hb hr (fun t ht hW => ⟨⟨(), rfl, trivial, ⟨by rw [ht]; exact hC.1, va_K.moved hW.alike hK, hC.2.1⟩, by rw [ht]; exact hC.2.2.2⟩, hC.2.2.1.F ht⟩) hC.2.2.1.2.2 dX1_factor_125
  replace hf := (if_neg c28).symm.trans hf
  by_cases c33 : (σ.i 43) = 218
  ·
    replace hf := (if_pos c33).symm.trans hf
    refine lv_lookup (off := 107) (tgt := 114) hx hb dX1_factor_7 (by decide) (by rw [c33]; decide) (by decide) ?_
    refine lv_aload_n hx hb dX1_factor_114 rfl (lv_at hl 0 rfl) ?_
    obtain ⟨p34, hcp34, hf⟩ := hf_bind hf
    have mo35 : CS.hs σ ≤ CS.hs p34.2 := Mono.go hcp34 (m_X1_choice N E1 E2 hm1 hm2 σ)
    have hr9 : CS.hs p34.2 ≤ CS.hs R.2 := Mono.go hf (mono_some (Nat.le_refl _))
    have hFc := cFree hC hA
    refine va_callv (va_runU (As := []) (rest := []) ⟨hx, hb, hml, hown, hts⟩ (c_X1_choice l dC dI Q N d E1 E2 hE1 hE2 hm1 hm2 σ p34 hcp34) (va_cwU 0 hts hX1_factor_X1_choice_u95 rfl rfl rfl rfl (by decide +kernel) ⟨(show (24 + 40 * d) + 1 ≤ (50 + 40 * d) by omega), (show 8 + (6 + 11) + 60 * (24 + 40 * d) ≤ 60 * (50 + 40 * d) by omega)⟩) ⟨zPre.blind, va_recv hK hC.1 (ci := 6) (q0 := 3) rfl rfl, cPre_go hZ hK hC⟩ rfl rfl hl.1 rfl (lv_room (Nat.le_of_ble_eq_true rfl)) dX1_factor_115 (cAcc h0 mo35 hr9)) hC.2.2.1 (fun q _ h => hFc q h) hFc (fun u9 t9 H1 locs ht hvm hw hB hz1 hk1 hS => ?_)
    obtain ⟨⟨hP, hK1, hD1⟩, hsz1⟩ := hB
    rw [ht] at hP hsz1
    have hC : CP dC dI Q A s.heap p34.2 H1 locs := ⟨hP, hD1.weaken (fun _ _ _ h => hFc _ h), hS, hsz1⟩
    generalize H1 = H at hC ⊢
    have h37 : (CS.hs σ) ≤ CS.hs p34.2 := Nat.le_trans h0 mo35
    refine W.widen (k := CS.hs p34.2 - (CS.hs σ)) (n := 17 * (CS.hs p34.2 - (CS.hs σ))) (cAcc2 h0 mo35) (cAcc3 h0 mo35) ?_
    refine lv_goto (tgt := 125) hx hb dX1_factor_118 (by decide) ?_
    obtain rfl := Option.some.inj hf
    exact W.vret hx hb hr (fun t ht hW => ⟨⟨(), rfl, trivial, ⟨by rw [ht]; exact hC.1, va_K.moved hW.alike hK, hC.2.1⟩, by rw [ht]; exact hC.2.2.2⟩, hC.2.2.1.F ht⟩) hC.2.2.1.2.2 dX1_factor_125
  replace hf := (if_neg c33).symm.trans hf
  refine lv_lookup (off := 114) (tgt := 121) hx hb dX1_factor_7 (by decide) (by show Op.lookupswitch.offset [(1, 49), (2, 74), (40, 88), (45, 81), (218, 107)] 114 ((σ.i 43) : Int32).toInt = 114; rw [lv_osw (k := 1) (a := 1) c1 (by decide), lv_osw (k := 2) (a := 2) c10 (by decide), lv_osw (k := 40) (a := 40) c15 (by decide), lv_osw (k := 45) (a := 45) c28 (by decide), lv_osw (k := 218) (a := 218) c33 (by decide)]; rfl) (by decide) ?_
  refine lv_aload_n hx hb dX1_factor_121 rfl (lv_at hl 0 rfl) ?_
  obtain ⟨p38, hcp38, hf⟩ := hf_bind hf
  have mo39 : CS.hs σ ≤ CS.hs p38.2 := Mono.go hcp38 (m_X1_misplaced N σ)
  have hr9 : CS.hs p38.2 ≤ CS.hs R.2 := Mono.go hf (mono_some (Nat.le_refl _))
  have hFc := cFree hC hA
  refine va_callv (va_runU (As := []) (rest := []) ⟨hx, hb, hml, hown, hts⟩ (c_X1_misplaced l dC dI Q N σ p38 hcp38) (va_cwU 0 hts hX1_factor_X1_misplaced_u59 rfl rfl rfl rfl (by decide +kernel) ⟨(show 3 + 1 ≤ (50 + 40 * d) by omega), (show 8 + (1 + 11) + 60 * 3 ≤ 60 * (50 + 40 * d) by omega)⟩) ⟨zPre.blind, va_recv hK hC.1 (ci := 6) (q0 := 3) rfl rfl, cPre_go hZ hK hC⟩ rfl rfl hl.1 rfl (lv_room (Nat.le_of_ble_eq_true rfl)) dX1_factor_122 (cAcc h0 mo39 hr9)) hC.2.2.1 (fun q _ h => hFc q h) hFc (fun u9 t9 H1 locs ht hvm hw hB hz1 hk1 hS => ?_)
  obtain ⟨⟨hP, hK1, hD1⟩, hsz1⟩ := hB
  rw [ht] at hP hsz1
  have hC : CP dC dI Q A s.heap p38.2 H1 locs := ⟨hP, hD1.weaken (fun _ _ _ h => hFc _ h), hS, hsz1⟩
  generalize H1 = H at hC ⊢
  have h41 : (CS.hs σ) ≤ CS.hs p38.2 := Nat.le_trans h0 mo39
  refine W.widen (k := CS.hs p38.2 - (CS.hs σ)) (n := 17 * (CS.hs p38.2 - (CS.hs σ))) (cAcc2 h0 mo39) (cAcc3 h0 mo39) ?_
  obtain rfl := Option.some.inj hf
  exact W.vret hx hb hr (fun t ht hW => ⟨⟨(), rfl, trivial, ⟨by rw [ht]; exact hC.1, va_K.moved hW.alike hK, hC.2.1⟩, by rw [ht]; exact hC.2.2.2⟩, hC.2.2.1.F ht⟩) hC.2.2.1.2.2 dX1_factor_125
set_option maxHeartbeats 4000000 in
set_option maxRecDepth 100000 in
theorem c_X1_comparing (l : Launch) (dC : Nat → ClassId) (dI : Nat → Nat → Nat) (Q : CQ) (N : Nat) (σ : CS) (x0 : Int32) (R : Int32 × CS) (hf : f_X1_comparing N σ x0 = some R) : Met l yX1_comparing wzX1_comparing ({ frames := 1, cells := CS.hs R.2 - CS.hs σ, slots := 17 * (CS.hs R.2 - CS.hs σ), locals := 60 * 1 }) (va_Pc [.int x0] (zPre dC dI (CS.hs σ) (cW Q σ) (cT Q))) (va_Qi (fun (r : Int32) (_ : Unit) => r = R.1) (fun (_ : Unit) (t : State) => zPost dC dI (va_A (cW Q σ) (CS.hs σ)) (cW Q R.2) (cT Q) t ∧ t.heap.size = CS.hs R.2) (va_A (cW Q σ) (CS.hs σ))) (CS.hs R.2 - CS.hs σ) (17 * (CS.hs R.2 - CS.hs σ)) (va_A (cW Q σ) (CS.hs σ)) := by
  refine Met.ofW (cc := cX1_comparing) (maxL := 1) (ret := (some .int)) (by decide) rfl ?_
  intro p e s m args below meth c s₁ B hml hv
  obtain ⟨rfl, hsz, hZ, hP, hK, hD0⟩ := hv
  have hx := B.exec
  have hb := B.bytes
  have hr := B.returns
  have hts := atoms_spec (ws := wzX1_comparing) B.pre
  have hown : s.vm.findClass RX1 = some m.cls := findClass_of_methodNamed B.named
  have hlocks := B.notSynchronized
  have hD := hD0.self (sz := CS.hs σ)
  generalize hAe : va_A (cW Q σ) (CS.hs σ) = A at hD ⊢
  have hA : ∀ q : Nat, s.heap.size ≤ q → A q := fun q h => by rw [← hAe]; exact Or.inr (hsz ▸ h)
  have hC : CP dC dI Q A s.heap σ s.heap [] := ⟨hP, hD, va_S.rf, hsz⟩
  have h0 : CS.hs σ ≤ CS.hs σ := Nat.le_refl _
  have hl := lv_entry ([.int x0]) (n := 1) (Nat.le_of_ble_eq_true rfl)
  rw [lg_entry_eq]
  generalize (lg_sl ([.int x0]) ++ List.replicate (1 - (lg_sl ([.int x0])).length) Slot.unset).toArray = ls at hl ⊢
  have hl : lv_has ls 1 [(0, .int x0)] := hl
  unfold f_X1_comparing at hf
  refine W.widen (k := CS.hs σ - CS.hs σ) (n := 17 * (CS.hs σ - CS.hs σ)) (Nat.zero_le _) (Nat.zero_le _) ?_
  refine lv_iload_n hx hb dX1_comparing_0 rfl (lv_at hl 0 rfl) ?_
  by_cases c1 : x0 = 60
  ·
    replace hf := (if_pos c1).symm.trans hf
    refine lv_lookup (off := 59) (tgt := 60) hx hb dX1_comparing_1 (by decide) (by rw [c1]; decide) (by decide) ?_
    refine lv_bipush (v := 12) hx hb dX1_comparing_60 (by decide) ?_
    obtain rfl := Option.some.inj hf
    exact W.iret (v := 12) hx hb hr (fun t ht hW => ⟨⟨12, (), rfl, rfl, ⟨by rw [ht]; exact hC.1, va_K.moved hW.alike hK, hC.2.1⟩, by rw [ht]; exact hC.2.2.2⟩, hC.2.2.1.F ht⟩) hC.2.2.1.2.2 dX1_comparing_62
  replace hf := (if_neg c1).symm.trans hf
  by_cases c2 : x0 = 62
  ·
    replace hf := (if_pos c2).symm.trans hf
    refine lv_lookup (off := 65) (tgt := 66) hx hb dX1_comparing_1 (by decide) (by rw [c2]; decide) (by decide) ?_
    refine lv_bipush (v := 14) hx hb dX1_comparing_66 (by decide) ?_
    obtain rfl := Option.some.inj hf
    exact W.iret (v := 14) hx hb hr (fun t ht hW => ⟨⟨14, (), rfl, rfl, ⟨by rw [ht]; exact hC.1, va_K.moved hW.alike hK, hC.2.1⟩, by rw [ht]; exact hC.2.2.2⟩, hC.2.2.1.F ht⟩) hC.2.2.1.2.2 dX1_comparing_68
  replace hf := (if_neg c2).symm.trans hf
  by_cases c3 : x0 = 128
  ·
    replace hf := (if_pos c3).symm.trans hf
    refine lv_lookup (off := 62) (tgt := 63) hx hb dX1_comparing_1 (by decide) (by rw [c3]; decide) (by decide) ?_
    refine lv_bipush (v := 13) hx hb dX1_comparing_63 (by decide) ?_
    obtain rfl := Option.some.inj hf
    exact W.iret (v := 13) hx hb hr (fun t ht hW => ⟨⟨13, (), rfl, rfl, ⟨by rw [ht]; exact hC.1, va_K.moved hW.alike hK, hC.2.1⟩, by rw [ht]; exact hC.2.2.2⟩, hC.2.2.1.F ht⟩) hC.2.2.1.2.2 dX1_comparing_65
  replace hf := (if_neg c3).symm.trans hf
  by_cases c4 : x0 = 129
  ·
    replace hf := (if_pos c4).symm.trans hf
    refine lv_lookup (off := 68) (tgt := 69) hx hb dX1_comparing_1 (by decide) (by rw [c4]; decide) (by decide) ?_
    refine lv_bipush (v := 15) hx hb dX1_comparing_69 (by decide) ?_
    obtain rfl := Option.some.inj hf
    exact W.iret (v := 15) hx hb hr (fun t ht hW => ⟨⟨15, (), rfl, rfl, ⟨by rw [ht]; exact hC.1, va_K.moved hW.alike hK, hC.2.1⟩, by rw [ht]; exact hC.2.2.2⟩, hC.2.2.1.F ht⟩) hC.2.2.1.2.2 dX1_comparing_71
  replace hf := (if_neg c4).symm.trans hf
  by_cases c5 : x0 = 130
  ·
    replace hf := (if_pos c5).symm.trans hf
    refine lv_lookup (off := 71) (tgt := 72) hx hb dX1_comparing_1 (by decide) (by rw [c5]; decide) (by decide) ?_
    refine lv_bipush (v := 16) hx hb dX1_comparing_72 (by decide) ?_
    obtain rfl := Option.some.inj hf
    exact W.iret (v := 16) hx hb hr (fun t ht hW => ⟨⟨16, (), rfl, rfl, ⟨by rw [ht]; exact hC.1, va_K.moved hW.alike hK, hC.2.1⟩, by rw [ht]; exact hC.2.2.2⟩, hC.2.2.1.F ht⟩) hC.2.2.1.2.2 dX1_comparing_74
  replace hf := (if_neg c5).symm.trans hf
  by_cases c6 : x0 = 131
  ·
    replace hf := (if_pos c6).symm.trans hf
    refine lv_lookup (off := 74) (tgt := 75) hx hb dX1_comparing_1 (by decide) (by rw [c6]; decide) (by decide) ?_
    refine lv_bipush (v := 17) hx hb dX1_comparing_75 (by decide) ?_
    obtain rfl := Option.some.inj hf
    exact W.iret (v := 17) hx hb hr (fun t ht hW => ⟨⟨17, (), rfl, rfl, ⟨by rw [ht]; exact hC.1, va_K.moved hW.alike hK, hC.2.1⟩, by rw [ht]; exact hC.2.2.2⟩, hC.2.2.1.F ht⟩) hC.2.2.1.2.2 dX1_comparing_77
  replace hf := (if_neg c6).symm.trans hf
  refine lv_lookup (off := 77) (tgt := 78) hx hb dX1_comparing_1 (by decide) (by show Op.lookupswitch.offset [(60, 59), (62, 65), (128, 62), (129, 68), (130, 71), (131, 74)] 77 (x0 : Int32).toInt = 77; rw [lv_osw (k := 60) (a := 60) c1 (by decide), lv_osw (k := 62) (a := 62) c2 (by decide), lv_osw (k := 128) (a := 128) c3 (by decide), lv_osw (k := 129) (a := 129) c4 (by decide), lv_osw (k := 130) (a := 130) c5 (by decide), lv_osw (k := 131) (a := 131) c6 (by decide)]; rfl) (by decide) ?_
  refine lv_iconst (v := (-1)) hx hb dX1_comparing_78 (by decide) ?_
  obtain rfl := Option.some.inj hf
  exact W.iret (v := (-1)) hx hb hr (fun t ht hW => ⟨⟨(-1), (), rfl, rfl, ⟨by rw [ht]; exact hC.1, va_K.moved hW.alike hK, hC.2.1⟩, by rw [ht]; exact hC.2.2.2⟩, hC.2.2.1.F ht⟩) hC.2.2.1.2.2 dX1_comparing_79
theorem k_X1_comparison_fieldLink_RX1_18_SR_Formulas_tokens_LSR_Tokens : Cond.fieldLink RX1 18 "StatementRules2$Formulas" "tokens" "LStatementRules2$Tokens;" ∈ wzX1_comparison := List.mem_cons_of_mem _ (List.mem_append_right _ (List.mem_append_right _ (List.mem_append_right _ (List.mem_append_left _ (List.mem_of_getElem? (i := 0) rfl)))))
theorem i_X1_comparison_X7 : ∀ w ∈ wsX70, w ∈ wzX1_comparison := fun _ h => List.mem_cons_of_mem _ (List.mem_append_right _ (List.mem_append_right _ (List.mem_append_right _ (List.mem_append_right _ (List.mem_append_right _ (List.mem_append_right _ (List.mem_append_right _ (List.mem_append_right _ (List.mem_append_right _ (List.mem_append_right _ (List.mem_append_right _ (List.mem_append_right _ (List.mem_append_right _ (List.mem_append_right _ (List.mem_append_right _ (List.mem_append_right _ (List.mem_append_right _ (List.mem_append_right _ (List.mem_append_right _ (List.mem_append_right _ (List.mem_append_right _ (List.mem_append_right _ (List.mem_append_right _ (List.mem_append_right _ (List.mem_append_right _ (List.mem_append_right _ (List.mem_append_right _ (List.mem_append_right _ (List.mem_append_right _ (List.mem_append_right _ (List.mem_append_right _ (List.mem_append_right _ (List.mem_append_right _ (List.mem_append_right _ (List.mem_append_right _ (List.mem_append_right _ (List.mem_append_left _ (h))))))))))))))))))))))))))))))))))))))
theorem i_X1_comparison_X9 : ∀ w ∈ wsX90, w ∈ wzX1_comparison := fun _ h => List.mem_cons_of_mem _ (List.mem_append_right _ (List.mem_append_right _ (List.mem_append_right _ (List.mem_append_right _ (List.mem_append_right _ (List.mem_append_right _ (List.mem_append_right _ (List.mem_append_right _ (List.mem_append_right _ (List.mem_append_right _ (List.mem_append_right _ (List.mem_append_right _ (List.mem_append_right _ (List.mem_append_right _ (List.mem_append_right _ (List.mem_append_right _ (List.mem_append_right _ (List.mem_append_right _ (List.mem_append_right _ (List.mem_append_right _ (List.mem_append_right _ (List.mem_append_right _ (List.mem_append_right _ (List.mem_append_right _ (List.mem_append_right _ (List.mem_append_right _ (List.mem_append_right _ (List.mem_append_right _ (List.mem_append_right _ (List.mem_append_right _ (List.mem_append_right _ (List.mem_append_right _ (List.mem_append_right _ (List.mem_append_right _ (List.mem_append_right _ (List.mem_append_right _ (List.mem_append_right _ (List.mem_append_left _ (h)))))))))))))))))))))))))))))))))))))))
theorem k_X1_comparison_fieldLink_RX1_22_SR_Formulas_code_LSR_Code : Cond.fieldLink RX1 22 "StatementRules2$Formulas" "code" "LStatementRules2$Code;" ∈ wzX1_comparison := List.mem_cons_of_mem _ (List.mem_append_right _ (List.mem_append_right _ (List.mem_append_right _ (List.mem_append_left _ (List.mem_of_getElem? (i := 1) rfl)))))
set_option maxHeartbeats 4000000 in
set_option maxRecDepth 100000 in
theorem c_X1_comparison (l : Launch) (dC : Nat → ClassId) (dI : Nat → Nat → Nat) (Q : CQ) (N : Nat) (d : Nat) (E1 : CS → Option (Unit × CS)) (E2 : CS → Option (Int32 × CS)) (hE1 : cMF l dC dI Q d E1) (hE2 : cMO l dC dI Q d E2) (hm1 : ∀ σ, Mono (CS.hs σ) (E1 σ)) (hm2 : ∀ σ, Mono (CS.hs σ) (E2 σ)) (σ : CS) (R : Unit × CS) (hf : f_X1_comparison N E1 E2 σ = some R) : Met l yX1_comparison wzX1_comparison ({ frames := (13 + 40 * d), cells := CS.hs R.2 - CS.hs σ, slots := 17 * (CS.hs R.2 - CS.hs σ), locals := 60 * (13 + 40 * d) }) (va_Pc [.ref (Q.o 3)] (zPre dC dI (CS.hs σ) (cW Q σ) (cT Q))) (va_Qv (fun (_ : Unit) => True) (fun (_ : Unit) (t : State) => zPost dC dI (va_A (cW Q σ) (CS.hs σ)) (cW Q R.2) (cT Q) t ∧ t.heap.size = CS.hs R.2) (va_A (cW Q σ) (CS.hs σ))) (CS.hs R.2 - CS.hs σ) (17 * (CS.hs R.2 - CS.hs σ)) (va_A (cW Q σ) (CS.hs σ)) := by
  refine Met.ofW (cc := cX1_comparison) (maxL := 2) (ret := none) (by decide) rfl ?_
  intro p e s m args below meth c s₁ B hml hv
  obtain ⟨rfl, hsz, hZ, hP, hK, hD0⟩ := hv
  have hx := B.exec
  have hb := B.bytes
  have hr := B.returns
  have hts := atoms_spec (ws := wzX1_comparison) B.pre
  have hown : s.vm.findClass RX1 = some m.cls := findClass_of_methodNamed B.named
  have hlocks := B.notSynchronized
  have hD := hD0.self (sz := CS.hs σ)
  generalize hAe : va_A (cW Q σ) (CS.hs σ) = A at hD ⊢
  have hA : ∀ q : Nat, s.heap.size ≤ q → A q := fun q h => by rw [← hAe]; exact Or.inr (hsz ▸ h)
  have hC : CP dC dI Q A s.heap σ s.heap [] := ⟨hP, hD, va_S.rf, hsz⟩
  have h0 : CS.hs σ ≤ CS.hs σ := Nat.le_refl _
  have hl := lv_entry ([.ref (Q.o 3)]) (n := 2) (Nat.le_of_ble_eq_true rfl)
  rw [lg_entry_eq]
  generalize (lg_sl ([.ref (Q.o 3)]) ++ List.replicate (2 - (lg_sl ([.ref (Q.o 3)])).length) Slot.unset).toArray = ls at hl ⊢
  have hl : lv_has ls 2 [(0, .ref (Q.o 3))] := hl
  unfold f_X1_comparison at hf
  refine W.widen (k := CS.hs σ - CS.hs σ) (n := 17 * (CS.hs σ - CS.hs σ)) (Nat.zero_le _) (Nat.zero_le _) ?_
  refine lv_aload_n hx hb dX1_comparison_0 rfl (lv_at hl 0 rfl) ?_
  obtain ⟨p1, hcp1, hf⟩ := hf_bind hf
  have mo2 : CS.hs σ ≤ CS.hs p1.2 := Mono.go hcp1 (m_X1_expression N E1 E2 hm1 hm2 σ)
  have hr9 : CS.hs p1.2 ≤ CS.hs R.2 := Mono.go hf (mono_bind (m_X1_comparing N p1.2 (p1.2.i 43)) (fun p5 => (mono_ite (mono_bind (m_X9_advance N p5.2) (fun p10 => (mono_bind (m_X1_expression N E1 E2 hm1 hm2 p10.2) (fun p14 => (mono_bind (m_X0_add N p14.2 p5.1 0) (fun p18 => (mono_some (Nat.le_refl _)))))))) (mono_bind (m_X1_misplaced N p5.2) (fun p22 => (mono_some (Nat.le_refl _)))))))
  have hFc := cFree hC hA
  refine va_callv (va_runU (As := []) (rest := []) ⟨hx, hb, hml, hown, hts⟩ (c_X1_expression l dC dI Q N d E1 E2 hE1 hE2 hm1 hm2 σ p1 hcp1) (va_cwU 0 hts hX1_comparison_X1_expression_u89 rfl rfl rfl rfl (by decide +kernel) ⟨(show (12 + 40 * d) + 1 ≤ (13 + 40 * d) by omega), (show 8 + (3 + 11) + 60 * (12 + 40 * d) ≤ 60 * (13 + 40 * d) by omega)⟩) ⟨zPre.blind, va_recv hK hC.1 (ci := 6) (q0 := 3) rfl rfl, cPre_go hZ hK hC⟩ rfl rfl hl.1 rfl (lv_room (Nat.le_of_ble_eq_true rfl)) dX1_comparison_1 (cAcc h0 mo2 hr9)) hC.2.2.1 (fun q _ h => hFc q h) hFc (fun u9 t9 H1 locs ht hvm hw hB hz1 hk1 hS => ?_)
  obtain ⟨⟨hP, hK1, hD1⟩, hsz1⟩ := hB
  rw [ht] at hP hsz1
  have hC : CP dC dI Q A s.heap p1.2 H1 locs := ⟨hP, hD1.weaken (fun _ _ _ h => hFc _ h), hS, hsz1⟩
  generalize H1 = H at hC ⊢
  have h4 : (CS.hs σ) ≤ CS.hs p1.2 := Nat.le_trans h0 mo2
  refine W.widen (k := CS.hs p1.2 - (CS.hs σ)) (n := 17 * (CS.hs p1.2 - (CS.hs σ))) (cAcc2 h0 mo2) (cAcc3 h0 mo2) ?_
  refine lv_aload_n hx hb dX1_comparison_4 rfl (lv_at hl 0 rfl) ?_
  refine cG_28 hx hb hts i_X1_comparison_X7 hown hK hC (hts (.fieldLink RX1 18 "StatementRules2$Formulas" "tokens" "LStatementRules2$Tokens;") k_X1_comparison_fieldLink_RX1_18_SR_Formulas_tokens_LSR_Tokens) (fun _ q9 => q9) dX1_comparison_5 ?_
  refine cGN_43 (v := (p1.2.i 43)) hx hb hts i_X1_comparison_X9 hown hK hC (va_Nw.use rfl (hZ.1 (.fieldLinkNest RX1 53 "StatementRules2$Tokens" "type" "I" "StatementRules2") (by decide +kernel))) (fun _ q9 => q9) dX1_comparison_8 rfl ?_
  obtain ⟨p5, hcp5, hf⟩ := hf_bind hf
  have mo6 : CS.hs p1.2 ≤ CS.hs p5.2 := Mono.go hcp5 (m_X1_comparing N p1.2 (p1.2.i 43))
  have hr9 : CS.hs p5.2 ≤ CS.hs R.2 := Mono.go hf (mono_ite (mono_bind (m_X9_advance N p5.2) (fun p10 => (mono_bind (m_X1_expression N E1 E2 hm1 hm2 p10.2) (fun p14 => (mono_bind (m_X0_add N p14.2 p5.1 0) (fun p18 => (mono_some (Nat.le_refl _)))))))) (mono_bind (m_X1_misplaced N p5.2) (fun p22 => (mono_some (Nat.le_refl _)))))
  have hFc := cFree hC hA
  refine va_calli (va_runS (As := [.int (p1.2.i 43)]) (rest := []) ⟨hx, hb, hml, hown, hts⟩ (c_X1_comparing l dC dI Q N p1.2 (p1.2.i 43) p5 hcp5) (va_cwS 1 hts hX1_comparison_X1_comparing_s159 rfl rfl rfl (by decide +kernel) ⟨(show 1 + 1 ≤ (13 + 40 * d) by omega), (show 8 + (1 + 11) + 60 * 1 ≤ 60 * (13 + 40 * d) by omega)⟩) ⟨zPre.blind, cPre_go hZ hK hC⟩ rfl rfl hl.1 rfl (lv_room (Nat.le_of_ble_eq_true rfl)) dX1_comparison_11 (cAcc h4 mo6 hr9)) hC.2.2.1 (fun q _ h => hFc q h) hFc (fun r7 u9 t9 H1 locs ht hvm hw hB hz1 hk1 hS => ?_)
  obtain ⟨⟨hP, hK1, hD1⟩, hsz1⟩ := hB
  rw [ht] at hP hsz1
  have hC : CP dC dI Q A s.heap p5.2 H1 locs := ⟨hP, hD1.weaken (fun _ _ _ h => hFc _ h), hS, hsz1⟩
  generalize H1 = H at hC ⊢
  have h8 : (CS.hs σ) ≤ CS.hs p5.2 := Nat.le_trans h4 mo6
  refine W.widen (k := CS.hs p5.2 - (CS.hs σ)) (n := 17 * (CS.hs p5.2 - (CS.hs σ))) (cAcc2 h4 mo6) (cAcc3 h4 mo6) ?_
  obtain rfl : r7 = p5.1 := hw
  refine lv_istore_n (lv' := [(1, .int p5.1), (0, .ref (Q.o 3))]) hx hb dX1_comparison_14 rfl hl (by decide) rfl (fun ls hl => ?_)
  refine lv_iload_n hx hb dX1_comparison_15 rfl (lv_at hl 0 rfl) ?_
  refine lv_if_ge (tgt := 24) hx hb dX1_comparison_16 (by decide) (fun c9 => ?_) (fun c9 => ?_)
  ·
    replace hf := (if_pos c9).symm.trans hf
    refine lv_aload_n hx hb dX1_comparison_24 rfl (lv_at hl 1 rfl) ?_
    refine cG_28 hx hb hts i_X1_comparison_X7 hown hK hC (hts (.fieldLink RX1 18 "StatementRules2$Formulas" "tokens" "LStatementRules2$Tokens;") k_X1_comparison_fieldLink_RX1_18_SR_Formulas_tokens_LSR_Tokens) (fun _ q9 => q9) dX1_comparison_25 ?_
    obtain ⟨p10, hcp10, hf⟩ := hf_bind hf
    have mo11 : CS.hs p5.2 ≤ CS.hs p10.2 := Mono.go hcp10 (m_X9_advance N p5.2)
    have hr9 : CS.hs p10.2 ≤ CS.hs R.2 := Mono.go hf (mono_bind (m_X1_expression N E1 E2 hm1 hm2 p10.2) (fun p14 => (mono_bind (m_X0_add N p14.2 p5.1 0) (fun p18 => (mono_some (Nat.le_refl _))))))
    have hFc := cFree hC hA
    refine va_callv (va_runV (As := []) (rest := []) ⟨hx, hb, hml, hown, hts⟩ (c_X9_advance l dC dI Q N p5.2 p10 hcp10) (cwV 0 hts hX1_comparison_X9_advance_v56 rfl rfl rfl (by decide +kernel) ⟨(show 3 + 1 ≤ (13 + 40 * d) by omega), (show 8 + (2 + 11) + 60 * 3 ≤ 60 * (13 + 40 * d) by omega)⟩) ⟨zPre.blind, va_recv hK hC.1 (ci := 8) (q0 := 4) rfl rfl, cPre_go hZ hK hC⟩ rfl rfl hl.1 rfl (lv_room (Nat.le_of_ble_eq_true rfl)) dX1_comparison_28 (cAcc h8 mo11 hr9)) hC.2.2.1 (fun q _ h => hFc q h) hFc (fun u9 t9 H1 locs ht hvm hw hB hz1 hk1 hS => ?_)
    obtain ⟨⟨hP, hK1, hD1⟩, hsz1⟩ := hB
    rw [ht] at hP hsz1
    have hC : CP dC dI Q A s.heap p10.2 H1 locs := ⟨hP, hD1.weaken (fun _ _ _ h => hFc _ h), hS, hsz1⟩
    generalize H1 = H at hC ⊢
    have h13 : (CS.hs σ) ≤ CS.hs p10.2 := Nat.le_trans h8 mo11
    refine W.widen (k := CS.hs p10.2 - (CS.hs σ)) (n := 17 * (CS.hs p10.2 - (CS.hs σ))) (cAcc2 h8 mo11) (cAcc3 h8 mo11) ?_
    refine lv_aload_n hx hb dX1_comparison_31 rfl (lv_at hl 1 rfl) ?_
    obtain ⟨p14, hcp14, hf⟩ := hf_bind hf
    have mo15 : CS.hs p10.2 ≤ CS.hs p14.2 := Mono.go hcp14 (m_X1_expression N E1 E2 hm1 hm2 p10.2)
    have hr9 : CS.hs p14.2 ≤ CS.hs R.2 := Mono.go hf (mono_bind (m_X0_add N p14.2 p5.1 0) (fun p18 => (mono_some (Nat.le_refl _))))
    have hFc := cFree hC hA
    refine va_callv (va_runU (As := []) (rest := []) ⟨hx, hb, hml, hown, hts⟩ (c_X1_expression l dC dI Q N d E1 E2 hE1 hE2 hm1 hm2 p10.2 p14 hcp14) (va_cwU 0 hts hX1_comparison_X1_expression_u89 rfl rfl rfl rfl (by decide +kernel) ⟨(show (12 + 40 * d) + 1 ≤ (13 + 40 * d) by omega), (show 8 + (3 + 11) + 60 * (12 + 40 * d) ≤ 60 * (13 + 40 * d) by omega)⟩) ⟨zPre.blind, va_recv hK hC.1 (ci := 6) (q0 := 3) rfl rfl, cPre_go hZ hK hC⟩ rfl rfl hl.1 rfl (lv_room (Nat.le_of_ble_eq_true rfl)) dX1_comparison_32 (cAcc h13 mo15 hr9)) hC.2.2.1 (fun q _ h => hFc q h) hFc (fun u9 t9 H1 locs ht hvm hw hB hz1 hk1 hS => ?_)
    obtain ⟨⟨hP, hK1, hD1⟩, hsz1⟩ := hB
    rw [ht] at hP hsz1
    have hC : CP dC dI Q A s.heap p14.2 H1 locs := ⟨hP, hD1.weaken (fun _ _ _ h => hFc _ h), hS, hsz1⟩
    generalize H1 = H at hC ⊢
    have h17 : (CS.hs σ) ≤ CS.hs p14.2 := Nat.le_trans h13 mo15
    refine W.widen (k := CS.hs p14.2 - (CS.hs σ)) (n := 17 * (CS.hs p14.2 - (CS.hs σ))) (cAcc2 h13 mo15) (cAcc3 h13 mo15) ?_
    refine lv_aload_n hx hb dX1_comparison_35 rfl (lv_at hl 1 rfl) ?_
    refine cG_29 hx hb hts i_X1_comparison_X7 hown hK hC (hts (.fieldLink RX1 22 "StatementRules2$Formulas" "code" "LStatementRules2$Code;") k_X1_comparison_fieldLink_RX1_22_SR_Formulas_code_LSR_Code) (fun _ q9 => q9) dX1_comparison_36 ?_
    refine lv_iload_n hx hb dX1_comparison_39 rfl (lv_at hl 0 rfl) ?_
    refine lv_iconst (v := 0) hx hb dX1_comparison_40 (by decide) ?_
    obtain ⟨p18, hcp18, hf⟩ := hf_bind hf
    have mo19 : CS.hs p14.2 ≤ CS.hs p18.2 := Mono.go hcp18 (m_X0_add N p14.2 p5.1 0)
    have hr9 : CS.hs p18.2 ≤ CS.hs R.2 := Mono.go hf (mono_some (Nat.le_refl _))
    have hFc := cFree hC hA
    refine va_callv (va_runV (As := [.int p5.1, .int 0]) (rest := []) ⟨hx, hb, hml, hown, hts⟩ (c_X0_add l dC dI Q N p14.2 p5.1 0 p18 hcp18) (cwV 2 hts hX1_comparison_X0_add_v68 rfl rfl rfl (by decide +kernel) ⟨(show 2 + 1 ≤ (13 + 40 * d) by omega), (show 8 + (3 + 11) + 60 * 2 ≤ 60 * (13 + 40 * d) by omega)⟩) ⟨zPre.blind, va_recv hK hC.1 (ci := 0) (q0 := 2) rfl rfl, cPre_go hZ hK hC⟩ rfl rfl hl.1 rfl (lv_room (Nat.le_of_ble_eq_true rfl)) dX1_comparison_41 (cAcc h17 mo19 hr9)) hC.2.2.1 (fun q _ h => hFc q h) hFc (fun u9 t9 H1 locs ht hvm hw hB hz1 hk1 hS => ?_)
    obtain ⟨⟨hP, hK1, hD1⟩, hsz1⟩ := hB
    rw [ht] at hP hsz1
    have hC : CP dC dI Q A s.heap p18.2 H1 locs := ⟨hP, hD1.weaken (fun _ _ _ h => hFc _ h), hS, hsz1⟩
    generalize H1 = H at hC ⊢
    have h21 : (CS.hs σ) ≤ CS.hs p18.2 := Nat.le_trans h17 mo19
    refine W.widen (k := CS.hs p18.2 - (CS.hs σ)) (n := 17 * (CS.hs p18.2 - (CS.hs σ))) (cAcc2 h17 mo19) (cAcc3 h17 mo19) ?_
    obtain rfl := Option.some.inj hf
    exact W.vret hx hb hr (fun t ht hW => ⟨⟨(), rfl, trivial, ⟨by rw [ht]; exact hC.1, va_K.moved hW.alike hK, hC.2.1⟩, by rw [ht]; exact hC.2.2.2⟩, hC.2.2.1.F ht⟩) hC.2.2.1.2.2 dX1_comparison_44
  ·
    replace hf := (if_neg c9).symm.trans hf
    refine lv_aload_n hx hb dX1_comparison_19 rfl (lv_at hl 1 rfl) ?_
    obtain ⟨p22, hcp22, hf⟩ := hf_bind hf
    have mo23 : CS.hs p5.2 ≤ CS.hs p22.2 := Mono.go hcp22 (m_X1_misplaced N p5.2)
    have hr9 : CS.hs p22.2 ≤ CS.hs R.2 := Mono.go hf (mono_some (Nat.le_refl _))
    have hFc := cFree hC hA
    refine va_callv (va_runU (As := []) (rest := []) ⟨hx, hb, hml, hown, hts⟩ (c_X1_misplaced l dC dI Q N p5.2 p22 hcp22) (va_cwU 0 hts hX1_comparison_X1_misplaced_u59 rfl rfl rfl rfl (by decide +kernel) ⟨(show 3 + 1 ≤ (13 + 40 * d) by omega), (show 8 + (1 + 11) + 60 * 3 ≤ 60 * (13 + 40 * d) by omega)⟩) ⟨zPre.blind, va_recv hK hC.1 (ci := 6) (q0 := 3) rfl rfl, cPre_go hZ hK hC⟩ rfl rfl hl.1 rfl (lv_room (Nat.le_of_ble_eq_true rfl)) dX1_comparison_20 (cAcc h8 mo23 hr9)) hC.2.2.1 (fun q _ h => hFc q h) hFc (fun u9 t9 H1 locs ht hvm hw hB hz1 hk1 hS => ?_)
    obtain ⟨⟨hP, hK1, hD1⟩, hsz1⟩ := hB
    rw [ht] at hP hsz1
    have hC : CP dC dI Q A s.heap p22.2 H1 locs := ⟨hP, hD1.weaken (fun _ _ _ h => hFc _ h), hS, hsz1⟩
    generalize H1 = H at hC ⊢
    have h25 : (CS.hs σ) ≤ CS.hs p22.2 := Nat.le_trans h8 mo23
    refine W.widen (k := CS.hs p22.2 - (CS.hs σ)) (n := 17 * (CS.hs p22.2 - (CS.hs σ))) (cAcc2 h8 mo23) (cAcc3 h8 mo23) ?_
    obtain rfl := Option.some.inj hf
    exact W.vret hx hb hr (fun t ht hW => ⟨⟨(), rfl, trivial, ⟨by rw [ht]; exact hC.1, va_K.moved hW.alike hK, hC.2.1⟩, by rw [ht]; exact hC.2.2.2⟩, hC.2.2.1.F ht⟩) hC.2.2.1.2.2 dX1_comparison_23
theorem k_X1_one_fieldLink_RX1_18_SR_Formulas_tokens_LSR_Tokens : Cond.fieldLink RX1 18 "StatementRules2$Formulas" "tokens" "LStatementRules2$Tokens;" ∈ wzX1_one := List.mem_cons_of_mem _ (List.mem_append_right _ (List.mem_append_right _ (List.mem_append_right _ (List.mem_append_right _ (List.mem_append_right _ (List.mem_append_right _ (List.mem_append_right _ (List.mem_append_right _ (List.mem_append_right _ (List.mem_append_left _ (List.mem_of_getElem? (i := 0) rfl)))))))))))
theorem i_X1_one_X7 : ∀ w ∈ wsX70, w ∈ wzX1_one := fun _ h => List.mem_cons_of_mem _ (List.mem_append_right _ (List.mem_append_right _ (List.mem_append_right _ (List.mem_append_right _ (List.mem_append_right _ (List.mem_append_right _ (List.mem_append_right _ (List.mem_append_right _ (List.mem_append_right _ (List.mem_append_right _ (List.mem_append_right _ (List.mem_append_right _ (List.mem_append_right _ (List.mem_append_right _ (List.mem_append_right _ (List.mem_append_right _ (List.mem_append_right _ (List.mem_append_right _ (List.mem_append_right _ (List.mem_append_right _ (List.mem_append_right _ (List.mem_append_right _ (List.mem_append_right _ (List.mem_append_right _ (List.mem_append_right _ (List.mem_append_right _ (List.mem_append_right _ (List.mem_append_right _ (List.mem_append_right _ (List.mem_append_right _ (List.mem_append_right _ (List.mem_append_right _ (List.mem_append_right _ (List.mem_append_right _ (List.mem_append_right _ (List.mem_append_right _ (List.mem_append_left _ (h))))))))))))))))))))))))))))))))))))))
theorem i_X1_one_X9 : ∀ w ∈ wsX90, w ∈ wzX1_one := fun _ h => List.mem_cons_of_mem _ (List.mem_append_right _ (List.mem_append_right _ (List.mem_append_right _ (List.mem_append_right _ (List.mem_append_right _ (List.mem_append_right _ (List.mem_append_right _ (List.mem_append_right _ (List.mem_append_right _ (List.mem_append_right _ (List.mem_append_right _ (List.mem_append_right _ (List.mem_append_right _ (List.mem_append_right _ (List.mem_append_right _ (List.mem_append_right _ (List.mem_append_right _ (List.mem_append_right _ (List.mem_append_right _ (List.mem_append_right _ (List.mem_append_right _ (List.mem_append_right _ (List.mem_append_right _ (List.mem_append_right _ (List.mem_append_right _ (List.mem_append_right _ (List.mem_append_right _ (List.mem_append_right _ (List.mem_append_right _ (List.mem_append_right _ (List.mem_append_right _ (List.mem_append_right _ (List.mem_append_right _ (List.mem_append_right _ (List.mem_append_right _ (List.mem_append_right _ (List.mem_append_right _ (List.mem_append_left _ (h)))))))))))))))))))))))))))))))))))))))
theorem k_X1_one_fieldLink_RX1_30_SR_Formulas_faultNumber_I : Cond.fieldLink RX1 30 "StatementRules2$Formulas" "faultNumber" "I" ∈ wzX1_one := List.mem_cons_of_mem _ (List.mem_append_right _ (List.mem_append_right _ (List.mem_append_right _ (List.mem_append_right _ (List.mem_append_right _ (List.mem_append_right _ (List.mem_append_right _ (List.mem_append_right _ (List.mem_append_right _ (List.mem_append_left _ (List.mem_of_getElem? (i := 1) rfl)))))))))))
theorem k_X1_one_fieldLink_RX1_62_SR_Formulas_openSigns_I : Cond.fieldLink RX1 62 "StatementRules2$Formulas" "openSigns" "I" ∈ wzX1_one := List.mem_cons_of_mem _ (List.mem_append_right _ (List.mem_append_right _ (List.mem_append_right _ (List.mem_append_right _ (List.mem_append_right _ (List.mem_append_right _ (List.mem_append_right _ (List.mem_append_right _ (List.mem_append_right _ (List.mem_append_left _ (List.mem_of_getElem? (i := 2) rfl)))))))))))
theorem k_X1_one_fieldLink_RX1_22_SR_Formulas_code_LSR_Code : Cond.fieldLink RX1 22 "StatementRules2$Formulas" "code" "LStatementRules2$Code;" ∈ wzX1_one := List.mem_cons_of_mem _ (List.mem_append_right _ (List.mem_append_right _ (List.mem_append_right _ (List.mem_append_right _ (List.mem_append_right _ (List.mem_append_right _ (List.mem_append_right _ (List.mem_append_right _ (List.mem_append_right _ (List.mem_append_left _ (List.mem_of_getElem? (i := 3) rfl)))))))))))
set_option maxHeartbeats 4000000 in
set_option maxRecDepth 100000 in
theorem j_X1_one_66 {p : Program} {e : Env} {s : State} {m : MethodId} {args : Array Value} {below : List Frame} {meth : Method} {c : Code} {A : Nat → Prop} (l : Launch) (dC : Nat → ClassId) (dI : Nat → Nat → Nat) (Q : CQ) (N : Nat) (d : Nat) (E1 : CS → Option (Unit × CS)) (E2 : CS → Option (Int32 × CS)) (hE1 : cMF l dC dI Q d E1) (hE2 : cMO l dC dI Q d E2) (hm1 : ∀ σ, Mono (CS.hs σ) (E1 σ)) (hm2 : ∀ σ, Mono (CS.hs σ) (E2 σ)) (z9h : Nat) (R : Int32 × CS) (hx : p.tables.exec = Jvm.exec) (hb : c.code = cX1_one) (hr : meth.sig.returnType = (some .boolean)) (hml : c.maxLocals = 1) (hown : s.vm.findClass RX1 = some m.cls) (hts : ∀ w ∈ wzX1_one, w.before args s = true) (hlocks : meth.locks = false) (hZ : zAMB s) (hA : ∀ q : Nat, s.heap.size ≤ q → A q) (hK : va_K (dC, dI) vwCl (cT Q) s) : ∀ (σ : CS) (H : Heap) (locs : List Loc) (ls : Array Slot), f_X1_one_66 N E1 E2 σ = some R → z9h ≤ CS.hs σ → CP dC dI Q A s.heap σ H locs → lv_has ls 1 [(0, .ref (Q.o 3))] → W p l e ({ frames := (50 + 40 * d), cells := CS.hs R.2 - z9h, slots := 17 * (CS.hs R.2 - z9h), locals := 60 * (50 + 40 * d) }) s m args below meth c H locs (CS.hs σ - z9h) (17 * (CS.hs σ - z9h)) (MQ below (va_Qi (fun (r : Int32) (_ : Unit) => r = R.1) (fun (_ : Unit) (t : State) => zPost dC dI A (cW Q R.2) (cT Q) t ∧ t.heap.size = CS.hs R.2) A) args s (CS.hs R.2 - z9h) (17 * (CS.hs R.2 - z9h)) A) (F0 m 66 ls []) := by
  intro σ  H locs ls hf h0 hC hl
  unfold f_X1_one_66 at hf
  refine lv_aload_n hx hb dX1_one_66 rfl (lv_at hl 0 rfl) ?_
  refine lv_dup hx hb dX1_one_67 rfl ?_
  refine cG_34 (v := (σ.i 34)) hx hb hts i_X1_one_X7 hown hK hC (hts (.fieldLink RX1 62 "StatementRules2$Formulas" "openSigns" "I") k_X1_one_fieldLink_RX1_62_SR_Formulas_openSigns_I) (fun _ q9 => q9) dX1_one_68 rfl ?_
  refine lv_iconst (v := 1) hx hb dX1_one_71 (by decide) ?_
  refine lv_isub hx hb dX1_one_72 ?_
  refine cP_34 (v := ((σ.i 34) - 1)) hx hb hts i_X1_one_X7 hown hK hC (hts (.fieldLink RX1 62 "StatementRules2$Formulas" "openSigns" "I") k_X1_one_fieldLink_RX1_62_SR_Formulas_openSigns_I) (fun _ q9 => q9) dX1_one_73 (fun H locs hC => ?_)
  refine lv_aload_n hx hb dX1_one_76 rfl (lv_at hl 0 rfl) ?_
  refine cG_29 hx hb hts i_X1_one_X7 hown hK hC (hts (.fieldLink RX1 22 "StatementRules2$Formulas" "code" "LStatementRules2$Code;") k_X1_one_fieldLink_RX1_22_SR_Formulas_code_LSR_Code) (fun _ q9 => q9) dX1_one_77 ?_
  refine lv_iconst (v := 5) hx hb dX1_one_80 (by decide) ?_
  refine lv_iconst (v := 0) hx hb dX1_one_81 (by decide) ?_
  obtain ⟨p7, hcp7, hf⟩ := hf_bind hf
  have mo8 : CS.hs σ ≤ CS.hs p7.2 := Mono.go hcp7 (m_X0_add N (CS.setI σ 34 ((σ.i 34) - 1)) 5 0)
  have hr9 : CS.hs p7.2 ≤ CS.hs R.2 := Mono.go hf (mono_some (Nat.le_refl _))
  have hFc := cFree hC hA
  refine va_callv (va_runV (As := [.int 5, .int 0]) (rest := []) ⟨hx, hb, hml, hown, hts⟩ (c_X0_add l dC dI Q N (CS.setI σ 34 ((σ.i 34) - 1)) 5 0 p7 hcp7) (cwV 2 hts hX1_one_X0_add_v68 rfl rfl rfl (by decide +kernel) ⟨(show 2 + 1 ≤ (50 + 40 * d) by omega), (show 8 + (3 + 11) + 60 * 2 ≤ 60 * (50 + 40 * d) by omega)⟩) ⟨zPre.blind, va_recv hK hC.1 (ci := 0) (q0 := 2) rfl rfl, cPre_go hZ hK hC⟩ rfl rfl hl.1 rfl (lv_room (Nat.le_of_ble_eq_true rfl)) dX1_one_82 (cAcc h0 mo8 hr9)) hC.2.2.1 (fun q _ h => hFc q h) hFc (fun u9 t9 H1 locs ht hvm hw hB hz1 hk1 hS => ?_)
  obtain ⟨⟨hP, hK1, hD1⟩, hsz1⟩ := hB
  rw [ht] at hP hsz1
  have hC : CP dC dI Q A s.heap p7.2 H1 locs := ⟨hP, hD1.weaken (fun _ _ _ h => hFc _ h), hS, hsz1⟩
  generalize H1 = H at hC ⊢
  have h10 : z9h ≤ CS.hs p7.2 := Nat.le_trans h0 mo8
  refine W.widen (k := CS.hs p7.2 - z9h) (n := 17 * (CS.hs p7.2 - z9h)) (cAcc2 h0 mo8) (cAcc3 h0 mo8) ?_
  refine lv_iconst (v := 0) hx hb dX1_one_85 (by decide) ?_
  obtain rfl := Option.some.inj hf
  exact W.zret (v := 0) hx hb hr (rfl) (fun t ht hW => ⟨⟨0, (), rfl, rfl, ⟨by rw [ht]; exact hC.1, va_K.moved hW.alike hK, hC.2.1⟩, by rw [ht]; exact hC.2.2.2⟩, hC.2.2.1.F ht⟩) hC.2.2.1.2.2 dX1_one_86
set_option maxHeartbeats 4000000 in
set_option maxRecDepth 100000 in
theorem c_X1_one (l : Launch) (dC : Nat → ClassId) (dI : Nat → Nat → Nat) (Q : CQ) (N : Nat) (d : Nat) (E1 : CS → Option (Unit × CS)) (E2 : CS → Option (Int32 × CS)) (hE1 : cMF l dC dI Q d E1) (hE2 : cMO l dC dI Q d E2) (hm1 : ∀ σ, Mono (CS.hs σ) (E1 σ)) (hm2 : ∀ σ, Mono (CS.hs σ) (E2 σ)) (σ : CS) (R : Int32 × CS) (hf : f_X1_one N E1 E2 σ = some R) : Met l yX1_one wzX1_one ({ frames := (50 + 40 * d), cells := CS.hs R.2 - CS.hs σ, slots := 17 * (CS.hs R.2 - CS.hs σ), locals := 60 * (50 + 40 * d) }) (va_Pc [.ref (Q.o 3)] (zPre dC dI (CS.hs σ) (cW Q σ) (cT Q))) (va_Qi (fun (r : Int32) (_ : Unit) => r = R.1) (fun (_ : Unit) (t : State) => zPost dC dI (va_A (cW Q σ) (CS.hs σ)) (cW Q R.2) (cT Q) t ∧ t.heap.size = CS.hs R.2) (va_A (cW Q σ) (CS.hs σ))) (CS.hs R.2 - CS.hs σ) (17 * (CS.hs R.2 - CS.hs σ)) (va_A (cW Q σ) (CS.hs σ)) := by
  refine Met.ofW (cc := cX1_one) (maxL := 1) (ret := (some .boolean)) (by decide) rfl ?_
  intro p e s m args below meth c s₁ B hml hv
  obtain ⟨rfl, hsz, hZ, hP, hK, hD0⟩ := hv
  have hx := B.exec
  have hb := B.bytes
  have hr := B.returns
  have hts := atoms_spec (ws := wzX1_one) B.pre
  have hown : s.vm.findClass RX1 = some m.cls := findClass_of_methodNamed B.named
  have hlocks := B.notSynchronized
  have hD := hD0.self (sz := CS.hs σ)
  generalize hAe : va_A (cW Q σ) (CS.hs σ) = A at hD ⊢
  have hA : ∀ q : Nat, s.heap.size ≤ q → A q := fun q h => by rw [← hAe]; exact Or.inr (hsz ▸ h)
  have hC : CP dC dI Q A s.heap σ s.heap [] := ⟨hP, hD, va_S.rf, hsz⟩
  have h0 : CS.hs σ ≤ CS.hs σ := Nat.le_refl _
  have hl := lv_entry ([.ref (Q.o 3)]) (n := 1) (Nat.le_of_ble_eq_true rfl)
  rw [lg_entry_eq]
  generalize (lg_sl ([.ref (Q.o 3)]) ++ List.replicate (1 - (lg_sl ([.ref (Q.o 3)])).length) Slot.unset).toArray = ls at hl ⊢
  have hl : lv_has ls 1 [(0, .ref (Q.o 3))] := hl
  unfold f_X1_one at hf
  refine W.widen (k := CS.hs σ - CS.hs σ) (n := 17 * (CS.hs σ - CS.hs σ)) (Nat.zero_le _) (Nat.zero_le _) ?_
  refine lv_aload_n hx hb dX1_one_0 rfl (lv_at hl 0 rfl) ?_
  refine cG_28 hx hb hts i_X1_one_X7 hown hK hC (hts (.fieldLink RX1 18 "StatementRules2$Formulas" "tokens" "LStatementRules2$Tokens;") k_X1_one_fieldLink_RX1_18_SR_Formulas_tokens_LSR_Tokens) (fun _ q9 => q9) dX1_one_1 ?_
  refine cGN_43 (v := (σ.i 43)) hx hb hts i_X1_one_X9 hown hK hC (va_Nw.use rfl (hZ.1 (.fieldLinkNest RX1 53 "StatementRules2$Tokens" "type" "I" "StatementRules2") (by decide +kernel))) (fun _ q9 => q9) dX1_one_4 rfl ?_
  by_cases c1 : (σ.i 43) = 33
  ·
    replace hf := (if_pos c1).symm.trans hf
    refine lv_lookup (off := 41) (tgt := 48) hx hb dX1_one_7 (by decide) (by rw [c1]; decide) (by decide) ?_
    refine lv_aload_n hx hb dX1_one_48 rfl (lv_at hl 0 rfl) ?_
    refine lv_bipush (v := 33) hx hb dX1_one_49 (by decide) ?_
    obtain ⟨p2, hcp2, hf⟩ := hf_bind hf
    have mo3 : CS.hs σ ≤ CS.hs p2.2 := Mono.go hcp2 (m_X1_open N σ 33)
    have hr9 : CS.hs p2.2 ≤ CS.hs R.2 := Mono.go hf (mono_ite (mono_bind (hm2 p2.2) (fun p11 => (m_X1_one_66 N E1 E2 hm1 hm2 p11.2))) (m_X1_one_66 N E1 E2 hm1 hm2 p2.2))
    have hFc := cFree hC hA
    refine va_callv (va_runU (As := [.int 33]) (rest := []) ⟨hx, hb, hml, hown, hts⟩ (c_X1_open l dC dI Q N σ 33 p2 hcp2) (va_cwU 1 hts hX1_one_X1_open_u85 rfl rfl rfl rfl (by decide +kernel) ⟨(show 4 + 1 ≤ (50 + 40 * d) by omega), (show 8 + (2 + 11) + 60 * 4 ≤ 60 * (50 + 40 * d) by omega)⟩) ⟨zPre.blind, va_recv hK hC.1 (ci := 6) (q0 := 3) rfl rfl, cPre_go hZ hK hC⟩ rfl rfl hl.1 rfl (lv_room (Nat.le_of_ble_eq_true rfl)) dX1_one_51 (cAcc h0 mo3 hr9)) hC.2.2.1 (fun q _ h => hFc q h) hFc (fun u9 t9 H1 locs ht hvm hw hB hz1 hk1 hS => ?_)
    obtain ⟨⟨hP, hK1, hD1⟩, hsz1⟩ := hB
    rw [ht] at hP hsz1
    have hC : CP dC dI Q A s.heap p2.2 H1 locs := ⟨hP, hD1.weaken (fun _ _ _ h => hFc _ h), hS, hsz1⟩
    generalize H1 = H at hC ⊢
    have h5 : (CS.hs σ) ≤ CS.hs p2.2 := Nat.le_trans h0 mo3
    refine W.widen (k := CS.hs p2.2 - (CS.hs σ)) (n := 17 * (CS.hs p2.2 - (CS.hs σ))) (cAcc2 h0 mo3) (cAcc3 h0 mo3) ?_
    refine lv_aload_n hx hb dX1_one_54 rfl (lv_at hl 0 rfl) ?_
    refine cG_32 (v := (p2.2.i 32)) hx hb hts i_X1_one_X7 hown hK hC (hts (.fieldLink RX1 30 "StatementRules2$Formulas" "faultNumber" "I") k_X1_one_fieldLink_RX1_30_SR_Formulas_faultNumber_I) (fun _ q9 => q9) dX1_one_55 rfl ?_
    refine lv_if_ne (tgt := 66) hx hb dX1_one_58 (by decide) (fun c6 => ?_) (fun c6 => ?_)
    ·
      replace hf := (if_neg c6).symm.trans hf
      exact j_X1_one_66 l dC dI Q N d E1 E2 hE1 hE2 hm1 hm2 (CS.hs σ) R hx hb hr hml hown hts hlocks hZ hA hK p2.2 _ _ _ hf h5 hC (lv_sub hl [0] rfl)
    ·
      replace hf := (if_pos c6).symm.trans hf
      refine lv_aload_n hx hb dX1_one_61 rfl (lv_at hl 0 rfl) ?_
      obtain ⟨p11, hcp11, hf⟩ := hf_bind hf
      have mo12 : CS.hs p2.2 ≤ CS.hs p11.2 := Mono.go hcp11 (hm2 p2.2)
      have hr9 : CS.hs p11.2 ≤ CS.hs R.2 := Mono.go hf (m_X1_one_66 N E1 E2 hm1 hm2 p11.2)
      have hFc := cFree hC hA
      refine va_calli (va_runU (As := []) (rest := []) ⟨hx, hb, hml, hown, hts⟩ (hE2 p2.2 p11 hcp11) (va_cwU 0 hts hX1_one_X1_one_u150 rfl rfl rfl rfl (by decide +kernel) ⟨(show (10 + 40 * d) + 1 ≤ (50 + 40 * d) by omega), (show 8 + (1 + 11) + 60 * (10 + 40 * d) ≤ 60 * (50 + 40 * d) by omega)⟩) ⟨zPre.blind, va_recv hK hC.1 (ci := 6) (q0 := 3) rfl rfl, cPre_go hZ hK hC⟩ rfl rfl hl.1 rfl (lv_room (Nat.le_of_ble_eq_true rfl)) dX1_one_62 (cAcc h5 mo12 hr9)) hC.2.2.1 (fun q _ h => hFc q h) hFc (fun r13 u9 t9 H1 locs ht hvm hw hB hz1 hk1 hS => ?_)
      obtain ⟨⟨hP, hK1, hD1⟩, hsz1⟩ := hB
      rw [ht] at hP hsz1
      have hC : CP dC dI Q A s.heap p11.2 H1 locs := ⟨hP, hD1.weaken (fun _ _ _ h => hFc _ h), hS, hsz1⟩
      generalize H1 = H at hC ⊢
      have h14 : (CS.hs σ) ≤ CS.hs p11.2 := Nat.le_trans h5 mo12
      refine W.widen (k := CS.hs p11.2 - (CS.hs σ)) (n := 17 * (CS.hs p11.2 - (CS.hs σ))) (cAcc2 h5 mo12) (cAcc3 h5 mo12) ?_
      obtain rfl : r13 = p11.1 := hw
      refine lv_pop hx hb dX1_one_65 rfl ?_
      exact j_X1_one_66 l dC dI Q N d E1 E2 hE1 hE2 hm1 hm2 (CS.hs σ) R hx hb hr hml hown hts hlocks hZ hA hK p11.2 _ _ _ hf h14 hC (lv_sub hl [0] rfl)
  replace hf := (if_neg c1).symm.trans hf
  by_cases c15 : (σ.i 43) = 91
  ·
    replace hf := (if_pos c15).symm.trans hf
    refine lv_lookup (off := 116) (tgt := 123) hx hb dX1_one_7 (by decide) (by rw [c15]; decide) (by decide) ?_
    refine lv_aload_n hx hb dX1_one_123 rfl (lv_at hl 0 rfl) ?_
    refine lv_bipush (v := 91) hx hb dX1_one_124 (by decide) ?_
    obtain ⟨p16, hcp16, hf⟩ := hf_bind hf
    have mo17 : CS.hs σ ≤ CS.hs p16.2 := Mono.go hcp16 (m_X1_open N σ 91)
    have hr9 : CS.hs p16.2 ≤ CS.hs R.2 := Mono.go hf (mono_bind (m_X1_condition N E1 E2 hm1 hm2 p16.2) (fun p20 => (mono_bind (m_X1_close N p20.2 93) (fun p24 => (mono_some (Nat.le_refl _))))))
    have hFc := cFree hC hA
    refine va_callv (va_runU (As := [.int 91]) (rest := []) ⟨hx, hb, hml, hown, hts⟩ (c_X1_open l dC dI Q N σ 91 p16 hcp16) (va_cwU 1 hts hX1_one_X1_open_u85 rfl rfl rfl rfl (by decide +kernel) ⟨(show 4 + 1 ≤ (50 + 40 * d) by omega), (show 8 + (2 + 11) + 60 * 4 ≤ 60 * (50 + 40 * d) by omega)⟩) ⟨zPre.blind, va_recv hK hC.1 (ci := 6) (q0 := 3) rfl rfl, cPre_go hZ hK hC⟩ rfl rfl hl.1 rfl (lv_room (Nat.le_of_ble_eq_true rfl)) dX1_one_126 (cAcc h0 mo17 hr9)) hC.2.2.1 (fun q _ h => hFc q h) hFc (fun u9 t9 H1 locs ht hvm hw hB hz1 hk1 hS => ?_)
    obtain ⟨⟨hP, hK1, hD1⟩, hsz1⟩ := hB
    rw [ht] at hP hsz1
    have hC : CP dC dI Q A s.heap p16.2 H1 locs := ⟨hP, hD1.weaken (fun _ _ _ h => hFc _ h), hS, hsz1⟩
    generalize H1 = H at hC ⊢
    have h19 : (CS.hs σ) ≤ CS.hs p16.2 := Nat.le_trans h0 mo17
    refine W.widen (k := CS.hs p16.2 - (CS.hs σ)) (n := 17 * (CS.hs p16.2 - (CS.hs σ))) (cAcc2 h0 mo17) (cAcc3 h0 mo17) ?_
    refine lv_aload_n hx hb dX1_one_129 rfl (lv_at hl 0 rfl) ?_
    obtain ⟨p20, hcp20, hf⟩ := hf_bind hf
    have mo21 : CS.hs p16.2 ≤ CS.hs p20.2 := Mono.go hcp20 (m_X1_condition N E1 E2 hm1 hm2 p16.2)
    have hr9 : CS.hs p20.2 ≤ CS.hs R.2 := Mono.go hf (mono_bind (m_X1_close N p20.2 93) (fun p24 => (mono_some (Nat.le_refl _))))
    have hFc := cFree hC hA
    refine va_calli (va_runU (As := []) (rest := []) ⟨hx, hb, hml, hown, hts⟩ (c_X1_condition l dC dI Q N d E1 E2 hE1 hE2 hm1 hm2 p16.2 p20 hcp20) (va_cwU 0 hts hX1_one_X1_condition_u153 rfl rfl rfl rfl (by decide +kernel) ⟨(show (12 + 40 * d) + 1 ≤ (50 + 40 * d) by omega), (show 8 + (4 + 11) + 60 * (12 + 40 * d) ≤ 60 * (50 + 40 * d) by omega)⟩) ⟨zPre.blind, va_recv hK hC.1 (ci := 6) (q0 := 3) rfl rfl, cPre_go hZ hK hC⟩ rfl rfl hl.1 rfl (lv_room (Nat.le_of_ble_eq_true rfl)) dX1_one_130 (cAcc h19 mo21 hr9)) hC.2.2.1 (fun q _ h => hFc q h) hFc (fun r22 u9 t9 H1 locs ht hvm hw hB hz1 hk1 hS => ?_)
    obtain ⟨⟨hP, hK1, hD1⟩, hsz1⟩ := hB
    rw [ht] at hP hsz1
    have hC : CP dC dI Q A s.heap p20.2 H1 locs := ⟨hP, hD1.weaken (fun _ _ _ h => hFc _ h), hS, hsz1⟩
    generalize H1 = H at hC ⊢
    have h23 : (CS.hs σ) ≤ CS.hs p20.2 := Nat.le_trans h19 mo21
    refine W.widen (k := CS.hs p20.2 - (CS.hs σ)) (n := 17 * (CS.hs p20.2 - (CS.hs σ))) (cAcc2 h19 mo21) (cAcc3 h19 mo21) ?_
    obtain rfl : r22 = p20.1 := hw
    refine lv_pop hx hb dX1_one_133 rfl ?_
    refine lv_aload_n hx hb dX1_one_134 rfl (lv_at hl 0 rfl) ?_
    refine lv_bipush (v := 93) hx hb dX1_one_135 (by decide) ?_
    obtain ⟨p24, hcp24, hf⟩ := hf_bind hf
    have mo25 : CS.hs p20.2 ≤ CS.hs p24.2 := Mono.go hcp24 (m_X1_close N p20.2 93)
    have hr9 : CS.hs p24.2 ≤ CS.hs R.2 := Mono.go hf (mono_some (Nat.le_refl _))
    have hFc := cFree hC hA
    refine va_callv (va_runU (As := [.int 93]) (rest := []) ⟨hx, hb, hml, hown, hts⟩ (c_X1_close l dC dI Q N p20.2 93 p24 hcp24) (va_cwU 1 hts hX1_one_X1_close_u92 rfl rfl rfl rfl (by decide +kernel) ⟨(show 4 + 1 ≤ (50 + 40 * d) by omega), (show 8 + (2 + 11) + 60 * 4 ≤ 60 * (50 + 40 * d) by omega)⟩) ⟨zPre.blind, va_recv hK hC.1 (ci := 6) (q0 := 3) rfl rfl, cPre_go hZ hK hC⟩ rfl rfl hl.1 rfl (lv_room (Nat.le_of_ble_eq_true rfl)) dX1_one_137 (cAcc h23 mo25 hr9)) hC.2.2.1 (fun q _ h => hFc q h) hFc (fun u9 t9 H1 locs ht hvm hw hB hz1 hk1 hS => ?_)
    obtain ⟨⟨hP, hK1, hD1⟩, hsz1⟩ := hB
    rw [ht] at hP hsz1
    have hC : CP dC dI Q A s.heap p24.2 H1 locs := ⟨hP, hD1.weaken (fun _ _ _ h => hFc _ h), hS, hsz1⟩
    generalize H1 = H at hC ⊢
    have h27 : (CS.hs σ) ≤ CS.hs p24.2 := Nat.le_trans h23 mo25
    refine W.widen (k := CS.hs p24.2 - (CS.hs σ)) (n := 17 * (CS.hs p24.2 - (CS.hs σ))) (cAcc2 h23 mo25) (cAcc3 h23 mo25) ?_
    refine lv_iconst (v := 0) hx hb dX1_one_140 (by decide) ?_
    obtain rfl := Option.some.inj hf
    exact W.zret (v := 0) hx hb hr (rfl) (fun t ht hW => ⟨⟨0, (), rfl, rfl, ⟨by rw [ht]; exact hC.1, va_K.moved hW.alike hK, hC.2.1⟩, by rw [ht]; exact hC.2.2.2⟩, hC.2.2.1.F ht⟩) hC.2.2.1.2.2 dX1_one_141
  replace hf := (if_neg c15).symm.trans hf
  by_cases c28 : (σ.i 43) = 222
  ·
    replace hf := (if_pos c28).symm.trans hf
    refine lv_lookup (off := 80) (tgt := 87) hx hb dX1_one_7 (by decide) (by rw [c28]; decide) (by decide) ?_
    refine lv_aload_n hx hb dX1_one_87 rfl (lv_at hl 0 rfl) ?_
    refine cG_29 hx hb hts i_X1_one_X7 hown hK hC (hts (.fieldLink RX1 22 "StatementRules2$Formulas" "code" "LStatementRules2$Code;") k_X1_one_fieldLink_RX1_22_SR_Formulas_code_LSR_Code) (fun _ q9 => q9) dX1_one_88 ?_
    refine lv_iconst (v := 0) hx hb dX1_one_91 (by decide) ?_
    refine lv_iconst (v := 1) hx hb dX1_one_92 (by decide) ?_
    obtain ⟨p29, hcp29, hf⟩ := hf_bind hf
    have mo30 : CS.hs σ ≤ CS.hs p29.2 := Mono.go hcp29 (m_X0_add N σ 0 1)
    have hr9 : CS.hs p29.2 ≤ CS.hs R.2 := Mono.go hf (mono_bind (m_X9_advance N p29.2) (fun p33 => (mono_some (Nat.le_refl _))))
    have hFc := cFree hC hA
    refine va_callv (va_runV (As := [.int 0, .int 1]) (rest := []) ⟨hx, hb, hml, hown, hts⟩ (c_X0_add l dC dI Q N σ 0 1 p29 hcp29) (cwV 2 hts hX1_one_X0_add_v68 rfl rfl rfl (by decide +kernel) ⟨(show 2 + 1 ≤ (50 + 40 * d) by omega), (show 8 + (3 + 11) + 60 * 2 ≤ 60 * (50 + 40 * d) by omega)⟩) ⟨zPre.blind, va_recv hK hC.1 (ci := 0) (q0 := 2) rfl rfl, cPre_go hZ hK hC⟩ rfl rfl hl.1 rfl (lv_room (Nat.le_of_ble_eq_true rfl)) dX1_one_93 (cAcc h0 mo30 hr9)) hC.2.2.1 (fun q _ h => hFc q h) hFc (fun u9 t9 H1 locs ht hvm hw hB hz1 hk1 hS => ?_)
    obtain ⟨⟨hP, hK1, hD1⟩, hsz1⟩ := hB
    rw [ht] at hP hsz1
    have hC : CP dC dI Q A s.heap p29.2 H1 locs := ⟨hP, hD1.weaken (fun _ _ _ h => hFc _ h), hS, hsz1⟩
    generalize H1 = H at hC ⊢
    have h32 : (CS.hs σ) ≤ CS.hs p29.2 := Nat.le_trans h0 mo30
    refine W.widen (k := CS.hs p29.2 - (CS.hs σ)) (n := 17 * (CS.hs p29.2 - (CS.hs σ))) (cAcc2 h0 mo30) (cAcc3 h0 mo30) ?_
    refine lv_aload_n hx hb dX1_one_96 rfl (lv_at hl 0 rfl) ?_
    refine cG_28 hx hb hts i_X1_one_X7 hown hK hC (hts (.fieldLink RX1 18 "StatementRules2$Formulas" "tokens" "LStatementRules2$Tokens;") k_X1_one_fieldLink_RX1_18_SR_Formulas_tokens_LSR_Tokens) (fun _ q9 => q9) dX1_one_97 ?_
    obtain ⟨p33, hcp33, hf⟩ := hf_bind hf
    have mo34 : CS.hs p29.2 ≤ CS.hs p33.2 := Mono.go hcp33 (m_X9_advance N p29.2)
    have hr9 : CS.hs p33.2 ≤ CS.hs R.2 := Mono.go hf (mono_some (Nat.le_refl _))
    have hFc := cFree hC hA
    refine va_callv (va_runV (As := []) (rest := []) ⟨hx, hb, hml, hown, hts⟩ (c_X9_advance l dC dI Q N p29.2 p33 hcp33) (cwV 0 hts hX1_one_X9_advance_v56 rfl rfl rfl (by decide +kernel) ⟨(show 3 + 1 ≤ (50 + 40 * d) by omega), (show 8 + (2 + 11) + 60 * 3 ≤ 60 * (50 + 40 * d) by omega)⟩) ⟨zPre.blind, va_recv hK hC.1 (ci := 8) (q0 := 4) rfl rfl, cPre_go hZ hK hC⟩ rfl rfl hl.1 rfl (lv_room (Nat.le_of_ble_eq_true rfl)) dX1_one_100 (cAcc h32 mo34 hr9)) hC.2.2.1 (fun q _ h => hFc q h) hFc (fun u9 t9 H1 locs ht hvm hw hB hz1 hk1 hS => ?_)
    obtain ⟨⟨hP, hK1, hD1⟩, hsz1⟩ := hB
    rw [ht] at hP hsz1
    have hC : CP dC dI Q A s.heap p33.2 H1 locs := ⟨hP, hD1.weaken (fun _ _ _ h => hFc _ h), hS, hsz1⟩
    generalize H1 = H at hC ⊢
    have h36 : (CS.hs σ) ≤ CS.hs p33.2 := Nat.le_trans h32 mo34
    refine W.widen (k := CS.hs p33.2 - (CS.hs σ)) (n := 17 * (CS.hs p33.2 - (CS.hs σ))) (cAcc2 h32 mo34) (cAcc3 h32 mo34) ?_
    refine lv_iconst (v := 1) hx hb dX1_one_103 (by decide) ?_
    obtain rfl := Option.some.inj hf
    exact W.zret (v := 1) hx hb hr (rfl) (fun t ht hW => ⟨⟨1, (), rfl, rfl, ⟨by rw [ht]; exact hC.1, va_K.moved hW.alike hK, hC.2.1⟩, by rw [ht]; exact hC.2.2.2⟩, hC.2.2.1.F ht⟩) hC.2.2.1.2.2 dX1_one_104
  replace hf := (if_neg c28).symm.trans hf
  by_cases c37 : (σ.i 43) = 223
  ·
    replace hf := (if_pos c37).symm.trans hf
    refine lv_lookup (off := 98) (tgt := 105) hx hb dX1_one_7 (by decide) (by rw [c37]; decide) (by decide) ?_
    refine lv_aload_n hx hb dX1_one_105 rfl (lv_at hl 0 rfl) ?_
    refine cG_29 hx hb hts i_X1_one_X7 hown hK hC (hts (.fieldLink RX1 22 "StatementRules2$Formulas" "code" "LStatementRules2$Code;") k_X1_one_fieldLink_RX1_22_SR_Formulas_code_LSR_Code) (fun _ q9 => q9) dX1_one_106 ?_
    refine lv_iconst (v := 0) hx hb dX1_one_109 (by decide) ?_
    refine lv_iconst (v := 0) hx hb dX1_one_110 (by decide) ?_
    obtain ⟨p38, hcp38, hf⟩ := hf_bind hf
    have mo39 : CS.hs σ ≤ CS.hs p38.2 := Mono.go hcp38 (m_X0_add N σ 0 0)
    have hr9 : CS.hs p38.2 ≤ CS.hs R.2 := Mono.go hf (mono_bind (m_X9_advance N p38.2) (fun p42 => (mono_some (Nat.le_refl _))))
    have hFc := cFree hC hA
    refine va_callv (va_runV (As := [.int 0, .int 0]) (rest := []) ⟨hx, hb, hml, hown, hts⟩ (c_X0_add l dC dI Q N σ 0 0 p38 hcp38) (cwV 2 hts hX1_one_X0_add_v68 rfl rfl rfl (by decide +kernel) ⟨(show 2 + 1 ≤ (50 + 40 * d) by omega), (show 8 + (3 + 11) + 60 * 2 ≤ 60 * (50 + 40 * d) by omega)⟩) ⟨zPre.blind, va_recv hK hC.1 (ci := 0) (q0 := 2) rfl rfl, cPre_go hZ hK hC⟩ rfl rfl hl.1 rfl (lv_room (Nat.le_of_ble_eq_true rfl)) dX1_one_111 (cAcc h0 mo39 hr9)) hC.2.2.1 (fun q _ h => hFc q h) hFc (fun u9 t9 H1 locs ht hvm hw hB hz1 hk1 hS => ?_)
    obtain ⟨⟨hP, hK1, hD1⟩, hsz1⟩ := hB
    rw [ht] at hP hsz1
    have hC : CP dC dI Q A s.heap p38.2 H1 locs := ⟨hP, hD1.weaken (fun _ _ _ h => hFc _ h), hS, hsz1⟩
    generalize H1 = H at hC ⊢
    have h41 : (CS.hs σ) ≤ CS.hs p38.2 := Nat.le_trans h0 mo39
    refine W.widen (k := CS.hs p38.2 - (CS.hs σ)) (n := 17 * (CS.hs p38.2 - (CS.hs σ))) (cAcc2 h0 mo39) (cAcc3 h0 mo39) ?_
    refine lv_aload_n hx hb dX1_one_114 rfl (lv_at hl 0 rfl) ?_
    refine cG_28 hx hb hts i_X1_one_X7 hown hK hC (hts (.fieldLink RX1 18 "StatementRules2$Formulas" "tokens" "LStatementRules2$Tokens;") k_X1_one_fieldLink_RX1_18_SR_Formulas_tokens_LSR_Tokens) (fun _ q9 => q9) dX1_one_115 ?_
    obtain ⟨p42, hcp42, hf⟩ := hf_bind hf
    have mo43 : CS.hs p38.2 ≤ CS.hs p42.2 := Mono.go hcp42 (m_X9_advance N p38.2)
    have hr9 : CS.hs p42.2 ≤ CS.hs R.2 := Mono.go hf (mono_some (Nat.le_refl _))
    have hFc := cFree hC hA
    refine va_callv (va_runV (As := []) (rest := []) ⟨hx, hb, hml, hown, hts⟩ (c_X9_advance l dC dI Q N p38.2 p42 hcp42) (cwV 0 hts hX1_one_X9_advance_v56 rfl rfl rfl (by decide +kernel) ⟨(show 3 + 1 ≤ (50 + 40 * d) by omega), (show 8 + (2 + 11) + 60 * 3 ≤ 60 * (50 + 40 * d) by omega)⟩) ⟨zPre.blind, va_recv hK hC.1 (ci := 8) (q0 := 4) rfl rfl, cPre_go hZ hK hC⟩ rfl rfl hl.1 rfl (lv_room (Nat.le_of_ble_eq_true rfl)) dX1_one_118 (cAcc h41 mo43 hr9)) hC.2.2.1 (fun q _ h => hFc q h) hFc (fun u9 t9 H1 locs ht hvm hw hB hz1 hk1 hS => ?_)
    obtain ⟨⟨hP, hK1, hD1⟩, hsz1⟩ := hB
    rw [ht] at hP hsz1
    have hC : CP dC dI Q A s.heap p42.2 H1 locs := ⟨hP, hD1.weaken (fun _ _ _ h => hFc _ h), hS, hsz1⟩
    generalize H1 = H at hC ⊢
    have h45 : (CS.hs σ) ≤ CS.hs p42.2 := Nat.le_trans h41 mo43
    refine W.widen (k := CS.hs p42.2 - (CS.hs σ)) (n := 17 * (CS.hs p42.2 - (CS.hs σ))) (cAcc2 h41 mo43) (cAcc3 h41 mo43) ?_
    refine lv_iconst (v := 0) hx hb dX1_one_121 (by decide) ?_
    obtain rfl := Option.some.inj hf
    exact W.zret (v := 0) hx hb hr (rfl) (fun t ht hW => ⟨⟨0, (), rfl, rfl, ⟨by rw [ht]; exact hC.1, va_K.moved hW.alike hK, hC.2.1⟩, by rw [ht]; exact hC.2.2.2⟩, hC.2.2.1.F ht⟩) hC.2.2.1.2.2 dX1_one_122
  replace hf := (if_neg c37).symm.trans hf
  refine lv_lookup (off := 135) (tgt := 142) hx hb dX1_one_7 (by decide) (by show Op.lookupswitch.offset [(33, 41), (91, 116), (222, 80), (223, 98)] 135 ((σ.i 43) : Int32).toInt = 135; rw [lv_osw (k := 33) (a := 33) c1 (by decide), lv_osw (k := 91) (a := 91) c15 (by decide), lv_osw (k := 222) (a := 222) c28 (by decide), lv_osw (k := 223) (a := 223) c37 (by decide)]; rfl) (by decide) ?_
  refine lv_aload_n hx hb dX1_one_142 rfl (lv_at hl 0 rfl) ?_
  obtain ⟨p46, hcp46, hf⟩ := hf_bind hf
  have mo47 : CS.hs σ ≤ CS.hs p46.2 := Mono.go hcp46 (m_X1_comparison N E1 E2 hm1 hm2 σ)
  have hr9 : CS.hs p46.2 ≤ CS.hs R.2 := Mono.go hf (mono_some (Nat.le_refl _))
  have hFc := cFree hC hA
  refine va_callv (va_runU (As := []) (rest := []) ⟨hx, hb, hml, hown, hts⟩ (c_X1_comparison l dC dI Q N d E1 E2 hE1 hE2 hm1 hm2 σ p46 hcp46) (va_cwU 0 hts hX1_one_X1_comparison_u156 rfl rfl rfl rfl (by decide +kernel) ⟨(show (13 + 40 * d) + 1 ≤ (50 + 40 * d) by omega), (show 8 + (2 + 11) + 60 * (13 + 40 * d) ≤ 60 * (50 + 40 * d) by omega)⟩) ⟨zPre.blind, va_recv hK hC.1 (ci := 6) (q0 := 3) rfl rfl, cPre_go hZ hK hC⟩ rfl rfl hl.1 rfl (lv_room (Nat.le_of_ble_eq_true rfl)) dX1_one_143 (cAcc h0 mo47 hr9)) hC.2.2.1 (fun q _ h => hFc q h) hFc (fun u9 t9 H1 locs ht hvm hw hB hz1 hk1 hS => ?_)
  obtain ⟨⟨hP, hK1, hD1⟩, hsz1⟩ := hB
  rw [ht] at hP hsz1
  have hC : CP dC dI Q A s.heap p46.2 H1 locs := ⟨hP, hD1.weaken (fun _ _ _ h => hFc _ h), hS, hsz1⟩
  generalize H1 = H at hC ⊢
  have h49 : (CS.hs σ) ≤ CS.hs p46.2 := Nat.le_trans h0 mo47
  refine W.widen (k := CS.hs p46.2 - (CS.hs σ)) (n := 17 * (CS.hs p46.2 - (CS.hs σ))) (cAcc2 h0 mo47) (cAcc3 h0 mo47) ?_
  refine lv_iconst (v := 0) hx hb dX1_one_146 (by decide) ?_
  obtain rfl := Option.some.inj hf
  exact W.zret (v := 0) hx hb hr (rfl) (fun t ht hW => ⟨⟨0, (), rfl, rfl, ⟨by rw [ht]; exact hC.1, va_K.moved hW.alike hK, hC.2.1⟩, by rw [ht]; exact hC.2.2.2⟩, hC.2.2.1.F ht⟩) hC.2.2.1.2.2 dX1_one_147
theorem k_X2_init_methodLink_RX2_1_objectInit : Cond.methodLink RX2 1 objectInit ∈ wzX2_init := List.mem_cons_of_mem _ (List.mem_append_left _ (List.mem_of_getElem? (i := 0) rfl))
theorem k_X2_init_instanceMethod_objectInit : Cond.instanceMethod objectInit ∈ wzX2_init := List.mem_cons_of_mem _ (List.mem_append_left _ (List.mem_of_getElem? (i := 1) rfl))
theorem k_X2_init_code_objectInit_0xb1_1_none : Cond.code objectInit ⟨#[0xb1]⟩ 1 none ∈ wzX2_init := List.mem_cons_of_mem _ (List.mem_append_left _ (List.mem_of_getElem? (i := 2) rfl))
set_option maxHeartbeats 4000000 in
set_option maxRecDepth 100000 in
theorem c_X2_init (l : Launch) (dC : Nat → ClassId) (dI : Nat → Nat → Nat) (Q : CQ) (N : Nat) (σ : CS) (x0 : Nat) (R : Unit × CS) (hf : f_X2_init N σ x0 = some R) : Met l yX2_init wzX2_init ({ frames := 1, cells := CS.hs R.2 - CS.hs σ, slots := 17 * (CS.hs R.2 - CS.hs σ), locals := 60 * 1 }) (va_Pc [.ref x0] (zPre dC dI (CS.hs σ) (cW Q σ) (cT Q))) (va_Qv (fun (_ : Unit) => True) (fun (_ : Unit) (t : State) => zPost dC dI (va_A (cW Q σ) (CS.hs σ)) (cW Q R.2) (cT Q) t ∧ t.heap.size = CS.hs R.2) (va_A (cW Q σ) (CS.hs σ))) (CS.hs R.2 - CS.hs σ) (17 * (CS.hs R.2 - CS.hs σ)) (va_A (cW Q σ) (CS.hs σ)) := by
  refine Met.ofW (cc := cX2_init) (maxL := 1) (ret := none) (by decide) rfl ?_
  intro p e s m args below meth c s₁ B hml hv
  obtain ⟨rfl, hsz, hZ, hP, hK, hD0⟩ := hv
  have hx := B.exec
  have hb := B.bytes
  have hr := B.returns
  have hts := atoms_spec (ws := wzX2_init) B.pre
  have hown : s.vm.findClass RX2 = some m.cls := findClass_of_methodNamed B.named
  have hlocks := B.notSynchronized
  have hin : meth.name = "<init>" := (name_of_methodNamed B.named B.method).1
  have hD := hD0.self (sz := CS.hs σ)
  generalize hAe : va_A (cW Q σ) (CS.hs σ) = A at hD ⊢
  have hA : ∀ q : Nat, s.heap.size ≤ q → A q := fun q h => by rw [← hAe]; exact Or.inr (hsz ▸ h)
  have hC : CP dC dI Q A s.heap σ s.heap [] := ⟨hP, hD, va_S.rf, hsz⟩
  have h0 : CS.hs σ ≤ CS.hs σ := Nat.le_refl _
  have hl := lv_entry ([.ref x0]) (n := 1) (Nat.le_of_ble_eq_true rfl)
  rw [lg_entry_eq]
  generalize (lg_sl ([.ref x0]) ++ List.replicate (1 - (lg_sl ([.ref x0])).length) Slot.unset).toArray = ls at hl ⊢
  have hl : lv_has ls 1 [(0, .ref x0)] := hl
  unfold f_X2_init at hf
  refine W.widen (k := CS.hs σ - CS.hs σ) (n := 17 * (CS.hs σ - CS.hs σ)) (Nat.zero_le _) (Nat.zero_le _) ?_
  refine lv_aload_n hx hb dX2_init_0 rfl (lv_at hl 0 rfl) ?_
  refine W.objInit hx hb hown (hts (.methodLink RX2 1 objectInit) k_X2_init_methodLink_RX2_1_objectInit) (hts (.instanceMethod objectInit) k_X2_init_instanceMethod_objectInit) (hts (.code objectInit ⟨#[0xb1]⟩ 1 none) k_X2_init_code_objectInit_0xb1_1_none) rfl (by rw [hml]; exact hl.1) rfl dX2_init_1 (Nat.le_of_ble_eq_true rfl) (Nat.le_of_ble_eq_true rfl) ?_
  refine W.eq (g2 := F0 m 4 ls []) rfl ?_
  obtain rfl := Option.some.inj hf
  exact W.vret hx hb hr (fun t ht hW => ⟨⟨(), rfl, trivial, ⟨by rw [ht]; exact hC.1, va_K.moved hW.alike hK, hC.2.1⟩, by rw [ht]; exact hC.2.2.2⟩, hC.2.2.1.F ht⟩) hC.2.2.1.2.2 dX2_init_4
theorem k_X3_push_fieldLink_RX3_15_SR_Machine_values_I : Cond.fieldLink RX3 15 "StatementRules2$Machine" "values" "[I" ∈ wzX3_push := List.mem_cons_of_mem _ (List.mem_append_left _ (List.mem_of_getElem? (i := 0) rfl))
theorem i_X3_push_X3 : ∀ w ∈ wsX30, w ∈ wzX3_push := fun _ h => List.mem_cons_of_mem _ (List.mem_append_right _ (List.mem_append_left _ (h)))
theorem k_X3_push_fieldLink_RX3_54_SR_Machine_height_I : Cond.fieldLink RX3 54 "StatementRules2$Machine" "height" "I" ∈ wzX3_push := List.mem_cons_of_mem _ (List.mem_append_left _ (List.mem_of_getElem? (i := 1) rfl))
theorem k_X3_push_initialized_RX11 : Cond.initialized RX11 ∈ wzX3_push := List.mem_cons_of_mem _ (List.mem_append_left _ (List.mem_of_getElem? (i := 2) rfl))
theorem k_X3_push_static_yX11_put : Cond.static yX11_put ∈ wzX3_push := List.mem_cons_of_mem _ (List.mem_append_left _ (List.mem_of_getElem? (i := 3) rfl))
set_option maxHeartbeats 4000000 in
set_option maxRecDepth 100000 in
theorem c_X3_push (l : Launch) (dC : Nat → ClassId) (dI : Nat → Nat → Nat) (Q : CQ) (N : Nat) (σ : CS) (x1 : Int32) (R : Unit × CS) (hf : f_X3_push N σ x1 = some R) : Met l yX3_push wzX3_push ({ frames := 2, cells := CS.hs R.2 - CS.hs σ, slots := 17 * (CS.hs R.2 - CS.hs σ), locals := 60 * 2 }) (va_Pc [.ref (Q.o 7), .int x1] (zPre dC dI (CS.hs σ) (cW Q σ) (cT Q))) (va_Qv (fun (_ : Unit) => True) (fun (_ : Unit) (t : State) => zPost dC dI (va_A (cW Q σ) (CS.hs σ)) (cW Q R.2) (cT Q) t ∧ t.heap.size = CS.hs R.2) (va_A (cW Q σ) (CS.hs σ))) (CS.hs R.2 - CS.hs σ) (17 * (CS.hs R.2 - CS.hs σ)) (va_A (cW Q σ) (CS.hs σ)) := by
  refine Met.ofW (cc := cX3_push) (maxL := 2) (ret := none) (by decide) rfl ?_
  intro p e s m args below meth c s₁ B hml hv
  obtain ⟨rfl, hsz, hZ, hP, hK, hD0⟩ := hv
  have hx := B.exec
  have hb := B.bytes
  have hr := B.returns
  have hts := atoms_spec (ws := wzX3_push) B.pre
  have hown : s.vm.findClass RX3 = some m.cls := findClass_of_methodNamed B.named
  have hlocks := B.notSynchronized
  have hD := hD0.self (sz := CS.hs σ)
  generalize hAe : va_A (cW Q σ) (CS.hs σ) = A at hD ⊢
  have hA : ∀ q : Nat, s.heap.size ≤ q → A q := fun q h => by rw [← hAe]; exact Or.inr (hsz ▸ h)
  have hC : CP dC dI Q A s.heap σ s.heap [] := ⟨hP, hD, va_S.rf, hsz⟩
  have h0 : CS.hs σ ≤ CS.hs σ := Nat.le_refl _
  have hl := lv_entry ([.ref (Q.o 7), .int x1]) (n := 2) (Nat.le_of_ble_eq_true rfl)
  rw [lg_entry_eq]
  generalize (lg_sl ([.ref (Q.o 7), .int x1]) ++ List.replicate (2 - (lg_sl ([.ref (Q.o 7), .int x1])).length) Slot.unset).toArray = ls at hl ⊢
  have hl : lv_has ls 2 [(0, .ref (Q.o 7)), (1, .int x1)] := hl
  unfold f_X3_push at hf
  refine W.widen (k := CS.hs σ - CS.hs σ) (n := 17 * (CS.hs σ - CS.hs σ)) (Nat.zero_le _) (Nat.zero_le _) ?_
  refine lv_aload_n hx hb dX3_push_0 rfl (lv_at hl 0 rfl) ?_
  refine cG_60 hx hb hts i_X3_push_X3 hown hK hC (hts (.fieldLink RX3 15 "StatementRules2$Machine" "values" "[I") k_X3_push_fieldLink_RX3_15_SR_Machine_values_I) (fun _ q9 => q9) dX3_push_1 ?_
  refine lv_aload_n hx hb dX3_push_4 rfl (lv_at hl 0 rfl) ?_
  refine cG_65 (v := (σ.i 65)) hx hb hts i_X3_push_X3 hown hK hC (hts (.fieldLink RX3 54 "StatementRules2$Machine" "height" "I") k_X3_push_fieldLink_RX3_54_SR_Machine_height_I) (fun _ q9 => q9) dX3_push_5 rfl ?_
  refine lv_iload_n hx hb dX3_push_8 rfl (lv_at hl 1 rfl) ?_
  have he9 := (cArr_60 (Q := Q) (σ := σ))
  have hFc := cFree1 hC hA he9
  have hr9 : CS.hs σ ≤ CS.hs R.2 := Mono.go hf (mono_some (Nat.le_refl _))
  refine va_callv (va_runSN (As := [.ref (Q.q 60), .int (σ.i 65), .int x1]) (rest := []) ⟨hx, hb, hml, hown, hts⟩ (c_X11_put l dC dI _ (Q.q 60) (Q.c 0) 600 (σ.a 60) (σ.i 65) x1 (by decide)) ⟨va_cnB 3 hts hX3_push_X11_put_n50 rfl rfl rfl (hZ.1 (.methodLinkNest RX3 50 yX11_put "StatementRules2") (by decide +kernel)) (hts (.initialized RX11) k_X3_push_initialized_RX11) (by decide +kernel) ⟨(show 1 + 1 ≤ 2 by omega), (show 8 + (3 + 11) + 60 * 1 ≤ 60 * 2 by omega)⟩, (hts (.static yX11_put) k_X3_push_static_yX11_put), trivial⟩ ⟨zPre.blind, zPre.go hZ (cOne hC.1 he9) (hK.sub (tys' := [(Q.c 0, .int)]) [0] rfl) (cOneD hC.2.1 he9)⟩ rfl rfl hl.1 rfl (lv_room (Nat.le_of_ble_eq_true rfl)) dX3_push_9 ⟨cAcc4 h0 hr9, cAcc5 h0 hr9⟩) hC.2.2.1 (fun q _ h => hFc q h) hFc (fun u9 t9 H1 locs ht hvm hw hB hz1 hk1 hS => ?_)
  obtain ⟨⟨hP1, hK1, hD1⟩, hsz1⟩ := hB
  rw [ht] at hP1 hsz1
  have hC := cBack (σ' := CS.putA σ 60 (gPut (σ.a 60) 600 (σ.i 65) x1)) hC he9 cPutA_60 (cPutA_h _ _ _) hk1 hP1 hsz1 hS
  generalize H1 = H at hC ⊢
  refine lv_aload_n hx hb dX3_push_12 rfl (lv_at hl 0 rfl) ?_
  refine lv_dup hx hb dX3_push_13 rfl ?_
  refine cG_65 (v := (σ.i 65)) hx hb hts i_X3_push_X3 hown hK hC (hts (.fieldLink RX3 54 "StatementRules2$Machine" "height" "I") k_X3_push_fieldLink_RX3_54_SR_Machine_height_I) (fun _ q9 => q9) dX3_push_14 rfl ?_
  refine lv_iconst (v := 1) hx hb dX3_push_17 (by decide) ?_
  refine lv_iadd hx hb dX3_push_18 ?_
  refine cP_65 (v := ((σ.i 65) + 1)) hx hb hts i_X3_push_X3 hown hK hC (hts (.fieldLink RX3 54 "StatementRules2$Machine" "height" "I") k_X3_push_fieldLink_RX3_54_SR_Machine_height_I) (fun _ q9 => q9) dX3_push_19 (fun H locs hC => ?_)
  obtain rfl := Option.some.inj hf
  exact W.vret hx hb hr (fun t ht hW => ⟨⟨(), rfl, trivial, ⟨by rw [ht]; exact hC.1, va_K.moved hW.alike hK, hC.2.1⟩, by rw [ht]; exact hC.2.2.2⟩, hC.2.2.1.F ht⟩) hC.2.2.1.2.2 dX3_push_22
theorem k_X3_pop_fieldLink_RX3_54_SR_Machine_height_I : Cond.fieldLink RX3 54 "StatementRules2$Machine" "height" "I" ∈ wzX3_pop := List.mem_cons_of_mem _ (List.mem_append_left _ (List.mem_of_getElem? (i := 0) rfl))
theorem i_X3_pop_X3 : ∀ w ∈ wsX30, w ∈ wzX3_pop := fun _ h => List.mem_cons_of_mem _ (List.mem_append_right _ (List.mem_append_left _ (h)))
theorem k_X3_pop_fieldLink_RX3_15_SR_Machine_values_I : Cond.fieldLink RX3 15 "StatementRules2$Machine" "values" "[I" ∈ wzX3_pop := List.mem_cons_of_mem _ (List.mem_append_left _ (List.mem_of_getElem? (i := 1) rfl))
theorem k_X3_pop_initialized_RX11 : Cond.initialized RX11 ∈ wzX3_pop := List.mem_cons_of_mem _ (List.mem_append_left _ (List.mem_of_getElem? (i := 2) rfl))
theorem k_X3_pop_static_yX11_at : Cond.static yX11_at ∈ wzX3_pop := List.mem_cons_of_mem _ (List.mem_append_left _ (List.mem_of_getElem? (i := 3) rfl))
set_option maxHeartbeats 4000000 in
set_option maxRecDepth 100000 in
theorem c_X3_pop (l : Launch) (dC : Nat → ClassId) (dI : Nat → Nat → Nat) (Q : CQ) (N : Nat) (σ : CS) (R : Int32 × CS) (hf : f_X3_pop N σ = some R) : Met l yX3_pop wzX3_pop ({ frames := 2, cells := CS.hs R.2 - CS.hs σ, slots := 17 * (CS.hs R.2 - CS.hs σ), locals := 60 * 2 }) (va_Pc [.ref (Q.o 7)] (zPre dC dI (CS.hs σ) (cW Q σ) (cT Q))) (va_Qi (fun (r : Int32) (_ : Unit) => r = R.1) (fun (_ : Unit) (t : State) => zPost dC dI (va_A (cW Q σ) (CS.hs σ)) (cW Q R.2) (cT Q) t ∧ t.heap.size = CS.hs R.2) (va_A (cW Q σ) (CS.hs σ))) (CS.hs R.2 - CS.hs σ) (17 * (CS.hs R.2 - CS.hs σ)) (va_A (cW Q σ) (CS.hs σ)) := by
  refine Met.ofW (cc := cX3_pop) (maxL := 1) (ret := (some .int)) (by decide) rfl ?_
  intro p e s m args below meth c s₁ B hml hv
  obtain ⟨rfl, hsz, hZ, hP, hK, hD0⟩ := hv
  have hx := B.exec
  have hb := B.bytes
  have hr := B.returns
  have hts := atoms_spec (ws := wzX3_pop) B.pre
  have hown : s.vm.findClass RX3 = some m.cls := findClass_of_methodNamed B.named
  have hlocks := B.notSynchronized
  have hD := hD0.self (sz := CS.hs σ)
  generalize hAe : va_A (cW Q σ) (CS.hs σ) = A at hD ⊢
  have hA : ∀ q : Nat, s.heap.size ≤ q → A q := fun q h => by rw [← hAe]; exact Or.inr (hsz ▸ h)
  have hC : CP dC dI Q A s.heap σ s.heap [] := ⟨hP, hD, va_S.rf, hsz⟩
  have h0 : CS.hs σ ≤ CS.hs σ := Nat.le_refl _
  have hl := lv_entry ([.ref (Q.o 7)]) (n := 1) (Nat.le_of_ble_eq_true rfl)
  rw [lg_entry_eq]
  generalize (lg_sl ([.ref (Q.o 7)]) ++ List.replicate (1 - (lg_sl ([.ref (Q.o 7)])).length) Slot.unset).toArray = ls at hl ⊢
  have hl : lv_has ls 1 [(0, .ref (Q.o 7))] := hl
  unfold f_X3_pop at hf
  refine W.widen (k := CS.hs σ - CS.hs σ) (n := 17 * (CS.hs σ - CS.hs σ)) (Nat.zero_le _) (Nat.zero_le _) ?_
  refine lv_aload_n hx hb dX3_pop_0 rfl (lv_at hl 0 rfl) ?_
  refine lv_dup hx hb dX3_pop_1 rfl ?_
  refine cG_65 (v := (σ.i 65)) hx hb hts i_X3_pop_X3 hown hK hC (hts (.fieldLink RX3 54 "StatementRules2$Machine" "height" "I") k_X3_pop_fieldLink_RX3_54_SR_Machine_height_I) (fun _ q9 => q9) dX3_pop_2 rfl ?_
  refine lv_iconst (v := 1) hx hb dX3_pop_5 (by decide) ?_
  refine lv_isub hx hb dX3_pop_6 ?_
  refine cP_65 (v := ((σ.i 65) - 1)) hx hb hts i_X3_pop_X3 hown hK hC (hts (.fieldLink RX3 54 "StatementRules2$Machine" "height" "I") k_X3_pop_fieldLink_RX3_54_SR_Machine_height_I) (fun _ q9 => q9) dX3_pop_7 (fun H locs hC => ?_)
  refine lv_aload_n hx hb dX3_pop_10 rfl (lv_at hl 0 rfl) ?_
  refine cG_60 hx hb hts i_X3_pop_X3 hown hK hC (hts (.fieldLink RX3 15 "StatementRules2$Machine" "values" "[I") k_X3_pop_fieldLink_RX3_15_SR_Machine_values_I) (fun _ q9 => q9) dX3_pop_11 ?_
  refine lv_aload_n hx hb dX3_pop_14 rfl (lv_at hl 0 rfl) ?_
  refine cG_65 (v := ((σ.i 65) - 1)) hx hb hts i_X3_pop_X3 hown hK hC (hts (.fieldLink RX3 54 "StatementRules2$Machine" "height" "I") k_X3_pop_fieldLink_RX3_54_SR_Machine_height_I) (fun _ q9 => q9) dX3_pop_15 rfl ?_
  have he9 := (cArr_60 (Q := Q) (σ := CS.setI σ 65 ((σ.i 65) - 1)))
  have hFc := cFree1 hC hA he9
  have hr9 : CS.hs σ ≤ CS.hs R.2 := Mono.go hf (mono_some (Nat.le_refl _))
  refine va_calli (va_runSN (As := [.ref (Q.q 60), .int ((σ.i 65) - 1)]) (rest := []) ⟨hx, hb, hml, hown, hts⟩ (c_X11_at l dC dI _ (Q.q 60) (Q.c 0) 600 (CS.a (CS.setI σ 65 ((σ.i 65) - 1)) 60) ((σ.i 65) - 1) (by decide)) ⟨va_cnB 2 hts hX3_pop_X11_at_n111 rfl rfl rfl (hZ.1 (.methodLinkNest RX3 111 yX11_at "StatementRules2") (by decide +kernel)) (hts (.initialized RX11) k_X3_pop_initialized_RX11) (by decide +kernel) ⟨(show 1 + 1 ≤ 2 by omega), (show 8 + (2 + 11) + 60 * 1 ≤ 60 * 2 by omega)⟩, (hts (.static yX11_at) k_X3_pop_static_yX11_at), trivial⟩ ⟨zPre.blind, zPre.go hZ (cOne hC.1 he9) (hK.sub (tys' := [(Q.c 0, .int)]) [0] rfl) (cOneD hC.2.1 he9)⟩ rfl rfl hl.1 rfl (lv_room (Nat.le_of_ble_eq_true rfl)) dX3_pop_18 ⟨cAcc4 h0 hr9, cAcc5 h0 hr9⟩) hC.2.2.1 (fun q _ h => hFc q h) hFc (fun r1 u9 t9 H1 locs ht hvm hw hB hz1 hk1 hS => ?_)
  obtain ⟨⟨hP1, hK1, hD1⟩, hsz1⟩ := hB
  rw [ht] at hP1 hsz1
  have hC := cBack (σ' := CS.setI σ 65 ((σ.i 65) - 1)) hC he9 (cSelf he9) (Eq.refl (CS.hs (CS.setI σ 65 ((σ.i 65) - 1)))) hk1 hP1 hsz1 hS
  generalize H1 = H at hC ⊢
  obtain rfl : r1 = (gAt (CS.a (CS.setI σ 65 ((σ.i 65) - 1)) 60) 600 ((σ.i 65) - 1)) := hw
  obtain rfl := Option.some.inj hf
  exact W.iret (v := (gAt (CS.a (CS.setI σ 65 ((σ.i 65) - 1)) 60) 600 ((σ.i 65) - 1))) hx hb hr (fun t ht hW => ⟨⟨(gAt (CS.a (CS.setI σ 65 ((σ.i 65) - 1)) 60) 600 ((σ.i 65) - 1)), (), rfl, rfl, ⟨by rw [ht]; exact hC.1, va_K.moved hW.alike hK, hC.2.1⟩, by rw [ht]; exact hC.2.2.2⟩, hC.2.2.1.F ht⟩) hC.2.2.1.2.2 dX3_pop_21
theorem k_X3_move_fieldLink_RX3_9_SR_Machine_cells_I : Cond.fieldLink RX3 9 "StatementRules2$Machine" "cells" "[I" ∈ wzX3_move := List.mem_cons_of_mem _ (List.mem_append_left _ (List.mem_of_getElem? (i := 0) rfl))
theorem i_X3_move_X3 : ∀ w ∈ wsX30, w ∈ wzX3_move := fun _ h => List.mem_cons_of_mem _ (List.mem_append_right _ (List.mem_append_left _ (h)))
theorem k_X3_move_initialized_RX11 : Cond.initialized RX11 ∈ wzX3_move := List.mem_cons_of_mem _ (List.mem_append_left _ (List.mem_of_getElem? (i := 1) rfl))
theorem k_X3_move_static_yX11_at : Cond.static yX11_at ∈ wzX3_move := List.mem_cons_of_mem _ (List.mem_append_left _ (List.mem_of_getElem? (i := 2) rfl))
theorem k_X3_move_static_yX11_put : Cond.static yX11_put ∈ wzX3_move := List.mem_cons_of_mem _ (List.mem_append_left _ (List.mem_of_getElem? (i := 3) rfl))
set_option maxHeartbeats 4000000 in
set_option maxRecDepth 100000 in
theorem c_X3_move (l : Launch) (dC : Nat → ClassId) (dI : Nat → Nat → Nat) (Q : CQ) (N : Nat) (σ : CS) (x1 : Int32) (x2 : Int32) (R : Unit × CS) (hf : f_X3_move N σ x1 x2 = some R) : Met l yX3_move wzX3_move ({ frames := 3, cells := CS.hs R.2 - CS.hs σ, slots := 17 * (CS.hs R.2 - CS.hs σ), locals := 60 * 3 }) (va_Pc [.ref (Q.o 7), .int x1, .int x2] (zPre dC dI (CS.hs σ) (cW Q σ) (cT Q))) (va_Qv (fun (_ : Unit) => True) (fun (_ : Unit) (t : State) => zPost dC dI (va_A (cW Q σ) (CS.hs σ)) (cW Q R.2) (cT Q) t ∧ t.heap.size = CS.hs R.2) (va_A (cW Q σ) (CS.hs σ))) (CS.hs R.2 - CS.hs σ) (17 * (CS.hs R.2 - CS.hs σ)) (va_A (cW Q σ) (CS.hs σ)) := by
  refine Met.ofW (cc := cX3_move) (maxL := 3) (ret := none) (by decide) rfl ?_
  intro p e s m args below meth c s₁ B hml hv
  obtain ⟨rfl, hsz, hZ, hP, hK, hD0⟩ := hv
  have hx := B.exec
  have hb := B.bytes
  have hr := B.returns
  have hts := atoms_spec (ws := wzX3_move) B.pre
  have hown : s.vm.findClass RX3 = some m.cls := findClass_of_methodNamed B.named
  have hlocks := B.notSynchronized
  have hD := hD0.self (sz := CS.hs σ)
  generalize hAe : va_A (cW Q σ) (CS.hs σ) = A at hD ⊢
  have hA : ∀ q : Nat, s.heap.size ≤ q → A q := fun q h => by rw [← hAe]; exact Or.inr (hsz ▸ h)
  have hC : CP dC dI Q A s.heap σ s.heap [] := ⟨hP, hD, va_S.rf, hsz⟩
  have h0 : CS.hs σ ≤ CS.hs σ := Nat.le_refl _
  have hl := lv_entry ([.ref (Q.o 7), .int x1, .int x2]) (n := 3) (Nat.le_of_ble_eq_true rfl)
  rw [lg_entry_eq]
  generalize (lg_sl ([.ref (Q.o 7), .int x1, .int x2]) ++ List.replicate (3 - (lg_sl ([.ref (Q.o 7), .int x1, .int x2])).length) Slot.unset).toArray = ls at hl ⊢
  have hl : lv_has ls 3 [(0, .ref (Q.o 7)), (1, .int x1), (2, .int x2)] := hl
  unfold f_X3_move at hf
  refine W.widen (k := CS.hs σ - CS.hs σ) (n := 17 * (CS.hs σ - CS.hs σ)) (Nat.zero_le _) (Nat.zero_le _) ?_
  refine lv_iload_n hx hb dX3_move_0 rfl (lv_at hl 1 rfl) ?_
  by_cases c1 : x1 = 0
  ·
    replace hf := (if_pos c1).symm.trans hf
    refine lv_tableIn (off := 39) (tgt := 40) hx hb dX3_move_1 (by rw [c1]; decide) (by rw [c1]; decide) (by rw [c1]; decide) (by decide) ?_
    refine lv_aload_n hx hb dX3_move_40 rfl (lv_at hl 0 rfl) ?_
    refine lv_iload_n hx hb dX3_move_41 rfl (lv_at hl 2 rfl) ?_
    obtain ⟨p2, hcp2, hf⟩ := hf_bind hf
    have mo3 : CS.hs σ ≤ CS.hs p2.2 := Mono.go hcp2 (m_X3_push N σ x2)
    have hr9 : CS.hs p2.2 ≤ CS.hs R.2 := Mono.go hf (mono_some (Nat.le_refl _))
    have hFc := cFree hC hA
    refine va_callv (va_runV (As := [.int x2]) (rest := []) ⟨hx, hb, hml, hown, hts⟩ (c_X3_push l dC dI Q N σ x2 p2 hcp2) (cwV 1 hts hX3_move_X3_push_v135 rfl rfl rfl (by decide +kernel) ⟨(show 2 + 1 ≤ 3 by omega), (show 8 + (2 + 11) + 60 * 2 ≤ 60 * 3 by omega)⟩) ⟨zPre.blind, va_recv hK hC.1 (ci := 2) (q0 := 7) rfl rfl, cPre_go hZ hK hC⟩ rfl rfl hl.1 rfl (lv_room (Nat.le_of_ble_eq_true rfl)) dX3_move_42 (cAcc h0 mo3 hr9)) hC.2.2.1 (fun q _ h => hFc q h) hFc (fun u9 t9 H1 locs ht hvm hw hB hz1 hk1 hS => ?_)
    obtain ⟨⟨hP, hK1, hD1⟩, hsz1⟩ := hB
    rw [ht] at hP hsz1
    have hC : CP dC dI Q A s.heap p2.2 H1 locs := ⟨hP, hD1.weaken (fun _ _ _ h => hFc _ h), hS, hsz1⟩
    generalize H1 = H at hC ⊢
    have h5 : (CS.hs σ) ≤ CS.hs p2.2 := Nat.le_trans h0 mo3
    refine W.widen (k := CS.hs p2.2 - (CS.hs σ)) (n := 17 * (CS.hs p2.2 - (CS.hs σ))) (cAcc2 h0 mo3) (cAcc3 h0 mo3) ?_
    refine lv_goto (tgt := 129) hx hb dX3_move_45 (by decide) ?_
    obtain rfl := Option.some.inj hf
    exact W.vret hx hb hr (fun t ht hW => ⟨⟨(), rfl, trivial, ⟨by rw [ht]; exact hC.1, va_K.moved hW.alike hK, hC.2.1⟩, by rw [ht]; exact hC.2.2.2⟩, hC.2.2.1.F ht⟩) hC.2.2.1.2.2 dX3_move_129
  replace hf := (if_neg c1).symm.trans hf
  by_cases c6 : x1 = 1
  ·
    replace hf := (if_pos c6).symm.trans hf
    refine lv_tableIn (off := 47) (tgt := 48) hx hb dX3_move_1 (by rw [c6]; decide) (by rw [c6]; decide) (by rw [c6]; decide) (by decide) ?_
    refine lv_aload_n hx hb dX3_move_48 rfl (lv_at hl 0 rfl) ?_
    refine lv_aload_n hx hb dX3_move_49 rfl (lv_at hl 0 rfl) ?_
    refine cG_59 hx hb hts i_X3_move_X3 hown hK hC (hts (.fieldLink RX3 9 "StatementRules2$Machine" "cells" "[I") k_X3_move_fieldLink_RX3_9_SR_Machine_cells_I) (fun _ q9 => q9) dX3_move_50 ?_
    refine lv_iload_n hx hb dX3_move_53 rfl (lv_at hl 2 rfl) ?_
    have he9 := (cArr_59 (Q := Q) (σ := σ))
    have hFc := cFree1 hC hA he9
    have hr9 : CS.hs σ ≤ CS.hs R.2 := Mono.go hf (mono_bind (m_X3_push N σ (gAt (σ.a 59) 720 x2)) (fun p8 => (mono_some (Nat.le_refl _))))
    refine va_calli (va_runSN (As := [.ref (Q.q 59), .int x2]) (rest := [.ref (Q.o 7)]) ⟨hx, hb, hml, hown, hts⟩ (c_X11_at l dC dI _ (Q.q 59) (Q.c 0) 720 (σ.a 59) x2 (by decide)) ⟨va_cnB 2 hts hX3_move_X11_at_n111 rfl rfl rfl (hZ.1 (.methodLinkNest RX3 111 yX11_at "StatementRules2") (by decide +kernel)) (hts (.initialized RX11) k_X3_move_initialized_RX11) (by decide +kernel) ⟨(show 1 + 1 ≤ 3 by omega), (show 8 + (2 + 11) + 60 * 1 ≤ 60 * 3 by omega)⟩, (hts (.static yX11_at) k_X3_move_static_yX11_at), trivial⟩ ⟨zPre.blind, zPre.go hZ (cOne hC.1 he9) (hK.sub (tys' := [(Q.c 0, .int)]) [0] rfl) (cOneD hC.2.1 he9)⟩ rfl rfl hl.1 rfl (lv_room (Nat.le_of_ble_eq_true rfl)) dX3_move_54 ⟨cAcc4 h0 hr9, cAcc5 h0 hr9⟩) hC.2.2.1 (fun q _ h => hFc q h) hFc (fun r7 u9 t9 H1 locs ht hvm hw hB hz1 hk1 hS => ?_)
    obtain ⟨⟨hP1, hK1, hD1⟩, hsz1⟩ := hB
    rw [ht] at hP1 hsz1
    have hC := cBack (σ' := σ) hC he9 (cSelf he9) (Eq.refl (CS.hs σ)) hk1 hP1 hsz1 hS
    generalize H1 = H at hC ⊢
    obtain rfl : r7 = (gAt (σ.a 59) 720 x2) := hw
    obtain ⟨p8, hcp8, hf⟩ := hf_bind hf
    have mo9 : CS.hs σ ≤ CS.hs p8.2 := Mono.go hcp8 (m_X3_push N σ (gAt (σ.a 59) 720 x2))
    have hr9 : CS.hs p8.2 ≤ CS.hs R.2 := Mono.go hf (mono_some (Nat.le_refl _))
    have hFc := cFree hC hA
    refine va_callv (va_runV (As := [.int (gAt (σ.a 59) 720 x2)]) (rest := []) ⟨hx, hb, hml, hown, hts⟩ (c_X3_push l dC dI Q N σ (gAt (σ.a 59) 720 x2) p8 hcp8) (cwV 1 hts hX3_move_X3_push_v135 rfl rfl rfl (by decide +kernel) ⟨(show 2 + 1 ≤ 3 by omega), (show 8 + (2 + 11) + 60 * 2 ≤ 60 * 3 by omega)⟩) ⟨zPre.blind, va_recv hK hC.1 (ci := 2) (q0 := 7) rfl rfl, cPre_go hZ hK hC⟩ rfl rfl hl.1 rfl (lv_room (Nat.le_of_ble_eq_true rfl)) dX3_move_57 (cAcc h0 mo9 hr9)) hC.2.2.1 (fun q _ h => hFc q h) hFc (fun u9 t9 H1 locs ht hvm hw hB hz1 hk1 hS => ?_)
    obtain ⟨⟨hP, hK1, hD1⟩, hsz1⟩ := hB
    rw [ht] at hP hsz1
    have hC : CP dC dI Q A s.heap p8.2 H1 locs := ⟨hP, hD1.weaken (fun _ _ _ h => hFc _ h), hS, hsz1⟩
    generalize H1 = H at hC ⊢
    have h11 : (CS.hs σ) ≤ CS.hs p8.2 := Nat.le_trans h0 mo9
    refine W.widen (k := CS.hs p8.2 - (CS.hs σ)) (n := 17 * (CS.hs p8.2 - (CS.hs σ))) (cAcc2 h0 mo9) (cAcc3 h0 mo9) ?_
    refine lv_goto (tgt := 129) hx hb dX3_move_60 (by decide) ?_
    obtain rfl := Option.some.inj hf
    exact W.vret hx hb hr (fun t ht hW => ⟨⟨(), rfl, trivial, ⟨by rw [ht]; exact hC.1, va_K.moved hW.alike hK, hC.2.1⟩, by rw [ht]; exact hC.2.2.2⟩, hC.2.2.1.F ht⟩) hC.2.2.1.2.2 dX3_move_129
  replace hf := (if_neg c6).symm.trans hf
  by_cases c12 : x1 = 2
  ·
    replace hf := (if_pos c12).symm.trans hf
    refine lv_tableIn (off := 62) (tgt := 63) hx hb dX3_move_1 (by rw [c12]; decide) (by rw [c12]; decide) (by rw [c12]; decide) (by decide) ?_
    refine lv_aload_n hx hb dX3_move_63 rfl (lv_at hl 0 rfl) ?_
    refine cG_59 hx hb hts i_X3_move_X3 hown hK hC (hts (.fieldLink RX3 9 "StatementRules2$Machine" "cells" "[I") k_X3_move_fieldLink_RX3_9_SR_Machine_cells_I) (fun _ q9 => q9) dX3_move_64 ?_
    refine lv_iload_n hx hb dX3_move_67 rfl (lv_at hl 2 rfl) ?_
    refine lv_aload_n hx hb dX3_move_68 rfl (lv_at hl 0 rfl) ?_
    obtain ⟨p13, hcp13, hf⟩ := hf_bind hf
    have mo14 : CS.hs σ ≤ CS.hs p13.2 := Mono.go hcp13 (m_X3_pop N σ)
    have hr9 : CS.hs p13.2 ≤ CS.hs R.2 := Mono.go hf (mono_some (Nat.le_refl _))
    have hFc := cFree hC hA
    refine va_calli (va_runV (As := []) (rest := [.int x2, .ref (Q.q 59)]) ⟨hx, hb, hml, hown, hts⟩ (c_X3_pop l dC dI Q N σ p13 hcp13) (cwV 0 hts hX3_move_X3_pop_v138 rfl rfl rfl (by decide +kernel) ⟨(show 2 + 1 ≤ 3 by omega), (show 8 + (1 + 11) + 60 * 2 ≤ 60 * 3 by omega)⟩) ⟨zPre.blind, va_recv hK hC.1 (ci := 2) (q0 := 7) rfl rfl, cPre_go hZ hK hC⟩ rfl rfl hl.1 rfl (lv_room (Nat.le_of_ble_eq_true rfl)) dX3_move_69 (cAcc h0 mo14 hr9)) hC.2.2.1 (fun q _ h => hFc q h) hFc (fun r15 u9 t9 H1 locs ht hvm hw hB hz1 hk1 hS => ?_)
    obtain ⟨⟨hP, hK1, hD1⟩, hsz1⟩ := hB
    rw [ht] at hP hsz1
    have hC : CP dC dI Q A s.heap p13.2 H1 locs := ⟨hP, hD1.weaken (fun _ _ _ h => hFc _ h), hS, hsz1⟩
    generalize H1 = H at hC ⊢
    have h16 : (CS.hs σ) ≤ CS.hs p13.2 := Nat.le_trans h0 mo14
    refine W.widen (k := CS.hs p13.2 - (CS.hs σ)) (n := 17 * (CS.hs p13.2 - (CS.hs σ))) (cAcc2 h0 mo14) (cAcc3 h0 mo14) ?_
    obtain rfl : r15 = p13.1 := hw
    have he9 := (cArr_59 (Q := Q) (σ := p13.2))
    have hFc := cFree1 hC hA he9
    have hr9 : CS.hs p13.2 ≤ CS.hs R.2 := Mono.go hf (mono_some (Nat.le_refl _))
    refine va_callv (va_runSN (As := [.ref (Q.q 59), .int x2, .int p13.1]) (rest := []) ⟨hx, hb, hml, hown, hts⟩ (c_X11_put l dC dI _ (Q.q 59) (Q.c 0) 720 (p13.2.a 59) x2 p13.1 (by decide)) ⟨va_cnB 3 hts hX3_move_X11_put_n50 rfl rfl rfl (hZ.1 (.methodLinkNest RX3 50 yX11_put "StatementRules2") (by decide +kernel)) (hts (.initialized RX11) k_X3_move_initialized_RX11) (by decide +kernel) ⟨(show 1 + 1 ≤ 3 by omega), (show 8 + (3 + 11) + 60 * 1 ≤ 60 * 3 by omega)⟩, (hts (.static yX11_put) k_X3_move_static_yX11_put), trivial⟩ ⟨zPre.blind, zPre.go hZ (cOne hC.1 he9) (hK.sub (tys' := [(Q.c 0, .int)]) [0] rfl) (cOneD hC.2.1 he9)⟩ rfl rfl hl.1 rfl (lv_room (Nat.le_of_ble_eq_true rfl)) dX3_move_72 ⟨cAcc4 h16 hr9, cAcc5 h16 hr9⟩) hC.2.2.1 (fun q _ h => hFc q h) hFc (fun u9 t9 H1 locs ht hvm hw hB hz1 hk1 hS => ?_)
    obtain ⟨⟨hP1, hK1, hD1⟩, hsz1⟩ := hB
    rw [ht] at hP1 hsz1
    have hC := cBack (σ' := CS.putA p13.2 59 (gPut (p13.2.a 59) 720 x2 p13.1)) hC he9 cPutA_59 (cPutA_h _ _ _) hk1 hP1 hsz1 hS
    generalize H1 = H at hC ⊢
    refine lv_goto (tgt := 129) hx hb dX3_move_75 (by decide) ?_
    obtain rfl := Option.some.inj hf
    exact W.vret hx hb hr (fun t ht hW => ⟨⟨(), rfl, trivial, ⟨by rw [ht]; exact hC.1, va_K.moved hW.alike hK, hC.2.1⟩, by rw [ht]; exact hC.2.2.2⟩, hC.2.2.1.F ht⟩) hC.2.2.1.2.2 dX3_move_129
  replace hf := (if_neg c12).symm.trans hf
  by_cases c17 : x1 = 3
  ·
    replace hf := (if_pos c17).symm.trans hf
    refine lv_tableIn (off := 77) (tgt := 78) hx hb dX3_move_1 (by rw [c17]; decide) (by rw [c17]; decide) (by rw [c17]; decide) (by decide) ?_
    refine lv_aload_n hx hb dX3_move_78 rfl (lv_at hl 0 rfl) ?_
    refine cG_59 hx hb hts i_X3_move_X3 hown hK hC (hts (.fieldLink RX3 9 "StatementRules2$Machine" "cells" "[I") k_X3_move_fieldLink_RX3_9_SR_Machine_cells_I) (fun _ q9 => q9) dX3_move_79 ?_
    refine lv_iload_n hx hb dX3_move_82 rfl (lv_at hl 2 rfl) ?_
    refine lv_aload_n hx hb dX3_move_83 rfl (lv_at hl 0 rfl) ?_
    refine cG_59 hx hb hts i_X3_move_X3 hown hK hC (hts (.fieldLink RX3 9 "StatementRules2$Machine" "cells" "[I") k_X3_move_fieldLink_RX3_9_SR_Machine_cells_I) (fun _ q9 => q9) dX3_move_84 ?_
    refine lv_iload_n hx hb dX3_move_87 rfl (lv_at hl 2 rfl) ?_
    have he9 := (cArr_59 (Q := Q) (σ := σ))
    have hFc := cFree1 hC hA he9
    have hr9 : CS.hs σ ≤ CS.hs R.2 := Mono.go hf (mono_some (Nat.le_refl _))
    refine va_calli (va_runSN (As := [.ref (Q.q 59), .int x2]) (rest := [.int x2, .ref (Q.q 59)]) ⟨hx, hb, hml, hown, hts⟩ (c_X11_at l dC dI _ (Q.q 59) (Q.c 0) 720 (σ.a 59) x2 (by decide)) ⟨va_cnB 2 hts hX3_move_X11_at_n111 rfl rfl rfl (hZ.1 (.methodLinkNest RX3 111 yX11_at "StatementRules2") (by decide +kernel)) (hts (.initialized RX11) k_X3_move_initialized_RX11) (by decide +kernel) ⟨(show 1 + 1 ≤ 3 by omega), (show 8 + (2 + 11) + 60 * 1 ≤ 60 * 3 by omega)⟩, (hts (.static yX11_at) k_X3_move_static_yX11_at), trivial⟩ ⟨zPre.blind, zPre.go hZ (cOne hC.1 he9) (hK.sub (tys' := [(Q.c 0, .int)]) [0] rfl) (cOneD hC.2.1 he9)⟩ rfl rfl hl.1 rfl (lv_room (Nat.le_of_ble_eq_true rfl)) dX3_move_88 ⟨cAcc4 h0 hr9, cAcc5 h0 hr9⟩) hC.2.2.1 (fun q _ h => hFc q h) hFc (fun r18 u9 t9 H1 locs ht hvm hw hB hz1 hk1 hS => ?_)
    obtain ⟨⟨hP1, hK1, hD1⟩, hsz1⟩ := hB
    rw [ht] at hP1 hsz1
    have hC := cBack (σ' := σ) hC he9 (cSelf he9) (Eq.refl (CS.hs σ)) hk1 hP1 hsz1 hS
    generalize H1 = H at hC ⊢
    obtain rfl : r18 = (gAt (σ.a 59) 720 x2) := hw
    refine lv_iconst (v := 1) hx hb dX3_move_91 (by decide) ?_
    refine lv_iadd hx hb dX3_move_92 ?_
    have he9 := (cArr_59 (Q := Q) (σ := σ))
    have hFc := cFree1 hC hA he9
    have hr9 : CS.hs σ ≤ CS.hs R.2 := Mono.go hf (mono_some (Nat.le_refl _))
    refine va_callv (va_runSN (As := [.ref (Q.q 59), .int x2, .int ((gAt (σ.a 59) 720 x2) + 1)]) (rest := []) ⟨hx, hb, hml, hown, hts⟩ (c_X11_put l dC dI _ (Q.q 59) (Q.c 0) 720 (σ.a 59) x2 ((gAt (σ.a 59) 720 x2) + 1) (by decide)) ⟨va_cnB 3 hts hX3_move_X11_put_n50 rfl rfl rfl (hZ.1 (.methodLinkNest RX3 50 yX11_put "StatementRules2") (by decide +kernel)) (hts (.initialized RX11) k_X3_move_initialized_RX11) (by decide +kernel) ⟨(show 1 + 1 ≤ 3 by omega), (show 8 + (3 + 11) + 60 * 1 ≤ 60 * 3 by omega)⟩, (hts (.static yX11_put) k_X3_move_static_yX11_put), trivial⟩ ⟨zPre.blind, zPre.go hZ (cOne hC.1 he9) (hK.sub (tys' := [(Q.c 0, .int)]) [0] rfl) (cOneD hC.2.1 he9)⟩ rfl rfl hl.1 rfl (lv_room (Nat.le_of_ble_eq_true rfl)) dX3_move_93 ⟨cAcc4 h0 hr9, cAcc5 h0 hr9⟩) hC.2.2.1 (fun q _ h => hFc q h) hFc (fun u9 t9 H1 locs ht hvm hw hB hz1 hk1 hS => ?_)
    obtain ⟨⟨hP1, hK1, hD1⟩, hsz1⟩ := hB
    rw [ht] at hP1 hsz1
    have hC := cBack (σ' := CS.putA σ 59 (gPut (σ.a 59) 720 x2 ((gAt (σ.a 59) 720 x2) + 1))) hC he9 cPutA_59 (cPutA_h _ _ _) hk1 hP1 hsz1 hS
    generalize H1 = H at hC ⊢
    refine lv_goto (tgt := 129) hx hb dX3_move_96 (by decide) ?_
    obtain rfl := Option.some.inj hf
    exact W.vret hx hb hr (fun t ht hW => ⟨⟨(), rfl, trivial, ⟨by rw [ht]; exact hC.1, va_K.moved hW.alike hK, hC.2.1⟩, by rw [ht]; exact hC.2.2.2⟩, hC.2.2.1.F ht⟩) hC.2.2.1.2.2 dX3_move_129
  replace hf := (if_neg c17).symm.trans hf
  by_cases c19 : x1 = 4
  ·
    replace hf := (if_pos c19).symm.trans hf
    refine lv_tableIn (off := 98) (tgt := 99) hx hb dX3_move_1 (by rw [c19]; decide) (by rw [c19]; decide) (by rw [c19]; decide) (by decide) ?_
    refine lv_aload_n hx hb dX3_move_99 rfl (lv_at hl 0 rfl) ?_
    refine lv_aload_n hx hb dX3_move_100 rfl (lv_at hl 0 rfl) ?_
    obtain ⟨p20, hcp20, hf⟩ := hf_bind hf
    have mo21 : CS.hs σ ≤ CS.hs p20.2 := Mono.go hcp20 (m_X3_pop N σ)
    have hr9 : CS.hs p20.2 ≤ CS.hs R.2 := Mono.go hf (mono_bind (m_X3_push N p20.2 (-p20.1)) (fun p24 => (mono_some (Nat.le_refl _))))
    have hFc := cFree hC hA
    refine va_calli (va_runV (As := []) (rest := [.ref (Q.o 7)]) ⟨hx, hb, hml, hown, hts⟩ (c_X3_pop l dC dI Q N σ p20 hcp20) (cwV 0 hts hX3_move_X3_pop_v138 rfl rfl rfl (by decide +kernel) ⟨(show 2 + 1 ≤ 3 by omega), (show 8 + (1 + 11) + 60 * 2 ≤ 60 * 3 by omega)⟩) ⟨zPre.blind, va_recv hK hC.1 (ci := 2) (q0 := 7) rfl rfl, cPre_go hZ hK hC⟩ rfl rfl hl.1 rfl (lv_room (Nat.le_of_ble_eq_true rfl)) dX3_move_101 (cAcc h0 mo21 hr9)) hC.2.2.1 (fun q _ h => hFc q h) hFc (fun r22 u9 t9 H1 locs ht hvm hw hB hz1 hk1 hS => ?_)
    obtain ⟨⟨hP, hK1, hD1⟩, hsz1⟩ := hB
    rw [ht] at hP hsz1
    have hC : CP dC dI Q A s.heap p20.2 H1 locs := ⟨hP, hD1.weaken (fun _ _ _ h => hFc _ h), hS, hsz1⟩
    generalize H1 = H at hC ⊢
    have h23 : (CS.hs σ) ≤ CS.hs p20.2 := Nat.le_trans h0 mo21
    refine W.widen (k := CS.hs p20.2 - (CS.hs σ)) (n := 17 * (CS.hs p20.2 - (CS.hs σ))) (cAcc2 h0 mo21) (cAcc3 h0 mo21) ?_
    obtain rfl : r22 = p20.1 := hw
    refine lv_ineg hx hb dX3_move_104 ?_
    obtain ⟨p24, hcp24, hf⟩ := hf_bind hf
    have mo25 : CS.hs p20.2 ≤ CS.hs p24.2 := Mono.go hcp24 (m_X3_push N p20.2 (-p20.1))
    have hr9 : CS.hs p24.2 ≤ CS.hs R.2 := Mono.go hf (mono_some (Nat.le_refl _))
    have hFc := cFree hC hA
    refine va_callv (va_runV (As := [.int (-p20.1)]) (rest := []) ⟨hx, hb, hml, hown, hts⟩ (c_X3_push l dC dI Q N p20.2 (-p20.1) p24 hcp24) (cwV 1 hts hX3_move_X3_push_v135 rfl rfl rfl (by decide +kernel) ⟨(show 2 + 1 ≤ 3 by omega), (show 8 + (2 + 11) + 60 * 2 ≤ 60 * 3 by omega)⟩) ⟨zPre.blind, va_recv hK hC.1 (ci := 2) (q0 := 7) rfl rfl, cPre_go hZ hK hC⟩ rfl rfl hl.1 rfl (lv_room (Nat.le_of_ble_eq_true rfl)) dX3_move_105 (cAcc h23 mo25 hr9)) hC.2.2.1 (fun q _ h => hFc q h) hFc (fun u9 t9 H1 locs ht hvm hw hB hz1 hk1 hS => ?_)
    obtain ⟨⟨hP, hK1, hD1⟩, hsz1⟩ := hB
    rw [ht] at hP hsz1
    have hC : CP dC dI Q A s.heap p24.2 H1 locs := ⟨hP, hD1.weaken (fun _ _ _ h => hFc _ h), hS, hsz1⟩
    generalize H1 = H at hC ⊢
    have h27 : (CS.hs σ) ≤ CS.hs p24.2 := Nat.le_trans h23 mo25
    refine W.widen (k := CS.hs p24.2 - (CS.hs σ)) (n := 17 * (CS.hs p24.2 - (CS.hs σ))) (cAcc2 h23 mo25) (cAcc3 h23 mo25) ?_
    refine lv_goto (tgt := 129) hx hb dX3_move_108 (by decide) ?_
    obtain rfl := Option.some.inj hf
    exact W.vret hx hb hr (fun t ht hW => ⟨⟨(), rfl, trivial, ⟨by rw [ht]; exact hC.1, va_K.moved hW.alike hK, hC.2.1⟩, by rw [ht]; exact hC.2.2.2⟩, hC.2.2.1.F ht⟩) hC.2.2.1.2.2 dX3_move_129
  replace hf := (if_neg c19).symm.trans hf
  by_cases c28 : x1 = 5
  ·
    replace hf := (if_pos c28).symm.trans hf
    refine lv_tableIn (off := 110) (tgt := 111) hx hb dX3_move_1 (by rw [c28]; decide) (by rw [c28]; decide) (by rw [c28]; decide) (by decide) ?_
    refine lv_aload_n hx hb dX3_move_111 rfl (lv_at hl 0 rfl) ?_
    refine lv_iconst (v := 1) hx hb dX3_move_112 (by decide) ?_
    refine lv_aload_n hx hb dX3_move_113 rfl (lv_at hl 0 rfl) ?_
    obtain ⟨p29, hcp29, hf⟩ := hf_bind hf
    have mo30 : CS.hs σ ≤ CS.hs p29.2 := Mono.go hcp29 (m_X3_pop N σ)
    have hr9 : CS.hs p29.2 ≤ CS.hs R.2 := Mono.go hf (mono_bind (m_X3_push N p29.2 (1 - p29.1)) (fun p33 => (mono_some (Nat.le_refl _))))
    have hFc := cFree hC hA
    refine va_calli (va_runV (As := []) (rest := [.int 1, .ref (Q.o 7)]) ⟨hx, hb, hml, hown, hts⟩ (c_X3_pop l dC dI Q N σ p29 hcp29) (cwV 0 hts hX3_move_X3_pop_v138 rfl rfl rfl (by decide +kernel) ⟨(show 2 + 1 ≤ 3 by omega), (show 8 + (1 + 11) + 60 * 2 ≤ 60 * 3 by omega)⟩) ⟨zPre.blind, va_recv hK hC.1 (ci := 2) (q0 := 7) rfl rfl, cPre_go hZ hK hC⟩ rfl rfl hl.1 rfl (lv_room (Nat.le_of_ble_eq_true rfl)) dX3_move_114 (cAcc h0 mo30 hr9)) hC.2.2.1 (fun q _ h => hFc q h) hFc (fun r31 u9 t9 H1 locs ht hvm hw hB hz1 hk1 hS => ?_)
    obtain ⟨⟨hP, hK1, hD1⟩, hsz1⟩ := hB
    rw [ht] at hP hsz1
    have hC : CP dC dI Q A s.heap p29.2 H1 locs := ⟨hP, hD1.weaken (fun _ _ _ h => hFc _ h), hS, hsz1⟩
    generalize H1 = H at hC ⊢
    have h32 : (CS.hs σ) ≤ CS.hs p29.2 := Nat.le_trans h0 mo30
    refine W.widen (k := CS.hs p29.2 - (CS.hs σ)) (n := 17 * (CS.hs p29.2 - (CS.hs σ))) (cAcc2 h0 mo30) (cAcc3 h0 mo30) ?_
    obtain rfl : r31 = p29.1 := hw
    refine lv_isub hx hb dX3_move_117 ?_
    obtain ⟨p33, hcp33, hf⟩ := hf_bind hf
    have mo34 : CS.hs p29.2 ≤ CS.hs p33.2 := Mono.go hcp33 (m_X3_push N p29.2 (1 - p29.1))
    have hr9 : CS.hs p33.2 ≤ CS.hs R.2 := Mono.go hf (mono_some (Nat.le_refl _))
    have hFc := cFree hC hA
    refine va_callv (va_runV (As := [.int (1 - p29.1)]) (rest := []) ⟨hx, hb, hml, hown, hts⟩ (c_X3_push l dC dI Q N p29.2 (1 - p29.1) p33 hcp33) (cwV 1 hts hX3_move_X3_push_v135 rfl rfl rfl (by decide +kernel) ⟨(show 2 + 1 ≤ 3 by omega), (show 8 + (2 + 11) + 60 * 2 ≤ 60 * 3 by omega)⟩) ⟨zPre.blind, va_recv hK hC.1 (ci := 2) (q0 := 7) rfl rfl, cPre_go hZ hK hC⟩ rfl rfl hl.1 rfl (lv_room (Nat.le_of_ble_eq_true rfl)) dX3_move_118 (cAcc h32 mo34 hr9)) hC.2.2.1 (fun q _ h => hFc q h) hFc (fun u9 t9 H1 locs ht hvm hw hB hz1 hk1 hS => ?_)
    obtain ⟨⟨hP, hK1, hD1⟩, hsz1⟩ := hB
    rw [ht] at hP hsz1
    have hC : CP dC dI Q A s.heap p33.2 H1 locs := ⟨hP, hD1.weaken (fun _ _ _ h => hFc _ h), hS, hsz1⟩
    generalize H1 = H at hC ⊢
    have h36 : (CS.hs σ) ≤ CS.hs p33.2 := Nat.le_trans h32 mo34
    refine W.widen (k := CS.hs p33.2 - (CS.hs σ)) (n := 17 * (CS.hs p33.2 - (CS.hs σ))) (cAcc2 h32 mo34) (cAcc3 h32 mo34) ?_
    refine lv_goto (tgt := 129) hx hb dX3_move_121 (by decide) ?_
    obtain rfl := Option.some.inj hf
    exact W.vret hx hb hr (fun t ht hW => ⟨⟨(), rfl, trivial, ⟨by rw [ht]; exact hC.1, va_K.moved hW.alike hK, hC.2.1⟩, by rw [ht]; exact hC.2.2.2⟩, hC.2.2.1.F ht⟩) hC.2.2.1.2.2 dX3_move_129
  replace hf := (if_neg c28).symm.trans hf
  refine lv_tableOut (tgt := 124) hx hb dX3_move_1 (by have := z_ton (a := 0) c1 (by decide); have := z_ton (a := 1) c6 (by decide); have := z_ton (a := 2) c12 (by decide); have := z_ton (a := 3) c17 (by decide); have := z_ton (a := 4) c19 (by decide); have := z_ton (a := 5) c28 (by decide); omega) (by decide) ?_
  refine lv_aload_n hx hb dX3_move_124 rfl (lv_at hl 0 rfl) ?_
  obtain ⟨p37, hcp37, hf⟩ := hf_bind hf
  have mo38 : CS.hs σ ≤ CS.hs p37.2 := Mono.go hcp37 (m_X3_pop N σ)
  have hr9 : CS.hs p37.2 ≤ CS.hs R.2 := Mono.go hf (mono_some (Nat.le_refl _))
  have hFc := cFree hC hA
  refine va_calli (va_runV (As := []) (rest := []) ⟨hx, hb, hml, hown, hts⟩ (c_X3_pop l dC dI Q N σ p37 hcp37) (cwV 0 hts hX3_move_X3_pop_v138 rfl rfl rfl (by decide +kernel) ⟨(show 2 + 1 ≤ 3 by omega), (show 8 + (1 + 11) + 60 * 2 ≤ 60 * 3 by omega)⟩) ⟨zPre.blind, va_recv hK hC.1 (ci := 2) (q0 := 7) rfl rfl, cPre_go hZ hK hC⟩ rfl rfl hl.1 rfl (lv_room (Nat.le_of_ble_eq_true rfl)) dX3_move_125 (cAcc h0 mo38 hr9)) hC.2.2.1 (fun q _ h => hFc q h) hFc (fun r39 u9 t9 H1 locs ht hvm hw hB hz1 hk1 hS => ?_)
  obtain ⟨⟨hP, hK1, hD1⟩, hsz1⟩ := hB
  rw [ht] at hP hsz1
  have hC : CP dC dI Q A s.heap p37.2 H1 locs := ⟨hP, hD1.weaken (fun _ _ _ h => hFc _ h), hS, hsz1⟩
  generalize H1 = H at hC ⊢
  have h40 : (CS.hs σ) ≤ CS.hs p37.2 := Nat.le_trans h0 mo38
  refine W.widen (k := CS.hs p37.2 - (CS.hs σ)) (n := 17 * (CS.hs p37.2 - (CS.hs σ))) (cAcc2 h0 mo38) (cAcc3 h0 mo38) ?_
  obtain rfl : r39 = p37.1 := hw
  refine lv_pop hx hb dX3_move_128 rfl ?_
  obtain rfl := Option.some.inj hf
  exact W.vret hx hb hr (fun t ht hW => ⟨⟨(), rfl, trivial, ⟨by rw [ht]; exact hC.1, va_K.moved hW.alike hK, hC.2.1⟩, by rw [ht]; exact hC.2.2.2⟩, hC.2.2.1.F ht⟩) hC.2.2.1.2.2 dX3_move_129
end
