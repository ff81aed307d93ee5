theorem k_X7_newName_fieldLink_RX7_71_SR_Statements_tokens_LSR_Tokens : Cond.fieldLink RX7 71 "StatementRules2$Statements" "tokens" "LStatementRules2$Tokens;" ∈ wzX7_newName := List.mem_cons_of_mem _ (List.mem_append_left _ (List.mem_of_getElem? (i := 0) rfl))
theorem k_X7_newName_sameField_SR_Statements_SR_Formulas_tokens_LSR_Tokens : Cond.sameField "StatementRules2$Statements" "StatementRules2$Formulas" "tokens" "LStatementRules2$Tokens;" ∈ wzX7_newName := List.mem_cons_of_mem _ (List.mem_append_left _ (List.mem_of_getElem? (i := 1) rfl))
theorem i_X7_newName_X7 : ∀ w ∈ wsX70, w ∈ wzX7_newName := fun _ h => List.mem_cons_of_mem _ (List.mem_append_right _ (List.mem_append_left _ (h)))
theorem i_X7_newName_X9 : ∀ w ∈ wsX90, w ∈ wzX7_newName := fun _ h => List.mem_cons_of_mem _ (List.mem_append_right _ (List.mem_append_right _ (List.mem_append_left _ (h))))
theorem k_X7_newName_fieldLink_RX7_29_SR_Statements_names_LSR_Names : Cond.fieldLink RX7 29 "StatementRules2$Statements" "names" "LStatementRules2$Names;" ∈ wzX7_newName := List.mem_cons_of_mem _ (List.mem_append_left _ (List.mem_of_getElem? (i := 2) rfl))
theorem k_X7_newName_sameField_SR_Statements_SR_Formulas_names_LSR_Names : Cond.sameField "StatementRules2$Statements" "StatementRules2$Formulas" "names" "LStatementRules2$Names;" ∈ wzX7_newName := List.mem_cons_of_mem _ (List.mem_append_left _ (List.mem_of_getElem? (i := 3) rfl))
set_option maxHeartbeats 4000000 in
set_option maxRecDepth 100000 in
theorem j_X7_newName_56 {p : Program} {e : Env} {s : State} {m : MethodId} {args : Array Value} {below : List Frame} {meth : Method} {c : Code} {A : Nat → Prop} (l : Launch) (dC : Nat → ClassId) (dI : Nat → Nat → Nat) (Q : CQ) (N : Nat) (z9h : Nat) (R : Int64 × CS) (hx : p.tables.exec = Jvm.exec) (hb : c.code = cX7_newName) (hr : meth.sig.returnType = (some .long)) (hml : c.maxLocals = 3) (hown : s.vm.findClass RX7 = some m.cls) (hts : ∀ w ∈ wzX7_newName, w.before args s = true) (hlocks : meth.locks = false) (hZ : zAMB s) (hA : ∀ q : Nat, s.heap.size ≤ q → A q) (hK : va_K (dC, dI) vwCl (cT Q) s) : ∀ (σ : CS) (x1 : Int64) (H : Heap) (locs : List Loc) (ls : Array Slot), f_X7_newName_56 N σ x1 = some R → z9h ≤ CS.hs σ → CP dC dI Q A s.heap σ H locs → lv_has ls 3 [(1, .long x1)] → W p l e ({ frames := 4, cells := CS.hs R.2 - z9h, slots := 17 * (CS.hs R.2 - z9h), locals := 60 * 4 }) s m args below meth c H locs (CS.hs σ - z9h) (17 * (CS.hs σ - z9h)) (MQ below (va_Ql (fun (r : Int64) (_ : Unit) => r = R.1) (fun (_ : Unit) (t : State) => zPost dC dI A (cW Q R.2) (cT Q) t ∧ t.heap.size = CS.hs R.2) A) args s (CS.hs R.2 - z9h) (17 * (CS.hs R.2 - z9h)) A) (F0 m 56 ls []) := by
  intro σ x1 H locs ls hf h0 hC hl
  unfold f_X7_newName_56 at hf
  refine lv_lload_n hx hb dX7_newName_56 rfl (lv_at hl 0 rfl) ?_
  obtain rfl := Option.some.inj hf
  exact W.lret (v := x1) hx hb hr (fun t ht hW => ⟨⟨x1, (), rfl, rfl, ⟨by rw [ht]; exact hC.1, va_K.moved hW.alike hK, hC.2.1⟩, by rw [ht]; exact hC.2.2.2⟩, hC.2.2.1.F ht⟩) hC.2.2.1.2.2 dX7_newName_57
set_option maxHeartbeats 4000000 in
set_option maxRecDepth 100000 in
theorem c_X7_newName (l : Launch) (dC : Nat → ClassId) (dI : Nat → Nat → Nat) (Q : CQ) (N : Nat) (σ : CS) (R : Int64 × CS) (hf : f_X7_newName N σ = some R) : Met l yX7_newName wzX7_newName ({ frames := 4, cells := CS.hs R.2 - CS.hs σ, slots := 17 * (CS.hs R.2 - CS.hs σ), locals := 60 * 4 }) (va_Pc [.ref (Q.o 3)] (zPre dC dI (CS.hs σ) (cW Q σ) (cT Q))) (va_Ql (fun (r : Int64) (_ : Unit) => r = R.1) (fun (_ : Unit) (t : State) => zPost dC dI (va_A (cW Q σ) (CS.hs σ)) (cW Q R.2) (cT Q) t ∧ t.heap.size = CS.hs R.2) (va_A (cW Q σ) (CS.hs σ))) (CS.hs R.2 - CS.hs σ) (17 * (CS.hs R.2 - CS.hs σ)) (va_A (cW Q σ) (CS.hs σ)) := by
  refine Met.ofW (cc := cX7_newName) (maxL := 3) (ret := (some .long)) (by decide) rfl ?_
  intro p e s m args below meth c s₁ B hml hv
  obtain ⟨rfl, hsz, hZ, hP, hK, hD0⟩ := hv
  have hx := B.exec
  have hb := B.bytes
  have hr := B.returns
  have hts := atoms_spec (ws := wzX7_newName) B.pre
  have hown : s.vm.findClass RX7 = some m.cls := findClass_of_methodNamed B.named
  have hlocks := B.notSynchronized
  have hD := hD0.self (sz := CS.hs σ)
  generalize hAe : va_A (cW Q σ) (CS.hs σ) = A at hD ⊢
  have hA : ∀ q : Nat, s.heap.size ≤ q → A q := fun q h => by rw [← hAe]; exact Or.inr (hsz ▸ h)
  have hC : CP dC dI Q A s.heap σ s.heap [] := ⟨hP, hD, va_S.rf, hsz⟩
  have h0 : CS.hs σ ≤ CS.hs σ := Nat.le_refl _
  have hl := lv_entry ([.ref (Q.o 3)]) (n := 3) (Nat.le_of_ble_eq_true rfl)
  rw [lg_entry_eq]
  generalize (lg_sl ([.ref (Q.o 3)]) ++ List.replicate (3 - (lg_sl ([.ref (Q.o 3)])).length) Slot.unset).toArray = ls at hl ⊢
  have hl : lv_has ls 3 [(0, .ref (Q.o 3))] := hl
  unfold f_X7_newName at hf
  refine W.widen (k := CS.hs σ - CS.hs σ) (n := 17 * (CS.hs σ - CS.hs σ)) (Nat.zero_le _) (Nat.zero_le _) ?_
  refine lv_aload_n hx hb dX7_newName_0 rfl (lv_at hl 0 rfl) ?_
  refine cG_28 hx hb hts i_X7_newName_X7 hown hK hC (hts (.fieldLink RX7 71 "StatementRules2$Statements" "tokens" "LStatementRules2$Tokens;") k_X7_newName_fieldLink_RX7_71_SR_Statements_tokens_LSR_Tokens) (fun x9 q9 => u_same (hts (.sameField "StatementRules2$Statements" "StatementRules2$Formulas" "tokens" "LStatementRules2$Tokens;") k_X7_newName_sameField_SR_Statements_SR_Formulas_tokens_LSR_Tokens) x9 q9) dX7_newName_1 ?_
  refine cGN_46 (v := σ.l) hx hb hts i_X7_newName_X9 hown hK hC (va_Nw.use rfl (hZ.1 (.fieldLinkNest RX7 181 "StatementRules2$Tokens" "name" "J" "StatementRules2") (by decide +kernel))) (fun _ q9 => q9) dX7_newName_4 rfl ?_
  refine lv_lstore_n (lv' := [(1, .long σ.l), (0, .ref (Q.o 3))]) hx hb dX7_newName_7 rfl hl (by decide) rfl (fun ls hl => ?_)
  refine lv_aload_n hx hb dX7_newName_8 rfl (lv_at hl 1 rfl) ?_
  refine lv_iconst (v := 2) hx hb dX7_newName_9 (by decide) ?_
  obtain ⟨p1, hcp1, hf⟩ := hf_bind hf
  have mo2 : CS.hs σ ≤ CS.hs p1.2 := Mono.go hcp1 (m_X1_found N σ 2)
  have hr9 : CS.hs p1.2 ≤ CS.hs R.2 := Mono.go hf (mono_ite (mono_bind (m_X1_misplaced N p1.2) (fun p19 => (m_X7_newName_56 N p19.2 σ.l))) (mono_bind (m_X4_find N p1.2 σ.l) (fun p6 => (mono_ite (mono_bind (m_X9_advance N p6.2) (fun p11 => (m_X7_newName_56 N p11.2 σ.l))) (mono_bind (m_X1_fail N p6.2 4 (p6.2.i 44)) (fun p15 => (m_X7_newName_56 N p15.2 σ.l)))))))
  have hFc := cFree hC hA
  refine va_calli (va_runU (As := [.int 2]) (rest := []) ⟨hx, hb, hml, hown, hts⟩ (c_X1_found l dC dI Q N σ 2 p1 hcp1) (va_cwU 1 hts hX7_newName_X1_found_u110 rfl rfl rfl rfl (by decide +kernel) ⟨(show 1 + 1 ≤ 4 by omega), (show 8 + (2 + 11) + 60 * 1 ≤ 60 * 4 by omega)⟩) ⟨zPre.blind, va_recv hK hC.1 (ci := 6) (q0 := 3) rfl rfl, cPre_go hZ hK hC⟩ rfl rfl hl.1 rfl (lv_room (Nat.le_of_ble_eq_true rfl)) dX7_newName_10 (cAcc h0 mo2 hr9)) hC.2.2.1 (fun q _ h => hFc q h) hFc (fun r3 u9 t9 H1 locs ht hvm hw hB hz1 hk1 hS => ?_)
  obtain ⟨⟨hP, hK1, hD1⟩, hsz1⟩ := hB
  rw [ht] at hP hsz1
  have hC : CP dC dI Q A s.heap p1.2 H1 locs := ⟨hP, hD1.weaken (fun _ _ _ h => hFc _ h), hS, hsz1⟩
  generalize H1 = H at hC ⊢
  have h4 : (CS.hs σ) ≤ CS.hs p1.2 := Nat.le_trans h0 mo2
  refine W.widen (k := CS.hs p1.2 - (CS.hs σ)) (n := 17 * (CS.hs p1.2 - (CS.hs σ))) (cAcc2 h0 mo2) (cAcc3 h0 mo2) ?_
  obtain rfl : r3 = p1.1 := hw
  refine lv_if_ne (tgt := 23) hx hb dX7_newName_13 (by decide) (fun c5 => ?_) (fun c5 => ?_)
  ·
    replace hf := (if_neg c5).symm.trans hf
    refine lv_aload_n hx hb dX7_newName_23 rfl (lv_at hl 1 rfl) ?_
    refine cG_31 hx hb hts i_X7_newName_X7 hown hK hC (hts (.fieldLink RX7 29 "StatementRules2$Statements" "names" "LStatementRules2$Names;") k_X7_newName_fieldLink_RX7_29_SR_Statements_names_LSR_Names) (fun x9 q9 => u_same (hts (.sameField "StatementRules2$Statements" "StatementRules2$Formulas" "names" "LStatementRules2$Names;") k_X7_newName_sameField_SR_Statements_SR_Formulas_names_LSR_Names) x9 q9) dX7_newName_24 ?_
    refine lv_lload_n hx hb dX7_newName_27 rfl (lv_at hl 0 rfl) ?_
    obtain ⟨p6, hcp6, hf⟩ := hf_bind hf
    have mo7 : CS.hs p1.2 ≤ CS.hs p6.2 := Mono.go hcp6 (m_X4_find N p1.2 σ.l)
    have hr9 : CS.hs p6.2 ≤ CS.hs R.2 := Mono.go hf (mono_ite (mono_bind (m_X9_advance N p6.2) (fun p11 => (m_X7_newName_56 N p11.2 σ.l))) (mono_bind (m_X1_fail N p6.2 4 (p6.2.i 44)) (fun p15 => (m_X7_newName_56 N p15.2 σ.l))))
    have hFc := cFree hC hA
    refine va_calli (va_runV (As := [.long σ.l]) (rest := []) ⟨hx, hb, hml, hown, hts⟩ (c_X4_find l dC dI Q N p1.2 σ.l p6 hcp6) (cwV 1 hts hX7_newName_X4_find_v199 rfl rfl rfl (by decide +kernel) ⟨(show 1 + 1 ≤ 4 by omega), (show 8 + (4 + 11) + 60 * 1 ≤ 60 * 4 by omega)⟩) ⟨zPre.blind, va_recv hK hC.1 (ci := 3) (q0 := 5) rfl rfl, cPre_go hZ hK hC⟩ rfl rfl hl.1 rfl (lv_room (Nat.le_of_ble_eq_true rfl)) dX7_newName_28 (cAcc h4 mo7 hr9)) hC.2.2.1 (fun q _ h => hFc q h) hFc (fun r8 u9 t9 H1 locs ht hvm hw hB hz1 hk1 hS => ?_)
    obtain ⟨⟨hP, hK1, hD1⟩, hsz1⟩ := hB
    rw [ht] at hP hsz1
    have hC : CP dC dI Q A s.heap p6.2 H1 locs := ⟨hP, hD1.weaken (fun _ _ _ h => hFc _ h), hS, hsz1⟩
    generalize H1 = H at hC ⊢
    have h9 : (CS.hs σ) ≤ CS.hs p6.2 := Nat.le_trans h4 mo7
    refine W.widen (k := CS.hs p6.2 - (CS.hs σ)) (n := 17 * (CS.hs p6.2 - (CS.hs σ))) (cAcc2 h4 mo7) (cAcc3 h4 mo7) ?_
    obtain rfl : r8 = p6.1 := hw
    refine lv_if_lt (tgt := 49) hx hb dX7_newName_31 (by decide) (fun c10 => ?_) (fun c10 => ?_)
    ·
      replace hf := (if_pos c10).symm.trans hf
      refine lv_aload_n hx hb dX7_newName_49 rfl (lv_at hl 1 rfl) ?_
      refine cG_28 hx hb hts i_X7_newName_X7 hown hK hC (hts (.fieldLink RX7 71 "StatementRules2$Statements" "tokens" "LStatementRules2$Tokens;") k_X7_newName_fieldLink_RX7_71_SR_Statements_tokens_LSR_Tokens) (fun x9 q9 => u_same (hts (.sameField "StatementRules2$Statements" "StatementRules2$Formulas" "tokens" "LStatementRules2$Tokens;") k_X7_newName_sameField_SR_Statements_SR_Formulas_tokens_LSR_Tokens) x9 q9) dX7_newName_50 ?_
      obtain ⟨p11, hcp11, hf⟩ := hf_bind hf
      have mo12 : CS.hs p6.2 ≤ CS.hs p11.2 := Mono.go hcp11 (m_X9_advance N p6.2)
      have hr9 : CS.hs p11.2 ≤ CS.hs R.2 := Mono.go hf (m_X7_newName_56 N p11.2 σ.l)
      have hFc := cFree hC hA
      refine va_callv (va_runV (As := []) (rest := []) ⟨hx, hb, hml, hown, hts⟩ (c_X9_advance l dC dI Q N p6.2 p11 hcp11) (cwV 0 hts hX7_newName_X9_advance_v146 rfl rfl rfl (by decide +kernel) ⟨(show 3 + 1 ≤ 4 by omega), (show 8 + (2 + 11) + 60 * 3 ≤ 60 * 4 by omega)⟩) ⟨zPre.blind, va_recv hK hC.1 (ci := 8) (q0 := 4) rfl rfl, cPre_go hZ hK hC⟩ rfl rfl hl.1 rfl (lv_room (Nat.le_of_ble_eq_true rfl)) dX7_newName_53 (cAcc h9 mo12 hr9)) hC.2.2.1 (fun q _ h => hFc q h) hFc (fun u9 t9 H1 locs ht hvm hw hB hz1 hk1 hS => ?_)
      obtain ⟨⟨hP, hK1, hD1⟩, hsz1⟩ := hB
      rw [ht] at hP hsz1
      have hC : CP dC dI Q A s.heap p11.2 H1 locs := ⟨hP, hD1.weaken (fun _ _ _ h => hFc _ h), hS, hsz1⟩
      generalize H1 = H at hC ⊢
      have h14 : (CS.hs σ) ≤ CS.hs p11.2 := Nat.le_trans h9 mo12
      refine W.widen (k := CS.hs p11.2 - (CS.hs σ)) (n := 17 * (CS.hs p11.2 - (CS.hs σ))) (cAcc2 h9 mo12) (cAcc3 h9 mo12) ?_
      exact j_X7_newName_56 l dC dI Q N (CS.hs σ) R hx hb hr hml hown hts hlocks hZ hA hK p11.2 σ.l _ _ _ hf h14 hC (lv_sub hl [0] rfl)
    ·
      replace hf := (if_neg c10).symm.trans hf
      refine lv_aload_n hx hb dX7_newName_34 rfl (lv_at hl 1 rfl) ?_
      refine lv_iconst (v := 4) hx hb dX7_newName_35 (by decide) ?_
      refine lv_aload_n hx hb dX7_newName_36 rfl (lv_at hl 1 rfl) ?_
      refine cG_28 hx hb hts i_X7_newName_X7 hown hK hC (hts (.fieldLink RX7 71 "StatementRules2$Statements" "tokens" "LStatementRules2$Tokens;") k_X7_newName_fieldLink_RX7_71_SR_Statements_tokens_LSR_Tokens) (fun x9 q9 => u_same (hts (.sameField "StatementRules2$Statements" "StatementRules2$Formulas" "tokens" "LStatementRules2$Tokens;") k_X7_newName_sameField_SR_Statements_SR_Formulas_tokens_LSR_Tokens) x9 q9) dX7_newName_37 ?_
      refine cGN_44 (v := (p6.2.i 44)) hx hb hts i_X7_newName_X9 hown hK hC (va_Nw.use rfl (hZ.1 (.fieldLinkNest RX7 143 "StatementRules2$Tokens" "place" "I" "StatementRules2") (by decide +kernel))) (fun _ q9 => q9) dX7_newName_40 rfl ?_
      obtain ⟨p15, hcp15, hf⟩ := hf_bind hf
      have mo16 : CS.hs p6.2 ≤ CS.hs p15.2 := Mono.go hcp15 (m_X1_fail N p6.2 4 (p6.2.i 44))
      have hr9 : CS.hs p15.2 ≤ CS.hs R.2 := Mono.go hf (m_X7_newName_56 N p15.2 σ.l)
      have hFc := cFree hC hA
      refine va_callv (va_runU (As := [.int 4, .int (p6.2.i 44)]) (rest := []) ⟨hx, hb, hml, hown, hts⟩ (c_X1_fail l dC dI Q N p6.2 4 (p6.2.i 44) p15 hcp15) (va_cwU 2 hts hX7_newName_X1_fail_u88 rfl rfl rfl rfl (by decide +kernel) ⟨(show 2 + 1 ≤ 4 by omega), (show 8 + (3 + 11) + 60 * 2 ≤ 60 * 4 by omega)⟩) ⟨zPre.blind, va_recv hK hC.1 (ci := 6) (q0 := 3) rfl rfl, cPre_go hZ hK hC⟩ rfl rfl hl.1 rfl (lv_room (Nat.le_of_ble_eq_true rfl)) dX7_newName_43 (cAcc h9 mo16 hr9)) hC.2.2.1 (fun q _ h => hFc q h) hFc (fun u9 t9 H1 locs ht hvm hw hB hz1 hk1 hS => ?_)
      obtain ⟨⟨hP, hK1, hD1⟩, hsz1⟩ := hB
      rw [ht] at hP hsz1
      have hC : CP dC dI Q A s.heap p15.2 H1 locs := ⟨hP, hD1.weaken (fun _ _ _ h => hFc _ h), hS, hsz1⟩
      generalize H1 = H at hC ⊢
      have h18 : (CS.hs σ) ≤ CS.hs p15.2 := Nat.le_trans h9 mo16
      refine W.widen (k := CS.hs p15.2 - (CS.hs σ)) (n := 17 * (CS.hs p15.2 - (CS.hs σ))) (cAcc2 h9 mo16) (cAcc3 h9 mo16) ?_
      refine lv_goto (tgt := 56) hx hb dX7_newName_46 (by decide) ?_
      exact j_X7_newName_56 l dC dI Q N (CS.hs σ) R hx hb hr hml hown hts hlocks hZ hA hK p15.2 σ.l _ _ _ hf h18 hC (lv_sub hl [0] rfl)
  ·
    replace hf := (if_pos c5).symm.trans hf
    refine lv_aload_n hx hb dX7_newName_16 rfl (lv_at hl 1 rfl) ?_
    obtain ⟨p19, hcp19, hf⟩ := hf_bind hf
    have mo20 : CS.hs p1.2 ≤ CS.hs p19.2 := Mono.go hcp19 (m_X1_misplaced N p1.2)
    have hr9 : CS.hs p19.2 ≤ CS.hs R.2 := Mono.go hf (m_X7_newName_56 N p19.2 σ.l)
    have hFc := cFree hC hA
    refine va_callv (va_runU (As := []) (rest := []) ⟨hx, hb, hml, hown, hts⟩ (c_X1_misplaced l dC dI Q N p1.2 p19 hcp19) (va_cwU 0 hts hX7_newName_X1_misplaced_u161 rfl rfl rfl rfl (by decide +kernel) ⟨(show 3 + 1 ≤ 4 by omega), (show 8 + (1 + 11) + 60 * 3 ≤ 60 * 4 by omega)⟩) ⟨zPre.blind, va_recv hK hC.1 (ci := 6) (q0 := 3) rfl rfl, cPre_go hZ hK hC⟩ rfl rfl hl.1 rfl (lv_room (Nat.le_of_ble_eq_true rfl)) dX7_newName_17 (cAcc h4 mo20 hr9)) hC.2.2.1 (fun q _ h => hFc q h) hFc (fun u9 t9 H1 locs ht hvm hw hB hz1 hk1 hS => ?_)
    obtain ⟨⟨hP, hK1, hD1⟩, hsz1⟩ := hB
    rw [ht] at hP hsz1
    have hC : CP dC dI Q A s.heap p19.2 H1 locs := ⟨hP, hD1.weaken (fun _ _ _ h => hFc _ h), hS, hsz1⟩
    generalize H1 = H at hC ⊢
    have h22 : (CS.hs σ) ≤ CS.hs p19.2 := Nat.le_trans h4 mo20
    refine W.widen (k := CS.hs p19.2 - (CS.hs σ)) (n := 17 * (CS.hs p19.2 - (CS.hs σ))) (cAcc2 h4 mo20) (cAcc3 h4 mo20) ?_
    refine lv_goto (tgt := 56) hx hb dX7_newName_20 (by decide) ?_
    exact j_X7_newName_56 l dC dI Q N (CS.hs σ) R hx hb hr hml hown hts hlocks hZ hA hK p19.2 σ.l _ _ _ hf h22 hC (lv_sub hl [0] rfl)
theorem k_X4_add_fieldLink_RX4_20_SR_Names_count_I : Cond.fieldLink RX4 20 "StatementRules2$Names" "count" "I" ∈ wzX4_add := List.mem_cons_of_mem _ (List.mem_append_left _ (List.mem_of_getElem? (i := 0) rfl))
theorem i_X4_add_X4 : ∀ w ∈ wsX40, w ∈ wzX4_add := fun _ h => List.mem_cons_of_mem _ (List.mem_append_right _ (List.mem_append_left _ (h)))
theorem k_X4_add_fieldLink_RX4_7_SR_Names_names_J : Cond.fieldLink RX4 7 "StatementRules2$Names" "names" "[J" ∈ wzX4_add := List.mem_cons_of_mem _ (List.mem_append_left _ (List.mem_of_getElem? (i := 1) rfl))
theorem k_X4_add_fieldLink_RX4_13_SR_Names_cells_I : Cond.fieldLink RX4 13 "StatementRules2$Names" "cells" "[I" ∈ wzX4_add := List.mem_cons_of_mem _ (List.mem_append_left _ (List.mem_of_getElem? (i := 2) rfl))
theorem k_X4_add_fieldLink_RX4_17_SR_Names_frames_I : Cond.fieldLink RX4 17 "StatementRules2$Names" "frames" "[I" ∈ wzX4_add := List.mem_cons_of_mem _ (List.mem_append_left _ (List.mem_of_getElem? (i := 3) rfl))
set_option maxHeartbeats 4000000 in
set_option maxRecDepth 100000 in
theorem c_X4_add (l : Launch) (dC : Nat → ClassId) (dI : Nat → Nat → Nat) (Q : CQ) (N : Nat) (σ : CS) (x1 : Int64) (x3 : Int32) (x4 : Int32) (R : Unit × CS) (hf : f_X4_add N σ x1 x3 x4 = some R) : Met l yX4_add wzX4_add ({ frames := 1, cells := CS.hs R.2 - CS.hs σ, slots := 17 * (CS.hs R.2 - CS.hs σ), locals := 60 * 1 }) (va_Pc [.ref (Q.o 5), .long x1, .int x3, .int x4] (zPre dC dI (CS.hs σ) (cW Q σ) (cT Q))) (va_Qv (fun (_ : Unit) => True) (fun (_ : Unit) (t : State) => zPost dC dI (va_A (cW Q σ) (CS.hs σ)) (cW Q R.2) (cT Q) t ∧ t.heap.size = CS.hs R.2) (va_A (cW Q σ) (CS.hs σ))) (CS.hs R.2 - CS.hs σ) (17 * (CS.hs R.2 - CS.hs σ)) (va_A (cW Q σ) (CS.hs σ)) := by
  refine Met.ofW (cc := cX4_add) (maxL := 5) (ret := none) (by decide) rfl ?_
  intro p e s m args below meth c s₁ B hml hv
  obtain ⟨rfl, hsz, hZ, hP, hK, hD0⟩ := hv
  have hx := B.exec
  have hb := B.bytes
  have hr := B.returns
  have hts := atoms_spec (ws := wzX4_add) B.pre
  have hown : s.vm.findClass RX4 = some m.cls := findClass_of_methodNamed B.named
  have hlocks := B.notSynchronized
  have hD := hD0.self (sz := CS.hs σ)
  generalize hAe : va_A (cW Q σ) (CS.hs σ) = A at hD ⊢
  have hA : ∀ q : Nat, s.heap.size ≤ q → A q := fun q h => by rw [← hAe]; exact Or.inr (hsz ▸ h)
  have hC : CP dC dI Q A s.heap σ s.heap [] := ⟨hP, hD, va_S.rf, hsz⟩
  have h0 : CS.hs σ ≤ CS.hs σ := Nat.le_refl _
  have hl := lv_entry ([.ref (Q.o 5), .long x1, .int x3, .int x4]) (n := 5) (Nat.le_of_ble_eq_true rfl)
  rw [lg_entry_eq]
  generalize (lg_sl ([.ref (Q.o 5), .long x1, .int x3, .int x4]) ++ List.replicate (5 - (lg_sl ([.ref (Q.o 5), .long x1, .int x3, .int x4])).length) Slot.unset).toArray = ls at hl ⊢
  have hl : lv_has ls 5 [(0, .ref (Q.o 5)), (1, .long x1), (3, .int x3), (4, .int x4)] := hl
  unfold f_X4_add at hf
  refine W.widen (k := CS.hs σ - CS.hs σ) (n := 17 * (CS.hs σ - CS.hs σ)) (Nat.zero_le _) (Nat.zero_le _) ?_
  refine lv_aload_n hx hb dX4_add_0 rfl (lv_at hl 0 rfl) ?_
  refine cG_50 (v := (σ.i 50)) hx hb hts i_X4_add_X4 hown hK hC (hts (.fieldLink RX4 20 "StatementRules2$Names" "count" "I") k_X4_add_fieldLink_RX4_20_SR_Names_count_I) (fun _ q9 => q9) dX4_add_1 rfl ?_
  refine lv_aload_n hx hb dX4_add_4 rfl (lv_at hl 0 rfl) ?_
  refine cG_47 hx hb hts i_X4_add_X4 hown hK hC (hts (.fieldLink RX4 7 "StatementRules2$Names" "names" "[J") k_X4_add_fieldLink_RX4_7_SR_Names_names_J) (fun _ q9 => q9) dX4_add_5 ?_
  refine va_alen (v := 128) hx hb hK hC.1 19 1 rfl rfl rfl dX4_add_8 ?_
  refine lv_icmp_ge (tgt := 53) hx hb dX4_add_9 (by decide) (fun c1 => ?_) (fun c1 => ?_)
  ·
    replace hf := (if_pos c1).symm.trans hf
    obtain rfl := Option.some.inj hf
    exact W.vret hx hb hr (fun t ht hW => ⟨⟨(), rfl, trivial, ⟨by rw [ht]; exact hC.1, va_K.moved hW.alike hK, hC.2.1⟩, by rw [ht]; exact hC.2.2.2⟩, hC.2.2.1.F ht⟩) hC.2.2.1.2.2 dX4_add_53
  ·
    replace hf := (if_neg c1).symm.trans hf
    refine lv_aload_n hx hb dX4_add_12 rfl (lv_at hl 0 rfl) ?_
    refine cG_47 hx hb hts i_X4_add_X4 hown hK hC (hts (.fieldLink RX4 7 "StatementRules2$Names" "names" "[J") k_X4_add_fieldLink_RX4_7_SR_Names_names_J) (fun _ q9 => q9) dX4_add_13 ?_
    refine lv_aload_n hx hb dX4_add_16 rfl (lv_at hl 0 rfl) ?_
    refine cG_50 (v := (σ.i 50)) hx hb hts i_X4_add_X4 hown hK hC (hts (.fieldLink RX4 20 "StatementRules2$Names" "count" "I") k_X4_add_fieldLink_RX4_20_SR_Names_count_I) (fun _ q9 => q9) dX4_add_17 rfl ?_
    refine lv_lload_n hx hb dX4_add_20 rfl (lv_at hl 1 rfl) ?_
    obtain ⟨b2, hf⟩ := hf_ite hf
    refine cS_47 hx hb hK hC b2 dX4_add_21 (fun H locs hC => ?_)
    refine lv_aload_n hx hb dX4_add_22 rfl (lv_at hl 0 rfl) ?_
    refine cG_48 hx hb hts i_X4_add_X4 hown hK hC (hts (.fieldLink RX4 13 "StatementRules2$Names" "cells" "[I") k_X4_add_fieldLink_RX4_13_SR_Names_cells_I) (fun _ q9 => q9) dX4_add_23 ?_
    refine lv_aload_n hx hb dX4_add_26 rfl (lv_at hl 0 rfl) ?_
    refine cG_50 (v := (σ.i 50)) hx hb hts i_X4_add_X4 hown hK hC (hts (.fieldLink RX4 20 "StatementRules2$Names" "count" "I") k_X4_add_fieldLink_RX4_20_SR_Names_count_I) (fun _ q9 => q9) dX4_add_27 rfl ?_
    refine lv_iload_n hx hb dX4_add_30 rfl (lv_at hl 2 rfl) ?_
    refine cS_48 hx hb hK hC b2 dX4_add_31 (fun H locs hC => ?_)
    refine lv_aload_n hx hb dX4_add_32 rfl (lv_at hl 0 rfl) ?_
    refine cG_49 hx hb hts i_X4_add_X4 hown hK hC (hts (.fieldLink RX4 17 "StatementRules2$Names" "frames" "[I") k_X4_add_fieldLink_RX4_17_SR_Names_frames_I) (fun _ q9 => q9) dX4_add_33 ?_
    refine lv_aload_n hx hb dX4_add_36 rfl (lv_at hl 0 rfl) ?_
    refine cG_50 (v := (σ.i 50)) hx hb hts i_X4_add_X4 hown hK hC (hts (.fieldLink RX4 20 "StatementRules2$Names" "count" "I") k_X4_add_fieldLink_RX4_20_SR_Names_count_I) (fun _ q9 => q9) dX4_add_37 rfl ?_
    refine lv_iload hx hb dX4_add_40 (lv_at hl 3 rfl) ?_
    refine cS_49 hx hb hK hC b2 dX4_add_42 (fun H locs hC => ?_)
    refine lv_aload_n hx hb dX4_add_43 rfl (lv_at hl 0 rfl) ?_
    refine lv_dup hx hb dX4_add_44 rfl ?_
    refine cG_50 (v := (σ.i 50)) hx hb hts i_X4_add_X4 hown hK hC (hts (.fieldLink RX4 20 "StatementRules2$Names" "count" "I") k_X4_add_fieldLink_RX4_20_SR_Names_count_I) (fun _ q9 => q9) dX4_add_45 rfl ?_
    refine lv_iconst (v := 1) hx hb dX4_add_48 (by decide) ?_
    refine lv_iadd hx hb dX4_add_49 ?_
    refine cP_50 (v := ((σ.i 50) + 1)) hx hb hts i_X4_add_X4 hown hK hC (hts (.fieldLink RX4 20 "StatementRules2$Names" "count" "I") k_X4_add_fieldLink_RX4_20_SR_Names_count_I) (fun _ q9 => q9) dX4_add_50 (fun H locs hC => ?_)
    obtain rfl := Option.some.inj hf
    exact W.vret hx hb hr (fun t ht hW => ⟨⟨(), rfl, trivial, ⟨by rw [ht]; exact hC.1, va_K.moved hW.alike hK, hC.2.1⟩, by rw [ht]; exact hC.2.2.2⟩, hC.2.2.1.F ht⟩) hC.2.2.1.2.2 dX4_add_53
theorem k_X7_tell_fieldLink_RX7_20_SR_Statements_code_LSR_Code : Cond.fieldLink RX7 20 "StatementRules2$Statements" "code" "LStatementRules2$Code;" ∈ wzX7_tell := List.mem_cons_of_mem _ (List.mem_append_left _ (List.mem_of_getElem? (i := 0) rfl))
theorem k_X7_tell_sameField_SR_Statements_SR_Formulas_code_LSR_Code : Cond.sameField "StatementRules2$Statements" "StatementRules2$Formulas" "code" "LStatementRules2$Code;" ∈ wzX7_tell := List.mem_cons_of_mem _ (List.mem_append_left _ (List.mem_of_getElem? (i := 1) rfl))
theorem i_X7_tell_X7 : ∀ w ∈ wsX70, w ∈ wzX7_tell := fun _ h => List.mem_cons_of_mem _ (List.mem_append_right _ (List.mem_append_left _ (h)))
theorem k_X7_tell_fieldLink_RX7_29_SR_Statements_names_LSR_Names : Cond.fieldLink RX7 29 "StatementRules2$Statements" "names" "LStatementRules2$Names;" ∈ wzX7_tell := List.mem_cons_of_mem _ (List.mem_append_left _ (List.mem_of_getElem? (i := 2) rfl))
theorem k_X7_tell_sameField_SR_Statements_SR_Formulas_names_LSR_Names : Cond.sameField "StatementRules2$Statements" "StatementRules2$Formulas" "names" "LStatementRules2$Names;" ∈ wzX7_tell := List.mem_cons_of_mem _ (List.mem_append_left _ (List.mem_of_getElem? (i := 3) rfl))
theorem i_X7_tell_X0 : ∀ w ∈ wsX00, w ∈ wzX7_tell := fun _ h => List.mem_cons_of_mem _ (List.mem_append_right _ (List.mem_append_right _ (List.mem_append_left _ (h))))
set_option maxHeartbeats 4000000 in
set_option maxRecDepth 100000 in
theorem c_X7_tell (l : Launch) (dC : Nat → ClassId) (dI : Nat → Nat → Nat) (Q : CQ) (N : Nat) (σ : CS) (x1 : Int64) (R : Int32 × CS) (hf : f_X7_tell N σ x1 = some R) : Met l yX7_tell wzX7_tell ({ frames := 2, cells := CS.hs R.2 - CS.hs σ, slots := 17 * (CS.hs R.2 - CS.hs σ), locals := 60 * 2 }) (va_Pc [.ref (Q.o 3), .long x1] (zPre dC dI (CS.hs σ) (cW Q σ) (cT Q))) (va_Qi (fun (r : Int32) (_ : Unit) => r = R.1) (fun (_ : Unit) (t : State) => zPost dC dI (va_A (cW Q σ) (CS.hs σ)) (cW Q R.2) (cT Q) t ∧ t.heap.size = CS.hs R.2) (va_A (cW Q σ) (CS.hs σ))) (CS.hs R.2 - CS.hs σ) (17 * (CS.hs R.2 - CS.hs σ)) (va_A (cW Q σ) (CS.hs σ)) := by
  refine Met.ofW (cc := cX7_tell) (maxL := 4) (ret := (some .int)) (by decide) rfl ?_
  intro p e s m args below meth c s₁ B hml hv
  obtain ⟨rfl, hsz, hZ, hP, hK, hD0⟩ := hv
  have hx := B.exec
  have hb := B.bytes
  have hr := B.returns
  have hts := atoms_spec (ws := wzX7_tell) B.pre
  have hown : s.vm.findClass RX7 = some m.cls := findClass_of_methodNamed B.named
  have hlocks := B.notSynchronized
  have hD := hD0.self (sz := CS.hs σ)
  generalize hAe : va_A (cW Q σ) (CS.hs σ) = A at hD ⊢
  have hA : ∀ q : Nat, s.heap.size ≤ q → A q := fun q h => by rw [← hAe]; exact Or.inr (hsz ▸ h)
  have hC : CP dC dI Q A s.heap σ s.heap [] := ⟨hP, hD, va_S.rf, hsz⟩
  have h0 : CS.hs σ ≤ CS.hs σ := Nat.le_refl _
  have hl := lv_entry ([.ref (Q.o 3), .long x1]) (n := 4) (Nat.le_of_ble_eq_true rfl)
  rw [lg_entry_eq]
  generalize (lg_sl ([.ref (Q.o 3), .long x1]) ++ List.replicate (4 - (lg_sl ([.ref (Q.o 3), .long x1])).length) Slot.unset).toArray = ls at hl ⊢
  have hl : lv_has ls 4 [(0, .ref (Q.o 3)), (1, .long x1)] := hl
  unfold f_X7_tell at hf
  refine W.widen (k := CS.hs σ - CS.hs σ) (n := 17 * (CS.hs σ - CS.hs σ)) (Nat.zero_le _) (Nat.zero_le _) ?_
  refine lv_aload_n hx hb dX7_tell_0 rfl (lv_at hl 0 rfl) ?_
  refine cG_29 hx hb hts i_X7_tell_X7 hown hK hC (hts (.fieldLink RX7 20 "StatementRules2$Statements" "code" "LStatementRules2$Code;") k_X7_tell_fieldLink_RX7_20_SR_Statements_code_LSR_Code) (fun x9 q9 => u_same (hts (.sameField "StatementRules2$Statements" "StatementRules2$Formulas" "code" "LStatementRules2$Code;") k_X7_tell_sameField_SR_Statements_SR_Formulas_code_LSR_Code) x9 q9) dX7_tell_1 ?_
  refine lv_iconst (v := 1) hx hb dX7_tell_4 (by decide) ?_
  obtain ⟨p1, hcp1, hf⟩ := hf_bind hf
  have mo2 : CS.hs σ ≤ CS.hs p1.2 := Mono.go hcp1 (m_X0_newCells N σ 1)
  have hr9 : CS.hs p1.2 ≤ CS.hs R.2 := Mono.go hf (mono_bind (m_X4_add N p1.2 x1 p1.1 (-1)) (fun p5 => (mono_some (Nat.le_refl _))))
  have hFc := cFree hC hA
  refine va_calli (va_runV (As := [.int 1]) (rest := []) ⟨hx, hb, hml, hown, hts⟩ (c_X0_newCells l dC dI Q N σ 1 p1 hcp1) (cwV 1 hts hX7_tell_X0_newCells_v41 rfl rfl rfl (by decide +kernel) ⟨(show 1 + 1 ≤ 2 by omega), (show 8 + (2 + 11) + 60 * 1 ≤ 60 * 2 by omega)⟩) ⟨zPre.blind, va_recv hK hC.1 (ci := 0) (q0 := 2) rfl rfl, cPre_go hZ hK hC⟩ rfl rfl hl.1 rfl (lv_room (Nat.le_of_ble_eq_true rfl)) dX7_tell_5 (cAcc h0 mo2 hr9)) hC.2.2.1 (fun q _ h => hFc q h) hFc (fun r3 u9 t9 H1 locs ht hvm hw hB hz1 hk1 hS => ?_)
  obtain ⟨⟨hP, hK1, hD1⟩, hsz1⟩ := hB
  rw [ht] at hP hsz1
  have hC : CP dC dI Q A s.heap p1.2 H1 locs := ⟨hP, hD1.weaken (fun _ _ _ h => hFc _ h), hS, hsz1⟩
  generalize H1 = H at hC ⊢
  have h4 : (CS.hs σ) ≤ CS.hs p1.2 := Nat.le_trans h0 mo2
  refine W.widen (k := CS.hs p1.2 - (CS.hs σ)) (n := 17 * (CS.hs p1.2 - (CS.hs σ))) (cAcc2 h0 mo2) (cAcc3 h0 mo2) ?_
  obtain rfl : r3 = p1.1 := hw
  refine lv_istore_n (lv' := [(3, .int p1.1), (0, .ref (Q.o 3)), (1, .long x1)]) hx hb dX7_tell_8 rfl hl (by decide) rfl (fun ls hl => ?_)
  refine lv_aload_n hx hb dX7_tell_9 rfl (lv_at hl 1 rfl) ?_
  refine cG_31 hx hb hts i_X7_tell_X7 hown hK hC (hts (.fieldLink RX7 29 "StatementRules2$Statements" "names" "LStatementRules2$Names;") k_X7_tell_fieldLink_RX7_29_SR_Statements_names_LSR_Names) (fun x9 q9 => u_same (hts (.sameField "StatementRules2$Statements" "StatementRules2$Formulas" "names" "LStatementRules2$Names;") k_X7_tell_sameField_SR_Statements_SR_Formulas_names_LSR_Names) x9 q9) dX7_tell_10 ?_
  refine lv_lload_n hx hb dX7_tell_13 rfl (lv_at hl 2 rfl) ?_
  refine lv_iload_n hx hb dX7_tell_14 rfl (lv_at hl 0 rfl) ?_
  refine lv_iconst (v := (-1)) hx hb dX7_tell_15 (by decide) ?_
  obtain ⟨p5, hcp5, hf⟩ := hf_bind hf
  have mo6 : CS.hs p1.2 ≤ CS.hs p5.2 := Mono.go hcp5 (m_X4_add N p1.2 x1 p1.1 (-1))
  have hr9 : CS.hs p5.2 ≤ CS.hs R.2 := Mono.go hf (mono_some (Nat.le_refl _))
  have hFc := cFree hC hA
  refine va_callv (va_runV (As := [.long x1, .int p1.1, .int (-1)]) (rest := []) ⟨hx, hb, hml, hown, hts⟩ (c_X4_add l dC dI Q N p1.2 x1 p1.1 (-1) p5 hcp5) (cwV 3 hts hX7_tell_X4_add_v45 rfl rfl rfl (by decide +kernel) ⟨(show 1 + 1 ≤ 2 by omega), (show 8 + (5 + 11) + 60 * 1 ≤ 60 * 2 by omega)⟩) ⟨zPre.blind, va_recv hK hC.1 (ci := 3) (q0 := 5) rfl rfl, cPre_go hZ hK hC⟩ rfl rfl hl.1 rfl (lv_room (Nat.le_of_ble_eq_true rfl)) dX7_tell_16 (cAcc h4 mo6 hr9)) hC.2.2.1 (fun q _ h => hFc q h) hFc (fun u9 t9 H1 locs ht hvm hw hB hz1 hk1 hS => ?_)
  obtain ⟨⟨hP, hK1, hD1⟩, hsz1⟩ := hB
  rw [ht] at hP hsz1
  have hC : CP dC dI Q A s.heap p5.2 H1 locs := ⟨hP, hD1.weaken (fun _ _ _ h => hFc _ h), hS, hsz1⟩
  generalize H1 = H at hC ⊢
  have h8 : (CS.hs σ) ≤ CS.hs p5.2 := Nat.le_trans h4 mo6
  refine W.widen (k := CS.hs p5.2 - (CS.hs σ)) (n := 17 * (CS.hs p5.2 - (CS.hs σ))) (cAcc2 h4 mo6) (cAcc3 h4 mo6) ?_
  refine lv_aload_n hx hb dX7_tell_19 rfl (lv_at hl 1 rfl) ?_
  refine cG_29 hx hb hts i_X7_tell_X7 hown hK hC (hts (.fieldLink RX7 20 "StatementRules2$Statements" "code" "LStatementRules2$Code;") k_X7_tell_fieldLink_RX7_20_SR_Statements_code_LSR_Code) (fun x9 q9 => u_same (hts (.sameField "StatementRules2$Statements" "StatementRules2$Formulas" "code" "LStatementRules2$Code;") k_X7_tell_sameField_SR_Statements_SR_Formulas_code_LSR_Code) x9 q9) dX7_tell_20 ?_
  refine lv_dup hx hb dX7_tell_23 rfl ?_
  refine cGN_25 (v := (p5.2.i 25)) hx hb hts i_X7_tell_X0 hown hK hC (va_Nw.use rfl (hZ.1 (.fieldLinkNest RX7 267 "StatementRules2$Code" "toldNames" "I" "StatementRules2") (by decide +kernel))) (fun _ q9 => q9) dX7_tell_24 rfl ?_
  refine lv_iconst (v := 1) hx hb dX7_tell_27 (by decide) ?_
  refine lv_iadd hx hb dX7_tell_28 ?_
  refine cPN_25 (v := ((p5.2.i 25) + 1)) hx hb hts i_X7_tell_X0 hown hK hC (va_Nw.use rfl (hZ.1 (.fieldLinkNest RX7 267 "StatementRules2$Code" "toldNames" "I" "StatementRules2") (by decide +kernel))) (fun _ q9 => q9) dX7_tell_29 (fun H locs hC => ?_)
  refine lv_iload_n hx hb dX7_tell_32 rfl (lv_at hl 0 rfl) ?_
  obtain rfl := Option.some.inj hf
  exact W.iret (v := p1.1) hx hb hr (fun t ht hW => ⟨⟨p1.1, (), rfl, rfl, ⟨by rw [ht]; exact hC.1, va_K.moved hW.alike hK, hC.2.1⟩, by rw [ht]; exact hC.2.2.2⟩, hC.2.2.1.F ht⟩) hC.2.2.1.2.2 dX7_tell_33
theorem k_X7_define_fieldLink_RX7_20_SR_Statements_code_LSR_Code : Cond.fieldLink RX7 20 "StatementRules2$Statements" "code" "LStatementRules2$Code;" ∈ wzX7_define := List.mem_cons_of_mem _ (List.mem_append_right _ (List.mem_append_right _ (List.mem_append_right _ (List.mem_append_right _ (List.mem_append_right _ (List.mem_append_right _ (List.mem_append_right _ (List.mem_append_right _ (List.mem_append_right _ (List.mem_append_right _ (List.mem_append_right _ (List.mem_append_right _ (List.mem_append_right _ (List.mem_append_right _ (List.mem_append_right _ (List.mem_append_right _ (List.mem_append_right _ (List.mem_append_right _ (List.mem_append_right _ (List.mem_append_right _ (List.mem_append_right _ (List.mem_append_right _ (List.mem_append_left _ (List.mem_of_getElem? (i := 0) rfl))))))))))))))))))))))))
theorem k_X7_define_sameField_SR_Statements_SR_Formulas_code_LSR_Code : Cond.sameField "StatementRules2$Statements" "StatementRules2$Formulas" "code" "LStatementRules2$Code;" ∈ wzX7_define := List.mem_cons_of_mem _ (List.mem_append_right _ (List.mem_append_right _ (List.mem_append_right _ (List.mem_append_right _ (List.mem_append_right _ (List.mem_append_right _ (List.mem_append_right _ (List.mem_append_right _ (List.mem_append_right _ (List.mem_append_right _ (List.mem_append_right _ (List.mem_append_right _ (List.mem_append_right _ (List.mem_append_right _ (List.mem_append_right _ (List.mem_append_right _ (List.mem_append_right _ (List.mem_append_right _ (List.mem_append_right _ (List.mem_append_right _ (List.mem_append_right _ (List.mem_append_right _ (List.mem_append_left _ (List.mem_of_getElem? (i := 1) rfl))))))))))))))))))))))))
theorem i_X7_define_X7 : ∀ w ∈ wsX70, w ∈ wzX7_define := fun _ h => List.mem_cons_of_mem _ (List.mem_append_right _ (List.mem_append_right _ (List.mem_append_right _ (List.mem_append_right _ (List.mem_append_right _ (List.mem_append_right _ (List.mem_append_right _ (List.mem_append_right _ (List.mem_append_right _ (List.mem_append_right _ (List.mem_append_right _ (List.mem_append_right _ (List.mem_append_right _ (List.mem_append_right _ (List.mem_append_right _ (List.mem_append_right _ (List.mem_append_right _ (List.mem_append_right _ (List.mem_append_right _ (List.mem_append_right _ (List.mem_append_right _ (List.mem_append_right _ (List.mem_append_right _ (List.mem_append_right _ (List.mem_append_right _ (List.mem_append_right _ (List.mem_append_right _ (List.mem_append_right _ (List.mem_append_right _ (List.mem_append_right _ (List.mem_append_right _ (List.mem_append_right _ (List.mem_append_right _ (List.mem_append_right _ (List.mem_append_right _ (List.mem_append_right _ (List.mem_append_left _ (h))))))))))))))))))))))))))))))))))))))
set_option maxHeartbeats 4000000 in
set_option maxRecDepth 100000 in
theorem c_X7_define (l : Launch) (dC : Nat → ClassId) (dI : Nat → Nat → Nat) (Q : CQ) (N : Nat) (d : Nat) (E1 : CS → Option (Unit × CS)) (E2 : CS → Option (Int32 × CS)) (hE1 : cMF l dC dI Q d E1) (hE2 : cMO l dC dI Q d E2) (hm1 : ∀ σ, Mono (CS.hs σ) (E1 σ)) (hm2 : ∀ σ, Mono (CS.hs σ) (E2 σ)) (σ : CS) (x1 : Int64) (R : Unit × CS) (hf : f_X7_define N E1 E2 σ x1 = some R) : Met l yX7_define wzX7_define ({ frames := (13 + 40 * d), cells := CS.hs R.2 - CS.hs σ, slots := 17 * (CS.hs R.2 - CS.hs σ), locals := 60 * (13 + 40 * d) }) (va_Pc [.ref (Q.o 3), .long x1] (zPre dC dI (CS.hs σ) (cW Q σ) (cT Q))) (va_Qv (fun (_ : Unit) => True) (fun (_ : Unit) (t : State) => zPost dC dI (va_A (cW Q σ) (CS.hs σ)) (cW Q R.2) (cT Q) t ∧ t.heap.size = CS.hs R.2) (va_A (cW Q σ) (CS.hs σ))) (CS.hs R.2 - CS.hs σ) (17 * (CS.hs R.2 - CS.hs σ)) (va_A (cW Q σ) (CS.hs σ)) := by
  refine Met.ofW (cc := cX7_define) (maxL := 3) (ret := none) (by decide) rfl ?_
  intro p e s m args below meth c s₁ B hml hv
  obtain ⟨rfl, hsz, hZ, hP, hK, hD0⟩ := hv
  have hx := B.exec
  have hb := B.bytes
  have hr := B.returns
  have hts := atoms_spec (ws := wzX7_define) B.pre
  have hown : s.vm.findClass RX7 = some m.cls := findClass_of_methodNamed B.named
  have hlocks := B.notSynchronized
  have hD := hD0.self (sz := CS.hs σ)
  generalize hAe : va_A (cW Q σ) (CS.hs σ) = A at hD ⊢
  have hA : ∀ q : Nat, s.heap.size ≤ q → A q := fun q h => by rw [← hAe]; exact Or.inr (hsz ▸ h)
  have hC : CP dC dI Q A s.heap σ s.heap [] := ⟨hP, hD, va_S.rf, hsz⟩
  have h0 : CS.hs σ ≤ CS.hs σ := Nat.le_refl _
  have hl := lv_entry ([.ref (Q.o 3), .long x1]) (n := 3) (Nat.le_of_ble_eq_true rfl)
  rw [lg_entry_eq]
  generalize (lg_sl ([.ref (Q.o 3), .long x1]) ++ List.replicate (3 - (lg_sl ([.ref (Q.o 3), .long x1])).length) Slot.unset).toArray = ls at hl ⊢
  have hl : lv_has ls 3 [(0, .ref (Q.o 3)), (1, .long x1)] := hl
  unfold f_X7_define at hf
  refine W.widen (k := CS.hs σ - CS.hs σ) (n := 17 * (CS.hs σ - CS.hs σ)) (Nat.zero_le _) (Nat.zero_le _) ?_
  refine lv_aload_n hx hb dX7_define_0 rfl (lv_at hl 0 rfl) ?_
  refine lv_bipush (v := 61) hx hb dX7_define_1 (by decide) ?_
  obtain ⟨p1, hcp1, hf⟩ := hf_bind hf
  have mo2 : CS.hs σ ≤ CS.hs p1.2 := Mono.go hcp1 (m_X1_expect N σ 61)
  have hr9 : CS.hs p1.2 ≤ CS.hs R.2 := Mono.go hf (mono_bind (m_X1_expression N E1 E2 hm1 hm2 p1.2) (fun p5 => (mono_bind (m_X7_tell N p5.2 x1) (fun p9 => (mono_bind (m_X0_add N p9.2 2 p9.1) (fun p13 => (mono_some (Nat.le_refl _))))))))
  have hFc := cFree hC hA
  refine va_callv (va_runU (As := [.int 61]) (rest := []) ⟨hx, hb, hml, hown, hts⟩ (c_X1_expect l dC dI Q N σ 61 p1 hcp1) (va_cwU 1 hts hX7_define_X1_expect_u155 rfl rfl rfl rfl (by decide +kernel) ⟨(show 4 + 1 ≤ (13 + 40 * d) by omega), (show 8 + (2 + 11) + 60 * 4 ≤ 60 * (13 + 40 * d) by omega)⟩) ⟨zPre.blind, va_recv hK hC.1 (ci := 6) (q0 := 3) rfl rfl, cPre_go hZ hK hC⟩ rfl rfl hl.1 rfl (lv_room (Nat.le_of_ble_eq_true rfl)) dX7_define_3 (cAcc h0 mo2 hr9)) hC.2.2.1 (fun q _ h => hFc q h) hFc (fun u9 t9 H1 locs ht hvm hw hB hz1 hk1 hS => ?_)
  obtain ⟨⟨hP, hK1, hD1⟩, hsz1⟩ := hB
  rw [ht] at hP hsz1
  have hC : CP dC dI Q A s.heap p1.2 H1 locs := ⟨hP, hD1.weaken (fun _ _ _ h => hFc _ h), hS, hsz1⟩
  generalize H1 = H at hC ⊢
  have h4 : (CS.hs σ) ≤ CS.hs p1.2 := Nat.le_trans h0 mo2
  refine W.widen (k := CS.hs p1.2 - (CS.hs σ)) (n := 17 * (CS.hs p1.2 - (CS.hs σ))) (cAcc2 h0 mo2) (cAcc3 h0 mo2) ?_
  refine lv_aload_n hx hb dX7_define_6 rfl (lv_at hl 0 rfl) ?_
  obtain ⟨p5, hcp5, hf⟩ := hf_bind hf
  have mo6 : CS.hs p1.2 ≤ CS.hs p5.2 := Mono.go hcp5 (m_X1_expression N E1 E2 hm1 hm2 p1.2)
  have hr9 : CS.hs p5.2 ≤ CS.hs R.2 := Mono.go hf (mono_bind (m_X7_tell N p5.2 x1) (fun p9 => (mono_bind (m_X0_add N p9.2 2 p9.1) (fun p13 => (mono_some (Nat.le_refl _))))))
  have hFc := cFree hC hA
  refine va_callv (va_runU (As := []) (rest := []) ⟨hx, hb, hml, hown, hts⟩ (c_X1_expression l dC dI Q N d E1 E2 hE1 hE2 hm1 hm2 p1.2 p5 hcp5) (va_cwU 0 hts hX7_define_X1_expression_u211 rfl rfl rfl rfl (by decide +kernel) ⟨(show (12 + 40 * d) + 1 ≤ (13 + 40 * d) by omega), (show 8 + (3 + 11) + 60 * (12 + 40 * d) ≤ 60 * (13 + 40 * d) by omega)⟩) ⟨zPre.blind, va_recv hK hC.1 (ci := 6) (q0 := 3) rfl rfl, cPre_go hZ hK hC⟩ rfl rfl hl.1 rfl (lv_room (Nat.le_of_ble_eq_true rfl)) dX7_define_7 (cAcc h4 mo6 hr9)) hC.2.2.1 (fun q _ h => hFc q h) hFc (fun u9 t9 H1 locs ht hvm hw hB hz1 hk1 hS => ?_)
  obtain ⟨⟨hP, hK1, hD1⟩, hsz1⟩ := hB
  rw [ht] at hP hsz1
  have hC : CP dC dI Q A s.heap p5.2 H1 locs := ⟨hP, hD1.weaken (fun _ _ _ h => hFc _ h), hS, hsz1⟩
  generalize H1 = H at hC ⊢
  have h8 : (CS.hs σ) ≤ CS.hs p5.2 := Nat.le_trans h4 mo6
  refine W.widen (k := CS.hs p5.2 - (CS.hs σ)) (n := 17 * (CS.hs p5.2 - (CS.hs σ))) (cAcc2 h4 mo6) (cAcc3 h4 mo6) ?_
  refine lv_aload_n hx hb dX7_define_10 rfl (lv_at hl 0 rfl) ?_
  refine cG_29 hx hb hts i_X7_define_X7 hown hK hC (hts (.fieldLink RX7 20 "StatementRules2$Statements" "code" "LStatementRules2$Code;") k_X7_define_fieldLink_RX7_20_SR_Statements_code_LSR_Code) (fun x9 q9 => u_same (hts (.sameField "StatementRules2$Statements" "StatementRules2$Formulas" "code" "LStatementRules2$Code;") k_X7_define_sameField_SR_Statements_SR_Formulas_code_LSR_Code) x9 q9) dX7_define_11 ?_
  refine lv_iconst (v := 2) hx hb dX7_define_14 (by decide) ?_
  refine lv_aload_n hx hb dX7_define_15 rfl (lv_at hl 0 rfl) ?_
  refine lv_lload_n hx hb dX7_define_16 rfl (lv_at hl 1 rfl) ?_
  obtain ⟨p9, hcp9, hf⟩ := hf_bind hf
  have mo10 : CS.hs p5.2 ≤ CS.hs p9.2 := Mono.go hcp9 (m_X7_tell N p5.2 x1)
  have hr9 : CS.hs p9.2 ≤ CS.hs R.2 := Mono.go hf (mono_bind (m_X0_add N p9.2 2 p9.1) (fun p13 => (mono_some (Nat.le_refl _))))
  have hFc := cFree hC hA
  refine va_calli (va_runV (As := [.long x1]) (rest := [.int 2, .ref (Q.o 2)]) ⟨hx, hb, hml, hown, hts⟩ (c_X7_tell l dC dI Q N p5.2 x1 p9 hcp9) (cwV 1 hts hX7_define_X7_tell_v264 rfl rfl rfl (by decide +kernel) ⟨(show 2 + 1 ≤ (13 + 40 * d) by omega), (show 8 + (4 + 11) + 60 * 2 ≤ 60 * (13 + 40 * d) by omega)⟩) ⟨zPre.blind, va_recv hK hC.1 (ci := 6) (q0 := 3) rfl rfl, cPre_go hZ hK hC⟩ rfl rfl hl.1 rfl (lv_room (Nat.le_of_ble_eq_true rfl)) dX7_define_17 (cAcc h8 mo10 hr9)) hC.2.2.1 (fun q _ h => hFc q h) hFc (fun r11 u9 t9 H1 locs ht hvm hw hB hz1 hk1 hS => ?_)
  obtain ⟨⟨hP, hK1, hD1⟩, hsz1⟩ := hB
  rw [ht] at hP hsz1
  have hC : CP dC dI Q A s.heap p9.2 H1 locs := ⟨hP, hD1.weaken (fun _ _ _ h => hFc _ h), hS, hsz1⟩
  generalize H1 = H at hC ⊢
  have h12 : (CS.hs σ) ≤ CS.hs p9.2 := Nat.le_trans h8 mo10
  refine W.widen (k := CS.hs p9.2 - (CS.hs σ)) (n := 17 * (CS.hs p9.2 - (CS.hs σ))) (cAcc2 h8 mo10) (cAcc3 h8 mo10) ?_
  obtain rfl : r11 = p9.1 := hw
  obtain ⟨p13, hcp13, hf⟩ := hf_bind hf
  have mo14 : CS.hs p9.2 ≤ CS.hs p13.2 := Mono.go hcp13 (m_X0_add N p9.2 2 p9.1)
  have hr9 : CS.hs p13.2 ≤ CS.hs R.2 := Mono.go hf (mono_some (Nat.le_refl _))
  have hFc := cFree hC hA
  refine va_callv (va_runV (As := [.int 2, .int p9.1]) (rest := []) ⟨hx, hb, hml, hown, hts⟩ (c_X0_add l dC dI Q N p9.2 2 p9.1 p13 hcp13) (cwV 2 hts hX7_define_X0_add_v176 rfl rfl rfl (by decide +kernel) ⟨(show 2 + 1 ≤ (13 + 40 * d) by omega), (show 8 + (3 + 11) + 60 * 2 ≤ 60 * (13 + 40 * d) by omega)⟩) ⟨zPre.blind, va_recv hK hC.1 (ci := 0) (q0 := 2) rfl rfl, cPre_go hZ hK hC⟩ rfl rfl hl.1 rfl (lv_room (Nat.le_of_ble_eq_true rfl)) dX7_define_20 (cAcc h12 mo14 hr9)) hC.2.2.1 (fun q _ h => hFc q h) hFc (fun u9 t9 H1 locs ht hvm hw hB hz1 hk1 hS => ?_)
  obtain ⟨⟨hP, hK1, hD1⟩, hsz1⟩ := hB
  rw [ht] at hP hsz1
  have hC : CP dC dI Q A s.heap p13.2 H1 locs := ⟨hP, hD1.weaken (fun _ _ _ h => hFc _ h), hS, hsz1⟩
  generalize H1 = H at hC ⊢
  have h16 : (CS.hs σ) ≤ CS.hs p13.2 := Nat.le_trans h12 mo14
  refine W.widen (k := CS.hs p13.2 - (CS.hs σ)) (n := 17 * (CS.hs p13.2 - (CS.hs σ))) (cAcc2 h12 mo14) (cAcc3 h12 mo14) ?_
  obtain rfl := Option.some.inj hf
  exact W.vret hx hb hr (fun t ht hW => ⟨⟨(), rfl, trivial, ⟨by rw [ht]; exact hC.1, va_K.moved hW.alike hK, hC.2.1⟩, by rw [ht]; exact hC.2.2.2⟩, hC.2.2.1.F ht⟩) hC.2.2.1.2.2 dX7_define_23
theorem k_X6_loopBehind_fieldLink_RX6_21_SR_Opens_count_I : Cond.fieldLink RX6 21 "StatementRules2$Opens" "count" "I" ∈ wzX6_loopBehind := List.mem_cons_of_mem _ (List.mem_append_left _ (List.mem_of_getElem? (i := 0) rfl))
theorem i_X6_loopBehind_X6 : ∀ w ∈ wsX60, w ∈ wzX6_loopBehind := fun _ h => List.mem_cons_of_mem _ (List.mem_append_right _ (List.mem_append_left _ (h)))
theorem i_X6_loopBehind_X5 : ∀ w ∈ wsX50, w ∈ wzX6_loopBehind := fun _ h => List.mem_cons_of_mem _ (List.mem_append_right _ (List.mem_append_right _ (List.mem_append_left _ (h))))
set_option maxHeartbeats 4000000 in
set_option maxRecDepth 100000 in
theorem j_X6_loopBehind_47 {p : Program} {e : Env} {s : State} {m : MethodId} {args : Array Value} {below : List Frame} {meth : Method} {c : Code} {A : Nat → Prop} (l : Launch) (dC : Nat → ClassId) (dI : Nat → Nat → Nat) (Q : CQ) (N : Nat) (z9h : Nat) (R : Int32 × CS) (hx : p.tables.exec = Jvm.exec) (hb : c.code = cX6_loopBehind) (hr : meth.sig.returnType = (some .int)) (hml : c.maxLocals = 4) (hown : s.vm.findClass RX6 = some m.cls) (hts : ∀ w ∈ wzX6_loopBehind, w.before args s = true) (hlocks : meth.locks = false) (hZ : zAMB s) (hA : ∀ q : Nat, s.heap.size ≤ q → A q) (hK : va_K (dC, dI) vwCl (cT Q) s) : ∀ (σ : CS) (H : Heap) (locs : List Loc) (ls : Array Slot), f_X6_loopBehind_47 N σ = some R → z9h ≤ CS.hs σ → CP dC dI Q A s.heap σ H locs → lv_has ls 4 [] → W p l e ({ frames := 2, cells := CS.hs R.2 - z9h, slots := 17 * (CS.hs R.2 - z9h), locals := 60 * 2 }) s m args below meth c H locs (CS.hs σ - z9h) (17 * (CS.hs σ - z9h)) (MQ below (va_Qi (fun (r : Int32) (_ : Unit) => r = R.1) (fun (_ : Unit) (t : State) => zPost dC dI A (cW Q R.2) (cT Q) t ∧ t.heap.size = CS.hs R.2) A) args s (CS.hs R.2 - z9h) (17 * (CS.hs R.2 - z9h)) A) (F0 m 47 ls []) := by
  intro σ  H locs ls hf h0 hC hl
  unfold f_X6_loopBehind_47 at hf
  refine lv_iconst (v := (-1)) hx hb dX6_loopBehind_47 (by decide) ?_
  obtain rfl := Option.some.inj hf
  exact W.iret (v := (-1)) hx hb hr (fun t ht hW => ⟨⟨(-1), (), rfl, rfl, ⟨by rw [ht]; exact hC.1, va_K.moved hW.alike hK, hC.2.1⟩, by rw [ht]; exact hC.2.2.2⟩, hC.2.2.1.F ht⟩) hC.2.2.1.2.2 dX6_loopBehind_48
set_option maxHeartbeats 4000000 in
set_option maxRecDepth 100000 in
theorem j_X6_loopBehind_32 {p : Program} {e : Env} {s : State} {m : MethodId} {args : Array Value} {below : List Frame} {meth : Method} {c : Code} {A : Nat → Prop} (l : Launch) (dC : Nat → ClassId) (dI : Nat → Nat → Nat) (Q : CQ) (N : Nat) (z9h : Nat) (R : Int32 × CS) (hx : p.tables.exec = Jvm.exec) (hb : c.code = cX6_loopBehind) (hr : meth.sig.returnType = (some .int)) (hml : c.maxLocals = 4) (hown : s.vm.findClass RX6 = some m.cls) (hts : ∀ w ∈ wzX6_loopBehind, w.before args s = true) (hlocks : meth.locks = false) (hZ : zAMB s) (hA : ∀ q : Nat, s.heap.size ≤ q → A q) (hK : va_K (dC, dI) vwCl (cT Q) s) : ∀ (σ : CS) (x2 : Int32) (x3 : Option Nat) (H : Heap) (locs : List Loc) (ls : Array Slot), f_X6_loopBehind_32 N σ x2 x3 = some R → z9h ≤ CS.hs σ → CP dC dI Q A s.heap σ H locs → lv_has ls 4 [(2, .int x2), (3, va_rf x3)] → W p l e ({ frames := 2, cells := CS.hs R.2 - z9h, slots := 17 * (CS.hs R.2 - z9h), locals := 60 * 2 }) s m args below meth c H locs (CS.hs σ - z9h) (17 * (CS.hs σ - z9h)) (MQ below (va_Qi (fun (r : Int32) (_ : Unit) => r = R.1) (fun (_ : Unit) (t : State) => zPost dC dI A (cW Q R.2) (cT Q) t ∧ t.heap.size = CS.hs R.2) A) args s (CS.hs R.2 - z9h) (17 * (CS.hs R.2 - z9h)) A) (F0 m 32 ls []) := by
  intro σ x2 x3 H locs ls hf h0 hC hl
  unfold f_X6_loopBehind_32 at hf
  rcases hf_oc hf with ⟨q8, hf⟩ | ⟨a9, q8, hf⟩
  ·
    subst q8
    have hl : lv_has ls 4 [(2, .int x2), (3, .null)] := hl
    refine lv_aload_nN hx hb dX6_loopBehind_32 rfl (lv_at hl 1 rfl) ?_
    refine lv_ifnullN (tgt := 47) hx hb dX6_loopBehind_33 (by decide) ?_
    exact j_X6_loopBehind_47 l dC dI Q N z9h R hx hb hr hml hown hts hlocks hZ hA hK σ _ _ _ hf h0 hC (lv_sub hl [] rfl)
  ·
    subst q8
    have hl : lv_has ls 4 [(2, .int x2), (3, .ref a9)] := hl
    refine lv_aload_n hx hb dX6_loopBehind_32 rfl (lv_at hl 1 rfl) ?_
    refine lv_ifnull hx hb dX6_loopBehind_33 ?_
    refine lv_aload_n hx hb dX6_loopBehind_36 rfl (lv_at hl 1 rfl) ?_
    obtain ⟨b10, hf⟩ := hf_ite hf
    obtain ⟨k11, hk11⟩ := cPl (Q := Q) (s := σ) (a := a9) b10.1
    rw [cE0 (show CS.k σ a9 = 0 from b10.2)] at hk11
    obtain ⟨p12, hcp12, hf⟩ := hf_bind hf
    have mo13 : CS.hs σ ≤ CS.hs p12.2 := Mono.go hcp12 (m_X5_isLoop N σ a9)
    have hr9 : CS.hs p12.2 ≤ CS.hs R.2 := Mono.go hf (mono_ite (m_X6_loopBehind_47 N p12.2) (mono_some (Nat.le_refl _)))
    have hFc := cFree hC hA
    refine va_calli (va_runV (As := []) (rest := []) ⟨hx, hb, hml, hown, hts⟩ (c_X5_isLoop l dC dI Q N σ a9 p12 hcp12) (cwV 0 hts hX6_loopBehind_X5_isLoop_v92 rfl rfl rfl (by decide +kernel) ⟨(show 1 + 1 ≤ 2 by omega), (show 8 + (1 + 11) + 60 * 1 ≤ 60 * 2 by omega)⟩) ⟨zPre.blind, va_recv hK hC.1 (ci := 4) (q0 := k11) rfl hk11, cPre_go hZ hK hC⟩ rfl rfl hl.1 rfl (lv_room (Nat.le_of_ble_eq_true rfl)) dX6_loopBehind_37 (cAcc h0 mo13 hr9)) hC.2.2.1 (fun q _ h => hFc q h) hFc (fun r14 u9 t9 H1 locs ht hvm hw hB hz1 hk1 hS => ?_)
    obtain ⟨⟨hP, hK1, hD1⟩, hsz1⟩ := hB
    rw [ht] at hP hsz1
    have hC : CP dC dI Q A s.heap p12.2 H1 locs := ⟨hP, hD1.weaken (fun _ _ _ h => hFc _ h), hS, hsz1⟩
    generalize H1 = H at hC ⊢
    have h15 : z9h ≤ CS.hs p12.2 := Nat.le_trans h0 mo13
    refine W.widen (k := CS.hs p12.2 - z9h) (n := 17 * (CS.hs p12.2 - z9h)) (cAcc2 h0 mo13) (cAcc3 h0 mo13) ?_
    obtain rfl : r14 = p12.1 := hw
    refine lv_if_eq (tgt := 47) hx hb dX6_loopBehind_40 (by decide) (fun c16 => ?_) (fun c16 => ?_)
    ·
      replace hf := (if_pos c16).symm.trans hf
      exact j_X6_loopBehind_47 l dC dI Q N z9h R hx hb hr hml hown hts hlocks hZ hA hK p12.2 _ _ _ hf h15 hC (lv_sub hl [] rfl)
    ·
      replace hf := (if_neg c16).symm.trans hf
      refine lv_iload_n hx hb dX6_loopBehind_43 rfl (lv_at hl 0 rfl) ?_
      refine lv_goto (tgt := 48) hx hb dX6_loopBehind_44 (by decide) ?_
      obtain rfl := Option.some.inj hf
      exact W.iret (v := x2) hx hb hr (fun t ht hW => ⟨⟨x2, (), rfl, rfl, ⟨by rw [ht]; exact hC.1, va_K.moved hW.alike hK, hC.2.1⟩, by rw [ht]; exact hC.2.2.2⟩, hC.2.2.1.F ht⟩) hC.2.2.1.2.2 dX6_loopBehind_48
set_option maxHeartbeats 4000000 in
set_option maxRecDepth 100000 in
theorem j_X6_loopBehind_4 {p : Program} {e : Env} {s : State} {m : MethodId} {args : Array Value} {below : List Frame} {meth : Method} {c : Code} {A : Nat → Prop} (l : Launch) (dC : Nat → ClassId) (dI : Nat → Nat → Nat) (Q : CQ) (N : Nat) (z9h : Nat) (R : Int32 × CS) (hx : p.tables.exec = Jvm.exec) (hb : c.code = cX6_loopBehind) (hr : meth.sig.returnType = (some .int)) (hml : c.maxLocals = 4) (hown : s.vm.findClass RX6 = some m.cls) (hts : ∀ w ∈ wzX6_loopBehind, w.before args s = true) (hlocks : meth.locks = false) (hZ : zAMB s) (hA : ∀ q : Nat, s.heap.size ≤ q → A q) (hK : va_K (dC, dI) vwCl (cT Q) s) : ∀ (n9 : Nat), ∀ (σ : CS) (x2 : Int32) (H : Heap) (locs : List Loc) (ls : Array Slot), f_X6_loopBehind_4 N n9 σ x2 = some R → z9h ≤ CS.hs σ → CP dC dI Q A s.heap σ H locs → lv_has ls 4 [(0, .ref (Q.o 6)), (2, .int x2)] → W p l e ({ frames := 2, cells := CS.hs R.2 - z9h, slots := 17 * (CS.hs R.2 - z9h), locals := 60 * 2 }) s m args below meth c H locs (CS.hs σ - z9h) (17 * (CS.hs σ - z9h)) (MQ below (va_Qi (fun (r : Int32) (_ : Unit) => r = R.1) (fun (_ : Unit) (t : State) => zPost dC dI A (cW Q R.2) (cT Q) t ∧ t.heap.size = CS.hs R.2) A) args s (CS.hs R.2 - z9h) (17 * (CS.hs R.2 - z9h)) A) (F0 m 4 ls []) := by
  intro n9
  induction n9 with
  | zero => intro σ x2 H locs ls hf; exact absurd hf (by intro q9; cases q9)
  | succ n9 ih =>
    intro σ x2 H locs ls hf h0 hC hl
    replace hf : b_X6_loopBehind_4 N (f_X6_loopBehind_4 N n9) σ x2 = some R := hf
    unfold b_X6_loopBehind_4 at hf
    have hMK := fun (σ : CS) (x2 : Int32) => m_X6_loopBehind_4 N n9 σ x2
    refine lv_iload_n hx hb dX6_loopBehind_4 rfl (lv_at hl 1 rfl) ?_
    refine lv_aload_n hx hb dX6_loopBehind_5 rfl (lv_at hl 0 rfl) ?_
    refine cG_53 (v := (σ.i 53)) hx hb hts i_X6_loopBehind_X6 hown hK hC (hts (.fieldLink RX6 21 "StatementRules2$Opens" "count" "I") k_X6_loopBehind_fieldLink_RX6_21_SR_Opens_count_I) (fun _ q9 => q9) dX6_loopBehind_6 rfl ?_
    refine lv_icmp_ge (tgt := 55) hx hb dX6_loopBehind_9 (by decide) (fun c1 => ?_) (fun c1 => ?_)
    ·
      replace hf := (if_pos c1).symm.trans hf
      refine lv_iconst (v := (-1)) hx hb dX6_loopBehind_55 (by decide) ?_
      obtain rfl := Option.some.inj hf
      exact W.iret (v := (-1)) hx hb hr (fun t ht hW => ⟨⟨(-1), (), rfl, rfl, ⟨by rw [ht]; exact hC.1, va_K.moved hW.alike hK, hC.2.1⟩, by rw [ht]; exact hC.2.2.2⟩, hC.2.2.1.F ht⟩) hC.2.2.1.2.2 dX6_loopBehind_56
    ·
      replace hf := (if_neg c1).symm.trans hf
      refine lv_aload_n hx hb dX6_loopBehind_12 rfl (lv_at hl 0 rfl) ?_
      refine lv_iload_n hx hb dX6_loopBehind_13 rfl (lv_at hl 1 rfl) ?_
      obtain ⟨p2, hcp2, hf⟩ := hf_bind hf
      have mo3 : CS.hs σ ≤ CS.hs p2.2 := Mono.go hcp2 (m_X6_row N σ x2)
      have hr9 : CS.hs p2.2 ≤ CS.hs R.2 := Mono.go hf (mono_oc (m_X6_loopBehind_32 N p2.2 x2 none) (fun a7 => (mono_ite (mono_ite (hMK p2.2 (x2 + 1)) (m_X6_loopBehind_32 N p2.2 x2 (some a7))) mono_none)))
      have hFc := cFree hC hA
      refine va_callq (va_runV (As := [.int x2]) (rest := []) ⟨hx, hb, hml, hown, hts⟩ (c_X6_row l dC dI Q N σ x2 p2 hcp2) (cwV 1 hts hX6_loopBehind_X6_row_v88 rfl rfl rfl (by decide +kernel) ⟨(show 1 + 1 ≤ 2 by omega), (show 8 + (2 + 11) + 60 * 1 ≤ 60 * 2 by omega)⟩) ⟨zPre.blind, va_recv hK hC.1 (ci := 5) (q0 := 6) rfl rfl, cPre_go hZ hK hC⟩ rfl rfl hl.1 rfl (lv_room (Nat.le_of_ble_eq_true rfl)) dX6_loopBehind_14 (cAcc h0 mo3 hr9)) hC.2.2.1 (fun q _ h => hFc q h) hFc (fun r4 u9 t9 H1 locs ht hvm hw hB hz1 hk1 hS => ?_)
      obtain ⟨⟨hP, hK1, hD1⟩, hsz1⟩ := hB
      rw [ht] at hP hsz1
      have hC : CP dC dI Q A s.heap p2.2 H1 locs := ⟨hP, hD1.weaken (fun _ _ _ h => hFc _ h), hS, hsz1⟩
      generalize H1 = H at hC ⊢
      have h5 : z9h ≤ CS.hs p2.2 := Nat.le_trans h0 mo3
      refine W.widen (k := CS.hs p2.2 - z9h) (n := 17 * (CS.hs p2.2 - z9h)) (cAcc2 h0 mo3) (cAcc3 h0 mo3) ?_
      obtain rfl : r4 = p2.1 := hw
      rcases hf_oc hf with ⟨q6, hf⟩ | ⟨a7, q6, hf⟩
      ·
        refine W.eq (congrArg (fun v9 => F0 m 17 ls (va_rf v9 :: [])) q6) ?_
        refine W.eq (g2 := F0 m 17 ls (.null :: [])) rfl ?_
        refine lv_astore_nN (lv' := [(3, .null), (0, .ref (Q.o 6)), (2, .int x2)]) hx hb dX6_loopBehind_17 rfl hl (by decide) rfl (fun ls hl => ?_)
        refine lv_aload_nN hx hb dX6_loopBehind_18 rfl (lv_at hl 0 rfl) ?_
        refine lv_ifnullN (tgt := 32) hx hb dX6_loopBehind_19 (by decide) ?_
        exact j_X6_loopBehind_32 l dC dI Q N z9h R hx hb hr hml hown hts hlocks hZ hA hK p2.2 x2 none _ _ _ hf h5 hC (lv_sub hl [2, 0] rfl)
      ·
        refine W.eq (congrArg (fun v9 => F0 m 17 ls (va_rf v9 :: [])) q6) ?_
        refine W.eq (g2 := F0 m 17 ls (.ref a7 :: [])) rfl ?_
        refine lv_astore_n (lv' := [(3, .ref a7), (0, .ref (Q.o 6)), (2, .int x2)]) hx hb dX6_loopBehind_17 rfl hl (by decide) rfl (fun ls hl => ?_)
        refine lv_aload_n hx hb dX6_loopBehind_18 rfl (lv_at hl 0 rfl) ?_
        refine lv_ifnull hx hb dX6_loopBehind_19 ?_
        refine lv_aload_n hx hb dX6_loopBehind_22 rfl (lv_at hl 0 rfl) ?_
        obtain ⟨b17, hf⟩ := hf_ite hf
        refine pGN_X5_0 (v := (CS.o p2.2 a7 0)) hx hb hts i_X6_loopBehind_X5 hown hK hC (va_Nw.use rfl (hZ.1 (.fieldLinkNest RX6 41 "StatementRules2$Open" "sort" "I" "StatementRules2") (by decide +kernel))) (fun _ q9 => q9) dX6_loopBehind_23 b17 rfl ?_
        refine lv_sipush (v := 303) hx hb dX6_loopBehind_26 (by decide) ?_
        refine lv_icmp_eq (tgt := 49) hx hb dX6_loopBehind_29 (by decide) (fun c18 => ?_) (fun c18 => ?_)
        ·
          replace hf := (if_pos c18).symm.trans hf
          refine lv_iinc (v := (x2 + 1)) (lv' := [(2, .int (x2 + 1)), (3, .ref a7), (0, .ref (Q.o 6))]) hx hb dX6_loopBehind_49 hl (k := 2) rfl rfl (by decide) rfl (fun ls hl => ?_)
          refine lv_goto (tgt := 4) hx hb dX6_loopBehind_52 (by decide) ?_
          exact ih p2.2 (x2 + 1) _ _ _ hf h5 hC (lv_sub hl [2, 0] rfl)
        ·
          replace hf := (if_neg c18).symm.trans hf
          exact j_X6_loopBehind_32 l dC dI Q N z9h R hx hb hr hml hown hts hlocks hZ hA hK p2.2 x2 (some a7) _ _ _ hf h5 hC (lv_sub hl [2, 0] rfl)
set_option maxHeartbeats 4000000 in
set_option maxRecDepth 100000 in
theorem c_X6_loopBehind (l : Launch) (dC : Nat → ClassId) (dI : Nat → Nat → Nat) (Q : CQ) (N : Nat) (σ : CS) (x1 : Int32) (R : Int32 × CS) (hf : f_X6_loopBehind N σ x1 = some R) : Met l yX6_loopBehind wzX6_loopBehind ({ frames := 2, cells := CS.hs R.2 - CS.hs σ, slots := 17 * (CS.hs R.2 - CS.hs σ), locals := 60 * 2 }) (va_Pc [.ref (Q.o 6), .int x1] (zPre dC dI (CS.hs σ) (cW Q σ) (cT Q))) (va_Qi (fun (r : Int32) (_ : Unit) => r = R.1) (fun (_ : Unit) (t : State) => zPost dC dI (va_A (cW Q σ) (CS.hs σ)) (cW Q R.2) (cT Q) t ∧ t.heap.size = CS.hs R.2) (va_A (cW Q σ) (CS.hs σ))) (CS.hs R.2 - CS.hs σ) (17 * (CS.hs R.2 - CS.hs σ)) (va_A (cW Q σ) (CS.hs σ)) := by
  refine Met.ofW (cc := cX6_loopBehind) (maxL := 4) (ret := (some .int)) (by decide) rfl ?_
  intro p e s m args below meth c s₁ B hml hv
  obtain ⟨rfl, hsz, hZ, hP, hK, hD0⟩ := hv
  have hx := B.exec
  have hb := B.bytes
  have hr := B.returns
  have hts := atoms_spec (ws := wzX6_loopBehind) B.pre
  have hown : s.vm.findClass RX6 = some m.cls := findClass_of_methodNamed B.named
  have hlocks := B.notSynchronized
  have hD := hD0.self (sz := CS.hs σ)
  generalize hAe : va_A (cW Q σ) (CS.hs σ) = A at hD ⊢
  have hA : ∀ q : Nat, s.heap.size ≤ q → A q := fun q h => by rw [← hAe]; exact Or.inr (hsz ▸ h)
  have hC : CP dC dI Q A s.heap σ s.heap [] := ⟨hP, hD, va_S.rf, hsz⟩
  have h0 : CS.hs σ ≤ CS.hs σ := Nat.le_refl _
  have hl := lv_entry ([.ref (Q.o 6), .int x1]) (n := 4) (Nat.le_of_ble_eq_true rfl)
  rw [lg_entry_eq]
  generalize (lg_sl ([.ref (Q.o 6), .int x1]) ++ List.replicate (4 - (lg_sl ([.ref (Q.o 6), .int x1])).length) Slot.unset).toArray = ls at hl ⊢
  have hl : lv_has ls 4 [(0, .ref (Q.o 6)), (1, .int x1)] := hl
  unfold f_X6_loopBehind at hf
  refine W.widen (k := CS.hs σ - CS.hs σ) (n := 17 * (CS.hs σ - CS.hs σ)) (Nat.zero_le _) (Nat.zero_le _) ?_
  refine lv_iload_n hx hb dX6_loopBehind_0 rfl (lv_at hl 1 rfl) ?_
  refine lv_iconst (v := 1) hx hb dX6_loopBehind_1 (by decide) ?_
  refine lv_iadd hx hb dX6_loopBehind_2 ?_
  refine lv_istore_n (lv' := [(2, .int (x1 + 1)), (0, .ref (Q.o 6)), (1, .int x1)]) hx hb dX6_loopBehind_3 rfl hl (by decide) rfl (fun ls hl => ?_)
  exact j_X6_loopBehind_4 l dC dI Q N (CS.hs σ) R hx hb hr hml hown hts hlocks hZ hA hK N σ (x1 + 1) _ _ _ hf h0 hC (lv_sub hl [1, 0] rfl)
theorem k_X7_labelTarget_fieldLink_RX7_14_SR_Statements_opens_LSR_Opens : Cond.fieldLink RX7 14 "StatementRules2$Statements" "opens" "LStatementRules2$Opens;" ∈ wzX7_labelTarget := List.mem_cons_of_mem _ (List.mem_append_left _ (List.mem_of_getElem? (i := 0) rfl))
theorem i_X7_labelTarget_X7 : ∀ w ∈ wsX70, w ∈ wzX7_labelTarget := fun _ h => List.mem_cons_of_mem _ (List.mem_append_right _ (List.mem_append_left _ (h)))
theorem k_X7_labelTarget_fieldLink_RX7_71_SR_Statements_tokens_LSR_Tokens : Cond.fieldLink RX7 71 "StatementRules2$Statements" "tokens" "LStatementRules2$Tokens;" ∈ wzX7_labelTarget := List.mem_cons_of_mem _ (List.mem_append_left _ (List.mem_of_getElem? (i := 1) rfl))
theorem k_X7_labelTarget_sameField_SR_Statements_SR_Formulas_tokens_LSR_Tokens : Cond.sameField "StatementRules2$Statements" "StatementRules2$Formulas" "tokens" "LStatementRules2$Tokens;" ∈ wzX7_labelTarget := List.mem_cons_of_mem _ (List.mem_append_left _ (List.mem_of_getElem? (i := 2) rfl))
theorem i_X7_labelTarget_X9 : ∀ w ∈ wsX90, w ∈ wzX7_labelTarget := fun _ h => List.mem_cons_of_mem _ (List.mem_append_right _ (List.mem_append_right _ (List.mem_append_left _ (h))))
set_option maxHeartbeats 4000000 in
set_option maxRecDepth 100000 in
theorem j_X7_labelTarget_63 {p : Program} {e : Env} {s : State} {m : MethodId} {args : Array Value} {below : List Frame} {meth : Method} {c : Code} {A : Nat → Prop} (l : Launch) (dC : Nat → ClassId) (dI : Nat → Nat → Nat) (Q : CQ) (N : Nat) (z9h : Nat) (R : Int32 × CS) (hx : p.tables.exec = Jvm.exec) (hb : c.code = cX7_labelTarget) (hr : meth.sig.returnType = (some .int)) (hml : c.maxLocals = 3) (hown : s.vm.findClass RX7 = some m.cls) (hts : ∀ w ∈ wzX7_labelTarget, w.before args s = true) (hlocks : meth.locks = false) (hZ : zAMB s) (hA : ∀ q : Nat, s.heap.size ≤ q → A q) (hK : va_K (dC, dI) vwCl (cT Q) s) : ∀ (σ : CS) (x2 : Int32) (H : Heap) (locs : List Loc) (ls : Array Slot), f_X7_labelTarget_63 N σ x2 = some R → z9h ≤ CS.hs σ → CP dC dI Q A s.heap σ H locs → lv_has ls 3 [(0, .ref (Q.o 3)), (2, .int x2)] → W p l e ({ frames := 4, cells := CS.hs R.2 - z9h, slots := 17 * (CS.hs R.2 - z9h), locals := 60 * 4 }) s m args below meth c H locs (CS.hs σ - z9h) (17 * (CS.hs σ - z9h)) (MQ below (va_Qi (fun (r : Int32) (_ : Unit) => r = R.1) (fun (_ : Unit) (t : State) => zPost dC dI A (cW Q R.2) (cT Q) t ∧ t.heap.size = CS.hs R.2) A) args s (CS.hs R.2 - z9h) (17 * (CS.hs R.2 - z9h)) A) (F0 m 63 ls []) := by
  intro σ x2 H locs ls hf h0 hC hl
  unfold f_X7_labelTarget_63 at hf
  refine lv_aload_n hx hb dX7_labelTarget_63 rfl (lv_at hl 0 rfl) ?_
  refine cG_28 hx hb hts i_X7_labelTarget_X7 hown hK hC (hts (.fieldLink RX7 71 "StatementRules2$Statements" "tokens" "LStatementRules2$Tokens;") k_X7_labelTarget_fieldLink_RX7_71_SR_Statements_tokens_LSR_Tokens) (fun x9 q9 => u_same (hts (.sameField "StatementRules2$Statements" "StatementRules2$Formulas" "tokens" "LStatementRules2$Tokens;") k_X7_labelTarget_sameField_SR_Statements_SR_Formulas_tokens_LSR_Tokens) x9 q9) dX7_labelTarget_64 ?_
  obtain ⟨p7, hcp7, hf⟩ := hf_bind hf
  have mo8 : CS.hs σ ≤ CS.hs p7.2 := Mono.go hcp7 (m_X9_advance N σ)
  have hr9 : CS.hs p7.2 ≤ CS.hs R.2 := Mono.go hf (mono_some (Nat.le_refl _))
  have hFc := cFree hC hA
  refine va_callv (va_runV (As := []) (rest := []) ⟨hx, hb, hml, hown, hts⟩ (c_X9_advance l dC dI Q N σ p7 hcp7) (cwV 0 hts hX7_labelTarget_X9_advance_v146 rfl rfl rfl (by decide +kernel) ⟨(show 3 + 1 ≤ 4 by omega), (show 8 + (2 + 11) + 60 * 3 ≤ 60 * 4 by omega)⟩) ⟨zPre.blind, va_recv hK hC.1 (ci := 8) (q0 := 4) rfl rfl, cPre_go hZ hK hC⟩ rfl rfl hl.1 rfl (lv_room (Nat.le_of_ble_eq_true rfl)) dX7_labelTarget_67 (cAcc h0 mo8 hr9)) hC.2.2.1 (fun q _ h => hFc q h) hFc (fun u9 t9 H1 locs ht hvm hw hB hz1 hk1 hS => ?_)
  obtain ⟨⟨hP, hK1, hD1⟩, hsz1⟩ := hB
  rw [ht] at hP hsz1
  have hC : CP dC dI Q A s.heap p7.2 H1 locs := ⟨hP, hD1.weaken (fun _ _ _ h => hFc _ h), hS, hsz1⟩
  generalize H1 = H at hC ⊢
  have h10 : z9h ≤ CS.hs p7.2 := Nat.le_trans h0 mo8
  refine W.widen (k := CS.hs p7.2 - z9h) (n := 17 * (CS.hs p7.2 - z9h)) (cAcc2 h0 mo8) (cAcc3 h0 mo8) ?_
  refine lv_iload_n hx hb dX7_labelTarget_70 rfl (lv_at hl 1 rfl) ?_
  obtain rfl := Option.some.inj hf
  exact W.iret (v := x2) hx hb hr (fun t ht hW => ⟨⟨x2, (), rfl, rfl, ⟨by rw [ht]; exact hC.1, va_K.moved hW.alike hK, hC.2.1⟩, by rw [ht]; exact hC.2.2.2⟩, hC.2.2.1.F ht⟩) hC.2.2.1.2.2 dX7_labelTarget_71
set_option maxHeartbeats 4000000 in
set_option maxRecDepth 100000 in
theorem c_X7_labelTarget (l : Launch) (dC : Nat → ClassId) (dI : Nat → Nat → Nat) (Q : CQ) (N : Nat) (σ : CS) (x1 : Int32) (R : Int32 × CS) (hf : f_X7_labelTarget N σ x1 = some R) : Met l yX7_labelTarget wzX7_labelTarget ({ frames := 4, cells := CS.hs R.2 - CS.hs σ, slots := 17 * (CS.hs R.2 - CS.hs σ), locals := 60 * 4 }) (va_Pc [.ref (Q.o 3), .int x1] (zPre dC dI (CS.hs σ) (cW Q σ) (cT Q))) (va_Qi (fun (r : Int32) (_ : Unit) => r = R.1) (fun (_ : Unit) (t : State) => zPost dC dI (va_A (cW Q σ) (CS.hs σ)) (cW Q R.2) (cT Q) t ∧ t.heap.size = CS.hs R.2) (va_A (cW Q σ) (CS.hs σ))) (CS.hs R.2 - CS.hs σ) (17 * (CS.hs R.2 - CS.hs σ)) (va_A (cW Q σ) (CS.hs σ)) := by
  refine Met.ofW (cc := cX7_labelTarget) (maxL := 3) (ret := (some .int)) (by decide) rfl ?_
  intro p e s m args below meth c s₁ B hml hv
  obtain ⟨rfl, hsz, hZ, hP, hK, hD0⟩ := hv
  have hx := B.exec
  have hb := B.bytes
  have hr := B.returns
  have hts := atoms_spec (ws := wzX7_labelTarget) B.pre
  have hown : s.vm.findClass RX7 = some m.cls := findClass_of_methodNamed B.named
  have hlocks := B.notSynchronized
  have hD := hD0.self (sz := CS.hs σ)
  generalize hAe : va_A (cW Q σ) (CS.hs σ) = A at hD ⊢
  have hA : ∀ q : Nat, s.heap.size ≤ q → A q := fun q h => by rw [← hAe]; exact Or.inr (hsz ▸ h)
  have hC : CP dC dI Q A s.heap σ s.heap [] := ⟨hP, hD, va_S.rf, hsz⟩
  have h0 : CS.hs σ ≤ CS.hs σ := Nat.le_refl _
  have hl := lv_entry ([.ref (Q.o 3), .int x1]) (n := 3) (Nat.le_of_ble_eq_true rfl)
  rw [lg_entry_eq]
  generalize (lg_sl ([.ref (Q.o 3), .int x1]) ++ List.replicate (3 - (lg_sl ([.ref (Q.o 3), .int x1])).length) Slot.unset).toArray = ls at hl ⊢
  have hl : lv_has ls 3 [(0, .ref (Q.o 3)), (1, .int x1)] := hl
  unfold f_X7_labelTarget at hf
  refine W.widen (k := CS.hs σ - CS.hs σ) (n := 17 * (CS.hs σ - CS.hs σ)) (Nat.zero_le _) (Nat.zero_le _) ?_
  refine lv_aload_n hx hb dX7_labelTarget_0 rfl (lv_at hl 0 rfl) ?_
  refine cG_35 hx hb hts i_X7_labelTarget_X7 hown hK hC (hts (.fieldLink RX7 14 "StatementRules2$Statements" "opens" "LStatementRules2$Opens;") k_X7_labelTarget_fieldLink_RX7_14_SR_Statements_opens_LSR_Opens) (fun _ q9 => q9) dX7_labelTarget_1 ?_
  refine lv_aload_n hx hb dX7_labelTarget_4 rfl (lv_at hl 0 rfl) ?_
  refine cG_28 hx hb hts i_X7_labelTarget_X7 hown hK hC (hts (.fieldLink RX7 71 "StatementRules2$Statements" "tokens" "LStatementRules2$Tokens;") k_X7_labelTarget_fieldLink_RX7_71_SR_Statements_tokens_LSR_Tokens) (fun x9 q9 => u_same (hts (.sameField "StatementRules2$Statements" "StatementRules2$Formulas" "tokens" "LStatementRules2$Tokens;") k_X7_labelTarget_sameField_SR_Statements_SR_Formulas_tokens_LSR_Tokens) x9 q9) dX7_labelTarget_5 ?_
  refine cGN_46 (v := σ.l) hx hb hts i_X7_labelTarget_X9 hown hK hC (va_Nw.use rfl (hZ.1 (.fieldLinkNest RX7 181 "StatementRules2$Tokens" "name" "J" "StatementRules2") (by decide +kernel))) (fun _ q9 => q9) dX7_labelTarget_8 rfl ?_
  obtain ⟨p1, hcp1, hf⟩ := hf_bind hf
  have mo2 : CS.hs σ ≤ CS.hs p1.2 := Mono.go hcp1 (m_X6_labelled N σ σ.l)
  have hr9 : CS.hs p1.2 ≤ CS.hs R.2 := Mono.go hf (mono_ite (mono_ite (m_X7_labelTarget_63 N p1.2 p1.1) (mono_bind (m_X6_loopBehind N p1.2 p1.1) (fun p11 => (mono_ite (m_X7_labelTarget_63 N p11.2 p11.1) (mono_bind (m_X1_fail N p11.2 5 (p11.2.i 44)) (fun p16 => (m_X7_labelTarget_63 N p16.2 p11.1))))))) (mono_bind (m_X1_fail N p1.2 3 (p1.2.i 44)) (fun p20 => (m_X7_labelTarget_63 N p20.2 p1.1))))
  have hFc := cFree hC hA
  refine va_calli (va_runV (As := [.long σ.l]) (rest := []) ⟨hx, hb, hml, hown, hts⟩ (c_X6_labelled l dC dI Q N σ σ.l p1 hcp1) (cwV 1 hts hX7_labelTarget_X6_labelled_v189 rfl rfl rfl (by decide +kernel) ⟨(show 2 + 1 ≤ 4 by omega), (show 8 + (5 + 11) + 60 * 2 ≤ 60 * 4 by omega)⟩) ⟨zPre.blind, va_recv hK hC.1 (ci := 5) (q0 := 6) rfl rfl, cPre_go hZ hK hC⟩ rfl rfl hl.1 rfl (lv_room (Nat.le_of_ble_eq_true rfl)) dX7_labelTarget_11 (cAcc h0 mo2 hr9)) hC.2.2.1 (fun q _ h => hFc q h) hFc (fun r3 u9 t9 H1 locs ht hvm hw hB hz1 hk1 hS => ?_)
  obtain ⟨⟨hP, hK1, hD1⟩, hsz1⟩ := hB
  rw [ht] at hP hsz1
  have hC : CP dC dI Q A s.heap p1.2 H1 locs := ⟨hP, hD1.weaken (fun _ _ _ h => hFc _ h), hS, hsz1⟩
  generalize H1 = H at hC ⊢
  have h4 : (CS.hs σ) ≤ CS.hs p1.2 := Nat.le_trans h0 mo2
  refine W.widen (k := CS.hs p1.2 - (CS.hs σ)) (n := 17 * (CS.hs p1.2 - (CS.hs σ))) (cAcc2 h0 mo2) (cAcc3 h0 mo2) ?_
  obtain rfl : r3 = p1.1 := hw
  refine lv_istore_n (lv' := [(2, .int p1.1), (0, .ref (Q.o 3)), (1, .int x1)]) hx hb dX7_labelTarget_14 rfl hl (by decide) rfl (fun ls hl => ?_)
  refine lv_iload_n hx hb dX7_labelTarget_15 rfl (lv_at hl 0 rfl) ?_
  refine lv_if_ge (tgt := 34) hx hb dX7_labelTarget_16 (by decide) (fun c5 => ?_) (fun c5 => ?_)
  ·
    replace hf := (if_pos c5).symm.trans hf
    refine lv_iload_n hx hb dX7_labelTarget_34 rfl (lv_at hl 2 rfl) ?_
    refine lv_if_eq (tgt := 63) hx hb dX7_labelTarget_35 (by decide) (fun c6 => ?_) (fun c6 => ?_)
    ·
      replace hf := (if_pos c6).symm.trans hf
      exact j_X7_labelTarget_63 l dC dI Q N (CS.hs σ) R hx hb hr hml hown hts hlocks hZ hA hK p1.2 p1.1 _ _ _ hf h4 hC (lv_sub hl [1, 0] rfl)
    ·
      replace hf := (if_neg c6).symm.trans hf
      refine lv_aload_n hx hb dX7_labelTarget_38 rfl (lv_at hl 1 rfl) ?_
      refine cG_35 hx hb hts i_X7_labelTarget_X7 hown hK hC (hts (.fieldLink RX7 14 "StatementRules2$Statements" "opens" "LStatementRules2$Opens;") k_X7_labelTarget_fieldLink_RX7_14_SR_Statements_opens_LSR_Opens) (fun _ q9 => q9) dX7_labelTarget_39 ?_
      refine lv_iload_n hx hb dX7_labelTarget_42 rfl (lv_at hl 0 rfl) ?_
      obtain ⟨p11, hcp11, hf⟩ := hf_bind hf
      have mo12 : CS.hs p1.2 ≤ CS.hs p11.2 := Mono.go hcp11 (m_X6_loopBehind N p1.2 p1.1)
      have hr9 : CS.hs p11.2 ≤ CS.hs R.2 := Mono.go hf (mono_ite (m_X7_labelTarget_63 N p11.2 p11.1) (mono_bind (m_X1_fail N p11.2 5 (p11.2.i 44)) (fun p16 => (m_X7_labelTarget_63 N p16.2 p11.1))))
      have hFc := cFree hC hA
      refine va_calli (va_runV (As := [.int p1.1]) (rest := []) ⟨hx, hb, hml, hown, hts⟩ (c_X6_loopBehind l dC dI Q N p1.2 p1.1 p11 hcp11) (cwV 1 hts hX7_labelTarget_X6_loopBehind_v291 rfl rfl rfl (by decide +kernel) ⟨(show 2 + 1 ≤ 4 by omega), (show 8 + (4 + 11) + 60 * 2 ≤ 60 * 4 by omega)⟩) ⟨zPre.blind, va_recv hK hC.1 (ci := 5) (q0 := 6) rfl rfl, cPre_go hZ hK hC⟩ rfl rfl hl.1 rfl (lv_room (Nat.le_of_ble_eq_true rfl)) dX7_labelTarget_43 (cAcc h4 mo12 hr9)) hC.2.2.1 (fun q _ h => hFc q h) hFc (fun r13 u9 t9 H1 locs ht hvm hw hB hz1 hk1 hS => ?_)
      obtain ⟨⟨hP, hK1, hD1⟩, hsz1⟩ := hB
      rw [ht] at hP hsz1
      have hC : CP dC dI Q A s.heap p11.2 H1 locs := ⟨hP, hD1.weaken (fun _ _ _ h => hFc _ h), hS, hsz1⟩
      generalize H1 = H at hC ⊢
      have h14 : (CS.hs σ) ≤ CS.hs p11.2 := Nat.le_trans h4 mo12
      refine W.widen (k := CS.hs p11.2 - (CS.hs σ)) (n := 17 * (CS.hs p11.2 - (CS.hs σ))) (cAcc2 h4 mo12) (cAcc3 h4 mo12) ?_
      obtain rfl : r13 = p11.1 := hw
      refine lv_istore_n (lv' := [(2, .int p11.1), (0, .ref (Q.o 3)), (1, .int x1)]) hx hb dX7_labelTarget_46 rfl hl (by decide) rfl (fun ls hl => ?_)
      refine lv_iload_n hx hb dX7_labelTarget_47 rfl (lv_at hl 0 rfl) ?_
      refine lv_if_ge (tgt := 63) hx hb dX7_labelTarget_48 (by decide) (fun c15 => ?_) (fun c15 => ?_)
      ·
        replace hf := (if_pos c15).symm.trans hf
        exact j_X7_labelTarget_63 l dC dI Q N (CS.hs σ) R hx hb hr hml hown hts hlocks hZ hA hK p11.2 p11.1 _ _ _ hf h14 hC (lv_sub hl [1, 0] rfl)
      ·
        replace hf := (if_neg c15).symm.trans hf
        refine lv_aload_n hx hb dX7_labelTarget_51 rfl (lv_at hl 1 rfl) ?_
        refine lv_iconst (v := 5) hx hb dX7_labelTarget_52 (by decide) ?_
        refine lv_aload_n hx hb dX7_labelTarget_53 rfl (lv_at hl 1 rfl) ?_
        refine cG_28 hx hb hts i_X7_labelTarget_X7 hown hK hC (hts (.fieldLink RX7 71 "StatementRules2$Statements" "tokens" "LStatementRules2$Tokens;") k_X7_labelTarget_fieldLink_RX7_71_SR_Statements_tokens_LSR_Tokens) (fun x9 q9 => u_same (hts (.sameField "StatementRules2$Statements" "StatementRules2$Formulas" "tokens" "LStatementRules2$Tokens;") k_X7_labelTarget_sameField_SR_Statements_SR_Formulas_tokens_LSR_Tokens) x9 q9) dX7_labelTarget_54 ?_
        refine cGN_44 (v := (p11.2.i 44)) hx hb hts i_X7_labelTarget_X9 hown hK hC (va_Nw.use rfl (hZ.1 (.fieldLinkNest RX7 143 "StatementRules2$Tokens" "place" "I" "StatementRules2") (by decide +kernel))) (fun _ q9 => q9) dX7_labelTarget_57 rfl ?_
        obtain ⟨p16, hcp16, hf⟩ := hf_bind hf
        have mo17 : CS.hs p11.2 ≤ CS.hs p16.2 := Mono.go hcp16 (m_X1_fail N p11.2 5 (p11.2.i 44))
        have hr9 : CS.hs p16.2 ≤ CS.hs R.2 := Mono.go hf (m_X7_labelTarget_63 N p16.2 p11.1)
        have hFc := cFree hC hA
        refine va_callv (va_runU (As := [.int 5, .int (p11.2.i 44)]) (rest := []) ⟨hx, hb, hml, hown, hts⟩ (c_X1_fail l dC dI Q N p11.2 5 (p11.2.i 44) p16 hcp16) (va_cwU 2 hts hX7_labelTarget_X1_fail_u88 rfl rfl rfl rfl (by decide +kernel) ⟨(show 2 + 1 ≤ 4 by omega), (show 8 + (3 + 11) + 60 * 2 ≤ 60 * 4 by omega)⟩) ⟨zPre.blind, va_recv hK hC.1 (ci := 6) (q0 := 3) rfl rfl, cPre_go hZ hK hC⟩ rfl rfl hl.1 rfl (lv_room (Nat.le_of_ble_eq_true rfl)) dX7_labelTarget_60 (cAcc h14 mo17 hr9)) hC.2.2.1 (fun q _ h => hFc q h) hFc (fun u9 t9 H1 locs ht hvm hw hB hz1 hk1 hS => ?_)
        obtain ⟨⟨hP, hK1, hD1⟩, hsz1⟩ := hB
        rw [ht] at hP hsz1
        have hC : CP dC dI Q A s.heap p16.2 H1 locs := ⟨hP, hD1.weaken (fun _ _ _ h => hFc _ h), hS, hsz1⟩
        generalize H1 = H at hC ⊢
        have h19 : (CS.hs σ) ≤ CS.hs p16.2 := Nat.le_trans h14 mo17
        refine W.widen (k := CS.hs p16.2 - (CS.hs σ)) (n := 17 * (CS.hs p16.2 - (CS.hs σ))) (cAcc2 h14 mo17) (cAcc3 h14 mo17) ?_
        exact j_X7_labelTarget_63 l dC dI Q N (CS.hs σ) R hx hb hr hml hown hts hlocks hZ hA hK p16.2 p11.1 _ _ _ hf h19 hC (lv_sub hl [1, 0] rfl)
  ·
    replace hf := (if_neg c5).symm.trans hf
    refine lv_aload_n hx hb dX7_labelTarget_19 rfl (lv_at hl 1 rfl) ?_
    refine lv_iconst (v := 3) hx hb dX7_labelTarget_20 (by decide) ?_
    refine lv_aload_n hx hb dX7_labelTarget_21 rfl (lv_at hl 1 rfl) ?_
    refine cG_28 hx hb hts i_X7_labelTarget_X7 hown hK hC (hts (.fieldLink RX7 71 "StatementRules2$Statements" "tokens" "LStatementRules2$Tokens;") k_X7_labelTarget_fieldLink_RX7_71_SR_Statements_tokens_LSR_Tokens) (fun x9 q9 => u_same (hts (.sameField "StatementRules2$Statements" "StatementRules2$Formulas" "tokens" "LStatementRules2$Tokens;") k_X7_labelTarget_sameField_SR_Statements_SR_Formulas_tokens_LSR_Tokens) x9 q9) dX7_labelTarget_22 ?_
    refine cGN_44 (v := (p1.2.i 44)) hx hb hts i_X7_labelTarget_X9 hown hK hC (va_Nw.use rfl (hZ.1 (.fieldLinkNest RX7 143 "StatementRules2$Tokens" "place" "I" "StatementRules2") (by decide +kernel))) (fun _ q9 => q9) dX7_labelTarget_25 rfl ?_
    obtain ⟨p20, hcp20, hf⟩ := hf_bind hf
    have mo21 : CS.hs p1.2 ≤ CS.hs p20.2 := Mono.go hcp20 (m_X1_fail N p1.2 3 (p1.2.i 44))
    have hr9 : CS.hs p20.2 ≤ CS.hs R.2 := Mono.go hf (m_X7_labelTarget_63 N p20.2 p1.1)
    have hFc := cFree hC hA
    refine va_callv (va_runU (As := [.int 3, .int (p1.2.i 44)]) (rest := []) ⟨hx, hb, hml, hown, hts⟩ (c_X1_fail l dC dI Q N p1.2 3 (p1.2.i 44) p20 hcp20) (va_cwU 2 hts hX7_labelTarget_X1_fail_u88 rfl rfl rfl rfl (by decide +kernel) ⟨(show 2 + 1 ≤ 4 by omega), (show 8 + (3 + 11) + 60 * 2 ≤ 60 * 4 by omega)⟩) ⟨zPre.blind, va_recv hK hC.1 (ci := 6) (q0 := 3) rfl rfl, cPre_go hZ hK hC⟩ rfl rfl hl.1 rfl (lv_room (Nat.le_of_ble_eq_true rfl)) dX7_labelTarget_28 (cAcc h4 mo21 hr9)) hC.2.2.1 (fun q _ h => hFc q h) hFc (fun u9 t9 H1 locs ht hvm hw hB hz1 hk1 hS => ?_)
    obtain ⟨⟨hP, hK1, hD1⟩, hsz1⟩ := hB
    rw [ht] at hP hsz1
    have hC : CP dC dI Q A s.heap p20.2 H1 locs := ⟨hP, hD1.weaken (fun _ _ _ h => hFc _ h), hS, hsz1⟩
    generalize H1 = H at hC ⊢
    have h23 : (CS.hs σ) ≤ CS.hs p20.2 := Nat.le_trans h4 mo21
    refine W.widen (k := CS.hs p20.2 - (CS.hs σ)) (n := 17 * (CS.hs p20.2 - (CS.hs σ))) (cAcc2 h4 mo21) (cAcc3 h4 mo21) ?_
    refine lv_goto (tgt := 63) hx hb dX7_labelTarget_31 (by decide) ?_
    exact j_X7_labelTarget_63 l dC dI Q N (CS.hs σ) R hx hb hr hml hown hts hlocks hZ hA hK p20.2 p1.1 _ _ _ hf h23 hC (lv_sub hl [1, 0] rfl)
theorem k_X6_nearest_fieldLink_RX6_21_SR_Opens_count_I : Cond.fieldLink RX6 21 "StatementRules2$Opens" "count" "I" ∈ wzX6_nearest := List.mem_cons_of_mem _ (List.mem_append_left _ (List.mem_of_getElem? (i := 0) rfl))
theorem i_X6_nearest_X6 : ∀ w ∈ wsX60, w ∈ wzX6_nearest := fun _ h => List.mem_cons_of_mem _ (List.mem_append_right _ (List.mem_append_left _ (h)))
theorem k_X6_nearest_fieldLink_RX6_31_SR_Opens_arm_I : Cond.fieldLink RX6 31 "StatementRules2$Opens" "arm" "I" ∈ wzX6_nearest := List.mem_cons_of_mem _ (List.mem_append_left _ (List.mem_of_getElem? (i := 1) rfl))
theorem i_X6_nearest_X5 : ∀ w ∈ wsX50, w ∈ wzX6_nearest := fun _ h => List.mem_cons_of_mem _ (List.mem_append_right _ (List.mem_append_right _ (List.mem_append_left _ (h))))
set_option maxHeartbeats 4000000 in
set_option maxRecDepth 100000 in
theorem j_X6_nearest_46 {p : Program} {e : Env} {s : State} {m : MethodId} {args : Array Value} {below : List Frame} {meth : Method} {c : Code} {A : Nat → Prop} (l : Launch) (dC : Nat → ClassId) (dI : Nat → Nat → Nat) (Q : CQ) (N : Nat) (z9h : Nat) (R : Int32 × CS) (hx : p.tables.exec = Jvm.exec) (hb : c.code = cX6_nearest) (hr : meth.sig.returnType = (some .int)) (hml : c.maxLocals = 4) (hown : s.vm.findClass RX6 = some m.cls) (hts : ∀ w ∈ wzX6_nearest, w.before args s = true) (hlocks : meth.locks = false) (hZ : zAMB s) (hA : ∀ q : Nat, s.heap.size ≤ q → A q) (hK : va_K (dC, dI) vwCl (cT Q) s) : ∀ (σ : CS) (x2 : Int32) (H : Heap) (locs : List Loc) (ls : Array Slot), f_X6_nearest_46 N σ x2 = some R → z9h ≤ CS.hs σ → CP dC dI Q A s.heap σ H locs → lv_has ls 4 [(2, .int x2)] → W p l e ({ frames := 2, cells := CS.hs R.2 - z9h, slots := 17 * (CS.hs R.2 - z9h), locals := 60 * 2 }) s m args below meth c H locs (CS.hs σ - z9h) (17 * (CS.hs σ - z9h)) (MQ below (va_Qi (fun (r : Int32) (_ : Unit) => r = R.1) (fun (_ : Unit) (t : State) => zPost dC dI A (cW Q R.2) (cT Q) t ∧ t.heap.size = CS.hs R.2) A) args s (CS.hs R.2 - z9h) (17 * (CS.hs R.2 - z9h)) A) (F0 m 46 ls []) := by
  intro σ x2 H locs ls hf h0 hC hl
  unfold f_X6_nearest_46 at hf
  refine lv_iload_n hx hb dX6_nearest_46 rfl (lv_at hl 0 rfl) ?_
  obtain rfl := Option.some.inj hf
  exact W.iret (v := x2) hx hb hr (fun t ht hW => ⟨⟨x2, (), rfl, rfl, ⟨by rw [ht]; exact hC.1, va_K.moved hW.alike hK, hC.2.1⟩, by rw [ht]; exact hC.2.2.2⟩, hC.2.2.1.F ht⟩) hC.2.2.1.2.2 dX6_nearest_47
set_option maxHeartbeats 4000000 in
set_option maxRecDepth 100000 in
theorem j_X6_nearest_7 {p : Program} {e : Env} {s : State} {m : MethodId} {args : Array Value} {below : List Frame} {meth : Method} {c : Code} {A : Nat → Prop} (l : Launch) (dC : Nat → ClassId) (dI : Nat → Nat → Nat) (Q : CQ) (N : Nat) (z9h : Nat) (R : Int32 × CS) (hx : p.tables.exec = Jvm.exec) (hb : c.code = cX6_nearest) (hr : meth.sig.returnType = (some .int)) (hml : c.maxLocals = 4) (hown : s.vm.findClass RX6 = some m.cls) (hts : ∀ w ∈ wzX6_nearest, w.before args s = true) (hlocks : meth.locks = false) (hZ : zAMB s) (hA : ∀ q : Nat, s.heap.size ≤ q → A q) (hK : va_K (dC, dI) vwCl (cT Q) s) : ∀ (n9 : Nat), ∀ (σ : CS) (x1 : Int32) (x2 : Int32) (H : Heap) (locs : List Loc) (ls : Array Slot), f_X6_nearest_7 N n9 σ x1 x2 = some R → z9h ≤ CS.hs σ → CP dC dI Q A s.heap σ H locs → lv_has ls 4 [(0, .ref (Q.o 6)), (1, .int x1), (2, .int x2)] → W p l e ({ frames := 2, cells := CS.hs R.2 - z9h, slots := 17 * (CS.hs R.2 - z9h), locals := 60 * 2 }) s m args below meth c H locs (CS.hs σ - z9h) (17 * (CS.hs σ - z9h)) (MQ below (va_Qi (fun (r : Int32) (_ : Unit) => r = R.1) (fun (_ : Unit) (t : State) => zPost dC dI A (cW Q R.2) (cT Q) t ∧ t.heap.size = CS.hs R.2) A) args s (CS.hs R.2 - z9h) (17 * (CS.hs R.2 - z9h)) A) (F0 m 7 ls []) := by
  intro n9
  induction n9 with
  | zero => intro σ x1 x2 H locs ls hf; exact absurd hf (by intro q9; cases q9)
  | succ n9 ih =>
    intro σ x1 x2 H locs ls hf h0 hC hl
    replace hf : b_X6_nearest_7 N (f_X6_nearest_7 N n9) σ x1 x2 = some R := hf
    unfold b_X6_nearest_7 at hf
    have hMK := fun (σ : CS) (x1 : Int32) (x2 : Int32) => m_X6_nearest_7 N n9 σ x1 x2
    refine lv_iload_n hx hb dX6_nearest_7 rfl (lv_at hl 2 rfl) ?_
    refine lv_aload_n hx hb dX6_nearest_8 rfl (lv_at hl 0 rfl) ?_
    refine cG_56 (v := (σ.i 56)) hx hb hts i_X6_nearest_X6 hown hK hC (hts (.fieldLink RX6 31 "StatementRules2$Opens" "arm" "I") k_X6_nearest_fieldLink_RX6_31_SR_Opens_arm_I) (fun _ q9 => q9) dX6_nearest_9 rfl ?_
    refine lv_icmp_le (tgt := 54) hx hb dX6_nearest_12 (by decide) (fun c1 => ?_) (fun c1 => ?_)
    ·
      replace hf := (if_pos c1).symm.trans hf
      refine lv_iconst (v := (-1)) hx hb dX6_nearest_54 (by decide) ?_
      obtain rfl := Option.some.inj hf
      exact W.iret (v := (-1)) hx hb hr (fun t ht hW => ⟨⟨(-1), (), rfl, rfl, ⟨by rw [ht]; exact hC.1, va_K.moved hW.alike hK, hC.2.1⟩, by rw [ht]; exact hC.2.2.2⟩, hC.2.2.1.F ht⟩) hC.2.2.1.2.2 dX6_nearest_55
    ·
      replace hf := (if_neg c1).symm.trans hf
      refine lv_aload_n hx hb dX6_nearest_15 rfl (lv_at hl 0 rfl) ?_
      refine lv_iload_n hx hb dX6_nearest_16 rfl (lv_at hl 2 rfl) ?_
      obtain ⟨p2, hcp2, hf⟩ := hf_bind hf
      have mo3 : CS.hs σ ≤ CS.hs p2.2 := Mono.go hcp2 (m_X6_row N σ x2)
      have hr9 : CS.hs p2.2 ≤ CS.hs R.2 := Mono.go hf (mono_oc (hMK p2.2 x1 (x2 + (-1))) (fun a7 => (mono_ite (mono_bind (m_X5_isLoop N p2.2 a7) (fun p10 => (mono_ite (mono_ite (mono_ite (mono_ite (m_X6_nearest_46 N p10.2 x2) (hMK p10.2 x1 (x2 + (-1)))) mono_none) (hMK p10.2 x1 (x2 + (-1)))) (m_X6_nearest_46 N p10.2 x2)))) mono_none)))
      have hFc := cFree hC hA
      refine va_callq (va_runV (As := [.int x2]) (rest := []) ⟨hx, hb, hml, hown, hts⟩ (c_X6_row l dC dI Q N σ x2 p2 hcp2) (cwV 1 hts hX6_nearest_X6_row_v88 rfl rfl rfl (by decide +kernel) ⟨(show 1 + 1 ≤ 2 by omega), (show 8 + (2 + 11) + 60 * 1 ≤ 60 * 2 by omega)⟩) ⟨zPre.blind, va_recv hK hC.1 (ci := 5) (q0 := 6) rfl rfl, cPre_go hZ hK hC⟩ rfl rfl hl.1 rfl (lv_room (Nat.le_of_ble_eq_true rfl)) dX6_nearest_17 (cAcc h0 mo3 hr9)) hC.2.2.1 (fun q _ h => hFc q h) hFc (fun r4 u9 t9 H1 locs ht hvm hw hB hz1 hk1 hS => ?_)
      obtain ⟨⟨hP, hK1, hD1⟩, hsz1⟩ := hB
      rw [ht] at hP hsz1
      have hC : CP dC dI Q A s.heap p2.2 H1 locs := ⟨hP, hD1.weaken (fun _ _ _ h => hFc _ h), hS, hsz1⟩
      generalize H1 = H at hC ⊢
      have h5 : z9h ≤ CS.hs p2.2 := Nat.le_trans h0 mo3
      refine W.widen (k := CS.hs p2.2 - z9h) (n := 17 * (CS.hs p2.2 - z9h)) (cAcc2 h0 mo3) (cAcc3 h0 mo3) ?_
      obtain rfl : r4 = p2.1 := hw
      rcases hf_oc hf with ⟨q6, hf⟩ | ⟨a7, q6, hf⟩
      ·
        refine W.eq (congrArg (fun v9 => F0 m 20 ls (va_rf v9 :: [])) q6) ?_
        refine W.eq (g2 := F0 m 20 ls (.null :: [])) rfl ?_
        refine lv_astore_nN (lv' := [(3, .null), (0, .ref (Q.o 6)), (1, .int x1), (2, .int x2)]) hx hb dX6_nearest_20 rfl hl (by decide) rfl (fun ls hl => ?_)
        refine lv_aload_nN hx hb dX6_nearest_21 rfl (lv_at hl 0 rfl) ?_
        refine lv_ifnullN (tgt := 48) hx hb dX6_nearest_22 (by decide) ?_
        refine lv_iinc (v := (x2 + (-1))) (lv' := [(2, .int (x2 + (-1))), (3, .null), (0, .ref (Q.o 6)), (1, .int x1)]) hx hb dX6_nearest_48 hl (k := 3) rfl rfl (by decide) rfl (fun ls hl => ?_)
        refine lv_goto (tgt := 7) hx hb dX6_nearest_51 (by decide) ?_
        exact ih p2.2 x1 (x2 + (-1)) _ _ _ hf h5 hC (lv_sub hl [2, 3, 0] rfl)
      ·
        refine W.eq (congrArg (fun v9 => F0 m 20 ls (va_rf v9 :: [])) q6) ?_
        refine W.eq (g2 := F0 m 20 ls (.ref a7 :: [])) rfl ?_
        refine lv_astore_n (lv' := [(3, .ref a7), (0, .ref (Q.o 6)), (1, .int x1), (2, .int x2)]) hx hb dX6_nearest_20 rfl hl (by decide) rfl (fun ls hl => ?_)
        refine lv_aload_n hx hb dX6_nearest_21 rfl (lv_at hl 0 rfl) ?_
        refine lv_ifnull hx hb dX6_nearest_22 ?_
        refine lv_aload_n hx hb dX6_nearest_25 rfl (lv_at hl 0 rfl) ?_
        obtain ⟨b8, hf⟩ := hf_ite hf
        obtain ⟨k9, hk9⟩ := cPl (Q := Q) (s := p2.2) (a := a7) b8.1
        rw [cE0 (show CS.k p2.2 a7 = 0 from b8.2)] at hk9
        obtain ⟨p10, hcp10, hf⟩ := hf_bind hf
        have mo11 : CS.hs p2.2 ≤ CS.hs p10.2 := Mono.go hcp10 (m_X5_isLoop N p2.2 a7)
        have hr9 : CS.hs p10.2 ≤ CS.hs R.2 := Mono.go hf (mono_ite (mono_ite (mono_ite (mono_ite (m_X6_nearest_46 N p10.2 x2) (hMK p10.2 x1 (x2 + (-1)))) mono_none) (hMK p10.2 x1 (x2 + (-1)))) (m_X6_nearest_46 N p10.2 x2))
        have hFc := cFree hC hA
        refine va_calli (va_runV (As := []) (rest := []) ⟨hx, hb, hml, hown, hts⟩ (c_X5_isLoop l dC dI Q N p2.2 a7 p10 hcp10) (cwV 0 hts hX6_nearest_X5_isLoop_v92 rfl rfl rfl (by decide +kernel) ⟨(show 1 + 1 ≤ 2 by omega), (show 8 + (1 + 11) + 60 * 1 ≤ 60 * 2 by omega)⟩) ⟨zPre.blind, va_recv hK hC.1 (ci := 4) (q0 := k9) rfl hk9, cPre_go hZ hK hC⟩ rfl rfl hl.1 rfl (lv_room (Nat.le_of_ble_eq_true rfl)) dX6_nearest_26 (cAcc h5 mo11 hr9)) hC.2.2.1 (fun q _ h => hFc q h) hFc (fun r12 u9 t9 H1 locs ht hvm hw hB hz1 hk1 hS => ?_)
        obtain ⟨⟨hP, hK1, hD1⟩, hsz1⟩ := hB
        rw [ht] at hP hsz1
        have hC : CP dC dI Q A s.heap p10.2 H1 locs := ⟨hP, hD1.weaken (fun _ _ _ h => hFc _ h), hS, hsz1⟩
        generalize H1 = H at hC ⊢
        have h13 : z9h ≤ CS.hs p10.2 := Nat.le_trans h5 mo11
        refine W.widen (k := CS.hs p10.2 - z9h) (n := 17 * (CS.hs p10.2 - z9h)) (cAcc2 h5 mo11) (cAcc3 h5 mo11) ?_
        obtain rfl : r12 = p10.1 := hw
        refine lv_if_ne (tgt := 46) hx hb dX6_nearest_29 (by decide) (fun c14 => ?_) (fun c14 => ?_)
        ·
          replace hf := (if_neg c14).symm.trans hf
          exact j_X6_nearest_46 l dC dI Q N z9h R hx hb hr hml hown hts hlocks hZ hA hK p10.2 x2 _ _ _ hf h13 hC (lv_sub hl [3] rfl)
        ·
          replace hf := (if_pos c14).symm.trans hf
          refine lv_iload_n hx hb dX6_nearest_32 rfl (lv_at hl 2 rfl) ?_
          refine lv_if_ne (tgt := 48) hx hb dX6_nearest_33 (by decide) (fun c15 => ?_) (fun c15 => ?_)
          ·
            replace hf := (if_neg c15).symm.trans hf
            refine lv_iinc (v := (x2 + (-1))) (lv' := [(2, .int (x2 + (-1))), (3, .ref a7), (0, .ref (Q.o 6)), (1, .int x1)]) hx hb dX6_nearest_48 hl (k := 3) rfl rfl (by decide) rfl (fun ls hl => ?_)
            refine lv_goto (tgt := 7) hx hb dX6_nearest_51 (by decide) ?_
            exact ih p10.2 x1 (x2 + (-1)) _ _ _ hf h13 hC (lv_sub hl [2, 3, 0] rfl)
          ·
            replace hf := (if_pos c15).symm.trans hf
            refine lv_aload_n hx hb dX6_nearest_36 rfl (lv_at hl 0 rfl) ?_
            obtain ⟨b16, hf⟩ := hf_ite hf
            refine pGN_X5_0 (v := (CS.o p10.2 a7 0)) hx hb hts i_X6_nearest_X5 hown hK hC (va_Nw.use rfl (hZ.1 (.fieldLinkNest RX6 41 "StatementRules2$Open" "sort" "I" "StatementRules2") (by decide +kernel))) (fun _ q9 => q9) dX6_nearest_37 b16 rfl ?_
            refine lv_sipush (v := 218) hx hb dX6_nearest_40 (by decide) ?_
            refine lv_icmp_ne (tgt := 48) hx hb dX6_nearest_43 (by decide) (fun c17 => ?_) (fun c17 => ?_)
            ·
              replace hf := (if_neg c17).symm.trans hf
              refine lv_iinc (v := (x2 + (-1))) (lv' := [(2, .int (x2 + (-1))), (3, .ref a7), (0, .ref (Q.o 6)), (1, .int x1)]) hx hb dX6_nearest_48 hl (k := 3) rfl rfl (by decide) rfl (fun ls hl => ?_)
              refine lv_goto (tgt := 7) hx hb dX6_nearest_51 (by decide) ?_
              exact ih p10.2 x1 (x2 + (-1)) _ _ _ hf h13 hC (lv_sub hl [2, 3, 0] rfl)
            ·
              replace hf := (if_pos c17).symm.trans hf
              exact j_X6_nearest_46 l dC dI Q N z9h R hx hb hr hml hown hts hlocks hZ hA hK p10.2 x2 _ _ _ hf h13 hC (lv_sub hl [3] rfl)
set_option maxHeartbeats 4000000 in
set_option maxRecDepth 100000 in
theorem c_X6_nearest (l : Launch) (dC : Nat → ClassId) (dI : Nat → Nat → Nat) (Q : CQ) (N : Nat) (σ : CS) (x1 : Int32) (R : Int32 × CS) (hf : f_X6_nearest N σ x1 = some R) : Met l yX6_nearest wzX6_nearest ({ frames := 2, cells := CS.hs R.2 - CS.hs σ, slots := 17 * (CS.hs R.2 - CS.hs σ), locals := 60 * 2 }) (va_Pc [.ref (Q.o 6), .int x1] (zPre dC dI (CS.hs σ) (cW Q σ) (cT Q))) (va_Qi (fun (r : Int32) (_ : Unit) => r = R.1) (fun (_ : Unit) (t : State) => zPost dC dI (va_A (cW Q σ) (CS.hs σ)) (cW Q R.2) (cT Q) t ∧ t.heap.size = CS.hs R.2) (va_A (cW Q σ) (CS.hs σ))) (CS.hs R.2 - CS.hs σ) (17 * (CS.hs R.2 - CS.hs σ)) (va_A (cW Q σ) (CS.hs σ)) := by
  refine Met.ofW (cc := cX6_nearest) (maxL := 4) (ret := (some .int)) (by decide) rfl ?_
  intro p e s m args below meth c s₁ B hml hv
  obtain ⟨rfl, hsz, hZ, hP, hK, hD0⟩ := hv
  have hx := B.exec
  have hb := B.bytes
  have hr := B.returns
  have hts := atoms_spec (ws := wzX6_nearest) B.pre
  have hown : s.vm.findClass RX6 = some m.cls := findClass_of_methodNamed B.named
  have hlocks := B.notSynchronized
  have hD := hD0.self (sz := CS.hs σ)
  generalize hAe : va_A (cW Q σ) (CS.hs σ) = A at hD ⊢
  have hA : ∀ q : Nat, s.heap.size ≤ q → A q := fun q h => by rw [← hAe]; exact Or.inr (hsz ▸ h)
  have hC : CP dC dI Q A s.heap σ s.heap [] := ⟨hP, hD, va_S.rf, hsz⟩
  have h0 : CS.hs σ ≤ CS.hs σ := Nat.le_refl _
  have hl := lv_entry ([.ref (Q.o 6), .int x1]) (n := 4) (Nat.le_of_ble_eq_true rfl)
  rw [lg_entry_eq]
  generalize (lg_sl ([.ref (Q.o 6), .int x1]) ++ List.replicate (4 - (lg_sl ([.ref (Q.o 6), .int x1])).length) Slot.unset).toArray = ls at hl ⊢
  have hl : lv_has ls 4 [(0, .ref (Q.o 6)), (1, .int x1)] := hl
  unfold f_X6_nearest at hf
  refine W.widen (k := CS.hs σ - CS.hs σ) (n := 17 * (CS.hs σ - CS.hs σ)) (Nat.zero_le _) (Nat.zero_le _) ?_
  refine lv_aload_n hx hb dX6_nearest_0 rfl (lv_at hl 0 rfl) ?_
  refine cG_53 (v := (σ.i 53)) hx hb hts i_X6_nearest_X6 hown hK hC (hts (.fieldLink RX6 21 "StatementRules2$Opens" "count" "I") k_X6_nearest_fieldLink_RX6_21_SR_Opens_count_I) (fun _ q9 => q9) dX6_nearest_1 rfl ?_
  refine lv_iconst (v := 1) hx hb dX6_nearest_4 (by decide) ?_
  refine lv_isub hx hb dX6_nearest_5 ?_
  refine lv_istore_n (lv' := [(2, .int ((σ.i 53) - 1)), (0, .ref (Q.o 6)), (1, .int x1)]) hx hb dX6_nearest_6 rfl hl (by decide) rfl (fun ls hl => ?_)
  exact j_X6_nearest_7 l dC dI Q N (CS.hs σ) R hx hb hr hml hown hts hlocks hZ hA hK N σ x1 ((σ.i 53) - 1) _ _ _ hf h0 hC (lv_sub hl [1, 2, 0] rfl)
theorem k_X6_addJump_fieldLink_RX6_17_SR_Opens_jumps_I : Cond.fieldLink RX6 17 "StatementRules2$Opens" "jumps" "[I" ∈ wzX6_addJump := List.mem_cons_of_mem _ (List.mem_append_left _ (List.mem_of_getElem? (i := 0) rfl))
theorem i_X6_addJump_X6 : ∀ w ∈ wsX60, w ∈ wzX6_addJump := fun _ h => List.mem_cons_of_mem _ (List.mem_append_right _ (List.mem_append_left _ (h)))
theorem k_X6_addJump_fieldLink_RX6_28_SR_Opens_jumpCount_I : Cond.fieldLink RX6 28 "StatementRules2$Opens" "jumpCount" "I" ∈ wzX6_addJump := List.mem_cons_of_mem _ (List.mem_append_left _ (List.mem_of_getElem? (i := 1) rfl))
theorem k_X6_addJump_initialized_RX11 : Cond.initialized RX11 ∈ wzX6_addJump := List.mem_cons_of_mem _ (List.mem_append_left _ (List.mem_of_getElem? (i := 2) rfl))
theorem k_X6_addJump_static_yX11_put : Cond.static yX11_put ∈ wzX6_addJump := List.mem_cons_of_mem _ (List.mem_append_left _ (List.mem_of_getElem? (i := 3) rfl))
set_option maxHeartbeats 4000000 in
set_option maxRecDepth 100000 in
theorem c_X6_addJump (l : Launch) (dC : Nat → ClassId) (dI : Nat → Nat → Nat) (Q : CQ) (N : Nat) (σ : CS) (x1 : Nat) (x2 : Int32) (R : Unit × CS) (hf : f_X6_addJump N σ x1 x2 = some R) : Met l yX6_addJump wzX6_addJump ({ frames := 2, cells := CS.hs R.2 - CS.hs σ, slots := 17 * (CS.hs R.2 - CS.hs σ), locals := 60 * 2 }) (va_Pc [.ref (Q.o 6), .ref x1, .int x2] (zPre dC dI (CS.hs σ) (cW Q σ) (cT Q))) (va_Qv (fun (_ : Unit) => True) (fun (_ : Unit) (t : State) => zPost dC dI (va_A (cW Q σ) (CS.hs σ)) (cW Q R.2) (cT Q) t ∧ t.heap.size = CS.hs R.2) (va_A (cW Q σ) (CS.hs σ))) (CS.hs R.2 - CS.hs σ) (17 * (CS.hs R.2 - CS.hs σ)) (va_A (cW Q σ) (CS.hs σ)) := by
  refine Met.ofW (cc := cX6_addJump) (maxL := 3) (ret := none) (by decide) rfl ?_
  intro p e s m args below meth c s₁ B hml hv
  obtain ⟨rfl, hsz, hZ, hP, hK, hD0⟩ := hv
  have hx := B.exec
  have hb := B.bytes
  have hr := B.returns
  have hts := atoms_spec (ws := wzX6_addJump) B.pre
  have hown : s.vm.findClass RX6 = some m.cls := findClass_of_methodNamed B.named
  have hlocks := B.notSynchronized
  have hD := hD0.self (sz := CS.hs σ)
  generalize hAe : va_A (cW Q σ) (CS.hs σ) = A at hD ⊢
  have hA : ∀ q : Nat, s.heap.size ≤ q → A q := fun q h => by rw [← hAe]; exact Or.inr (hsz ▸ h)
  have hC : CP dC dI Q A s.heap σ s.heap [] := ⟨hP, hD, va_S.rf, hsz⟩
  have h0 : CS.hs σ ≤ CS.hs σ := Nat.le_refl _
  have hl := lv_entry ([.ref (Q.o 6), .ref x1, .int x2]) (n := 3) (Nat.le_of_ble_eq_true rfl)
  rw [lg_entry_eq]
  generalize (lg_sl ([.ref (Q.o 6), .ref x1, .int x2]) ++ List.replicate (3 - (lg_sl ([.ref (Q.o 6), .ref x1, .int x2])).length) Slot.unset).toArray = ls at hl ⊢
  have hl : lv_has ls 3 [(0, .ref (Q.o 6)), (1, .ref x1), (2, .int x2)] := hl
  unfold f_X6_addJump at hf
  refine W.widen (k := CS.hs σ - CS.hs σ) (n := 17 * (CS.hs σ - CS.hs σ)) (Nat.zero_le _) (Nat.zero_le _) ?_
  refine lv_aload_n hx hb dX6_addJump_0 rfl (lv_at hl 0 rfl) ?_
  refine cG_52 hx hb hts i_X6_addJump_X6 hown hK hC (hts (.fieldLink RX6 17 "StatementRules2$Opens" "jumps" "[I") k_X6_addJump_fieldLink_RX6_17_SR_Opens_jumps_I) (fun _ q9 => q9) dX6_addJump_1 ?_
  refine lv_aload_n hx hb dX6_addJump_4 rfl (lv_at hl 0 rfl) ?_
  refine cG_55 (v := (σ.i 55)) hx hb hts i_X6_addJump_X6 hown hK hC (hts (.fieldLink RX6 28 "StatementRules2$Opens" "jumpCount" "I") k_X6_addJump_fieldLink_RX6_28_SR_Opens_jumpCount_I) (fun _ q9 => q9) dX6_addJump_5 rfl ?_
  refine lv_aload_n hx hb dX6_addJump_8 rfl (lv_at hl 1 rfl) ?_
  refine lv_iload_n hx hb dX6_addJump_9 rfl (lv_at hl 2 rfl) ?_
  obtain ⟨p1, hcp1, hf⟩ := hf_bind hf
  have mo2 : CS.hs σ ≤ CS.hs p1.2 := Mono.go hcp1 (m_X6_jumpTo N σ x1 x2)
  have hr9 : CS.hs p1.2 ≤ CS.hs R.2 := Mono.go hf (mono_some (Nat.le_refl _))
  have hFc := cFree hC hA
  refine va_calli (va_runS (As := [.ref x1, .int x2]) (rest := [.int (σ.i 55), .ref (Q.q 52)]) ⟨hx, hb, hml, hown, hts⟩ (c_X6_jumpTo l dC dI Q N σ x1 x2 p1 hcp1) (va_cwS 2 hts hX6_addJump_X6_jumpTo_s96 rfl rfl rfl (by decide +kernel) ⟨(show 1 + 1 ≤ 2 by omega), (show 8 + (2 + 11) + 60 * 1 ≤ 60 * 2 by omega)⟩) ⟨zPre.blind, cPre_go hZ hK hC⟩ rfl rfl hl.1 rfl (lv_room (Nat.le_of_ble_eq_true rfl)) dX6_addJump_10 (cAcc h0 mo2 hr9)) hC.2.2.1 (fun q _ h => hFc q h) hFc (fun r3 u9 t9 H1 locs ht hvm hw hB hz1 hk1 hS => ?_)
  obtain ⟨⟨hP, hK1, hD1⟩, hsz1⟩ := hB
  rw [ht] at hP hsz1
  have hC : CP dC dI Q A s.heap p1.2 H1 locs := ⟨hP, hD1.weaken (fun _ _ _ h => hFc _ h), hS, hsz1⟩
  generalize H1 = H at hC ⊢
  have h4 : (CS.hs σ) ≤ CS.hs p1.2 := Nat.le_trans h0 mo2
  refine W.widen (k := CS.hs p1.2 - (CS.hs σ)) (n := 17 * (CS.hs p1.2 - (CS.hs σ))) (cAcc2 h0 mo2) (cAcc3 h0 mo2) ?_
  obtain rfl : r3 = p1.1 := hw
  have he9 := (cArr_52 (Q := Q) (σ := p1.2))
  have hFc := cFree1 hC hA he9
  have hr9 : CS.hs p1.2 ≤ CS.hs R.2 := Mono.go hf (mono_some (Nat.le_refl _))
  refine va_callv (va_runSN (As := [.ref (Q.q 52), .int (σ.i 55), .int p1.1]) (rest := []) ⟨hx, hb, hml, hown, hts⟩ (c_X11_put l dC dI _ (Q.q 52) (Q.c 0) 160 (p1.2.a 52) (σ.i 55) p1.1 (by decide)) ⟨va_cnB 3 hts hX6_addJump_X11_put_n100 rfl rfl rfl (hZ.1 (.methodLinkNest RX6 100 yX11_put "StatementRules2") (by decide +kernel)) (hts (.initialized RX11) k_X6_addJump_initialized_RX11) (by decide +kernel) ⟨(show 1 + 1 ≤ 2 by omega), (show 8 + (3 + 11) + 60 * 1 ≤ 60 * 2 by omega)⟩, (hts (.static yX11_put) k_X6_addJump_static_yX11_put), trivial⟩ ⟨zPre.blind, zPre.go hZ (cOne hC.1 he9) (hK.sub (tys' := [(Q.c 0, .int)]) [0] rfl) (cOneD hC.2.1 he9)⟩ rfl rfl hl.1 rfl (lv_room (Nat.le_of_ble_eq_true rfl)) dX6_addJump_13 ⟨cAcc4 h4 hr9, cAcc5 h4 hr9⟩) hC.2.2.1 (fun q _ h => hFc q h) hFc (fun u9 t9 H1 locs ht hvm hw hB hz1 hk1 hS => ?_)
  obtain ⟨⟨hP1, hK1, hD1⟩, hsz1⟩ := hB
  rw [ht] at hP1 hsz1
  have hC := cBack (σ' := CS.putA p1.2 52 (gPut (p1.2.a 52) 160 (σ.i 55) p1.1)) hC he9 cPutA_52 (cPutA_h _ _ _) hk1 hP1 hsz1 hS
  generalize H1 = H at hC ⊢
  refine lv_aload_n hx hb dX6_addJump_16 rfl (lv_at hl 0 rfl) ?_
  refine lv_dup hx hb dX6_addJump_17 rfl ?_
  refine cG_55 (v := (p1.2.i 55)) hx hb hts i_X6_addJump_X6 hown hK hC (hts (.fieldLink RX6 28 "StatementRules2$Opens" "jumpCount" "I") k_X6_addJump_fieldLink_RX6_28_SR_Opens_jumpCount_I) (fun _ q9 => q9) dX6_addJump_18 rfl ?_
  refine lv_iconst (v := 1) hx hb dX6_addJump_21 (by decide) ?_
  refine lv_iadd hx hb dX6_addJump_22 ?_
  refine cP_55 (v := ((p1.2.i 55) + 1)) hx hb hts i_X6_addJump_X6 hown hK hC (hts (.fieldLink RX6 28 "StatementRules2$Opens" "jumpCount" "I") k_X6_addJump_fieldLink_RX6_28_SR_Opens_jumpCount_I) (fun _ q9 => q9) dX6_addJump_23 (fun H locs hC => ?_)
  obtain rfl := Option.some.inj hf
  exact W.vret hx hb hr (fun t ht hW => ⟨⟨(), rfl, trivial, ⟨by rw [ht]; exact hC.1, va_K.moved hW.alike hK, hC.2.1⟩, by rw [ht]; exact hC.2.2.2⟩, hC.2.2.1.F ht⟩) hC.2.2.1.2.2 dX6_addJump_26
