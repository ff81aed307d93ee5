theorem k_X7_changeHere_fieldLink_RX7_71_SR_Statements_tokens_LSR_Tokens : Cond.fieldLink RX7 71 "StatementRules2$Statements" "tokens" "LStatementRules2$Tokens;" ∈ wzX7_changeHere := List.mem_cons_of_mem _ (List.mem_append_right _ (List.mem_append_right _ (List.mem_append_right _ (List.mem_append_right _ (List.mem_append_right _ (List.mem_append_right _ (List.mem_append_right _ (List.mem_append_right _ (List.mem_append_right _ (List.mem_append_right _ (List.mem_append_right _ (List.mem_append_right _ (List.mem_append_right _ (List.mem_append_right _ (List.mem_append_right _ (List.mem_append_right _ (List.mem_append_right _ (List.mem_append_right _ (List.mem_append_left _ (List.mem_of_getElem? (i := 0) rfl))))))))))))))))))))
theorem k_X7_changeHere_sameField_SR_Statements_SR_Formulas_tokens_LSR_Tokens : Cond.sameField "StatementRules2$Statements" "StatementRules2$Formulas" "tokens" "LStatementRules2$Tokens;" ∈ wzX7_changeHere := List.mem_cons_of_mem _ (List.mem_append_right _ (List.mem_append_right _ (List.mem_append_right _ (List.mem_append_right _ (List.mem_append_right _ (List.mem_append_right _ (List.mem_append_right _ (List.mem_append_right _ (List.mem_append_right _ (List.mem_append_right _ (List.mem_append_right _ (List.mem_append_right _ (List.mem_append_right _ (List.mem_append_right _ (List.mem_append_right _ (List.mem_append_right _ (List.mem_append_right _ (List.mem_append_right _ (List.mem_append_left _ (List.mem_of_getElem? (i := 1) rfl))))))))))))))))))))
theorem i_X7_changeHere_X7 : ∀ w ∈ wsX70, w ∈ wzX7_changeHere := fun _ h => List.mem_cons_of_mem _ (List.mem_append_right _ (List.mem_append_right _ (List.mem_append_right _ (List.mem_append_right _ (List.mem_append_right _ (List.mem_append_right _ (List.mem_append_right _ (List.mem_append_right _ (List.mem_append_right _ (List.mem_append_right _ (List.mem_append_right _ (List.mem_append_right _ (List.mem_append_right _ (List.mem_append_right _ (List.mem_append_right _ (List.mem_append_right _ (List.mem_append_right _ (List.mem_append_right _ (List.mem_append_right _ (List.mem_append_right _ (List.mem_append_right _ (List.mem_append_right _ (List.mem_append_right _ (List.mem_append_right _ (List.mem_append_right _ (List.mem_append_right _ (List.mem_append_right _ (List.mem_append_right _ (List.mem_append_right _ (List.mem_append_right _ (List.mem_append_right _ (List.mem_append_right _ (List.mem_append_right _ (List.mem_append_right _ (List.mem_append_right _ (List.mem_append_right _ (List.mem_append_left _ (h))))))))))))))))))))))))))))))))))))))
theorem i_X7_changeHere_X9 : ∀ w ∈ wsX90, w ∈ wzX7_changeHere := fun _ h => List.mem_cons_of_mem _ (List.mem_append_right _ (List.mem_append_right _ (List.mem_append_right _ (List.mem_append_right _ (List.mem_append_right _ (List.mem_append_right _ (List.mem_append_right _ (List.mem_append_right _ (List.mem_append_right _ (List.mem_append_right _ (List.mem_append_right _ (List.mem_append_right _ (List.mem_append_right _ (List.mem_append_right _ (List.mem_append_right _ (List.mem_append_right _ (List.mem_append_right _ (List.mem_append_right _ (List.mem_append_right _ (List.mem_append_right _ (List.mem_append_right _ (List.mem_append_right _ (List.mem_append_right _ (List.mem_append_right _ (List.mem_append_right _ (List.mem_append_right _ (List.mem_append_right _ (List.mem_append_right _ (List.mem_append_right _ (List.mem_append_right _ (List.mem_append_right _ (List.mem_append_right _ (List.mem_append_right _ (List.mem_append_right _ (List.mem_append_right _ (List.mem_append_right _ (List.mem_append_right _ (List.mem_append_left _ (h)))))))))))))))))))))))))))))))))))))))
set_option maxHeartbeats 4000000 in
set_option maxRecDepth 100000 in
theorem c_X7_changeHere (l : Launch) (dC : Nat → ClassId) (dI : Nat → Nat → Nat) (Q : CQ) (N : Nat) (d : Nat) (E1 : CS → Option (Unit × CS)) (E2 : CS → Option (Int32 × CS)) (hE1 : cMF l dC dI Q d E1) (hE2 : cMO l dC dI Q d E2) (hm1 : ∀ σ, Mono (CS.hs σ) (E1 σ)) (hm2 : ∀ σ, Mono (CS.hs σ) (E2 σ)) (σ : CS) (x1 : Int32) (R : Unit × CS) (hf : f_X7_changeHere N E1 E2 σ x1 = some R) : Met l yX7_changeHere wzX7_changeHere ({ frames := (14 + 40 * d), cells := CS.hs R.2 - CS.hs σ, slots := 17 * (CS.hs R.2 - CS.hs σ), locals := 60 * (14 + 40 * d) }) (va_Pc [.ref (Q.o 3), .int x1] (zPre dC dI (CS.hs σ) (cW Q σ) (cT Q))) (va_Qv (fun (_ : Unit) => True) (fun (_ : Unit) (t : State) => zPost dC dI (va_A (cW Q σ) (CS.hs σ)) (cW Q R.2) (cT Q) t ∧ t.heap.size = CS.hs R.2) (va_A (cW Q σ) (CS.hs σ))) (CS.hs R.2 - CS.hs σ) (17 * (CS.hs R.2 - CS.hs σ)) (va_A (cW Q σ) (CS.hs σ)) := by
  refine Met.ofW (cc := cX7_changeHere) (maxL := 5) (ret := none) (by decide) rfl ?_
  intro p e s m args below meth c s₁ B hml hv
  obtain ⟨rfl, hsz, hZ, hP, hK, hD0⟩ := hv
  have hx := B.exec
  have hb := B.bytes
  have hr := B.returns
  have hts := atoms_spec (ws := wzX7_changeHere) B.pre
  have hown : s.vm.findClass RX7 = some m.cls := findClass_of_methodNamed B.named
  have hlocks := B.notSynchronized
  have hD := hD0.self (sz := CS.hs σ)
  generalize hAe : va_A (cW Q σ) (CS.hs σ) = A at hD ⊢
  have hA : ∀ q : Nat, s.heap.size ≤ q → A q := fun q h => by rw [← hAe]; exact Or.inr (hsz ▸ h)
  have hC : CP dC dI Q A s.heap σ s.heap [] := ⟨hP, hD, va_S.rf, hsz⟩
  have h0 : CS.hs σ ≤ CS.hs σ := Nat.le_refl _
  have hl := lv_entry ([.ref (Q.o 3), .int x1]) (n := 5) (Nat.le_of_ble_eq_true rfl)
  rw [lg_entry_eq]
  generalize (lg_sl ([.ref (Q.o 3), .int x1]) ++ List.replicate (5 - (lg_sl ([.ref (Q.o 3), .int x1])).length) Slot.unset).toArray = ls at hl ⊢
  have hl : lv_has ls 5 [(0, .ref (Q.o 3)), (1, .int x1)] := hl
  unfold f_X7_changeHere at hf
  refine W.widen (k := CS.hs σ - CS.hs σ) (n := 17 * (CS.hs σ - CS.hs σ)) (Nat.zero_le _) (Nat.zero_le _) ?_
  refine lv_aload_n hx hb dX7_changeHere_0 rfl (lv_at hl 0 rfl) ?_
  refine cG_28 hx hb hts i_X7_changeHere_X7 hown hK hC (hts (.fieldLink RX7 71 "StatementRules2$Statements" "tokens" "LStatementRules2$Tokens;") k_X7_changeHere_fieldLink_RX7_71_SR_Statements_tokens_LSR_Tokens) (fun x9 q9 => u_same (hts (.sameField "StatementRules2$Statements" "StatementRules2$Formulas" "tokens" "LStatementRules2$Tokens;") k_X7_changeHere_sameField_SR_Statements_SR_Formulas_tokens_LSR_Tokens) x9 q9) dX7_changeHere_1 ?_
  refine cGN_46 (v := σ.l) hx hb hts i_X7_changeHere_X9 hown hK hC (va_Nw.use rfl (hZ.1 (.fieldLinkNest RX7 181 "StatementRules2$Tokens" "name" "J" "StatementRules2") (by decide +kernel))) (fun _ q9 => q9) dX7_changeHere_4 rfl ?_
  refine lv_lstore_n (lv' := [(2, .long σ.l), (0, .ref (Q.o 3)), (1, .int x1)]) hx hb dX7_changeHere_7 rfl hl (by decide) rfl (fun ls hl => ?_)
  refine lv_aload_n hx hb dX7_changeHere_8 rfl (lv_at hl 1 rfl) ?_
  refine cG_28 hx hb hts i_X7_changeHere_X7 hown hK hC (hts (.fieldLink RX7 71 "StatementRules2$Statements" "tokens" "LStatementRules2$Tokens;") k_X7_changeHere_fieldLink_RX7_71_SR_Statements_tokens_LSR_Tokens) (fun x9 q9 => u_same (hts (.sameField "StatementRules2$Statements" "StatementRules2$Formulas" "tokens" "LStatementRules2$Tokens;") k_X7_changeHere_sameField_SR_Statements_SR_Formulas_tokens_LSR_Tokens) x9 q9) dX7_changeHere_9 ?_
  refine cGN_44 (v := (σ.i 44)) hx hb hts i_X7_changeHere_X9 hown hK hC (va_Nw.use rfl (hZ.1 (.fieldLinkNest RX7 143 "StatementRules2$Tokens" "place" "I" "StatementRules2") (by decide +kernel))) (fun _ q9 => q9) dX7_changeHere_12 rfl ?_
  refine lv_istore (lv' := [(4, .int (σ.i 44)), (2, .long σ.l), (0, .ref (Q.o 3)), (1, .int x1)]) hx hb dX7_changeHere_15 hl (by decide) rfl (fun ls hl => ?_)
  refine lv_aload_n hx hb dX7_changeHere_17 rfl (lv_at hl 2 rfl) ?_
  refine cG_28 hx hb hts i_X7_changeHere_X7 hown hK hC (hts (.fieldLink RX7 71 "StatementRules2$Statements" "tokens" "LStatementRules2$Tokens;") k_X7_changeHere_fieldLink_RX7_71_SR_Statements_tokens_LSR_Tokens) (fun x9 q9 => u_same (hts (.sameField "StatementRules2$Statements" "StatementRules2$Formulas" "tokens" "LStatementRules2$Tokens;") k_X7_changeHere_sameField_SR_Statements_SR_Formulas_tokens_LSR_Tokens) x9 q9) dX7_changeHere_18 ?_
  obtain ⟨p1, hcp1, hf⟩ := hf_bind hf
  have mo2 : CS.hs σ ≤ CS.hs p1.2 := Mono.go hcp1 (m_X9_advance N σ)
  have hr9 : CS.hs p1.2 ≤ CS.hs R.2 := Mono.go hf (mono_bind (m_X7_change N E1 E2 hm1 hm2 p1.2 σ.l (σ.i 44) x1) (fun p5 => (mono_some (Nat.le_refl _))))
  have hFc := cFree hC hA
  refine va_callv (va_runV (As := []) (rest := []) ⟨hx, hb, hml, hown, hts⟩ (c_X9_advance l dC dI Q N σ p1 hcp1) (cwV 0 hts hX7_changeHere_X9_advance_v146 rfl rfl rfl (by decide +kernel) ⟨(show 3 + 1 ≤ (14 + 40 * d) by omega), (show 8 + (2 + 11) + 60 * 3 ≤ 60 * (14 + 40 * d) by omega)⟩) ⟨zPre.blind, va_recv hK hC.1 (ci := 8) (q0 := 4) rfl rfl, cPre_go hZ hK hC⟩ rfl rfl hl.1 rfl (lv_room (Nat.le_of_ble_eq_true rfl)) dX7_changeHere_21 (cAcc h0 mo2 hr9)) hC.2.2.1 (fun q _ h => hFc q h) hFc (fun u9 t9 H1 locs ht hvm hw hB hz1 hk1 hS => ?_)
  obtain ⟨⟨hP, hK1, hD1⟩, hsz1⟩ := hB
  rw [ht] at hP hsz1
  have hC : CP dC dI Q A s.heap p1.2 H1 locs := ⟨hP, hD1.weaken (fun _ _ _ h => hFc _ h), hS, hsz1⟩
  generalize H1 = H at hC ⊢
  have h4 : (CS.hs σ) ≤ CS.hs p1.2 := Nat.le_trans h0 mo2
  refine W.widen (k := CS.hs p1.2 - (CS.hs σ)) (n := 17 * (CS.hs p1.2 - (CS.hs σ))) (cAcc2 h0 mo2) (cAcc3 h0 mo2) ?_
  refine lv_aload_n hx hb dX7_changeHere_24 rfl (lv_at hl 2 rfl) ?_
  refine lv_lload_n hx hb dX7_changeHere_25 rfl (lv_at hl 1 rfl) ?_
  refine lv_iload hx hb dX7_changeHere_26 (lv_at hl 0 rfl) ?_
  refine lv_iload_n hx hb dX7_changeHere_28 rfl (lv_at hl 3 rfl) ?_
  obtain ⟨p5, hcp5, hf⟩ := hf_bind hf
  have mo6 : CS.hs p1.2 ≤ CS.hs p5.2 := Mono.go hcp5 (m_X7_change N E1 E2 hm1 hm2 p1.2 σ.l (σ.i 44) x1)
  have hr9 : CS.hs p5.2 ≤ CS.hs R.2 := Mono.go hf (mono_some (Nat.le_refl _))
  have hFc := cFree hC hA
  refine va_callv (va_runV (As := [.long σ.l, .int (σ.i 44), .int x1]) (rest := []) ⟨hx, hb, hml, hown, hts⟩ (c_X7_change l dC dI Q N d E1 E2 hE1 hE2 hm1 hm2 p1.2 σ.l (σ.i 44) x1 p5 hcp5) (cwV 3 hts hX7_changeHere_X7_change_v185 rfl rfl rfl (by decide +kernel) ⟨(show (13 + 40 * d) + 1 ≤ (14 + 40 * d) by omega), (show 8 + (7 + 11) + 60 * (13 + 40 * d) ≤ 60 * (14 + 40 * d) by omega)⟩) ⟨zPre.blind, va_recv hK hC.1 (ci := 6) (q0 := 3) rfl rfl, cPre_go hZ hK hC⟩ rfl rfl hl.1 rfl (lv_room (Nat.le_of_ble_eq_true rfl)) dX7_changeHere_29 (cAcc h4 mo6 hr9)) hC.2.2.1 (fun q _ h => hFc q h) hFc (fun u9 t9 H1 locs ht hvm hw hB hz1 hk1 hS => ?_)
  obtain ⟨⟨hP, hK1, hD1⟩, hsz1⟩ := hB
  rw [ht] at hP hsz1
  have hC : CP dC dI Q A s.heap p5.2 H1 locs := ⟨hP, hD1.weaken (fun _ _ _ h => hFc _ h), hS, hsz1⟩
  generalize H1 = H at hC ⊢
  have h8 : (CS.hs σ) ≤ CS.hs p5.2 := Nat.le_trans h4 mo6
  refine W.widen (k := CS.hs p5.2 - (CS.hs σ)) (n := 17 * (CS.hs p5.2 - (CS.hs σ))) (cAcc2 h4 mo6) (cAcc3 h4 mo6) ?_
  obtain rfl := Option.some.inj hf
  exact W.vret hx hb hr (fun t ht hW => ⟨⟨(), rfl, trivial, ⟨by rw [ht]; exact hC.1, va_K.moved hW.alike hK, hC.2.1⟩, by rw [ht]; exact hC.2.2.2⟩, hC.2.2.1.F ht⟩) hC.2.2.1.2.2 dX7_changeHere_32
theorem k_X7_forHead_fieldLink_RX7_20_SR_Statements_code_LSR_Code : Cond.fieldLink RX7 20 "StatementRules2$Statements" "code" "LStatementRules2$Code;" ∈ wzX7_forHead := List.mem_cons_of_mem _ (List.mem_append_right _ (List.mem_append_right _ (List.mem_append_right _ (List.mem_append_right _ (List.mem_append_right _ (List.mem_append_right _ (List.mem_append_right _ (List.mem_append_right _ (List.mem_append_right _ (List.mem_append_right _ (List.mem_append_right _ (List.mem_append_right _ (List.mem_append_right _ (List.mem_append_right _ (List.mem_append_right _ (List.mem_append_right _ (List.mem_append_right _ (List.mem_append_right _ (List.mem_append_right _ (List.mem_append_right _ (List.mem_append_right _ (List.mem_append_right _ (List.mem_append_right _ (List.mem_append_right _ (List.mem_append_right _ (List.mem_append_left _ (List.mem_of_getElem? (i := 0) rfl)))))))))))))))))))))))))))
theorem k_X7_forHead_sameField_SR_Statements_SR_Formulas_code_LSR_Code : Cond.sameField "StatementRules2$Statements" "StatementRules2$Formulas" "code" "LStatementRules2$Code;" ∈ wzX7_forHead := List.mem_cons_of_mem _ (List.mem_append_right _ (List.mem_append_right _ (List.mem_append_right _ (List.mem_append_right _ (List.mem_append_right _ (List.mem_append_right _ (List.mem_append_right _ (List.mem_append_right _ (List.mem_append_right _ (List.mem_append_right _ (List.mem_append_right _ (List.mem_append_right _ (List.mem_append_right _ (List.mem_append_right _ (List.mem_append_right _ (List.mem_append_right _ (List.mem_append_right _ (List.mem_append_right _ (List.mem_append_right _ (List.mem_append_right _ (List.mem_append_right _ (List.mem_append_right _ (List.mem_append_right _ (List.mem_append_right _ (List.mem_append_right _ (List.mem_append_left _ (List.mem_of_getElem? (i := 1) rfl)))))))))))))))))))))))))))
theorem i_X7_forHead_X7 : ∀ w ∈ wsX70, w ∈ wzX7_forHead := fun _ h => List.mem_cons_of_mem _ (List.mem_append_right _ (List.mem_append_right _ (List.mem_append_right _ (List.mem_append_right _ (List.mem_append_right _ (List.mem_append_right _ (List.mem_append_right _ (List.mem_append_right _ (List.mem_append_right _ (List.mem_append_right _ (List.mem_append_right _ (List.mem_append_right _ (List.mem_append_right _ (List.mem_append_right _ (List.mem_append_right _ (List.mem_append_right _ (List.mem_append_right _ (List.mem_append_right _ (List.mem_append_right _ (List.mem_append_right _ (List.mem_append_right _ (List.mem_append_right _ (List.mem_append_right _ (List.mem_append_right _ (List.mem_append_right _ (List.mem_append_right _ (List.mem_append_right _ (List.mem_append_right _ (List.mem_append_right _ (List.mem_append_right _ (List.mem_append_right _ (List.mem_append_right _ (List.mem_append_right _ (List.mem_append_right _ (List.mem_append_right _ (List.mem_append_right _ (List.mem_append_left _ (h))))))))))))))))))))))))))))))))))))))
theorem i_X7_forHead_X5 : ∀ w ∈ wsX50, w ∈ wzX7_forHead := fun _ h => List.mem_cons_of_mem _ (List.mem_append_right _ (List.mem_append_right _ (List.mem_append_right _ (List.mem_append_right _ (List.mem_append_right _ (List.mem_append_right _ (List.mem_append_right _ (List.mem_append_right _ (List.mem_append_right _ (List.mem_append_right _ (List.mem_append_right _ (List.mem_append_right _ (List.mem_append_right _ (List.mem_append_right _ (List.mem_append_right _ (List.mem_append_right _ (List.mem_append_right _ (List.mem_append_right _ (List.mem_append_right _ (List.mem_append_right _ (List.mem_append_right _ (List.mem_append_right _ (List.mem_append_right _ (List.mem_append_right _ (List.mem_append_right _ (List.mem_append_right _ (List.mem_append_right _ (List.mem_append_right _ (List.mem_append_right _ (List.mem_append_right _ (List.mem_append_right _ (List.mem_append_right _ (List.mem_append_right _ (List.mem_append_right _ (List.mem_append_right _ (List.mem_append_right _ (List.mem_append_right _ (List.mem_append_right _ (List.mem_append_right _ (List.mem_append_right _ (List.mem_append_right _ (List.mem_append_left _ (h)))))))))))))))))))))))))))))))))))))))))))
set_option maxHeartbeats 4000000 in
set_option maxRecDepth 100000 in
theorem j_X7_forHead_113 {p : Program} {e : Env} {s : State} {m : MethodId} {args : Array Value} {below : List Frame} {meth : Method} {c : Code} {A : Nat → Prop} (l : Launch) (dC : Nat → ClassId) (dI : Nat → Nat → Nat) (Q : CQ) (N : Nat) (d : Nat) (E1 : CS → Option (Unit × CS)) (E2 : CS → Option (Int32 × CS)) (hE1 : cMF l dC dI Q d E1) (hE2 : cMO l dC dI Q d E2) (hm1 : ∀ σ, Mono (CS.hs σ) (E1 σ)) (hm2 : ∀ σ, Mono (CS.hs σ) (E2 σ)) (z9h : Nat) (R : Option Nat × CS) (hx : p.tables.exec = Jvm.exec) (hb : c.code = cX7_forHead) (hr : meth.sig.returnType = (some (.object "StatementRules2$Open"))) (hml : c.maxLocals = 7) (hown : s.vm.findClass RX7 = some m.cls) (hts : ∀ w ∈ wzX7_forHead, w.before args s = true) (hlocks : meth.locks = false) (hZ : zAMB s) (hA : ∀ q : Nat, s.heap.size ≤ q → A q) (hK : va_K (dC, dI) vwCl (cT Q) s) : ∀ (σ : CS) (x1 : Int32) (x2 : Int32) (x3 : Int32) (x4 : Int32) (x5 : Int32) (H : Heap) (locs : List Loc) (ls : Array Slot), f_X7_forHead_113 N E1 E2 σ x1 x2 x3 x4 x5 = some R → z9h ≤ CS.hs σ → CP dC dI Q A s.heap σ H locs → lv_has ls 7 [(0, .ref (Q.o 3)), (1, .int x1), (2, .int x2), (3, .int x3), (4, .int x4), (5, .int x5)] → W p l e ({ frames := (15 + 40 * d), cells := CS.hs R.2 - z9h, slots := 17 * (CS.hs R.2 - z9h), locals := 60 * (15 + 40 * d) }) s m args below meth c H locs (CS.hs σ - z9h) (17 * (CS.hs σ - z9h)) (MQ below (va_Qq (fun (r : Option Nat) (_ : Unit) => r = R.1) (fun (_ : Unit) (t : State) => zPost dC dI A (cW Q R.2) (cT Q) t ∧ t.heap.size = CS.hs R.2) A) args s (CS.hs R.2 - z9h) (17 * (CS.hs R.2 - z9h)) A) (F0 m 113 ls []) := by
  intro σ x1 x2 x3 x4 x5 H locs ls hf h0 hC hl
  unfold f_X7_forHead_113 at hf
  refine lv_aload_n hx hb dX7_forHead_113 rfl (lv_at hl 0 rfl) ?_
  refine lv_bipush (v := 41) hx hb dX7_forHead_114 (by decide) ?_
  obtain ⟨p47, hcp47, hf⟩ := hf_bind hf
  have mo48 : CS.hs σ ≤ CS.hs p47.2 := Mono.go hcp47 (m_X1_close N σ 41)
  have hr9 : CS.hs p47.2 ≤ CS.hs R.2 := Mono.go hf (mono_bind (m_X0_add N p47.2 30 x1) (fun p51 => (mono_bind (m_X0_aim N p51.2 x3) (fun p55 => (mono_bind (m_X0_add N p55.2 51 0) (fun p59 => (mono_bind (m_X7_pushLoop N p59.2 207 x2 x4) (fun p63 => (mono_oc mono_none (fun a68 => (mono_ite (mono_ite (mono_some (Nat.le_refl _)) mono_none) mono_none)))))))))))
  have hFc := cFree hC hA
  refine va_callv (va_runU (As := [.int 41]) (rest := []) ⟨hx, hb, hml, hown, hts⟩ (c_X1_close l dC dI Q N σ 41 p47 hcp47) (va_cwU 1 hts hX7_forHead_X1_close_u318 rfl rfl rfl rfl (by decide +kernel) ⟨(show 4 + 1 ≤ (15 + 40 * d) by omega), (show 8 + (2 + 11) + 60 * 4 ≤ 60 * (15 + 40 * d) by omega)⟩) ⟨zPre.blind, va_recv hK hC.1 (ci := 6) (q0 := 3) rfl rfl, cPre_go hZ hK hC⟩ rfl rfl hl.1 rfl (lv_room (Nat.le_of_ble_eq_true rfl)) dX7_forHead_116 (cAcc h0 mo48 hr9)) hC.2.2.1 (fun q _ h => hFc q h) hFc (fun u9 t9 H1 locs ht hvm hw hB hz1 hk1 hS => ?_)
  obtain ⟨⟨hP, hK1, hD1⟩, hsz1⟩ := hB
  rw [ht] at hP hsz1
  have hC : CP dC dI Q A s.heap p47.2 H1 locs := ⟨hP, hD1.weaken (fun _ _ _ h => hFc _ h), hS, hsz1⟩
  generalize H1 = H at hC ⊢
  have h50 : z9h ≤ CS.hs p47.2 := Nat.le_trans h0 mo48
  refine W.widen (k := CS.hs p47.2 - z9h) (n := 17 * (CS.hs p47.2 - z9h)) (cAcc2 h0 mo48) (cAcc3 h0 mo48) ?_
  refine lv_aload_n hx hb dX7_forHead_119 rfl (lv_at hl 0 rfl) ?_
  refine cG_29 hx hb hts i_X7_forHead_X7 hown hK hC (hts (.fieldLink RX7 20 "StatementRules2$Statements" "code" "LStatementRules2$Code;") k_X7_forHead_fieldLink_RX7_20_SR_Statements_code_LSR_Code) (fun x9 q9 => u_same (hts (.sameField "StatementRules2$Statements" "StatementRules2$Formulas" "code" "LStatementRules2$Code;") k_X7_forHead_sameField_SR_Statements_SR_Formulas_code_LSR_Code) x9 q9) dX7_forHead_120 ?_
  refine lv_bipush (v := 30) hx hb dX7_forHead_123 (by decide) ?_
  refine lv_iload_n hx hb dX7_forHead_125 rfl (lv_at hl 1 rfl) ?_
  obtain ⟨p51, hcp51, hf⟩ := hf_bind hf
  have mo52 : CS.hs p47.2 ≤ CS.hs p51.2 := Mono.go hcp51 (m_X0_add N p47.2 30 x1)
  have hr9 : CS.hs p51.2 ≤ CS.hs R.2 := Mono.go hf (mono_bind (m_X0_aim N p51.2 x3) (fun p55 => (mono_bind (m_X0_add N p55.2 51 0) (fun p59 => (mono_bind (m_X7_pushLoop N p59.2 207 x2 x4) (fun p63 => (mono_oc mono_none (fun a68 => (mono_ite (mono_ite (mono_some (Nat.le_refl _)) mono_none) mono_none)))))))))
  have hFc := cFree hC hA
  refine va_callv (va_runV (As := [.int 30, .int x1]) (rest := []) ⟨hx, hb, hml, hown, hts⟩ (c_X0_add l dC dI Q N p47.2 30 x1 p51 hcp51) (cwV 2 hts hX7_forHead_X0_add_v176 rfl rfl rfl (by decide +kernel) ⟨(show 2 + 1 ≤ (15 + 40 * d) by omega), (show 8 + (3 + 11) + 60 * 2 ≤ 60 * (15 + 40 * d) by omega)⟩) ⟨zPre.blind, va_recv hK hC.1 (ci := 0) (q0 := 2) rfl rfl, cPre_go hZ hK hC⟩ rfl rfl hl.1 rfl (lv_room (Nat.le_of_ble_eq_true rfl)) dX7_forHead_126 (cAcc h50 mo52 hr9)) hC.2.2.1 (fun q _ h => hFc q h) hFc (fun u9 t9 H1 locs ht hvm hw hB hz1 hk1 hS => ?_)
  obtain ⟨⟨hP, hK1, hD1⟩, hsz1⟩ := hB
  rw [ht] at hP hsz1
  have hC : CP dC dI Q A s.heap p51.2 H1 locs := ⟨hP, hD1.weaken (fun _ _ _ h => hFc _ h), hS, hsz1⟩
  generalize H1 = H at hC ⊢
  have h54 : z9h ≤ CS.hs p51.2 := Nat.le_trans h50 mo52
  refine W.widen (k := CS.hs p51.2 - z9h) (n := 17 * (CS.hs p51.2 - z9h)) (cAcc2 h50 mo52) (cAcc3 h50 mo52) ?_
  refine lv_aload_n hx hb dX7_forHead_129 rfl (lv_at hl 0 rfl) ?_
  refine cG_29 hx hb hts i_X7_forHead_X7 hown hK hC (hts (.fieldLink RX7 20 "StatementRules2$Statements" "code" "LStatementRules2$Code;") k_X7_forHead_fieldLink_RX7_20_SR_Statements_code_LSR_Code) (fun x9 q9 => u_same (hts (.sameField "StatementRules2$Statements" "StatementRules2$Formulas" "code" "LStatementRules2$Code;") k_X7_forHead_sameField_SR_Statements_SR_Formulas_code_LSR_Code) x9 q9) dX7_forHead_130 ?_
  refine lv_iload_n hx hb dX7_forHead_133 rfl (lv_at hl 3 rfl) ?_
  obtain ⟨p55, hcp55, hf⟩ := hf_bind hf
  have mo56 : CS.hs p51.2 ≤ CS.hs p55.2 := Mono.go hcp55 (m_X0_aim N p51.2 x3)
  have hr9 : CS.hs p55.2 ≤ CS.hs R.2 := Mono.go hf (mono_bind (m_X0_add N p55.2 51 0) (fun p59 => (mono_bind (m_X7_pushLoop N p59.2 207 x2 x4) (fun p63 => (mono_oc mono_none (fun a68 => (mono_ite (mono_ite (mono_some (Nat.le_refl _)) mono_none) mono_none)))))))
  have hFc := cFree hC hA
  refine va_callv (va_runV (As := [.int x3]) (rest := []) ⟨hx, hb, hml, hown, hts⟩ (c_X0_aim l dC dI Q N p51.2 x3 p55 hcp55) (cwV 1 hts hX7_forHead_X0_aim_v158 rfl rfl rfl (by decide +kernel) ⟨(show 2 + 1 ≤ (15 + 40 * d) by omega), (show 8 + (2 + 11) + 60 * 2 ≤ 60 * (15 + 40 * d) by omega)⟩) ⟨zPre.blind, va_recv hK hC.1 (ci := 0) (q0 := 2) rfl rfl, cPre_go hZ hK hC⟩ rfl rfl hl.1 rfl (lv_room (Nat.le_of_ble_eq_true rfl)) dX7_forHead_134 (cAcc h54 mo56 hr9)) hC.2.2.1 (fun q _ h => hFc q h) hFc (fun u9 t9 H1 locs ht hvm hw hB hz1 hk1 hS => ?_)
  obtain ⟨⟨hP, hK1, hD1⟩, hsz1⟩ := hB
  rw [ht] at hP hsz1
  have hC : CP dC dI Q A s.heap p55.2 H1 locs := ⟨hP, hD1.weaken (fun _ _ _ h => hFc _ h), hS, hsz1⟩
  generalize H1 = H at hC ⊢
  have h58 : z9h ≤ CS.hs p55.2 := Nat.le_trans h54 mo56
  refine W.widen (k := CS.hs p55.2 - z9h) (n := 17 * (CS.hs p55.2 - z9h)) (cAcc2 h54 mo56) (cAcc3 h54 mo56) ?_
  refine lv_aload_n hx hb dX7_forHead_137 rfl (lv_at hl 0 rfl) ?_
  refine cG_29 hx hb hts i_X7_forHead_X7 hown hK hC (hts (.fieldLink RX7 20 "StatementRules2$Statements" "code" "LStatementRules2$Code;") k_X7_forHead_fieldLink_RX7_20_SR_Statements_code_LSR_Code) (fun x9 q9 => u_same (hts (.sameField "StatementRules2$Statements" "StatementRules2$Formulas" "code" "LStatementRules2$Code;") k_X7_forHead_sameField_SR_Statements_SR_Formulas_code_LSR_Code) x9 q9) dX7_forHead_138 ?_
  refine lv_bipush (v := 51) hx hb dX7_forHead_141 (by decide) ?_
  refine lv_iconst (v := 0) hx hb dX7_forHead_143 (by decide) ?_
  obtain ⟨p59, hcp59, hf⟩ := hf_bind hf
  have mo60 : CS.hs p55.2 ≤ CS.hs p59.2 := Mono.go hcp59 (m_X0_add N p55.2 51 0)
  have hr9 : CS.hs p59.2 ≤ CS.hs R.2 := Mono.go hf (mono_bind (m_X7_pushLoop N p59.2 207 x2 x4) (fun p63 => (mono_oc mono_none (fun a68 => (mono_ite (mono_ite (mono_some (Nat.le_refl _)) mono_none) mono_none)))))
  have hFc := cFree hC hA
  refine va_callv (va_runV (As := [.int 51, .int 0]) (rest := []) ⟨hx, hb, hml, hown, hts⟩ (c_X0_add l dC dI Q N p55.2 51 0 p59 hcp59) (cwV 2 hts hX7_forHead_X0_add_v176 rfl rfl rfl (by decide +kernel) ⟨(show 2 + 1 ≤ (15 + 40 * d) by omega), (show 8 + (3 + 11) + 60 * 2 ≤ 60 * (15 + 40 * d) by omega)⟩) ⟨zPre.blind, va_recv hK hC.1 (ci := 0) (q0 := 2) rfl rfl, cPre_go hZ hK hC⟩ rfl rfl hl.1 rfl (lv_room (Nat.le_of_ble_eq_true rfl)) dX7_forHead_144 (cAcc h58 mo60 hr9)) hC.2.2.1 (fun q _ h => hFc q h) hFc (fun u9 t9 H1 locs ht hvm hw hB hz1 hk1 hS => ?_)
  obtain ⟨⟨hP, hK1, hD1⟩, hsz1⟩ := hB
  rw [ht] at hP hsz1
  have hC : CP dC dI Q A s.heap p59.2 H1 locs := ⟨hP, hD1.weaken (fun _ _ _ h => hFc _ h), hS, hsz1⟩
  generalize H1 = H at hC ⊢
  have h62 : z9h ≤ CS.hs p59.2 := Nat.le_trans h58 mo60
  refine W.widen (k := CS.hs p59.2 - z9h) (n := 17 * (CS.hs p59.2 - z9h)) (cAcc2 h58 mo60) (cAcc3 h58 mo60) ?_
  refine lv_aload_n hx hb dX7_forHead_147 rfl (lv_at hl 0 rfl) ?_
  refine lv_sipush (v := 207) hx hb dX7_forHead_148 (by decide) ?_
  refine lv_iload_n hx hb dX7_forHead_151 rfl (lv_at hl 2 rfl) ?_
  refine lv_iload hx hb dX7_forHead_152 (lv_at hl 4 rfl) ?_
  obtain ⟨p63, hcp63, hf⟩ := hf_bind hf
  have mo64 : CS.hs p59.2 ≤ CS.hs p63.2 := Mono.go hcp63 (m_X7_pushLoop N p59.2 207 x2 x4)
  have hr9 : CS.hs p63.2 ≤ CS.hs R.2 := Mono.go hf (mono_oc mono_none (fun a68 => (mono_ite (mono_ite (mono_some (Nat.le_refl _)) mono_none) mono_none)))
  have hFc := cFree hC hA
  refine va_callq (va_runV (As := [.int 207, .int x2, .int x4]) (rest := []) ⟨hx, hb, hml, hown, hts⟩ (c_X7_pushLoop l dC dI Q N p59.2 207 x2 x4 p63 hcp63) (cwV 3 hts hX7_forHead_X7_pushLoop_v321 rfl rfl rfl (by decide +kernel) ⟨(show 3 + 1 ≤ (15 + 40 * d) by omega), (show 8 + (5 + 11) + 60 * 3 ≤ 60 * (15 + 40 * d) by omega)⟩) ⟨zPre.blind, va_recv hK hC.1 (ci := 6) (q0 := 3) rfl rfl, cPre_go hZ hK hC⟩ rfl rfl hl.1 rfl (lv_room (Nat.le_of_ble_eq_true rfl)) dX7_forHead_154 (cAcc h62 mo64 hr9)) hC.2.2.1 (fun q _ h => hFc q h) hFc (fun r65 u9 t9 H1 locs ht hvm hw hB hz1 hk1 hS => ?_)
  obtain ⟨⟨hP, hK1, hD1⟩, hsz1⟩ := hB
  rw [ht] at hP hsz1
  have hC : CP dC dI Q A s.heap p63.2 H1 locs := ⟨hP, hD1.weaken (fun _ _ _ h => hFc _ h), hS, hsz1⟩
  generalize H1 = H at hC ⊢
  have h66 : z9h ≤ CS.hs p63.2 := Nat.le_trans h62 mo64
  refine W.widen (k := CS.hs p63.2 - z9h) (n := 17 * (CS.hs p63.2 - z9h)) (cAcc2 h62 mo64) (cAcc3 h62 mo64) ?_
  obtain rfl : r65 = p63.1 := hw
  rcases hf_oc hf with ⟨q67, hf⟩ | ⟨a68, q67, hf⟩
  ·
    refine W.eq (congrArg (fun v9 => F0 m 157 ls (va_rf v9 :: [])) q67) ?_
    refine W.eq (g2 := F0 m 157 ls (.null :: [])) rfl ?_
    refine lv_astoreN (lv' := [(6, .null), (0, .ref (Q.o 3)), (1, .int x1), (2, .int x2), (3, .int x3), (4, .int x4), (5, .int x5)]) hx hb dX7_forHead_157 hl (by decide) rfl (fun ls hl => ?_)
    refine lv_aloadN hx hb dX7_forHead_159 (lv_at hl 0 rfl) ?_
    refine lv_iload hx hb dX7_forHead_161 (lv_at hl 6 rfl) ?_
    cases hf
  ·
    refine W.eq (congrArg (fun v9 => F0 m 157 ls (va_rf v9 :: [])) q67) ?_
    refine W.eq (g2 := F0 m 157 ls (.ref a68 :: [])) rfl ?_
    refine lv_astore (lv' := [(6, .ref a68), (0, .ref (Q.o 3)), (1, .int x1), (2, .int x2), (3, .int x3), (4, .int x4), (5, .int x5)]) hx hb dX7_forHead_157 hl (by decide) rfl (fun ls hl => ?_)
    refine lv_aload hx hb dX7_forHead_159 (lv_at hl 0 rfl) ?_
    refine lv_iload hx hb dX7_forHead_161 (lv_at hl 6 rfl) ?_
    obtain ⟨b69, hf⟩ := hf_ite hf
    obtain ⟨b70, hf⟩ := hf_ite hf
    refine pPN_X5_7 (v := x5) hx hb hts i_X7_forHead_X5 hown hK hC (va_Nw.use rfl (hZ.1 (.fieldLinkNest RX7 324 "StatementRules2$Open" "never" "Z" "StatementRules2") (by decide +kernel))) (fun _ q9 => q9) dX7_forHead_163 b70 b69 (fun H locs hC => ?_)
    refine lv_aload hx hb dX7_forHead_166 (lv_at hl 0 rfl) ?_
    obtain rfl := Option.some.inj hf
    exact W.aret (v := .ref a68) hx hb hr (Or.inl ⟨_, rfl⟩) (Or.inr ⟨_, rfl⟩) (fun t ht hW => ⟨⟨(some a68), (), rfl, rfl, ⟨by rw [ht]; exact hC.1, va_K.moved hW.alike hK, hC.2.1⟩, by rw [ht]; exact hC.2.2.2⟩, hC.2.2.1.F ht⟩) hC.2.2.1.2.2 dX7_forHead_168
set_option maxHeartbeats 4000000 in
set_option maxRecDepth 100000 in
theorem j_X7_forHead_76 {p : Program} {e : Env} {s : State} {m : MethodId} {args : Array Value} {below : List Frame} {meth : Method} {c : Code} {A : Nat → Prop} (l : Launch) (dC : Nat → ClassId) (dI : Nat → Nat → Nat) (Q : CQ) (N : Nat) (d : Nat) (E1 : CS → Option (Unit × CS)) (E2 : CS → Option (Int32 × CS)) (hE1 : cMF l dC dI Q d E1) (hE2 : cMO l dC dI Q d E2) (hm1 : ∀ σ, Mono (CS.hs σ) (E1 σ)) (hm2 : ∀ σ, Mono (CS.hs σ) (E2 σ)) (z9h : Nat) (R : Option Nat × CS) (hx : p.tables.exec = Jvm.exec) (hb : c.code = cX7_forHead) (hr : meth.sig.returnType = (some (.object "StatementRules2$Open"))) (hml : c.maxLocals = 7) (hown : s.vm.findClass RX7 = some m.cls) (hts : ∀ w ∈ wzX7_forHead, w.before args s = true) (hlocks : meth.locks = false) (hZ : zAMB s) (hA : ∀ q : Nat, s.heap.size ≤ q → A q) (hK : va_K (dC, dI) vwCl (cT Q) s) : ∀ (σ : CS) (x1 : Int32) (x2 : Int32) (x3 : Int32) (x4 : Int32) (x5 : Int32) (H : Heap) (locs : List Loc) (ls : Array Slot), f_X7_forHead_76 N E1 E2 σ x1 x2 x3 x4 x5 = some R → z9h ≤ CS.hs σ → CP dC dI Q A s.heap σ H locs → lv_has ls 7 [(0, .ref (Q.o 3)), (1, .int x1), (2, .int x2), (3, .int x3), (4, .int x4), (5, .int x5)] → W p l e ({ frames := (15 + 40 * d), cells := CS.hs R.2 - z9h, slots := 17 * (CS.hs R.2 - z9h), locals := 60 * (15 + 40 * d) }) s m args below meth c H locs (CS.hs σ - z9h) (17 * (CS.hs σ - z9h)) (MQ below (va_Qq (fun (r : Option Nat) (_ : Unit) => r = R.1) (fun (_ : Unit) (t : State) => zPost dC dI A (cW Q R.2) (cT Q) t ∧ t.heap.size = CS.hs R.2) A) args s (CS.hs R.2 - z9h) (17 * (CS.hs R.2 - z9h)) A) (F0 m 76 ls []) := by
  intro σ x1 x2 x3 x4 x5 H locs ls hf h0 hC hl
  unfold f_X7_forHead_76 at hf
  refine lv_aload_n hx hb dX7_forHead_76 rfl (lv_at hl 0 rfl) ?_
  refine cG_29 hx hb hts i_X7_forHead_X7 hown hK hC (hts (.fieldLink RX7 20 "StatementRules2$Statements" "code" "LStatementRules2$Code;") k_X7_forHead_fieldLink_RX7_20_SR_Statements_code_LSR_Code) (fun x9 q9 => u_same (hts (.sameField "StatementRules2$Statements" "StatementRules2$Formulas" "code" "LStatementRules2$Code;") k_X7_forHead_sameField_SR_Statements_SR_Formulas_code_LSR_Code) x9 q9) dX7_forHead_77 ?_
  refine lv_bipush (v := 30) hx hb dX7_forHead_80 (by decide) ?_
  refine lv_iload_n hx hb dX7_forHead_82 rfl (lv_at hl 3 rfl) ?_
  obtain ⟨p30, hcp30, hf⟩ := hf_bind hf
  have mo31 : CS.hs σ ≤ CS.hs p30.2 := Mono.go hcp30 (m_X0_add N σ 30 x3)
  have hr9 : CS.hs p30.2 ≤ CS.hs R.2 := Mono.go hf (mono_bind (m_X1_expect N p30.2 59) (fun p34 => (mono_bind (m_X0_aim N p34.2 x2) (fun p38 => (mono_bind (m_X1_found N p38.2 2) (fun p42 => (mono_ite (m_X7_forHead_113 N E1 E2 hm1 hm2 p42.2 x1 x2 x3 x4 x5) (mono_bind (m_X7_changeHere N E1 E2 hm1 hm2 p42.2 1) (fun p71 => (m_X7_forHead_113 N E1 E2 hm1 hm2 p71.2 x1 x2 x3 x4 x5))))))))))
  have hFc := cFree hC hA
  refine va_callv (va_runV (As := [.int 30, .int x3]) (rest := []) ⟨hx, hb, hml, hown, hts⟩ (c_X0_add l dC dI Q N σ 30 x3 p30 hcp30) (cwV 2 hts hX7_forHead_X0_add_v176 rfl rfl rfl (by decide +kernel) ⟨(show 2 + 1 ≤ (15 + 40 * d) by omega), (show 8 + (3 + 11) + 60 * 2 ≤ 60 * (15 + 40 * d) by omega)⟩) ⟨zPre.blind, va_recv hK hC.1 (ci := 0) (q0 := 2) rfl rfl, cPre_go hZ hK hC⟩ rfl rfl hl.1 rfl (lv_room (Nat.le_of_ble_eq_true rfl)) dX7_forHead_83 (cAcc h0 mo31 hr9)) hC.2.2.1 (fun q _ h => hFc q h) hFc (fun u9 t9 H1 locs ht hvm hw hB hz1 hk1 hS => ?_)
  obtain ⟨⟨hP, hK1, hD1⟩, hsz1⟩ := hB
  rw [ht] at hP hsz1
  have hC : CP dC dI Q A s.heap p30.2 H1 locs := ⟨hP, hD1.weaken (fun _ _ _ h => hFc _ h), hS, hsz1⟩
  generalize H1 = H at hC ⊢
  have h33 : z9h ≤ CS.hs p30.2 := Nat.le_trans h0 mo31
  refine W.widen (k := CS.hs p30.2 - z9h) (n := 17 * (CS.hs p30.2 - z9h)) (cAcc2 h0 mo31) (cAcc3 h0 mo31) ?_
  refine lv_aload_n hx hb dX7_forHead_86 rfl (lv_at hl 0 rfl) ?_
  refine lv_bipush (v := 59) hx hb dX7_forHead_87 (by decide) ?_
  obtain ⟨p34, hcp34, hf⟩ := hf_bind hf
  have mo35 : CS.hs p30.2 ≤ CS.hs p34.2 := Mono.go hcp34 (m_X1_expect N p30.2 59)
  have hr9 : CS.hs p34.2 ≤ CS.hs R.2 := Mono.go hf (mono_bind (m_X0_aim N p34.2 x2) (fun p38 => (mono_bind (m_X1_found N p38.2 2) (fun p42 => (mono_ite (m_X7_forHead_113 N E1 E2 hm1 hm2 p42.2 x1 x2 x3 x4 x5) (mono_bind (m_X7_changeHere N E1 E2 hm1 hm2 p42.2 1) (fun p71 => (m_X7_forHead_113 N E1 E2 hm1 hm2 p71.2 x1 x2 x3 x4 x5))))))))
  have hFc := cFree hC hA
  refine va_callv (va_runU (As := [.int 59]) (rest := []) ⟨hx, hb, hml, hown, hts⟩ (c_X1_expect l dC dI Q N p30.2 59 p34 hcp34) (va_cwU 1 hts hX7_forHead_X1_expect_u155 rfl rfl rfl rfl (by decide +kernel) ⟨(show 4 + 1 ≤ (15 + 40 * d) by omega), (show 8 + (2 + 11) + 60 * 4 ≤ 60 * (15 + 40 * d) by omega)⟩) ⟨zPre.blind, va_recv hK hC.1 (ci := 6) (q0 := 3) rfl rfl, cPre_go hZ hK hC⟩ rfl rfl hl.1 rfl (lv_room (Nat.le_of_ble_eq_true rfl)) dX7_forHead_89 (cAcc h33 mo35 hr9)) hC.2.2.1 (fun q _ h => hFc q h) hFc (fun u9 t9 H1 locs ht hvm hw hB hz1 hk1 hS => ?_)
  obtain ⟨⟨hP, hK1, hD1⟩, hsz1⟩ := hB
  rw [ht] at hP hsz1
  have hC : CP dC dI Q A s.heap p34.2 H1 locs := ⟨hP, hD1.weaken (fun _ _ _ h => hFc _ h), hS, hsz1⟩
  generalize H1 = H at hC ⊢
  have h37 : z9h ≤ CS.hs p34.2 := Nat.le_trans h33 mo35
  refine W.widen (k := CS.hs p34.2 - z9h) (n := 17 * (CS.hs p34.2 - z9h)) (cAcc2 h33 mo35) (cAcc3 h33 mo35) ?_
  refine lv_aload_n hx hb dX7_forHead_92 rfl (lv_at hl 0 rfl) ?_
  refine cG_29 hx hb hts i_X7_forHead_X7 hown hK hC (hts (.fieldLink RX7 20 "StatementRules2$Statements" "code" "LStatementRules2$Code;") k_X7_forHead_fieldLink_RX7_20_SR_Statements_code_LSR_Code) (fun x9 q9 => u_same (hts (.sameField "StatementRules2$Statements" "StatementRules2$Formulas" "code" "LStatementRules2$Code;") k_X7_forHead_sameField_SR_Statements_SR_Formulas_code_LSR_Code) x9 q9) dX7_forHead_93 ?_
  refine lv_iload_n hx hb dX7_forHead_96 rfl (lv_at hl 2 rfl) ?_
  obtain ⟨p38, hcp38, hf⟩ := hf_bind hf
  have mo39 : CS.hs p34.2 ≤ CS.hs p38.2 := Mono.go hcp38 (m_X0_aim N p34.2 x2)
  have hr9 : CS.hs p38.2 ≤ CS.hs R.2 := Mono.go hf (mono_bind (m_X1_found N p38.2 2) (fun p42 => (mono_ite (m_X7_forHead_113 N E1 E2 hm1 hm2 p42.2 x1 x2 x3 x4 x5) (mono_bind (m_X7_changeHere N E1 E2 hm1 hm2 p42.2 1) (fun p71 => (m_X7_forHead_113 N E1 E2 hm1 hm2 p71.2 x1 x2 x3 x4 x5))))))
  have hFc := cFree hC hA
  refine va_callv (va_runV (As := [.int x2]) (rest := []) ⟨hx, hb, hml, hown, hts⟩ (c_X0_aim l dC dI Q N p34.2 x2 p38 hcp38) (cwV 1 hts hX7_forHead_X0_aim_v158 rfl rfl rfl (by decide +kernel) ⟨(show 2 + 1 ≤ (15 + 40 * d) by omega), (show 8 + (2 + 11) + 60 * 2 ≤ 60 * (15 + 40 * d) by omega)⟩) ⟨zPre.blind, va_recv hK hC.1 (ci := 0) (q0 := 2) rfl rfl, cPre_go hZ hK hC⟩ rfl rfl hl.1 rfl (lv_room (Nat.le_of_ble_eq_true rfl)) dX7_forHead_97 (cAcc h37 mo39 hr9)) hC.2.2.1 (fun q _ h => hFc q h) hFc (fun u9 t9 H1 locs ht hvm hw hB hz1 hk1 hS => ?_)
  obtain ⟨⟨hP, hK1, hD1⟩, hsz1⟩ := hB
  rw [ht] at hP hsz1
  have hC : CP dC dI Q A s.heap p38.2 H1 locs := ⟨hP, hD1.weaken (fun _ _ _ h => hFc _ h), hS, hsz1⟩
  generalize H1 = H at hC ⊢
  have h41 : z9h ≤ CS.hs p38.2 := Nat.le_trans h37 mo39
  refine W.widen (k := CS.hs p38.2 - z9h) (n := 17 * (CS.hs p38.2 - z9h)) (cAcc2 h37 mo39) (cAcc3 h37 mo39) ?_
  refine lv_aload_n hx hb dX7_forHead_100 rfl (lv_at hl 0 rfl) ?_
  refine lv_iconst (v := 2) hx hb dX7_forHead_101 (by decide) ?_
  obtain ⟨p42, hcp42, hf⟩ := hf_bind hf
  have mo43 : CS.hs p38.2 ≤ CS.hs p42.2 := Mono.go hcp42 (m_X1_found N p38.2 2)
  have hr9 : CS.hs p42.2 ≤ CS.hs R.2 := Mono.go hf (mono_ite (m_X7_forHead_113 N E1 E2 hm1 hm2 p42.2 x1 x2 x3 x4 x5) (mono_bind (m_X7_changeHere N E1 E2 hm1 hm2 p42.2 1) (fun p71 => (m_X7_forHead_113 N E1 E2 hm1 hm2 p71.2 x1 x2 x3 x4 x5))))
  have hFc := cFree hC hA
  refine va_calli (va_runU (As := [.int 2]) (rest := []) ⟨hx, hb, hml, hown, hts⟩ (c_X1_found l dC dI Q N p38.2 2 p42 hcp42) (va_cwU 1 hts hX7_forHead_X1_found_u110 rfl rfl rfl rfl (by decide +kernel) ⟨(show 1 + 1 ≤ (15 + 40 * d) by omega), (show 8 + (2 + 11) + 60 * 1 ≤ 60 * (15 + 40 * d) by omega)⟩) ⟨zPre.blind, va_recv hK hC.1 (ci := 6) (q0 := 3) rfl rfl, cPre_go hZ hK hC⟩ rfl rfl hl.1 rfl (lv_room (Nat.le_of_ble_eq_true rfl)) dX7_forHead_102 (cAcc h41 mo43 hr9)) hC.2.2.1 (fun q _ h => hFc q h) hFc (fun r44 u9 t9 H1 locs ht hvm hw hB hz1 hk1 hS => ?_)
  obtain ⟨⟨hP, hK1, hD1⟩, hsz1⟩ := hB
  rw [ht] at hP hsz1
  have hC : CP dC dI Q A s.heap p42.2 H1 locs := ⟨hP, hD1.weaken (fun _ _ _ h => hFc _ h), hS, hsz1⟩
  generalize H1 = H at hC ⊢
  have h45 : z9h ≤ CS.hs p42.2 := Nat.le_trans h41 mo43
  refine W.widen (k := CS.hs p42.2 - z9h) (n := 17 * (CS.hs p42.2 - z9h)) (cAcc2 h41 mo43) (cAcc3 h41 mo43) ?_
  obtain rfl : r44 = p42.1 := hw
  refine lv_if_eq (tgt := 113) hx hb dX7_forHead_105 (by decide) (fun c46 => ?_) (fun c46 => ?_)
  ·
    replace hf := (if_pos c46).symm.trans hf
    exact j_X7_forHead_113 l dC dI Q N d E1 E2 hE1 hE2 hm1 hm2 z9h R hx hb hr hml hown hts hlocks hZ hA hK p42.2 x1 x2 x3 x4 x5 _ _ _ hf h45 hC (lv_sub hl [0, 1, 2, 3, 4, 5] rfl)
  ·
    replace hf := (if_neg c46).symm.trans hf
    refine lv_aload_n hx hb dX7_forHead_108 rfl (lv_at hl 0 rfl) ?_
    refine lv_iconst (v := 1) hx hb dX7_forHead_109 (by decide) ?_
    obtain ⟨p71, hcp71, hf⟩ := hf_bind hf
    have mo72 : CS.hs p42.2 ≤ CS.hs p71.2 := Mono.go hcp71 (m_X7_changeHere N E1 E2 hm1 hm2 p42.2 1)
    have hr9 : CS.hs p71.2 ≤ CS.hs R.2 := Mono.go hf (m_X7_forHead_113 N E1 E2 hm1 hm2 p71.2 x1 x2 x3 x4 x5)
    have hFc := cFree hC hA
    refine va_callv (va_runV (As := [.int 1]) (rest := []) ⟨hx, hb, hml, hown, hts⟩ (c_X7_changeHere l dC dI Q N d E1 E2 hE1 hE2 hm1 hm2 p42.2 1 p71 hcp71) (cwV 1 hts hX7_forHead_X7_changeHere_v335 rfl rfl rfl (by decide +kernel) ⟨(show (14 + 40 * d) + 1 ≤ (15 + 40 * d) by omega), (show 8 + (5 + 11) + 60 * (14 + 40 * d) ≤ 60 * (15 + 40 * d) by omega)⟩) ⟨zPre.blind, va_recv hK hC.1 (ci := 6) (q0 := 3) rfl rfl, cPre_go hZ hK hC⟩ rfl rfl hl.1 rfl (lv_room (Nat.le_of_ble_eq_true rfl)) dX7_forHead_110 (cAcc h45 mo72 hr9)) hC.2.2.1 (fun q _ h => hFc q h) hFc (fun u9 t9 H1 locs ht hvm hw hB hz1 hk1 hS => ?_)
    obtain ⟨⟨hP, hK1, hD1⟩, hsz1⟩ := hB
    rw [ht] at hP hsz1
    have hC : CP dC dI Q A s.heap p71.2 H1 locs := ⟨hP, hD1.weaken (fun _ _ _ h => hFc _ h), hS, hsz1⟩
    generalize H1 = H at hC ⊢
    have h74 : z9h ≤ CS.hs p71.2 := Nat.le_trans h45 mo72
    refine W.widen (k := CS.hs p71.2 - z9h) (n := 17 * (CS.hs p71.2 - z9h)) (cAcc2 h45 mo72) (cAcc3 h45 mo72) ?_
    exact j_X7_forHead_113 l dC dI Q N d E1 E2 hE1 hE2 hm1 hm2 z9h R hx hb hr hml hown hts hlocks hZ hA hK p71.2 x1 x2 x3 x4 x5 _ _ _ hf h74 hC (lv_sub hl [0, 1, 2, 3, 4, 5] rfl)
set_option maxHeartbeats 4000000 in
set_option maxRecDepth 100000 in
theorem c_X7_forHead (l : Launch) (dC : Nat → ClassId) (dI : Nat → Nat → Nat) (Q : CQ) (N : Nat) (d : Nat) (E1 : CS → Option (Unit × CS)) (E2 : CS → Option (Int32 × CS)) (hE1 : cMF l dC dI Q d E1) (hE2 : cMO l dC dI Q d E2) (hm1 : ∀ σ, Mono (CS.hs σ) (E1 σ)) (hm2 : ∀ σ, Mono (CS.hs σ) (E2 σ)) (σ : CS) (R : Option Nat × CS) (hf : f_X7_forHead N E1 E2 σ = some R) : Met l yX7_forHead wzX7_forHead ({ frames := (15 + 40 * d), cells := CS.hs R.2 - CS.hs σ, slots := 17 * (CS.hs R.2 - CS.hs σ), locals := 60 * (15 + 40 * d) }) (va_Pc [.ref (Q.o 3)] (zPre dC dI (CS.hs σ) (cW Q σ) (cT Q))) (va_Qq (fun (r : Option Nat) (_ : Unit) => r = R.1) (fun (_ : Unit) (t : State) => zPost dC dI (va_A (cW Q σ) (CS.hs σ)) (cW Q R.2) (cT Q) t ∧ t.heap.size = CS.hs R.2) (va_A (cW Q σ) (CS.hs σ))) (CS.hs R.2 - CS.hs σ) (17 * (CS.hs R.2 - CS.hs σ)) (va_A (cW Q σ) (CS.hs σ)) := by
  refine Met.ofW (cc := cX7_forHead) (maxL := 7) (ret := (some (.object "StatementRules2$Open"))) (by decide) rfl ?_
  intro p e s m args below meth c s₁ B hml hv
  obtain ⟨rfl, hsz, hZ, hP, hK, hD0⟩ := hv
  have hx := B.exec
  have hb := B.bytes
  have hr := B.returns
  have hts := atoms_spec (ws := wzX7_forHead) B.pre
  have hown : s.vm.findClass RX7 = some m.cls := findClass_of_methodNamed B.named
  have hlocks := B.notSynchronized
  have hD := hD0.self (sz := CS.hs σ)
  generalize hAe : va_A (cW Q σ) (CS.hs σ) = A at hD ⊢
  have hA : ∀ q : Nat, s.heap.size ≤ q → A q := fun q h => by rw [← hAe]; exact Or.inr (hsz ▸ h)
  have hC : CP dC dI Q A s.heap σ s.heap [] := ⟨hP, hD, va_S.rf, hsz⟩
  have h0 : CS.hs σ ≤ CS.hs σ := Nat.le_refl _
  have hl := lv_entry ([.ref (Q.o 3)]) (n := 7) (Nat.le_of_ble_eq_true rfl)
  rw [lg_entry_eq]
  generalize (lg_sl ([.ref (Q.o 3)]) ++ List.replicate (7 - (lg_sl ([.ref (Q.o 3)])).length) Slot.unset).toArray = ls at hl ⊢
  have hl : lv_has ls 7 [(0, .ref (Q.o 3))] := hl
  unfold f_X7_forHead at hf
  refine W.widen (k := CS.hs σ - CS.hs σ) (n := 17 * (CS.hs σ - CS.hs σ)) (Nat.zero_le _) (Nat.zero_le _) ?_
  refine lv_aload_n hx hb dX7_forHead_0 rfl (lv_at hl 0 rfl) ?_
  refine cG_29 hx hb hts i_X7_forHead_X7 hown hK hC (hts (.fieldLink RX7 20 "StatementRules2$Statements" "code" "LStatementRules2$Code;") k_X7_forHead_fieldLink_RX7_20_SR_Statements_code_LSR_Code) (fun x9 q9 => u_same (hts (.sameField "StatementRules2$Statements" "StatementRules2$Formulas" "code" "LStatementRules2$Code;") k_X7_forHead_sameField_SR_Statements_SR_Formulas_code_LSR_Code) x9 q9) dX7_forHead_1 ?_
  obtain ⟨p1, hcp1, hf⟩ := hf_bind hf
  have mo2 : CS.hs σ ≤ CS.hs p1.2 := Mono.go hcp1 (m_X0_newTarget N σ)
  have hr9 : CS.hs p1.2 ≤ CS.hs R.2 := Mono.go hf (mono_bind (m_X0_newTarget N p1.2) (fun p5 => (mono_bind (m_X0_newTarget N p5.2) (fun p9 => (mono_bind (m_X0_newTarget N p9.2) (fun p13 => (mono_bind (m_X1_expect N p13.2 59) (fun p17 => (mono_bind (m_X0_aim N p17.2 p1.1) (fun p21 => (mono_bind (m_X1_found N p21.2 59) (fun p25 => (mono_ite (mono_bind (m_X1_condition N E1 E2 hm1 hm2 p25.2) (fun p75 => (mono_bind (m_X0_add N p75.2 31 p13.1) (fun p79 => (m_X7_forHead_76 N E1 E2 hm1 hm2 p79.2 p1.1 p5.1 p9.1 p13.1 p75.1))))) (m_X7_forHead_76 N E1 E2 hm1 hm2 p25.2 p1.1 p5.1 p9.1 p13.1 1))))))))))))))
  have hFc := cFree hC hA
  refine va_calli (va_runV (As := []) (rest := []) ⟨hx, hb, hml, hown, hts⟩ (c_X0_newTarget l dC dI Q N σ p1 hcp1) (cwV 0 hts hX7_forHead_X0_newTarget_v136 rfl rfl rfl (by decide +kernel) ⟨(show 2 + 1 ≤ (15 + 40 * d) by omega), (show 8 + (1 + 11) + 60 * 2 ≤ 60 * (15 + 40 * d) by omega)⟩) ⟨zPre.blind, va_recv hK hC.1 (ci := 0) (q0 := 2) rfl rfl, cPre_go hZ hK hC⟩ rfl rfl hl.1 rfl (lv_room (Nat.le_of_ble_eq_true rfl)) dX7_forHead_4 (cAcc h0 mo2 hr9)) hC.2.2.1 (fun q _ h => hFc q h) hFc (fun r3 u9 t9 H1 locs ht hvm hw hB hz1 hk1 hS => ?_)
  obtain ⟨⟨hP, hK1, hD1⟩, hsz1⟩ := hB
  rw [ht] at hP hsz1
  have hC : CP dC dI Q A s.heap p1.2 H1 locs := ⟨hP, hD1.weaken (fun _ _ _ h => hFc _ h), hS, hsz1⟩
  generalize H1 = H at hC ⊢
  have h4 : (CS.hs σ) ≤ CS.hs p1.2 := Nat.le_trans h0 mo2
  refine W.widen (k := CS.hs p1.2 - (CS.hs σ)) (n := 17 * (CS.hs p1.2 - (CS.hs σ))) (cAcc2 h0 mo2) (cAcc3 h0 mo2) ?_
  obtain rfl : r3 = p1.1 := hw
  refine lv_istore_n (lv' := [(1, .int p1.1), (0, .ref (Q.o 3))]) hx hb dX7_forHead_7 rfl hl (by decide) rfl (fun ls hl => ?_)
  refine lv_aload_n hx hb dX7_forHead_8 rfl (lv_at hl 1 rfl) ?_
  refine cG_29 hx hb hts i_X7_forHead_X7 hown hK hC (hts (.fieldLink RX7 20 "StatementRules2$Statements" "code" "LStatementRules2$Code;") k_X7_forHead_fieldLink_RX7_20_SR_Statements_code_LSR_Code) (fun x9 q9 => u_same (hts (.sameField "StatementRules2$Statements" "StatementRules2$Formulas" "code" "LStatementRules2$Code;") k_X7_forHead_sameField_SR_Statements_SR_Formulas_code_LSR_Code) x9 q9) dX7_forHead_9 ?_
  obtain ⟨p5, hcp5, hf⟩ := hf_bind hf
  have mo6 : CS.hs p1.2 ≤ CS.hs p5.2 := Mono.go hcp5 (m_X0_newTarget N p1.2)
  have hr9 : CS.hs p5.2 ≤ CS.hs R.2 := Mono.go hf (mono_bind (m_X0_newTarget N p5.2) (fun p9 => (mono_bind (m_X0_newTarget N p9.2) (fun p13 => (mono_bind (m_X1_expect N p13.2 59) (fun p17 => (mono_bind (m_X0_aim N p17.2 p1.1) (fun p21 => (mono_bind (m_X1_found N p21.2 59) (fun p25 => (mono_ite (mono_bind (m_X1_condition N E1 E2 hm1 hm2 p25.2) (fun p75 => (mono_bind (m_X0_add N p75.2 31 p13.1) (fun p79 => (m_X7_forHead_76 N E1 E2 hm1 hm2 p79.2 p1.1 p5.1 p9.1 p13.1 p75.1))))) (m_X7_forHead_76 N E1 E2 hm1 hm2 p25.2 p1.1 p5.1 p9.1 p13.1 1))))))))))))
  have hFc := cFree hC hA
  refine va_calli (va_runV (As := []) (rest := []) ⟨hx, hb, hml, hown, hts⟩ (c_X0_newTarget l dC dI Q N p1.2 p5 hcp5) (cwV 0 hts hX7_forHead_X0_newTarget_v136 rfl rfl rfl (by decide +kernel) ⟨(show 2 + 1 ≤ (15 + 40 * d) by omega), (show 8 + (1 + 11) + 60 * 2 ≤ 60 * (15 + 40 * d) by omega)⟩) ⟨zPre.blind, va_recv hK hC.1 (ci := 0) (q0 := 2) rfl rfl, cPre_go hZ hK hC⟩ rfl rfl hl.1 rfl (lv_room (Nat.le_of_ble_eq_true rfl)) dX7_forHead_12 (cAcc h4 mo6 hr9)) hC.2.2.1 (fun q _ h => hFc q h) hFc (fun r7 u9 t9 H1 locs ht hvm hw hB hz1 hk1 hS => ?_)
  obtain ⟨⟨hP, hK1, hD1⟩, hsz1⟩ := hB
  rw [ht] at hP hsz1
  have hC : CP dC dI Q A s.heap p5.2 H1 locs := ⟨hP, hD1.weaken (fun _ _ _ h => hFc _ h), hS, hsz1⟩
  generalize H1 = H at hC ⊢
  have h8 : (CS.hs σ) ≤ CS.hs p5.2 := Nat.le_trans h4 mo6
  refine W.widen (k := CS.hs p5.2 - (CS.hs σ)) (n := 17 * (CS.hs p5.2 - (CS.hs σ))) (cAcc2 h4 mo6) (cAcc3 h4 mo6) ?_
  obtain rfl : r7 = p5.1 := hw
  refine lv_istore_n (lv' := [(2, .int p5.1), (1, .int p1.1), (0, .ref (Q.o 3))]) hx hb dX7_forHead_15 rfl hl (by decide) rfl (fun ls hl => ?_)
  refine lv_aload_n hx hb dX7_forHead_16 rfl (lv_at hl 2 rfl) ?_
  refine cG_29 hx hb hts i_X7_forHead_X7 hown hK hC (hts (.fieldLink RX7 20 "StatementRules2$Statements" "code" "LStatementRules2$Code;") k_X7_forHead_fieldLink_RX7_20_SR_Statements_code_LSR_Code) (fun x9 q9 => u_same (hts (.sameField "StatementRules2$Statements" "StatementRules2$Formulas" "code" "LStatementRules2$Code;") k_X7_forHead_sameField_SR_Statements_SR_Formulas_code_LSR_Code) x9 q9) dX7_forHead_17 ?_
  obtain ⟨p9, hcp9, hf⟩ := hf_bind hf
  have mo10 : CS.hs p5.2 ≤ CS.hs p9.2 := Mono.go hcp9 (m_X0_newTarget N p5.2)
  have hr9 : CS.hs p9.2 ≤ CS.hs R.2 := Mono.go hf (mono_bind (m_X0_newTarget N p9.2) (fun p13 => (mono_bind (m_X1_expect N p13.2 59) (fun p17 => (mono_bind (m_X0_aim N p17.2 p1.1) (fun p21 => (mono_bind (m_X1_found N p21.2 59) (fun p25 => (mono_ite (mono_bind (m_X1_condition N E1 E2 hm1 hm2 p25.2) (fun p75 => (mono_bind (m_X0_add N p75.2 31 p13.1) (fun p79 => (m_X7_forHead_76 N E1 E2 hm1 hm2 p79.2 p1.1 p5.1 p9.1 p13.1 p75.1))))) (m_X7_forHead_76 N E1 E2 hm1 hm2 p25.2 p1.1 p5.1 p9.1 p13.1 1))))))))))
  have hFc := cFree hC hA
  refine va_calli (va_runV (As := []) (rest := []) ⟨hx, hb, hml, hown, hts⟩ (c_X0_newTarget l dC dI Q N p5.2 p9 hcp9) (cwV 0 hts hX7_forHead_X0_newTarget_v136 rfl rfl rfl (by decide +kernel) ⟨(show 2 + 1 ≤ (15 + 40 * d) by omega), (show 8 + (1 + 11) + 60 * 2 ≤ 60 * (15 + 40 * d) by omega)⟩) ⟨zPre.blind, va_recv hK hC.1 (ci := 0) (q0 := 2) rfl rfl, cPre_go hZ hK hC⟩ rfl rfl hl.1 rfl (lv_room (Nat.le_of_ble_eq_true rfl)) dX7_forHead_20 (cAcc h8 mo10 hr9)) hC.2.2.1 (fun q _ h => hFc q h) hFc (fun r11 u9 t9 H1 locs ht hvm hw hB hz1 hk1 hS => ?_)
  obtain ⟨⟨hP, hK1, hD1⟩, hsz1⟩ := hB
  rw [ht] at hP hsz1
  have hC : CP dC dI Q A s.heap p9.2 H1 locs := ⟨hP, hD1.weaken (fun _ _ _ h => hFc _ h), hS, hsz1⟩
  generalize H1 = H at hC ⊢
  have h12 : (CS.hs σ) ≤ CS.hs p9.2 := Nat.le_trans h8 mo10
  refine W.widen (k := CS.hs p9.2 - (CS.hs σ)) (n := 17 * (CS.hs p9.2 - (CS.hs σ))) (cAcc2 h8 mo10) (cAcc3 h8 mo10) ?_
  obtain rfl : r11 = p9.1 := hw
  refine lv_istore_n (lv' := [(3, .int p9.1), (2, .int p5.1), (1, .int p1.1), (0, .ref (Q.o 3))]) hx hb dX7_forHead_23 rfl hl (by decide) rfl (fun ls hl => ?_)
  refine lv_aload_n hx hb dX7_forHead_24 rfl (lv_at hl 3 rfl) ?_
  refine cG_29 hx hb hts i_X7_forHead_X7 hown hK hC (hts (.fieldLink RX7 20 "StatementRules2$Statements" "code" "LStatementRules2$Code;") k_X7_forHead_fieldLink_RX7_20_SR_Statements_code_LSR_Code) (fun x9 q9 => u_same (hts (.sameField "StatementRules2$Statements" "StatementRules2$Formulas" "code" "LStatementRules2$Code;") k_X7_forHead_sameField_SR_Statements_SR_Formulas_code_LSR_Code) x9 q9) dX7_forHead_25 ?_
  obtain ⟨p13, hcp13, hf⟩ := hf_bind hf
  have mo14 : CS.hs p9.2 ≤ CS.hs p13.2 := Mono.go hcp13 (m_X0_newTarget N p9.2)
  have hr9 : CS.hs p13.2 ≤ CS.hs R.2 := Mono.go hf (mono_bind (m_X1_expect N p13.2 59) (fun p17 => (mono_bind (m_X0_aim N p17.2 p1.1) (fun p21 => (mono_bind (m_X1_found N p21.2 59) (fun p25 => (mono_ite (mono_bind (m_X1_condition N E1 E2 hm1 hm2 p25.2) (fun p75 => (mono_bind (m_X0_add N p75.2 31 p13.1) (fun p79 => (m_X7_forHead_76 N E1 E2 hm1 hm2 p79.2 p1.1 p5.1 p9.1 p13.1 p75.1))))) (m_X7_forHead_76 N E1 E2 hm1 hm2 p25.2 p1.1 p5.1 p9.1 p13.1 1))))))))
  have hFc := cFree hC hA
  refine va_calli (va_runV (As := []) (rest := []) ⟨hx, hb, hml, hown, hts⟩ (c_X0_newTarget l dC dI Q N p9.2 p13 hcp13) (cwV 0 hts hX7_forHead_X0_newTarget_v136 rfl rfl rfl (by decide +kernel) ⟨(show 2 + 1 ≤ (15 + 40 * d) by omega), (show 8 + (1 + 11) + 60 * 2 ≤ 60 * (15 + 40 * d) by omega)⟩) ⟨zPre.blind, va_recv hK hC.1 (ci := 0) (q0 := 2) rfl rfl, cPre_go hZ hK hC⟩ rfl rfl hl.1 rfl (lv_room (Nat.le_of_ble_eq_true rfl)) dX7_forHead_28 (cAcc h12 mo14 hr9)) hC.2.2.1 (fun q _ h => hFc q h) hFc (fun r15 u9 t9 H1 locs ht hvm hw hB hz1 hk1 hS => ?_)
  obtain ⟨⟨hP, hK1, hD1⟩, hsz1⟩ := hB
  rw [ht] at hP hsz1
  have hC : CP dC dI Q A s.heap p13.2 H1 locs := ⟨hP, hD1.weaken (fun _ _ _ h => hFc _ h), hS, hsz1⟩
  generalize H1 = H at hC ⊢
  have h16 : (CS.hs σ) ≤ CS.hs p13.2 := Nat.le_trans h12 mo14
  refine W.widen (k := CS.hs p13.2 - (CS.hs σ)) (n := 17 * (CS.hs p13.2 - (CS.hs σ))) (cAcc2 h12 mo14) (cAcc3 h12 mo14) ?_
  obtain rfl : r15 = p13.1 := hw
  refine lv_istore (lv' := [(4, .int p13.1), (3, .int p9.1), (2, .int p5.1), (1, .int p1.1), (0, .ref (Q.o 3))]) hx hb dX7_forHead_31 hl (by decide) rfl (fun ls hl => ?_)
  refine lv_iconst (v := 1) hx hb dX7_forHead_33 (by decide) ?_
  refine lv_istore (lv' := [(5, .int 1), (4, .int p13.1), (3, .int p9.1), (2, .int p5.1), (1, .int p1.1), (0, .ref (Q.o 3))]) hx hb dX7_forHead_34 hl (by decide) rfl (fun ls hl => ?_)
  refine lv_aload_n hx hb dX7_forHead_36 rfl (lv_at hl 5 rfl) ?_
  refine lv_bipush (v := 59) hx hb dX7_forHead_37 (by decide) ?_
  obtain ⟨p17, hcp17, hf⟩ := hf_bind hf
  have mo18 : CS.hs p13.2 ≤ CS.hs p17.2 := Mono.go hcp17 (m_X1_expect N p13.2 59)
  have hr9 : CS.hs p17.2 ≤ CS.hs R.2 := Mono.go hf (mono_bind (m_X0_aim N p17.2 p1.1) (fun p21 => (mono_bind (m_X1_found N p21.2 59) (fun p25 => (mono_ite (mono_bind (m_X1_condition N E1 E2 hm1 hm2 p25.2) (fun p75 => (mono_bind (m_X0_add N p75.2 31 p13.1) (fun p79 => (m_X7_forHead_76 N E1 E2 hm1 hm2 p79.2 p1.1 p5.1 p9.1 p13.1 p75.1))))) (m_X7_forHead_76 N E1 E2 hm1 hm2 p25.2 p1.1 p5.1 p9.1 p13.1 1))))))
  have hFc := cFree hC hA
  refine va_callv (va_runU (As := [.int 59]) (rest := []) ⟨hx, hb, hml, hown, hts⟩ (c_X1_expect l dC dI Q N p13.2 59 p17 hcp17) (va_cwU 1 hts hX7_forHead_X1_expect_u155 rfl rfl rfl rfl (by decide +kernel) ⟨(show 4 + 1 ≤ (15 + 40 * d) by omega), (show 8 + (2 + 11) + 60 * 4 ≤ 60 * (15 + 40 * d) by omega)⟩) ⟨zPre.blind, va_recv hK hC.1 (ci := 6) (q0 := 3) rfl rfl, cPre_go hZ hK hC⟩ rfl rfl hl.1 rfl (lv_room (Nat.le_of_ble_eq_true rfl)) dX7_forHead_39 (cAcc h16 mo18 hr9)) hC.2.2.1 (fun q _ h => hFc q h) hFc (fun u9 t9 H1 locs ht hvm hw hB hz1 hk1 hS => ?_)
  obtain ⟨⟨hP, hK1, hD1⟩, hsz1⟩ := hB
  rw [ht] at hP hsz1
  have hC : CP dC dI Q A s.heap p17.2 H1 locs := ⟨hP, hD1.weaken (fun _ _ _ h => hFc _ h), hS, hsz1⟩
  generalize H1 = H at hC ⊢
  have h20 : (CS.hs σ) ≤ CS.hs p17.2 := Nat.le_trans h16 mo18
  refine W.widen (k := CS.hs p17.2 - (CS.hs σ)) (n := 17 * (CS.hs p17.2 - (CS.hs σ))) (cAcc2 h16 mo18) (cAcc3 h16 mo18) ?_
  refine lv_aload_n hx hb dX7_forHead_42 rfl (lv_at hl 5 rfl) ?_
  refine cG_29 hx hb hts i_X7_forHead_X7 hown hK hC (hts (.fieldLink RX7 20 "StatementRules2$Statements" "code" "LStatementRules2$Code;") k_X7_forHead_fieldLink_RX7_20_SR_Statements_code_LSR_Code) (fun x9 q9 => u_same (hts (.sameField "StatementRules2$Statements" "StatementRules2$Formulas" "code" "LStatementRules2$Code;") k_X7_forHead_sameField_SR_Statements_SR_Formulas_code_LSR_Code) x9 q9) dX7_forHead_43 ?_
  refine lv_iload_n hx hb dX7_forHead_46 rfl (lv_at hl 4 rfl) ?_
  obtain ⟨p21, hcp21, hf⟩ := hf_bind hf
  have mo22 : CS.hs p17.2 ≤ CS.hs p21.2 := Mono.go hcp21 (m_X0_aim N p17.2 p1.1)
  have hr9 : CS.hs p21.2 ≤ CS.hs R.2 := Mono.go hf (mono_bind (m_X1_found N p21.2 59) (fun p25 => (mono_ite (mono_bind (m_X1_condition N E1 E2 hm1 hm2 p25.2) (fun p75 => (mono_bind (m_X0_add N p75.2 31 p13.1) (fun p79 => (m_X7_forHead_76 N E1 E2 hm1 hm2 p79.2 p1.1 p5.1 p9.1 p13.1 p75.1))))) (m_X7_forHead_76 N E1 E2 hm1 hm2 p25.2 p1.1 p5.1 p9.1 p13.1 1))))
  have hFc := cFree hC hA
  refine va_callv (va_runV (As := [.int p1.1]) (rest := []) ⟨hx, hb, hml, hown, hts⟩ (c_X0_aim l dC dI Q N p17.2 p1.1 p21 hcp21) (cwV 1 hts hX7_forHead_X0_aim_v158 rfl rfl rfl (by decide +kernel) ⟨(show 2 + 1 ≤ (15 + 40 * d) by omega), (show 8 + (2 + 11) + 60 * 2 ≤ 60 * (15 + 40 * d) by omega)⟩) ⟨zPre.blind, va_recv hK hC.1 (ci := 0) (q0 := 2) rfl rfl, cPre_go hZ hK hC⟩ rfl rfl hl.1 rfl (lv_room (Nat.le_of_ble_eq_true rfl)) dX7_forHead_47 (cAcc h20 mo22 hr9)) hC.2.2.1 (fun q _ h => hFc q h) hFc (fun u9 t9 H1 locs ht hvm hw hB hz1 hk1 hS => ?_)
  obtain ⟨⟨hP, hK1, hD1⟩, hsz1⟩ := hB
  rw [ht] at hP hsz1
  have hC : CP dC dI Q A s.heap p21.2 H1 locs := ⟨hP, hD1.weaken (fun _ _ _ h => hFc _ h), hS, hsz1⟩
  generalize H1 = H at hC ⊢
  have h24 : (CS.hs σ) ≤ CS.hs p21.2 := Nat.le_trans h20 mo22
  refine W.widen (k := CS.hs p21.2 - (CS.hs σ)) (n := 17 * (CS.hs p21.2 - (CS.hs σ))) (cAcc2 h20 mo22) (cAcc3 h20 mo22) ?_
  refine lv_aload_n hx hb dX7_forHead_50 rfl (lv_at hl 5 rfl) ?_
  refine lv_bipush (v := 59) hx hb dX7_forHead_51 (by decide) ?_
  obtain ⟨p25, hcp25, hf⟩ := hf_bind hf
  have mo26 : CS.hs p21.2 ≤ CS.hs p25.2 := Mono.go hcp25 (m_X1_found N p21.2 59)
  have hr9 : CS.hs p25.2 ≤ CS.hs R.2 := Mono.go hf (mono_ite (mono_bind (m_X1_condition N E1 E2 hm1 hm2 p25.2) (fun p75 => (mono_bind (m_X0_add N p75.2 31 p13.1) (fun p79 => (m_X7_forHead_76 N E1 E2 hm1 hm2 p79.2 p1.1 p5.1 p9.1 p13.1 p75.1))))) (m_X7_forHead_76 N E1 E2 hm1 hm2 p25.2 p1.1 p5.1 p9.1 p13.1 1))
  have hFc := cFree hC hA
  refine va_calli (va_runU (As := [.int 59]) (rest := []) ⟨hx, hb, hml, hown, hts⟩ (c_X1_found l dC dI Q N p21.2 59 p25 hcp25) (va_cwU 1 hts hX7_forHead_X1_found_u110 rfl rfl rfl rfl (by decide +kernel) ⟨(show 1 + 1 ≤ (15 + 40 * d) by omega), (show 8 + (2 + 11) + 60 * 1 ≤ 60 * (15 + 40 * d) by omega)⟩) ⟨zPre.blind, va_recv hK hC.1 (ci := 6) (q0 := 3) rfl rfl, cPre_go hZ hK hC⟩ rfl rfl hl.1 rfl (lv_room (Nat.le_of_ble_eq_true rfl)) dX7_forHead_53 (cAcc h24 mo26 hr9)) hC.2.2.1 (fun q _ h => hFc q h) hFc (fun r27 u9 t9 H1 locs ht hvm hw hB hz1 hk1 hS => ?_)
  obtain ⟨⟨hP, hK1, hD1⟩, hsz1⟩ := hB
  rw [ht] at hP hsz1
  have hC : CP dC dI Q A s.heap p25.2 H1 locs := ⟨hP, hD1.weaken (fun _ _ _ h => hFc _ h), hS, hsz1⟩
  generalize H1 = H at hC ⊢
  have h28 : (CS.hs σ) ≤ CS.hs p25.2 := Nat.le_trans h24 mo26
  refine W.widen (k := CS.hs p25.2 - (CS.hs σ)) (n := 17 * (CS.hs p25.2 - (CS.hs σ))) (cAcc2 h24 mo26) (cAcc3 h24 mo26) ?_
  obtain rfl : r27 = p25.1 := hw
  refine lv_if_ne (tgt := 76) hx hb dX7_forHead_56 (by decide) (fun c29 => ?_) (fun c29 => ?_)
  ·
    replace hf := (if_neg c29).symm.trans hf
    exact j_X7_forHead_76 l dC dI Q N d E1 E2 hE1 hE2 hm1 hm2 (CS.hs σ) R hx hb hr hml hown hts hlocks hZ hA hK p25.2 p1.1 p5.1 p9.1 p13.1 1 _ _ _ hf h28 hC (lv_sub hl [5, 4, 3, 2, 1, 0] rfl)
  ·
    replace hf := (if_pos c29).symm.trans hf
    refine lv_aload_n hx hb dX7_forHead_59 rfl (lv_at hl 5 rfl) ?_
    obtain ⟨p75, hcp75, hf⟩ := hf_bind hf
    have mo76 : CS.hs p25.2 ≤ CS.hs p75.2 := Mono.go hcp75 (m_X1_condition N E1 E2 hm1 hm2 p25.2)
    have hr9 : CS.hs p75.2 ≤ CS.hs R.2 := Mono.go hf (mono_bind (m_X0_add N p75.2 31 p13.1) (fun p79 => (m_X7_forHead_76 N E1 E2 hm1 hm2 p79.2 p1.1 p5.1 p9.1 p13.1 p75.1)))
    have hFc := cFree hC hA
    refine va_calli (va_runU (As := []) (rest := []) ⟨hx, hb, hml, hown, hts⟩ (c_X1_condition l dC dI Q N d E1 E2 hE1 hE2 hm1 hm2 p25.2 p75 hcp75) (va_cwU 0 hts hX7_forHead_X1_condition_u312 rfl rfl rfl rfl (by decide +kernel) ⟨(show (12 + 40 * d) + 1 ≤ (15 + 40 * d) by omega), (show 8 + (4 + 11) + 60 * (12 + 40 * d) ≤ 60 * (15 + 40 * d) by omega)⟩) ⟨zPre.blind, va_recv hK hC.1 (ci := 6) (q0 := 3) rfl rfl, cPre_go hZ hK hC⟩ rfl rfl hl.1 rfl (lv_room (Nat.le_of_ble_eq_true rfl)) dX7_forHead_60 (cAcc h28 mo76 hr9)) hC.2.2.1 (fun q _ h => hFc q h) hFc (fun r77 u9 t9 H1 locs ht hvm hw hB hz1 hk1 hS => ?_)
    obtain ⟨⟨hP, hK1, hD1⟩, hsz1⟩ := hB
    rw [ht] at hP hsz1
    have hC : CP dC dI Q A s.heap p75.2 H1 locs := ⟨hP, hD1.weaken (fun _ _ _ h => hFc _ h), hS, hsz1⟩
    generalize H1 = H at hC ⊢
    have h78 : (CS.hs σ) ≤ CS.hs p75.2 := Nat.le_trans h28 mo76
    refine W.widen (k := CS.hs p75.2 - (CS.hs σ)) (n := 17 * (CS.hs p75.2 - (CS.hs σ))) (cAcc2 h28 mo76) (cAcc3 h28 mo76) ?_
    obtain rfl : r77 = p75.1 := hw
    refine lv_istore (lv' := [(5, .int p75.1), (4, .int p13.1), (3, .int p9.1), (2, .int p5.1), (1, .int p1.1), (0, .ref (Q.o 3))]) hx hb dX7_forHead_63 hl (by decide) rfl (fun ls hl => ?_)
    refine lv_aload_n hx hb dX7_forHead_65 rfl (lv_at hl 5 rfl) ?_
    refine cG_29 hx hb hts i_X7_forHead_X7 hown hK hC (hts (.fieldLink RX7 20 "StatementRules2$Statements" "code" "LStatementRules2$Code;") k_X7_forHead_fieldLink_RX7_20_SR_Statements_code_LSR_Code) (fun x9 q9 => u_same (hts (.sameField "StatementRules2$Statements" "StatementRules2$Formulas" "code" "LStatementRules2$Code;") k_X7_forHead_sameField_SR_Statements_SR_Formulas_code_LSR_Code) x9 q9) dX7_forHead_66 ?_
    refine lv_bipush (v := 31) hx hb dX7_forHead_69 (by decide) ?_
    refine lv_iload hx hb dX7_forHead_71 (lv_at hl 1 rfl) ?_
    obtain ⟨p79, hcp79, hf⟩ := hf_bind hf
    have mo80 : CS.hs p75.2 ≤ CS.hs p79.2 := Mono.go hcp79 (m_X0_add N p75.2 31 p13.1)
    have hr9 : CS.hs p79.2 ≤ CS.hs R.2 := Mono.go hf (m_X7_forHead_76 N E1 E2 hm1 hm2 p79.2 p1.1 p5.1 p9.1 p13.1 p75.1)
    have hFc := cFree hC hA
    refine va_callv (va_runV (As := [.int 31, .int p13.1]) (rest := []) ⟨hx, hb, hml, hown, hts⟩ (c_X0_add l dC dI Q N p75.2 31 p13.1 p79 hcp79) (cwV 2 hts hX7_forHead_X0_add_v176 rfl rfl rfl (by decide +kernel) ⟨(show 2 + 1 ≤ (15 + 40 * d) by omega), (show 8 + (3 + 11) + 60 * 2 ≤ 60 * (15 + 40 * d) by omega)⟩) ⟨zPre.blind, va_recv hK hC.1 (ci := 0) (q0 := 2) rfl rfl, cPre_go hZ hK hC⟩ rfl rfl hl.1 rfl (lv_room (Nat.le_of_ble_eq_true rfl)) dX7_forHead_73 (cAcc h78 mo80 hr9)) hC.2.2.1 (fun q _ h => hFc q h) hFc (fun u9 t9 H1 locs ht hvm hw hB hz1 hk1 hS => ?_)
    obtain ⟨⟨hP, hK1, hD1⟩, hsz1⟩ := hB
    rw [ht] at hP hsz1
    have hC : CP dC dI Q A s.heap p79.2 H1 locs := ⟨hP, hD1.weaken (fun _ _ _ h => hFc _ h), hS, hsz1⟩
    generalize H1 = H at hC ⊢
    have h82 : (CS.hs σ) ≤ CS.hs p79.2 := Nat.le_trans h78 mo80
    refine W.widen (k := CS.hs p79.2 - (CS.hs σ)) (n := 17 * (CS.hs p79.2 - (CS.hs σ))) (cAcc2 h78 mo80) (cAcc3 h78 mo80) ?_
    exact j_X7_forHead_76 l dC dI Q N d E1 E2 hE1 hE2 hm1 hm2 (CS.hs σ) R hx hb hr hml hown hts hlocks hZ hA hK p79.2 p1.1 p5.1 p9.1 p13.1 p75.1 _ _ _ hf h82 hC (lv_sub hl [5, 4, 3, 2, 1, 0] rfl)
theorem k_X7_beginFor_fieldLink_RX7_29_SR_Statements_names_LSR_Names : Cond.fieldLink RX7 29 "StatementRules2$Statements" "names" "LStatementRules2$Names;" ∈ wzX7_beginFor := List.mem_cons_of_mem _ (List.mem_append_right _ (List.mem_append_right _ (List.mem_append_right _ (List.mem_append_right _ (List.mem_append_right _ (List.mem_append_right _ (List.mem_append_right _ (List.mem_append_right _ (List.mem_append_right _ (List.mem_append_right _ (List.mem_append_right _ (List.mem_append_right _ (List.mem_append_left _ (List.mem_of_getElem? (i := 0) rfl))))))))))))))
theorem k_X7_beginFor_sameField_SR_Statements_SR_Formulas_names_LSR_Names : Cond.sameField "StatementRules2$Statements" "StatementRules2$Formulas" "names" "LStatementRules2$Names;" ∈ wzX7_beginFor := List.mem_cons_of_mem _ (List.mem_append_right _ (List.mem_append_right _ (List.mem_append_right _ (List.mem_append_right _ (List.mem_append_right _ (List.mem_append_right _ (List.mem_append_right _ (List.mem_append_right _ (List.mem_append_right _ (List.mem_append_right _ (List.mem_append_right _ (List.mem_append_right _ (List.mem_append_left _ (List.mem_of_getElem? (i := 1) rfl))))))))))))))
theorem i_X7_beginFor_X7 : ∀ w ∈ wsX70, w ∈ wzX7_beginFor := fun _ h => List.mem_cons_of_mem _ (List.mem_append_right _ (List.mem_append_right _ (List.mem_append_right _ (List.mem_append_right _ (List.mem_append_right _ (List.mem_append_right _ (List.mem_append_right _ (List.mem_append_right _ (List.mem_append_right _ (List.mem_append_right _ (List.mem_append_right _ (List.mem_append_right _ (List.mem_append_right _ (List.mem_append_right _ (List.mem_append_right _ (List.mem_append_right _ (List.mem_append_right _ (List.mem_append_right _ (List.mem_append_right _ (List.mem_append_right _ (List.mem_append_right _ (List.mem_append_right _ (List.mem_append_right _ (List.mem_append_right _ (List.mem_append_right _ (List.mem_append_right _ (List.mem_append_right _ (List.mem_append_right _ (List.mem_append_right _ (List.mem_append_right _ (List.mem_append_right _ (List.mem_append_right _ (List.mem_append_right _ (List.mem_append_right _ (List.mem_append_right _ (List.mem_append_right _ (List.mem_append_left _ (h))))))))))))))))))))))))))))))))))))))
theorem i_X7_beginFor_X4 : ∀ w ∈ wsX40, w ∈ wzX7_beginFor := fun _ h => List.mem_cons_of_mem _ (List.mem_append_right _ (List.mem_append_right _ (List.mem_append_right _ (List.mem_append_right _ (List.mem_append_right _ (List.mem_append_right _ (List.mem_append_right _ (List.mem_append_right _ (List.mem_append_right _ (List.mem_append_right _ (List.mem_append_right _ (List.mem_append_right _ (List.mem_append_right _ (List.mem_append_right _ (List.mem_append_right _ (List.mem_append_right _ (List.mem_append_right _ (List.mem_append_right _ (List.mem_append_right _ (List.mem_append_right _ (List.mem_append_right _ (List.mem_append_right _ (List.mem_append_right _ (List.mem_append_right _ (List.mem_append_right _ (List.mem_append_right _ (List.mem_append_right _ (List.mem_append_right _ (List.mem_append_right _ (List.mem_append_right _ (List.mem_append_right _ (List.mem_append_right _ (List.mem_append_right _ (List.mem_append_right _ (List.mem_append_right _ (List.mem_append_right _ (List.mem_append_right _ (List.mem_append_right _ (List.mem_append_right _ (List.mem_append_right _ (List.mem_append_left _ (h))))))))))))))))))))))))))))))))))))))))))
theorem k_X7_beginFor_fieldLink_RX7_71_SR_Statements_tokens_LSR_Tokens : Cond.fieldLink RX7 71 "StatementRules2$Statements" "tokens" "LStatementRules2$Tokens;" ∈ wzX7_beginFor := List.mem_cons_of_mem _ (List.mem_append_right _ (List.mem_append_right _ (List.mem_append_right _ (List.mem_append_right _ (List.mem_append_right _ (List.mem_append_right _ (List.mem_append_right _ (List.mem_append_right _ (List.mem_append_right _ (List.mem_append_right _ (List.mem_append_right _ (List.mem_append_right _ (List.mem_append_left _ (List.mem_of_getElem? (i := 2) rfl))))))))))))))
theorem k_X7_beginFor_sameField_SR_Statements_SR_Formulas_tokens_LSR_Tokens : Cond.sameField "StatementRules2$Statements" "StatementRules2$Formulas" "tokens" "LStatementRules2$Tokens;" ∈ wzX7_beginFor := List.mem_cons_of_mem _ (List.mem_append_right _ (List.mem_append_right _ (List.mem_append_right _ (List.mem_append_right _ (List.mem_append_right _ (List.mem_append_right _ (List.mem_append_right _ (List.mem_append_right _ (List.mem_append_right _ (List.mem_append_right _ (List.mem_append_right _ (List.mem_append_right _ (List.mem_append_left _ (List.mem_of_getElem? (i := 3) rfl))))))))))))))
theorem i_X7_beginFor_X5 : ∀ w ∈ wsX50, w ∈ wzX7_beginFor := fun _ h => List.mem_cons_of_mem _ (List.mem_append_right _ (List.mem_append_right _ (List.mem_append_right _ (List.mem_append_right _ (List.mem_append_right _ (List.mem_append_right _ (List.mem_append_right _ (List.mem_append_right _ (List.mem_append_right _ (List.mem_append_right _ (List.mem_append_right _ (List.mem_append_right _ (List.mem_append_right _ (List.mem_append_right _ (List.mem_append_right _ (List.mem_append_right _ (List.mem_append_right _ (List.mem_append_right _ (List.mem_append_right _ (List.mem_append_right _ (List.mem_append_right _ (List.mem_append_right _ (List.mem_append_right _ (List.mem_append_right _ (List.mem_append_right _ (List.mem_append_right _ (List.mem_append_right _ (List.mem_append_right _ (List.mem_append_right _ (List.mem_append_right _ (List.mem_append_right _ (List.mem_append_right _ (List.mem_append_right _ (List.mem_append_right _ (List.mem_append_right _ (List.mem_append_right _ (List.mem_append_right _ (List.mem_append_right _ (List.mem_append_right _ (List.mem_append_right _ (List.mem_append_right _ (List.mem_append_left _ (h)))))))))))))))))))))))))))))))))))))))))))
set_option maxHeartbeats 4000000 in
set_option maxRecDepth 100000 in
theorem j_X7_beginFor_85 {p : Program} {e : Env} {s : State} {m : MethodId} {args : Array Value} {below : List Frame} {meth : Method} {c : Code} {A : Nat → Prop} (l : Launch) (dC : Nat → ClassId) (dI : Nat → Nat → Nat) (Q : CQ) (N : Nat) (d : Nat) (E1 : CS → Option (Unit × CS)) (E2 : CS → Option (Int32 × CS)) (hE1 : cMF l dC dI Q d E1) (hE2 : cMO l dC dI Q d E2) (hm1 : ∀ σ, Mono (CS.hs σ) (E1 σ)) (hm2 : ∀ σ, Mono (CS.hs σ) (E2 σ)) (z9h : Nat) (R : Unit × CS) (hx : p.tables.exec = Jvm.exec) (hb : c.code = cX7_beginFor) (hr : meth.sig.returnType = none) (hml : c.maxLocals = 5) (hown : s.vm.findClass RX7 = some m.cls) (hts : ∀ w ∈ wzX7_beginFor, w.before args s = true) (hlocks : meth.locks = false) (hZ : zAMB s) (hA : ∀ q : Nat, s.heap.size ≤ q → A q) (hK : va_K (dC, dI) vwCl (cT Q) s) : ∀ (σ : CS) (x1 : Int32) (x2 : Option Nat) (H : Heap) (locs : List Loc) (ls : Array Slot), f_X7_beginFor_85 N E1 E2 σ x1 x2 = some R → z9h ≤ CS.hs σ → CP dC dI Q A s.heap σ H locs → lv_has ls 5 [(1, .int x1), (2, va_rf x2)] → W p l e ({ frames := (16 + 40 * d), cells := CS.hs R.2 - z9h, slots := 17 * (CS.hs R.2 - z9h), locals := 60 * (16 + 40 * d) }) s m args below meth c H locs (CS.hs σ - z9h) (17 * (CS.hs σ - z9h)) (MQ below (va_Qv (fun (_ : Unit) => True) (fun (_ : Unit) (t : State) => zPost dC dI A (cW Q R.2) (cT Q) t ∧ t.heap.size = CS.hs R.2) A) args s (CS.hs R.2 - z9h) (17 * (CS.hs R.2 - z9h)) A) (F0 m 85 ls []) := by
  intro σ x1 x2 H locs ls hf h0 hC hl
  unfold f_X7_beginFor_85 at hf
  rcases hf_oc hf with ⟨q25, hf⟩ | ⟨a26, q25, hf⟩
  ·
    subst q25
    have hl : lv_has ls 5 [(1, .int x1), (2, .null)] := hl
    refine lv_aload_nN hx hb dX7_beginFor_85 rfl (lv_at hl 1 rfl) ?_
    refine lv_iload_n hx hb dX7_beginFor_86 rfl (lv_at hl 0 rfl) ?_
    cases hf
  ·
    subst q25
    have hl : lv_has ls 5 [(1, .int x1), (2, .ref a26)] := hl
    refine lv_aload_n hx hb dX7_beginFor_85 rfl (lv_at hl 1 rfl) ?_
    refine lv_iload_n hx hb dX7_beginFor_86 rfl (lv_at hl 0 rfl) ?_
    obtain ⟨b27, hf⟩ := hf_ite hf
    refine pPN_X5_3 (v := x1) hx hb hts i_X7_beginFor_X5 hown hK hC (va_Nw.use rfl (hZ.1 (.fieldLinkNest RX7 338 "StatementRules2$Open" "namesBefore" "I" "StatementRules2") (by decide +kernel))) (fun _ q9 => q9) dX7_beginFor_87 b27 (fun H locs hC => ?_)
    obtain rfl := Option.some.inj hf
    exact W.vret hx hb hr (fun t ht hW => ⟨⟨(), rfl, trivial, ⟨by rw [ht]; exact hC.1, va_K.moved hW.alike hK, hC.2.1⟩, by rw [ht]; exact hC.2.2.2⟩, hC.2.2.1.F ht⟩) hC.2.2.1.2.2 dX7_beginFor_90
set_option maxHeartbeats 4000000 in
set_option maxRecDepth 100000 in
theorem j_X7_beginFor_80 {p : Program} {e : Env} {s : State} {m : MethodId} {args : Array Value} {below : List Frame} {meth : Method} {c : Code} {A : Nat → Prop} (l : Launch) (dC : Nat → ClassId) (dI : Nat → Nat → Nat) (Q : CQ) (N : Nat) (d : Nat) (E1 : CS → Option (Unit × CS)) (E2 : CS → Option (Int32 × CS)) (hE1 : cMF l dC dI Q d E1) (hE2 : cMO l dC dI Q d E2) (hm1 : ∀ σ, Mono (CS.hs σ) (E1 σ)) (hm2 : ∀ σ, Mono (CS.hs σ) (E2 σ)) (z9h : Nat) (R : Unit × CS) (hx : p.tables.exec = Jvm.exec) (hb : c.code = cX7_beginFor) (hr : meth.sig.returnType = none) (hml : c.maxLocals = 5) (hown : s.vm.findClass RX7 = some m.cls) (hts : ∀ w ∈ wzX7_beginFor, w.before args s = true) (hlocks : meth.locks = false) (hZ : zAMB s) (hA : ∀ q : Nat, s.heap.size ≤ q → A q) (hK : va_K (dC, dI) vwCl (cT Q) s) : ∀ (σ : CS) (x1 : Int32) (H : Heap) (locs : List Loc) (ls : Array Slot), f_X7_beginFor_80 N E1 E2 σ x1 = some R → z9h ≤ CS.hs σ → CP dC dI Q A s.heap σ H locs → lv_has ls 5 [(0, .ref (Q.o 3)), (1, .int x1)] → W p l e ({ frames := (16 + 40 * d), cells := CS.hs R.2 - z9h, slots := 17 * (CS.hs R.2 - z9h), locals := 60 * (16 + 40 * d) }) s m args below meth c H locs (CS.hs σ - z9h) (17 * (CS.hs σ - z9h)) (MQ below (va_Qv (fun (_ : Unit) => True) (fun (_ : Unit) (t : State) => zPost dC dI A (cW Q R.2) (cT Q) t ∧ t.heap.size = CS.hs R.2) A) args s (CS.hs R.2 - z9h) (17 * (CS.hs R.2 - z9h)) A) (F0 m 80 ls []) := by
  intro σ x1 H locs ls hf h0 hC hl
  unfold f_X7_beginFor_80 at hf
  refine lv_aload_n hx hb dX7_beginFor_80 rfl (lv_at hl 0 rfl) ?_
  obtain ⟨p19, hcp19, hf⟩ := hf_bind hf
  have mo20 : CS.hs σ ≤ CS.hs p19.2 := Mono.go hcp19 (m_X7_forHead N E1 E2 hm1 hm2 σ)
  have hr9 : CS.hs p19.2 ≤ CS.hs R.2 := Mono.go hf (mono_oc (m_X7_beginFor_85 N E1 E2 hm1 hm2 p19.2 x1 none) (fun a24 => (m_X7_beginFor_85 N E1 E2 hm1 hm2 p19.2 x1 (some a24))))
  have hFc := cFree hC hA
  refine va_callq (va_runV (As := []) (rest := []) ⟨hx, hb, hml, hown, hts⟩ (c_X7_forHead l dC dI Q N d E1 E2 hE1 hE2 hm1 hm2 σ p19 hcp19) (cwV 0 hts hX7_beginFor_X7_forHead_v331 rfl rfl rfl (by decide +kernel) ⟨(show (15 + 40 * d) + 1 ≤ (16 + 40 * d) by omega), (show 8 + (7 + 11) + 60 * (15 + 40 * d) ≤ 60 * (16 + 40 * d) by omega)⟩) ⟨zPre.blind, va_recv hK hC.1 (ci := 6) (q0 := 3) rfl rfl, cPre_go hZ hK hC⟩ rfl rfl hl.1 rfl (lv_room (Nat.le_of_ble_eq_true rfl)) dX7_beginFor_81 (cAcc h0 mo20 hr9)) hC.2.2.1 (fun q _ h => hFc q h) hFc (fun r21 u9 t9 H1 locs ht hvm hw hB hz1 hk1 hS => ?_)
  obtain ⟨⟨hP, hK1, hD1⟩, hsz1⟩ := hB
  rw [ht] at hP hsz1
  have hC : CP dC dI Q A s.heap p19.2 H1 locs := ⟨hP, hD1.weaken (fun _ _ _ h => hFc _ h), hS, hsz1⟩
  generalize H1 = H at hC ⊢
  have h22 : z9h ≤ CS.hs p19.2 := Nat.le_trans h0 mo20
  refine W.widen (k := CS.hs p19.2 - z9h) (n := 17 * (CS.hs p19.2 - z9h)) (cAcc2 h0 mo20) (cAcc3 h0 mo20) ?_
  obtain rfl : r21 = p19.1 := hw
  rcases hf_oc hf with ⟨q23, hf⟩ | ⟨a24, q23, hf⟩
  ·
    refine W.eq (congrArg (fun v9 => F0 m 84 ls (va_rf v9 :: [])) q23) ?_
    refine W.eq (g2 := F0 m 84 ls (.null :: [])) rfl ?_
    refine lv_astore_nN (lv' := [(2, .null), (0, .ref (Q.o 3)), (1, .int x1)]) hx hb dX7_beginFor_84 rfl hl (by decide) rfl (fun ls hl => ?_)
    exact j_X7_beginFor_85 l dC dI Q N d E1 E2 hE1 hE2 hm1 hm2 z9h R hx hb hr hml hown hts hlocks hZ hA hK p19.2 x1 none _ _ _ hf h22 hC (lv_sub hl [2, 0] rfl)
  ·
    refine W.eq (congrArg (fun v9 => F0 m 84 ls (va_rf v9 :: [])) q23) ?_
    refine W.eq (g2 := F0 m 84 ls (.ref a24 :: [])) rfl ?_
    refine lv_astore_n (lv' := [(2, .ref a24), (0, .ref (Q.o 3)), (1, .int x1)]) hx hb dX7_beginFor_84 rfl hl (by decide) rfl (fun ls hl => ?_)
    exact j_X7_beginFor_85 l dC dI Q N d E1 E2 hE1 hE2 hm1 hm2 z9h R hx hb hr hml hown hts hlocks hZ hA hK p19.2 x1 (some a24) _ _ _ hf h22 hC (lv_sub hl [2, 0] rfl)
set_option maxHeartbeats 4000000 in
set_option maxRecDepth 100000 in
theorem j_X7_beginFor_64 {p : Program} {e : Env} {s : State} {m : MethodId} {args : Array Value} {below : List Frame} {meth : Method} {c : Code} {A : Nat → Prop} (l : Launch) (dC : Nat → ClassId) (dI : Nat → Nat → Nat) (Q : CQ) (N : Nat) (d : Nat) (E1 : CS → Option (Unit × CS)) (E2 : CS → Option (Int32 × CS)) (hE1 : cMF l dC dI Q d E1) (hE2 : cMO l dC dI Q d E2) (hm1 : ∀ σ, Mono (CS.hs σ) (E1 σ)) (hm2 : ∀ σ, Mono (CS.hs σ) (E2 σ)) (z9h : Nat) (R : Unit × CS) (hx : p.tables.exec = Jvm.exec) (hb : c.code = cX7_beginFor) (hr : meth.sig.returnType = none) (hml : c.maxLocals = 5) (hown : s.vm.findClass RX7 = some m.cls) (hts : ∀ w ∈ wzX7_beginFor, w.before args s = true) (hlocks : meth.locks = false) (hZ : zAMB s) (hA : ∀ q : Nat, s.heap.size ≤ q → A q) (hK : va_K (dC, dI) vwCl (cT Q) s) : ∀ (σ : CS) (x1 : Int32) (x2 : Option Nat) (H : Heap) (locs : List Loc) (ls : Array Slot), f_X7_beginFor_64 N E1 E2 σ x1 x2 = some R → z9h ≤ CS.hs σ → CP dC dI Q A s.heap σ H locs → lv_has ls 5 [(1, .int x1), (2, va_rf x2)] → W p l e ({ frames := (16 + 40 * d), cells := CS.hs R.2 - z9h, slots := 17 * (CS.hs R.2 - z9h), locals := 60 * (16 + 40 * d) }) s m args below meth c H locs (CS.hs σ - z9h) (17 * (CS.hs σ - z9h)) (MQ below (va_Qv (fun (_ : Unit) => True) (fun (_ : Unit) (t : State) => zPost dC dI A (cW Q R.2) (cT Q) t ∧ t.heap.size = CS.hs R.2) A) args s (CS.hs R.2 - z9h) (17 * (CS.hs R.2 - z9h)) A) (F0 m 64 ls []) := by
  intro σ x1 x2 H locs ls hf h0 hC hl
  unfold f_X7_beginFor_64 at hf
  refine lv_goto (tgt := 85) hx hb dX7_beginFor_64 (by decide) ?_
  exact j_X7_beginFor_85 l dC dI Q N d E1 E2 hE1 hE2 hm1 hm2 z9h R hx hb hr hml hown hts hlocks hZ hA hK σ x1 x2 _ _ _ hf h0 hC (lv_sub hl [0, 1] rfl)
set_option maxHeartbeats 4000000 in
set_option maxRecDepth 100000 in
theorem c_X7_beginFor (l : Launch) (dC : Nat → ClassId) (dI : Nat → Nat → Nat) (Q : CQ) (N : Nat) (d : Nat) (E1 : CS → Option (Unit × CS)) (E2 : CS → Option (Int32 × CS)) (hE1 : cMF l dC dI Q d E1) (hE2 : cMO l dC dI Q d E2) (hm1 : ∀ σ, Mono (CS.hs σ) (E1 σ)) (hm2 : ∀ σ, Mono (CS.hs σ) (E2 σ)) (σ : CS) (R : Unit × CS) (hf : f_X7_beginFor N E1 E2 σ = some R) : Met l yX7_beginFor wzX7_beginFor ({ frames := (16 + 40 * d), cells := CS.hs R.2 - CS.hs σ, slots := 17 * (CS.hs R.2 - CS.hs σ), locals := 60 * (16 + 40 * d) }) (va_Pc [.ref (Q.o 3)] (zPre dC dI (CS.hs σ) (cW Q σ) (cT Q))) (va_Qv (fun (_ : Unit) => True) (fun (_ : Unit) (t : State) => zPost dC dI (va_A (cW Q σ) (CS.hs σ)) (cW Q R.2) (cT Q) t ∧ t.heap.size = CS.hs R.2) (va_A (cW Q σ) (CS.hs σ))) (CS.hs R.2 - CS.hs σ) (17 * (CS.hs R.2 - CS.hs σ)) (va_A (cW Q σ) (CS.hs σ)) := by
  refine Met.ofW (cc := cX7_beginFor) (maxL := 5) (ret := none) (by decide) rfl ?_
  intro p e s m args below meth c s₁ B hml hv
  obtain ⟨rfl, hsz, hZ, hP, hK, hD0⟩ := hv
  have hx := B.exec
  have hb := B.bytes
  have hr := B.returns
  have hts := atoms_spec (ws := wzX7_beginFor) B.pre
  have hown : s.vm.findClass RX7 = some m.cls := findClass_of_methodNamed B.named
  have hlocks := B.notSynchronized
  have hD := hD0.self (sz := CS.hs σ)
  generalize hAe : va_A (cW Q σ) (CS.hs σ) = A at hD ⊢
  have hA : ∀ q : Nat, s.heap.size ≤ q → A q := fun q h => by rw [← hAe]; exact Or.inr (hsz ▸ h)
  have hC : CP dC dI Q A s.heap σ s.heap [] := ⟨hP, hD, va_S.rf, hsz⟩
  have h0 : CS.hs σ ≤ CS.hs σ := Nat.le_refl _
  have hl := lv_entry ([.ref (Q.o 3)]) (n := 5) (Nat.le_of_ble_eq_true rfl)
  rw [lg_entry_eq]
  generalize (lg_sl ([.ref (Q.o 3)]) ++ List.replicate (5 - (lg_sl ([.ref (Q.o 3)])).length) Slot.unset).toArray = ls at hl ⊢
  have hl : lv_has ls 5 [(0, .ref (Q.o 3))] := hl
  unfold f_X7_beginFor at hf
  refine W.widen (k := CS.hs σ - CS.hs σ) (n := 17 * (CS.hs σ - CS.hs σ)) (Nat.zero_le _) (Nat.zero_le _) ?_
  refine lv_aload_n hx hb dX7_beginFor_0 rfl (lv_at hl 0 rfl) ?_
  refine cG_31 hx hb hts i_X7_beginFor_X7 hown hK hC (hts (.fieldLink RX7 29 "StatementRules2$Statements" "names" "LStatementRules2$Names;") k_X7_beginFor_fieldLink_RX7_29_SR_Statements_names_LSR_Names) (fun x9 q9 => u_same (hts (.sameField "StatementRules2$Statements" "StatementRules2$Formulas" "names" "LStatementRules2$Names;") k_X7_beginFor_sameField_SR_Statements_SR_Formulas_names_LSR_Names) x9 q9) dX7_beginFor_1 ?_
  refine cGN_50 (v := (σ.i 50)) hx hb hts i_X7_beginFor_X4 hown hK hC (va_Nw.use rfl (hZ.1 (.fieldLinkNest RX7 33 "StatementRules2$Names" "count" "I" "StatementRules2") (by decide +kernel))) (fun _ q9 => q9) dX7_beginFor_4 rfl ?_
  refine lv_istore_n (lv' := [(1, .int (σ.i 50)), (0, .ref (Q.o 3))]) hx hb dX7_beginFor_7 rfl hl (by decide) rfl (fun ls hl => ?_)
  refine lv_aload_n hx hb dX7_beginFor_8 rfl (lv_at hl 1 rfl) ?_
  refine cG_28 hx hb hts i_X7_beginFor_X7 hown hK hC (hts (.fieldLink RX7 71 "StatementRules2$Statements" "tokens" "LStatementRules2$Tokens;") k_X7_beginFor_fieldLink_RX7_71_SR_Statements_tokens_LSR_Tokens) (fun x9 q9 => u_same (hts (.sameField "StatementRules2$Statements" "StatementRules2$Formulas" "tokens" "LStatementRules2$Tokens;") k_X7_beginFor_sameField_SR_Statements_SR_Formulas_tokens_LSR_Tokens) x9 q9) dX7_beginFor_9 ?_
  obtain ⟨p1, hcp1, hf⟩ := hf_bind hf
  have mo2 : CS.hs σ ≤ CS.hs p1.2 := Mono.go hcp1 (m_X9_advance N σ)
  have hr9 : CS.hs p1.2 ≤ CS.hs R.2 := Mono.go hf (mono_bind (m_X1_open N p1.2 40) (fun p5 => (mono_bind (m_X1_skip N p5.2 200) (fun p9 => (mono_ite (mono_bind (m_X1_found N p9.2 2) (fun p14 => (mono_ite (m_X7_beginFor_80 N E1 E2 hm1 hm2 p14.2 (σ.i 50)) (mono_bind (m_X7_changeHere N E1 E2 hm1 hm2 p14.2 0) (fun p28 => (m_X7_beginFor_80 N E1 E2 hm1 hm2 p28.2 (σ.i 50))))))) (mono_bind (m_X7_newName N p9.2) (fun p32 => (mono_bind (m_X1_found N p32.2 58) (fun p36 => (mono_ite (mono_bind (m_X7_define N E1 E2 hm1 hm2 p36.2 p32.1) (fun p41 => (mono_bind (m_X7_forHead N E1 E2 hm1 hm2 p41.2) (fun p45 => (mono_oc (m_X7_beginFor_64 N E1 E2 hm1 hm2 p45.2 (σ.i 50) none) (fun a50 => (m_X7_beginFor_64 N E1 E2 hm1 hm2 p45.2 (σ.i 50) (some a50)))))))) (mono_bind (m_X7_rowHead N E1 E2 hm1 hm2 p36.2 p32.1) (fun p51 => (mono_oc (m_X7_beginFor_64 N E1 E2 hm1 hm2 p51.2 (σ.i 50) none) (fun a56 => (m_X7_beginFor_64 N E1 E2 hm1 hm2 p51.2 (σ.i 50) (some a56))))))))))))))))
  have hFc := cFree hC hA
  refine va_callv (va_runV (As := []) (rest := []) ⟨hx, hb, hml, hown, hts⟩ (c_X9_advance l dC dI Q N σ p1 hcp1) (cwV 0 hts hX7_beginFor_X9_advance_v146 rfl rfl rfl (by decide +kernel) ⟨(show 3 + 1 ≤ (16 + 40 * d) by omega), (show 8 + (2 + 11) + 60 * 3 ≤ 60 * (16 + 40 * d) by omega)⟩) ⟨zPre.blind, va_recv hK hC.1 (ci := 8) (q0 := 4) rfl rfl, cPre_go hZ hK hC⟩ rfl rfl hl.1 rfl (lv_room (Nat.le_of_ble_eq_true rfl)) dX7_beginFor_12 (cAcc h0 mo2 hr9)) hC.2.2.1 (fun q _ h => hFc q h) hFc (fun u9 t9 H1 locs ht hvm hw hB hz1 hk1 hS => ?_)
  obtain ⟨⟨hP, hK1, hD1⟩, hsz1⟩ := hB
  rw [ht] at hP hsz1
  have hC : CP dC dI Q A s.heap p1.2 H1 locs := ⟨hP, hD1.weaken (fun _ _ _ h => hFc _ h), hS, hsz1⟩
  generalize H1 = H at hC ⊢
  have h4 : (CS.hs σ) ≤ CS.hs p1.2 := Nat.le_trans h0 mo2
  refine W.widen (k := CS.hs p1.2 - (CS.hs σ)) (n := 17 * (CS.hs p1.2 - (CS.hs σ))) (cAcc2 h0 mo2) (cAcc3 h0 mo2) ?_
  refine lv_aload_n hx hb dX7_beginFor_15 rfl (lv_at hl 1 rfl) ?_
  refine lv_bipush (v := 40) hx hb dX7_beginFor_16 (by decide) ?_
  obtain ⟨p5, hcp5, hf⟩ := hf_bind hf
  have mo6 : CS.hs p1.2 ≤ CS.hs p5.2 := Mono.go hcp5 (m_X1_open N p1.2 40)
  have hr9 : CS.hs p5.2 ≤ CS.hs R.2 := Mono.go hf (mono_bind (m_X1_skip N p5.2 200) (fun p9 => (mono_ite (mono_bind (m_X1_found N p9.2 2) (fun p14 => (mono_ite (m_X7_beginFor_80 N E1 E2 hm1 hm2 p14.2 (σ.i 50)) (mono_bind (m_X7_changeHere N E1 E2 hm1 hm2 p14.2 0) (fun p28 => (m_X7_beginFor_80 N E1 E2 hm1 hm2 p28.2 (σ.i 50))))))) (mono_bind (m_X7_newName N p9.2) (fun p32 => (mono_bind (m_X1_found N p32.2 58) (fun p36 => (mono_ite (mono_bind (m_X7_define N E1 E2 hm1 hm2 p36.2 p32.1) (fun p41 => (mono_bind (m_X7_forHead N E1 E2 hm1 hm2 p41.2) (fun p45 => (mono_oc (m_X7_beginFor_64 N E1 E2 hm1 hm2 p45.2 (σ.i 50) none) (fun a50 => (m_X7_beginFor_64 N E1 E2 hm1 hm2 p45.2 (σ.i 50) (some a50)))))))) (mono_bind (m_X7_rowHead N E1 E2 hm1 hm2 p36.2 p32.1) (fun p51 => (mono_oc (m_X7_beginFor_64 N E1 E2 hm1 hm2 p51.2 (σ.i 50) none) (fun a56 => (m_X7_beginFor_64 N E1 E2 hm1 hm2 p51.2 (σ.i 50) (some a56))))))))))))))
  have hFc := cFree hC hA
  refine va_callv (va_runU (As := [.int 40]) (rest := []) ⟨hx, hb, hml, hown, hts⟩ (c_X1_open l dC dI Q N p1.2 40 p5 hcp5) (va_cwU 1 hts hX7_beginFor_X1_open_u173 rfl rfl rfl rfl (by decide +kernel) ⟨(show 4 + 1 ≤ (16 + 40 * d) by omega), (show 8 + (2 + 11) + 60 * 4 ≤ 60 * (16 + 40 * d) by omega)⟩) ⟨zPre.blind, va_recv hK hC.1 (ci := 6) (q0 := 3) rfl rfl, cPre_go hZ hK hC⟩ rfl rfl hl.1 rfl (lv_room (Nat.le_of_ble_eq_true rfl)) dX7_beginFor_18 (cAcc h4 mo6 hr9)) hC.2.2.1 (fun q _ h => hFc q h) hFc (fun u9 t9 H1 locs ht hvm hw hB hz1 hk1 hS => ?_)
  obtain ⟨⟨hP, hK1, hD1⟩, hsz1⟩ := hB
  rw [ht] at hP hsz1
  have hC : CP dC dI Q A s.heap p5.2 H1 locs := ⟨hP, hD1.weaken (fun _ _ _ h => hFc _ h), hS, hsz1⟩
  generalize H1 = H at hC ⊢
  have h8 : (CS.hs σ) ≤ CS.hs p5.2 := Nat.le_trans h4 mo6
  refine W.widen (k := CS.hs p5.2 - (CS.hs σ)) (n := 17 * (CS.hs p5.2 - (CS.hs σ))) (cAcc2 h4 mo6) (cAcc3 h4 mo6) ?_
  refine lv_aload_n hx hb dX7_beginFor_21 rfl (lv_at hl 1 rfl) ?_
  refine lv_sipush (v := 200) hx hb dX7_beginFor_22 (by decide) ?_
  obtain ⟨p9, hcp9, hf⟩ := hf_bind hf
  have mo10 : CS.hs p5.2 ≤ CS.hs p9.2 := Mono.go hcp9 (m_X1_skip N p5.2 200)
  have hr9 : CS.hs p9.2 ≤ CS.hs R.2 := Mono.go hf (mono_ite (mono_bind (m_X1_found N p9.2 2) (fun p14 => (mono_ite (m_X7_beginFor_80 N E1 E2 hm1 hm2 p14.2 (σ.i 50)) (mono_bind (m_X7_changeHere N E1 E2 hm1 hm2 p14.2 0) (fun p28 => (m_X7_beginFor_80 N E1 E2 hm1 hm2 p28.2 (σ.i 50))))))) (mono_bind (m_X7_newName N p9.2) (fun p32 => (mono_bind (m_X1_found N p32.2 58) (fun p36 => (mono_ite (mono_bind (m_X7_define N E1 E2 hm1 hm2 p36.2 p32.1) (fun p41 => (mono_bind (m_X7_forHead N E1 E2 hm1 hm2 p41.2) (fun p45 => (mono_oc (m_X7_beginFor_64 N E1 E2 hm1 hm2 p45.2 (σ.i 50) none) (fun a50 => (m_X7_beginFor_64 N E1 E2 hm1 hm2 p45.2 (σ.i 50) (some a50)))))))) (mono_bind (m_X7_rowHead N E1 E2 hm1 hm2 p36.2 p32.1) (fun p51 => (mono_oc (m_X7_beginFor_64 N E1 E2 hm1 hm2 p51.2 (σ.i 50) none) (fun a56 => (m_X7_beginFor_64 N E1 E2 hm1 hm2 p51.2 (σ.i 50) (some a56))))))))))))
  have hFc := cFree hC hA
  refine va_calli (va_runU (As := [.int 200]) (rest := []) ⟨hx, hb, hml, hown, hts⟩ (c_X1_skip l dC dI Q N p5.2 200 p9 hcp9) (va_cwU 1 hts hX7_beginFor_X1_skip_u205 rfl rfl rfl rfl (by decide +kernel) ⟨(show 4 + 1 ≤ (16 + 40 * d) by omega), (show 8 + (3 + 11) + 60 * 4 ≤ 60 * (16 + 40 * d) by omega)⟩) ⟨zPre.blind, va_recv hK hC.1 (ci := 6) (q0 := 3) rfl rfl, cPre_go hZ hK hC⟩ rfl rfl hl.1 rfl (lv_room (Nat.le_of_ble_eq_true rfl)) dX7_beginFor_25 (cAcc h8 mo10 hr9)) hC.2.2.1 (fun q _ h => hFc q h) hFc (fun r11 u9 t9 H1 locs ht hvm hw hB hz1 hk1 hS => ?_)
  obtain ⟨⟨hP, hK1, hD1⟩, hsz1⟩ := hB
  rw [ht] at hP hsz1
  have hC : CP dC dI Q A s.heap p9.2 H1 locs := ⟨hP, hD1.weaken (fun _ _ _ h => hFc _ h), hS, hsz1⟩
  generalize H1 = H at hC ⊢
  have h12 : (CS.hs σ) ≤ CS.hs p9.2 := Nat.le_trans h8 mo10
  refine W.widen (k := CS.hs p9.2 - (CS.hs σ)) (n := 17 * (CS.hs p9.2 - (CS.hs σ))) (cAcc2 h8 mo10) (cAcc3 h8 mo10) ?_
  obtain rfl : r11 = p9.1 := hw
  refine lv_if_eq (tgt := 67) hx hb dX7_beginFor_28 (by decide) (fun c13 => ?_) (fun c13 => ?_)
  ·
    replace hf := (if_pos c13).symm.trans hf
    refine lv_aload_n hx hb dX7_beginFor_67 rfl (lv_at hl 1 rfl) ?_
    refine lv_iconst (v := 2) hx hb dX7_beginFor_68 (by decide) ?_
    obtain ⟨p14, hcp14, hf⟩ := hf_bind hf
    have mo15 : CS.hs p9.2 ≤ CS.hs p14.2 := Mono.go hcp14 (m_X1_found N p9.2 2)
    have hr9 : CS.hs p14.2 ≤ CS.hs R.2 := Mono.go hf (mono_ite (m_X7_beginFor_80 N E1 E2 hm1 hm2 p14.2 (σ.i 50)) (mono_bind (m_X7_changeHere N E1 E2 hm1 hm2 p14.2 0) (fun p28 => (m_X7_beginFor_80 N E1 E2 hm1 hm2 p28.2 (σ.i 50)))))
    have hFc := cFree hC hA
    refine va_calli (va_runU (As := [.int 2]) (rest := []) ⟨hx, hb, hml, hown, hts⟩ (c_X1_found l dC dI Q N p9.2 2 p14 hcp14) (va_cwU 1 hts hX7_beginFor_X1_found_u110 rfl rfl rfl rfl (by decide +kernel) ⟨(show 1 + 1 ≤ (16 + 40 * d) by omega), (show 8 + (2 + 11) + 60 * 1 ≤ 60 * (16 + 40 * d) by omega)⟩) ⟨zPre.blind, va_recv hK hC.1 (ci := 6) (q0 := 3) rfl rfl, cPre_go hZ hK hC⟩ rfl rfl hl.1 rfl (lv_room (Nat.le_of_ble_eq_true rfl)) dX7_beginFor_69 (cAcc h12 mo15 hr9)) hC.2.2.1 (fun q _ h => hFc q h) hFc (fun r16 u9 t9 H1 locs ht hvm hw hB hz1 hk1 hS => ?_)
    obtain ⟨⟨hP, hK1, hD1⟩, hsz1⟩ := hB
    rw [ht] at hP hsz1
    have hC : CP dC dI Q A s.heap p14.2 H1 locs := ⟨hP, hD1.weaken (fun _ _ _ h => hFc _ h), hS, hsz1⟩
    generalize H1 = H at hC ⊢
    have h17 : (CS.hs σ) ≤ CS.hs p14.2 := Nat.le_trans h12 mo15
    refine W.widen (k := CS.hs p14.2 - (CS.hs σ)) (n := 17 * (CS.hs p14.2 - (CS.hs σ))) (cAcc2 h12 mo15) (cAcc3 h12 mo15) ?_
    obtain rfl : r16 = p14.1 := hw
    refine lv_if_eq (tgt := 80) hx hb dX7_beginFor_72 (by decide) (fun c18 => ?_) (fun c18 => ?_)
    ·
      replace hf := (if_pos c18).symm.trans hf
      exact j_X7_beginFor_80 l dC dI Q N d E1 E2 hE1 hE2 hm1 hm2 (CS.hs σ) R hx hb hr hml hown hts hlocks hZ hA hK p14.2 (σ.i 50) _ _ _ hf h17 hC (lv_sub hl [1, 0] rfl)
    ·
      replace hf := (if_neg c18).symm.trans hf
      refine lv_aload_n hx hb dX7_beginFor_75 rfl (lv_at hl 1 rfl) ?_
      refine lv_iconst (v := 0) hx hb dX7_beginFor_76 (by decide) ?_
      obtain ⟨p28, hcp28, hf⟩ := hf_bind hf
      have mo29 : CS.hs p14.2 ≤ CS.hs p28.2 := Mono.go hcp28 (m_X7_changeHere N E1 E2 hm1 hm2 p14.2 0)
      have hr9 : CS.hs p28.2 ≤ CS.hs R.2 := Mono.go hf (m_X7_beginFor_80 N E1 E2 hm1 hm2 p28.2 (σ.i 50))
      have hFc := cFree hC hA
      refine va_callv (va_runV (As := [.int 0]) (rest := []) ⟨hx, hb, hml, hown, hts⟩ (c_X7_changeHere l dC dI Q N d E1 E2 hE1 hE2 hm1 hm2 p14.2 0 p28 hcp28) (cwV 1 hts hX7_beginFor_X7_changeHere_v335 rfl rfl rfl (by decide +kernel) ⟨(show (14 + 40 * d) + 1 ≤ (16 + 40 * d) by omega), (show 8 + (5 + 11) + 60 * (14 + 40 * d) ≤ 60 * (16 + 40 * d) by omega)⟩) ⟨zPre.blind, va_recv hK hC.1 (ci := 6) (q0 := 3) rfl rfl, cPre_go hZ hK hC⟩ rfl rfl hl.1 rfl (lv_room (Nat.le_of_ble_eq_true rfl)) dX7_beginFor_77 (cAcc h17 mo29 hr9)) hC.2.2.1 (fun q _ h => hFc q h) hFc (fun u9 t9 H1 locs ht hvm hw hB hz1 hk1 hS => ?_)
      obtain ⟨⟨hP, hK1, hD1⟩, hsz1⟩ := hB
      rw [ht] at hP hsz1
      have hC : CP dC dI Q A s.heap p28.2 H1 locs := ⟨hP, hD1.weaken (fun _ _ _ h => hFc _ h), hS, hsz1⟩
      generalize H1 = H at hC ⊢
      have h31 : (CS.hs σ) ≤ CS.hs p28.2 := Nat.le_trans h17 mo29
      refine W.widen (k := CS.hs p28.2 - (CS.hs σ)) (n := 17 * (CS.hs p28.2 - (CS.hs σ))) (cAcc2 h17 mo29) (cAcc3 h17 mo29) ?_
      exact j_X7_beginFor_80 l dC dI Q N d E1 E2 hE1 hE2 hm1 hm2 (CS.hs σ) R hx hb hr hml hown hts hlocks hZ hA hK p28.2 (σ.i 50) _ _ _ hf h31 hC (lv_sub hl [1, 0] rfl)
  ·
    replace hf := (if_neg c13).symm.trans hf
    refine lv_aload_n hx hb dX7_beginFor_31 rfl (lv_at hl 1 rfl) ?_
    obtain ⟨p32, hcp32, hf⟩ := hf_bind hf
    have mo33 : CS.hs p9.2 ≤ CS.hs p32.2 := Mono.go hcp32 (m_X7_newName N p9.2)
    have hr9 : CS.hs p32.2 ≤ CS.hs R.2 := Mono.go hf (mono_bind (m_X1_found N p32.2 58) (fun p36 => (mono_ite (mono_bind (m_X7_define N E1 E2 hm1 hm2 p36.2 p32.1) (fun p41 => (mono_bind (m_X7_forHead N E1 E2 hm1 hm2 p41.2) (fun p45 => (mono_oc (m_X7_beginFor_64 N E1 E2 hm1 hm2 p45.2 (σ.i 50) none) (fun a50 => (m_X7_beginFor_64 N E1 E2 hm1 hm2 p45.2 (σ.i 50) (some a50)))))))) (mono_bind (m_X7_rowHead N E1 E2 hm1 hm2 p36.2 p32.1) (fun p51 => (mono_oc (m_X7_beginFor_64 N E1 E2 hm1 hm2 p51.2 (σ.i 50) none) (fun a56 => (m_X7_beginFor_64 N E1 E2 hm1 hm2 p51.2 (σ.i 50) (some a56)))))))))
    have hFc := cFree hC hA
    refine va_calll (va_runV (As := []) (rest := []) ⟨hx, hb, hml, hown, hts⟩ (c_X7_newName l dC dI Q N p9.2 p32 hcp32) (cwV 0 hts hX7_beginFor_X7_newName_v217 rfl rfl rfl (by decide +kernel) ⟨(show 4 + 1 ≤ (16 + 40 * d) by omega), (show 8 + (3 + 11) + 60 * 4 ≤ 60 * (16 + 40 * d) by omega)⟩) ⟨zPre.blind, va_recv hK hC.1 (ci := 6) (q0 := 3) rfl rfl, cPre_go hZ hK hC⟩ rfl rfl hl.1 rfl (lv_room (Nat.le_of_ble_eq_true rfl)) dX7_beginFor_32 (cAcc h12 mo33 hr9)) hC.2.2.1 (fun q _ h => hFc q h) hFc (fun r34 u9 t9 H1 locs ht hvm hw hB hz1 hk1 hS => ?_)
    obtain ⟨⟨hP, hK1, hD1⟩, hsz1⟩ := hB
    rw [ht] at hP hsz1
    have hC : CP dC dI Q A s.heap p32.2 H1 locs := ⟨hP, hD1.weaken (fun _ _ _ h => hFc _ h), hS, hsz1⟩
    generalize H1 = H at hC ⊢
    have h35 : (CS.hs σ) ≤ CS.hs p32.2 := Nat.le_trans h12 mo33
    refine W.widen (k := CS.hs p32.2 - (CS.hs σ)) (n := 17 * (CS.hs p32.2 - (CS.hs σ))) (cAcc2 h12 mo33) (cAcc3 h12 mo33) ?_
    obtain rfl : r34 = p32.1 := hw
    refine lv_lstore_n (lv' := [(3, .long p32.1), (1, .int (σ.i 50)), (0, .ref (Q.o 3))]) hx hb dX7_beginFor_35 rfl hl (by decide) rfl (fun ls hl => ?_)
    refine lv_aload_n hx hb dX7_beginFor_36 rfl (lv_at hl 2 rfl) ?_
    refine lv_bipush (v := 58) hx hb dX7_beginFor_37 (by decide) ?_
    obtain ⟨p36, hcp36, hf⟩ := hf_bind hf
    have mo37 : CS.hs p32.2 ≤ CS.hs p36.2 := Mono.go hcp36 (m_X1_found N p32.2 58)
    have hr9 : CS.hs p36.2 ≤ CS.hs R.2 := Mono.go hf (mono_ite (mono_bind (m_X7_define N E1 E2 hm1 hm2 p36.2 p32.1) (fun p41 => (mono_bind (m_X7_forHead N E1 E2 hm1 hm2 p41.2) (fun p45 => (mono_oc (m_X7_beginFor_64 N E1 E2 hm1 hm2 p45.2 (σ.i 50) none) (fun a50 => (m_X7_beginFor_64 N E1 E2 hm1 hm2 p45.2 (σ.i 50) (some a50)))))))) (mono_bind (m_X7_rowHead N E1 E2 hm1 hm2 p36.2 p32.1) (fun p51 => (mono_oc (m_X7_beginFor_64 N E1 E2 hm1 hm2 p51.2 (σ.i 50) none) (fun a56 => (m_X7_beginFor_64 N E1 E2 hm1 hm2 p51.2 (σ.i 50) (some a56)))))))
    have hFc := cFree hC hA
    refine va_calli (va_runU (As := [.int 58]) (rest := []) ⟨hx, hb, hml, hown, hts⟩ (c_X1_found l dC dI Q N p32.2 58 p36 hcp36) (va_cwU 1 hts hX7_beginFor_X1_found_u110 rfl rfl rfl rfl (by decide +kernel) ⟨(show 1 + 1 ≤ (16 + 40 * d) by omega), (show 8 + (2 + 11) + 60 * 1 ≤ 60 * (16 + 40 * d) by omega)⟩) ⟨zPre.blind, va_recv hK hC.1 (ci := 6) (q0 := 3) rfl rfl, cPre_go hZ hK hC⟩ rfl rfl hl.1 rfl (lv_room (Nat.le_of_ble_eq_true rfl)) dX7_beginFor_39 (cAcc h35 mo37 hr9)) hC.2.2.1 (fun q _ h => hFc q h) hFc (fun r38 u9 t9 H1 locs ht hvm hw hB hz1 hk1 hS => ?_)
    obtain ⟨⟨hP, hK1, hD1⟩, hsz1⟩ := hB
    rw [ht] at hP hsz1
    have hC : CP dC dI Q A s.heap p36.2 H1 locs := ⟨hP, hD1.weaken (fun _ _ _ h => hFc _ h), hS, hsz1⟩
    generalize H1 = H at hC ⊢
    have h39 : (CS.hs σ) ≤ CS.hs p36.2 := Nat.le_trans h35 mo37
    refine W.widen (k := CS.hs p36.2 - (CS.hs σ)) (n := 17 * (CS.hs p36.2 - (CS.hs σ))) (cAcc2 h35 mo37) (cAcc3 h35 mo37) ?_
    obtain rfl : r38 = p36.1 := hw
    refine lv_if_eq (tgt := 54) hx hb dX7_beginFor_42 (by decide) (fun c40 => ?_) (fun c40 => ?_)
    ·
      replace hf := (if_pos c40).symm.trans hf
      refine lv_aload_n hx hb dX7_beginFor_54 rfl (lv_at hl 2 rfl) ?_
      refine lv_lload_n hx hb dX7_beginFor_55 rfl (lv_at hl 0 rfl) ?_
      obtain ⟨p41, hcp41, hf⟩ := hf_bind hf
      have mo42 : CS.hs p36.2 ≤ CS.hs p41.2 := Mono.go hcp41 (m_X7_define N E1 E2 hm1 hm2 p36.2 p32.1)
      have hr9 : CS.hs p41.2 ≤ CS.hs R.2 := Mono.go hf (mono_bind (m_X7_forHead N E1 E2 hm1 hm2 p41.2) (fun p45 => (mono_oc (m_X7_beginFor_64 N E1 E2 hm1 hm2 p45.2 (σ.i 50) none) (fun a50 => (m_X7_beginFor_64 N E1 E2 hm1 hm2 p45.2 (σ.i 50) (some a50))))))
      have hFc := cFree hC hA
      refine va_callv (va_runV (As := [.long p32.1]) (rest := []) ⟨hx, hb, hml, hown, hts⟩ (c_X7_define l dC dI Q N d E1 E2 hE1 hE2 hm1 hm2 p36.2 p32.1 p41 hcp41) (cwV 1 hts hX7_beginFor_X7_define_v221 rfl rfl rfl (by decide +kernel) ⟨(show (13 + 40 * d) + 1 ≤ (16 + 40 * d) by omega), (show 8 + (3 + 11) + 60 * (13 + 40 * d) ≤ 60 * (16 + 40 * d) by omega)⟩) ⟨zPre.blind, va_recv hK hC.1 (ci := 6) (q0 := 3) rfl rfl, cPre_go hZ hK hC⟩ rfl rfl hl.1 rfl (lv_room (Nat.le_of_ble_eq_true rfl)) dX7_beginFor_56 (cAcc h39 mo42 hr9)) hC.2.2.1 (fun q _ h => hFc q h) hFc (fun u9 t9 H1 locs ht hvm hw hB hz1 hk1 hS => ?_)
      obtain ⟨⟨hP, hK1, hD1⟩, hsz1⟩ := hB
      rw [ht] at hP hsz1
      have hC : CP dC dI Q A s.heap p41.2 H1 locs := ⟨hP, hD1.weaken (fun _ _ _ h => hFc _ h), hS, hsz1⟩
      generalize H1 = H at hC ⊢
      have h44 : (CS.hs σ) ≤ CS.hs p41.2 := Nat.le_trans h39 mo42
      refine W.widen (k := CS.hs p41.2 - (CS.hs σ)) (n := 17 * (CS.hs p41.2 - (CS.hs σ))) (cAcc2 h39 mo42) (cAcc3 h39 mo42) ?_
      refine lv_aload_n hx hb dX7_beginFor_59 rfl (lv_at hl 2 rfl) ?_
      obtain ⟨p45, hcp45, hf⟩ := hf_bind hf
      have mo46 : CS.hs p41.2 ≤ CS.hs p45.2 := Mono.go hcp45 (m_X7_forHead N E1 E2 hm1 hm2 p41.2)
      have hr9 : CS.hs p45.2 ≤ CS.hs R.2 := Mono.go hf (mono_oc (m_X7_beginFor_64 N E1 E2 hm1 hm2 p45.2 (σ.i 50) none) (fun a50 => (m_X7_beginFor_64 N E1 E2 hm1 hm2 p45.2 (σ.i 50) (some a50))))
      have hFc := cFree hC hA
      refine va_callq (va_runV (As := []) (rest := []) ⟨hx, hb, hml, hown, hts⟩ (c_X7_forHead l dC dI Q N d E1 E2 hE1 hE2 hm1 hm2 p41.2 p45 hcp45) (cwV 0 hts hX7_beginFor_X7_forHead_v331 rfl rfl rfl (by decide +kernel) ⟨(show (15 + 40 * d) + 1 ≤ (16 + 40 * d) by omega), (show 8 + (7 + 11) + 60 * (15 + 40 * d) ≤ 60 * (16 + 40 * d) by omega)⟩) ⟨zPre.blind, va_recv hK hC.1 (ci := 6) (q0 := 3) rfl rfl, cPre_go hZ hK hC⟩ rfl rfl hl.1 rfl (lv_room (Nat.le_of_ble_eq_true rfl)) dX7_beginFor_60 (cAcc h44 mo46 hr9)) hC.2.2.1 (fun q _ h => hFc q h) hFc (fun r47 u9 t9 H1 locs ht hvm hw hB hz1 hk1 hS => ?_)
      obtain ⟨⟨hP, hK1, hD1⟩, hsz1⟩ := hB
      rw [ht] at hP hsz1
      have hC : CP dC dI Q A s.heap p45.2 H1 locs := ⟨hP, hD1.weaken (fun _ _ _ h => hFc _ h), hS, hsz1⟩
      generalize H1 = H at hC ⊢
      have h48 : (CS.hs σ) ≤ CS.hs p45.2 := Nat.le_trans h44 mo46
      refine W.widen (k := CS.hs p45.2 - (CS.hs σ)) (n := 17 * (CS.hs p45.2 - (CS.hs σ))) (cAcc2 h44 mo46) (cAcc3 h44 mo46) ?_
      obtain rfl : r47 = p45.1 := hw
      rcases hf_oc hf with ⟨q49, hf⟩ | ⟨a50, q49, hf⟩
      ·
        refine W.eq (congrArg (fun v9 => F0 m 63 ls (va_rf v9 :: [])) q49) ?_
        refine W.eq (g2 := F0 m 63 ls (.null :: [])) rfl ?_
        refine lv_astore_nN (lv' := [(2, .null), (3, .long p32.1), (1, .int (σ.i 50)), (0, .ref (Q.o 3))]) hx hb dX7_beginFor_63 rfl hl (by decide) rfl (fun ls hl => ?_)
        exact j_X7_beginFor_64 l dC dI Q N d E1 E2 hE1 hE2 hm1 hm2 (CS.hs σ) R hx hb hr hml hown hts hlocks hZ hA hK p45.2 (σ.i 50) none _ _ _ hf h48 hC (lv_sub hl [2, 0] rfl)
      ·
        refine W.eq (congrArg (fun v9 => F0 m 63 ls (va_rf v9 :: [])) q49) ?_
        refine W.eq (g2 := F0 m 63 ls (.ref a50 :: [])) rfl ?_
        refine lv_astore_n (lv' := [(2, .ref a50), (3, .long p32.1), (1, .int (σ.i 50)), (0, .ref (Q.o 3))]) hx hb dX7_beginFor_63 rfl hl (by decide) rfl (fun ls hl => ?_)
        exact j_X7_beginFor_64 l dC dI Q N d E1 E2 hE1 hE2 hm1 hm2 (CS.hs σ) R hx hb hr hml hown hts hlocks hZ hA hK p45.2 (σ.i 50) (some a50) _ _ _ hf h48 hC (lv_sub hl [2, 0] rfl)
    ·
      replace hf := (if_neg c40).symm.trans hf
      refine lv_aload_n hx hb dX7_beginFor_45 rfl (lv_at hl 2 rfl) ?_
      refine lv_lload_n hx hb dX7_beginFor_46 rfl (lv_at hl 0 rfl) ?_
      obtain ⟨p51, hcp51, hf⟩ := hf_bind hf
      have mo52 : CS.hs p36.2 ≤ CS.hs p51.2 := Mono.go hcp51 (m_X7_rowHead N E1 E2 hm1 hm2 p36.2 p32.1)
      have hr9 : CS.hs p51.2 ≤ CS.hs R.2 := Mono.go hf (mono_oc (m_X7_beginFor_64 N E1 E2 hm1 hm2 p51.2 (σ.i 50) none) (fun a56 => (m_X7_beginFor_64 N E1 E2 hm1 hm2 p51.2 (σ.i 50) (some a56))))
      have hFc := cFree hC hA
      refine va_callq (va_runV (As := [.long p32.1]) (rest := []) ⟨hx, hb, hml, hown, hts⟩ (c_X7_rowHead l dC dI Q N d E1 E2 hE1 hE2 hm1 hm2 p36.2 p32.1 p51 hcp51) (cwV 1 hts hX7_beginFor_X7_rowHead_v327 rfl rfl rfl (by decide +kernel) ⟨(show (14 + 40 * d) + 1 ≤ (16 + 40 * d) by omega), (show 8 + (6 + 11) + 60 * (14 + 40 * d) ≤ 60 * (16 + 40 * d) by omega)⟩) ⟨zPre.blind, va_recv hK hC.1 (ci := 6) (q0 := 3) rfl rfl, cPre_go hZ hK hC⟩ rfl rfl hl.1 rfl (lv_room (Nat.le_of_ble_eq_true rfl)) dX7_beginFor_47 (cAcc h39 mo52 hr9)) hC.2.2.1 (fun q _ h => hFc q h) hFc (fun r53 u9 t9 H1 locs ht hvm hw hB hz1 hk1 hS => ?_)
      obtain ⟨⟨hP, hK1, hD1⟩, hsz1⟩ := hB
      rw [ht] at hP hsz1
      have hC : CP dC dI Q A s.heap p51.2 H1 locs := ⟨hP, hD1.weaken (fun _ _ _ h => hFc _ h), hS, hsz1⟩
      generalize H1 = H at hC ⊢
      have h54 : (CS.hs σ) ≤ CS.hs p51.2 := Nat.le_trans h39 mo52
      refine W.widen (k := CS.hs p51.2 - (CS.hs σ)) (n := 17 * (CS.hs p51.2 - (CS.hs σ))) (cAcc2 h39 mo52) (cAcc3 h39 mo52) ?_
      obtain rfl : r53 = p51.1 := hw
      rcases hf_oc hf with ⟨q55, hf⟩ | ⟨a56, q55, hf⟩
      ·
        refine W.eq (congrArg (fun v9 => F0 m 50 ls (va_rf v9 :: [])) q55) ?_
        refine W.eq (g2 := F0 m 50 ls (.null :: [])) rfl ?_
        refine lv_astore_nN (lv' := [(2, .null), (3, .long p32.1), (1, .int (σ.i 50)), (0, .ref (Q.o 3))]) hx hb dX7_beginFor_50 rfl hl (by decide) rfl (fun ls hl => ?_)
        refine lv_goto (tgt := 64) hx hb dX7_beginFor_51 (by decide) ?_
        exact j_X7_beginFor_64 l dC dI Q N d E1 E2 hE1 hE2 hm1 hm2 (CS.hs σ) R hx hb hr hml hown hts hlocks hZ hA hK p51.2 (σ.i 50) none _ _ _ hf h54 hC (lv_sub hl [2, 0] rfl)
      ·
        refine W.eq (congrArg (fun v9 => F0 m 50 ls (va_rf v9 :: [])) q55) ?_
        refine W.eq (g2 := F0 m 50 ls (.ref a56 :: [])) rfl ?_
        refine lv_astore_n (lv' := [(2, .ref a56), (3, .long p32.1), (1, .int (σ.i 50)), (0, .ref (Q.o 3))]) hx hb dX7_beginFor_50 rfl hl (by decide) rfl (fun ls hl => ?_)
        refine lv_goto (tgt := 64) hx hb dX7_beginFor_51 (by decide) ?_
        exact j_X7_beginFor_64 l dC dI Q N d E1 E2 hE1 hE2 hm1 hm2 (CS.hs σ) R hx hb hr hml hown hts hlocks hZ hA hK p51.2 (σ.i 50) (some a56) _ _ _ hf h54 hC (lv_sub hl [2, 0] rfl)
