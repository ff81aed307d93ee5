section
theorem k_X1_expression_fieldLink_RX1_18_SR_Formulas_tokens_LSR_Tokens : Cond.fieldLink RX1 18 "StatementRules2$Formulas" "tokens" "LStatementRules2$Tokens;" ∈ wzX1_expression := List.mem_cons_of_mem _ (List.mem_append_right _ (List.mem_append_right _ (List.mem_append_right _ (List.mem_append_right _ (List.mem_append_right _ (List.mem_append_right _ (List.mem_append_left _ (List.mem_of_getElem? (i := 0) rfl))))))))
theorem i_X1_expression_X7 : ∀ w ∈ wsX70, w ∈ wzX1_expression := fun _ h => List.mem_cons_of_mem _ (List.mem_append_right _ (List.mem_append_right _ (List.mem_append_right _ (List.mem_append_right _ (List.mem_append_right _ (List.mem_append_right _ (List.mem_append_right _ (List.mem_append_right _ (List.mem_append_right _ (List.mem_append_right _ (List.mem_append_right _ (List.mem_append_right _ (List.mem_append_right _ (List.mem_append_right _ (List.mem_append_right _ (List.mem_append_right _ (List.mem_append_right _ (List.mem_append_right _ (List.mem_append_right _ (List.mem_append_right _ (List.mem_append_right _ (List.mem_append_right _ (List.mem_append_right _ (List.mem_append_right _ (List.mem_append_right _ (List.mem_append_right _ (List.mem_append_right _ (List.mem_append_right _ (List.mem_append_right _ (List.mem_append_right _ (List.mem_append_right _ (List.mem_append_right _ (List.mem_append_right _ (List.mem_append_right _ (List.mem_append_right _ (List.mem_append_right _ (List.mem_append_left _ (h))))))))))))))))))))))))))))))))))))))
theorem k_X1_expression_fieldLink_RX1_22_SR_Formulas_code_LSR_Code : Cond.fieldLink RX1 22 "StatementRules2$Formulas" "code" "LStatementRules2$Code;" ∈ wzX1_expression := List.mem_cons_of_mem _ (List.mem_append_right _ (List.mem_append_right _ (List.mem_append_right _ (List.mem_append_right _ (List.mem_append_right _ (List.mem_append_right _ (List.mem_append_left _ (List.mem_of_getElem? (i := 1) rfl))))))))
set_option maxHeartbeats 4000000 in
set_option maxRecDepth 100000 in
theorem j_X1_expression_6 {p : Program} {e : Env} {s : State} {m : MethodId} {args : Array Value} {below : List Frame} {meth : Method} {c : Code} {A : Nat → Prop} (l : Launch) (dC : Nat → ClassId) (dI : Nat → Nat → Nat) (Q : CQ) (N : Nat) (d : Nat) (E1 : CS → Option (Unit × CS)) (E2 : CS → Option (Int32 × CS)) (hE1 : cMF l dC dI Q d E1) (hE2 : cMO l dC dI Q d E2) (hm1 : ∀ σ, Mono (CS.hs σ) (E1 σ)) (hm2 : ∀ σ, Mono (CS.hs σ) (E2 σ)) (z9h : Nat) (R : Unit × CS) (hx : p.tables.exec = Jvm.exec) (hb : c.code = cX1_expression) (hr : meth.sig.returnType = none) (hml : c.maxLocals = 3) (hown : s.vm.findClass RX1 = some m.cls) (hts : ∀ w ∈ wzX1_expression, w.before args s = true) (hlocks : meth.locks = false) (hZ : zAMB s) (hA : ∀ q : Nat, s.heap.size ≤ q → A q) (hK : va_K (dC, dI) vwCl (cT Q) s) : ∀ (n9 : Nat), ∀ (σ : CS) (x1 : Int32) (H : Heap) (locs : List Loc) (ls : Array Slot), f_X1_expression_6 N E1 E2 n9 σ x1 = some R → z9h ≤ CS.hs σ → CP dC dI Q A s.heap σ H locs → lv_has ls 3 [(0, .ref (Q.o 3)), (1, .int x1)] → W p l e ({ frames := (12 + 40 * d), cells := CS.hs R.2 - z9h, slots := 17 * (CS.hs R.2 - z9h), locals := 60 * (12 + 40 * d) }) s m args below meth c H locs (CS.hs σ - z9h) (17 * (CS.hs σ - z9h)) (MQ below (va_Qv (fun (_ : Unit) => True) (fun (_ : Unit) (t : State) => zPost dC dI A (cW Q R.2) (cT Q) t ∧ t.heap.size = CS.hs R.2) A) args s (CS.hs R.2 - z9h) (17 * (CS.hs R.2 - z9h)) A) (F0 m 6 ls []) := by
  intro n9
  induction n9 with
  | zero => intro σ x1 H locs ls hf; exact absurd hf (by intro q9; cases q9)
  | succ n9 ih =>
    intro σ x1 H locs ls hf h0 hC hl
    replace hf : b_X1_expression_6 N E1 E2 (f_X1_expression_6 N E1 E2 n9) σ x1 = some R := hf
    unfold b_X1_expression_6 at hf
    have hMK := fun (σ : CS) (x1 : Int32) => m_X1_expression_6 N E1 E2 hm1 hm2 n9 σ x1
    refine lv_iload_n hx hb dX1_expression_6 rfl (lv_at hl 1 rfl) ?_
    refine lv_sipush (v := 900) hx hb dX1_expression_7 (by decide) ?_
    refine lv_icmp_ge (tgt := 74) hx hb dX1_expression_10 (by decide) (fun c5 => ?_) (fun c5 => ?_)
    ·
      replace hf := (if_pos c5).symm.trans hf
      obtain rfl := Option.some.inj hf
      exact W.vret hx hb hr (fun t ht hW => ⟨⟨(), rfl, trivial, ⟨by rw [ht]; exact hC.1, va_K.moved hW.alike hK, hC.2.1⟩, by rw [ht]; exact hC.2.2.2⟩, hC.2.2.1.F ht⟩) hC.2.2.1.2.2 dX1_expression_74
    ·
      replace hf := (if_neg c5).symm.trans hf
      refine lv_aload_n hx hb dX1_expression_13 rfl (lv_at hl 0 rfl) ?_
      refine lv_bipush (v := 43) hx hb dX1_expression_14 (by decide) ?_
      obtain ⟨p6, hcp6, hf⟩ := hf_bind hf
      have mo7 : CS.hs σ ≤ CS.hs p6.2 := Mono.go hcp6 (m_X1_found N σ 43)
      have hr9 : CS.hs p6.2 ≤ CS.hs R.2 := Mono.go hf (mono_ite (mono_bind (m_X1_found N p6.2 45) (fun p40 => (mono_ite (mono_some (Nat.le_refl _)) (mono_bind (m_X1_found N p40.2 43) (fun p45 => (mono_ite (mono_bind (m_X9_advance N p45.2) (fun p50 => (mono_bind (m_X1_product N E1 E2 hm1 hm2 p50.2) (fun p54 => (mono_bind (m_X0_add N p54.2 8 0) (fun p58 => (hMK p58.2 (x1 + 1)))))))) (mono_bind (m_X9_advance N p45.2) (fun p62 => (mono_bind (m_X1_product N E1 E2 hm1 hm2 p62.2) (fun p66 => (mono_bind (m_X0_add N p66.2 7 0) (fun p70 => (hMK p70.2 (x1 + 1)))))))))))))) (mono_bind (m_X1_found N p6.2 43) (fun p11 => (mono_ite (mono_bind (m_X9_advance N p11.2) (fun p16 => (mono_bind (m_X1_product N E1 E2 hm1 hm2 p16.2) (fun p20 => (mono_bind (m_X0_add N p20.2 8 0) (fun p24 => (hMK p24.2 (x1 + 1)))))))) (mono_bind (m_X9_advance N p11.2) (fun p28 => (mono_bind (m_X1_product N E1 E2 hm1 hm2 p28.2) (fun p32 => (mono_bind (m_X0_add N p32.2 7 0) (fun p36 => (hMK p36.2 (x1 + 1))))))))))))
      have hFc := cFree hC hA
      refine va_calli (va_runU (As := [.int 43]) (rest := []) ⟨hx, hb, hml, hown, hts⟩ (c_X1_found l dC dI Q N σ 43 p6 hcp6) (va_cwU 1 hts hX1_expression_X1_found_u42 rfl rfl rfl rfl (by decide +kernel) ⟨(show 1 + 1 ≤ (12 + 40 * d) by omega), (show 8 + (2 + 11) + 60 * 1 ≤ 60 * (12 + 40 * d) by omega)⟩) ⟨zPre.blind, va_recv hK hC.1 (ci := 6) (q0 := 3) rfl rfl, cPre_go hZ hK hC⟩ rfl rfl hl.1 rfl (lv_room (Nat.le_of_ble_eq_true rfl)) dX1_expression_16 (cAcc h0 mo7 hr9)) hC.2.2.1 (fun q _ h => hFc q h) hFc (fun r8 u9 t9 H1 locs ht hvm hw hB hz1 hk1 hS => ?_)
      obtain ⟨⟨hP, hK1, hD1⟩, hsz1⟩ := hB
      rw [ht] at hP hsz1
      have hC : CP dC dI Q A s.heap p6.2 H1 locs := ⟨hP, hD1.weaken (fun _ _ _ h => hFc _ h), hS, hsz1⟩
      generalize H1 = H at hC ⊢
      have h9 : z9h ≤ CS.hs p6.2 := Nat.le_trans h0 mo7
      refine W.widen (k := CS.hs p6.2 - z9h) (n := 17 * (CS.hs p6.2 - z9h)) (cAcc2 h0 mo7) (cAcc3 h0 mo7) ?_
      obtain rfl : r8 = p6.1 := hw
      refine lv_if_ne (tgt := 31) hx hb dX1_expression_19 (by decide) (fun c10 => ?_) (fun c10 => ?_)
      ·
        replace hf := (if_neg c10).symm.trans hf
        refine lv_aload_n hx hb dX1_expression_31 rfl (lv_at hl 0 rfl) ?_
        refine lv_bipush (v := 43) hx hb dX1_expression_32 (by decide) ?_
        obtain ⟨p11, hcp11, hf⟩ := hf_bind hf
        have mo12 : CS.hs p6.2 ≤ CS.hs p11.2 := Mono.go hcp11 (m_X1_found N p6.2 43)
        have hr9 : CS.hs p11.2 ≤ CS.hs R.2 := Mono.go hf (mono_ite (mono_bind (m_X9_advance N p11.2) (fun p16 => (mono_bind (m_X1_product N E1 E2 hm1 hm2 p16.2) (fun p20 => (mono_bind (m_X0_add N p20.2 8 0) (fun p24 => (hMK p24.2 (x1 + 1)))))))) (mono_bind (m_X9_advance N p11.2) (fun p28 => (mono_bind (m_X1_product N E1 E2 hm1 hm2 p28.2) (fun p32 => (mono_bind (m_X0_add N p32.2 7 0) (fun p36 => (hMK p36.2 (x1 + 1)))))))))
        have hFc := cFree hC hA
        refine va_calli (va_runU (As := [.int 43]) (rest := []) ⟨hx, hb, hml, hown, hts⟩ (c_X1_found l dC dI Q N p6.2 43 p11 hcp11) (va_cwU 1 hts hX1_expression_X1_found_u42 rfl rfl rfl rfl (by decide +kernel) ⟨(show 1 + 1 ≤ (12 + 40 * d) by omega), (show 8 + (2 + 11) + 60 * 1 ≤ 60 * (12 + 40 * d) by omega)⟩) ⟨zPre.blind, va_recv hK hC.1 (ci := 6) (q0 := 3) rfl rfl, cPre_go hZ hK hC⟩ rfl rfl hl.1 rfl (lv_room (Nat.le_of_ble_eq_true rfl)) dX1_expression_34 (cAcc h9 mo12 hr9)) hC.2.2.1 (fun q _ h => hFc q h) hFc (fun r13 u9 t9 H1 locs ht hvm hw hB hz1 hk1 hS => ?_)
        obtain ⟨⟨hP, hK1, hD1⟩, hsz1⟩ := hB
        rw [ht] at hP hsz1
        have hC : CP dC dI Q A s.heap p11.2 H1 locs := ⟨hP, hD1.weaken (fun _ _ _ h => hFc _ h), hS, hsz1⟩
        generalize H1 = H at hC ⊢
        have h14 : z9h ≤ CS.hs p11.2 := Nat.le_trans h9 mo12
        refine W.widen (k := CS.hs p11.2 - z9h) (n := 17 * (CS.hs p11.2 - z9h)) (cAcc2 h9 mo12) (cAcc3 h9 mo12) ?_
        obtain rfl : r13 = p11.1 := hw
        refine lv_if_eq (tgt := 45) hx hb dX1_expression_37 (by decide) (fun c15 => ?_) (fun c15 => ?_)
        ·
          replace hf := (if_pos c15).symm.trans hf
          refine lv_bipush (v := 8) hx hb dX1_expression_45 (by decide) ?_
          refine lv_istore_n (lv' := [(2, .int 8), (0, .ref (Q.o 3)), (1, .int x1)]) hx hb dX1_expression_47 rfl hl (by decide) rfl (fun ls hl => ?_)
          refine lv_aload_n hx hb dX1_expression_48 rfl (lv_at hl 1 rfl) ?_
          refine cG_28 hx hb hts i_X1_expression_X7 hown hK hC (hts (.fieldLink RX1 18 "StatementRules2$Formulas" "tokens" "LStatementRules2$Tokens;") k_X1_expression_fieldLink_RX1_18_SR_Formulas_tokens_LSR_Tokens) (fun _ q9 => q9) dX1_expression_49 ?_
          obtain ⟨p16, hcp16, hf⟩ := hf_bind hf
          have mo17 : CS.hs p11.2 ≤ CS.hs p16.2 := Mono.go hcp16 (m_X9_advance N p11.2)
          have hr9 : CS.hs p16.2 ≤ CS.hs R.2 := Mono.go hf (mono_bind (m_X1_product N E1 E2 hm1 hm2 p16.2) (fun p20 => (mono_bind (m_X0_add N p20.2 8 0) (fun p24 => (hMK p24.2 (x1 + 1))))))
          have hFc := cFree hC hA
          refine va_callv (va_runV (As := []) (rest := []) ⟨hx, hb, hml, hown, hts⟩ (c_X9_advance l dC dI Q N p11.2 p16 hcp16) (cwV 0 hts hX1_expression_X9_advance_v56 rfl rfl rfl (by decide +kernel) ⟨(show 3 + 1 ≤ (12 + 40 * d) by omega), (show 8 + (2 + 11) + 60 * 3 ≤ 60 * (12 + 40 * d) by omega)⟩) ⟨zPre.blind, va_recv hK hC.1 (ci := 8) (q0 := 4) rfl rfl, cPre_go hZ hK hC⟩ rfl rfl hl.1 rfl (lv_room (Nat.le_of_ble_eq_true rfl)) dX1_expression_52 (cAcc h14 mo17 hr9)) hC.2.2.1 (fun q _ h => hFc q h) hFc (fun u9 t9 H1 locs ht hvm hw hB hz1 hk1 hS => ?_)
          obtain ⟨⟨hP, hK1, hD1⟩, hsz1⟩ := hB
          rw [ht] at hP hsz1
          have hC : CP dC dI Q A s.heap p16.2 H1 locs := ⟨hP, hD1.weaken (fun _ _ _ h => hFc _ h), hS, hsz1⟩
          generalize H1 = H at hC ⊢
          have h19 : z9h ≤ CS.hs p16.2 := Nat.le_trans h14 mo17
          refine W.widen (k := CS.hs p16.2 - z9h) (n := 17 * (CS.hs p16.2 - z9h)) (cAcc2 h14 mo17) (cAcc3 h14 mo17) ?_
          refine lv_aload_n hx hb dX1_expression_55 rfl (lv_at hl 1 rfl) ?_
          obtain ⟨p20, hcp20, hf⟩ := hf_bind hf
          have mo21 : CS.hs p16.2 ≤ CS.hs p20.2 := Mono.go hcp20 (m_X1_product N E1 E2 hm1 hm2 p16.2)
          have hr9 : CS.hs p20.2 ≤ CS.hs R.2 := Mono.go hf (mono_bind (m_X0_add N p20.2 8 0) (fun p24 => (hMK p24.2 (x1 + 1))))
          have hFc := cFree hC hA
          refine va_callv (va_runU (As := []) (rest := []) ⟨hx, hb, hml, hown, hts⟩ (c_X1_product l dC dI Q N d E1 E2 hE1 hE2 hm1 hm2 p16.2 p20 hcp20) (va_cwU 0 hts hX1_expression_X1_product_u65 rfl rfl rfl rfl (by decide +kernel) ⟨(show (11 + 40 * d) + 1 ≤ (12 + 40 * d) by omega), (show 8 + (3 + 11) + 60 * (11 + 40 * d) ≤ 60 * (12 + 40 * d) by omega)⟩) ⟨zPre.blind, va_recv hK hC.1 (ci := 6) (q0 := 3) rfl rfl, cPre_go hZ hK hC⟩ rfl rfl hl.1 rfl (lv_room (Nat.le_of_ble_eq_true rfl)) dX1_expression_56 (cAcc h19 mo21 hr9)) hC.2.2.1 (fun q _ h => hFc q h) hFc (fun u9 t9 H1 locs ht hvm hw hB hz1 hk1 hS => ?_)
          obtain ⟨⟨hP, hK1, hD1⟩, hsz1⟩ := hB
          rw [ht] at hP hsz1
          have hC : CP dC dI Q A s.heap p20.2 H1 locs := ⟨hP, hD1.weaken (fun _ _ _ h => hFc _ h), hS, hsz1⟩
          generalize H1 = H at hC ⊢
          have h23 : z9h ≤ CS.hs p20.2 := Nat.le_trans h19 mo21
          refine W.widen (k := CS.hs p20.2 - z9h) (n := 17 * (CS.hs p20.2 - z9h)) (cAcc2 h19 mo21) (cAcc3 h19 mo21) ?_
          refine lv_aload_n hx hb dX1_expression_59 rfl (lv_at hl 1 rfl) ?_
          refine cG_29 hx hb hts i_X1_expression_X7 hown hK hC (hts (.fieldLink RX1 22 "StatementRules2$Formulas" "code" "LStatementRules2$Code;") k_X1_expression_fieldLink_RX1_22_SR_Formulas_code_LSR_Code) (fun _ q9 => q9) dX1_expression_60 ?_
          refine lv_iload_n hx hb dX1_expression_63 rfl (lv_at hl 0 rfl) ?_
          refine lv_iconst (v := 0) hx hb dX1_expression_64 (by decide) ?_
          obtain ⟨p24, hcp24, hf⟩ := hf_bind hf
          have mo25 : CS.hs p20.2 ≤ CS.hs p24.2 := Mono.go hcp24 (m_X0_add N p20.2 8 0)
          have hr9 : CS.hs p24.2 ≤ CS.hs R.2 := Mono.go hf (hMK p24.2 (x1 + 1))
          have hFc := cFree hC hA
          refine va_callv (va_runV (As := [.int 8, .int 0]) (rest := []) ⟨hx, hb, hml, hown, hts⟩ (c_X0_add l dC dI Q N p20.2 8 0 p24 hcp24) (cwV 2 hts hX1_expression_X0_add_v68 rfl rfl rfl (by decide +kernel) ⟨(show 2 + 1 ≤ (12 + 40 * d) by omega), (show 8 + (3 + 11) + 60 * 2 ≤ 60 * (12 + 40 * d) by omega)⟩) ⟨zPre.blind, va_recv hK hC.1 (ci := 0) (q0 := 2) rfl rfl, cPre_go hZ hK hC⟩ rfl rfl hl.1 rfl (lv_room (Nat.le_of_ble_eq_true rfl)) dX1_expression_65 (cAcc h23 mo25 hr9)) hC.2.2.1 (fun q _ h => hFc q h) hFc (fun u9 t9 H1 locs ht hvm hw hB hz1 hk1 hS => ?_)
          obtain ⟨⟨hP, hK1, hD1⟩, hsz1⟩ := hB
          rw [ht] at hP hsz1
          have hC : CP dC dI Q A s.heap p24.2 H1 locs := ⟨hP, hD1.weaken (fun _ _ _ h => hFc _ h), hS, hsz1⟩
          generalize H1 = H at hC ⊢
          have h27 : z9h ≤ CS.hs p24.2 := Nat.le_trans h23 mo25
          refine W.widen (k := CS.hs p24.2 - z9h) (n := 17 * (CS.hs p24.2 - z9h)) (cAcc2 h23 mo25) (cAcc3 h23 mo25) ?_
          refine lv_iinc (v := (x1 + 1)) (lv' := [(1, .int (x1 + 1)), (2, .int 8), (0, .ref (Q.o 3))]) hx hb dX1_expression_68 hl (k := 2) rfl rfl (by decide) rfl (fun ls hl => ?_)
          refine lv_goto (tgt := 6) hx hb dX1_expression_71 (by decide) ?_
          exact ih p24.2 (x1 + 1) _ _ _ hf h27 hC (lv_sub hl [2, 0] rfl)
        ·
          replace hf := (if_neg c15).symm.trans hf
          refine lv_bipush (v := 7) hx hb dX1_expression_40 (by decide) ?_
          refine lv_goto (tgt := 47) hx hb dX1_expression_42 (by decide) ?_
          refine lv_istore_n (lv' := [(2, .int 7), (0, .ref (Q.o 3)), (1, .int x1)]) hx hb dX1_expression_47 rfl hl (by decide) rfl (fun ls hl => ?_)
          refine lv_aload_n hx hb dX1_expression_48 rfl (lv_at hl 1 rfl) ?_
          refine cG_28 hx hb hts i_X1_expression_X7 hown hK hC (hts (.fieldLink RX1 18 "StatementRules2$Formulas" "tokens" "LStatementRules2$Tokens;") k_X1_expression_fieldLink_RX1_18_SR_Formulas_tokens_LSR_Tokens) (fun _ q9 => q9) dX1_expression_49 ?_
          obtain ⟨p28, hcp28, hf⟩ := hf_bind hf
          have mo29 : CS.hs p11.2 ≤ CS.hs p28.2 := Mono.go hcp28 (m_X9_advance N p11.2)
          have hr9 : CS.hs p28.2 ≤ CS.hs R.2 := Mono.go hf (mono_bind (m_X1_product N E1 E2 hm1 hm2 p28.2) (fun p32 => (mono_bind (m_X0_add N p32.2 7 0) (fun p36 => (hMK p36.2 (x1 + 1))))))
          have hFc := cFree hC hA
          refine va_callv (va_runV (As := []) (rest := []) ⟨hx, hb, hml, hown, hts⟩ (c_X9_advance l dC dI Q N p11.2 p28 hcp28) (cwV 0 hts hX1_expression_X9_advance_v56 rfl rfl rfl (by decide +kernel) ⟨(show 3 + 1 ≤ (12 + 40 * d) by omega), (show 8 + (2 + 11) + 60 * 3 ≤ 60 * (12 + 40 * d) by omega)⟩) ⟨zPre.blind, va_recv hK hC.1 (ci := 8) (q0 := 4) rfl rfl, cPre_go hZ hK hC⟩ rfl rfl hl.1 rfl (lv_room (Nat.le_of_ble_eq_true rfl)) dX1_expression_52 (cAcc h14 mo29 hr9)) hC.2.2.1 (fun q _ h => hFc q h) hFc (fun u9 t9 H1 locs ht hvm hw hB hz1 hk1 hS => ?_)
          obtain ⟨⟨hP, hK1, hD1⟩, hsz1⟩ := hB
          rw [ht] at hP hsz1
          have hC : CP dC dI Q A s.heap p28.2 H1 locs := ⟨hP, hD1.weaken (fun _ _ _ h => hFc _ h), hS, hsz1⟩
          generalize H1 = H at hC ⊢
          have h31 : z9h ≤ CS.hs p28.2 := Nat.le_trans h14 mo29
          refine W.widen (k := CS.hs p28.2 - z9h) (n := 17 * (CS.hs p28.2 - z9h)) (cAcc2 h14 mo29) (cAcc3 h14 mo29) ?_
          refine lv_aload_n hx hb dX1_expression_55 rfl (lv_at hl 1 rfl) ?_
          obtain ⟨p32, hcp32, hf⟩ := hf_bind hf
          have mo33 : CS.hs p28.2 ≤ CS.hs p32.2 := Mono.go hcp32 (m_X1_product N E1 E2 hm1 hm2 p28.2)
          have hr9 : CS.hs p32.2 ≤ CS.hs R.2 := Mono.go hf (mono_bind (m_X0_add N p32.2 7 0) (fun p36 => (hMK p36.2 (x1 + 1))))
          have hFc := cFree hC hA
          refine va_callv (va_runU (As := []) (rest := []) ⟨hx, hb, hml, hown, hts⟩ (c_X1_product l dC dI Q N d E1 E2 hE1 hE2 hm1 hm2 p28.2 p32 hcp32) (va_cwU 0 hts hX1_expression_X1_product_u65 rfl rfl rfl rfl (by decide +kernel) ⟨(show (11 + 40 * d) + 1 ≤ (12 + 40 * d) by omega), (show 8 + (3 + 11) + 60 * (11 + 40 * d) ≤ 60 * (12 + 40 * d) by omega)⟩) ⟨zPre.blind, va_recv hK hC.1 (ci := 6) (q0 := 3) rfl rfl, cPre_go hZ hK hC⟩ rfl rfl hl.1 rfl (lv_room (Nat.le_of_ble_eq_true rfl)) dX1_expression_56 (cAcc h31 mo33 hr9)) hC.2.2.1 (fun q _ h => hFc q h) hFc (fun u9 t9 H1 locs ht hvm hw hB hz1 hk1 hS => ?_)
          obtain ⟨⟨hP, hK1, hD1⟩, hsz1⟩ := hB
          rw [ht] at hP hsz1
          have hC : CP dC dI Q A s.heap p32.2 H1 locs := ⟨hP, hD1.weaken (fun _ _ _ h => hFc _ h), hS, hsz1⟩
          generalize H1 = H at hC ⊢
          have h35 : z9h ≤ CS.hs p32.2 := Nat.le_trans h31 mo33
          refine W.widen (k := CS.hs p32.2 - z9h) (n := 17 * (CS.hs p32.2 - z9h)) (cAcc2 h31 mo33) (cAcc3 h31 mo33) ?_
          refine lv_aload_n hx hb dX1_expression_59 rfl (lv_at hl 1 rfl) ?_
          refine cG_29 hx hb hts i_X1_expression_X7 hown hK hC (hts (.fieldLink RX1 22 "StatementRules2$Formulas" "code" "LStatementRules2$Code;") k_X1_expression_fieldLink_RX1_22_SR_Formulas_code_LSR_Code) (fun _ q9 => q9) dX1_expression_60 ?_
          refine lv_iload_n hx hb dX1_expression_63 rfl (lv_at hl 0 rfl) ?_
          refine lv_iconst (v := 0) hx hb dX1_expression_64 (by decide) ?_
          obtain ⟨p36, hcp36, hf⟩ := hf_bind hf
          have mo37 : CS.hs p32.2 ≤ CS.hs p36.2 := Mono.go hcp36 (m_X0_add N p32.2 7 0)
          have hr9 : CS.hs p36.2 ≤ CS.hs R.2 := Mono.go hf (hMK p36.2 (x1 + 1))
          have hFc := cFree hC hA
          refine va_callv (va_runV (As := [.int 7, .int 0]) (rest := []) ⟨hx, hb, hml, hown, hts⟩ (c_X0_add l dC dI Q N p32.2 7 0 p36 hcp36) (cwV 2 hts hX1_expression_X0_add_v68 rfl rfl rfl (by decide +kernel) ⟨(show 2 + 1 ≤ (12 + 40 * d) by omega), (show 8 + (3 + 11) + 60 * 2 ≤ 60 * (12 + 40 * d) by omega)⟩) ⟨zPre.blind, va_recv hK hC.1 (ci := 0) (q0 := 2) rfl rfl, cPre_go hZ hK hC⟩ rfl rfl hl.1 rfl (lv_room (Nat.le_of_ble_eq_true rfl)) dX1_expression_65 (cAcc h35 mo37 hr9)) hC.2.2.1 (fun q _ h => hFc q h) hFc (fun u9 t9 H1 locs ht hvm hw hB hz1 hk1 hS => ?_)
          obtain ⟨⟨hP, hK1, hD1⟩, hsz1⟩ := hB
          rw [ht] at hP hsz1
          have hC : CP dC dI Q A s.heap p36.2 H1 locs := ⟨hP, hD1.weaken (fun _ _ _ h => hFc _ h), hS, hsz1⟩
          generalize H1 = H at hC ⊢
          have h39 : z9h ≤ CS.hs p36.2 := Nat.le_trans h35 mo37
          refine W.widen (k := CS.hs p36.2 - z9h) (n := 17 * (CS.hs p36.2 - z9h)) (cAcc2 h35 mo37) (cAcc3 h35 mo37) ?_
          refine lv_iinc (v := (x1 + 1)) (lv' := [(1, .int (x1 + 1)), (2, .int 7), (0, .ref (Q.o 3))]) hx hb dX1_expression_68 hl (k := 2) rfl rfl (by decide) rfl (fun ls hl => ?_)
          refine lv_goto (tgt := 6) hx hb dX1_expression_71 (by decide) ?_
          exact ih p36.2 (x1 + 1) _ _ _ hf h39 hC (lv_sub hl [2, 0] rfl)
      ·
        replace hf := (if_pos c10).symm.trans hf
        refine lv_aload_n hx hb dX1_expression_22 rfl (lv_at hl 0 rfl) ?_
        refine lv_bipush (v := 45) hx hb dX1_expression_23 (by decide) ?_
        obtain ⟨p40, hcp40, hf⟩ := hf_bind hf
        have mo41 : CS.hs p6.2 ≤ CS.hs p40.2 := Mono.go hcp40 (m_X1_found N p6.2 45)
        have hr9 : CS.hs p40.2 ≤ CS.hs R.2 := Mono.go hf (mono_ite (mono_some (Nat.le_refl _)) (mono_bind (m_X1_found N p40.2 43) (fun p45 => (mono_ite (mono_bind (m_X9_advance N p45.2) (fun p50 => (mono_bind (m_X1_product N E1 E2 hm1 hm2 p50.2) (fun p54 => (mono_bind (m_X0_add N p54.2 8 0) (fun p58 => (hMK p58.2 (x1 + 1)))))))) (mono_bind (m_X9_advance N p45.2) (fun p62 => (mono_bind (m_X1_product N E1 E2 hm1 hm2 p62.2) (fun p66 => (mono_bind (m_X0_add N p66.2 7 0) (fun p70 => (hMK p70.2 (x1 + 1))))))))))))
        have hFc := cFree hC hA
        refine va_calli (va_runU (As := [.int 45]) (rest := []) ⟨hx, hb, hml, hown, hts⟩ (c_X1_found l dC dI Q N p6.2 45 p40 hcp40) (va_cwU 1 hts hX1_expression_X1_found_u42 rfl rfl rfl rfl (by decide +kernel) ⟨(show 1 + 1 ≤ (12 + 40 * d) by omega), (show 8 + (2 + 11) + 60 * 1 ≤ 60 * (12 + 40 * d) by omega)⟩) ⟨zPre.blind, va_recv hK hC.1 (ci := 6) (q0 := 3) rfl rfl, cPre_go hZ hK hC⟩ rfl rfl hl.1 rfl (lv_room (Nat.le_of_ble_eq_true rfl)) dX1_expression_25 (cAcc h9 mo41 hr9)) hC.2.2.1 (fun q _ h => hFc q h) hFc (fun r42 u9 t9 H1 locs ht hvm hw hB hz1 hk1 hS => ?_)
        obtain ⟨⟨hP, hK1, hD1⟩, hsz1⟩ := hB
        rw [ht] at hP hsz1
        have hC : CP dC dI Q A s.heap p40.2 H1 locs := ⟨hP, hD1.weaken (fun _ _ _ h => hFc _ h), hS, hsz1⟩
        generalize H1 = H at hC ⊢
        have h43 : z9h ≤ CS.hs p40.2 := Nat.le_trans h9 mo41
        refine W.widen (k := CS.hs p40.2 - z9h) (n := 17 * (CS.hs p40.2 - z9h)) (cAcc2 h9 mo41) (cAcc3 h9 mo41) ?_
        obtain rfl : r42 = p40.1 := hw
        refine lv_if_eq (tgt := 74) hx hb dX1_expression_28 (by decide) (fun c44 => ?_) (fun c44 => ?_)
        ·
          replace hf := (if_pos c44).symm.trans hf
          obtain rfl := Option.some.inj hf
          exact W.vret hx hb hr (fun t ht hW => ⟨⟨(), rfl, trivial, ⟨by rw [ht]; exact hC.1, va_K.moved hW.alike hK, hC.2.1⟩, by rw [ht]; exact hC.2.2.2⟩, hC.2.2.1.F ht⟩) hC.2.2.1.2.2 dX1_expression_74
        ·
          replace hf := (if_neg c44).symm.trans hf
          refine lv_aload_n hx hb dX1_expression_31 rfl (lv_at hl 0 rfl) ?_
          refine lv_bipush (v := 43) hx hb dX1_expression_32 (by decide) ?_
          obtain ⟨p45, hcp45, hf⟩ := hf_bind hf
          have mo46 : CS.hs p40.2 ≤ CS.hs p45.2 := Mono.go hcp45 (m_X1_found N p40.2 43)
          have hr9 : CS.hs p45.2 ≤ CS.hs R.2 := Mono.go hf (mono_ite (mono_bind (m_X9_advance N p45.2) (fun p50 => (mono_bind (m_X1_product N E1 E2 hm1 hm2 p50.2) (fun p54 => (mono_bind (m_X0_add N p54.2 8 0) (fun p58 => (hMK p58.2 (x1 + 1)))))))) (mono_bind (m_X9_advance N p45.2) (fun p62 => (mono_bind (m_X1_product N E1 E2 hm1 hm2 p62.2) (fun p66 => (mono_bind (m_X0_add N p66.2 7 0) (fun p70 => (hMK p70.2 (x1 + 1)))))))))
          have hFc := cFree hC hA
          refine va_calli (va_runU (As := [.int 43]) (rest := []) ⟨hx, hb, hml, hown, hts⟩ (c_X1_found l dC dI Q N p40.2 43 p45 hcp45) (va_cwU 1 hts hX1_expression_X1_found_u42 rfl rfl rfl rfl (by decide +kernel) ⟨(show 1 + 1 ≤ (12 + 40 * d) by omega), (show 8 + (2 + 11) + 60 * 1 ≤ 60 * (12 + 40 * d) by omega)⟩) ⟨zPre.blind, va_recv hK hC.1 (ci := 6) (q0 := 3) rfl rfl, cPre_go hZ hK hC⟩ rfl rfl hl.1 rfl (lv_room (Nat.le_of_ble_eq_true rfl)) dX1_expression_34 (cAcc h43 mo46 hr9)) hC.2.2.1 (fun q _ h => hFc q h) hFc (fun r47 u9 t9 H1 locs ht hvm hw hB hz1 hk1 hS => ?_)
          obtain ⟨⟨hP, hK1, hD1⟩, hsz1⟩ := hB
          rw [ht] at hP hsz1
          have hC : CP dC dI Q A s.heap p45.2 H1 locs := ⟨hP, hD1.weaken (fun _ _ _ h => hFc _ h), hS, hsz1⟩
          generalize H1 = H at hC ⊢
          have h48 : z9h ≤ CS.hs p45.2 := Nat.le_trans h43 mo46
          refine W.widen (k := CS.hs p45.2 - z9h) (n := 17 * (CS.hs p45.2 - z9h)) (cAcc2 h43 mo46) (cAcc3 h43 mo46) ?_
          obtain rfl : r47 = p45.1 := hw
          refine lv_if_eq (tgt := 45) hx hb dX1_expression_37 (by decide) (fun c49 => ?_) (fun c49 => ?_)
          ·
            replace hf := (if_pos c49).symm.trans hf
            refine lv_bipush (v := 8) hx hb dX1_expression_45 (by decide) ?_
            refine lv_istore_n (lv' := [(2, .int 8), (0, .ref (Q.o 3)), (1, .int x1)]) hx hb dX1_expression_47 rfl hl (by decide) rfl (fun ls hl => ?_)
            refine lv_aload_n hx hb dX1_expression_48 rfl (lv_at hl 1 rfl) ?_
            refine cG_28 hx hb hts i_X1_expression_X7 hown hK hC (hts (.fieldLink RX1 18 "StatementRules2$Formulas" "tokens" "LStatementRules2$Tokens;") k_X1_expression_fieldLink_RX1_18_SR_Formulas_tokens_LSR_Tokens) (fun _ q9 => q9) dX1_expression_49 ?_
            obtain ⟨p50, hcp50, hf⟩ := hf_bind hf
            have mo51 : CS.hs p45.2 ≤ CS.hs p50.2 := Mono.go hcp50 (m_X9_advance N p45.2)
            have hr9 : CS.hs p50.2 ≤ CS.hs R.2 := Mono.go hf (mono_bind (m_X1_product N E1 E2 hm1 hm2 p50.2) (fun p54 => (mono_bind (m_X0_add N p54.2 8 0) (fun p58 => (hMK p58.2 (x1 + 1))))))
            have hFc := cFree hC hA
            refine va_callv (va_runV (As := []) (rest := []) ⟨hx, hb, hml, hown, hts⟩ (c_X9_advance l dC dI Q N p45.2 p50 hcp50) (cwV 0 hts hX1_expression_X9_advance_v56 rfl rfl rfl (by decide +kernel) ⟨(show 3 + 1 ≤ (12 + 40 * d) by omega), (show 8 + (2 + 11) + 60 * 3 ≤ 60 * (12 + 40 * d) by omega)⟩) ⟨zPre.blind, va_recv hK hC.1 (ci := 8) (q0 := 4) rfl rfl, cPre_go hZ hK hC⟩ rfl rfl hl.1 rfl (lv_room (Nat.le_of_ble_eq_true rfl)) dX1_expression_52 (cAcc h48 mo51 hr9)) hC.2.2.1 (fun q _ h => hFc q h) hFc (fun u9 t9 H1 locs ht hvm hw hB hz1 hk1 hS => ?_)
            obtain ⟨⟨hP, hK1, hD1⟩, hsz1⟩ := hB
            rw [ht] at hP hsz1
            have hC : CP dC dI Q A s.heap p50.2 H1 locs := ⟨hP, hD1.weaken (fun _ _ _ h => hFc _ h), hS, hsz1⟩
            generalize H1 = H at hC ⊢
            have h53 : z9h ≤ CS.hs p50.2 := Nat.le_trans h48 mo51
            refine W.widen (k := CS.hs p50.2 - z9h) (n := 17 * (CS.hs p50.2 - z9h)) (cAcc2 h48 mo51) (cAcc3 h48 mo51) ?_
            refine lv_aload_n hx hb dX1_expression_55 rfl (lv_at hl 1 rfl) ?_
            obtain ⟨p54, hcp54, hf⟩ := hf_bind hf
            have mo55 : CS.hs p50.2 ≤ CS.hs p54.2 := Mono.go hcp54 (m_X1_product N E1 E2 hm1 hm2 p50.2)
            have hr9 : CS.hs p54.2 ≤ CS.hs R.2 := Mono.go hf (mono_bind (m_X0_add N p54.2 8 0) (fun p58 => (hMK p58.2 (x1 + 1))))
            have hFc := cFree hC hA
            refine va_callv (va_runU (As := []) (rest := []) ⟨hx, hb, hml, hown, hts⟩ (c_X1_product l dC dI Q N d E1 E2 hE1 hE2 hm1 hm2 p50.2 p54 hcp54) (va_cwU 0 hts hX1_expression_X1_product_u65 rfl rfl rfl rfl (by decide +kernel) ⟨(show (11 + 40 * d) + 1 ≤ (12 + 40 * d) by omega), (show 8 + (3 + 11) + 60 * (11 + 40 * d) ≤ 60 * (12 + 40 * d) by omega)⟩) ⟨zPre.blind, va_recv hK hC.1 (ci := 6) (q0 := 3) rfl rfl, cPre_go hZ hK hC⟩ rfl rfl hl.1 rfl (lv_room (Nat.le_of_ble_eq_true rfl)) dX1_expression_56 (cAcc h53 mo55 hr9)) hC.2.2.1 (fun q _ h => hFc q h) hFc (fun u9 t9 H1 locs ht hvm hw hB hz1 hk1 hS => ?_)
            obtain ⟨⟨hP, hK1, hD1⟩, hsz1⟩ := hB
            rw [ht] at hP hsz1
            have hC : CP dC dI Q A s.heap p54.2 H1 locs := ⟨hP, hD1.weaken (fun _ _ _ h => hFc _ h), hS, hsz1⟩
            generalize H1 = H at hC ⊢
            have h57 : z9h ≤ CS.hs p54.2 := Nat.le_trans h53 mo55
            refine W.widen (k := CS.hs p54.2 - z9h) (n := 17 * (CS.hs p54.2 - z9h)) (cAcc2 h53 mo55) (cAcc3 h53 mo55) ?_
            refine lv_aload_n hx hb dX1_expression_59 rfl (lv_at hl 1 rfl) ?_
            refine cG_29 hx hb hts i_X1_expression_X7 hown hK hC (hts (.fieldLink RX1 22 "StatementRules2$Formulas" "code" "LStatementRules2$Code;") k_X1_expression_fieldLink_RX1_22_SR_Formulas_code_LSR_Code) (fun _ q9 => q9) dX1_expression_60 ?_
            refine lv_iload_n hx hb dX1_expression_63 rfl (lv_at hl 0 rfl) ?_
            refine lv_iconst (v := 0) hx hb dX1_expression_64 (by decide) ?_
            obtain ⟨p58, hcp58, hf⟩ := hf_bind hf
            have mo59 : CS.hs p54.2 ≤ CS.hs p58.2 := Mono.go hcp58 (m_X0_add N p54.2 8 0)
            have hr9 : CS.hs p58.2 ≤ CS.hs R.2 := Mono.go hf (hMK p58.2 (x1 + 1))
            have hFc := cFree hC hA
            refine va_callv (va_runV (As := [.int 8, .int 0]) (rest := []) ⟨hx, hb, hml, hown, hts⟩ (c_X0_add l dC dI Q N p54.2 8 0 p58 hcp58) (cwV 2 hts hX1_expression_X0_add_v68 rfl rfl rfl (by decide +kernel) ⟨(show 2 + 1 ≤ (12 + 40 * d) by omega), (show 8 + (3 + 11) + 60 * 2 ≤ 60 * (12 + 40 * d) by omega)⟩) ⟨zPre.blind, va_recv hK hC.1 (ci := 0) (q0 := 2) rfl rfl, cPre_go hZ hK hC⟩ rfl rfl hl.1 rfl (lv_room (Nat.le_of_ble_eq_true rfl)) dX1_expression_65 (cAcc h57 mo59 hr9)) hC.2.2.1 (fun q _ h => hFc q h) hFc (fun u9 t9 H1 locs ht hvm hw hB hz1 hk1 hS => ?_)
            obtain ⟨⟨hP, hK1, hD1⟩, hsz1⟩ := hB
            rw [ht] at hP hsz1
            have hC : CP dC dI Q A s.heap p58.2 H1 locs := ⟨hP, hD1.weaken (fun _ _ _ h => hFc _ h), hS, hsz1⟩
            generalize H1 = H at hC ⊢
            have h61 : z9h ≤ CS.hs p58.2 := Nat.le_trans h57 mo59
            refine W.widen (k := CS.hs p58.2 - z9h) (n := 17 * (CS.hs p58.2 - z9h)) (cAcc2 h57 mo59) (cAcc3 h57 mo59) ?_
            refine lv_iinc (v := (x1 + 1)) (lv' := [(1, .int (x1 + 1)), (2, .int 8), (0, .ref (Q.o 3))]) hx hb dX1_expression_68 hl (k := 2) rfl rfl (by decide) rfl (fun ls hl => ?_)
            refine lv_goto (tgt := 6) hx hb dX1_expression_71 (by decide) ?_
            exact ih p58.2 (x1 + 1) _ _ _ hf h61 hC (lv_sub hl [2, 0] rfl)
          ·
            replace hf := (if_neg c49).symm.trans hf
            refine lv_bipush (v := 7) hx hb dX1_expression_40 (by decide) ?_
            refine lv_goto (tgt := 47) hx hb dX1_expression_42 (by decide) ?_
            refine lv_istore_n (lv' := [(2, .int 7), (0, .ref (Q.o 3)), (1, .int x1)]) hx hb dX1_expression_47 rfl hl (by decide) rfl (fun ls hl => ?_)
            refine lv_aload_n hx hb dX1_expression_48 rfl (lv_at hl 1 rfl) ?_
            refine cG_28 hx hb hts i_X1_expression_X7 hown hK hC (hts (.fieldLink RX1 18 "StatementRules2$Formulas" "tokens" "LStatementRules2$Tokens;") k_X1_expression_fieldLink_RX1_18_SR_Formulas_tokens_LSR_Tokens) (fun _ q9 => q9) dX1_expression_49 ?_
            obtain ⟨p62, hcp62, hf⟩ := hf_bind hf
            have mo63 : CS.hs p45.2 ≤ CS.hs p62.2 := Mono.go hcp62 (m_X9_advance N p45.2)
            have hr9 : CS.hs p62.2 ≤ CS.hs R.2 := Mono.go hf (mono_bind (m_X1_product N E1 E2 hm1 hm2 p62.2) (fun p66 => (mono_bind (m_X0_add N p66.2 7 0) (fun p70 => (hMK p70.2 (x1 + 1))))))
            have hFc := cFree hC hA
            refine va_callv (va_runV (As := []) (rest := []) ⟨hx, hb, hml, hown, hts⟩ (c_X9_advance l dC dI Q N p45.2 p62 hcp62) (cwV 0 hts hX1_expression_X9_advance_v56 rfl rfl rfl (by decide +kernel) ⟨(show 3 + 1 ≤ (12 + 40 * d) by omega), (show 8 + (2 + 11) + 60 * 3 ≤ 60 * (12 + 40 * d) by omega)⟩) ⟨zPre.blind, va_recv hK hC.1 (ci := 8) (q0 := 4) rfl rfl, cPre_go hZ hK hC⟩ rfl rfl hl.1 rfl (lv_room (Nat.le_of_ble_eq_true rfl)) dX1_expression_52 (cAcc h48 mo63 hr9)) hC.2.2.1 (fun q _ h => hFc q h) hFc (fun u9 t9 H1 locs ht hvm hw hB hz1 hk1 hS => ?_)
            obtain ⟨⟨hP, hK1, hD1⟩, hsz1⟩ := hB
            rw [ht] at hP hsz1
            have hC : CP dC dI Q A s.heap p62.2 H1 locs := ⟨hP, hD1.weaken (fun _ _ _ h => hFc _ h), hS, hsz1⟩
            generalize H1 = H at hC ⊢
            have h65 : z9h ≤ CS.hs p62.2 := Nat.le_trans h48 mo63
            refine W.widen (k := CS.hs p62.2 - z9h) (n := 17 * (CS.hs p62.2 - z9h)) (cAcc2 h48 mo63) (cAcc3 h48 mo63) ?_
            refine lv_aload_n hx hb dX1_expression_55 rfl (lv_at hl 1 rfl) ?_
            obtain ⟨p66, hcp66, hf⟩ := hf_bind hf
            have mo67 : CS.hs p62.2 ≤ CS.hs p66.2 := Mono.go hcp66 (m_X1_product N E1 E2 hm1 hm2 p62.2)
            have hr9 : CS.hs p66.2 ≤ CS.hs R.2 := Mono.go hf (mono_bind (m_X0_add N p66.2 7 0) (fun p70 => (hMK p70.2 (x1 + 1))))
            have hFc := cFree hC hA
            refine va_callv (va_runU (As := []) (rest := []) ⟨hx, hb, hml, hown, hts⟩ (c_X1_product l dC dI Q N d E1 E2 hE1 hE2 hm1 hm2 p62.2 p66 hcp66) (va_cwU 0 hts hX1_expression_X1_product_u65 rfl rfl rfl rfl (by decide +kernel) ⟨(show (11 + 40 * d) + 1 ≤ (12 + 40 * d) by omega), (show 8 + (3 + 11) + 60 * (11 + 40 * d) ≤ 60 * (12 + 40 * d) by omega)⟩) ⟨zPre.blind, va_recv hK hC.1 (ci := 6) (q0 := 3) rfl rfl, cPre_go hZ hK hC⟩ rfl rfl hl.1 rfl (lv_room (Nat.le_of_ble_eq_true rfl)) dX1_expression_56 (cAcc h65 mo67 hr9)) hC.2.2.1 (fun q _ h => hFc q h) hFc (fun u9 t9 H1 locs ht hvm hw hB hz1 hk1 hS => ?_)
            obtain ⟨⟨hP, hK1, hD1⟩, hsz1⟩ := hB
            rw [ht] at hP hsz1
            have hC : CP dC dI Q A s.heap p66.2 H1 locs := ⟨hP, hD1.weaken (fun _ _ _ h => hFc _ h), hS, hsz1⟩
            generalize H1 = H at hC ⊢
            have h69 : z9h ≤ CS.hs p66.2 := Nat.le_trans h65 mo67
            refine W.widen (k := CS.hs p66.2 - z9h) (n := 17 * (CS.hs p66.2 - z9h)) (cAcc2 h65 mo67) (cAcc3 h65 mo67) ?_
            refine lv_aload_n hx hb dX1_expression_59 rfl (lv_at hl 1 rfl) ?_
            refine cG_29 hx hb hts i_X1_expression_X7 hown hK hC (hts (.fieldLink RX1 22 "StatementRules2$Formulas" "code" "LStatementRules2$Code;") k_X1_expression_fieldLink_RX1_22_SR_Formulas_code_LSR_Code) (fun _ q9 => q9) dX1_expression_60 ?_
            refine lv_iload_n hx hb dX1_expression_63 rfl (lv_at hl 0 rfl) ?_
            refine lv_iconst (v := 0) hx hb dX1_expression_64 (by decide) ?_
            obtain ⟨p70, hcp70, hf⟩ := hf_bind hf
            have mo71 : CS.hs p66.2 ≤ CS.hs p70.2 := Mono.go hcp70 (m_X0_add N p66.2 7 0)
            have hr9 : CS.hs p70.2 ≤ CS.hs R.2 := Mono.go hf (hMK p70.2 (x1 + 1))
            have hFc := cFree hC hA
            refine va_callv (va_runV (As := [.int 7, .int 0]) (rest := []) ⟨hx, hb, hml, hown, hts⟩ (c_X0_add l dC dI Q N p66.2 7 0 p70 hcp70) (cwV 2 hts hX1_expression_X0_add_v68 rfl rfl rfl (by decide +kernel) ⟨(show 2 + 1 ≤ (12 + 40 * d) by omega), (show 8 + (3 + 11) + 60 * 2 ≤ 60 * (12 + 40 * d) by omega)⟩) ⟨zPre.blind, va_recv hK hC.1 (ci := 0) (q0 := 2) rfl rfl, cPre_go hZ hK hC⟩ rfl rfl hl.1 rfl (lv_room (Nat.le_of_ble_eq_true rfl)) dX1_expression_65 (cAcc h69 mo71 hr9)) hC.2.2.1 (fun q _ h => hFc q h) hFc (fun u9 t9 H1 locs ht hvm hw hB hz1 hk1 hS => ?_)
            obtain ⟨⟨hP, hK1, hD1⟩, hsz1⟩ := hB
            rw [ht] at hP hsz1
            have hC : CP dC dI Q A s.heap p70.2 H1 locs := ⟨hP, hD1.weaken (fun _ _ _ h => hFc _ h), hS, hsz1⟩
            generalize H1 = H at hC ⊢
            have h73 : z9h ≤ CS.hs p70.2 := Nat.le_trans h69 mo71
            refine W.widen (k := CS.hs p70.2 - z9h) (n := 17 * (CS.hs p70.2 - z9h)) (cAcc2 h69 mo71) (cAcc3 h69 mo71) ?_
            refine lv_iinc (v := (x1 + 1)) (lv' := [(1, .int (x1 + 1)), (2, .int 7), (0, .ref (Q.o 3))]) hx hb dX1_expression_68 hl (k := 2) rfl rfl (by decide) rfl (fun ls hl => ?_)
            refine lv_goto (tgt := 6) hx hb dX1_expression_71 (by decide) ?_
            exact ih p70.2 (x1 + 1) _ _ _ hf h73 hC (lv_sub hl [2, 0] rfl)
set_option maxHeartbeats 4000000 in
set_option maxRecDepth 100000 in
theorem c_X1_expression (l : Launch) (dC : Nat → ClassId) (dI : Nat → Nat → Nat) (Q : CQ) (N : Nat) (d : Nat) (E1 : CS → Option (Unit × CS)) (E2 : CS → Option (Int32 × CS)) (hE1 : cMF l dC dI Q d E1) (hE2 : cMO l dC dI Q d E2) (hm1 : ∀ σ, Mono (CS.hs σ) (E1 σ)) (hm2 : ∀ σ, Mono (CS.hs σ) (E2 σ)) (σ : CS) (R : Unit × CS) (hf : f_X1_expression N E1 E2 σ = some R) : Met l yX1_expression wzX1_expression ({ frames := (12 + 40 * d), cells := CS.hs R.2 - CS.hs σ, slots := 17 * (CS.hs R.2 - CS.hs σ), locals := 60 * (12 + 40 * d) }) (va_Pc [.ref (Q.o 3)] (zPre dC dI (CS.hs σ) (cW Q σ) (cT Q))) (va_Qv (fun (_ : Unit) => True) (fun (_ : Unit) (t : State) => zPost dC dI (va_A (cW Q σ) (CS.hs σ)) (cW Q R.2) (cT Q) t ∧ t.heap.size = CS.hs R.2) (va_A (cW Q σ) (CS.hs σ))) (CS.hs R.2 - CS.hs σ) (17 * (CS.hs R.2 - CS.hs σ)) (va_A (cW Q σ) (CS.hs σ)) := by
  refine Met.ofW (cc := cX1_expression) (maxL := 3) (ret := none) (by decide) rfl ?_
  intro p e s m args below meth c s₁ B hml hv
  obtain ⟨rfl, hsz, hZ, hP, hK, hD0⟩ := hv
  have hx := B.exec
  have hb := B.bytes
  have hr := B.returns
  have hts := atoms_spec (ws := wzX1_expression) B.pre
  have hown : s.vm.findClass RX1 = some m.cls := findClass_of_methodNamed B.named
  have hlocks := B.notSynchronized
  have hD := hD0.self (sz := CS.hs σ)
  generalize hAe : va_A (cW Q σ) (CS.hs σ) = A at hD ⊢
  have hA : ∀ q : Nat, s.heap.size ≤ q → A q := fun q h => by rw [← hAe]; exact Or.inr (hsz ▸ h)
  have hC : CP dC dI Q A s.heap σ s.heap [] := ⟨hP, hD, va_S.rf, hsz⟩
  have h0 : CS.hs σ ≤ CS.hs σ := Nat.le_refl _
  have hl := lv_entry ([.ref (Q.o 3)]) (n := 3) (Nat.le_of_ble_eq_true rfl)
  rw [lg_entry_eq]
  generalize (lg_sl ([.ref (Q.o 3)]) ++ List.replicate (3 - (lg_sl ([.ref (Q.o 3)])).length) Slot.unset).toArray = ls at hl ⊢
  have hl : lv_has ls 3 [(0, .ref (Q.o 3))] := hl
  unfold f_X1_expression at hf
  refine W.widen (k := CS.hs σ - CS.hs σ) (n := 17 * (CS.hs σ - CS.hs σ)) (Nat.zero_le _) (Nat.zero_le _) ?_
  refine lv_aload_n hx hb dX1_expression_0 rfl (lv_at hl 0 rfl) ?_
  obtain ⟨p1, hcp1, hf⟩ := hf_bind hf
  have mo2 : CS.hs σ ≤ CS.hs p1.2 := Mono.go hcp1 (m_X1_product N E1 E2 hm1 hm2 σ)
  have hr9 : CS.hs p1.2 ≤ CS.hs R.2 := Mono.go hf (m_X1_expression_6 N E1 E2 hm1 hm2 N p1.2 0)
  have hFc := cFree hC hA
  refine va_callv (va_runU (As := []) (rest := []) ⟨hx, hb, hml, hown, hts⟩ (c_X1_product l dC dI Q N d E1 E2 hE1 hE2 hm1 hm2 σ p1 hcp1) (va_cwU 0 hts hX1_expression_X1_product_u65 rfl rfl rfl rfl (by decide +kernel) ⟨(show (11 + 40 * d) + 1 ≤ (12 + 40 * d) by omega), (show 8 + (3 + 11) + 60 * (11 + 40 * d) ≤ 60 * (12 + 40 * d) by omega)⟩) ⟨zPre.blind, va_recv hK hC.1 (ci := 6) (q0 := 3) rfl rfl, cPre_go hZ hK hC⟩ rfl rfl hl.1 rfl (lv_room (Nat.le_of_ble_eq_true rfl)) dX1_expression_1 (cAcc h0 mo2 hr9)) hC.2.2.1 (fun q _ h => hFc q h) hFc (fun u9 t9 H1 locs ht hvm hw hB hz1 hk1 hS => ?_)
  obtain ⟨⟨hP, hK1, hD1⟩, hsz1⟩ := hB
  rw [ht] at hP hsz1
  have hC : CP dC dI Q A s.heap p1.2 H1 locs := ⟨hP, hD1.weaken (fun _ _ _ h => hFc _ h), hS, hsz1⟩
  generalize H1 = H at hC ⊢
  have h4 : (CS.hs σ) ≤ CS.hs p1.2 := Nat.le_trans h0 mo2
  refine W.widen (k := CS.hs p1.2 - (CS.hs σ)) (n := 17 * (CS.hs p1.2 - (CS.hs σ))) (cAcc2 h0 mo2) (cAcc3 h0 mo2) ?_
  refine lv_iconst (v := 0) hx hb dX1_expression_4 (by decide) ?_
  refine lv_istore_n (lv' := [(1, .int 0), (0, .ref (Q.o 3))]) hx hb dX1_expression_5 rfl hl (by decide) rfl (fun ls hl => ?_)
  exact j_X1_expression_6 l dC dI Q N d E1 E2 hE1 hE2 hm1 hm2 (CS.hs σ) R hx hb hr hml hown hts hlocks hZ hA hK N p1.2 0 _ _ _ hf h4 hC (lv_sub hl [1, 0] rfl)
theorem k_X4_find_fieldLink_RX4_20_SR_Names_count_I : Cond.fieldLink RX4 20 "StatementRules2$Names" "count" "I" ∈ wzX4_find := List.mem_cons_of_mem _ (List.mem_append_left _ (List.mem_of_getElem? (i := 0) rfl))
theorem i_X4_find_X4 : ∀ w ∈ wsX40, w ∈ wzX4_find := fun _ h => List.mem_cons_of_mem _ (List.mem_append_right _ (List.mem_append_left _ (h)))
theorem k_X4_find_fieldLink_RX4_7_SR_Names_names_J : Cond.fieldLink RX4 7 "StatementRules2$Names" "names" "[J" ∈ wzX4_find := List.mem_cons_of_mem _ (List.mem_append_left _ (List.mem_of_getElem? (i := 1) rfl))
set_option maxHeartbeats 4000000 in
set_option maxRecDepth 100000 in
theorem j_X4_find_38 {p : Program} {e : Env} {s : State} {m : MethodId} {args : Array Value} {below : List Frame} {meth : Method} {c : Code} {A : Nat → Prop} (l : Launch) (dC : Nat → ClassId) (dI : Nat → Nat → Nat) (Q : CQ) (N : Nat) (z9h : Nat) (R : Int32 × CS) (hx : p.tables.exec = Jvm.exec) (hb : c.code = cX4_find) (hr : meth.sig.returnType = (some .int)) (hml : c.maxLocals = 4) (hown : s.vm.findClass RX4 = some m.cls) (hts : ∀ w ∈ wzX4_find, w.before args s = true) (hlocks : meth.locks = false) (hZ : zAMB s) (hA : ∀ q : Nat, s.heap.size ≤ q → A q) (hK : va_K (dC, dI) vwCl (cT Q) s) : ∀ (σ : CS) (H : Heap) (locs : List Loc) (ls : Array Slot), f_X4_find_38 N σ = some R → z9h ≤ CS.hs σ → CP dC dI Q A s.heap σ H locs → lv_has ls 4 [] → W p l e ({ frames := 1, cells := CS.hs R.2 - z9h, slots := 17 * (CS.hs R.2 - z9h), locals := 60 * 1 }) s m args below meth c H locs (CS.hs σ - z9h) (17 * (CS.hs σ - z9h)) (MQ below (va_Qi (fun (r : Int32) (_ : Unit) => r = R.1) (fun (_ : Unit) (t : State) => zPost dC dI A (cW Q R.2) (cT Q) t ∧ t.heap.size = CS.hs R.2) A) args s (CS.hs R.2 - z9h) (17 * (CS.hs R.2 - z9h)) A) (F0 m 38 ls []) := by
  intro σ  H locs ls hf h0 hC hl
  unfold f_X4_find_38 at hf
  refine lv_iconst (v := (-1)) hx hb dX4_find_38 (by decide) ?_
  obtain rfl := Option.some.inj hf
  exact W.iret (v := (-1)) hx hb hr (fun t ht hW => ⟨⟨(-1), (), rfl, rfl, ⟨by rw [ht]; exact hC.1, va_K.moved hW.alike hK, hC.2.1⟩, by rw [ht]; exact hC.2.2.2⟩, hC.2.2.1.F ht⟩) hC.2.2.1.2.2 dX4_find_39
set_option maxHeartbeats 4000000 in
set_option maxRecDepth 100000 in
theorem j_X4_find_2 {p : Program} {e : Env} {s : State} {m : MethodId} {args : Array Value} {below : List Frame} {meth : Method} {c : Code} {A : Nat → Prop} (l : Launch) (dC : Nat → ClassId) (dI : Nat → Nat → Nat) (Q : CQ) (N : Nat) (z9h : Nat) (R : Int32 × CS) (hx : p.tables.exec = Jvm.exec) (hb : c.code = cX4_find) (hr : meth.sig.returnType = (some .int)) (hml : c.maxLocals = 4) (hown : s.vm.findClass RX4 = some m.cls) (hts : ∀ w ∈ wzX4_find, w.before args s = true) (hlocks : meth.locks = false) (hZ : zAMB s) (hA : ∀ q : Nat, s.heap.size ≤ q → A q) (hK : va_K (dC, dI) vwCl (cT Q) s) : ∀ (n9 : Nat), ∀ (σ : CS) (x1 : Int64) (x3 : Int32) (H : Heap) (locs : List Loc) (ls : Array Slot), f_X4_find_2 N n9 σ x1 x3 = some R → z9h ≤ CS.hs σ → CP dC dI Q A s.heap σ H locs → lv_has ls 4 [(0, .ref (Q.o 5)), (1, .long x1), (3, .int x3)] → W p l e ({ frames := 1, cells := CS.hs R.2 - z9h, slots := 17 * (CS.hs R.2 - z9h), locals := 60 * 1 }) s m args below meth c H locs (CS.hs σ - z9h) (17 * (CS.hs σ - z9h)) (MQ below (va_Qi (fun (r : Int32) (_ : Unit) => r = R.1) (fun (_ : Unit) (t : State) => zPost dC dI A (cW Q R.2) (cT Q) t ∧ t.heap.size = CS.hs R.2) A) args s (CS.hs R.2 - z9h) (17 * (CS.hs R.2 - z9h)) A) (F0 m 2 ls []) := by
  intro n9
  induction n9 with
  | zero => intro σ x1 x3 H locs ls hf; exact absurd hf (by intro q9; cases q9)
  | succ n9 ih =>
    intro σ x1 x3 H locs ls hf h0 hC hl
    replace hf : b_X4_find_2 N (f_X4_find_2 N n9) σ x1 x3 = some R := hf
    unfold b_X4_find_2 at hf
    have hMK := fun (σ : CS) (x1 : Int64) (x3 : Int32) => m_X4_find_2 N n9 σ x1 x3
    refine lv_iload_n hx hb dX4_find_2 rfl (lv_at hl 2 rfl) ?_
    refine lv_aload_n hx hb dX4_find_3 rfl (lv_at hl 0 rfl) ?_
    refine cG_50 (v := (σ.i 50)) hx hb hts i_X4_find_X4 hown hK hC (hts (.fieldLink RX4 20 "StatementRules2$Names" "count" "I") k_X4_find_fieldLink_RX4_20_SR_Names_count_I) (fun _ q9 => q9) dX4_find_4 rfl ?_
    refine lv_icmp_ge (tgt := 38) hx hb dX4_find_7 (by decide) (fun c1 => ?_) (fun c1 => ?_)
    ·
      replace hf := (if_pos c1).symm.trans hf
      exact j_X4_find_38 l dC dI Q N z9h R hx hb hr hml hown hts hlocks hZ hA hK σ _ _ _ hf h0 hC (lv_sub hl [] rfl)
    ·
      replace hf := (if_neg c1).symm.trans hf
      refine lv_iload_n hx hb dX4_find_10 rfl (lv_at hl 2 rfl) ?_
      refine lv_aload_n hx hb dX4_find_11 rfl (lv_at hl 0 rfl) ?_
      refine cG_47 hx hb hts i_X4_find_X4 hown hK hC (hts (.fieldLink RX4 7 "StatementRules2$Names" "names" "[J") k_X4_find_fieldLink_RX4_7_SR_Names_names_J) (fun _ q9 => q9) dX4_find_12 ?_
      refine va_alen (v := 128) hx hb hK hC.1 19 1 rfl rfl rfl dX4_find_15 ?_
      refine lv_icmp_ge (tgt := 38) hx hb dX4_find_16 (by decide) (fun c2 => ?_) (fun c2 => ?_)
      ·
        replace hf := (if_pos c2).symm.trans hf
        exact j_X4_find_38 l dC dI Q N z9h R hx hb hr hml hown hts hlocks hZ hA hK σ _ _ _ hf h0 hC (lv_sub hl [] rfl)
      ·
        replace hf := (if_neg c2).symm.trans hf
        refine lv_aload_n hx hb dX4_find_19 rfl (lv_at hl 0 rfl) ?_
        refine cG_47 hx hb hts i_X4_find_X4 hown hK hC (hts (.fieldLink RX4 7 "StatementRules2$Names" "names" "[J") k_X4_find_fieldLink_RX4_7_SR_Names_names_J) (fun _ q9 => q9) dX4_find_20 ?_
        refine lv_iload_n hx hb dX4_find_23 rfl (lv_at hl 2 rfl) ?_
        obtain ⟨b3, hf⟩ := hf_ite hf
        refine cL_47 (v := ((σ.b 47) ((x3 : Int32).toNatClampNeg))) hx hb hK hC b3 dX4_find_24 rfl ?_
        refine lv_lload_n hx hb dX4_find_25 rfl (lv_at hl 1 rfl) ?_
        refine W.lcmp hx hb dX4_find_26 ?_
        refine lv_if_ne (tgt := 32) hx hb dX4_find_27 (by decide) (fun c4 => ?_) (fun c4 => ?_)
        ·
          replace hf := (if_neg c4).symm.trans hf
          refine lv_iinc (v := (x3 + 1)) (lv' := [(3, .int (x3 + 1)), (0, .ref (Q.o 5)), (1, .long x1)]) hx hb dX4_find_32 hl (k := 2) rfl rfl (by decide) rfl (fun ls hl => ?_)
          refine lv_goto (tgt := 2) hx hb dX4_find_35 (by decide) ?_
          exact ih σ x1 (x3 + 1) _ _ _ hf h0 hC (lv_sub hl [1, 2, 0] rfl)
        ·
          replace hf := (if_pos c4).symm.trans hf
          refine lv_iload_n hx hb dX4_find_30 rfl (lv_at hl 2 rfl) ?_
          obtain rfl := Option.some.inj hf
          exact W.iret (v := x3) hx hb hr (fun t ht hW => ⟨⟨x3, (), rfl, rfl, ⟨by rw [ht]; exact hC.1, va_K.moved hW.alike hK, hC.2.1⟩, by rw [ht]; exact hC.2.2.2⟩, hC.2.2.1.F ht⟩) hC.2.2.1.2.2 dX4_find_31
set_option maxHeartbeats 4000000 in
set_option maxRecDepth 100000 in
theorem c_X4_find (l : Launch) (dC : Nat → ClassId) (dI : Nat → Nat → Nat) (Q : CQ) (N : Nat) (σ : CS) (x1 : Int64) (R : Int32 × CS) (hf : f_X4_find N σ x1 = some R) : Met l yX4_find wzX4_find ({ frames := 1, cells := CS.hs R.2 - CS.hs σ, slots := 17 * (CS.hs R.2 - CS.hs σ), locals := 60 * 1 }) (va_Pc [.ref (Q.o 5), .long x1] (zPre dC dI (CS.hs σ) (cW Q σ) (cT Q))) (va_Qi (fun (r : Int32) (_ : Unit) => r = R.1) (fun (_ : Unit) (t : State) => zPost dC dI (va_A (cW Q σ) (CS.hs σ)) (cW Q R.2) (cT Q) t ∧ t.heap.size = CS.hs R.2) (va_A (cW Q σ) (CS.hs σ))) (CS.hs R.2 - CS.hs σ) (17 * (CS.hs R.2 - CS.hs σ)) (va_A (cW Q σ) (CS.hs σ)) := by
  refine Met.ofW (cc := cX4_find) (maxL := 4) (ret := (some .int)) (by decide) rfl ?_
  intro p e s m args below meth c s₁ B hml hv
  obtain ⟨rfl, hsz, hZ, hP, hK, hD0⟩ := hv
  have hx := B.exec
  have hb := B.bytes
  have hr := B.returns
  have hts := atoms_spec (ws := wzX4_find) B.pre
  have hown : s.vm.findClass RX4 = some m.cls := findClass_of_methodNamed B.named
  have hlocks := B.notSynchronized
  have hD := hD0.self (sz := CS.hs σ)
  generalize hAe : va_A (cW Q σ) (CS.hs σ) = A at hD ⊢
  have hA : ∀ q : Nat, s.heap.size ≤ q → A q := fun q h => by rw [← hAe]; exact Or.inr (hsz ▸ h)
  have hC : CP dC dI Q A s.heap σ s.heap [] := ⟨hP, hD, va_S.rf, hsz⟩
  have h0 : CS.hs σ ≤ CS.hs σ := Nat.le_refl _
  have hl := lv_entry ([.ref (Q.o 5), .long x1]) (n := 4) (Nat.le_of_ble_eq_true rfl)
  rw [lg_entry_eq]
  generalize (lg_sl ([.ref (Q.o 5), .long x1]) ++ List.replicate (4 - (lg_sl ([.ref (Q.o 5), .long x1])).length) Slot.unset).toArray = ls at hl ⊢
  have hl : lv_has ls 4 [(0, .ref (Q.o 5)), (1, .long x1)] := hl
  unfold f_X4_find at hf
  refine W.widen (k := CS.hs σ - CS.hs σ) (n := 17 * (CS.hs σ - CS.hs σ)) (Nat.zero_le _) (Nat.zero_le _) ?_
  refine lv_iconst (v := 0) hx hb dX4_find_0 (by decide) ?_
  refine lv_istore_n (lv' := [(3, .int 0), (0, .ref (Q.o 5)), (1, .long x1)]) hx hb dX4_find_1 rfl hl (by decide) rfl (fun ls hl => ?_)
  exact j_X4_find_2 l dC dI Q N (CS.hs σ) R hx hb hr hml hown hts hlocks hZ hA hK N σ x1 0 _ _ _ hf h0 hC (lv_sub hl [1, 2, 0] rfl)
theorem k_X4_cellOf_fieldLink_RX4_13_SR_Names_cells_I : Cond.fieldLink RX4 13 "StatementRules2$Names" "cells" "[I" ∈ wzX4_cellOf := List.mem_cons_of_mem _ (List.mem_append_left _ (List.mem_of_getElem? (i := 0) rfl))
theorem i_X4_cellOf_X4 : ∀ w ∈ wsX40, w ∈ wzX4_cellOf := fun _ h => List.mem_cons_of_mem _ (List.mem_append_right _ (List.mem_append_left _ (h)))
theorem k_X4_cellOf_initialized_RX11 : Cond.initialized RX11 ∈ wzX4_cellOf := List.mem_cons_of_mem _ (List.mem_append_left _ (List.mem_of_getElem? (i := 1) rfl))
theorem k_X4_cellOf_static_yX11_at : Cond.static yX11_at ∈ wzX4_cellOf := List.mem_cons_of_mem _ (List.mem_append_left _ (List.mem_of_getElem? (i := 2) rfl))
set_option maxHeartbeats 4000000 in
set_option maxRecDepth 100000 in
theorem c_X4_cellOf (l : Launch) (dC : Nat → ClassId) (dI : Nat → Nat → Nat) (Q : CQ) (N : Nat) (σ : CS) (x1 : Int32) (R : Int32 × CS) (hf : f_X4_cellOf N σ x1 = some R) : Met l yX4_cellOf wzX4_cellOf ({ frames := 2, cells := CS.hs R.2 - CS.hs σ, slots := 17 * (CS.hs R.2 - CS.hs σ), locals := 60 * 2 }) (va_Pc [.ref (Q.o 5), .int x1] (zPre dC dI (CS.hs σ) (cW Q σ) (cT Q))) (va_Qi (fun (r : Int32) (_ : Unit) => r = R.1) (fun (_ : Unit) (t : State) => zPost dC dI (va_A (cW Q σ) (CS.hs σ)) (cW Q R.2) (cT Q) t ∧ t.heap.size = CS.hs R.2) (va_A (cW Q σ) (CS.hs σ))) (CS.hs R.2 - CS.hs σ) (17 * (CS.hs R.2 - CS.hs σ)) (va_A (cW Q σ) (CS.hs σ)) := by
  refine Met.ofW (cc := cX4_cellOf) (maxL := 2) (ret := (some .int)) (by decide) rfl ?_
  intro p e s m args below meth c s₁ B hml hv
  obtain ⟨rfl, hsz, hZ, hP, hK, hD0⟩ := hv
  have hx := B.exec
  have hb := B.bytes
  have hr := B.returns
  have hts := atoms_spec (ws := wzX4_cellOf) B.pre
  have hown : s.vm.findClass RX4 = some m.cls := findClass_of_methodNamed B.named
  have hlocks := B.notSynchronized
  have hD := hD0.self (sz := CS.hs σ)
  generalize hAe : va_A (cW Q σ) (CS.hs σ) = A at hD ⊢
  have hA : ∀ q : Nat, s.heap.size ≤ q → A q := fun q h => by rw [← hAe]; exact Or.inr (hsz ▸ h)
  have hC : CP dC dI Q A s.heap σ s.heap [] := ⟨hP, hD, va_S.rf, hsz⟩
  have h0 : CS.hs σ ≤ CS.hs σ := Nat.le_refl _
  have hl := lv_entry ([.ref (Q.o 5), .int x1]) (n := 2) (Nat.le_of_ble_eq_true rfl)
  rw [lg_entry_eq]
  generalize (lg_sl ([.ref (Q.o 5), .int x1]) ++ List.replicate (2 - (lg_sl ([.ref (Q.o 5), .int x1])).length) Slot.unset).toArray = ls at hl ⊢
  have hl : lv_has ls 2 [(0, .ref (Q.o 5)), (1, .int x1)] := hl
  unfold f_X4_cellOf at hf
  refine W.widen (k := CS.hs σ - CS.hs σ) (n := 17 * (CS.hs σ - CS.hs σ)) (Nat.zero_le _) (Nat.zero_le _) ?_
  refine lv_aload_n hx hb dX4_cellOf_0 rfl (lv_at hl 0 rfl) ?_
  refine cG_48 hx hb hts i_X4_cellOf_X4 hown hK hC (hts (.fieldLink RX4 13 "StatementRules2$Names" "cells" "[I") k_X4_cellOf_fieldLink_RX4_13_SR_Names_cells_I) (fun _ q9 => q9) dX4_cellOf_1 ?_
  refine lv_iload_n hx hb dX4_cellOf_4 rfl (lv_at hl 1 rfl) ?_
  have he9 := (cArr_48 (Q := Q) (σ := σ))
  have hFc := cFree1 hC hA he9
  have hr9 : CS.hs σ ≤ CS.hs R.2 := Mono.go hf (mono_some (Nat.le_refl _))
  refine va_calli (va_runSN (As := [.ref (Q.q 48), .int x1]) (rest := []) ⟨hx, hb, hml, hown, hts⟩ (c_X11_at l dC dI _ (Q.q 48) (Q.c 0) 128 (σ.a 48) x1 (by decide)) ⟨va_cnB 2 hts hX4_cellOf_X11_at_n24 rfl rfl rfl (hZ.1 (.methodLinkNest RX4 24 yX11_at "StatementRules2") (by decide +kernel)) (hts (.initialized RX11) k_X4_cellOf_initialized_RX11) (by decide +kernel) ⟨(show 1 + 1 ≤ 2 by omega), (show 8 + (2 + 11) + 60 * 1 ≤ 60 * 2 by omega)⟩, (hts (.static yX11_at) k_X4_cellOf_static_yX11_at), trivial⟩ ⟨zPre.blind, zPre.go hZ (cOne hC.1 he9) (hK.sub (tys' := [(Q.c 0, .int)]) [0] rfl) (cOneD hC.2.1 he9)⟩ rfl rfl hl.1 rfl (lv_room (Nat.le_of_ble_eq_true rfl)) dX4_cellOf_5 ⟨cAcc4 h0 hr9, cAcc5 h0 hr9⟩) hC.2.2.1 (fun q _ h => hFc q h) hFc (fun r1 u9 t9 H1 locs ht hvm hw hB hz1 hk1 hS => ?_)
  obtain ⟨⟨hP1, hK1, hD1⟩, hsz1⟩ := hB
  rw [ht] at hP1 hsz1
  have hC := cBack (σ' := σ) hC he9 (cSelf he9) (Eq.refl (CS.hs σ)) hk1 hP1 hsz1 hS
  generalize H1 = H at hC ⊢
  obtain rfl : r1 = (gAt (σ.a 48) 128 x1) := hw
  obtain rfl := Option.some.inj hf
  exact W.iret (v := (gAt (σ.a 48) 128 x1)) hx hb hr (fun t ht hW => ⟨⟨(gAt (σ.a 48) 128 x1), (), rfl, rfl, ⟨by rw [ht]; exact hC.1, va_K.moved hW.alike hK, hC.2.1⟩, by rw [ht]; exact hC.2.2.2⟩, hC.2.2.1.F ht⟩) hC.2.2.1.2.2 dX4_cellOf_8
theorem k_X1_loadName_fieldLink_RX1_12_SR_Formulas_names_LSR_Names : Cond.fieldLink RX1 12 "StatementRules2$Formulas" "names" "LStatementRules2$Names;" ∈ wzX1_loadName := List.mem_cons_of_mem _ (List.mem_append_left _ (List.mem_of_getElem? (i := 0) rfl))
theorem i_X1_loadName_X7 : ∀ w ∈ wsX70, w ∈ wzX1_loadName := fun _ h => List.mem_cons_of_mem _ (List.mem_append_right _ (List.mem_append_left _ (h)))
theorem k_X1_loadName_fieldLink_RX1_18_SR_Formulas_tokens_LSR_Tokens : Cond.fieldLink RX1 18 "StatementRules2$Formulas" "tokens" "LStatementRules2$Tokens;" ∈ wzX1_loadName := List.mem_cons_of_mem _ (List.mem_append_left _ (List.mem_of_getElem? (i := 1) rfl))
theorem i_X1_loadName_X9 : ∀ w ∈ wsX90, w ∈ wzX1_loadName := fun _ h => List.mem_cons_of_mem _ (List.mem_append_right _ (List.mem_append_right _ (List.mem_append_left _ (h))))
theorem k_X1_loadName_fieldLink_RX1_22_SR_Formulas_code_LSR_Code : Cond.fieldLink RX1 22 "StatementRules2$Formulas" "code" "LStatementRules2$Code;" ∈ wzX1_loadName := List.mem_cons_of_mem _ (List.mem_append_left _ (List.mem_of_getElem? (i := 2) rfl))
set_option maxHeartbeats 4000000 in
set_option maxRecDepth 100000 in
theorem c_X1_loadName (l : Launch) (dC : Nat → ClassId) (dI : Nat → Nat → Nat) (Q : CQ) (N : Nat) (σ : CS) (R : Unit × CS) (hf : f_X1_loadName N σ = some R) : Met l yX1_loadName wzX1_loadName ({ frames := 4, cells := CS.hs R.2 - CS.hs σ, slots := 17 * (CS.hs R.2 - CS.hs σ), locals := 60 * 4 }) (va_Pc [.ref (Q.o 3)] (zPre dC dI (CS.hs σ) (cW Q σ) (cT Q))) (va_Qv (fun (_ : Unit) => True) (fun (_ : Unit) (t : State) => zPost dC dI (va_A (cW Q σ) (CS.hs σ)) (cW Q R.2) (cT Q) t ∧ t.heap.size = CS.hs R.2) (va_A (cW Q σ) (CS.hs σ))) (CS.hs R.2 - CS.hs σ) (17 * (CS.hs R.2 - CS.hs σ)) (va_A (cW Q σ) (CS.hs σ)) := by
  refine Met.ofW (cc := cX1_loadName) (maxL := 2) (ret := none) (by decide) rfl ?_
  intro p e s m args below meth c s₁ B hml hv
  obtain ⟨rfl, hsz, hZ, hP, hK, hD0⟩ := hv
  have hx := B.exec
  have hb := B.bytes
  have hr := B.returns
  have hts := atoms_spec (ws := wzX1_loadName) B.pre
  have hown : s.vm.findClass RX1 = some m.cls := findClass_of_methodNamed B.named
  have hlocks := B.notSynchronized
  have hD := hD0.self (sz := CS.hs σ)
  generalize hAe : va_A (cW Q σ) (CS.hs σ) = A at hD ⊢
  have hA : ∀ q : Nat, s.heap.size ≤ q → A q := fun q h => by rw [← hAe]; exact Or.inr (hsz ▸ h)
  have hC : CP dC dI Q A s.heap σ s.heap [] := ⟨hP, hD, va_S.rf, hsz⟩
  have h0 : CS.hs σ ≤ CS.hs σ := Nat.le_refl _
  have hl := lv_entry ([.ref (Q.o 3)]) (n := 2) (Nat.le_of_ble_eq_true rfl)
  rw [lg_entry_eq]
  generalize (lg_sl ([.ref (Q.o 3)]) ++ List.replicate (2 - (lg_sl ([.ref (Q.o 3)])).length) Slot.unset).toArray = ls at hl ⊢
  have hl : lv_has ls 2 [(0, .ref (Q.o 3))] := hl
  unfold f_X1_loadName at hf
  refine W.widen (k := CS.hs σ - CS.hs σ) (n := 17 * (CS.hs σ - CS.hs σ)) (Nat.zero_le _) (Nat.zero_le _) ?_
  refine lv_aload_n hx hb dX1_loadName_0 rfl (lv_at hl 0 rfl) ?_
  refine cG_31 hx hb hts i_X1_loadName_X7 hown hK hC (hts (.fieldLink RX1 12 "StatementRules2$Formulas" "names" "LStatementRules2$Names;") k_X1_loadName_fieldLink_RX1_12_SR_Formulas_names_LSR_Names) (fun _ q9 => q9) dX1_loadName_1 ?_
  refine lv_aload_n hx hb dX1_loadName_4 rfl (lv_at hl 0 rfl) ?_
  refine cG_28 hx hb hts i_X1_loadName_X7 hown hK hC (hts (.fieldLink RX1 18 "StatementRules2$Formulas" "tokens" "LStatementRules2$Tokens;") k_X1_loadName_fieldLink_RX1_18_SR_Formulas_tokens_LSR_Tokens) (fun _ q9 => q9) dX1_loadName_5 ?_
  refine cGN_46 (v := σ.l) hx hb hts i_X1_loadName_X9 hown hK hC (va_Nw.use rfl (hZ.1 (.fieldLinkNest RX1 98 "StatementRules2$Tokens" "name" "J" "StatementRules2") (by decide +kernel))) (fun _ q9 => q9) dX1_loadName_8 rfl ?_
  obtain ⟨p1, hcp1, hf⟩ := hf_bind hf
  have mo2 : CS.hs σ ≤ CS.hs p1.2 := Mono.go hcp1 (m_X4_find N σ σ.l)
  have hr9 : CS.hs p1.2 ≤ CS.hs R.2 := Mono.go hf (mono_ite (mono_bind (m_X4_cellOf N p1.2 p1.1) (fun p6 => (mono_bind (m_X0_add N p6.2 1 p6.1) (fun p10 => (mono_bind (m_X9_advance N p10.2) (fun p14 => (mono_some (Nat.le_refl _)))))))) (mono_bind (m_X1_fail N p1.2 3 (p1.2.i 44)) (fun p18 => (mono_some (Nat.le_refl _)))))
  have hFc := cFree hC hA
  refine va_calli (va_runV (As := [.long σ.l]) (rest := []) ⟨hx, hb, hml, hown, hts⟩ (c_X4_find l dC dI Q N σ σ.l p1 hcp1) (cwV 1 hts hX1_loadName_X4_find_v102 rfl rfl rfl (by decide +kernel) ⟨(show 1 + 1 ≤ 4 by omega), (show 8 + (4 + 11) + 60 * 1 ≤ 60 * 4 by omega)⟩) ⟨zPre.blind, va_recv hK hC.1 (ci := 3) (q0 := 5) rfl rfl, cPre_go hZ hK hC⟩ rfl rfl hl.1 rfl (lv_room (Nat.le_of_ble_eq_true rfl)) dX1_loadName_11 (cAcc h0 mo2 hr9)) hC.2.2.1 (fun q _ h => hFc q h) hFc (fun r3 u9 t9 H1 locs ht hvm hw hB hz1 hk1 hS => ?_)
  obtain ⟨⟨hP, hK1, hD1⟩, hsz1⟩ := hB
  rw [ht] at hP hsz1
  have hC : CP dC dI Q A s.heap p1.2 H1 locs := ⟨hP, hD1.weaken (fun _ _ _ h => hFc _ h), hS, hsz1⟩
  generalize H1 = H at hC ⊢
  have h4 : (CS.hs σ) ≤ CS.hs p1.2 := Nat.le_trans h0 mo2
  refine W.widen (k := CS.hs p1.2 - (CS.hs σ)) (n := 17 * (CS.hs p1.2 - (CS.hs σ))) (cAcc2 h0 mo2) (cAcc3 h0 mo2) ?_
  obtain rfl : r3 = p1.1 := hw
  refine lv_istore_n (lv' := [(1, .int p1.1), (0, .ref (Q.o 3))]) hx hb dX1_loadName_14 rfl hl (by decide) rfl (fun ls hl => ?_)
  refine lv_iload_n hx hb dX1_loadName_15 rfl (lv_at hl 0 rfl) ?_
  refine lv_if_ge (tgt := 32) hx hb dX1_loadName_16 (by decide) (fun c5 => ?_) (fun c5 => ?_)
  ·
    replace hf := (if_pos c5).symm.trans hf
    refine lv_aload_n hx hb dX1_loadName_32 rfl (lv_at hl 1 rfl) ?_
    refine cG_29 hx hb hts i_X1_loadName_X7 hown hK hC (hts (.fieldLink RX1 22 "StatementRules2$Formulas" "code" "LStatementRules2$Code;") k_X1_loadName_fieldLink_RX1_22_SR_Formulas_code_LSR_Code) (fun _ q9 => q9) dX1_loadName_33 ?_
    refine lv_iconst (v := 1) hx hb dX1_loadName_36 (by decide) ?_
    refine lv_aload_n hx hb dX1_loadName_37 rfl (lv_at hl 1 rfl) ?_
    refine cG_31 hx hb hts i_X1_loadName_X7 hown hK hC (hts (.fieldLink RX1 12 "StatementRules2$Formulas" "names" "LStatementRules2$Names;") k_X1_loadName_fieldLink_RX1_12_SR_Formulas_names_LSR_Names) (fun _ q9 => q9) dX1_loadName_38 ?_
    refine lv_iload_n hx hb dX1_loadName_41 rfl (lv_at hl 0 rfl) ?_
    obtain ⟨p6, hcp6, hf⟩ := hf_bind hf
    have mo7 : CS.hs p1.2 ≤ CS.hs p6.2 := Mono.go hcp6 (m_X4_cellOf N p1.2 p1.1)
    have hr9 : CS.hs p6.2 ≤ CS.hs R.2 := Mono.go hf (mono_bind (m_X0_add N p6.2 1 p6.1) (fun p10 => (mono_bind (m_X9_advance N p10.2) (fun p14 => (mono_some (Nat.le_refl _))))))
    have hFc := cFree hC hA
    refine va_calli (va_runV (As := [.int p1.1]) (rest := [.int 1, .ref (Q.o 2)]) ⟨hx, hb, hml, hown, hts⟩ (c_X4_cellOf l dC dI Q N p1.2 p1.1 p6 hcp6) (cwV 1 hts hX1_loadName_X4_cellOf_v106 rfl rfl rfl (by decide +kernel) ⟨(show 2 + 1 ≤ 4 by omega), (show 8 + (2 + 11) + 60 * 2 ≤ 60 * 4 by omega)⟩) ⟨zPre.blind, va_recv hK hC.1 (ci := 3) (q0 := 5) rfl rfl, cPre_go hZ hK hC⟩ rfl rfl hl.1 rfl (lv_room (Nat.le_of_ble_eq_true rfl)) dX1_loadName_42 (cAcc h4 mo7 hr9)) hC.2.2.1 (fun q _ h => hFc q h) hFc (fun r8 u9 t9 H1 locs ht hvm hw hB hz1 hk1 hS => ?_)
    obtain ⟨⟨hP, hK1, hD1⟩, hsz1⟩ := hB
    rw [ht] at hP hsz1
    have hC : CP dC dI Q A s.heap p6.2 H1 locs := ⟨hP, hD1.weaken (fun _ _ _ h => hFc _ h), hS, hsz1⟩
    generalize H1 = H at hC ⊢
    have h9 : (CS.hs σ) ≤ CS.hs p6.2 := Nat.le_trans h4 mo7
    refine W.widen (k := CS.hs p6.2 - (CS.hs σ)) (n := 17 * (CS.hs p6.2 - (CS.hs σ))) (cAcc2 h4 mo7) (cAcc3 h4 mo7) ?_
    obtain rfl : r8 = p6.1 := hw
    obtain ⟨p10, hcp10, hf⟩ := hf_bind hf
    have mo11 : CS.hs p6.2 ≤ CS.hs p10.2 := Mono.go hcp10 (m_X0_add N p6.2 1 p6.1)
    have hr9 : CS.hs p10.2 ≤ CS.hs R.2 := Mono.go hf (mono_bind (m_X9_advance N p10.2) (fun p14 => (mono_some (Nat.le_refl _))))
    have hFc := cFree hC hA
    refine va_callv (va_runV (As := [.int 1, .int p6.1]) (rest := []) ⟨hx, hb, hml, hown, hts⟩ (c_X0_add l dC dI Q N p6.2 1 p6.1 p10 hcp10) (cwV 2 hts hX1_loadName_X0_add_v68 rfl rfl rfl (by decide +kernel) ⟨(show 2 + 1 ≤ 4 by omega), (show 8 + (3 + 11) + 60 * 2 ≤ 60 * 4 by omega)⟩) ⟨zPre.blind, va_recv hK hC.1 (ci := 0) (q0 := 2) rfl rfl, cPre_go hZ hK hC⟩ rfl rfl hl.1 rfl (lv_room (Nat.le_of_ble_eq_true rfl)) dX1_loadName_45 (cAcc h9 mo11 hr9)) hC.2.2.1 (fun q _ h => hFc q h) hFc (fun u9 t9 H1 locs ht hvm hw hB hz1 hk1 hS => ?_)
    obtain ⟨⟨hP, hK1, hD1⟩, hsz1⟩ := hB
    rw [ht] at hP hsz1
    have hC : CP dC dI Q A s.heap p10.2 H1 locs := ⟨hP, hD1.weaken (fun _ _ _ h => hFc _ h), hS, hsz1⟩
    generalize H1 = H at hC ⊢
    have h13 : (CS.hs σ) ≤ CS.hs p10.2 := Nat.le_trans h9 mo11
    refine W.widen (k := CS.hs p10.2 - (CS.hs σ)) (n := 17 * (CS.hs p10.2 - (CS.hs σ))) (cAcc2 h9 mo11) (cAcc3 h9 mo11) ?_
    refine lv_aload_n hx hb dX1_loadName_48 rfl (lv_at hl 1 rfl) ?_
    refine cG_28 hx hb hts i_X1_loadName_X7 hown hK hC (hts (.fieldLink RX1 18 "StatementRules2$Formulas" "tokens" "LStatementRules2$Tokens;") k_X1_loadName_fieldLink_RX1_18_SR_Formulas_tokens_LSR_Tokens) (fun _ q9 => q9) dX1_loadName_49 ?_
    obtain ⟨p14, hcp14, hf⟩ := hf_bind hf
    have mo15 : CS.hs p10.2 ≤ CS.hs p14.2 := Mono.go hcp14 (m_X9_advance N p10.2)
    have hr9 : CS.hs p14.2 ≤ CS.hs R.2 := Mono.go hf (mono_some (Nat.le_refl _))
    have hFc := cFree hC hA
    refine va_callv (va_runV (As := []) (rest := []) ⟨hx, hb, hml, hown, hts⟩ (c_X9_advance l dC dI Q N p10.2 p14 hcp14) (cwV 0 hts hX1_loadName_X9_advance_v56 rfl rfl rfl (by decide +kernel) ⟨(show 3 + 1 ≤ 4 by omega), (show 8 + (2 + 11) + 60 * 3 ≤ 60 * 4 by omega)⟩) ⟨zPre.blind, va_recv hK hC.1 (ci := 8) (q0 := 4) rfl rfl, cPre_go hZ hK hC⟩ rfl rfl hl.1 rfl (lv_room (Nat.le_of_ble_eq_true rfl)) dX1_loadName_52 (cAcc h13 mo15 hr9)) hC.2.2.1 (fun q _ h => hFc q h) hFc (fun u9 t9 H1 locs ht hvm hw hB hz1 hk1 hS => ?_)
    obtain ⟨⟨hP, hK1, hD1⟩, hsz1⟩ := hB
    rw [ht] at hP hsz1
    have hC : CP dC dI Q A s.heap p14.2 H1 locs := ⟨hP, hD1.weaken (fun _ _ _ h => hFc _ h), hS, hsz1⟩
    generalize H1 = H at hC ⊢
    have h17 : (CS.hs σ) ≤ CS.hs p14.2 := Nat.le_trans h13 mo15
    refine W.widen (k := CS.hs p14.2 - (CS.hs σ)) (n := 17 * (CS.hs p14.2 - (CS.hs σ))) (cAcc2 h13 mo15) (cAcc3 h13 mo15) ?_
    obtain rfl := Option.some.inj hf
    exact W.vret hx hb hr (fun t ht hW => ⟨⟨(), rfl, trivial, ⟨by rw [ht]; exact hC.1, va_K.moved hW.alike hK, hC.2.1⟩, by rw [ht]; exact hC.2.2.2⟩, hC.2.2.1.F ht⟩) hC.2.2.1.2.2 dX1_loadName_55
  ·
    replace hf := (if_neg c5).symm.trans hf
    refine lv_aload_n hx hb dX1_loadName_19 rfl (lv_at hl 1 rfl) ?_
    refine lv_iconst (v := 3) hx hb dX1_loadName_20 (by decide) ?_
    refine lv_aload_n hx hb dX1_loadName_21 rfl (lv_at hl 1 rfl) ?_
    refine cG_28 hx hb hts i_X1_loadName_X7 hown hK hC (hts (.fieldLink RX1 18 "StatementRules2$Formulas" "tokens" "LStatementRules2$Tokens;") k_X1_loadName_fieldLink_RX1_18_SR_Formulas_tokens_LSR_Tokens) (fun _ q9 => q9) dX1_loadName_22 ?_
    refine cGN_44 (v := (p1.2.i 44)) hx hb hts i_X1_loadName_X9 hown hK hC (va_Nw.use rfl (hZ.1 (.fieldLinkNest RX1 46 "StatementRules2$Tokens" "place" "I" "StatementRules2") (by decide +kernel))) (fun _ q9 => q9) dX1_loadName_25 rfl ?_
    obtain ⟨p18, hcp18, hf⟩ := hf_bind hf
    have mo19 : CS.hs p1.2 ≤ CS.hs p18.2 := Mono.go hcp18 (m_X1_fail N p1.2 3 (p1.2.i 44))
    have hr9 : CS.hs p18.2 ≤ CS.hs R.2 := Mono.go hf (mono_some (Nat.le_refl _))
    have hFc := cFree hC hA
    refine va_callv (va_runU (As := [.int 3, .int (p1.2.i 44)]) (rest := []) ⟨hx, hb, hml, hown, hts⟩ (c_X1_fail l dC dI Q N p1.2 3 (p1.2.i 44) p18 hcp18) (va_cwU 2 hts hX1_loadName_X1_fail_u49 rfl rfl rfl rfl (by decide +kernel) ⟨(show 2 + 1 ≤ 4 by omega), (show 8 + (3 + 11) + 60 * 2 ≤ 60 * 4 by omega)⟩) ⟨zPre.blind, va_recv hK hC.1 (ci := 6) (q0 := 3) rfl rfl, cPre_go hZ hK hC⟩ rfl rfl hl.1 rfl (lv_room (Nat.le_of_ble_eq_true rfl)) dX1_loadName_28 (cAcc h4 mo19 hr9)) hC.2.2.1 (fun q _ h => hFc q h) hFc (fun u9 t9 H1 locs ht hvm hw hB hz1 hk1 hS => ?_)
    obtain ⟨⟨hP, hK1, hD1⟩, hsz1⟩ := hB
    rw [ht] at hP hsz1
    have hC : CP dC dI Q A s.heap p18.2 H1 locs := ⟨hP, hD1.weaken (fun _ _ _ h => hFc _ h), hS, hsz1⟩
    generalize H1 = H at hC ⊢
    have h21 : (CS.hs σ) ≤ CS.hs p18.2 := Nat.le_trans h4 mo19
    refine W.widen (k := CS.hs p18.2 - (CS.hs σ)) (n := 17 * (CS.hs p18.2 - (CS.hs σ))) (cAcc2 h4 mo19) (cAcc3 h4 mo19) ?_
    obtain rfl := Option.some.inj hf
    exact W.vret hx hb hr (fun t ht hW => ⟨⟨(), rfl, trivial, ⟨by rw [ht]; exact hC.1, va_K.moved hW.alike hK, hC.2.1⟩, by rw [ht]; exact hC.2.2.2⟩, hC.2.2.1.F ht⟩) hC.2.2.1.2.2 dX1_loadName_31
theorem k_X1_negated_fieldLink_RX1_30_SR_Formulas_faultNumber_I : Cond.fieldLink RX1 30 "StatementRules2$Formulas" "faultNumber" "I" ∈ wzX1_negated := List.mem_cons_of_mem _ (List.mem_append_right _ (List.mem_append_right _ (List.mem_append_right _ (List.mem_append_right _ (List.mem_append_right _ (List.mem_append_right _ (List.mem_append_right _ (List.mem_append_right _ (List.mem_append_left _ (List.mem_of_getElem? (i := 0) rfl))))))))))
theorem i_X1_negated_X7 : ∀ w ∈ wsX70, w ∈ wzX1_negated := fun _ h => List.mem_cons_of_mem _ (List.mem_append_right _ (List.mem_append_right _ (List.mem_append_right _ (List.mem_append_right _ (List.mem_append_right _ (List.mem_append_right _ (List.mem_append_right _ (List.mem_append_right _ (List.mem_append_right _ (List.mem_append_right _ (List.mem_append_right _ (List.mem_append_right _ (List.mem_append_right _ (List.mem_append_right _ (List.mem_append_right _ (List.mem_append_right _ (List.mem_append_right _ (List.mem_append_right _ (List.mem_append_right _ (List.mem_append_right _ (List.mem_append_right _ (List.mem_append_right _ (List.mem_append_right _ (List.mem_append_right _ (List.mem_append_right _ (List.mem_append_right _ (List.mem_append_right _ (List.mem_append_right _ (List.mem_append_right _ (List.mem_append_right _ (List.mem_append_right _ (List.mem_append_right _ (List.mem_append_right _ (List.mem_append_right _ (List.mem_append_right _ (List.mem_append_right _ (List.mem_append_left _ (h))))))))))))))))))))))))))))))))))))))
theorem k_X1_negated_fieldLink_RX1_62_SR_Formulas_openSigns_I : Cond.fieldLink RX1 62 "StatementRules2$Formulas" "openSigns" "I" ∈ wzX1_negated := List.mem_cons_of_mem _ (List.mem_append_right _ (List.mem_append_right _ (List.mem_append_right _ (List.mem_append_right _ (List.mem_append_right _ (List.mem_append_right _ (List.mem_append_right _ (List.mem_append_right _ (List.mem_append_left _ (List.mem_of_getElem? (i := 1) rfl))))))))))
theorem k_X1_negated_fieldLink_RX1_22_SR_Formulas_code_LSR_Code : Cond.fieldLink RX1 22 "StatementRules2$Formulas" "code" "LStatementRules2$Code;" ∈ wzX1_negated := List.mem_cons_of_mem _ (List.mem_append_right _ (List.mem_append_right _ (List.mem_append_right _ (List.mem_append_right _ (List.mem_append_right _ (List.mem_append_right _ (List.mem_append_right _ (List.mem_append_right _ (List.mem_append_left _ (List.mem_of_getElem? (i := 2) rfl))))))))))
set_option maxHeartbeats 4000000 in
set_option maxRecDepth 100000 in
theorem j_X1_negated_17 {p : Program} {e : Env} {s : State} {m : MethodId} {args : Array Value} {below : List Frame} {meth : Method} {c : Code} {A : Nat → Prop} (l : Launch) (dC : Nat → ClassId) (dI : Nat → Nat → Nat) (Q : CQ) (N : Nat) (d : Nat) (E1 : CS → Option (Unit × CS)) (E2 : CS → Option (Int32 × CS)) (hE1 : cMF l dC dI Q d E1) (hE2 : cMO l dC dI Q d E2) (hm1 : ∀ σ, Mono (CS.hs σ) (E1 σ)) (hm2 : ∀ σ, Mono (CS.hs σ) (E2 σ)) (z9h : Nat) (R : Unit × CS) (hx : p.tables.exec = Jvm.exec) (hb : c.code = cX1_negated) (hr : meth.sig.returnType = none) (hml : c.maxLocals = 1) (hown : s.vm.findClass RX1 = some m.cls) (hts : ∀ w ∈ wzX1_negated, w.before args s = true) (hlocks : meth.locks = false) (hZ : zAMB s) (hA : ∀ q : Nat, s.heap.size ≤ q → A q) (hK : va_K (dC, dI) vwCl (cT Q) s) : ∀ (σ : CS) (H : Heap) (locs : List Loc) (ls : Array Slot), f_X1_negated_17 N E1 E2 σ = some R → z9h ≤ CS.hs σ → CP dC dI Q A s.heap σ H locs → lv_has ls 1 [(0, .ref (Q.o 3))] → W p l e ({ frames := (11 + 40 * d), cells := CS.hs R.2 - z9h, slots := 17 * (CS.hs R.2 - z9h), locals := 60 * (11 + 40 * d) }) s m args below meth c H locs (CS.hs σ - z9h) (17 * (CS.hs σ - z9h)) (MQ below (va_Qv (fun (_ : Unit) => True) (fun (_ : Unit) (t : State) => zPost dC dI A (cW Q R.2) (cT Q) t ∧ t.heap.size = CS.hs R.2) A) args s (CS.hs R.2 - z9h) (17 * (CS.hs R.2 - z9h)) A) (F0 m 17 ls []) := by
  intro σ  H locs ls hf h0 hC hl
  unfold f_X1_negated_17 at hf
  refine lv_aload_n hx hb dX1_negated_17 rfl (lv_at hl 0 rfl) ?_
  refine lv_dup hx hb dX1_negated_18 rfl ?_
  refine cG_34 (v := (σ.i 34)) hx hb hts i_X1_negated_X7 hown hK hC (hts (.fieldLink RX1 62 "StatementRules2$Formulas" "openSigns" "I") k_X1_negated_fieldLink_RX1_62_SR_Formulas_openSigns_I) (fun _ q9 => q9) dX1_negated_19 rfl ?_
  refine lv_iconst (v := 1) hx hb dX1_negated_22 (by decide) ?_
  refine lv_isub hx hb dX1_negated_23 ?_
  refine cP_34 (v := ((σ.i 34) - 1)) hx hb hts i_X1_negated_X7 hown hK hC (hts (.fieldLink RX1 62 "StatementRules2$Formulas" "openSigns" "I") k_X1_negated_fieldLink_RX1_62_SR_Formulas_openSigns_I) (fun _ q9 => q9) dX1_negated_24 (fun H locs hC => ?_)
  refine lv_aload_n hx hb dX1_negated_27 rfl (lv_at hl 0 rfl) ?_
  refine cG_29 hx hb hts i_X1_negated_X7 hown hK hC (hts (.fieldLink RX1 22 "StatementRules2$Formulas" "code" "LStatementRules2$Code;") k_X1_negated_fieldLink_RX1_22_SR_Formulas_code_LSR_Code) (fun _ q9 => q9) dX1_negated_28 ?_
  refine lv_iconst (v := 4) hx hb dX1_negated_31 (by decide) ?_
  refine lv_iconst (v := 0) hx hb dX1_negated_32 (by decide) ?_
  obtain ⟨p6, hcp6, hf⟩ := hf_bind hf
  have mo7 : CS.hs σ ≤ CS.hs p6.2 := Mono.go hcp6 (m_X0_add N (CS.setI σ 34 ((σ.i 34) - 1)) 4 0)
  have hr9 : CS.hs p6.2 ≤ CS.hs R.2 := Mono.go hf (mono_some (Nat.le_refl _))
  have hFc := cFree hC hA
  refine va_callv (va_runV (As := [.int 4, .int 0]) (rest := []) ⟨hx, hb, hml, hown, hts⟩ (c_X0_add l dC dI Q N (CS.setI σ 34 ((σ.i 34) - 1)) 4 0 p6 hcp6) (cwV 2 hts hX1_negated_X0_add_v68 rfl rfl rfl (by decide +kernel) ⟨(show 2 + 1 ≤ (11 + 40 * d) by omega), (show 8 + (3 + 11) + 60 * 2 ≤ 60 * (11 + 40 * d) by omega)⟩) ⟨zPre.blind, va_recv hK hC.1 (ci := 0) (q0 := 2) rfl rfl, cPre_go hZ hK hC⟩ rfl rfl hl.1 rfl (lv_room (Nat.le_of_ble_eq_true rfl)) dX1_negated_33 (cAcc h0 mo7 hr9)) hC.2.2.1 (fun q _ h => hFc q h) hFc (fun u9 t9 H1 locs ht hvm hw hB hz1 hk1 hS => ?_)
  obtain ⟨⟨hP, hK1, hD1⟩, hsz1⟩ := hB
  rw [ht] at hP hsz1
  have hC : CP dC dI Q A s.heap p6.2 H1 locs := ⟨hP, hD1.weaken (fun _ _ _ h => hFc _ h), hS, hsz1⟩
  generalize H1 = H at hC ⊢
  have h9 : z9h ≤ CS.hs p6.2 := Nat.le_trans h0 mo7
  refine W.widen (k := CS.hs p6.2 - z9h) (n := 17 * (CS.hs p6.2 - z9h)) (cAcc2 h0 mo7) (cAcc3 h0 mo7) ?_
  obtain rfl := Option.some.inj hf
  exact W.vret hx hb hr (fun t ht hW => ⟨⟨(), rfl, trivial, ⟨by rw [ht]; exact hC.1, va_K.moved hW.alike hK, hC.2.1⟩, by rw [ht]; exact hC.2.2.2⟩, hC.2.2.1.F ht⟩) hC.2.2.1.2.2 dX1_negated_36
set_option maxHeartbeats 4000000 in
set_option maxRecDepth 100000 in
theorem c_X1_negated (l : Launch) (dC : Nat → ClassId) (dI : Nat → Nat → Nat) (Q : CQ) (N : Nat) (d : Nat) (E1 : CS → Option (Unit × CS)) (E2 : CS → Option (Int32 × CS)) (hE1 : cMF l dC dI Q d E1) (hE2 : cMO l dC dI Q d E2) (hm1 : ∀ σ, Mono (CS.hs σ) (E1 σ)) (hm2 : ∀ σ, Mono (CS.hs σ) (E2 σ)) (σ : CS) (R : Unit × CS) (hf : f_X1_negated N E1 E2 σ = some R) : Met l yX1_negated wzX1_negated ({ frames := (11 + 40 * d), cells := CS.hs R.2 - CS.hs σ, slots := 17 * (CS.hs R.2 - CS.hs σ), locals := 60 * (11 + 40 * d) }) (va_Pc [.ref (Q.o 3)] (zPre dC dI (CS.hs σ) (cW Q σ) (cT Q))) (va_Qv (fun (_ : Unit) => True) (fun (_ : Unit) (t : State) => zPost dC dI (va_A (cW Q σ) (CS.hs σ)) (cW Q R.2) (cT Q) t ∧ t.heap.size = CS.hs R.2) (va_A (cW Q σ) (CS.hs σ))) (CS.hs R.2 - CS.hs σ) (17 * (CS.hs R.2 - CS.hs σ)) (va_A (cW Q σ) (CS.hs σ)) := by
  refine Met.ofW (cc := cX1_negated) (maxL := 1) (ret := none) (by decide) rfl ?_
  intro p e s m args below meth c s₁ B hml hv
  obtain ⟨rfl, hsz, hZ, hP, hK, hD0⟩ := hv
  have hx := B.exec
  have hb := B.bytes
  have hr := B.returns
  have hts := atoms_spec (ws := wzX1_negated) B.pre
  have hown : s.vm.findClass RX1 = some m.cls := findClass_of_methodNamed B.named
  have hlocks := B.notSynchronized
  have hD := hD0.self (sz := CS.hs σ)
  generalize hAe : va_A (cW Q σ) (CS.hs σ) = A at hD ⊢
  have hA : ∀ q : Nat, s.heap.size ≤ q → A q := fun q h => by rw [← hAe]; exact Or.inr (hsz ▸ h)
  have hC : CP dC dI Q A s.heap σ s.heap [] := ⟨hP, hD, va_S.rf, hsz⟩
  have h0 : CS.hs σ ≤ CS.hs σ := Nat.le_refl _
  have hl := lv_entry ([.ref (Q.o 3)]) (n := 1) (Nat.le_of_ble_eq_true rfl)
  rw [lg_entry_eq]
  generalize (lg_sl ([.ref (Q.o 3)]) ++ List.replicate (1 - (lg_sl ([.ref (Q.o 3)])).length) Slot.unset).toArray = ls at hl ⊢
  have hl : lv_has ls 1 [(0, .ref (Q.o 3))] := hl
  unfold f_X1_negated at hf
  refine W.widen (k := CS.hs σ - CS.hs σ) (n := 17 * (CS.hs σ - CS.hs σ)) (Nat.zero_le _) (Nat.zero_le _) ?_
  refine lv_aload_n hx hb dX1_negated_0 rfl (lv_at hl 0 rfl) ?_
  refine lv_bipush (v := 45) hx hb dX1_negated_1 (by decide) ?_
  obtain ⟨p1, hcp1, hf⟩ := hf_bind hf
  have mo2 : CS.hs σ ≤ CS.hs p1.2 := Mono.go hcp1 (m_X1_open N σ 45)
  have hr9 : CS.hs p1.2 ≤ CS.hs R.2 := Mono.go hf (mono_ite (mono_bind (hm1 p1.2) (fun p10 => (m_X1_negated_17 N E1 E2 hm1 hm2 p10.2))) (m_X1_negated_17 N E1 E2 hm1 hm2 p1.2))
  have hFc := cFree hC hA
  refine va_callv (va_runU (As := [.int 45]) (rest := []) ⟨hx, hb, hml, hown, hts⟩ (c_X1_open l dC dI Q N σ 45 p1 hcp1) (va_cwU 1 hts hX1_negated_X1_open_u85 rfl rfl rfl rfl (by decide +kernel) ⟨(show 4 + 1 ≤ (11 + 40 * d) by omega), (show 8 + (2 + 11) + 60 * 4 ≤ 60 * (11 + 40 * d) by omega)⟩) ⟨zPre.blind, va_recv hK hC.1 (ci := 6) (q0 := 3) rfl rfl, cPre_go hZ hK hC⟩ rfl rfl hl.1 rfl (lv_room (Nat.le_of_ble_eq_true rfl)) dX1_negated_3 (cAcc h0 mo2 hr9)) hC.2.2.1 (fun q _ h => hFc q h) hFc (fun u9 t9 H1 locs ht hvm hw hB hz1 hk1 hS => ?_)
  obtain ⟨⟨hP, hK1, hD1⟩, hsz1⟩ := hB
  rw [ht] at hP hsz1
  have hC : CP dC dI Q A s.heap p1.2 H1 locs := ⟨hP, hD1.weaken (fun _ _ _ h => hFc _ h), hS, hsz1⟩
  generalize H1 = H at hC ⊢
  have h4 : (CS.hs σ) ≤ CS.hs p1.2 := Nat.le_trans h0 mo2
  refine W.widen (k := CS.hs p1.2 - (CS.hs σ)) (n := 17 * (CS.hs p1.2 - (CS.hs σ))) (cAcc2 h0 mo2) (cAcc3 h0 mo2) ?_
  refine lv_aload_n hx hb dX1_negated_6 rfl (lv_at hl 0 rfl) ?_
  refine cG_32 (v := (p1.2.i 32)) hx hb hts i_X1_negated_X7 hown hK hC (hts (.fieldLink RX1 30 "StatementRules2$Formulas" "faultNumber" "I") k_X1_negated_fieldLink_RX1_30_SR_Formulas_faultNumber_I) (fun _ q9 => q9) dX1_negated_7 rfl ?_
  refine lv_if_ne (tgt := 17) hx hb dX1_negated_10 (by decide) (fun c5 => ?_) (fun c5 => ?_)
  ·
    replace hf := (if_neg c5).symm.trans hf
    exact j_X1_negated_17 l dC dI Q N d E1 E2 hE1 hE2 hm1 hm2 (CS.hs σ) R hx hb hr hml hown hts hlocks hZ hA hK p1.2 _ _ _ hf h4 hC (lv_sub hl [0] rfl)
  ·
    replace hf := (if_pos c5).symm.trans hf
    refine lv_aload_n hx hb dX1_negated_13 rfl (lv_at hl 0 rfl) ?_
    obtain ⟨p10, hcp10, hf⟩ := hf_bind hf
    have mo11 : CS.hs p1.2 ≤ CS.hs p10.2 := Mono.go hcp10 (hm1 p1.2)
    have hr9 : CS.hs p10.2 ≤ CS.hs R.2 := Mono.go hf (m_X1_negated_17 N E1 E2 hm1 hm2 p10.2)
    have hFc := cFree hC hA
    refine va_callv (va_runU (As := []) (rest := []) ⟨hx, hb, hml, hown, hts⟩ (hE1 p1.2 p10 hcp10) (va_cwU 0 hts hX1_negated_X1_factor_u73 rfl rfl rfl rfl (by decide +kernel) ⟨(show (10 + 40 * d) + 1 ≤ (11 + 40 * d) by omega), (show 8 + (1 + 11) + 60 * (10 + 40 * d) ≤ 60 * (11 + 40 * d) by omega)⟩) ⟨zPre.blind, va_recv hK hC.1 (ci := 6) (q0 := 3) rfl rfl, cPre_go hZ hK hC⟩ rfl rfl hl.1 rfl (lv_room (Nat.le_of_ble_eq_true rfl)) dX1_negated_14 (cAcc h4 mo11 hr9)) hC.2.2.1 (fun q _ h => hFc q h) hFc (fun u9 t9 H1 locs ht hvm hw hB hz1 hk1 hS => ?_)
    obtain ⟨⟨hP, hK1, hD1⟩, hsz1⟩ := hB
    rw [ht] at hP hsz1
    have hC : CP dC dI Q A s.heap p10.2 H1 locs := ⟨hP, hD1.weaken (fun _ _ _ h => hFc _ h), hS, hsz1⟩
    generalize H1 = H at hC ⊢
    have h13 : (CS.hs σ) ≤ CS.hs p10.2 := Nat.le_trans h4 mo11
    refine W.widen (k := CS.hs p10.2 - (CS.hs σ)) (n := 17 * (CS.hs p10.2 - (CS.hs σ))) (cAcc2 h4 mo11) (cAcc3 h4 mo11) ?_
    exact j_X1_negated_17 l dC dI Q N d E1 E2 hE1 hE2 hm1 hm2 (CS.hs σ) R hx hb hr hml hown hts hlocks hZ hA hK p10.2 _ _ _ hf h13 hC (lv_sub hl [0] rfl)
theorem k_X1_caseNumber_fieldLink_RX1_18_SR_Formulas_tokens_LSR_Tokens : Cond.fieldLink RX1 18 "StatementRules2$Formulas" "tokens" "LStatementRules2$Tokens;" ∈ wzX1_caseNumber := List.mem_cons_of_mem _ (List.mem_append_left _ (List.mem_of_getElem? (i := 0) rfl))
theorem i_X1_caseNumber_X7 : ∀ w ∈ wsX70, w ∈ wzX1_caseNumber := fun _ h => List.mem_cons_of_mem _ (List.mem_append_right _ (List.mem_append_left _ (h)))
theorem i_X1_caseNumber_X9 : ∀ w ∈ wsX90, w ∈ wzX1_caseNumber := fun _ h => List.mem_cons_of_mem _ (List.mem_append_right _ (List.mem_append_right _ (List.mem_append_left _ (h))))
theorem k_X1_caseNumber_fieldLink_RX1_22_SR_Formulas_code_LSR_Code : Cond.fieldLink RX1 22 "StatementRules2$Formulas" "code" "LStatementRules2$Code;" ∈ wzX1_caseNumber := List.mem_cons_of_mem _ (List.mem_append_left _ (List.mem_of_getElem? (i := 1) rfl))
set_option maxHeartbeats 4000000 in
set_option maxRecDepth 100000 in
theorem j_X1_caseNumber_44 {p : Program} {e : Env} {s : State} {m : MethodId} {args : Array Value} {below : List Frame} {meth : Method} {c : Code} {A : Nat → Prop} (l : Launch) (dC : Nat → ClassId) (dI : Nat → Nat → Nat) (Q : CQ) (N : Nat) (z9h : Nat) (R : Unit × CS) (hx : p.tables.exec = Jvm.exec) (hb : c.code = cX1_caseNumber) (hr : meth.sig.returnType = none) (hml : c.maxLocals = 5) (hown : s.vm.findClass RX1 = some m.cls) (hts : ∀ w ∈ wzX1_caseNumber, w.before args s = true) (hlocks : meth.locks = false) (hZ : zAMB s) (hA : ∀ q : Nat, s.heap.size ≤ q → A q) (hK : va_K (dC, dI) vwCl (cT Q) s) : ∀ (σ : CS) (x1 : Int32) (x2 : Int32) (x4 : Int32) (H : Heap) (locs : List Loc) (ls : Array Slot), f_X1_caseNumber_44 N σ x1 x2 x4 = some R → z9h ≤ CS.hs σ → CP dC dI Q A s.heap σ H locs → lv_has ls 5 [(0, .ref (Q.o 3)), (1, .int x1), (2, .int x2), (4, .int x4)] → W p l e ({ frames := 5, cells := CS.hs R.2 - z9h, slots := 17 * (CS.hs R.2 - z9h), locals := 60 * 5 }) s m args below meth c H locs (CS.hs σ - z9h) (17 * (CS.hs σ - z9h)) (MQ below (va_Qv (fun (_ : Unit) => True) (fun (_ : Unit) (t : State) => zPost dC dI A (cW Q R.2) (cT Q) t ∧ t.heap.size = CS.hs R.2) A) args s (CS.hs R.2 - z9h) (17 * (CS.hs R.2 - z9h)) A) (F0 m 44 ls []) := by
  intro σ x1 x2 x4 H locs ls hf h0 hC hl
  unfold f_X1_caseNumber_44 at hf
  refine lv_aload_n hx hb dX1_caseNumber_44 rfl (lv_at hl 0 rfl) ?_
  refine cG_29 hx hb hts i_X1_caseNumber_X7 hown hK hC (hts (.fieldLink RX1 22 "StatementRules2$Formulas" "code" "LStatementRules2$Code;") k_X1_caseNumber_fieldLink_RX1_22_SR_Formulas_code_LSR_Code) (fun _ q9 => q9) dX1_caseNumber_45 ?_
  refine lv_iload_n hx hb dX1_caseNumber_48 rfl (lv_at hl 1 rfl) ?_
  refine lv_iload hx hb dX1_caseNumber_49 (lv_at hl 3 rfl) ?_
  obtain ⟨p11, hcp11, hf⟩ := hf_bind hf
  have mo12 : CS.hs σ ≤ CS.hs p11.2 := Mono.go hcp11 (m_X0_hasCase N σ x1 x4)
  have hr9 : CS.hs p11.2 ≤ CS.hs R.2 := Mono.go hf (mono_ite (mono_bind (m_X0_addCase N p11.2 x4 x2) (fun p16 => (mono_bind (m_X9_advance N p16.2) (fun p20 => (mono_some (Nat.le_refl _)))))) (mono_bind (m_X1_fail N p11.2 4 (p11.2.i 44)) (fun p24 => (mono_some (Nat.le_refl _)))))
  have hFc := cFree hC hA
  refine va_calli (va_runV (As := [.int x1, .int x4]) (rest := []) ⟨hx, hb, hml, hown, hts⟩ (c_X0_hasCase l dC dI Q N σ x1 x4 p11 hcp11) (cwV 2 hts hX1_caseNumber_X0_hasCase_v139 rfl rfl rfl (by decide +kernel) ⟨(show 2 + 1 ≤ 5 by omega), (show 8 + (4 + 11) + 60 * 2 ≤ 60 * 5 by omega)⟩) ⟨zPre.blind, va_recv hK hC.1 (ci := 0) (q0 := 2) rfl rfl, cPre_go hZ hK hC⟩ rfl rfl hl.1 rfl (lv_room (Nat.le_of_ble_eq_true rfl)) dX1_caseNumber_51 (cAcc h0 mo12 hr9)) hC.2.2.1 (fun q _ h => hFc q h) hFc (fun r13 u9 t9 H1 locs ht hvm hw hB hz1 hk1 hS => ?_)
  obtain ⟨⟨hP, hK1, hD1⟩, hsz1⟩ := hB
  rw [ht] at hP hsz1
  have hC : CP dC dI Q A s.heap p11.2 H1 locs := ⟨hP, hD1.weaken (fun _ _ _ h => hFc _ h), hS, hsz1⟩
  generalize H1 = H at hC ⊢
  have h14 : z9h ≤ CS.hs p11.2 := Nat.le_trans h0 mo12
  refine W.widen (k := CS.hs p11.2 - z9h) (n := 17 * (CS.hs p11.2 - z9h)) (cAcc2 h0 mo12) (cAcc3 h0 mo12) ?_
  obtain rfl : r13 = p11.1 := hw
  refine lv_if_eq (tgt := 70) hx hb dX1_caseNumber_54 (by decide) (fun c15 => ?_) (fun c15 => ?_)
  ·
    replace hf := (if_pos c15).symm.trans hf
    refine lv_aload_n hx hb dX1_caseNumber_70 rfl (lv_at hl 0 rfl) ?_
    refine cG_29 hx hb hts i_X1_caseNumber_X7 hown hK hC (hts (.fieldLink RX1 22 "StatementRules2$Formulas" "code" "LStatementRules2$Code;") k_X1_caseNumber_fieldLink_RX1_22_SR_Formulas_code_LSR_Code) (fun _ q9 => q9) dX1_caseNumber_71 ?_
    refine lv_iload hx hb dX1_caseNumber_74 (lv_at hl 3 rfl) ?_
    refine lv_iload_n hx hb dX1_caseNumber_76 rfl (lv_at hl 2 rfl) ?_
    obtain ⟨p16, hcp16, hf⟩ := hf_bind hf
    have mo17 : CS.hs p11.2 ≤ CS.hs p16.2 := Mono.go hcp16 (m_X0_addCase N p11.2 x4 x2)
    have hr9 : CS.hs p16.2 ≤ CS.hs R.2 := Mono.go hf (mono_bind (m_X9_advance N p16.2) (fun p20 => (mono_some (Nat.le_refl _))))
    have hFc := cFree hC hA
    refine va_callv (va_runV (As := [.int x4, .int x2]) (rest := []) ⟨hx, hb, hml, hown, hts⟩ (c_X0_addCase l dC dI Q N p11.2 x4 x2 p16 hcp16) (cwV 2 hts hX1_caseNumber_X0_addCase_v143 rfl rfl rfl (by decide +kernel) ⟨(show 2 + 1 ≤ 5 by omega), (show 8 + (3 + 11) + 60 * 2 ≤ 60 * 5 by omega)⟩) ⟨zPre.blind, va_recv hK hC.1 (ci := 0) (q0 := 2) rfl rfl, cPre_go hZ hK hC⟩ rfl rfl hl.1 rfl (lv_room (Nat.le_of_ble_eq_true rfl)) dX1_caseNumber_77 (cAcc h14 mo17 hr9)) hC.2.2.1 (fun q _ h => hFc q h) hFc (fun u9 t9 H1 locs ht hvm hw hB hz1 hk1 hS => ?_)
    obtain ⟨⟨hP, hK1, hD1⟩, hsz1⟩ := hB
    rw [ht] at hP hsz1
    have hC : CP dC dI Q A s.heap p16.2 H1 locs := ⟨hP, hD1.weaken (fun _ _ _ h => hFc _ h), hS, hsz1⟩
    generalize H1 = H at hC ⊢
    have h19 : z9h ≤ CS.hs p16.2 := Nat.le_trans h14 mo17
    refine W.widen (k := CS.hs p16.2 - z9h) (n := 17 * (CS.hs p16.2 - z9h)) (cAcc2 h14 mo17) (cAcc3 h14 mo17) ?_
    refine lv_aload_n hx hb dX1_caseNumber_80 rfl (lv_at hl 0 rfl) ?_
    refine cG_28 hx hb hts i_X1_caseNumber_X7 hown hK hC (hts (.fieldLink RX1 18 "StatementRules2$Formulas" "tokens" "LStatementRules2$Tokens;") k_X1_caseNumber_fieldLink_RX1_18_SR_Formulas_tokens_LSR_Tokens) (fun _ q9 => q9) dX1_caseNumber_81 ?_
    obtain ⟨p20, hcp20, hf⟩ := hf_bind hf
    have mo21 : CS.hs p16.2 ≤ CS.hs p20.2 := Mono.go hcp20 (m_X9_advance N p16.2)
    have hr9 : CS.hs p20.2 ≤ CS.hs R.2 := Mono.go hf (mono_some (Nat.le_refl _))
    have hFc := cFree hC hA
    refine va_callv (va_runV (As := []) (rest := []) ⟨hx, hb, hml, hown, hts⟩ (c_X9_advance l dC dI Q N p16.2 p20 hcp20) (cwV 0 hts hX1_caseNumber_X9_advance_v56 rfl rfl rfl (by decide +kernel) ⟨(show 3 + 1 ≤ 5 by omega), (show 8 + (2 + 11) + 60 * 3 ≤ 60 * 5 by omega)⟩) ⟨zPre.blind, va_recv hK hC.1 (ci := 8) (q0 := 4) rfl rfl, cPre_go hZ hK hC⟩ rfl rfl hl.1 rfl (lv_room (Nat.le_of_ble_eq_true rfl)) dX1_caseNumber_84 (cAcc h19 mo21 hr9)) hC.2.2.1 (fun q _ h => hFc q h) hFc (fun u9 t9 H1 locs ht hvm hw hB hz1 hk1 hS => ?_)
    obtain ⟨⟨hP, hK1, hD1⟩, hsz1⟩ := hB
    rw [ht] at hP hsz1
    have hC : CP dC dI Q A s.heap p20.2 H1 locs := ⟨hP, hD1.weaken (fun _ _ _ h => hFc _ h), hS, hsz1⟩
    generalize H1 = H at hC ⊢
    have h23 : z9h ≤ CS.hs p20.2 := Nat.le_trans h19 mo21
    refine W.widen (k := CS.hs p20.2 - z9h) (n := 17 * (CS.hs p20.2 - z9h)) (cAcc2 h19 mo21) (cAcc3 h19 mo21) ?_
    obtain rfl := Option.some.inj hf
    exact W.vret hx hb hr (fun t ht hW => ⟨⟨(), rfl, trivial, ⟨by rw [ht]; exact hC.1, va_K.moved hW.alike hK, hC.2.1⟩, by rw [ht]; exact hC.2.2.2⟩, hC.2.2.1.F ht⟩) hC.2.2.1.2.2 dX1_caseNumber_87
  ·
    replace hf := (if_neg c15).symm.trans hf
    refine lv_aload_n hx hb dX1_caseNumber_57 rfl (lv_at hl 0 rfl) ?_
    refine lv_iconst (v := 4) hx hb dX1_caseNumber_58 (by decide) ?_
    refine lv_aload_n hx hb dX1_caseNumber_59 rfl (lv_at hl 0 rfl) ?_
    refine cG_28 hx hb hts i_X1_caseNumber_X7 hown hK hC (hts (.fieldLink RX1 18 "StatementRules2$Formulas" "tokens" "LStatementRules2$Tokens;") k_X1_caseNumber_fieldLink_RX1_18_SR_Formulas_tokens_LSR_Tokens) (fun _ q9 => q9) dX1_caseNumber_60 ?_
    refine cGN_44 (v := (p11.2.i 44)) hx hb hts i_X1_caseNumber_X9 hown hK hC (va_Nw.use rfl (hZ.1 (.fieldLinkNest RX1 46 "StatementRules2$Tokens" "place" "I" "StatementRules2") (by decide +kernel))) (fun _ q9 => q9) dX1_caseNumber_63 rfl ?_
    obtain ⟨p24, hcp24, hf⟩ := hf_bind hf
    have mo25 : CS.hs p11.2 ≤ CS.hs p24.2 := Mono.go hcp24 (m_X1_fail N p11.2 4 (p11.2.i 44))
    have hr9 : CS.hs p24.2 ≤ CS.hs R.2 := Mono.go hf (mono_some (Nat.le_refl _))
    have hFc := cFree hC hA
    refine va_callv (va_runU (As := [.int 4, .int (p11.2.i 44)]) (rest := []) ⟨hx, hb, hml, hown, hts⟩ (c_X1_fail l dC dI Q N p11.2 4 (p11.2.i 44) p24 hcp24) (va_cwU 2 hts hX1_caseNumber_X1_fail_u49 rfl rfl rfl rfl (by decide +kernel) ⟨(show 2 + 1 ≤ 5 by omega), (show 8 + (3 + 11) + 60 * 2 ≤ 60 * 5 by omega)⟩) ⟨zPre.blind, va_recv hK hC.1 (ci := 6) (q0 := 3) rfl rfl, cPre_go hZ hK hC⟩ rfl rfl hl.1 rfl (lv_room (Nat.le_of_ble_eq_true rfl)) dX1_caseNumber_66 (cAcc h14 mo25 hr9)) hC.2.2.1 (fun q _ h => hFc q h) hFc (fun u9 t9 H1 locs ht hvm hw hB hz1 hk1 hS => ?_)
    obtain ⟨⟨hP, hK1, hD1⟩, hsz1⟩ := hB
    rw [ht] at hP hsz1
    have hC : CP dC dI Q A s.heap p24.2 H1 locs := ⟨hP, hD1.weaken (fun _ _ _ h => hFc _ h), hS, hsz1⟩
    generalize H1 = H at hC ⊢
    have h27 : z9h ≤ CS.hs p24.2 := Nat.le_trans h14 mo25
    refine W.widen (k := CS.hs p24.2 - z9h) (n := 17 * (CS.hs p24.2 - z9h)) (cAcc2 h14 mo25) (cAcc3 h14 mo25) ?_
    obtain rfl := Option.some.inj hf
    exact W.vret hx hb hr (fun t ht hW => ⟨⟨(), rfl, trivial, ⟨by rw [ht]; exact hC.1, va_K.moved hW.alike hK, hC.2.1⟩, by rw [ht]; exact hC.2.2.2⟩, hC.2.2.1.F ht⟩) hC.2.2.1.2.2 dX1_caseNumber_69
set_option maxHeartbeats 4000000 in
set_option maxRecDepth 100000 in
theorem c_X1_caseNumber (l : Launch) (dC : Nat → ClassId) (dI : Nat → Nat → Nat) (Q : CQ) (N : Nat) (σ : CS) (x1 : Int32) (x2 : Int32) (R : Unit × CS) (hf : f_X1_caseNumber N σ x1 x2 = some R) : Met l yX1_caseNumber wzX1_caseNumber ({ frames := 5, cells := CS.hs R.2 - CS.hs σ, slots := 17 * (CS.hs R.2 - CS.hs σ), locals := 60 * 5 }) (va_Pc [.ref (Q.o 3), .int x1, .int x2] (zPre dC dI (CS.hs σ) (cW Q σ) (cT Q))) (va_Qv (fun (_ : Unit) => True) (fun (_ : Unit) (t : State) => zPost dC dI (va_A (cW Q σ) (CS.hs σ)) (cW Q R.2) (cT Q) t ∧ t.heap.size = CS.hs R.2) (va_A (cW Q σ) (CS.hs σ))) (CS.hs R.2 - CS.hs σ) (17 * (CS.hs R.2 - CS.hs σ)) (va_A (cW Q σ) (CS.hs σ)) := by
  refine Met.ofW (cc := cX1_caseNumber) (maxL := 5) (ret := none) (by decide) rfl ?_
  intro p e s m args below meth c s₁ B hml hv
  obtain ⟨rfl, hsz, hZ, hP, hK, hD0⟩ := hv
  have hx := B.exec
  have hb := B.bytes
  have hr := B.returns
  have hts := atoms_spec (ws := wzX1_caseNumber) B.pre
  have hown : s.vm.findClass RX1 = some m.cls := findClass_of_methodNamed B.named
  have hlocks := B.notSynchronized
  have hD := hD0.self (sz := CS.hs σ)
  generalize hAe : va_A (cW Q σ) (CS.hs σ) = A at hD ⊢
  have hA : ∀ q : Nat, s.heap.size ≤ q → A q := fun q h => by rw [← hAe]; exact Or.inr (hsz ▸ h)
  have hC : CP dC dI Q A s.heap σ s.heap [] := ⟨hP, hD, va_S.rf, hsz⟩
  have h0 : CS.hs σ ≤ CS.hs σ := Nat.le_refl _
  have hl := lv_entry ([.ref (Q.o 3), .int x1, .int x2]) (n := 5) (Nat.le_of_ble_eq_true rfl)
  rw [lg_entry_eq]
  generalize (lg_sl ([.ref (Q.o 3), .int x1, .int x2]) ++ List.replicate (5 - (lg_sl ([.ref (Q.o 3), .int x1, .int x2])).length) Slot.unset).toArray = ls at hl ⊢
  have hl : lv_has ls 5 [(0, .ref (Q.o 3)), (1, .int x1), (2, .int x2)] := hl
  unfold f_X1_caseNumber at hf
  refine W.widen (k := CS.hs σ - CS.hs σ) (n := 17 * (CS.hs σ - CS.hs σ)) (Nat.zero_le _) (Nat.zero_le _) ?_
  refine lv_aload_n hx hb dX1_caseNumber_0 rfl (lv_at hl 0 rfl) ?_
  refine lv_bipush (v := 45) hx hb dX1_caseNumber_1 (by decide) ?_
  obtain ⟨p1, hcp1, hf⟩ := hf_bind hf
  have mo2 : CS.hs σ ≤ CS.hs p1.2 := Mono.go hcp1 (m_X1_skip N σ 45)
  have hr9 : CS.hs p1.2 ≤ CS.hs R.2 := Mono.go hf (mono_bind (m_X1_found N p1.2 1) (fun p5 => (mono_ite (mono_bind (m_X1_misplaced N p5.2) (fun p28 => (mono_some (Nat.le_refl _)))) (mono_ite (m_X1_caseNumber_44 N p5.2 x1 x2 (p5.2.i 45)) (m_X1_caseNumber_44 N p5.2 x1 x2 (-(p5.2.i 45)))))))
  have hFc := cFree hC hA
  refine va_calli (va_runU (As := [.int 45]) (rest := []) ⟨hx, hb, hml, hown, hts⟩ (c_X1_skip l dC dI Q N σ 45 p1 hcp1) (va_cwU 1 hts hX1_caseNumber_X1_skip_u130 rfl rfl rfl rfl (by decide +kernel) ⟨(show 4 + 1 ≤ 5 by omega), (show 8 + (3 + 11) + 60 * 4 ≤ 60 * 5 by omega)⟩) ⟨zPre.blind, va_recv hK hC.1 (ci := 6) (q0 := 3) rfl rfl, cPre_go hZ hK hC⟩ rfl rfl hl.1 rfl (lv_room (Nat.le_of_ble_eq_true rfl)) dX1_caseNumber_3 (cAcc h0 mo2 hr9)) hC.2.2.1 (fun q _ h => hFc q h) hFc (fun r3 u9 t9 H1 locs ht hvm hw hB hz1 hk1 hS => ?_)
  obtain ⟨⟨hP, hK1, hD1⟩, hsz1⟩ := hB
  rw [ht] at hP hsz1
  have hC : CP dC dI Q A s.heap p1.2 H1 locs := ⟨hP, hD1.weaken (fun _ _ _ h => hFc _ h), hS, hsz1⟩
  generalize H1 = H at hC ⊢
  have h4 : (CS.hs σ) ≤ CS.hs p1.2 := Nat.le_trans h0 mo2
  refine W.widen (k := CS.hs p1.2 - (CS.hs σ)) (n := 17 * (CS.hs p1.2 - (CS.hs σ))) (cAcc2 h0 mo2) (cAcc3 h0 mo2) ?_
  obtain rfl : r3 = p1.1 := hw
  refine lv_istore_n (lv' := [(3, .int p1.1), (0, .ref (Q.o 3)), (1, .int x1), (2, .int x2)]) hx hb dX1_caseNumber_6 rfl hl (by decide) rfl (fun ls hl => ?_)
  refine lv_aload_n hx hb dX1_caseNumber_7 rfl (lv_at hl 1 rfl) ?_
  refine lv_iconst (v := 1) hx hb dX1_caseNumber_8 (by decide) ?_
  obtain ⟨p5, hcp5, hf⟩ := hf_bind hf
  have mo6 : CS.hs p1.2 ≤ CS.hs p5.2 := Mono.go hcp5 (m_X1_found N p1.2 1)
  have hr9 : CS.hs p5.2 ≤ CS.hs R.2 := Mono.go hf (mono_ite (mono_bind (m_X1_misplaced N p5.2) (fun p28 => (mono_some (Nat.le_refl _)))) (mono_ite (m_X1_caseNumber_44 N p5.2 x1 x2 (p5.2.i 45)) (m_X1_caseNumber_44 N p5.2 x1 x2 (-(p5.2.i 45)))))
  have hFc := cFree hC hA
  refine va_calli (va_runU (As := [.int 1]) (rest := []) ⟨hx, hb, hml, hown, hts⟩ (c_X1_found l dC dI Q N p1.2 1 p5 hcp5) (va_cwU 1 hts hX1_caseNumber_X1_found_u42 rfl rfl rfl rfl (by decide +kernel) ⟨(show 1 + 1 ≤ 5 by omega), (show 8 + (2 + 11) + 60 * 1 ≤ 60 * 5 by omega)⟩) ⟨zPre.blind, va_recv hK hC.1 (ci := 6) (q0 := 3) rfl rfl, cPre_go hZ hK hC⟩ rfl rfl hl.1 rfl (lv_room (Nat.le_of_ble_eq_true rfl)) dX1_caseNumber_9 (cAcc h4 mo6 hr9)) hC.2.2.1 (fun q _ h => hFc q h) hFc (fun r7 u9 t9 H1 locs ht hvm hw hB hz1 hk1 hS => ?_)
  obtain ⟨⟨hP, hK1, hD1⟩, hsz1⟩ := hB
  rw [ht] at hP hsz1
  have hC : CP dC dI Q A s.heap p5.2 H1 locs := ⟨hP, hD1.weaken (fun _ _ _ h => hFc _ h), hS, hsz1⟩
  generalize H1 = H at hC ⊢
  have h8 : (CS.hs σ) ≤ CS.hs p5.2 := Nat.le_trans h4 mo6
  refine W.widen (k := CS.hs p5.2 - (CS.hs σ)) (n := 17 * (CS.hs p5.2 - (CS.hs σ))) (cAcc2 h4 mo6) (cAcc3 h4 mo6) ?_
  obtain rfl : r7 = p5.1 := hw
  refine lv_if_ne (tgt := 20) hx hb dX1_caseNumber_12 (by decide) (fun c9 => ?_) (fun c9 => ?_)
  ·
    replace hf := (if_neg c9).symm.trans hf
    refine lv_iload_n hx hb dX1_caseNumber_20 rfl (lv_at hl 0 rfl) ?_
    refine lv_if_eq (tgt := 35) hx hb dX1_caseNumber_21 (by decide) (fun c10 => ?_) (fun c10 => ?_)
    ·
      replace hf := (if_pos c10).symm.trans hf
      refine lv_aload_n hx hb dX1_caseNumber_35 rfl (lv_at hl 1 rfl) ?_
      refine cG_28 hx hb hts i_X1_caseNumber_X7 hown hK hC (hts (.fieldLink RX1 18 "StatementRules2$Formulas" "tokens" "LStatementRules2$Tokens;") k_X1_caseNumber_fieldLink_RX1_18_SR_Formulas_tokens_LSR_Tokens) (fun _ q9 => q9) dX1_caseNumber_36 ?_
      refine cGN_45 (v := (p5.2.i 45)) hx hb hts i_X1_caseNumber_X9 hown hK hC (va_Nw.use rfl (hZ.1 (.fieldLinkNest RX1 76 "StatementRules2$Tokens" "value" "I" "StatementRules2") (by decide +kernel))) (fun _ q9 => q9) dX1_caseNumber_39 rfl ?_
      refine lv_istore (lv' := [(4, .int (p5.2.i 45)), (3, .int p1.1), (0, .ref (Q.o 3)), (1, .int x1), (2, .int x2)]) hx hb dX1_caseNumber_42 hl (by decide) rfl (fun ls hl => ?_)
      exact j_X1_caseNumber_44 l dC dI Q N (CS.hs σ) R hx hb hr hml hown hts hlocks hZ hA hK p5.2 x1 x2 (p5.2.i 45) _ _ _ hf h8 hC (lv_sub hl [2, 3, 4, 0] rfl)
    ·
      replace hf := (if_neg c10).symm.trans hf
      refine lv_aload_n hx hb dX1_caseNumber_24 rfl (lv_at hl 1 rfl) ?_
      refine cG_28 hx hb hts i_X1_caseNumber_X7 hown hK hC (hts (.fieldLink RX1 18 "StatementRules2$Formulas" "tokens" "LStatementRules2$Tokens;") k_X1_caseNumber_fieldLink_RX1_18_SR_Formulas_tokens_LSR_Tokens) (fun _ q9 => q9) dX1_caseNumber_25 ?_
      refine cGN_45 (v := (p5.2.i 45)) hx hb hts i_X1_caseNumber_X9 hown hK hC (va_Nw.use rfl (hZ.1 (.fieldLinkNest RX1 76 "StatementRules2$Tokens" "value" "I" "StatementRules2") (by decide +kernel))) (fun _ q9 => q9) dX1_caseNumber_28 rfl ?_
      refine lv_ineg hx hb dX1_caseNumber_31 ?_
      refine lv_goto (tgt := 42) hx hb dX1_caseNumber_32 (by decide) ?_
      refine lv_istore (lv' := [(4, .int (-(p5.2.i 45))), (3, .int p1.1), (0, .ref (Q.o 3)), (1, .int x1), (2, .int x2)]) hx hb dX1_caseNumber_42 hl (by decide) rfl (fun ls hl => ?_)
      exact j_X1_caseNumber_44 l dC dI Q N (CS.hs σ) R hx hb hr hml hown hts hlocks hZ hA hK p5.2 x1 x2 (-(p5.2.i 45)) _ _ _ hf h8 hC (lv_sub hl [2, 3, 4, 0] rfl)
  ·
    replace hf := (if_pos c9).symm.trans hf
    refine lv_aload_n hx hb dX1_caseNumber_15 rfl (lv_at hl 1 rfl) ?_
    obtain ⟨p28, hcp28, hf⟩ := hf_bind hf
    have mo29 : CS.hs p5.2 ≤ CS.hs p28.2 := Mono.go hcp28 (m_X1_misplaced N p5.2)
    have hr9 : CS.hs p28.2 ≤ CS.hs R.2 := Mono.go hf (mono_some (Nat.le_refl _))
    have hFc := cFree hC hA
    refine va_callv (va_runU (As := []) (rest := []) ⟨hx, hb, hml, hown, hts⟩ (c_X1_misplaced l dC dI Q N p5.2 p28 hcp28) (va_cwU 0 hts hX1_caseNumber_X1_misplaced_u59 rfl rfl rfl rfl (by decide +kernel) ⟨(show 3 + 1 ≤ 5 by omega), (show 8 + (1 + 11) + 60 * 3 ≤ 60 * 5 by omega)⟩) ⟨zPre.blind, va_recv hK hC.1 (ci := 6) (q0 := 3) rfl rfl, cPre_go hZ hK hC⟩ rfl rfl hl.1 rfl (lv_room (Nat.le_of_ble_eq_true rfl)) dX1_caseNumber_16 (cAcc h8 mo29 hr9)) hC.2.2.1 (fun q _ h => hFc q h) hFc (fun u9 t9 H1 locs ht hvm hw hB hz1 hk1 hS => ?_)
    obtain ⟨⟨hP, hK1, hD1⟩, hsz1⟩ := hB
    rw [ht] at hP hsz1
    have hC : CP dC dI Q A s.heap p28.2 H1 locs := ⟨hP, hD1.weaken (fun _ _ _ h => hFc _ h), hS, hsz1⟩
    generalize H1 = H at hC ⊢
    have h31 : (CS.hs σ) ≤ CS.hs p28.2 := Nat.le_trans h8 mo29
    refine W.widen (k := CS.hs p28.2 - (CS.hs σ)) (n := 17 * (CS.hs p28.2 - (CS.hs σ))) (cAcc2 h8 mo29) (cAcc3 h8 mo29) ?_
    obtain rfl := Option.some.inj hf
    exact W.vret hx hb hr (fun t ht hW => ⟨⟨(), rfl, trivial, ⟨by rw [ht]; exact hC.1, va_K.moved hW.alike hK, hC.2.1⟩, by rw [ht]; exact hC.2.2.2⟩, hC.2.2.1.F ht⟩) hC.2.2.1.2.2 dX1_caseNumber_19
end
section
theorem k_X5_init_methodLink_RX5_3_objectInit : Cond.methodLink RX5 3 objectInit ∈ wzX5_init := List.mem_cons_of_mem _ (List.mem_append_left _ (List.mem_of_getElem? (i := 0) rfl))
theorem k_X5_init_instanceMethod_objectInit : Cond.instanceMethod objectInit ∈ wzX5_init := List.mem_cons_of_mem _ (List.mem_append_left _ (List.mem_of_getElem? (i := 1) rfl))
theorem k_X5_init_code_objectInit_0xb1_1_none : Cond.code objectInit ⟨#[0xb1]⟩ 1 none ∈ wzX5_init := List.mem_cons_of_mem _ (List.mem_append_left _ (List.mem_of_getElem? (i := 2) rfl))
set_option maxHeartbeats 4000000 in
set_option maxRecDepth 100000 in
theorem c_X5_init (l : Launch) (dC : Nat → ClassId) (dI : Nat → Nat → Nat) (Q : CQ) (N : Nat) (σ : CS) (x0 : Nat) (R : Unit × CS) (hf : f_X5_init N σ x0 = some R) : Met l yX5_init wzX5_init ({ frames := 1, cells := CS.hs R.2 - CS.hs σ, slots := 17 * (CS.hs R.2 - CS.hs σ), locals := 60 * 1 }) (va_Pc [.ref x0] (zPre dC dI (CS.hs σ) (cW Q σ) (cT Q))) (va_Qv (fun (_ : Unit) => True) (fun (_ : Unit) (t : State) => zPost dC dI (va_A (cW Q σ) (CS.hs σ)) (cW Q R.2) (cT Q) t ∧ t.heap.size = CS.hs R.2) (va_A (cW Q σ) (CS.hs σ))) (CS.hs R.2 - CS.hs σ) (17 * (CS.hs R.2 - CS.hs σ)) (va_A (cW Q σ) (CS.hs σ)) := by
  refine Met.ofW (cc := cX5_init) (maxL := 1) (ret := none) (by decide) rfl ?_
  intro p e s m args below meth c s₁ B hml hv
  obtain ⟨rfl, hsz, hZ, hP, hK, hD0⟩ := hv
  have hx := B.exec
  have hb := B.bytes
  have hr := B.returns
  have hts := atoms_spec (ws := wzX5_init) B.pre
  have hown : s.vm.findClass RX5 = some m.cls := findClass_of_methodNamed B.named
  have hlocks := B.notSynchronized
  have hin : meth.name = "<init>" := (name_of_methodNamed B.named B.method).1
  have hD := hD0.self (sz := CS.hs σ)
  generalize hAe : va_A (cW Q σ) (CS.hs σ) = A at hD ⊢
  have hA : ∀ q : Nat, s.heap.size ≤ q → A q := fun q h => by rw [← hAe]; exact Or.inr (hsz ▸ h)
  have hC : CP dC dI Q A s.heap σ s.heap [] := ⟨hP, hD, va_S.rf, hsz⟩
  have h0 : CS.hs σ ≤ CS.hs σ := Nat.le_refl _
  have hl := lv_entry ([.ref x0]) (n := 1) (Nat.le_of_ble_eq_true rfl)
  rw [lg_entry_eq]
  generalize (lg_sl ([.ref x0]) ++ List.replicate (1 - (lg_sl ([.ref x0])).length) Slot.unset).toArray = ls at hl ⊢
  have hl : lv_has ls 1 [(0, .ref x0)] := hl
  unfold f_X5_init at hf
  refine W.widen (k := CS.hs σ - CS.hs σ) (n := 17 * (CS.hs σ - CS.hs σ)) (Nat.zero_le _) (Nat.zero_le _) ?_
  refine lv_aload_n hx hb dX5_init_0 rfl (lv_at hl 0 rfl) ?_
  refine W.objInit hx hb hown (hts (.methodLink RX5 3 objectInit) k_X5_init_methodLink_RX5_3_objectInit) (hts (.instanceMethod objectInit) k_X5_init_instanceMethod_objectInit) (hts (.code objectInit ⟨#[0xb1]⟩ 1 none) k_X5_init_code_objectInit_0xb1_1_none) rfl (by rw [hml]; exact hl.1) rfl dX5_init_1 (Nat.le_of_ble_eq_true rfl) (Nat.le_of_ble_eq_true rfl) ?_
  refine W.eq (g2 := F0 m 4 ls []) rfl ?_
  obtain rfl := Option.some.inj hf
  exact W.vret hx hb hr (fun t ht hW => ⟨⟨(), rfl, trivial, ⟨by rw [ht]; exact hC.1, va_K.moved hW.alike hK, hC.2.1⟩, by rw [ht]; exact hC.2.2.2⟩, hC.2.2.1.F ht⟩) hC.2.2.1.2.2 dX5_init_4
theorem k_X6_push_fieldLink_RX6_21_SR_Opens_count_I : Cond.fieldLink RX6 21 "StatementRules2$Opens" "count" "I" ∈ wzX6_push := List.mem_cons_of_mem _ (List.mem_append_left _ (List.mem_of_getElem? (i := 0) rfl))
theorem i_X6_push_X6 : ∀ w ∈ wsX60, w ∈ wzX6_push := fun _ h => List.mem_cons_of_mem _ (List.mem_append_right _ (List.mem_append_left _ (h)))
theorem k_X6_push_fieldLink_RX6_11_SR_Opens_rows_LSR_Open : Cond.fieldLink RX6 11 "StatementRules2$Opens" "rows" "[LStatementRules2$Open;" ∈ wzX6_push := List.mem_cons_of_mem _ (List.mem_append_left _ (List.mem_of_getElem? (i := 1) rfl))
theorem k_X6_push_methodLink_RX6_34_yJ9_min_7cf53 : Cond.methodLink RX6 34 yJ9_min_7cf53 ∈ wzX6_push := List.mem_cons_of_mem _ (List.mem_append_left _ (List.mem_of_getElem? (i := 2) rfl))
theorem k_X6_push_static_yJ9_min_7cf53 : Cond.static yJ9_min_7cf53 ∈ wzX6_push := List.mem_cons_of_mem _ (List.mem_append_left _ (List.mem_of_getElem? (i := 3) rfl))
theorem k_X6_push_initialized_RJ9 : Cond.initialized RJ9 ∈ wzX6_push := List.mem_cons_of_mem _ (List.mem_append_left _ (List.mem_of_getElem? (i := 4) rfl))
theorem k_X6_push_code_yJ9_min_7cf53_cJ9_min_7cf53_2_some_int : Cond.code yJ9_min_7cf53 cJ9_min_7cf53 2 (some .int) ∈ wzX6_push := List.mem_cons_of_mem _ (List.mem_append_left _ (List.mem_of_getElem? (i := 5) rfl))
theorem i_X6_push_X5 : ∀ w ∈ wsX50, w ∈ wzX6_push := fun _ h => List.mem_cons_of_mem _ (List.mem_append_right _ (List.mem_append_right _ (List.mem_append_left _ (h))))
theorem k_X6_push_classLink_RX6_9_RX5 : Cond.classLink RX6 9 RX5 ∈ wzX6_push := List.mem_cons_of_mem _ (List.mem_append_left _ (List.mem_of_getElem? (i := 6) rfl))
theorem k_X6_push_instantiable_RX5_17 : Cond.instantiable RX5 17 ∈ wzX6_push := List.mem_cons_of_mem _ (List.mem_append_left _ (List.mem_of_getElem? (i := 7) rfl))
theorem k_X6_push_initialized_RX5 : Cond.initialized RX5 ∈ wzX6_push := List.mem_cons_of_mem _ (List.mem_append_left _ (List.mem_of_getElem? (i := 8) rfl))
theorem k_X6_push_instanceMethod_yX5_init : Cond.instanceMethod yX5_init ∈ wzX6_push := List.mem_cons_of_mem _ (List.mem_append_left _ (List.mem_of_getElem? (i := 9) rfl))
theorem k_X6_push_fieldLink_RX6_25_SR_Opens_serials_I : Cond.fieldLink RX6 25 "StatementRules2$Opens" "serials" "I" ∈ wzX6_push := List.mem_cons_of_mem _ (List.mem_append_left _ (List.mem_of_getElem? (i := 10) rfl))
theorem k_X6_push_fieldLink_RX6_28_SR_Opens_jumpCount_I : Cond.fieldLink RX6 28 "StatementRules2$Opens" "jumpCount" "I" ∈ wzX6_push := List.mem_cons_of_mem _ (List.mem_append_left _ (List.mem_of_getElem? (i := 11) rfl))
set_option maxHeartbeats 4000000 in
set_option maxRecDepth 100000 in
theorem j_X6_push_48 {p : Program} {e : Env} {s : State} {m : MethodId} {args : Array Value} {below : List Frame} {meth : Method} {c : Code} {A : Nat → Prop} (l : Launch) (dC : Nat → ClassId) (dI : Nat → Nat → Nat) (Q : CQ) (N : Nat) (z9h : Nat) (R : Option Nat × CS) (hx : p.tables.exec = Jvm.exec) (hb : c.code = cX6_push) (hr : meth.sig.returnType = (some (.object "StatementRules2$Open"))) (hml : c.maxLocals = 6) (hown : s.vm.findClass RX6 = some m.cls) (hts : ∀ w ∈ wzX6_push, w.before args s = true) (hlocks : meth.locks = false) (hZ : zAMB s) (hA : ∀ q : Nat, s.heap.size ≤ q → A q) (hK : va_K (dC, dI) vwCl (cT Q) s) : ∀ (σ : CS) (x1 : Int32) (x2 : Int32) (x3 : Int32) (x4 : Int32) (x5 : Nat) (H : Heap) (locs : List Loc) (ls : Array Slot), f_X6_push_48 N σ x1 x2 x3 x4 x5 = some R → z9h ≤ CS.hs σ → CP dC dI Q A s.heap σ H locs → lv_has ls 6 [(0, .ref (Q.o 6)), (1, .int x1), (2, .int x2), (3, .int x3), (4, .int x4), (5, .ref x5)] → W p l e ({ frames := 2, cells := CS.hs R.2 - z9h, slots := 17 * (CS.hs R.2 - z9h), locals := 60 * 2 }) s m args below meth c H locs (CS.hs σ - z9h) (17 * (CS.hs σ - z9h)) (MQ below (va_Qq (fun (r : Option Nat) (_ : Unit) => r = R.1) (fun (_ : Unit) (t : State) => zPost dC dI A (cW Q R.2) (cT Q) t ∧ t.heap.size = CS.hs R.2) A) args s (CS.hs R.2 - z9h) (17 * (CS.hs R.2 - z9h)) A) (F0 m 48 ls []) := by
  intro σ x1 x2 x3 x4 x5 H locs ls hf h0 hC hl
  unfold f_X6_push_48 at hf
  refine lv_aload_n hx hb dX6_push_48 rfl (lv_at hl 0 rfl) ?_
  refine lv_iload hx hb dX6_push_49 (lv_at hl 4 rfl) ?_
  refine lv_iconst (v := 1) hx hb dX6_push_51 (by decide) ?_
  refine lv_iadd hx hb dX6_push_52 ?_
  refine cP_53 (v := (x4 + 1)) hx hb hts i_X6_push_X6 hown hK hC (hts (.fieldLink RX6 21 "StatementRules2$Opens" "count" "I") k_X6_push_fieldLink_RX6_21_SR_Opens_count_I) (fun _ q9 => q9) dX6_push_53 (fun H locs hC => ?_)
  refine lv_aload_n hx hb dX6_push_56 rfl (lv_at hl 0 rfl) ?_
  refine lv_dup hx hb dX6_push_57 rfl ?_
  refine cG_54 (v := (σ.i 54)) hx hb hts i_X6_push_X6 hown hK hC (hts (.fieldLink RX6 25 "StatementRules2$Opens" "serials" "I") k_X6_push_fieldLink_RX6_25_SR_Opens_serials_I) (fun _ q9 => q9) dX6_push_58 rfl ?_
  refine lv_iconst (v := 1) hx hb dX6_push_61 (by decide) ?_
  refine lv_iadd hx hb dX6_push_62 ?_
  refine cP_54 (v := ((σ.i 54) + 1)) hx hb hts i_X6_push_X6 hown hK hC (hts (.fieldLink RX6 25 "StatementRules2$Opens" "serials" "I") k_X6_push_fieldLink_RX6_25_SR_Opens_serials_I) (fun _ q9 => q9) dX6_push_63 (fun H locs hC => ?_)
  refine lv_aload hx hb dX6_push_66 (lv_at hl 5 rfl) ?_
  refine lv_iload_n hx hb dX6_push_68 rfl (lv_at hl 1 rfl) ?_
  obtain ⟨b11, hf⟩ := hf_ite hf
  refine pPN_X5_0 (v := x1) hx hb hts i_X6_push_X5 hown hK hC (va_Nw.use rfl (hZ.1 (.fieldLinkNest RX6 41 "StatementRules2$Open" "sort" "I" "StatementRules2") (by decide +kernel))) (fun _ q9 => q9) dX6_push_69 b11 (fun H locs hC => ?_)
  refine lv_aload hx hb dX6_push_72 (lv_at hl 5 rfl) ?_
  refine lv_aload_n hx hb dX6_push_74 rfl (lv_at hl 0 rfl) ?_
  refine cG_54 (v := ((σ.i 54) + 1)) hx hb hts i_X6_push_X6 hown hK hC (hts (.fieldLink RX6 25 "StatementRules2$Opens" "serials" "I") k_X6_push_fieldLink_RX6_25_SR_Opens_serials_I) (fun _ q9 => q9) dX6_push_75 rfl ?_
  refine pPN_X5_1 (v := ((σ.i 54) + 1)) hx hb hts i_X6_push_X5 hown hK hC (va_Nw.use rfl (hZ.1 (.fieldLinkNest RX6 44 "StatementRules2$Open" "serial" "I" "StatementRules2") (by decide +kernel))) (fun _ q9 => q9) dX6_push_78 b11 (fun H locs hC => ?_)
  refine lv_aload hx hb dX6_push_81 (lv_at hl 5 rfl) ?_
  refine lv_iload_n hx hb dX6_push_83 rfl (lv_at hl 2 rfl) ?_
  refine pPN_X5_2 (v := x2) hx hb hts i_X6_push_X5 hown hK hC (va_Nw.use rfl (hZ.1 (.fieldLinkNest RX6 47 "StatementRules2$Open" "depth" "I" "StatementRules2") (by decide +kernel))) (fun _ q9 => q9) dX6_push_84 b11 (fun H locs hC => ?_)
  refine lv_aload hx hb dX6_push_87 (lv_at hl 5 rfl) ?_
  refine lv_iload_n hx hb dX6_push_89 rfl (lv_at hl 3 rfl) ?_
  refine pPN_X5_3 (v := x3) hx hb hts i_X6_push_X5 hown hK hC (va_Nw.use rfl (hZ.1 (.fieldLinkNest RX6 50 "StatementRules2$Open" "namesBefore" "I" "StatementRules2") (by decide +kernel))) (fun _ q9 => q9) dX6_push_90 b11 (fun H locs hC => ?_)
  refine lv_aload hx hb dX6_push_93 (lv_at hl 5 rfl) ?_
  refine lv_lconst (v := 0) hx hb dX6_push_95 (by decide) ?_
  refine pPN_X5_4 (v := 0) hx hb hts i_X6_push_X5 hown hK hC (va_Nw.use rfl (hZ.1 (.fieldLinkNest RX6 53 "StatementRules2$Open" "label" "J" "StatementRules2") (by decide +kernel))) (fun _ q9 => q9) dX6_push_96 b11 (fun H locs hC => ?_)
  refine lv_aload hx hb dX6_push_99 (lv_at hl 5 rfl) ?_
  refine lv_iconst (v := 0) hx hb dX6_push_101 (by decide) ?_
  refine pPN_X5_5 (v := 0) hx hb hts i_X6_push_X5 hown hK hC (va_Nw.use rfl (hZ.1 (.fieldLinkNest RX6 57 "StatementRules2$Open" "begun" "Z" "StatementRules2") (by decide +kernel))) (fun _ q9 => q9) dX6_push_102 b11 (by decide) (fun H locs hC => ?_)
  refine lv_aload hx hb dX6_push_105 (lv_at hl 5 rfl) ?_
  refine lv_iconst (v := 0) hx hb dX6_push_107 (by decide) ?_
  refine pPN_X5_6 (v := 0) hx hb hts i_X6_push_X5 hown hK hC (va_Nw.use rfl (hZ.1 (.fieldLinkNest RX6 61 "StatementRules2$Open" "ends" "Z" "StatementRules2") (by decide +kernel))) (fun _ q9 => q9) dX6_push_108 b11 (by decide) (fun H locs hC => ?_)
  refine lv_aload hx hb dX6_push_111 (lv_at hl 5 rfl) ?_
  refine lv_iconst (v := 0) hx hb dX6_push_113 (by decide) ?_
  refine pPN_X5_7 (v := 0) hx hb hts i_X6_push_X5 hown hK hC (va_Nw.use rfl (hZ.1 (.fieldLinkNest RX6 64 "StatementRules2$Open" "never" "Z" "StatementRules2") (by decide +kernel))) (fun _ q9 => q9) dX6_push_114 b11 (by decide) (fun H locs hC => ?_)
  refine lv_aload hx hb dX6_push_117 (lv_at hl 5 rfl) ?_
  refine lv_iconst (v := 0) hx hb dX6_push_119 (by decide) ?_
  refine pPN_X5_8 (v := 0) hx hb hts i_X6_push_X5 hown hK hC (va_Nw.use rfl (hZ.1 (.fieldLinkNest RX6 67 "StatementRules2$Open" "whole" "Z" "StatementRules2") (by decide +kernel))) (fun _ q9 => q9) dX6_push_120 b11 (by decide) (fun H locs hC => ?_)
  refine lv_aload hx hb dX6_push_123 (lv_at hl 5 rfl) ?_
  refine lv_iconst (v := (-1)) hx hb dX6_push_125 (by decide) ?_
  refine pPN_X5_9 (v := (-1)) hx hb hts i_X6_push_X5 hown hK hC (va_Nw.use rfl (hZ.1 (.fieldLinkNest RX6 70 "StatementRules2$Open" "exit" "I" "StatementRules2") (by decide +kernel))) (fun _ q9 => q9) dX6_push_126 b11 (fun H locs hC => ?_)
  refine lv_aload hx hb dX6_push_129 (lv_at hl 5 rfl) ?_
  refine lv_iconst (v := (-1)) hx hb dX6_push_131 (by decide) ?_
  refine pPN_X5_10 (v := (-1)) hx hb hts i_X6_push_X5 hown hK hC (va_Nw.use rfl (hZ.1 (.fieldLinkNest RX6 73 "StatementRules2$Open" "next" "I" "StatementRules2") (by decide +kernel))) (fun _ q9 => q9) dX6_push_132 b11 (fun H locs hC => ?_)
  refine lv_aload hx hb dX6_push_135 (lv_at hl 5 rfl) ?_
  refine lv_iconst (v := (-1)) hx hb dX6_push_137 (by decide) ?_
  refine pPN_X5_11 (v := (-1)) hx hb hts i_X6_push_X5 hown hK hC (va_Nw.use rfl (hZ.1 (.fieldLinkNest RX6 76 "StatementRules2$Open" "other" "I" "StatementRules2") (by decide +kernel))) (fun _ q9 => q9) dX6_push_138 b11 (fun H locs hC => ?_)
  refine lv_aload hx hb dX6_push_141 (lv_at hl 5 rfl) ?_
  refine lv_iconst (v := 0) hx hb dX6_push_143 (by decide) ?_
  refine pPN_X5_12 (v := 0) hx hb hts i_X6_push_X5 hown hK hC (va_Nw.use rfl (hZ.1 (.fieldLinkNest RX6 79 "StatementRules2$Open" "caught" "I" "StatementRules2") (by decide +kernel))) (fun _ q9 => q9) dX6_push_144 b11 (fun H locs hC => ?_)
  refine lv_aload hx hb dX6_push_147 (lv_at hl 5 rfl) ?_
  refine lv_aload_n hx hb dX6_push_149 rfl (lv_at hl 0 rfl) ?_
  refine cG_55 (v := (σ.i 55)) hx hb hts i_X6_push_X6 hown hK hC (hts (.fieldLink RX6 28 "StatementRules2$Opens" "jumpCount" "I") k_X6_push_fieldLink_RX6_28_SR_Opens_jumpCount_I) (fun _ q9 => q9) dX6_push_150 rfl ?_
  refine pPN_X5_14 (v := (σ.i 55)) hx hb hts i_X6_push_X5 hown hK hC (va_Nw.use rfl (hZ.1 (.fieldLinkNest RX6 82 "StatementRules2$Open" "firstJump" "I" "StatementRules2") (by decide +kernel))) (fun _ q9 => q9) dX6_push_153 b11 (fun H locs hC => ?_)
  refine lv_aload hx hb dX6_push_156 (lv_at hl 5 rfl) ?_
  obtain rfl := Option.some.inj hf
  exact W.aret (v := .ref x5) hx hb hr (Or.inl ⟨_, rfl⟩) (Or.inr ⟨_, rfl⟩) (fun t ht hW => ⟨⟨(some x5), (), rfl, rfl, ⟨by rw [ht]; exact hC.1, va_K.moved hW.alike hK, hC.2.1⟩, by rw [ht]; exact hC.2.2.2⟩, hC.2.2.1.F ht⟩) hC.2.2.1.2.2 dX6_push_158
set_option maxHeartbeats 4000000 in
set_option maxRecDepth 100000 in
theorem c_X6_push (l : Launch) (dC : Nat → ClassId) (dI : Nat → Nat → Nat) (Q : CQ) (N : Nat) (σ : CS) (x1 : Int32) (x2 : Int32) (x3 : Int32) (R : Option Nat × CS) (hf : f_X6_push N σ x1 x2 x3 = some R) : Met l yX6_push wzX6_push ({ frames := 2, cells := CS.hs R.2 - CS.hs σ, slots := 17 * (CS.hs R.2 - CS.hs σ), locals := 60 * 2 }) (va_Pc [.ref (Q.o 6), .int x1, .int x2, .int x3] (zPre dC dI (CS.hs σ) (cW Q σ) (cT Q))) (va_Qq (fun (r : Option Nat) (_ : Unit) => r = R.1) (fun (_ : Unit) (t : State) => zPost dC dI (va_A (cW Q σ) (CS.hs σ)) (cW Q R.2) (cT Q) t ∧ t.heap.size = CS.hs R.2) (va_A (cW Q σ) (CS.hs σ))) (CS.hs R.2 - CS.hs σ) (17 * (CS.hs R.2 - CS.hs σ)) (va_A (cW Q σ) (CS.hs σ)) := by
  refine Met.ofW (cc := cX6_push) (maxL := 6) (ret := (some (.object "StatementRules2$Open"))) (by decide) rfl ?_
  intro p e s m args below meth c s₁ B hml hv
  obtain ⟨rfl, hsz, hZ, hP, hK, hD0⟩ := hv
  have hx := B.exec
  have hb := B.bytes
  have hr := B.returns
  have hts := atoms_spec (ws := wzX6_push) B.pre
  have hown : s.vm.findClass RX6 = some m.cls := findClass_of_methodNamed B.named
  have hlocks := B.notSynchronized
  have hD := hD0.self (sz := CS.hs σ)
  generalize hAe : va_A (cW Q σ) (CS.hs σ) = A at hD ⊢
  have hA : ∀ q : Nat, s.heap.size ≤ q → A q := fun q h => by rw [← hAe]; exact Or.inr (hsz ▸ h)
  have hC : CP dC dI Q A s.heap σ s.heap [] := ⟨hP, hD, va_S.rf, hsz⟩
  have h0 : CS.hs σ ≤ CS.hs σ := Nat.le_refl _
  have hl := lv_entry ([.ref (Q.o 6), .int x1, .int x2, .int x3]) (n := 6) (Nat.le_of_ble_eq_true rfl)
  rw [lg_entry_eq]
  generalize (lg_sl ([.ref (Q.o 6), .int x1, .int x2, .int x3]) ++ List.replicate (6 - (lg_sl ([.ref (Q.o 6), .int x1, .int x2, .int x3])).length) Slot.unset).toArray = ls at hl ⊢
  have hl : lv_has ls 6 [(0, .ref (Q.o 6)), (1, .int x1), (2, .int x2), (3, .int x3)] := hl
  unfold f_X6_push at hf
  refine W.widen (k := CS.hs σ - CS.hs σ) (n := 17 * (CS.hs σ - CS.hs σ)) (Nat.zero_le _) (Nat.zero_le _) ?_
  refine lv_aload_n hx hb dX6_push_0 rfl (lv_at hl 0 rfl) ?_
  refine cG_53 (v := (σ.i 53)) hx hb hts i_X6_push_X6 hown hK hC (hts (.fieldLink RX6 21 "StatementRules2$Opens" "count" "I") k_X6_push_fieldLink_RX6_21_SR_Opens_count_I) (fun _ q9 => q9) dX6_push_1 rfl ?_
  refine lv_aload_n hx hb dX6_push_4 rfl (lv_at hl 0 rfl) ?_
  refine cG_51 hx hb hts i_X6_push_X6 hown hK hC (hts (.fieldLink RX6 11 "StatementRules2$Opens" "rows" "[LStatementRules2$Open;") k_X6_push_fieldLink_RX6_11_SR_Opens_rows_LSR_Open) (fun _ q9 => q9) dX6_push_5 ?_
  refine va_alen (v := 400) hx hb hK hC.1 22 2 rfl rfl rfl dX6_push_8 ?_
  refine lv_iconst (v := 1) hx hb dX6_push_9 (by decide) ?_
  refine lv_isub hx hb dX6_push_10 ?_
  refine lv_topi (fun z9 e9 => ?_)
  obtain rfl : z9 = 399 := e9.trans (by decide)
  have hr9 : CS.hs σ ≤ CS.hs R.2 := Mono.go hf (mono_ite (mono_oc (mono_le (Nat.le_succ _) (mono_bind (m_X5_init N (CS.new σ 0) (CS.hs σ)) (fun p5 => (mono_ite (mono_ite (m_X6_push_48 N (CS.setR p5.2 51 (((if (399 : Int32) < (σ.i 53) then (399 : Int32) else (σ.i 53)) : Int32).toNatClampNeg) (some (CS.hs σ))) x1 x2 x3 (if (399 : Int32) < (σ.i 53) then (399 : Int32) else (σ.i 53)) (CS.hs σ)) mono_none) mono_none)))) (fun a3 => (m_X6_push_48 N σ x1 x2 x3 (if (399 : Int32) < (σ.i 53) then (399 : Int32) else (σ.i 53)) a3))) mono_none)
  refine va_mmin hx hb (hml.trans hl.1.symm) hown (hts (.methodLink RX6 34 yJ9_min_7cf53) k_X6_push_methodLink_RX6_34_yJ9_min_7cf53) (hts (.static yJ9_min_7cf53) k_X6_push_static_yJ9_min_7cf53) (hts (.initialized RJ9) k_X6_push_initialized_RJ9) (hts (.code yJ9_min_7cf53 cJ9_min_7cf53 2 (some .int)) k_X6_push_code_yJ9_min_7cf53_cJ9_min_7cf53_2_some_int) (Nat.le_of_ble_eq_true rfl) (Nat.le_of_ble_eq_true rfl) (cAcc4 h0 hr9) (cAcc5 h0 hr9) dX6_push_11 ?_
  refine lv_istore (lv' := [(4, .int (if (399 : Int32) < (σ.i 53) then (399 : Int32) else (σ.i 53))), (0, .ref (Q.o 6)), (1, .int x1), (2, .int x2), (3, .int x3)]) hx hb dX6_push_14 hl (by decide) rfl (fun ls hl => ?_)
  refine lv_aload_n hx hb dX6_push_16 rfl (lv_at hl 1 rfl) ?_
  refine cG_51 hx hb hts i_X6_push_X6 hown hK hC (hts (.fieldLink RX6 11 "StatementRules2$Opens" "rows" "[LStatementRules2$Open;") k_X6_push_fieldLink_RX6_11_SR_Opens_rows_LSR_Open) (fun _ q9 => q9) dX6_push_17 ?_
  refine lv_iload hx hb dX6_push_20 (lv_at hl 0 rfl) ?_
  obtain ⟨b1, hf⟩ := hf_ite hf
  refine cL_51 (v := (CS.r σ 51 (((if (399 : Int32) < (σ.i 53) then (399 : Int32) else (σ.i 53)) : Int32).toNatClampNeg))) hx hb hK hC b1 dX6_push_22 rfl ?_
  rcases hf_oc hf with ⟨q2, hf⟩ | ⟨a3, q2, hf⟩
  ·
    refine W.eq (congrArg (fun v9 => F0 m 23 ls (va_rf v9 :: [])) q2) ?_
    refine W.eq (g2 := F0 m 23 ls (.null :: [])) rfl ?_
    refine lv_astoreN (lv' := [(5, .null), (4, .int (if (399 : Int32) < (σ.i 53) then (399 : Int32) else (σ.i 53))), (0, .ref (Q.o 6)), (1, .int x1), (2, .int x2), (3, .int x3)]) hx hb dX6_push_23 hl (by decide) rfl (fun ls hl => ?_)
    refine lv_aloadN hx hb dX6_push_25 (lv_at hl 0 rfl) ?_
    refine lv_ifnonnullN hx hb dX6_push_27 ?_
    have hn9 : CS.hs σ + 1 ≤ CS.hs R.2 := Mono.go hf (mono_bind (m_X5_init N (CS.new σ 0) (CS.hs σ)) (fun p5 => (mono_ite (mono_ite (m_X6_push_48 N (CS.setR p5.2 51 (((if (399 : Int32) < (σ.i 53) then (399 : Int32) else (σ.i 53)) : Int32).toNatClampNeg) (some (CS.hs σ))) x1 x2 x3 (if (399 : Int32) < (σ.i 53) then (399 : Int32) else (σ.i 53)) (CS.hs σ)) mono_none) mono_none)))
    refine cNew_X5 hx hb hts i_X6_push_X5 hown (hts (.classLink RX6 9 RX5) k_X6_push_classLink_RX6_9_RX5) (hts (.instantiable RX5 17) k_X6_push_instantiable_RX5_17) (hts (.initialized RX5) k_X6_push_initialized_RX5) hK hC hA (cN1 h0 hn9) (cN2 (by decide) h0 hn9) dX6_push_30 (fun H hC => ?_)
    have h4 : (CS.hs σ) ≤ CS.hs σ + 1 := Nat.le_succ_of_le h0
    refine W.widen (k := (CS.hs σ + 1) - (CS.hs σ)) (n := 17 * ((CS.hs σ + 1) - (CS.hs σ))) (cN3 h0) (cN4 (by decide) h0) ?_
    refine lv_dup hx hb dX6_push_33 rfl ?_
    obtain ⟨p5, hcp5, hf⟩ := hf_bind hf
    have mo6 : (CS.hs σ + 1) ≤ CS.hs p5.2 := Mono.go hcp5 (m_X5_init N (CS.new σ 0) (CS.hs σ))
    have hr9 : CS.hs p5.2 ≤ CS.hs R.2 := Mono.go hf (mono_ite (mono_ite (m_X6_push_48 N (CS.setR p5.2 51 (((if (399 : Int32) < (σ.i 53) then (399 : Int32) else (σ.i 53)) : Int32).toNatClampNeg) (some (CS.hs σ))) x1 x2 x3 (if (399 : Int32) < (σ.i 53) then (399 : Int32) else (σ.i 53)) (CS.hs σ)) mono_none) mono_none)
    have hFc := cFree hC hA
    refine va_callv (va_runIN (As := []) (rest := [.ref (CS.hs σ)]) ⟨hx, hb, hml, hown, hts⟩ (c_X5_init l dC dI Q N (CS.new σ 0) (CS.hs σ) p5 hcp5) ⟨va_cnB 0 hts hX6_push_X5_init_n40 rfl rfl rfl (hZ.1 (.methodLinkNest RX6 40 yX5_init "StatementRules2") (by decide +kernel)) (hts (.initialized RX5) k_X6_push_initialized_RX5) (by decide +kernel) ⟨(show 1 + 1 ≤ 2 by omega), (show 8 + (1 + 11) + 60 * 1 ≤ 60 * 2 by omega)⟩, rfl, (hts (.instanceMethod yX5_init) k_X6_push_instanceMethod_yX5_init)⟩ ⟨zPre.blind, cPre_go hZ hK hC⟩ rfl rfl hl.1 rfl (lv_room (Nat.le_of_ble_eq_true rfl)) dX6_push_34 (cAcc h4 mo6 hr9)) hC.2.2.1 (fun q _ h => hFc q h) hFc (fun u9 t9 H1 locs ht hvm hw hB hz1 hk1 hS => ?_)
    obtain ⟨⟨hP, hK1, hD1⟩, hsz1⟩ := hB
    rw [ht] at hP hsz1
    have hC : CP dC dI Q A s.heap p5.2 H1 locs := ⟨hP, hD1.weaken (fun _ _ _ h => hFc _ h), hS, hsz1⟩
    generalize H1 = H at hC ⊢
    have h8 : (CS.hs σ) ≤ CS.hs p5.2 := Nat.le_trans h4 mo6
    refine W.widen (k := CS.hs p5.2 - (CS.hs σ)) (n := 17 * (CS.hs p5.2 - (CS.hs σ))) (cAcc2 h4 mo6) (cAcc3 h4 mo6) ?_
    refine lv_astore (lv' := [(5, .ref (CS.hs σ)), (4, .int (if (399 : Int32) < (σ.i 53) then (399 : Int32) else (σ.i 53))), (0, .ref (Q.o 6)), (1, .int x1), (2, .int x2), (3, .int x3)]) hx hb dX6_push_37 hl (by decide) rfl (fun ls hl => ?_)
    refine lv_aload_n hx hb dX6_push_39 rfl (lv_at hl 2 rfl) ?_
    refine cG_51 hx hb hts i_X6_push_X6 hown hK hC (hts (.fieldLink RX6 11 "StatementRules2$Opens" "rows" "[LStatementRules2$Open;") k_X6_push_fieldLink_RX6_11_SR_Opens_rows_LSR_Open) (fun _ q9 => q9) dX6_push_40 ?_
    refine lv_iload hx hb dX6_push_43 (lv_at hl 1 rfl) ?_
    refine lv_aload hx hb dX6_push_45 (lv_at hl 0 rfl) ?_
    obtain ⟨b9, hf⟩ := hf_ite hf
    obtain ⟨b10, hf⟩ := hf_ite hf
    refine cS_51 hx hb hK hC b9 dX6_push_47 b10 (fun H locs hC => ?_)
    exact j_X6_push_48 l dC dI Q N (CS.hs σ) R hx hb hr hml hown hts hlocks hZ hA hK (CS.setR p5.2 51 (((if (399 : Int32) < (σ.i 53) then (399 : Int32) else (σ.i 53)) : Int32).toNatClampNeg) (some (CS.hs σ))) x1 x2 x3 (if (399 : Int32) < (σ.i 53) then (399 : Int32) else (σ.i 53)) (CS.hs σ) _ _ _ hf h8 hC (lv_sub hl [2, 3, 4, 5, 1, 0] rfl)
  ·
    refine W.eq (congrArg (fun v9 => F0 m 23 ls (va_rf v9 :: [])) q2) ?_
    refine W.eq (g2 := F0 m 23 ls (.ref a3 :: [])) rfl ?_
    refine lv_astore (lv' := [(5, .ref a3), (4, .int (if (399 : Int32) < (σ.i 53) then (399 : Int32) else (σ.i 53))), (0, .ref (Q.o 6)), (1, .int x1), (2, .int x2), (3, .int x3)]) hx hb dX6_push_23 hl (by decide) rfl (fun ls hl => ?_)
    refine lv_aload hx hb dX6_push_25 (lv_at hl 0 rfl) ?_
    refine lv_ifnonnull (tgt := 48) hx hb dX6_push_27 (by decide) ?_
    exact j_X6_push_48 l dC dI Q N (CS.hs σ) R hx hb hr hml hown hts hlocks hZ hA hK σ x1 x2 x3 (if (399 : Int32) < (σ.i 53) then (399 : Int32) else (σ.i 53)) a3 _ _ _ hf h0 hC (lv_sub hl [2, 3, 4, 5, 1, 0] rfl)
theorem k_X6_row_fieldLink_RX6_21_SR_Opens_count_I : Cond.fieldLink RX6 21 "StatementRules2$Opens" "count" "I" ∈ wzX6_row := List.mem_cons_of_mem _ (List.mem_append_left _ (List.mem_of_getElem? (i := 0) rfl))
theorem i_X6_row_X6 : ∀ w ∈ wsX60, w ∈ wzX6_row := fun _ h => List.mem_cons_of_mem _ (List.mem_append_right _ (List.mem_append_left _ (h)))
theorem k_X6_row_fieldLink_RX6_11_SR_Opens_rows_LSR_Open : Cond.fieldLink RX6 11 "StatementRules2$Opens" "rows" "[LStatementRules2$Open;" ∈ wzX6_row := List.mem_cons_of_mem _ (List.mem_append_left _ (List.mem_of_getElem? (i := 1) rfl))
set_option maxHeartbeats 4000000 in
set_option maxRecDepth 100000 in
theorem j_X6_row_30 {p : Program} {e : Env} {s : State} {m : MethodId} {args : Array Value} {below : List Frame} {meth : Method} {c : Code} {A : Nat → Prop} (l : Launch) (dC : Nat → ClassId) (dI : Nat → Nat → Nat) (Q : CQ) (N : Nat) (z9h : Nat) (R : Option Nat × CS) (hx : p.tables.exec = Jvm.exec) (hb : c.code = cX6_row) (hr : meth.sig.returnType = (some (.object "StatementRules2$Open"))) (hml : c.maxLocals = 2) (hown : s.vm.findClass RX6 = some m.cls) (hts : ∀ w ∈ wzX6_row, w.before args s = true) (hlocks : meth.locks = false) (hZ : zAMB s) (hA : ∀ q : Nat, s.heap.size ≤ q → A q) (hK : va_K (dC, dI) vwCl (cT Q) s) : ∀ (σ : CS) (H : Heap) (locs : List Loc) (ls : Array Slot), f_X6_row_30 N σ = some R → z9h ≤ CS.hs σ → CP dC dI Q A s.heap σ H locs → lv_has ls 2 [] → W p l e ({ frames := 1, cells := CS.hs R.2 - z9h, slots := 17 * (CS.hs R.2 - z9h), locals := 60 * 1 }) s m args below meth c H locs (CS.hs σ - z9h) (17 * (CS.hs σ - z9h)) (MQ below (va_Qq (fun (r : Option Nat) (_ : Unit) => r = R.1) (fun (_ : Unit) (t : State) => zPost dC dI A (cW Q R.2) (cT Q) t ∧ t.heap.size = CS.hs R.2) A) args s (CS.hs R.2 - z9h) (17 * (CS.hs R.2 - z9h)) A) (F0 m 30 ls []) := by
  intro σ  H locs ls hf h0 hC hl
  unfold f_X6_row_30 at hf
  refine lv_null hx hb dX6_row_30 ?_
  obtain rfl := Option.some.inj hf
  exact W.aret (v := .null) hx hb hr (Or.inl ⟨_, rfl⟩) (Or.inl rfl) (fun t ht hW => ⟨⟨none, (), rfl, rfl, ⟨by rw [ht]; exact hC.1, va_K.moved hW.alike hK, hC.2.1⟩, by rw [ht]; exact hC.2.2.2⟩, hC.2.2.1.F ht⟩) hC.2.2.1.2.2 dX6_row_31
set_option maxHeartbeats 4000000 in
set_option maxRecDepth 100000 in
theorem c_X6_row (l : Launch) (dC : Nat → ClassId) (dI : Nat → Nat → Nat) (Q : CQ) (N : Nat) (σ : CS) (x1 : Int32) (R : Option Nat × CS) (hf : f_X6_row N σ x1 = some R) : Met l yX6_row wzX6_row ({ frames := 1, cells := CS.hs R.2 - CS.hs σ, slots := 17 * (CS.hs R.2 - CS.hs σ), locals := 60 * 1 }) (va_Pc [.ref (Q.o 6), .int x1] (zPre dC dI (CS.hs σ) (cW Q σ) (cT Q))) (va_Qq (fun (r : Option Nat) (_ : Unit) => r = R.1) (fun (_ : Unit) (t : State) => zPost dC dI (va_A (cW Q σ) (CS.hs σ)) (cW Q R.2) (cT Q) t ∧ t.heap.size = CS.hs R.2) (va_A (cW Q σ) (CS.hs σ))) (CS.hs R.2 - CS.hs σ) (17 * (CS.hs R.2 - CS.hs σ)) (va_A (cW Q σ) (CS.hs σ)) := by
  refine Met.ofW (cc := cX6_row) (maxL := 2) (ret := (some (.object "StatementRules2$Open"))) (by decide) rfl ?_
  intro p e s m args below meth c s₁ B hml hv
  obtain ⟨rfl, hsz, hZ, hP, hK, hD0⟩ := hv
  have hx := B.exec
  have hb := B.bytes
  have hr := B.returns
  have hts := atoms_spec (ws := wzX6_row) B.pre
  have hown : s.vm.findClass RX6 = some m.cls := findClass_of_methodNamed B.named
  have hlocks := B.notSynchronized
  have hD := hD0.self (sz := CS.hs σ)
  generalize hAe : va_A (cW Q σ) (CS.hs σ) = A at hD ⊢
  have hA : ∀ q : Nat, s.heap.size ≤ q → A q := fun q h => by rw [← hAe]; exact Or.inr (hsz ▸ h)
  have hC : CP dC dI Q A s.heap σ s.heap [] := ⟨hP, hD, va_S.rf, hsz⟩
  have h0 : CS.hs σ ≤ CS.hs σ := Nat.le_refl _
  have hl := lv_entry ([.ref (Q.o 6), .int x1]) (n := 2) (Nat.le_of_ble_eq_true rfl)
  rw [lg_entry_eq]
  generalize (lg_sl ([.ref (Q.o 6), .int x1]) ++ List.replicate (2 - (lg_sl ([.ref (Q.o 6), .int x1])).length) Slot.unset).toArray = ls at hl ⊢
  have hl : lv_has ls 2 [(0, .ref (Q.o 6)), (1, .int x1)] := hl
  unfold f_X6_row at hf
  refine W.widen (k := CS.hs σ - CS.hs σ) (n := 17 * (CS.hs σ - CS.hs σ)) (Nat.zero_le _) (Nat.zero_le _) ?_
  refine lv_iload_n hx hb dX6_row_0 rfl (lv_at hl 1 rfl) ?_
  refine lv_if_lt (tgt := 30) hx hb dX6_row_1 (by decide) (fun c1 => ?_) (fun c1 => ?_)
  ·
    replace hf := (if_pos c1).symm.trans hf
    exact j_X6_row_30 l dC dI Q N (CS.hs σ) R hx hb hr hml hown hts hlocks hZ hA hK σ _ _ _ hf h0 hC (lv_sub hl [] rfl)
  ·
    replace hf := (if_neg c1).symm.trans hf
    refine lv_iload_n hx hb dX6_row_4 rfl (lv_at hl 1 rfl) ?_
    refine lv_aload_n hx hb dX6_row_5 rfl (lv_at hl 0 rfl) ?_
    refine cG_53 (v := (σ.i 53)) hx hb hts i_X6_row_X6 hown hK hC (hts (.fieldLink RX6 21 "StatementRules2$Opens" "count" "I") k_X6_row_fieldLink_RX6_21_SR_Opens_count_I) (fun _ q9 => q9) dX6_row_6 rfl ?_
    refine lv_icmp_ge (tgt := 30) hx hb dX6_row_9 (by decide) (fun c2 => ?_) (fun c2 => ?_)
    ·
      replace hf := (if_pos c2).symm.trans hf
      exact j_X6_row_30 l dC dI Q N (CS.hs σ) R hx hb hr hml hown hts hlocks hZ hA hK σ _ _ _ hf h0 hC (lv_sub hl [] rfl)
    ·
      replace hf := (if_neg c2).symm.trans hf
      refine lv_iload_n hx hb dX6_row_12 rfl (lv_at hl 1 rfl) ?_
      refine lv_aload_n hx hb dX6_row_13 rfl (lv_at hl 0 rfl) ?_
      refine cG_51 hx hb hts i_X6_row_X6 hown hK hC (hts (.fieldLink RX6 11 "StatementRules2$Opens" "rows" "[LStatementRules2$Open;") k_X6_row_fieldLink_RX6_11_SR_Opens_rows_LSR_Open) (fun _ q9 => q9) dX6_row_14 ?_
      refine va_alen (v := 400) hx hb hK hC.1 22 2 rfl rfl rfl dX6_row_17 ?_
      refine lv_icmp_ge (tgt := 30) hx hb dX6_row_18 (by decide) (fun c3 => ?_) (fun c3 => ?_)
      ·
        replace hf := (if_pos c3).symm.trans hf
        exact j_X6_row_30 l dC dI Q N (CS.hs σ) R hx hb hr hml hown hts hlocks hZ hA hK σ _ _ _ hf h0 hC (lv_sub hl [] rfl)
      ·
        replace hf := (if_neg c3).symm.trans hf
        refine lv_aload_n hx hb dX6_row_21 rfl (lv_at hl 0 rfl) ?_
        refine cG_51 hx hb hts i_X6_row_X6 hown hK hC (hts (.fieldLink RX6 11 "StatementRules2$Opens" "rows" "[LStatementRules2$Open;") k_X6_row_fieldLink_RX6_11_SR_Opens_rows_LSR_Open) (fun _ q9 => q9) dX6_row_22 ?_
        refine lv_iload_n hx hb dX6_row_25 rfl (lv_at hl 1 rfl) ?_
        obtain ⟨b4, hf⟩ := hf_ite hf
        refine cL_51 (v := (CS.r σ 51 ((x1 : Int32).toNatClampNeg))) hx hb hK hC b4 dX6_row_26 rfl ?_
        rcases hf_oc hf with ⟨q5, hf⟩ | ⟨a6, q5, hf⟩
        ·
          refine W.eq (congrArg (fun v9 => F0 m 27 ls (va_rf v9 :: [])) q5) ?_
          refine W.eq (g2 := F0 m 27 ls (.null :: [])) rfl ?_
          refine lv_goto (tgt := 31) hx hb dX6_row_27 (by decide) ?_
          obtain rfl := Option.some.inj hf
          exact W.aret (v := .null) hx hb hr (Or.inl ⟨_, rfl⟩) (Or.inl rfl) (fun t ht hW => ⟨⟨none, (), rfl, rfl, ⟨by rw [ht]; exact hC.1, va_K.moved hW.alike hK, hC.2.1⟩, by rw [ht]; exact hC.2.2.2⟩, hC.2.2.1.F ht⟩) hC.2.2.1.2.2 dX6_row_31
        ·
          refine W.eq (congrArg (fun v9 => F0 m 27 ls (va_rf v9 :: [])) q5) ?_
          refine W.eq (g2 := F0 m 27 ls (.ref a6 :: [])) rfl ?_
          refine lv_goto (tgt := 31) hx hb dX6_row_27 (by decide) ?_
          obtain rfl := Option.some.inj hf
          exact W.aret (v := .ref a6) hx hb hr (Or.inl ⟨_, rfl⟩) (Or.inr ⟨_, rfl⟩) (fun t ht hW => ⟨⟨(some a6), (), rfl, rfl, ⟨by rw [ht]; exact hC.1, va_K.moved hW.alike hK, hC.2.1⟩, by rw [ht]; exact hC.2.2.2⟩, hC.2.2.1.F ht⟩) hC.2.2.1.2.2 dX6_row_31
theorem k_X5_isLoop_fieldLink_RX5_9_SR_Open_sort_I : Cond.fieldLink RX5 9 "StatementRules2$Open" "sort" "I" ∈ wzX5_isLoop := List.mem_cons_of_mem _ (List.mem_append_left _ (List.mem_of_getElem? (i := 0) rfl))
theorem i_X5_isLoop_X5 : ∀ w ∈ wsX50, w ∈ wzX5_isLoop := fun _ h => List.mem_cons_of_mem _ (List.mem_append_right _ (List.mem_append_left _ (h)))
set_option maxHeartbeats 4000000 in
set_option maxRecDepth 100000 in
theorem j_X5_isLoop_40 {p : Program} {e : Env} {s : State} {m : MethodId} {args : Array Value} {below : List Frame} {meth : Method} {c : Code} {A : Nat → Prop} (l : Launch) (dC : Nat → ClassId) (dI : Nat → Nat → Nat) (Q : CQ) (N : Nat) (z9h : Nat) (R : Int32 × CS) (hx : p.tables.exec = Jvm.exec) (hb : c.code = cX5_isLoop) (hr : meth.sig.returnType = (some .boolean)) (hml : c.maxLocals = 1) (hown : s.vm.findClass RX5 = some m.cls) (hts : ∀ w ∈ wzX5_isLoop, w.before args s = true) (hlocks : meth.locks = false) (hZ : zAMB s) (hA : ∀ q : Nat, s.heap.size ≤ q → A q) (hK : va_K (dC, dI) vwCl (cT Q) s) : ∀ (σ : CS) (H : Heap) (locs : List Loc) (ls : Array Slot), f_X5_isLoop_40 N σ = some R → z9h ≤ CS.hs σ → CP dC dI Q A s.heap σ H locs → lv_has ls 1 [] → W p l e ({ frames := 1, cells := CS.hs R.2 - z9h, slots := 17 * (CS.hs R.2 - z9h), locals := 60 * 1 }) s m args below meth c H locs (CS.hs σ - z9h) (17 * (CS.hs σ - z9h)) (MQ below (va_Qi (fun (r : Int32) (_ : Unit) => r = R.1) (fun (_ : Unit) (t : State) => zPost dC dI A (cW Q R.2) (cT Q) t ∧ t.heap.size = CS.hs R.2) A) args s (CS.hs R.2 - z9h) (17 * (CS.hs R.2 - z9h)) A) (F0 m 40 ls []) := by
  intro σ  H locs ls hf h0 hC hl
  unfold f_X5_isLoop_40 at hf
  refine lv_iconst (v := 1) hx hb dX5_isLoop_40 (by decide) ?_
  refine lv_goto (tgt := 45) hx hb dX5_isLoop_41 (by decide) ?_
  obtain rfl := Option.some.inj hf
  exact W.zret (v := 1) hx hb hr (rfl) (fun t ht hW => ⟨⟨1, (), rfl, rfl, ⟨by rw [ht]; exact hC.1, va_K.moved hW.alike hK, hC.2.1⟩, by rw [ht]; exact hC.2.2.2⟩, hC.2.2.1.F ht⟩) hC.2.2.1.2.2 dX5_isLoop_45
set_option maxHeartbeats 4000000 in
set_option maxRecDepth 100000 in
theorem c_X5_isLoop (l : Launch) (dC : Nat → ClassId) (dI : Nat → Nat → Nat) (Q : CQ) (N : Nat) (σ : CS) (x0 : Nat) (R : Int32 × CS) (hf : f_X5_isLoop N σ x0 = some R) : Met l yX5_isLoop wzX5_isLoop ({ frames := 1, cells := CS.hs R.2 - CS.hs σ, slots := 17 * (CS.hs R.2 - CS.hs σ), locals := 60 * 1 }) (va_Pc [.ref x0] (zPre dC dI (CS.hs σ) (cW Q σ) (cT Q))) (va_Qi (fun (r : Int32) (_ : Unit) => r = R.1) (fun (_ : Unit) (t : State) => zPost dC dI (va_A (cW Q σ) (CS.hs σ)) (cW Q R.2) (cT Q) t ∧ t.heap.size = CS.hs R.2) (va_A (cW Q σ) (CS.hs σ))) (CS.hs R.2 - CS.hs σ) (17 * (CS.hs R.2 - CS.hs σ)) (va_A (cW Q σ) (CS.hs σ)) := by
  refine Met.ofW (cc := cX5_isLoop) (maxL := 1) (ret := (some .boolean)) (by decide) rfl ?_
  intro p e s m args below meth c s₁ B hml hv
  obtain ⟨rfl, hsz, hZ, hP, hK, hD0⟩ := hv
  have hx := B.exec
  have hb := B.bytes
  have hr := B.returns
  have hts := atoms_spec (ws := wzX5_isLoop) B.pre
  have hown : s.vm.findClass RX5 = some m.cls := findClass_of_methodNamed B.named
  have hlocks := B.notSynchronized
  have hD := hD0.self (sz := CS.hs σ)
  generalize hAe : va_A (cW Q σ) (CS.hs σ) = A at hD ⊢
  have hA : ∀ q : Nat, s.heap.size ≤ q → A q := fun q h => by rw [← hAe]; exact Or.inr (hsz ▸ h)
  have hC : CP dC dI Q A s.heap σ s.heap [] := ⟨hP, hD, va_S.rf, hsz⟩
  have h0 : CS.hs σ ≤ CS.hs σ := Nat.le_refl _
  have hl := lv_entry ([.ref x0]) (n := 1) (Nat.le_of_ble_eq_true rfl)
  rw [lg_entry_eq]
  generalize (lg_sl ([.ref x0]) ++ List.replicate (1 - (lg_sl ([.ref x0])).length) Slot.unset).toArray = ls at hl ⊢
  have hl : lv_has ls 1 [(0, .ref x0)] := hl
  unfold f_X5_isLoop at hf
  refine W.widen (k := CS.hs σ - CS.hs σ) (n := 17 * (CS.hs σ - CS.hs σ)) (Nat.zero_le _) (Nat.zero_le _) ?_
  refine lv_aload_n hx hb dX5_isLoop_0 rfl (lv_at hl 0 rfl) ?_
  obtain ⟨b1, hf⟩ := hf_ite hf
  refine pG_X5_0 (v := (CS.o σ x0 0)) hx hb hts i_X5_isLoop_X5 hown hK hC (hts (.fieldLink RX5 9 "StatementRules2$Open" "sort" "I") k_X5_isLoop_fieldLink_RX5_9_SR_Open_sort_I) (fun _ q9 => q9) dX5_isLoop_1 b1 rfl ?_
  refine lv_sipush (v := 205) hx hb dX5_isLoop_4 (by decide) ?_
  refine lv_icmp_eq (tgt := 40) hx hb dX5_isLoop_7 (by decide) (fun c2 => ?_) (fun c2 => ?_)
  ·
    replace hf := (if_pos c2).symm.trans hf
    exact j_X5_isLoop_40 l dC dI Q N (CS.hs σ) R hx hb hr hml hown hts hlocks hZ hA hK σ _ _ _ hf h0 hC (lv_sub hl [] rfl)
  ·
    replace hf := (if_neg c2).symm.trans hf
    refine lv_aload_n hx hb dX5_isLoop_10 rfl (lv_at hl 0 rfl) ?_
    refine pG_X5_0 (v := (CS.o σ x0 0)) hx hb hts i_X5_isLoop_X5 hown hK hC (hts (.fieldLink RX5 9 "StatementRules2$Open" "sort" "I") k_X5_isLoop_fieldLink_RX5_9_SR_Open_sort_I) (fun _ q9 => q9) dX5_isLoop_11 b1 rfl ?_
    refine lv_sipush (v := 206) hx hb dX5_isLoop_14 (by decide) ?_
    refine lv_icmp_eq (tgt := 40) hx hb dX5_isLoop_17 (by decide) (fun c3 => ?_) (fun c3 => ?_)
    ·
      replace hf := (if_pos c3).symm.trans hf
      exact j_X5_isLoop_40 l dC dI Q N (CS.hs σ) R hx hb hr hml hown hts hlocks hZ hA hK σ _ _ _ hf h0 hC (lv_sub hl [] rfl)
    ·
      replace hf := (if_neg c3).symm.trans hf
      refine lv_aload_n hx hb dX5_isLoop_20 rfl (lv_at hl 0 rfl) ?_
      refine pG_X5_0 (v := (CS.o σ x0 0)) hx hb hts i_X5_isLoop_X5 hown hK hC (hts (.fieldLink RX5 9 "StatementRules2$Open" "sort" "I") k_X5_isLoop_fieldLink_RX5_9_SR_Open_sort_I) (fun _ q9 => q9) dX5_isLoop_21 b1 rfl ?_
      refine lv_sipush (v := 207) hx hb dX5_isLoop_24 (by decide) ?_
      refine lv_icmp_eq (tgt := 40) hx hb dX5_isLoop_27 (by decide) (fun c4 => ?_) (fun c4 => ?_)
      ·
        replace hf := (if_pos c4).symm.trans hf
        exact j_X5_isLoop_40 l dC dI Q N (CS.hs σ) R hx hb hr hml hown hts hlocks hZ hA hK σ _ _ _ hf h0 hC (lv_sub hl [] rfl)
      ·
        replace hf := (if_neg c4).symm.trans hf
        refine lv_aload_n hx hb dX5_isLoop_30 rfl (lv_at hl 0 rfl) ?_
        refine pG_X5_0 (v := (CS.o σ x0 0)) hx hb hts i_X5_isLoop_X5 hown hK hC (hts (.fieldLink RX5 9 "StatementRules2$Open" "sort" "I") k_X5_isLoop_fieldLink_RX5_9_SR_Open_sort_I) (fun _ q9 => q9) dX5_isLoop_31 b1 rfl ?_
        refine lv_sipush (v := 304) hx hb dX5_isLoop_34 (by decide) ?_
        refine lv_icmp_ne (tgt := 44) hx hb dX5_isLoop_37 (by decide) (fun c5 => ?_) (fun c5 => ?_)
        ·
          replace hf := (if_neg c5).symm.trans hf
          refine lv_iconst (v := 0) hx hb dX5_isLoop_44 (by decide) ?_
          obtain rfl := Option.some.inj hf
          exact W.zret (v := 0) hx hb hr (rfl) (fun t ht hW => ⟨⟨0, (), rfl, rfl, ⟨by rw [ht]; exact hC.1, va_K.moved hW.alike hK, hC.2.1⟩, by rw [ht]; exact hC.2.2.2⟩, hC.2.2.1.F ht⟩) hC.2.2.1.2.2 dX5_isLoop_45
        ·
          replace hf := (if_pos c5).symm.trans hf
          exact j_X5_isLoop_40 l dC dI Q N (CS.hs σ) R hx hb hr hml hown hts hlocks hZ hA hK σ _ _ _ hf h0 hC (lv_sub hl [] rfl)
theorem k_X5_hasOneBody_fieldLink_RX5_9_SR_Open_sort_I : Cond.fieldLink RX5 9 "StatementRules2$Open" "sort" "I" ∈ wzX5_hasOneBody := List.mem_cons_of_mem _ (List.mem_append_left _ (List.mem_of_getElem? (i := 0) rfl))
theorem i_X5_hasOneBody_X5 : ∀ w ∈ wsX50, w ∈ wzX5_hasOneBody := fun _ h => List.mem_cons_of_mem _ (List.mem_append_right _ (List.mem_append_left _ (h)))
set_option maxHeartbeats 4000000 in
set_option maxRecDepth 100000 in
theorem j_X5_hasOneBody_37 {p : Program} {e : Env} {s : State} {m : MethodId} {args : Array Value} {below : List Frame} {meth : Method} {c : Code} {A : Nat → Prop} (l : Launch) (dC : Nat → ClassId) (dI : Nat → Nat → Nat) (Q : CQ) (N : Nat) (z9h : Nat) (R : Int32 × CS) (hx : p.tables.exec = Jvm.exec) (hb : c.code = cX5_hasOneBody) (hr : meth.sig.returnType = (some .boolean)) (hml : c.maxLocals = 1) (hown : s.vm.findClass RX5 = some m.cls) (hts : ∀ w ∈ wzX5_hasOneBody, w.before args s = true) (hlocks : meth.locks = false) (hZ : zAMB s) (hA : ∀ q : Nat, s.heap.size ≤ q → A q) (hK : va_K (dC, dI) vwCl (cT Q) s) : ∀ (σ : CS) (H : Heap) (locs : List Loc) (ls : Array Slot), f_X5_hasOneBody_37 N σ = some R → z9h ≤ CS.hs σ → CP dC dI Q A s.heap σ H locs → lv_has ls 1 [] → W p l e ({ frames := 2, cells := CS.hs R.2 - z9h, slots := 17 * (CS.hs R.2 - z9h), locals := 60 * 2 }) s m args below meth c H locs (CS.hs σ - z9h) (17 * (CS.hs σ - z9h)) (MQ below (va_Qi (fun (r : Int32) (_ : Unit) => r = R.1) (fun (_ : Unit) (t : State) => zPost dC dI A (cW Q R.2) (cT Q) t ∧ t.heap.size = CS.hs R.2) A) args s (CS.hs R.2 - z9h) (17 * (CS.hs R.2 - z9h)) A) (F0 m 37 ls []) := by
  intro σ  H locs ls hf h0 hC hl
  unfold f_X5_hasOneBody_37 at hf
  refine lv_iconst (v := 1) hx hb dX5_hasOneBody_37 (by decide) ?_
  refine lv_goto (tgt := 42) hx hb dX5_hasOneBody_38 (by decide) ?_
  obtain rfl := Option.some.inj hf
  exact W.zret (v := 1) hx hb hr (rfl) (fun t ht hW => ⟨⟨1, (), rfl, rfl, ⟨by rw [ht]; exact hC.1, va_K.moved hW.alike hK, hC.2.1⟩, by rw [ht]; exact hC.2.2.2⟩, hC.2.2.1.F ht⟩) hC.2.2.1.2.2 dX5_hasOneBody_42
set_option maxHeartbeats 4000000 in
set_option maxRecDepth 100000 in
theorem c_X5_hasOneBody (l : Launch) (dC : Nat → ClassId) (dI : Nat → Nat → Nat) (Q : CQ) (N : Nat) (σ : CS) (x0 : Nat) (R : Int32 × CS) (hf : f_X5_hasOneBody N σ x0 = some R) : Met l yX5_hasOneBody wzX5_hasOneBody ({ frames := 2, cells := CS.hs R.2 - CS.hs σ, slots := 17 * (CS.hs R.2 - CS.hs σ), locals := 60 * 2 }) (va_Pc [.ref x0] (zPre dC dI (CS.hs σ) (cW Q σ) (cT Q))) (va_Qi (fun (r : Int32) (_ : Unit) => r = R.1) (fun (_ : Unit) (t : State) => zPost dC dI (va_A (cW Q σ) (CS.hs σ)) (cW Q R.2) (cT Q) t ∧ t.heap.size = CS.hs R.2) (va_A (cW Q σ) (CS.hs σ))) (CS.hs R.2 - CS.hs σ) (17 * (CS.hs R.2 - CS.hs σ)) (va_A (cW Q σ) (CS.hs σ)) := by
  refine Met.ofW (cc := cX5_hasOneBody) (maxL := 1) (ret := (some .boolean)) (by decide) rfl ?_
  intro p e s m args below meth c s₁ B hml hv
  obtain ⟨rfl, hsz, hZ, hP, hK, hD0⟩ := hv
  have hx := B.exec
  have hb := B.bytes
  have hr := B.returns
  have hts := atoms_spec (ws := wzX5_hasOneBody) B.pre
  have hown : s.vm.findClass RX5 = some m.cls := findClass_of_methodNamed B.named
  have hlocks := B.notSynchronized
  have hD := hD0.self (sz := CS.hs σ)
  generalize hAe : va_A (cW Q σ) (CS.hs σ) = A at hD ⊢
  have hA : ∀ q : Nat, s.heap.size ≤ q → A q := fun q h => by rw [← hAe]; exact Or.inr (hsz ▸ h)
  have hC : CP dC dI Q A s.heap σ s.heap [] := ⟨hP, hD, va_S.rf, hsz⟩
  have h0 : CS.hs σ ≤ CS.hs σ := Nat.le_refl _
  have hl := lv_entry ([.ref x0]) (n := 1) (Nat.le_of_ble_eq_true rfl)
  rw [lg_entry_eq]
  generalize (lg_sl ([.ref x0]) ++ List.replicate (1 - (lg_sl ([.ref x0])).length) Slot.unset).toArray = ls at hl ⊢
  have hl : lv_has ls 1 [(0, .ref x0)] := hl
  unfold f_X5_hasOneBody at hf
  refine W.widen (k := CS.hs σ - CS.hs σ) (n := 17 * (CS.hs σ - CS.hs σ)) (Nat.zero_le _) (Nat.zero_le _) ?_
  refine lv_aload_n hx hb dX5_hasOneBody_0 rfl (lv_at hl 0 rfl) ?_
  obtain ⟨b1, hf⟩ := hf_ite hf
  obtain ⟨k2, hk2⟩ := cPl (Q := Q) (s := σ) (a := x0) b1.1
  rw [cE0 (show CS.k σ x0 = 0 from b1.2)] at hk2
  obtain ⟨p3, hcp3, hf⟩ := hf_bind hf
  have mo4 : CS.hs σ ≤ CS.hs p3.2 := Mono.go hcp3 (m_X5_isLoop N σ x0)
  have hr9 : CS.hs p3.2 ≤ CS.hs R.2 := Mono.go hf (mono_ite (mono_ite (mono_ite (m_X5_hasOneBody_37 N p3.2) (mono_ite (m_X5_hasOneBody_37 N p3.2) (mono_ite (m_X5_hasOneBody_37 N p3.2) (mono_some (Nat.le_refl _))))) mono_none) (m_X5_hasOneBody_37 N p3.2))
  have hFc := cFree hC hA
  refine va_calli (va_runV (As := []) (rest := []) ⟨hx, hb, hml, hown, hts⟩ (c_X5_isLoop l dC dI Q N σ x0 p3 hcp3) (cwV 0 hts hX5_hasOneBody_X5_isLoop_v15 rfl rfl rfl (by decide +kernel) ⟨(show 1 + 1 ≤ 2 by omega), (show 8 + (1 + 11) + 60 * 1 ≤ 60 * 2 by omega)⟩) ⟨zPre.blind, va_recv hK hC.1 (ci := 4) (q0 := k2) rfl hk2, cPre_go hZ hK hC⟩ rfl rfl hl.1 rfl (lv_room (Nat.le_of_ble_eq_true rfl)) dX5_hasOneBody_1 (cAcc h0 mo4 hr9)) hC.2.2.1 (fun q _ h => hFc q h) hFc (fun r5 u9 t9 H1 locs ht hvm hw hB hz1 hk1 hS => ?_)
  obtain ⟨⟨hP, hK1, hD1⟩, hsz1⟩ := hB
  rw [ht] at hP hsz1
  have hC : CP dC dI Q A s.heap p3.2 H1 locs := ⟨hP, hD1.weaken (fun _ _ _ h => hFc _ h), hS, hsz1⟩
  generalize H1 = H at hC ⊢
  have h6 : (CS.hs σ) ≤ CS.hs p3.2 := Nat.le_trans h0 mo4
  refine W.widen (k := CS.hs p3.2 - (CS.hs σ)) (n := 17 * (CS.hs p3.2 - (CS.hs σ))) (cAcc2 h0 mo4) (cAcc3 h0 mo4) ?_
  obtain rfl : r5 = p3.1 := hw
  refine lv_if_ne (tgt := 37) hx hb dX5_hasOneBody_4 (by decide) (fun c7 => ?_) (fun c7 => ?_)
  ·
    replace hf := (if_neg c7).symm.trans hf
    exact j_X5_hasOneBody_37 l dC dI Q N (CS.hs σ) R hx hb hr hml hown hts hlocks hZ hA hK p3.2 _ _ _ hf h6 hC (lv_sub hl [] rfl)
  ·
    replace hf := (if_pos c7).symm.trans hf
    refine lv_aload_n hx hb dX5_hasOneBody_7 rfl (lv_at hl 0 rfl) ?_
    obtain ⟨b8, hf⟩ := hf_ite hf
    refine pG_X5_0 (v := (CS.o p3.2 x0 0)) hx hb hts i_X5_hasOneBody_X5 hown hK hC (hts (.fieldLink RX5 9 "StatementRules2$Open" "sort" "I") k_X5_hasOneBody_fieldLink_RX5_9_SR_Open_sort_I) (fun _ q9 => q9) dX5_hasOneBody_8 b8 rfl ?_
    refine lv_sipush (v := 303) hx hb dX5_hasOneBody_11 (by decide) ?_
    refine lv_icmp_eq (tgt := 37) hx hb dX5_hasOneBody_14 (by decide) (fun c9 => ?_) (fun c9 => ?_)
    ·
      replace hf := (if_pos c9).symm.trans hf
      exact j_X5_hasOneBody_37 l dC dI Q N (CS.hs σ) R hx hb hr hml hown hts hlocks hZ hA hK p3.2 _ _ _ hf h6 hC (lv_sub hl [] rfl)
    ·
      replace hf := (if_neg c9).symm.trans hf
      refine lv_aload_n hx hb dX5_hasOneBody_17 rfl (lv_at hl 0 rfl) ?_
      refine pG_X5_0 (v := (CS.o p3.2 x0 0)) hx hb hts i_X5_hasOneBody_X5 hown hK hC (hts (.fieldLink RX5 9 "StatementRules2$Open" "sort" "I") k_X5_hasOneBody_fieldLink_RX5_9_SR_Open_sort_I) (fun _ q9 => q9) dX5_hasOneBody_18 b8 rfl ?_
      refine lv_sipush (v := 203) hx hb dX5_hasOneBody_21 (by decide) ?_
      refine lv_icmp_eq (tgt := 37) hx hb dX5_hasOneBody_24 (by decide) (fun c10 => ?_) (fun c10 => ?_)
      ·
        replace hf := (if_pos c10).symm.trans hf
        exact j_X5_hasOneBody_37 l dC dI Q N (CS.hs σ) R hx hb hr hml hown hts hlocks hZ hA hK p3.2 _ _ _ hf h6 hC (lv_sub hl [] rfl)
      ·
        replace hf := (if_neg c10).symm.trans hf
        refine lv_aload_n hx hb dX5_hasOneBody_27 rfl (lv_at hl 0 rfl) ?_
        refine pG_X5_0 (v := (CS.o p3.2 x0 0)) hx hb hts i_X5_hasOneBody_X5 hown hK hC (hts (.fieldLink RX5 9 "StatementRules2$Open" "sort" "I") k_X5_hasOneBody_fieldLink_RX5_9_SR_Open_sort_I) (fun _ q9 => q9) dX5_hasOneBody_28 b8 rfl ?_
        refine lv_sipush (v := 204) hx hb dX5_hasOneBody_31 (by decide) ?_
        refine lv_icmp_ne (tgt := 41) hx hb dX5_hasOneBody_34 (by decide) (fun c11 => ?_) (fun c11 => ?_)
        ·
          replace hf := (if_neg c11).symm.trans hf
          refine lv_iconst (v := 0) hx hb dX5_hasOneBody_41 (by decide) ?_
          obtain rfl := Option.some.inj hf
          exact W.zret (v := 0) hx hb hr (rfl) (fun t ht hW => ⟨⟨0, (), rfl, rfl, ⟨by rw [ht]; exact hC.1, va_K.moved hW.alike hK, hC.2.1⟩, by rw [ht]; exact hC.2.2.2⟩, hC.2.2.1.F ht⟩) hC.2.2.1.2.2 dX5_hasOneBody_42
        ·
          replace hf := (if_pos c11).symm.trans hf
          exact j_X5_hasOneBody_37 l dC dI Q N (CS.hs σ) R hx hb hr hml hown hts hlocks hZ hA hK p3.2 _ _ _ hf h6 hC (lv_sub hl [] rfl)
theorem k_X6_pop_fieldLink_RX6_21_SR_Opens_count_I : Cond.fieldLink RX6 21 "StatementRules2$Opens" "count" "I" ∈ wzX6_pop := List.mem_cons_of_mem _ (List.mem_append_left _ (List.mem_of_getElem? (i := 0) rfl))
theorem i_X6_pop_X6 : ∀ w ∈ wsX60, w ∈ wzX6_pop := fun _ h => List.mem_cons_of_mem _ (List.mem_append_right _ (List.mem_append_left _ (h)))
theorem k_X6_pop_methodLink_RX6_85_yJ9_max_7cf53 : Cond.methodLink RX6 85 yJ9_max_7cf53 ∈ wzX6_pop := List.mem_cons_of_mem _ (List.mem_append_left _ (List.mem_of_getElem? (i := 1) rfl))
theorem k_X6_pop_static_yJ9_max_7cf53 : Cond.static yJ9_max_7cf53 ∈ wzX6_pop := List.mem_cons_of_mem _ (List.mem_append_left _ (List.mem_of_getElem? (i := 2) rfl))
theorem k_X6_pop_initialized_RJ9 : Cond.initialized RJ9 ∈ wzX6_pop := List.mem_cons_of_mem _ (List.mem_append_left _ (List.mem_of_getElem? (i := 3) rfl))
theorem k_X6_pop_code_yJ9_max_7cf53_cJ9_max_7cf53_2_some_int : Cond.code yJ9_max_7cf53 cJ9_max_7cf53 2 (some .int) ∈ wzX6_pop := List.mem_cons_of_mem _ (List.mem_append_left _ (List.mem_of_getElem? (i := 4) rfl))
set_option maxHeartbeats 4000000 in
set_option maxRecDepth 100000 in
theorem c_X6_pop (l : Launch) (dC : Nat → ClassId) (dI : Nat → Nat → Nat) (Q : CQ) (N : Nat) (σ : CS) (R : Unit × CS) (hf : f_X6_pop N σ = some R) : Met l yX6_pop wzX6_pop ({ frames := 1, cells := CS.hs R.2 - CS.hs σ, slots := 17 * (CS.hs R.2 - CS.hs σ), locals := 60 * 1 }) (va_Pc [.ref (Q.o 6)] (zPre dC dI (CS.hs σ) (cW Q σ) (cT Q))) (va_Qv (fun (_ : Unit) => True) (fun (_ : Unit) (t : State) => zPost dC dI (va_A (cW Q σ) (CS.hs σ)) (cW Q R.2) (cT Q) t ∧ t.heap.size = CS.hs R.2) (va_A (cW Q σ) (CS.hs σ))) (CS.hs R.2 - CS.hs σ) (17 * (CS.hs R.2 - CS.hs σ)) (va_A (cW Q σ) (CS.hs σ)) := by
  refine Met.ofW (cc := cX6_pop) (maxL := 1) (ret := none) (by decide) rfl ?_
  intro p e s m args below meth c s₁ B hml hv
  obtain ⟨rfl, hsz, hZ, hP, hK, hD0⟩ := hv
  have hx := B.exec
  have hb := B.bytes
  have hr := B.returns
  have hts := atoms_spec (ws := wzX6_pop) B.pre
  have hown : s.vm.findClass RX6 = some m.cls := findClass_of_methodNamed B.named
  have hlocks := B.notSynchronized
  have hD := hD0.self (sz := CS.hs σ)
  generalize hAe : va_A (cW Q σ) (CS.hs σ) = A at hD ⊢
  have hA : ∀ q : Nat, s.heap.size ≤ q → A q := fun q h => by rw [← hAe]; exact Or.inr (hsz ▸ h)
  have hC : CP dC dI Q A s.heap σ s.heap [] := ⟨hP, hD, va_S.rf, hsz⟩
  have h0 : CS.hs σ ≤ CS.hs σ := Nat.le_refl _
  have hl := lv_entry ([.ref (Q.o 6)]) (n := 1) (Nat.le_of_ble_eq_true rfl)
  rw [lg_entry_eq]
  generalize (lg_sl ([.ref (Q.o 6)]) ++ List.replicate (1 - (lg_sl ([.ref (Q.o 6)])).length) Slot.unset).toArray = ls at hl ⊢
  have hl : lv_has ls 1 [(0, .ref (Q.o 6))] := hl
  unfold f_X6_pop at hf
  refine W.widen (k := CS.hs σ - CS.hs σ) (n := 17 * (CS.hs σ - CS.hs σ)) (Nat.zero_le _) (Nat.zero_le _) ?_
  refine lv_aload_n hx hb dX6_pop_0 rfl (lv_at hl 0 rfl) ?_
  refine lv_iconst (v := 0) hx hb dX6_pop_1 (by decide) ?_
  refine lv_aload_n hx hb dX6_pop_2 rfl (lv_at hl 0 rfl) ?_
  refine cG_53 (v := (σ.i 53)) hx hb hts i_X6_pop_X6 hown hK hC (hts (.fieldLink RX6 21 "StatementRules2$Opens" "count" "I") k_X6_pop_fieldLink_RX6_21_SR_Opens_count_I) (fun _ q9 => q9) dX6_pop_3 rfl ?_
  refine lv_iconst (v := 1) hx hb dX6_pop_6 (by decide) ?_
  refine lv_isub hx hb dX6_pop_7 ?_
  have hr9 : CS.hs σ ≤ CS.hs R.2 := Mono.go hf (mono_some (Nat.le_refl _))
  refine va_mmax hx hb (hml.trans hl.1.symm) hown (hts (.methodLink RX6 85 yJ9_max_7cf53) k_X6_pop_methodLink_RX6_85_yJ9_max_7cf53) (hts (.static yJ9_max_7cf53) k_X6_pop_static_yJ9_max_7cf53) (hts (.initialized RJ9) k_X6_pop_initialized_RJ9) (hts (.code yJ9_max_7cf53 cJ9_max_7cf53 2 (some .int)) k_X6_pop_code_yJ9_max_7cf53_cJ9_max_7cf53_2_some_int) (Nat.le_of_ble_eq_true rfl) (Nat.le_of_ble_eq_true rfl) (cAcc4 h0 hr9) (cAcc5 h0 hr9) dX6_pop_8 ?_
  refine cP_53 (v := (if 0 < ((σ.i 53) - 1) then ((σ.i 53) - 1) else 0)) hx hb hts i_X6_pop_X6 hown hK hC (hts (.fieldLink RX6 21 "StatementRules2$Opens" "count" "I") k_X6_pop_fieldLink_RX6_21_SR_Opens_count_I) (fun _ q9 => q9) dX6_pop_11 (fun H locs hC => ?_)
  obtain rfl := Option.some.inj hf
  exact W.vret hx hb hr (fun t ht hW => ⟨⟨(), rfl, trivial, ⟨by rw [ht]; exact hC.1, va_K.moved hW.alike hK, hC.2.1⟩, by rw [ht]; exact hC.2.2.2⟩, hC.2.2.1.F ht⟩) hC.2.2.1.2.2 dX6_pop_14
theorem i_X7_endIf_X5 : ∀ w ∈ wsX50, w ∈ wzX7_endIf := fun _ h => List.mem_cons_of_mem _ (List.mem_append_right _ (List.mem_append_left _ (h)))
theorem k_X7_endIf_fieldLink_RX7_61_SR_Statements_alive_Z : Cond.fieldLink RX7 61 "StatementRules2$Statements" "alive" "Z" ∈ wzX7_endIf := List.mem_cons_of_mem _ (List.mem_append_left _ (List.mem_of_getElem? (i := 0) rfl))
theorem i_X7_endIf_X7 : ∀ w ∈ wsX70, w ∈ wzX7_endIf := fun _ h => List.mem_cons_of_mem _ (List.mem_append_right _ (List.mem_append_right _ (List.mem_append_left _ (h))))
theorem k_X7_endIf_fieldLink_RX7_20_SR_Statements_code_LSR_Code : Cond.fieldLink RX7 20 "StatementRules2$Statements" "code" "LStatementRules2$Code;" ∈ wzX7_endIf := List.mem_cons_of_mem _ (List.mem_append_left _ (List.mem_of_getElem? (i := 1) rfl))
theorem k_X7_endIf_sameField_SR_Statements_SR_Formulas_code_LSR_Code : Cond.sameField "StatementRules2$Statements" "StatementRules2$Formulas" "code" "LStatementRules2$Code;" ∈ wzX7_endIf := List.mem_cons_of_mem _ (List.mem_append_left _ (List.mem_of_getElem? (i := 2) rfl))
theorem k_X7_endIf_fieldLink_RX7_14_SR_Statements_opens_LSR_Opens : Cond.fieldLink RX7 14 "StatementRules2$Statements" "opens" "LStatementRules2$Opens;" ∈ wzX7_endIf := List.mem_cons_of_mem _ (List.mem_append_left _ (List.mem_of_getElem? (i := 3) rfl))
set_option maxHeartbeats 4000000 in
set_option maxRecDepth 100000 in
theorem c_X7_endIf (l : Launch) (dC : Nat → ClassId) (dI : Nat → Nat → Nat) (Q : CQ) (N : Nat) (σ : CS) (x1 : Nat) (R : Unit × CS) (hf : f_X7_endIf N σ x1 = some R) : Met l yX7_endIf wzX7_endIf ({ frames := 5, cells := CS.hs R.2 - CS.hs σ, slots := 17 * (CS.hs R.2 - CS.hs σ), locals := 60 * 5 }) (va_Pc [.ref (Q.o 3), .ref x1] (zPre dC dI (CS.hs σ) (cW Q σ) (cT Q))) (va_Qv (fun (_ : Unit) => True) (fun (_ : Unit) (t : State) => zPost dC dI (va_A (cW Q σ) (CS.hs σ)) (cW Q R.2) (cT Q) t ∧ t.heap.size = CS.hs R.2) (va_A (cW Q σ) (CS.hs σ))) (CS.hs R.2 - CS.hs σ) (17 * (CS.hs R.2 - CS.hs σ)) (va_A (cW Q σ) (CS.hs σ)) := by
  refine Met.ofW (cc := cX7_endIf) (maxL := 2) (ret := none) (by decide) rfl ?_
  intro p e s m args below meth c s₁ B hml hv
  obtain ⟨rfl, hsz, hZ, hP, hK, hD0⟩ := hv
  have hx := B.exec
  have hb := B.bytes
  have hr := B.returns
  have hts := atoms_spec (ws := wzX7_endIf) B.pre
  have hown : s.vm.findClass RX7 = some m.cls := findClass_of_methodNamed B.named
  have hlocks := B.notSynchronized
  have hD := hD0.self (sz := CS.hs σ)
  generalize hAe : va_A (cW Q σ) (CS.hs σ) = A at hD ⊢
  have hA : ∀ q : Nat, s.heap.size ≤ q → A q := fun q h => by rw [← hAe]; exact Or.inr (hsz ▸ h)
  have hC : CP dC dI Q A s.heap σ s.heap [] := ⟨hP, hD, va_S.rf, hsz⟩
  have h0 : CS.hs σ ≤ CS.hs σ := Nat.le_refl _
  have hl := lv_entry ([.ref (Q.o 3), .ref x1]) (n := 2) (Nat.le_of_ble_eq_true rfl)
  rw [lg_entry_eq]
  generalize (lg_sl ([.ref (Q.o 3), .ref x1]) ++ List.replicate (2 - (lg_sl ([.ref (Q.o 3), .ref x1])).length) Slot.unset).toArray = ls at hl ⊢
  have hl : lv_has ls 2 [(0, .ref (Q.o 3)), (1, .ref x1)] := hl
  unfold f_X7_endIf at hf
  refine W.widen (k := CS.hs σ - CS.hs σ) (n := 17 * (CS.hs σ - CS.hs σ)) (Nat.zero_le _) (Nat.zero_le _) ?_
  refine lv_aload_n hx hb dX7_endIf_0 rfl (lv_at hl 0 rfl) ?_
  refine lv_sipush (v := 204) hx hb dX7_endIf_1 (by decide) ?_
  obtain ⟨p1, hcp1, hf⟩ := hf_bind hf
  have mo2 : CS.hs σ ≤ CS.hs p1.2 := Mono.go hcp1 (m_X1_skip N σ 204)
  have hr9 : CS.hs p1.2 ≤ CS.hs R.2 := Mono.go hf (mono_ite (mono_ite (mono_bind (m_X0_aim N p1.2 (CS.o p1.2 x1 10)) (fun p23 => (mono_bind (m_X6_pop N (CS.setI p23.2 36 1)) (fun p27 => (mono_some (Nat.le_refl _)))))) mono_none) (mono_ite (mono_ite (mono_bind (m_X0_newTarget N (CS.setO (CS.setO (CS.setO p1.2 x1 0 204) x1 5 0) x1 6 (p1.2.i 36))) (fun p8 => (mono_ite (mono_bind (m_X0_add N (CS.setO p8.2 x1 9 p8.1) 30 (CS.o (CS.setO p8.2 x1 9 p8.1) x1 9)) (fun p13 => (mono_ite (mono_bind (m_X0_aim N p13.2 (CS.o p13.2 x1 10)) (fun p18 => (mono_some (Nat.le_refl _)))) mono_none))) mono_none))) mono_none) mono_none))
  have hFc := cFree hC hA
  refine va_calli (va_runU (As := [.int 204]) (rest := []) ⟨hx, hb, hml, hown, hts⟩ (c_X1_skip l dC dI Q N σ 204 p1 hcp1) (va_cwU 1 hts hX7_endIf_X1_skip_u205 rfl rfl rfl rfl (by decide +kernel) ⟨(show 4 + 1 ≤ 5 by omega), (show 8 + (3 + 11) + 60 * 4 ≤ 60 * 5 by omega)⟩) ⟨zPre.blind, va_recv hK hC.1 (ci := 6) (q0 := 3) rfl rfl, cPre_go hZ hK hC⟩ rfl rfl hl.1 rfl (lv_room (Nat.le_of_ble_eq_true rfl)) dX7_endIf_4 (cAcc h0 mo2 hr9)) hC.2.2.1 (fun q _ h => hFc q h) hFc (fun r3 u9 t9 H1 locs ht hvm hw hB hz1 hk1 hS => ?_)
  obtain ⟨⟨hP, hK1, hD1⟩, hsz1⟩ := hB
  rw [ht] at hP hsz1
  have hC : CP dC dI Q A s.heap p1.2 H1 locs := ⟨hP, hD1.weaken (fun _ _ _ h => hFc _ h), hS, hsz1⟩
  generalize H1 = H at hC ⊢
  have h4 : (CS.hs σ) ≤ CS.hs p1.2 := Nat.le_trans h0 mo2
  refine W.widen (k := CS.hs p1.2 - (CS.hs σ)) (n := 17 * (CS.hs p1.2 - (CS.hs σ))) (cAcc2 h0 mo2) (cAcc3 h0 mo2) ?_
  obtain rfl : r3 = p1.1 := hw
  refine lv_if_ne (tgt := 34) hx hb dX7_endIf_7 (by decide) (fun c5 => ?_) (fun c5 => ?_)
  ·
    replace hf := (if_neg c5).symm.trans hf
    refine lv_aload_n hx hb dX7_endIf_34 rfl (lv_at hl 1 rfl) ?_
    refine lv_sipush (v := 204) hx hb dX7_endIf_35 (by decide) ?_
    obtain ⟨b6, hf⟩ := hf_ite hf
    refine pPN_X5_0 (v := 204) hx hb hts i_X7_endIf_X5 hown hK hC (va_Nw.use rfl (hZ.1 (.fieldLinkNest RX7 107 "StatementRules2$Open" "sort" "I" "StatementRules2") (by decide +kernel))) (fun _ q9 => q9) dX7_endIf_38 b6 (fun H locs hC => ?_)
    refine lv_aload_n hx hb dX7_endIf_41 rfl (lv_at hl 1 rfl) ?_
    refine lv_iconst (v := 0) hx hb dX7_endIf_42 (by decide) ?_
    refine pPN_X5_5 (v := 0) hx hb hts i_X7_endIf_X5 hown hK hC (va_Nw.use rfl (hZ.1 (.fieldLinkNest RX7 130 "StatementRules2$Open" "begun" "Z" "StatementRules2") (by decide +kernel))) (fun _ q9 => q9) dX7_endIf_43 b6 (by decide) (fun H locs hC => ?_)
    refine lv_aload_n hx hb dX7_endIf_46 rfl (lv_at hl 1 rfl) ?_
    refine lv_aload_n hx hb dX7_endIf_47 rfl (lv_at hl 0 rfl) ?_
    refine cG_36 (v := (p1.2.i 36)) hx hb hts i_X7_endIf_X7 hown hK hC (hts (.fieldLink RX7 61 "StatementRules2$Statements" "alive" "Z") k_X7_endIf_fieldLink_RX7_61_SR_Statements_alive_Z) (fun _ q9 => q9) dX7_endIf_48 rfl ?_
    obtain ⟨b7, hf⟩ := hf_ite hf
    refine pPN_X5_6 (v := (p1.2.i 36)) hx hb hts i_X7_endIf_X5 hown hK hC (va_Nw.use rfl (hZ.1 (.fieldLinkNest RX7 359 "StatementRules2$Open" "ends" "Z" "StatementRules2") (by decide +kernel))) (fun _ q9 => q9) dX7_endIf_51 b6 b7 (fun H locs hC => ?_)
    refine lv_aload_n hx hb dX7_endIf_54 rfl (lv_at hl 1 rfl) ?_
    refine lv_aload_n hx hb dX7_endIf_55 rfl (lv_at hl 0 rfl) ?_
    refine cG_29 hx hb hts i_X7_endIf_X7 hown hK hC (hts (.fieldLink RX7 20 "StatementRules2$Statements" "code" "LStatementRules2$Code;") k_X7_endIf_fieldLink_RX7_20_SR_Statements_code_LSR_Code) (fun x9 q9 => u_same (hts (.sameField "StatementRules2$Statements" "StatementRules2$Formulas" "code" "LStatementRules2$Code;") k_X7_endIf_sameField_SR_Statements_SR_Formulas_code_LSR_Code) x9 q9) dX7_endIf_56 ?_
    obtain ⟨p8, hcp8, hf⟩ := hf_bind hf
    have mo9 : CS.hs p1.2 ≤ CS.hs p8.2 := Mono.go hcp8 (m_X0_newTarget N (CS.setO (CS.setO (CS.setO p1.2 x1 0 204) x1 5 0) x1 6 (p1.2.i 36)))
    have hr9 : CS.hs p8.2 ≤ CS.hs R.2 := Mono.go hf (mono_ite (mono_bind (m_X0_add N (CS.setO p8.2 x1 9 p8.1) 30 (CS.o (CS.setO p8.2 x1 9 p8.1) x1 9)) (fun p13 => (mono_ite (mono_bind (m_X0_aim N p13.2 (CS.o p13.2 x1 10)) (fun p18 => (mono_some (Nat.le_refl _)))) mono_none))) mono_none)
    have hFc := cFree hC hA
    refine va_calli (va_runV (As := []) (rest := [.ref x1]) ⟨hx, hb, hml, hown, hts⟩ (c_X0_newTarget l dC dI Q N (CS.setO (CS.setO (CS.setO p1.2 x1 0 204) x1 5 0) x1 6 (p1.2.i 36)) p8 hcp8) (cwV 0 hts hX7_endIf_X0_newTarget_v136 rfl rfl rfl (by decide +kernel) ⟨(show 2 + 1 ≤ 5 by omega), (show 8 + (1 + 11) + 60 * 2 ≤ 60 * 5 by omega)⟩) ⟨zPre.blind, va_recv hK hC.1 (ci := 0) (q0 := 2) rfl rfl, cPre_go hZ hK hC⟩ rfl rfl hl.1 rfl (lv_room (Nat.le_of_ble_eq_true rfl)) dX7_endIf_59 (cAcc h4 mo9 hr9)) hC.2.2.1 (fun q _ h => hFc q h) hFc (fun r10 u9 t9 H1 locs ht hvm hw hB hz1 hk1 hS => ?_)
    obtain ⟨⟨hP, hK1, hD1⟩, hsz1⟩ := hB
    rw [ht] at hP hsz1
    have hC : CP dC dI Q A s.heap p8.2 H1 locs := ⟨hP, hD1.weaken (fun _ _ _ h => hFc _ h), hS, hsz1⟩
    generalize H1 = H at hC ⊢
    have h11 : (CS.hs σ) ≤ CS.hs p8.2 := Nat.le_trans h4 mo9
    refine W.widen (k := CS.hs p8.2 - (CS.hs σ)) (n := 17 * (CS.hs p8.2 - (CS.hs σ))) (cAcc2 h4 mo9) (cAcc3 h4 mo9) ?_
    obtain rfl : r10 = p8.1 := hw
    obtain ⟨b12, hf⟩ := hf_ite hf
    refine pPN_X5_9 (v := p8.1) hx hb hts i_X7_endIf_X5 hown hK hC (va_Nw.use rfl (hZ.1 (.fieldLinkNest RX7 196 "StatementRules2$Open" "exit" "I" "StatementRules2") (by decide +kernel))) (fun _ q9 => q9) dX7_endIf_62 b12 (fun H locs hC => ?_)
    refine lv_aload_n hx hb dX7_endIf_65 rfl (lv_at hl 0 rfl) ?_
    refine cG_29 hx hb hts i_X7_endIf_X7 hown hK hC (hts (.fieldLink RX7 20 "StatementRules2$Statements" "code" "LStatementRules2$Code;") k_X7_endIf_fieldLink_RX7_20_SR_Statements_code_LSR_Code) (fun x9 q9 => u_same (hts (.sameField "StatementRules2$Statements" "StatementRules2$Formulas" "code" "LStatementRules2$Code;") k_X7_endIf_sameField_SR_Statements_SR_Formulas_code_LSR_Code) x9 q9) dX7_endIf_66 ?_
    refine lv_bipush (v := 30) hx hb dX7_endIf_69 (by decide) ?_
    refine lv_aload_n hx hb dX7_endIf_71 rfl (lv_at hl 1 rfl) ?_
    refine pGN_X5_9 (v := (CS.o (CS.setO p8.2 x1 9 p8.1) x1 9)) hx hb hts i_X7_endIf_X5 hown hK hC (va_Nw.use rfl (hZ.1 (.fieldLinkNest RX7 196 "StatementRules2$Open" "exit" "I" "StatementRules2") (by decide +kernel))) (fun _ q9 => q9) dX7_endIf_72 b12 rfl ?_
    obtain ⟨p13, hcp13, hf⟩ := hf_bind hf
    have mo14 : CS.hs p8.2 ≤ CS.hs p13.2 := Mono.go hcp13 (m_X0_add N (CS.setO p8.2 x1 9 p8.1) 30 (CS.o (CS.setO p8.2 x1 9 p8.1) x1 9))
    have hr9 : CS.hs p13.2 ≤ CS.hs R.2 := Mono.go hf (mono_ite (mono_bind (m_X0_aim N p13.2 (CS.o p13.2 x1 10)) (fun p18 => (mono_some (Nat.le_refl _)))) mono_none)
    have hFc := cFree hC hA
    refine va_callv (va_runV (As := [.int 30, .int (CS.o (CS.setO p8.2 x1 9 p8.1) x1 9)]) (rest := []) ⟨hx, hb, hml, hown, hts⟩ (c_X0_add l dC dI Q N (CS.setO p8.2 x1 9 p8.1) 30 (CS.o (CS.setO p8.2 x1 9 p8.1) x1 9) p13 hcp13) (cwV 2 hts hX7_endIf_X0_add_v176 rfl rfl rfl (by decide +kernel) ⟨(show 2 + 1 ≤ 5 by omega), (show 8 + (3 + 11) + 60 * 2 ≤ 60 * 5 by omega)⟩) ⟨zPre.blind, va_recv hK hC.1 (ci := 0) (q0 := 2) rfl rfl, cPre_go hZ hK hC⟩ rfl rfl hl.1 rfl (lv_room (Nat.le_of_ble_eq_true rfl)) dX7_endIf_75 (cAcc h11 mo14 hr9)) hC.2.2.1 (fun q _ h => hFc q h) hFc (fun u9 t9 H1 locs ht hvm hw hB hz1 hk1 hS => ?_)
    obtain ⟨⟨hP, hK1, hD1⟩, hsz1⟩ := hB
    rw [ht] at hP hsz1
    have hC : CP dC dI Q A s.heap p13.2 H1 locs := ⟨hP, hD1.weaken (fun _ _ _ h => hFc _ h), hS, hsz1⟩
    generalize H1 = H at hC ⊢
    have h16 : (CS.hs σ) ≤ CS.hs p13.2 := Nat.le_trans h11 mo14
    refine W.widen (k := CS.hs p13.2 - (CS.hs σ)) (n := 17 * (CS.hs p13.2 - (CS.hs σ))) (cAcc2 h11 mo14) (cAcc3 h11 mo14) ?_
    refine lv_aload_n hx hb dX7_endIf_78 rfl (lv_at hl 0 rfl) ?_
    refine cG_29 hx hb hts i_X7_endIf_X7 hown hK hC (hts (.fieldLink RX7 20 "StatementRules2$Statements" "code" "LStatementRules2$Code;") k_X7_endIf_fieldLink_RX7_20_SR_Statements_code_LSR_Code) (fun x9 q9 => u_same (hts (.sameField "StatementRules2$Statements" "StatementRules2$Formulas" "code" "LStatementRules2$Code;") k_X7_endIf_sameField_SR_Statements_SR_Formulas_code_LSR_Code) x9 q9) dX7_endIf_79 ?_
    refine lv_aload_n hx hb dX7_endIf_82 rfl (lv_at hl 1 rfl) ?_
    obtain ⟨b17, hf⟩ := hf_ite hf
    refine pGN_X5_10 (v := (CS.o p13.2 x1 10)) hx hb hts i_X7_endIf_X5 hown hK hC (va_Nw.use rfl (hZ.1 (.fieldLinkNest RX7 284 "StatementRules2$Open" "next" "I" "StatementRules2") (by decide +kernel))) (fun _ q9 => q9) dX7_endIf_83 b17 rfl ?_
    obtain ⟨p18, hcp18, hf⟩ := hf_bind hf
    have mo19 : CS.hs p13.2 ≤ CS.hs p18.2 := Mono.go hcp18 (m_X0_aim N p13.2 (CS.o p13.2 x1 10))
    have hr9 : CS.hs p18.2 ≤ CS.hs R.2 := Mono.go hf (mono_some (Nat.le_refl _))
    have hFc := cFree hC hA
    refine va_callv (va_runV (As := [.int (CS.o p13.2 x1 10)]) (rest := []) ⟨hx, hb, hml, hown, hts⟩ (c_X0_aim l dC dI Q N p13.2 (CS.o p13.2 x1 10) p18 hcp18) (cwV 1 hts hX7_endIf_X0_aim_v158 rfl rfl rfl (by decide +kernel) ⟨(show 2 + 1 ≤ 5 by omega), (show 8 + (2 + 11) + 60 * 2 ≤ 60 * 5 by omega)⟩) ⟨zPre.blind, va_recv hK hC.1 (ci := 0) (q0 := 2) rfl rfl, cPre_go hZ hK hC⟩ rfl rfl hl.1 rfl (lv_room (Nat.le_of_ble_eq_true rfl)) dX7_endIf_86 (cAcc h16 mo19 hr9)) hC.2.2.1 (fun q _ h => hFc q h) hFc (fun u9 t9 H1 locs ht hvm hw hB hz1 hk1 hS => ?_)
    obtain ⟨⟨hP, hK1, hD1⟩, hsz1⟩ := hB
    rw [ht] at hP hsz1
    have hC : CP dC dI Q A s.heap p18.2 H1 locs := ⟨hP, hD1.weaken (fun _ _ _ h => hFc _ h), hS, hsz1⟩
    generalize H1 = H at hC ⊢
    have h21 : (CS.hs σ) ≤ CS.hs p18.2 := Nat.le_trans h16 mo19
    refine W.widen (k := CS.hs p18.2 - (CS.hs σ)) (n := 17 * (CS.hs p18.2 - (CS.hs σ))) (cAcc2 h16 mo19) (cAcc3 h16 mo19) ?_
    refine lv_aload_n hx hb dX7_endIf_89 rfl (lv_at hl 0 rfl) ?_
    refine lv_iconst (v := 1) hx hb dX7_endIf_90 (by decide) ?_
    refine cP_36 (v := 1) hx hb hts i_X7_endIf_X7 hown hK hC (hts (.fieldLink RX7 61 "StatementRules2$Statements" "alive" "Z") k_X7_endIf_fieldLink_RX7_61_SR_Statements_alive_Z) (fun _ q9 => q9) dX7_endIf_91 (by decide) (fun H locs hC => ?_)
    obtain rfl := Option.some.inj hf
    exact W.vret hx hb hr (fun t ht hW => ⟨⟨(), rfl, trivial, ⟨by rw [ht]; exact hC.1, va_K.moved hW.alike hK, hC.2.1⟩, by rw [ht]; exact hC.2.2.2⟩, hC.2.2.1.F ht⟩) hC.2.2.1.2.2 dX7_endIf_94
  ·
    replace hf := (if_pos c5).symm.trans hf
    refine lv_aload_n hx hb dX7_endIf_10 rfl (lv_at hl 0 rfl) ?_
    refine cG_29 hx hb hts i_X7_endIf_X7 hown hK hC (hts (.fieldLink RX7 20 "StatementRules2$Statements" "code" "LStatementRules2$Code;") k_X7_endIf_fieldLink_RX7_20_SR_Statements_code_LSR_Code) (fun x9 q9 => u_same (hts (.sameField "StatementRules2$Statements" "StatementRules2$Formulas" "code" "LStatementRules2$Code;") k_X7_endIf_sameField_SR_Statements_SR_Formulas_code_LSR_Code) x9 q9) dX7_endIf_11 ?_
    refine lv_aload_n hx hb dX7_endIf_14 rfl (lv_at hl 1 rfl) ?_
    obtain ⟨b22, hf⟩ := hf_ite hf
    refine pGN_X5_10 (v := (CS.o p1.2 x1 10)) hx hb hts i_X7_endIf_X5 hown hK hC (va_Nw.use rfl (hZ.1 (.fieldLinkNest RX7 284 "StatementRules2$Open" "next" "I" "StatementRules2") (by decide +kernel))) (fun _ q9 => q9) dX7_endIf_15 b22 rfl ?_
    obtain ⟨p23, hcp23, hf⟩ := hf_bind hf
    have mo24 : CS.hs p1.2 ≤ CS.hs p23.2 := Mono.go hcp23 (m_X0_aim N p1.2 (CS.o p1.2 x1 10))
    have hr9 : CS.hs p23.2 ≤ CS.hs R.2 := Mono.go hf (mono_bind (m_X6_pop N (CS.setI p23.2 36 1)) (fun p27 => (mono_some (Nat.le_refl _))))
    have hFc := cFree hC hA
    refine va_callv (va_runV (As := [.int (CS.o p1.2 x1 10)]) (rest := []) ⟨hx, hb, hml, hown, hts⟩ (c_X0_aim l dC dI Q N p1.2 (CS.o p1.2 x1 10) p23 hcp23) (cwV 1 hts hX7_endIf_X0_aim_v158 rfl rfl rfl (by decide +kernel) ⟨(show 2 + 1 ≤ 5 by omega), (show 8 + (2 + 11) + 60 * 2 ≤ 60 * 5 by omega)⟩) ⟨zPre.blind, va_recv hK hC.1 (ci := 0) (q0 := 2) rfl rfl, cPre_go hZ hK hC⟩ rfl rfl hl.1 rfl (lv_room (Nat.le_of_ble_eq_true rfl)) dX7_endIf_18 (cAcc h4 mo24 hr9)) hC.2.2.1 (fun q _ h => hFc q h) hFc (fun u9 t9 H1 locs ht hvm hw hB hz1 hk1 hS => ?_)
    obtain ⟨⟨hP, hK1, hD1⟩, hsz1⟩ := hB
    rw [ht] at hP hsz1
    have hC : CP dC dI Q A s.heap p23.2 H1 locs := ⟨hP, hD1.weaken (fun _ _ _ h => hFc _ h), hS, hsz1⟩
    generalize H1 = H at hC ⊢
    have h26 : (CS.hs σ) ≤ CS.hs p23.2 := Nat.le_trans h4 mo24
    refine W.widen (k := CS.hs p23.2 - (CS.hs σ)) (n := 17 * (CS.hs p23.2 - (CS.hs σ))) (cAcc2 h4 mo24) (cAcc3 h4 mo24) ?_
    refine lv_aload_n hx hb dX7_endIf_21 rfl (lv_at hl 0 rfl) ?_
    refine lv_iconst (v := 1) hx hb dX7_endIf_22 (by decide) ?_
    refine cP_36 (v := 1) hx hb hts i_X7_endIf_X7 hown hK hC (hts (.fieldLink RX7 61 "StatementRules2$Statements" "alive" "Z") k_X7_endIf_fieldLink_RX7_61_SR_Statements_alive_Z) (fun _ q9 => q9) dX7_endIf_23 (by decide) (fun H locs hC => ?_)
    refine lv_aload_n hx hb dX7_endIf_26 rfl (lv_at hl 0 rfl) ?_
    refine cG_35 hx hb hts i_X7_endIf_X7 hown hK hC (hts (.fieldLink RX7 14 "StatementRules2$Statements" "opens" "LStatementRules2$Opens;") k_X7_endIf_fieldLink_RX7_14_SR_Statements_opens_LSR_Opens) (fun _ q9 => q9) dX7_endIf_27 ?_
    obtain ⟨p27, hcp27, hf⟩ := hf_bind hf
    have mo28 : CS.hs p23.2 ≤ CS.hs p27.2 := Mono.go hcp27 (m_X6_pop N (CS.setI p23.2 36 1))
    have hr9 : CS.hs p27.2 ≤ CS.hs R.2 := Mono.go hf (mono_some (Nat.le_refl _))
    have hFc := cFree hC hA
    refine va_callv (va_runV (As := []) (rest := []) ⟨hx, hb, hml, hown, hts⟩ (c_X6_pop l dC dI Q N (CS.setI p23.2 36 1) p27 hcp27) (cwV 0 hts hX7_endIf_X6_pop_v369 rfl rfl rfl (by decide +kernel) ⟨(show 1 + 1 ≤ 5 by omega), (show 8 + (1 + 11) + 60 * 1 ≤ 60 * 5 by omega)⟩) ⟨zPre.blind, va_recv hK hC.1 (ci := 5) (q0 := 6) rfl rfl, cPre_go hZ hK hC⟩ rfl rfl hl.1 rfl (lv_room (Nat.le_of_ble_eq_true rfl)) dX7_endIf_30 (cAcc h26 mo28 hr9)) hC.2.2.1 (fun q _ h => hFc q h) hFc (fun u9 t9 H1 locs ht hvm hw hB hz1 hk1 hS => ?_)
    obtain ⟨⟨hP, hK1, hD1⟩, hsz1⟩ := hB
    rw [ht] at hP hsz1
    have hC : CP dC dI Q A s.heap p27.2 H1 locs := ⟨hP, hD1.weaken (fun _ _ _ h => hFc _ h), hS, hsz1⟩
    generalize H1 = H at hC ⊢
    have h30 : (CS.hs σ) ≤ CS.hs p27.2 := Nat.le_trans h26 mo28
    refine W.widen (k := CS.hs p27.2 - (CS.hs σ)) (n := 17 * (CS.hs p27.2 - (CS.hs σ))) (cAcc2 h26 mo28) (cAcc3 h26 mo28) ?_
    obtain rfl := Option.some.inj hf
    exact W.vret hx hb hr (fun t ht hW => ⟨⟨(), rfl, trivial, ⟨by rw [ht]; exact hC.1, va_K.moved hW.alike hK, hC.2.1⟩, by rw [ht]; exact hC.2.2.2⟩, hC.2.2.1.F ht⟩) hC.2.2.1.2.2 dX7_endIf_33
theorem i_X6_jumpTo_X5 : ∀ w ∈ wsX50, w ∈ wzX6_jumpTo := fun _ h => List.mem_cons_of_mem _ (List.mem_append_right _ (List.mem_append_left _ (h)))
set_option maxHeartbeats 4000000 in
set_option maxRecDepth 100000 in
theorem c_X6_jumpTo (l : Launch) (dC : Nat → ClassId) (dI : Nat → Nat → Nat) (Q : CQ) (N : Nat) (σ : CS) (x0 : Nat) (x1 : Int32) (R : Int32 × CS) (hf : f_X6_jumpTo N σ x0 x1 = some R) : Met l yX6_jumpTo wzX6_jumpTo ({ frames := 1, cells := CS.hs R.2 - CS.hs σ, slots := 17 * (CS.hs R.2 - CS.hs σ), locals := 60 * 1 }) (va_Pc [.ref x0, .int x1] (zPre dC dI (CS.hs σ) (cW Q σ) (cT Q))) (va_Qi (fun (r : Int32) (_ : Unit) => r = R.1) (fun (_ : Unit) (t : State) => zPost dC dI (va_A (cW Q σ) (CS.hs σ)) (cW Q R.2) (cT Q) t ∧ t.heap.size = CS.hs R.2) (va_A (cW Q σ) (CS.hs σ))) (CS.hs R.2 - CS.hs σ) (17 * (CS.hs R.2 - CS.hs σ)) (va_A (cW Q σ) (CS.hs σ)) := by
  refine Met.ofW (cc := cX6_jumpTo) (maxL := 2) (ret := (some .int)) (by decide) rfl ?_
  intro p e s m args below meth c s₁ B hml hv
  obtain ⟨rfl, hsz, hZ, hP, hK, hD0⟩ := hv
  have hx := B.exec
  have hb := B.bytes
  have hr := B.returns
  have hts := atoms_spec (ws := wzX6_jumpTo) B.pre
  have hown : s.vm.findClass RX6 = some m.cls := findClass_of_methodNamed B.named
  have hlocks := B.notSynchronized
  have hD := hD0.self (sz := CS.hs σ)
  generalize hAe : va_A (cW Q σ) (CS.hs σ) = A at hD ⊢
  have hA : ∀ q : Nat, s.heap.size ≤ q → A q := fun q h => by rw [← hAe]; exact Or.inr (hsz ▸ h)
  have hC : CP dC dI Q A s.heap σ s.heap [] := ⟨hP, hD, va_S.rf, hsz⟩
  have h0 : CS.hs σ ≤ CS.hs σ := Nat.le_refl _
  have hl := lv_entry ([.ref x0, .int x1]) (n := 2) (Nat.le_of_ble_eq_true rfl)
  rw [lg_entry_eq]
  generalize (lg_sl ([.ref x0, .int x1]) ++ List.replicate (2 - (lg_sl ([.ref x0, .int x1])).length) Slot.unset).toArray = ls at hl ⊢
  have hl : lv_has ls 2 [(0, .ref x0), (1, .int x1)] := hl
  unfold f_X6_jumpTo at hf
  refine W.widen (k := CS.hs σ - CS.hs σ) (n := 17 * (CS.hs σ - CS.hs σ)) (Nat.zero_le _) (Nat.zero_le _) ?_
  refine lv_iconst (v := 2) hx hb dX6_jumpTo_0 (by decide) ?_
  refine lv_aload_n hx hb dX6_jumpTo_1 rfl (lv_at hl 0 rfl) ?_
  obtain ⟨b1, hf⟩ := hf_ite hf
  refine pGN_X5_1 (v := (CS.o σ x0 1)) hx hb hts i_X6_jumpTo_X5 hown hK hC (va_Nw.use rfl (hZ.1 (.fieldLinkNest RX6 44 "StatementRules2$Open" "serial" "I" "StatementRules2") (by decide +kernel))) (fun _ q9 => q9) dX6_jumpTo_2 b1 rfl ?_
  refine lv_imul hx hb dX6_jumpTo_5 ?_
  refine lv_iload_n hx hb dX6_jumpTo_6 rfl (lv_at hl 1 rfl) ?_
  refine lv_if_eq (tgt := 14) hx hb dX6_jumpTo_7 (by decide) (fun c2 => ?_) (fun c2 => ?_)
  ·
    replace hf := (if_pos c2).symm.trans hf
    refine lv_iconst (v := 0) hx hb dX6_jumpTo_14 (by decide) ?_
    refine lv_iadd hx hb dX6_jumpTo_15 ?_
    obtain rfl := Option.some.inj hf
    exact W.iret (v := ((2 * (CS.o σ x0 1)) + 0)) hx hb hr (fun t ht hW => ⟨⟨((2 * (CS.o σ x0 1)) + 0), (), rfl, rfl, ⟨by rw [ht]; exact hC.1, va_K.moved hW.alike hK, hC.2.1⟩, by rw [ht]; exact hC.2.2.2⟩, hC.2.2.1.F ht⟩) hC.2.2.1.2.2 dX6_jumpTo_16
  ·
    replace hf := (if_neg c2).symm.trans hf
    refine lv_iconst (v := 1) hx hb dX6_jumpTo_10 (by decide) ?_
    refine lv_goto (tgt := 15) hx hb dX6_jumpTo_11 (by decide) ?_
    refine lv_iadd hx hb dX6_jumpTo_15 ?_
    obtain rfl := Option.some.inj hf
    exact W.iret (v := ((2 * (CS.o σ x0 1)) + 1)) hx hb hr (fun t ht hW => ⟨⟨((2 * (CS.o σ x0 1)) + 1), (), rfl, rfl, ⟨by rw [ht]; exact hC.1, va_K.moved hW.alike hK, hC.2.1⟩, by rw [ht]; exact hC.2.2.2⟩, hC.2.2.1.F ht⟩) hC.2.2.1.2.2 dX6_jumpTo_16
theorem i_X6_isGoneTo_X5 : ∀ w ∈ wsX50, w ∈ wzX6_isGoneTo := fun _ h => List.mem_cons_of_mem _ (List.mem_append_right _ (List.mem_append_left _ (h)))
theorem k_X6_isGoneTo_fieldLink_RX6_28_SR_Opens_jumpCount_I : Cond.fieldLink RX6 28 "StatementRules2$Opens" "jumpCount" "I" ∈ wzX6_isGoneTo := List.mem_cons_of_mem _ (List.mem_append_left _ (List.mem_of_getElem? (i := 0) rfl))
theorem i_X6_isGoneTo_X6 : ∀ w ∈ wsX60, w ∈ wzX6_isGoneTo := fun _ h => List.mem_cons_of_mem _ (List.mem_append_right _ (List.mem_append_right _ (List.mem_append_left _ (h))))
theorem k_X6_isGoneTo_fieldLink_RX6_17_SR_Opens_jumps_I : Cond.fieldLink RX6 17 "StatementRules2$Opens" "jumps" "[I" ∈ wzX6_isGoneTo := List.mem_cons_of_mem _ (List.mem_append_left _ (List.mem_of_getElem? (i := 1) rfl))
theorem k_X6_isGoneTo_initialized_RX11 : Cond.initialized RX11 ∈ wzX6_isGoneTo := List.mem_cons_of_mem _ (List.mem_append_left _ (List.mem_of_getElem? (i := 2) rfl))
theorem k_X6_isGoneTo_static_yX11_at : Cond.static yX11_at ∈ wzX6_isGoneTo := List.mem_cons_of_mem _ (List.mem_append_left _ (List.mem_of_getElem? (i := 3) rfl))
set_option maxHeartbeats 4000000 in
set_option maxRecDepth 100000 in
theorem j_X6_isGoneTo_5 {p : Program} {e : Env} {s : State} {m : MethodId} {args : Array Value} {below : List Frame} {meth : Method} {c : Code} {A : Nat → Prop} (l : Launch) (dC : Nat → ClassId) (dI : Nat → Nat → Nat) (Q : CQ) (N : Nat) (z9h : Nat) (R : Int32 × CS) (hx : p.tables.exec = Jvm.exec) (hb : c.code = cX6_isGoneTo) (hr : meth.sig.returnType = (some .boolean)) (hml : c.maxLocals = 4) (hown : s.vm.findClass RX6 = some m.cls) (hts : ∀ w ∈ wzX6_isGoneTo, w.before args s = true) (hlocks : meth.locks = false) (hZ : zAMB s) (hA : ∀ q : Nat, s.heap.size ≤ q → A q) (hK : va_K (dC, dI) vwCl (cT Q) s) : ∀ (n9 : Nat), ∀ (σ : CS) (x1 : Nat) (x2 : Int32) (x3 : Int32) (H : Heap) (locs : List Loc) (ls : Array Slot), f_X6_isGoneTo_5 N n9 σ x1 x2 x3 = some R → z9h ≤ CS.hs σ → CP dC dI Q A s.heap σ H locs → lv_has ls 4 [(0, .ref (Q.o 6)), (1, .ref x1), (2, .int x2), (3, .int x3)] → W p l e ({ frames := 2, cells := CS.hs R.2 - z9h, slots := 17 * (CS.hs R.2 - z9h), locals := 60 * 2 }) s m args below meth c H locs (CS.hs σ - z9h) (17 * (CS.hs σ - z9h)) (MQ below (va_Qi (fun (r : Int32) (_ : Unit) => r = R.1) (fun (_ : Unit) (t : State) => zPost dC dI A (cW Q R.2) (cT Q) t ∧ t.heap.size = CS.hs R.2) A) args s (CS.hs R.2 - z9h) (17 * (CS.hs R.2 - z9h)) A) (F0 m 5 ls []) := by
  intro n9
  induction n9 with
  | zero => intro σ x1 x2 x3 H locs ls hf; exact absurd hf (by intro q9; cases q9)
  | succ n9 ih =>
    intro σ x1 x2 x3 H locs ls hf h0 hC hl
    replace hf : b_X6_isGoneTo_5 N (f_X6_isGoneTo_5 N n9) σ x1 x2 x3 = some R := hf
    unfold b_X6_isGoneTo_5 at hf
    have hMK := fun (σ : CS) (x1 : Nat) (x2 : Int32) (x3 : Int32) => m_X6_isGoneTo_5 N n9 σ x1 x2 x3
    refine lv_iload_n hx hb dX6_isGoneTo_5 rfl (lv_at hl 3 rfl) ?_
    refine lv_aload_n hx hb dX6_isGoneTo_6 rfl (lv_at hl 0 rfl) ?_
    refine cG_55 (v := (σ.i 55)) hx hb hts i_X6_isGoneTo_X6 hown hK hC (hts (.fieldLink RX6 28 "StatementRules2$Opens" "jumpCount" "I") k_X6_isGoneTo_fieldLink_RX6_28_SR_Opens_jumpCount_I) (fun _ q9 => q9) dX6_isGoneTo_7 rfl ?_
    refine lv_icmp_ge (tgt := 37) hx hb dX6_isGoneTo_10 (by decide) (fun c2 => ?_) (fun c2 => ?_)
    ·
      replace hf := (if_pos c2).symm.trans hf
      refine lv_iconst (v := 0) hx hb dX6_isGoneTo_37 (by decide) ?_
      obtain rfl := Option.some.inj hf
      exact W.zret (v := 0) hx hb hr (rfl) (fun t ht hW => ⟨⟨0, (), rfl, rfl, ⟨by rw [ht]; exact hC.1, va_K.moved hW.alike hK, hC.2.1⟩, by rw [ht]; exact hC.2.2.2⟩, hC.2.2.1.F ht⟩) hC.2.2.1.2.2 dX6_isGoneTo_38
    ·
      replace hf := (if_neg c2).symm.trans hf
      refine lv_aload_n hx hb dX6_isGoneTo_13 rfl (lv_at hl 0 rfl) ?_
      refine cG_52 hx hb hts i_X6_isGoneTo_X6 hown hK hC (hts (.fieldLink RX6 17 "StatementRules2$Opens" "jumps" "[I") k_X6_isGoneTo_fieldLink_RX6_17_SR_Opens_jumps_I) (fun _ q9 => q9) dX6_isGoneTo_14 ?_
      refine lv_iload_n hx hb dX6_isGoneTo_17 rfl (lv_at hl 3 rfl) ?_
      have he9 := (cArr_52 (Q := Q) (σ := σ))
      have hFc := cFree1 hC hA he9
      have hr9 : CS.hs σ ≤ CS.hs R.2 := Mono.go hf (mono_bind (m_X6_jumpTo N σ x1 x2) (fun p4 => (mono_ite (mono_some (Nat.le_refl _)) (hMK p4.2 x1 x2 (x3 + 1)))))
      refine va_calli (va_runSN (As := [.ref (Q.q 52), .int x3]) (rest := []) ⟨hx, hb, hml, hown, hts⟩ (c_X11_at l dC dI _ (Q.q 52) (Q.c 0) 160 (σ.a 52) x3 (by decide)) ⟨va_cnB 2 hts hX6_isGoneTo_X11_at_n104 rfl rfl rfl (hZ.1 (.methodLinkNest RX6 104 yX11_at "StatementRules2") (by decide +kernel)) (hts (.initialized RX11) k_X6_isGoneTo_initialized_RX11) (by decide +kernel) ⟨(show 1 + 1 ≤ 2 by omega), (show 8 + (2 + 11) + 60 * 1 ≤ 60 * 2 by omega)⟩, (hts (.static yX11_at) k_X6_isGoneTo_static_yX11_at), trivial⟩ ⟨zPre.blind, zPre.go hZ (cOne hC.1 he9) (hK.sub (tys' := [(Q.c 0, .int)]) [0] rfl) (cOneD hC.2.1 he9)⟩ rfl rfl hl.1 rfl (lv_room (Nat.le_of_ble_eq_true rfl)) dX6_isGoneTo_18 ⟨cAcc4 h0 hr9, cAcc5 h0 hr9⟩) hC.2.2.1 (fun q _ h => hFc q h) hFc (fun r3 u9 t9 H1 locs ht hvm hw hB hz1 hk1 hS => ?_)
      obtain ⟨⟨hP1, hK1, hD1⟩, hsz1⟩ := hB
      rw [ht] at hP1 hsz1
      have hC := cBack (σ' := σ) hC he9 (cSelf he9) (Eq.refl (CS.hs σ)) hk1 hP1 hsz1 hS
      generalize H1 = H at hC ⊢
      obtain rfl : r3 = (gAt (σ.a 52) 160 x3) := hw
      refine lv_aload_n hx hb dX6_isGoneTo_21 rfl (lv_at hl 1 rfl) ?_
      refine lv_iload_n hx hb dX6_isGoneTo_22 rfl (lv_at hl 2 rfl) ?_
      obtain ⟨p4, hcp4, hf⟩ := hf_bind hf
      have mo5 : CS.hs σ ≤ CS.hs p4.2 := Mono.go hcp4 (m_X6_jumpTo N σ x1 x2)
      have hr9 : CS.hs p4.2 ≤ CS.hs R.2 := Mono.go hf (mono_ite (mono_some (Nat.le_refl _)) (hMK p4.2 x1 x2 (x3 + 1)))
      have hFc := cFree hC hA
      refine va_calli (va_runS (As := [.ref x1, .int x2]) (rest := [.int (gAt (σ.a 52) 160 x3)]) ⟨hx, hb, hml, hown, hts⟩ (c_X6_jumpTo l dC dI Q N σ x1 x2 p4 hcp4) (va_cwS 2 hts hX6_isGoneTo_X6_jumpTo_s96 rfl rfl rfl (by decide +kernel) ⟨(show 1 + 1 ≤ 2 by omega), (show 8 + (2 + 11) + 60 * 1 ≤ 60 * 2 by omega)⟩) ⟨zPre.blind, cPre_go hZ hK hC⟩ rfl rfl hl.1 rfl (lv_room (Nat.le_of_ble_eq_true rfl)) dX6_isGoneTo_23 (cAcc h0 mo5 hr9)) hC.2.2.1 (fun q _ h => hFc q h) hFc (fun r6 u9 t9 H1 locs ht hvm hw hB hz1 hk1 hS => ?_)
      obtain ⟨⟨hP, hK1, hD1⟩, hsz1⟩ := hB
      rw [ht] at hP hsz1
      have hC : CP dC dI Q A s.heap p4.2 H1 locs := ⟨hP, hD1.weaken (fun _ _ _ h => hFc _ h), hS, hsz1⟩
      generalize H1 = H at hC ⊢
      have h7 : z9h ≤ CS.hs p4.2 := Nat.le_trans h0 mo5
      refine W.widen (k := CS.hs p4.2 - z9h) (n := 17 * (CS.hs p4.2 - z9h)) (cAcc2 h0 mo5) (cAcc3 h0 mo5) ?_
      obtain rfl : r6 = p4.1 := hw
      refine lv_icmp_ne (tgt := 31) hx hb dX6_isGoneTo_26 (by decide) (fun c8 => ?_) (fun c8 => ?_)
      ·
        replace hf := (if_neg c8).symm.trans hf
        refine lv_iinc (v := (x3 + 1)) (lv' := [(3, .int (x3 + 1)), (0, .ref (Q.o 6)), (1, .ref x1), (2, .int x2)]) hx hb dX6_isGoneTo_31 hl (k := 3) rfl rfl (by decide) rfl (fun ls hl => ?_)
        refine lv_goto (tgt := 5) hx hb dX6_isGoneTo_34 (by decide) ?_
        exact ih p4.2 x1 x2 (x3 + 1) _ _ _ hf h7 hC (lv_sub hl [1, 2, 3, 0] rfl)
      ·
        replace hf := (if_pos c8).symm.trans hf
        refine lv_iconst (v := 1) hx hb dX6_isGoneTo_29 (by decide) ?_
        obtain rfl := Option.some.inj hf
        exact W.zret (v := 1) hx hb hr (rfl) (fun t ht hW => ⟨⟨1, (), rfl, rfl, ⟨by rw [ht]; exact hC.1, va_K.moved hW.alike hK, hC.2.1⟩, by rw [ht]; exact hC.2.2.2⟩, hC.2.2.1.F ht⟩) hC.2.2.1.2.2 dX6_isGoneTo_30
set_option maxHeartbeats 4000000 in
set_option maxRecDepth 100000 in
theorem c_X6_isGoneTo (l : Launch) (dC : Nat → ClassId) (dI : Nat → Nat → Nat) (Q : CQ) (N : Nat) (σ : CS) (x1 : Nat) (x2 : Int32) (R : Int32 × CS) (hf : f_X6_isGoneTo N σ x1 x2 = some R) : Met l yX6_isGoneTo wzX6_isGoneTo ({ frames := 2, cells := CS.hs R.2 - CS.hs σ, slots := 17 * (CS.hs R.2 - CS.hs σ), locals := 60 * 2 }) (va_Pc [.ref (Q.o 6), .ref x1, .int x2] (zPre dC dI (CS.hs σ) (cW Q σ) (cT Q))) (va_Qi (fun (r : Int32) (_ : Unit) => r = R.1) (fun (_ : Unit) (t : State) => zPost dC dI (va_A (cW Q σ) (CS.hs σ)) (cW Q R.2) (cT Q) t ∧ t.heap.size = CS.hs R.2) (va_A (cW Q σ) (CS.hs σ))) (CS.hs R.2 - CS.hs σ) (17 * (CS.hs R.2 - CS.hs σ)) (va_A (cW Q σ) (CS.hs σ)) := by
  refine Met.ofW (cc := cX6_isGoneTo) (maxL := 4) (ret := (some .boolean)) (by decide) rfl ?_
  intro p e s m args below meth c s₁ B hml hv
  obtain ⟨rfl, hsz, hZ, hP, hK, hD0⟩ := hv
  have hx := B.exec
  have hb := B.bytes
  have hr := B.returns
  have hts := atoms_spec (ws := wzX6_isGoneTo) B.pre
  have hown : s.vm.findClass RX6 = some m.cls := findClass_of_methodNamed B.named
  have hlocks := B.notSynchronized
  have hD := hD0.self (sz := CS.hs σ)
  generalize hAe : va_A (cW Q σ) (CS.hs σ) = A at hD ⊢
  have hA : ∀ q : Nat, s.heap.size ≤ q → A q := fun q h => by rw [← hAe]; exact Or.inr (hsz ▸ h)
  have hC : CP dC dI Q A s.heap σ s.heap [] := ⟨hP, hD, va_S.rf, hsz⟩
  have h0 : CS.hs σ ≤ CS.hs σ := Nat.le_refl _
  have hl := lv_entry ([.ref (Q.o 6), .ref x1, .int x2]) (n := 4) (Nat.le_of_ble_eq_true rfl)
  rw [lg_entry_eq]
  generalize (lg_sl ([.ref (Q.o 6), .ref x1, .int x2]) ++ List.replicate (4 - (lg_sl ([.ref (Q.o 6), .ref x1, .int x2])).length) Slot.unset).toArray = ls at hl ⊢
  have hl : lv_has ls 4 [(0, .ref (Q.o 6)), (1, .ref x1), (2, .int x2)] := hl
  unfold f_X6_isGoneTo at hf
  refine W.widen (k := CS.hs σ - CS.hs σ) (n := 17 * (CS.hs σ - CS.hs σ)) (Nat.zero_le _) (Nat.zero_le _) ?_
  refine lv_aload_n hx hb dX6_isGoneTo_0 rfl (lv_at hl 1 rfl) ?_
  obtain ⟨b1, hf⟩ := hf_ite hf
  refine pGN_X5_14 (v := (CS.o σ x1 14)) hx hb hts i_X6_isGoneTo_X5 hown hK hC (va_Nw.use rfl (hZ.1 (.fieldLinkNest RX6 82 "StatementRules2$Open" "firstJump" "I" "StatementRules2") (by decide +kernel))) (fun _ q9 => q9) dX6_isGoneTo_1 b1 rfl ?_
  refine lv_istore_n (lv' := [(3, .int (CS.o σ x1 14)), (0, .ref (Q.o 6)), (1, .ref x1), (2, .int x2)]) hx hb dX6_isGoneTo_4 rfl hl (by decide) rfl (fun ls hl => ?_)
  exact j_X6_isGoneTo_5 l dC dI Q N (CS.hs σ) R hx hb hr hml hown hts hlocks hZ hA hK N σ x1 x2 (CS.o σ x1 14) _ _ _ hf h0 hC (lv_sub hl [1, 2, 3, 0] rfl)
theorem k_X1_conjunction_fieldLink_RX1_22_SR_Formulas_code_LSR_Code : Cond.fieldLink RX1 22 "StatementRules2$Formulas" "code" "LStatementRules2$Code;" ∈ wzX1_conjunction := List.mem_cons_of_mem _ (List.mem_append_right _ (List.mem_append_right _ (List.mem_append_right _ (List.mem_append_right _ (List.mem_append_right _ (List.mem_append_left _ (List.mem_of_getElem? (i := 0) rfl)))))))
theorem i_X1_conjunction_X7 : ∀ w ∈ wsX70, w ∈ wzX1_conjunction := fun _ h => List.mem_cons_of_mem _ (List.mem_append_right _ (List.mem_append_right _ (List.mem_append_right _ (List.mem_append_right _ (List.mem_append_right _ (List.mem_append_right _ (List.mem_append_right _ (List.mem_append_right _ (List.mem_append_right _ (List.mem_append_right _ (List.mem_append_right _ (List.mem_append_right _ (List.mem_append_right _ (List.mem_append_right _ (List.mem_append_right _ (List.mem_append_right _ (List.mem_append_right _ (List.mem_append_right _ (List.mem_append_right _ (List.mem_append_right _ (List.mem_append_right _ (List.mem_append_right _ (List.mem_append_right _ (List.mem_append_right _ (List.mem_append_right _ (List.mem_append_right _ (List.mem_append_right _ (List.mem_append_right _ (List.mem_append_right _ (List.mem_append_right _ (List.mem_append_right _ (List.mem_append_right _ (List.mem_append_right _ (List.mem_append_right _ (List.mem_append_right _ (List.mem_append_right _ (List.mem_append_left _ (h))))))))))))))))))))))))))))))))))))))
set_option maxHeartbeats 4000000 in
set_option maxRecDepth 100000 in
theorem j_X1_conjunction_65 {p : Program} {e : Env} {s : State} {m : MethodId} {args : Array Value} {below : List Frame} {meth : Method} {c : Code} {A : Nat → Prop} (l : Launch) (dC : Nat → ClassId) (dI : Nat → Nat → Nat) (Q : CQ) (N : Nat) (d : Nat) (E1 : CS → Option (Unit × CS)) (E2 : CS → Option (Int32 × CS)) (hE1 : cMF l dC dI Q d E1) (hE2 : cMO l dC dI Q d E2) (hm1 : ∀ σ, Mono (CS.hs σ) (E1 σ)) (hm2 : ∀ σ, Mono (CS.hs σ) (E2 σ)) (z9h : Nat) (R : Int32 × CS) (hx : p.tables.exec = Jvm.exec) (hb : c.code = cX1_conjunction) (hr : meth.sig.returnType = (some .boolean)) (hml : c.maxLocals = 4) (hown : s.vm.findClass RX1 = some m.cls) (hts : ∀ w ∈ wzX1_conjunction, w.before args s = true) (hlocks : meth.locks = false) (hZ : zAMB s) (hA : ∀ q : Nat, s.heap.size ≤ q → A q) (hK : va_K (dC, dI) vwCl (cT Q) s) : ∀ (σ : CS) (x2 : Int32) (H : Heap) (locs : List Loc) (ls : Array Slot), f_X1_conjunction_65 N E1 E2 σ x2 = some R → z9h ≤ CS.hs σ → CP dC dI Q A s.heap σ H locs → lv_has ls 4 [(0, .ref (Q.o 3)), (2, .int x2)] → W p l e ({ frames := (11 + 40 * d), cells := CS.hs R.2 - z9h, slots := 17 * (CS.hs R.2 - z9h), locals := 60 * (11 + 40 * d) }) s m args below meth c H locs (CS.hs σ - z9h) (17 * (CS.hs σ - z9h)) (MQ below (va_Qi (fun (r : Int32) (_ : Unit) => r = R.1) (fun (_ : Unit) (t : State) => zPost dC dI A (cW Q R.2) (cT Q) t ∧ t.heap.size = CS.hs R.2) A) args s (CS.hs R.2 - z9h) (17 * (CS.hs R.2 - z9h)) A) (F0 m 65 ls []) := by
  intro σ x2 H locs ls hf h0 hC hl
  unfold f_X1_conjunction_65 at hf
  refine lv_aload_n hx hb dX1_conjunction_65 rfl (lv_at hl 0 rfl) ?_
  refine cG_29 hx hb hts i_X1_conjunction_X7 hown hK hC (hts (.fieldLink RX1 22 "StatementRules2$Formulas" "code" "LStatementRules2$Code;") k_X1_conjunction_fieldLink_RX1_22_SR_Formulas_code_LSR_Code) (fun _ q9 => q9) dX1_conjunction_66 ?_
  refine lv_iload_n hx hb dX1_conjunction_69 rfl (lv_at hl 1 rfl) ?_
  obtain ⟨p15, hcp15, hf⟩ := hf_bind hf
  have mo16 : CS.hs σ ≤ CS.hs p15.2 := Mono.go hcp15 (m_X0_aim N σ x2)
  have hr9 : CS.hs p15.2 ≤ CS.hs R.2 := Mono.go hf (mono_some (Nat.le_refl _))
  have hFc := cFree hC hA
  refine va_callv (va_runV (As := [.int x2]) (rest := []) ⟨hx, hb, hml, hown, hts⟩ (c_X0_aim l dC dI Q N σ x2 p15 hcp15) (cwV 1 hts hX1_conjunction_X0_aim_v121 rfl rfl rfl (by decide +kernel) ⟨(show 2 + 1 ≤ (11 + 40 * d) by omega), (show 8 + (2 + 11) + 60 * 2 ≤ 60 * (11 + 40 * d) by omega)⟩) ⟨zPre.blind, va_recv hK hC.1 (ci := 0) (q0 := 2) rfl rfl, cPre_go hZ hK hC⟩ rfl rfl hl.1 rfl (lv_room (Nat.le_of_ble_eq_true rfl)) dX1_conjunction_70 (cAcc h0 mo16 hr9)) hC.2.2.1 (fun q _ h => hFc q h) hFc (fun u9 t9 H1 locs ht hvm hw hB hz1 hk1 hS => ?_)
  obtain ⟨⟨hP, hK1, hD1⟩, hsz1⟩ := hB
  rw [ht] at hP hsz1
  have hC : CP dC dI Q A s.heap p15.2 H1 locs := ⟨hP, hD1.weaken (fun _ _ _ h => hFc _ h), hS, hsz1⟩
  generalize H1 = H at hC ⊢
  have h18 : z9h ≤ CS.hs p15.2 := Nat.le_trans h0 mo16
  refine W.widen (k := CS.hs p15.2 - z9h) (n := 17 * (CS.hs p15.2 - z9h)) (cAcc2 h0 mo16) (cAcc3 h0 mo16) ?_
  refine lv_iconst (v := 0) hx hb dX1_conjunction_73 (by decide) ?_
  obtain rfl := Option.some.inj hf
  exact W.zret (v := 0) hx hb hr (rfl) (fun t ht hW => ⟨⟨0, (), rfl, rfl, ⟨by rw [ht]; exact hC.1, va_K.moved hW.alike hK, hC.2.1⟩, by rw [ht]; exact hC.2.2.2⟩, hC.2.2.1.F ht⟩) hC.2.2.1.2.2 dX1_conjunction_74
set_option maxHeartbeats 4000000 in
set_option maxRecDepth 100000 in
theorem j_X1_conjunction_27 {p : Program} {e : Env} {s : State} {m : MethodId} {args : Array Value} {below : List Frame} {meth : Method} {c : Code} {A : Nat → Prop} (l : Launch) (dC : Nat → ClassId) (dI : Nat → Nat → Nat) (Q : CQ) (N : Nat) (d : Nat) (E1 : CS → Option (Unit × CS)) (E2 : CS → Option (Int32 × CS)) (hE1 : cMF l dC dI Q d E1) (hE2 : cMO l dC dI Q d E2) (hm1 : ∀ σ, Mono (CS.hs σ) (E1 σ)) (hm2 : ∀ σ, Mono (CS.hs σ) (E2 σ)) (z9h : Nat) (R : Int32 × CS) (hx : p.tables.exec = Jvm.exec) (hb : c.code = cX1_conjunction) (hr : meth.sig.returnType = (some .boolean)) (hml : c.maxLocals = 4) (hown : s.vm.findClass RX1 = some m.cls) (hts : ∀ w ∈ wzX1_conjunction, w.before args s = true) (hlocks : meth.locks = false) (hZ : zAMB s) (hA : ∀ q : Nat, s.heap.size ≤ q → A q) (hK : va_K (dC, dI) vwCl (cT Q) s) : ∀ (n9 : Nat), ∀ (σ : CS) (x2 : Int32) (x3 : Int32) (H : Heap) (locs : List Loc) (ls : Array Slot), f_X1_conjunction_27 N E1 E2 n9 σ x2 x3 = some R → z9h ≤ CS.hs σ → CP dC dI Q A s.heap σ H locs → lv_has ls 4 [(0, .ref (Q.o 3)), (2, .int x2), (3, .int x3)] → W p l e ({ frames := (11 + 40 * d), cells := CS.hs R.2 - z9h, slots := 17 * (CS.hs R.2 - z9h), locals := 60 * (11 + 40 * d) }) s m args below meth c H locs (CS.hs σ - z9h) (17 * (CS.hs σ - z9h)) (MQ below (va_Qi (fun (r : Int32) (_ : Unit) => r = R.1) (fun (_ : Unit) (t : State) => zPost dC dI A (cW Q R.2) (cT Q) t ∧ t.heap.size = CS.hs R.2) A) args s (CS.hs R.2 - z9h) (17 * (CS.hs R.2 - z9h)) A) (F0 m 27 ls []) := by
  intro n9
  induction n9 with
  | zero => intro σ x2 x3 H locs ls hf; exact absurd hf (by intro q9; cases q9)
  | succ n9 ih =>
    intro σ x2 x3 H locs ls hf h0 hC hl
    replace hf : b_X1_conjunction_27 N E1 E2 (f_X1_conjunction_27 N E1 E2 n9) σ x2 x3 = some R := hf
    unfold b_X1_conjunction_27 at hf
    have hMK := fun (σ : CS) (x2 : Int32) (x3 : Int32) => m_X1_conjunction_27 N E1 E2 hm1 hm2 n9 σ x2 x3
    refine lv_iload_n hx hb dX1_conjunction_27 rfl (lv_at hl 2 rfl) ?_
    refine lv_sipush (v := 900) hx hb dX1_conjunction_28 (by decide) ?_
    refine lv_icmp_ge (tgt := 65) hx hb dX1_conjunction_31 (by decide) (fun c14 => ?_) (fun c14 => ?_)
    ·
      replace hf := (if_pos c14).symm.trans hf
      exact j_X1_conjunction_65 l dC dI Q N d E1 E2 hE1 hE2 hm1 hm2 z9h R hx hb hr hml hown hts hlocks hZ hA hK σ x2 _ _ _ hf h0 hC (lv_sub hl [0, 1] rfl)
    ·
      replace hf := (if_neg c14).symm.trans hf
      refine lv_aload_n hx hb dX1_conjunction_34 rfl (lv_at hl 0 rfl) ?_
      refine lv_sipush (v := 132) hx hb dX1_conjunction_35 (by decide) ?_
      obtain ⟨p19, hcp19, hf⟩ := hf_bind hf
      have mo20 : CS.hs σ ≤ CS.hs p19.2 := Mono.go hcp19 (m_X1_skip N σ 132)
      have hr9 : CS.hs p19.2 ≤ CS.hs R.2 := Mono.go hf (mono_ite (m_X1_conjunction_65 N E1 E2 hm1 hm2 p19.2 x2) (mono_bind (m_X0_add N p19.2 32 x2) (fun p24 => (mono_bind (hm2 p24.2) (fun p28 => (hMK p28.2 x2 (x3 + 1)))))))
      have hFc := cFree hC hA
      refine va_calli (va_runU (As := [.int 132]) (rest := []) ⟨hx, hb, hml, hown, hts⟩ (c_X1_skip l dC dI Q N σ 132 p19 hcp19) (va_cwU 1 hts hX1_conjunction_X1_skip_u130 rfl rfl rfl rfl (by decide +kernel) ⟨(show 4 + 1 ≤ (11 + 40 * d) by omega), (show 8 + (3 + 11) + 60 * 4 ≤ 60 * (11 + 40 * d) by omega)⟩) ⟨zPre.blind, va_recv hK hC.1 (ci := 6) (q0 := 3) rfl rfl, cPre_go hZ hK hC⟩ rfl rfl hl.1 rfl (lv_room (Nat.le_of_ble_eq_true rfl)) dX1_conjunction_38 (cAcc h0 mo20 hr9)) hC.2.2.1 (fun q _ h => hFc q h) hFc (fun r21 u9 t9 H1 locs ht hvm hw hB hz1 hk1 hS => ?_)
      obtain ⟨⟨hP, hK1, hD1⟩, hsz1⟩ := hB
      rw [ht] at hP hsz1
      have hC : CP dC dI Q A s.heap p19.2 H1 locs := ⟨hP, hD1.weaken (fun _ _ _ h => hFc _ h), hS, hsz1⟩
      generalize H1 = H at hC ⊢
      have h22 : z9h ≤ CS.hs p19.2 := Nat.le_trans h0 mo20
      refine W.widen (k := CS.hs p19.2 - z9h) (n := 17 * (CS.hs p19.2 - z9h)) (cAcc2 h0 mo20) (cAcc3 h0 mo20) ?_
      obtain rfl : r21 = p19.1 := hw
      refine lv_if_eq (tgt := 65) hx hb dX1_conjunction_41 (by decide) (fun c23 => ?_) (fun c23 => ?_)
      ·
        replace hf := (if_pos c23).symm.trans hf
        exact j_X1_conjunction_65 l dC dI Q N d E1 E2 hE1 hE2 hm1 hm2 z9h R hx hb hr hml hown hts hlocks hZ hA hK p19.2 x2 _ _ _ hf h22 hC (lv_sub hl [0, 1] rfl)
      ·
        replace hf := (if_neg c23).symm.trans hf
        refine lv_aload_n hx hb dX1_conjunction_44 rfl (lv_at hl 0 rfl) ?_
        refine cG_29 hx hb hts i_X1_conjunction_X7 hown hK hC (hts (.fieldLink RX1 22 "StatementRules2$Formulas" "code" "LStatementRules2$Code;") k_X1_conjunction_fieldLink_RX1_22_SR_Formulas_code_LSR_Code) (fun _ q9 => q9) dX1_conjunction_45 ?_
        refine lv_bipush (v := 32) hx hb dX1_conjunction_48 (by decide) ?_
        refine lv_iload_n hx hb dX1_conjunction_50 rfl (lv_at hl 1 rfl) ?_
        obtain ⟨p24, hcp24, hf⟩ := hf_bind hf
        have mo25 : CS.hs p19.2 ≤ CS.hs p24.2 := Mono.go hcp24 (m_X0_add N p19.2 32 x2)
        have hr9 : CS.hs p24.2 ≤ CS.hs R.2 := Mono.go hf (mono_bind (hm2 p24.2) (fun p28 => (hMK p28.2 x2 (x3 + 1))))
        have hFc := cFree hC hA
        refine va_callv (va_runV (As := [.int 32, .int x2]) (rest := []) ⟨hx, hb, hml, hown, hts⟩ (c_X0_add l dC dI Q N p19.2 32 x2 p24 hcp24) (cwV 2 hts hX1_conjunction_X0_add_v68 rfl rfl rfl (by decide +kernel) ⟨(show 2 + 1 ≤ (11 + 40 * d) by omega), (show 8 + (3 + 11) + 60 * 2 ≤ 60 * (11 + 40 * d) by omega)⟩) ⟨zPre.blind, va_recv hK hC.1 (ci := 0) (q0 := 2) rfl rfl, cPre_go hZ hK hC⟩ rfl rfl hl.1 rfl (lv_room (Nat.le_of_ble_eq_true rfl)) dX1_conjunction_51 (cAcc h22 mo25 hr9)) hC.2.2.1 (fun q _ h => hFc q h) hFc (fun u9 t9 H1 locs ht hvm hw hB hz1 hk1 hS => ?_)
        obtain ⟨⟨hP, hK1, hD1⟩, hsz1⟩ := hB
        rw [ht] at hP hsz1
        have hC : CP dC dI Q A s.heap p24.2 H1 locs := ⟨hP, hD1.weaken (fun _ _ _ h => hFc _ h), hS, hsz1⟩
        generalize H1 = H at hC ⊢
        have h27 : z9h ≤ CS.hs p24.2 := Nat.le_trans h22 mo25
        refine W.widen (k := CS.hs p24.2 - z9h) (n := 17 * (CS.hs p24.2 - z9h)) (cAcc2 h22 mo25) (cAcc3 h22 mo25) ?_
        refine lv_aload_n hx hb dX1_conjunction_54 rfl (lv_at hl 0 rfl) ?_
        obtain ⟨p28, hcp28, hf⟩ := hf_bind hf
        have mo29 : CS.hs p24.2 ≤ CS.hs p28.2 := Mono.go hcp28 (hm2 p24.2)
        have hr9 : CS.hs p28.2 ≤ CS.hs R.2 := Mono.go hf (hMK p28.2 x2 (x3 + 1))
        have hFc := cFree hC hA
        refine va_calli (va_runU (As := []) (rest := []) ⟨hx, hb, hml, hown, hts⟩ (hE2 p24.2 p28 hcp28) (va_cwU 0 hts hX1_conjunction_X1_one_u150 rfl rfl rfl rfl (by decide +kernel) ⟨(show (10 + 40 * d) + 1 ≤ (11 + 40 * d) by omega), (show 8 + (1 + 11) + 60 * (10 + 40 * d) ≤ 60 * (11 + 40 * d) by omega)⟩) ⟨zPre.blind, va_recv hK hC.1 (ci := 6) (q0 := 3) rfl rfl, cPre_go hZ hK hC⟩ rfl rfl hl.1 rfl (lv_room (Nat.le_of_ble_eq_true rfl)) dX1_conjunction_55 (cAcc h27 mo29 hr9)) hC.2.2.1 (fun q _ h => hFc q h) hFc (fun r30 u9 t9 H1 locs ht hvm hw hB hz1 hk1 hS => ?_)
        obtain ⟨⟨hP, hK1, hD1⟩, hsz1⟩ := hB
        rw [ht] at hP hsz1
        have hC : CP dC dI Q A s.heap p28.2 H1 locs := ⟨hP, hD1.weaken (fun _ _ _ h => hFc _ h), hS, hsz1⟩
        generalize H1 = H at hC ⊢
        have h31 : z9h ≤ CS.hs p28.2 := Nat.le_trans h27 mo29
        refine W.widen (k := CS.hs p28.2 - z9h) (n := 17 * (CS.hs p28.2 - z9h)) (cAcc2 h27 mo29) (cAcc3 h27 mo29) ?_
        obtain rfl : r30 = p28.1 := hw
        refine lv_pop hx hb dX1_conjunction_58 rfl ?_
        refine lv_iinc (v := (x3 + 1)) (lv' := [(3, .int (x3 + 1)), (0, .ref (Q.o 3)), (2, .int x2)]) hx hb dX1_conjunction_59 hl (k := 2) rfl rfl (by decide) rfl (fun ls hl => ?_)
        refine lv_goto (tgt := 27) hx hb dX1_conjunction_62 (by decide) ?_
        exact ih p28.2 x2 (x3 + 1) _ _ _ hf h31 hC (lv_sub hl [1, 2, 0] rfl)
set_option maxHeartbeats 4000000 in
set_option maxRecDepth 100000 in
theorem c_X1_conjunction (l : Launch) (dC : Nat → ClassId) (dI : Nat → Nat → Nat) (Q : CQ) (N : Nat) (d : Nat) (E1 : CS → Option (Unit × CS)) (E2 : CS → Option (Int32 × CS)) (hE1 : cMF l dC dI Q d E1) (hE2 : cMO l dC dI Q d E2) (hm1 : ∀ σ, Mono (CS.hs σ) (E1 σ)) (hm2 : ∀ σ, Mono (CS.hs σ) (E2 σ)) (σ : CS) (R : Int32 × CS) (hf : f_X1_conjunction N E1 E2 σ = some R) : Met l yX1_conjunction wzX1_conjunction ({ frames := (11 + 40 * d), cells := CS.hs R.2 - CS.hs σ, slots := 17 * (CS.hs R.2 - CS.hs σ), locals := 60 * (11 + 40 * d) }) (va_Pc [.ref (Q.o 3)] (zPre dC dI (CS.hs σ) (cW Q σ) (cT Q))) (va_Qi (fun (r : Int32) (_ : Unit) => r = R.1) (fun (_ : Unit) (t : State) => zPost dC dI (va_A (cW Q σ) (CS.hs σ)) (cW Q R.2) (cT Q) t ∧ t.heap.size = CS.hs R.2) (va_A (cW Q σ) (CS.hs σ))) (CS.hs R.2 - CS.hs σ) (17 * (CS.hs R.2 - CS.hs σ)) (va_A (cW Q σ) (CS.hs σ)) := by
  refine Met.ofW (cc := cX1_conjunction) (maxL := 4) (ret := (some .boolean)) (by decide) rfl ?_
  intro p e s m args below meth c s₁ B hml hv
  obtain ⟨rfl, hsz, hZ, hP, hK, hD0⟩ := hv
  have hx := B.exec
  have hb := B.bytes
  have hr := B.returns
  have hts := atoms_spec (ws := wzX1_conjunction) B.pre
  have hown : s.vm.findClass RX1 = some m.cls := findClass_of_methodNamed B.named
  have hlocks := B.notSynchronized
  have hD := hD0.self (sz := CS.hs σ)
  generalize hAe : va_A (cW Q σ) (CS.hs σ) = A at hD ⊢
  have hA : ∀ q : Nat, s.heap.size ≤ q → A q := fun q h => by rw [← hAe]; exact Or.inr (hsz ▸ h)
  have hC : CP dC dI Q A s.heap σ s.heap [] := ⟨hP, hD, va_S.rf, hsz⟩
  have h0 : CS.hs σ ≤ CS.hs σ := Nat.le_refl _
  have hl := lv_entry ([.ref (Q.o 3)]) (n := 4) (Nat.le_of_ble_eq_true rfl)
  rw [lg_entry_eq]
  generalize (lg_sl ([.ref (Q.o 3)]) ++ List.replicate (4 - (lg_sl ([.ref (Q.o 3)])).length) Slot.unset).toArray = ls at hl ⊢
  have hl : lv_has ls 4 [(0, .ref (Q.o 3))] := hl
  unfold f_X1_conjunction at hf
  refine W.widen (k := CS.hs σ - CS.hs σ) (n := 17 * (CS.hs σ - CS.hs σ)) (Nat.zero_le _) (Nat.zero_le _) ?_
  refine lv_aload_n hx hb dX1_conjunction_0 rfl (lv_at hl 0 rfl) ?_
  obtain ⟨p1, hcp1, hf⟩ := hf_bind hf
  have mo2 : CS.hs σ ≤ CS.hs p1.2 := Mono.go hcp1 (hm2 σ)
  have hr9 : CS.hs p1.2 ≤ CS.hs R.2 := Mono.go hf (mono_bind (m_X1_found N p1.2 132) (fun p5 => (mono_ite (mono_ite (mono_some (Nat.le_refl _)) mono_none) (mono_bind (m_X0_newTarget N p5.2) (fun p10 => (m_X1_conjunction_27 N E1 E2 hm1 hm2 N p10.2 p10.1 0))))))
  have hFc := cFree hC hA
  refine va_calli (va_runU (As := []) (rest := []) ⟨hx, hb, hml, hown, hts⟩ (hE2 σ p1 hcp1) (va_cwU 0 hts hX1_conjunction_X1_one_u150 rfl rfl rfl rfl (by decide +kernel) ⟨(show (10 + 40 * d) + 1 ≤ (11 + 40 * d) by omega), (show 8 + (1 + 11) + 60 * (10 + 40 * d) ≤ 60 * (11 + 40 * d) by omega)⟩) ⟨zPre.blind, va_recv hK hC.1 (ci := 6) (q0 := 3) rfl rfl, cPre_go hZ hK hC⟩ rfl rfl hl.1 rfl (lv_room (Nat.le_of_ble_eq_true rfl)) dX1_conjunction_1 (cAcc h0 mo2 hr9)) hC.2.2.1 (fun q _ h => hFc q h) hFc (fun r3 u9 t9 H1 locs ht hvm hw hB hz1 hk1 hS => ?_)
  obtain ⟨⟨hP, hK1, hD1⟩, hsz1⟩ := hB
  rw [ht] at hP hsz1
  have hC : CP dC dI Q A s.heap p1.2 H1 locs := ⟨hP, hD1.weaken (fun _ _ _ h => hFc _ h), hS, hsz1⟩
  generalize H1 = H at hC ⊢
  have h4 : (CS.hs σ) ≤ CS.hs p1.2 := Nat.le_trans h0 mo2
  refine W.widen (k := CS.hs p1.2 - (CS.hs σ)) (n := 17 * (CS.hs p1.2 - (CS.hs σ))) (cAcc2 h0 mo2) (cAcc3 h0 mo2) ?_
  obtain rfl : r3 = p1.1 := hw
  refine lv_istore_n (lv' := [(1, .int p1.1), (0, .ref (Q.o 3))]) hx hb dX1_conjunction_4 rfl hl (by decide) rfl (fun ls hl => ?_)
  refine lv_aload_n hx hb dX1_conjunction_5 rfl (lv_at hl 1 rfl) ?_
  refine lv_sipush (v := 132) hx hb dX1_conjunction_6 (by decide) ?_
  obtain ⟨p5, hcp5, hf⟩ := hf_bind hf
  have mo6 : CS.hs p1.2 ≤ CS.hs p5.2 := Mono.go hcp5 (m_X1_found N p1.2 132)
  have hr9 : CS.hs p5.2 ≤ CS.hs R.2 := Mono.go hf (mono_ite (mono_ite (mono_some (Nat.le_refl _)) mono_none) (mono_bind (m_X0_newTarget N p5.2) (fun p10 => (m_X1_conjunction_27 N E1 E2 hm1 hm2 N p10.2 p10.1 0))))
  have hFc := cFree hC hA
  refine va_calli (va_runU (As := [.int 132]) (rest := []) ⟨hx, hb, hml, hown, hts⟩ (c_X1_found l dC dI Q N p1.2 132 p5 hcp5) (va_cwU 1 hts hX1_conjunction_X1_found_u42 rfl rfl rfl rfl (by decide +kernel) ⟨(show 1 + 1 ≤ (11 + 40 * d) by omega), (show 8 + (2 + 11) + 60 * 1 ≤ 60 * (11 + 40 * d) by omega)⟩) ⟨zPre.blind, va_recv hK hC.1 (ci := 6) (q0 := 3) rfl rfl, cPre_go hZ hK hC⟩ rfl rfl hl.1 rfl (lv_room (Nat.le_of_ble_eq_true rfl)) dX1_conjunction_9 (cAcc h4 mo6 hr9)) hC.2.2.1 (fun q _ h => hFc q h) hFc (fun r7 u9 t9 H1 locs ht hvm hw hB hz1 hk1 hS => ?_)
  obtain ⟨⟨hP, hK1, hD1⟩, hsz1⟩ := hB
  rw [ht] at hP hsz1
  have hC : CP dC dI Q A s.heap p5.2 H1 locs := ⟨hP, hD1.weaken (fun _ _ _ h => hFc _ h), hS, hsz1⟩
  generalize H1 = H at hC ⊢
  have h8 : (CS.hs σ) ≤ CS.hs p5.2 := Nat.le_trans h4 mo6
  refine W.widen (k := CS.hs p5.2 - (CS.hs σ)) (n := 17 * (CS.hs p5.2 - (CS.hs σ))) (cAcc2 h4 mo6) (cAcc3 h4 mo6) ?_
  obtain rfl : r7 = p5.1 := hw
  refine lv_if_ne (tgt := 17) hx hb dX1_conjunction_12 (by decide) (fun c9 => ?_) (fun c9 => ?_)
  ·
    replace hf := (if_neg c9).symm.trans hf
    refine lv_aload_n hx hb dX1_conjunction_17 rfl (lv_at hl 1 rfl) ?_
    refine cG_29 hx hb hts i_X1_conjunction_X7 hown hK hC (hts (.fieldLink RX1 22 "StatementRules2$Formulas" "code" "LStatementRules2$Code;") k_X1_conjunction_fieldLink_RX1_22_SR_Formulas_code_LSR_Code) (fun _ q9 => q9) dX1_conjunction_18 ?_
    obtain ⟨p10, hcp10, hf⟩ := hf_bind hf
    have mo11 : CS.hs p5.2 ≤ CS.hs p10.2 := Mono.go hcp10 (m_X0_newTarget N p5.2)
    have hr9 : CS.hs p10.2 ≤ CS.hs R.2 := Mono.go hf (m_X1_conjunction_27 N E1 E2 hm1 hm2 N p10.2 p10.1 0)
    have hFc := cFree hC hA
    refine va_calli (va_runV (As := []) (rest := []) ⟨hx, hb, hml, hown, hts⟩ (c_X0_newTarget l dC dI Q N p5.2 p10 hcp10) (cwV 0 hts hX1_conjunction_X0_newTarget_v110 rfl rfl rfl (by decide +kernel) ⟨(show 2 + 1 ≤ (11 + 40 * d) by omega), (show 8 + (1 + 11) + 60 * 2 ≤ 60 * (11 + 40 * d) by omega)⟩) ⟨zPre.blind, va_recv hK hC.1 (ci := 0) (q0 := 2) rfl rfl, cPre_go hZ hK hC⟩ rfl rfl hl.1 rfl (lv_room (Nat.le_of_ble_eq_true rfl)) dX1_conjunction_21 (cAcc h8 mo11 hr9)) hC.2.2.1 (fun q _ h => hFc q h) hFc (fun r12 u9 t9 H1 locs ht hvm hw hB hz1 hk1 hS => ?_)
    obtain ⟨⟨hP, hK1, hD1⟩, hsz1⟩ := hB
    rw [ht] at hP hsz1
    have hC : CP dC dI Q A s.heap p10.2 H1 locs := ⟨hP, hD1.weaken (fun _ _ _ h => hFc _ h), hS, hsz1⟩
    generalize H1 = H at hC ⊢
    have h13 : (CS.hs σ) ≤ CS.hs p10.2 := Nat.le_trans h8 mo11
    refine W.widen (k := CS.hs p10.2 - (CS.hs σ)) (n := 17 * (CS.hs p10.2 - (CS.hs σ))) (cAcc2 h8 mo11) (cAcc3 h8 mo11) ?_
    obtain rfl : r12 = p10.1 := hw
    refine lv_istore_n (lv' := [(2, .int p10.1), (1, .int p1.1), (0, .ref (Q.o 3))]) hx hb dX1_conjunction_24 rfl hl (by decide) rfl (fun ls hl => ?_)
    refine lv_iconst (v := 0) hx hb dX1_conjunction_25 (by decide) ?_
    refine lv_istore_n (lv' := [(3, .int 0), (2, .int p10.1), (1, .int p1.1), (0, .ref (Q.o 3))]) hx hb dX1_conjunction_26 rfl hl (by decide) rfl (fun ls hl => ?_)
    exact j_X1_conjunction_27 l dC dI Q N d E1 E2 hE1 hE2 hm1 hm2 (CS.hs σ) R hx hb hr hml hown hts hlocks hZ hA hK N p10.2 p10.1 0 _ _ _ hf h13 hC (lv_sub hl [3, 1, 0] rfl)
  ·
    replace hf := (if_pos c9).symm.trans hf
    refine lv_iload_n hx hb dX1_conjunction_15 rfl (lv_at hl 0 rfl) ?_
    obtain ⟨b32, hf⟩ := hf_ite hf
    obtain rfl := Option.some.inj hf
    exact W.zret (v := p1.1) hx hb hr (z_nar b32) (fun t ht hW => ⟨⟨p1.1, (), rfl, rfl, ⟨by rw [ht]; exact hC.1, va_K.moved hW.alike hK, hC.2.1⟩, by rw [ht]; exact hC.2.2.2⟩, hC.2.2.1.F ht⟩) hC.2.2.1.2.2 dX1_conjunction_16
end
section
theorem k_X1_condition_fieldLink_RX1_22_SR_Formulas_code_LSR_Code : Cond.fieldLink RX1 22 "StatementRules2$Formulas" "code" "LStatementRules2$Code;" ∈ wzX1_condition := List.mem_cons_of_mem _ (List.mem_append_right _ (List.mem_append_right _ (List.mem_append_right _ (List.mem_append_right _ (List.mem_append_left _ (List.mem_of_getElem? (i := 0) rfl))))))
theorem i_X1_condition_X7 : ∀ w ∈ wsX70, w ∈ wzX1_condition := fun _ h => List.mem_cons_of_mem _ (List.mem_append_right _ (List.mem_append_right _ (List.mem_append_right _ (List.mem_append_right _ (List.mem_append_right _ (List.mem_append_right _ (List.mem_append_right _ (List.mem_append_right _ (List.mem_append_right _ (List.mem_append_right _ (List.mem_append_right _ (List.mem_append_right _ (List.mem_append_right _ (List.mem_append_right _ (List.mem_append_right _ (List.mem_append_right _ (List.mem_append_right _ (List.mem_append_right _ (List.mem_append_right _ (List.mem_append_right _ (List.mem_append_right _ (List.mem_append_right _ (List.mem_append_right _ (List.mem_append_right _ (List.mem_append_right _ (List.mem_append_right _ (List.mem_append_right _ (List.mem_append_right _ (List.mem_append_right _ (List.mem_append_right _ (List.mem_append_right _ (List.mem_append_right _ (List.mem_append_right _ (List.mem_append_right _ (List.mem_append_right _ (List.mem_append_right _ (List.mem_append_left _ (h))))))))))))))))))))))))))))))))))))))
set_option maxHeartbeats 4000000 in
set_option maxRecDepth 100000 in
theorem j_X1_condition_65 {p : Program} {e : Env} {s : State} {m : MethodId} {args : Array Value} {below : List Frame} {meth : Method} {c : Code} {A : Nat → Prop} (l : Launch) (dC : Nat → ClassId) (dI : Nat → Nat → Nat) (Q : CQ) (N : Nat) (d : Nat) (E1 : CS → Option (Unit × CS)) (E2 : CS → Option (Int32 × CS)) (hE1 : cMF l dC dI Q d E1) (hE2 : cMO l dC dI Q d E2) (hm1 : ∀ σ, Mono (CS.hs σ) (E1 σ)) (hm2 : ∀ σ, Mono (CS.hs σ) (E2 σ)) (z9h : Nat) (R : Int32 × CS) (hx : p.tables.exec = Jvm.exec) (hb : c.code = cX1_condition) (hr : meth.sig.returnType = (some .boolean)) (hml : c.maxLocals = 4) (hown : s.vm.findClass RX1 = some m.cls) (hts : ∀ w ∈ wzX1_condition, w.before args s = true) (hlocks : meth.locks = false) (hZ : zAMB s) (hA : ∀ q : Nat, s.heap.size ≤ q → A q) (hK : va_K (dC, dI) vwCl (cT Q) s) : ∀ (σ : CS) (x2 : Int32) (H : Heap) (locs : List Loc) (ls : Array Slot), f_X1_condition_65 N E1 E2 σ x2 = some R → z9h ≤ CS.hs σ → CP dC dI Q A s.heap σ H locs → lv_has ls 4 [(0, .ref (Q.o 3)), (2, .int x2)] → W p l e ({ frames := (12 + 40 * d), cells := CS.hs R.2 - z9h, slots := 17 * (CS.hs R.2 - z9h), locals := 60 * (12 + 40 * d) }) s m args below meth c H locs (CS.hs σ - z9h) (17 * (CS.hs σ - z9h)) (MQ below (va_Qi (fun (r : Int32) (_ : Unit) => r = R.1) (fun (_ : Unit) (t : State) => zPost dC dI A (cW Q R.2) (cT Q) t ∧ t.heap.size = CS.hs R.2) A) args s (CS.hs R.2 - z9h) (17 * (CS.hs R.2 - z9h)) A) (F0 m 65 ls []) := by
  intro σ x2 H locs ls hf h0 hC hl
  unfold f_X1_condition_65 at hf
  refine lv_aload_n hx hb dX1_condition_65 rfl (lv_at hl 0 rfl) ?_
  refine cG_29 hx hb hts i_X1_condition_X7 hown hK hC (hts (.fieldLink RX1 22 "StatementRules2$Formulas" "code" "LStatementRules2$Code;") k_X1_condition_fieldLink_RX1_22_SR_Formulas_code_LSR_Code) (fun _ q9 => q9) dX1_condition_66 ?_
  refine lv_iload_n hx hb dX1_condition_69 rfl (lv_at hl 1 rfl) ?_
  obtain ⟨p15, hcp15, hf⟩ := hf_bind hf
  have mo16 : CS.hs σ ≤ CS.hs p15.2 := Mono.go hcp15 (m_X0_aim N σ x2)
  have hr9 : CS.hs p15.2 ≤ CS.hs R.2 := Mono.go hf (mono_some (Nat.le_refl _))
  have hFc := cFree hC hA
  refine va_callv (va_runV (As := [.int x2]) (rest := []) ⟨hx, hb, hml, hown, hts⟩ (c_X0_aim l dC dI Q N σ x2 p15 hcp15) (cwV 1 hts hX1_condition_X0_aim_v121 rfl rfl rfl (by decide +kernel) ⟨(show 2 + 1 ≤ (12 + 40 * d) by omega), (show 8 + (2 + 11) + 60 * 2 ≤ 60 * (12 + 40 * d) by omega)⟩) ⟨zPre.blind, va_recv hK hC.1 (ci := 0) (q0 := 2) rfl rfl, cPre_go hZ hK hC⟩ rfl rfl hl.1 rfl (lv_room (Nat.le_of_ble_eq_true rfl)) dX1_condition_70 (cAcc h0 mo16 hr9)) hC.2.2.1 (fun q _ h => hFc q h) hFc (fun u9 t9 H1 locs ht hvm hw hB hz1 hk1 hS => ?_)
  obtain ⟨⟨hP, hK1, hD1⟩, hsz1⟩ := hB
  rw [ht] at hP hsz1
  have hC : CP dC dI Q A s.heap p15.2 H1 locs := ⟨hP, hD1.weaken (fun _ _ _ h => hFc _ h), hS, hsz1⟩
  generalize H1 = H at hC ⊢
  have h18 : z9h ≤ CS.hs p15.2 := Nat.le_trans h0 mo16
  refine W.widen (k := CS.hs p15.2 - z9h) (n := 17 * (CS.hs p15.2 - z9h)) (cAcc2 h0 mo16) (cAcc3 h0 mo16) ?_
  refine lv_iconst (v := 0) hx hb dX1_condition_73 (by decide) ?_
  obtain rfl := Option.some.inj hf
  exact W.zret (v := 0) hx hb hr (rfl) (fun t ht hW => ⟨⟨0, (), rfl, rfl, ⟨by rw [ht]; exact hC.1, va_K.moved hW.alike hK, hC.2.1⟩, by rw [ht]; exact hC.2.2.2⟩, hC.2.2.1.F ht⟩) hC.2.2.1.2.2 dX1_condition_74
set_option maxHeartbeats 4000000 in
set_option maxRecDepth 100000 in
theorem j_X1_condition_27 {p : Program} {e : Env} {s : State} {m : MethodId} {args : Array Value} {below : List Frame} {meth : Method} {c : Code} {A : Nat → Prop} (l : Launch) (dC : Nat → ClassId) (dI : Nat → Nat → Nat) (Q : CQ) (N : Nat) (d : Nat) (E1 : CS → Option (Unit × CS)) (E2 : CS → Option (Int32 × CS)) (hE1 : cMF l dC dI Q d E1) (hE2 : cMO l dC dI Q d E2) (hm1 : ∀ σ, Mono (CS.hs σ) (E1 σ)) (hm2 : ∀ σ, Mono (CS.hs σ) (E2 σ)) (z9h : Nat) (R : Int32 × CS) (hx : p.tables.exec = Jvm.exec) (hb : c.code = cX1_condition) (hr : meth.sig.returnType = (some .boolean)) (hml : c.maxLocals = 4) (hown : s.vm.findClass RX1 = some m.cls) (hts : ∀ w ∈ wzX1_condition, w.before args s = true) (hlocks : meth.locks = false) (hZ : zAMB s) (hA : ∀ q : Nat, s.heap.size ≤ q → A q) (hK : va_K (dC, dI) vwCl (cT Q) s) : ∀ (n9 : Nat), ∀ (σ : CS) (x2 : Int32) (x3 : Int32) (H : Heap) (locs : List Loc) (ls : Array Slot), f_X1_condition_27 N E1 E2 n9 σ x2 x3 = some R → z9h ≤ CS.hs σ → CP dC dI Q A s.heap σ H locs → lv_has ls 4 [(0, .ref (Q.o 3)), (2, .int x2), (3, .int x3)] → W p l e ({ frames := (12 + 40 * d), cells := CS.hs R.2 - z9h, slots := 17 * (CS.hs R.2 - z9h), locals := 60 * (12 + 40 * d) }) s m args below meth c H locs (CS.hs σ - z9h) (17 * (CS.hs σ - z9h)) (MQ below (va_Qi (fun (r : Int32) (_ : Unit) => r = R.1) (fun (_ : Unit) (t : State) => zPost dC dI A (cW Q R.2) (cT Q) t ∧ t.heap.size = CS.hs R.2) A) args s (CS.hs R.2 - z9h) (17 * (CS.hs R.2 - z9h)) A) (F0 m 27 ls []) := by
  intro n9
  induction n9 with
  | zero => intro σ x2 x3 H locs ls hf; exact absurd hf (by intro q9; cases q9)
  | succ n9 ih =>
    intro σ x2 x3 H locs ls hf h0 hC hl
    replace hf : b_X1_condition_27 N E1 E2 (f_X1_condition_27 N E1 E2 n9) σ x2 x3 = some R := hf
    unfold b_X1_condition_27 at hf
    have hMK := fun (σ : CS) (x2 : Int32) (x3 : Int32) => m_X1_condition_27 N E1 E2 hm1 hm2 n9 σ x2 x3
    refine lv_iload_n hx hb dX1_condition_27 rfl (lv_at hl 2 rfl) ?_
    refine lv_sipush (v := 900) hx hb dX1_condition_28 (by decide) ?_
    refine lv_icmp_ge (tgt := 65) hx hb dX1_condition_31 (by decide) (fun c14 => ?_) (fun c14 => ?_)
    ·
      replace hf := (if_pos c14).symm.trans hf
      exact j_X1_condition_65 l dC dI Q N d E1 E2 hE1 hE2 hm1 hm2 z9h R hx hb hr hml hown hts hlocks hZ hA hK σ x2 _ _ _ hf h0 hC (lv_sub hl [0, 1] rfl)
    ·
      replace hf := (if_neg c14).symm.trans hf
      refine lv_aload_n hx hb dX1_condition_34 rfl (lv_at hl 0 rfl) ?_
      refine lv_sipush (v := 133) hx hb dX1_condition_35 (by decide) ?_
      obtain ⟨p19, hcp19, hf⟩ := hf_bind hf
      have mo20 : CS.hs σ ≤ CS.hs p19.2 := Mono.go hcp19 (m_X1_skip N σ 133)
      have hr9 : CS.hs p19.2 ≤ CS.hs R.2 := Mono.go hf (mono_ite (m_X1_condition_65 N E1 E2 hm1 hm2 p19.2 x2) (mono_bind (m_X0_add N p19.2 33 x2) (fun p24 => (mono_bind (m_X1_conjunction N E1 E2 hm1 hm2 p24.2) (fun p28 => (hMK p28.2 x2 (x3 + 1)))))))
      have hFc := cFree hC hA
      refine va_calli (va_runU (As := [.int 133]) (rest := []) ⟨hx, hb, hml, hown, hts⟩ (c_X1_skip l dC dI Q N σ 133 p19 hcp19) (va_cwU 1 hts hX1_condition_X1_skip_u130 rfl rfl rfl rfl (by decide +kernel) ⟨(show 4 + 1 ≤ (12 + 40 * d) by omega), (show 8 + (3 + 11) + 60 * 4 ≤ 60 * (12 + 40 * d) by omega)⟩) ⟨zPre.blind, va_recv hK hC.1 (ci := 6) (q0 := 3) rfl rfl, cPre_go hZ hK hC⟩ rfl rfl hl.1 rfl (lv_room (Nat.le_of_ble_eq_true rfl)) dX1_condition_38 (cAcc h0 mo20 hr9)) hC.2.2.1 (fun q _ h => hFc q h) hFc (fun r21 u9 t9 H1 locs ht hvm hw hB hz1 hk1 hS => ?_)
      obtain ⟨⟨hP, hK1, hD1⟩, hsz1⟩ := hB
      rw [ht] at hP hsz1
      have hC : CP dC dI Q A s.heap p19.2 H1 locs := ⟨hP, hD1.weaken (fun _ _ _ h => hFc _ h), hS, hsz1⟩
      generalize H1 = H at hC ⊢
      have h22 : z9h ≤ CS.hs p19.2 := Nat.le_trans h0 mo20
      refine W.widen (k := CS.hs p19.2 - z9h) (n := 17 * (CS.hs p19.2 - z9h)) (cAcc2 h0 mo20) (cAcc3 h0 mo20) ?_
      obtain rfl : r21 = p19.1 := hw
      refine lv_if_eq (tgt := 65) hx hb dX1_condition_41 (by decide) (fun c23 => ?_) (fun c23 => ?_)
      ·
        replace hf := (if_pos c23).symm.trans hf
        exact j_X1_condition_65 l dC dI Q N d E1 E2 hE1 hE2 hm1 hm2 z9h R hx hb hr hml hown hts hlocks hZ hA hK p19.2 x2 _ _ _ hf h22 hC (lv_sub hl [0, 1] rfl)
      ·
        replace hf := (if_neg c23).symm.trans hf
        refine lv_aload_n hx hb dX1_condition_44 rfl (lv_at hl 0 rfl) ?_
        refine cG_29 hx hb hts i_X1_condition_X7 hown hK hC (hts (.fieldLink RX1 22 "StatementRules2$Formulas" "code" "LStatementRules2$Code;") k_X1_condition_fieldLink_RX1_22_SR_Formulas_code_LSR_Code) (fun _ q9 => q9) dX1_condition_45 ?_
        refine lv_bipush (v := 33) hx hb dX1_condition_48 (by decide) ?_
        refine lv_iload_n hx hb dX1_condition_50 rfl (lv_at hl 1 rfl) ?_
        obtain ⟨p24, hcp24, hf⟩ := hf_bind hf
        have mo25 : CS.hs p19.2 ≤ CS.hs p24.2 := Mono.go hcp24 (m_X0_add N p19.2 33 x2)
        have hr9 : CS.hs p24.2 ≤ CS.hs R.2 := Mono.go hf (mono_bind (m_X1_conjunction N E1 E2 hm1 hm2 p24.2) (fun p28 => (hMK p28.2 x2 (x3 + 1))))
        have hFc := cFree hC hA
        refine va_callv (va_runV (As := [.int 33, .int x2]) (rest := []) ⟨hx, hb, hml, hown, hts⟩ (c_X0_add l dC dI Q N p19.2 33 x2 p24 hcp24) (cwV 2 hts hX1_condition_X0_add_v68 rfl rfl rfl (by decide +kernel) ⟨(show 2 + 1 ≤ (12 + 40 * d) by omega), (show 8 + (3 + 11) + 60 * 2 ≤ 60 * (12 + 40 * d) by omega)⟩) ⟨zPre.blind, va_recv hK hC.1 (ci := 0) (q0 := 2) rfl rfl, cPre_go hZ hK hC⟩ rfl rfl hl.1 rfl (lv_room (Nat.le_of_ble_eq_true rfl)) dX1_condition_51 (cAcc h22 mo25 hr9)) hC.2.2.1 (fun q _ h => hFc q h) hFc (fun u9 t9 H1 locs ht hvm hw hB hz1 hk1 hS => ?_)
        obtain ⟨⟨hP, hK1, hD1⟩, hsz1⟩ := hB
        rw [ht] at hP hsz1
        have hC : CP dC dI Q A s.heap p24.2 H1 locs := ⟨hP, hD1.weaken (fun _ _ _ h => hFc _ h), hS, hsz1⟩
        generalize H1 = H at hC ⊢
        have h27 : z9h ≤ CS.hs p24.2 := Nat.le_trans h22 mo25
        refine W.widen (k := CS.hs p24.2 - z9h) (n := 17 * (CS.hs p24.2 - z9h)) (cAcc2 h22 mo25) (cAcc3 h22 mo25) ?_
        refine lv_aload_n hx hb dX1_condition_54 rfl (lv_at hl 0 rfl) ?_
        obtain ⟨p28, hcp28, hf⟩ := hf_bind hf
        have mo29 : CS.hs p24.2 ≤ CS.hs p28.2 := Mono.go hcp28 (m_X1_conjunction N E1 E2 hm1 hm2 p24.2)
        have hr9 : CS.hs p28.2 ≤ CS.hs R.2 := Mono.go hf (hMK p28.2 x2 (x3 + 1))
        have hFc := cFree hC hA
        refine va_calli (va_runU (As := []) (rest := []) ⟨hx, hb, hml, hown, hts⟩ (c_X1_conjunction l dC dI Q N d E1 E2 hE1 hE2 hm1 hm2 p24.2 p28 hcp28) (va_cwU 0 hts hX1_condition_X1_conjunction_u146 rfl rfl rfl rfl (by decide +kernel) ⟨(show (11 + 40 * d) + 1 ≤ (12 + 40 * d) by omega), (show 8 + (4 + 11) + 60 * (11 + 40 * d) ≤ 60 * (12 + 40 * d) by omega)⟩) ⟨zPre.blind, va_recv hK hC.1 (ci := 6) (q0 := 3) rfl rfl, cPre_go hZ hK hC⟩ rfl rfl hl.1 rfl (lv_room (Nat.le_of_ble_eq_true rfl)) dX1_condition_55 (cAcc h27 mo29 hr9)) hC.2.2.1 (fun q _ h => hFc q h) hFc (fun r30 u9 t9 H1 locs ht hvm hw hB hz1 hk1 hS => ?_)
        obtain ⟨⟨hP, hK1, hD1⟩, hsz1⟩ := hB
        rw [ht] at hP hsz1
        have hC : CP dC dI Q A s.heap p28.2 H1 locs := ⟨hP, hD1.weaken (fun _ _ _ h => hFc _ h), hS, hsz1⟩
        generalize H1 = H at hC ⊢
        have h31 : z9h ≤ CS.hs p28.2 := Nat.le_trans h27 mo29
        refine W.widen (k := CS.hs p28.2 - z9h) (n := 17 * (CS.hs p28.2 - z9h)) (cAcc2 h27 mo29) (cAcc3 h27 mo29) ?_
        obtain rfl : r30 = p28.1 := hw
        refine lv_pop hx hb dX1_condition_58 rfl ?_
        refine lv_iinc (v := (x3 + 1)) (lv' := [(3, .int (x3 + 1)), (0, .ref (Q.o 3)), (2, .int x2)]) hx hb dX1_condition_59 hl (k := 2) rfl rfl (by decide) rfl (fun ls hl => ?_)
        refine lv_goto (tgt := 27) hx hb dX1_condition_62 (by decide) ?_
        exact ih p28.2 x2 (x3 + 1) _ _ _ hf h31 hC (lv_sub hl [1, 2, 0] rfl)
set_option maxHeartbeats 4000000 in
set_option maxRecDepth 100000 in
theorem c_X1_condition (l : Launch) (dC : Nat → ClassId) (dI : Nat → Nat → Nat) (Q : CQ) (N : Nat) (d : Nat) (E1 : CS → Option (Unit × CS)) (E2 : CS → Option (Int32 × CS)) (hE1 : cMF l dC dI Q d E1) (hE2 : cMO l dC dI Q d E2) (hm1 : ∀ σ, Mono (CS.hs σ) (E1 σ)) (hm2 : ∀ σ, Mono (CS.hs σ) (E2 σ)) (σ : CS) (R : Int32 × CS) (hf : f_X1_condition N E1 E2 σ = some R) : Met l yX1_condition wzX1_condition ({ frames := (12 + 40 * d), cells := CS.hs R.2 - CS.hs σ, slots := 17 * (CS.hs R.2 - CS.hs σ), locals := 60 * (12 + 40 * d) }) (va_Pc [.ref (Q.o 3)] (zPre dC dI (CS.hs σ) (cW Q σ) (cT Q))) (va_Qi (fun (r : Int32) (_ : Unit) => r = R.1) (fun (_ : Unit) (t : State) => zPost dC dI (va_A (cW Q σ) (CS.hs σ)) (cW Q R.2) (cT Q) t ∧ t.heap.size = CS.hs R.2) (va_A (cW Q σ) (CS.hs σ))) (CS.hs R.2 - CS.hs σ) (17 * (CS.hs R.2 - CS.hs σ)) (va_A (cW Q σ) (CS.hs σ)) := by
  refine Met.ofW (cc := cX1_condition) (maxL := 4) (ret := (some .boolean)) (by decide) rfl ?_
  intro p e s m args below meth c s₁ B hml hv
  obtain ⟨rfl, hsz, hZ, hP, hK, hD0⟩ := hv
  have hx := B.exec
  have hb := B.bytes
  have hr := B.returns
  have hts := atoms_spec (ws := wzX1_condition) B.pre
  have hown : s.vm.findClass RX1 = some m.cls := findClass_of_methodNamed B.named
  have hlocks := B.notSynchronized
  have hD := hD0.self (sz := CS.hs σ)
  generalize hAe : va_A (cW Q σ) (CS.hs σ) = A at hD ⊢
  have hA : ∀ q : Nat, s.heap.size ≤ q → A q := fun q h => by rw [← hAe]; exact Or.inr (hsz ▸ h)
  have hC : CP dC dI Q A s.heap σ s.heap [] := ⟨hP, hD, va_S.rf, hsz⟩
  have h0 : CS.hs σ ≤ CS.hs σ := Nat.le_refl _
  have hl := lv_entry ([.ref (Q.o 3)]) (n := 4) (Nat.le_of_ble_eq_true rfl)
  rw [lg_entry_eq]
  generalize (lg_sl ([.ref (Q.o 3)]) ++ List.replicate (4 - (lg_sl ([.ref (Q.o 3)])).length) Slot.unset).toArray = ls at hl ⊢
  have hl : lv_has ls 4 [(0, .ref (Q.o 3))] := hl
  unfold f_X1_condition at hf
  refine W.widen (k := CS.hs σ - CS.hs σ) (n := 17 * (CS.hs σ - CS.hs σ)) (Nat.zero_le _) (Nat.zero_le _) ?_
  refine lv_aload_n hx hb dX1_condition_0 rfl (lv_at hl 0 rfl) ?_
  obtain ⟨p1, hcp1, hf⟩ := hf_bind hf
  have mo2 : CS.hs σ ≤ CS.hs p1.2 := Mono.go hcp1 (m_X1_conjunction N E1 E2 hm1 hm2 σ)
  have hr9 : CS.hs p1.2 ≤ CS.hs R.2 := Mono.go hf (mono_bind (m_X1_found N p1.2 133) (fun p5 => (mono_ite (mono_ite (mono_some (Nat.le_refl _)) mono_none) (mono_bind (m_X0_newTarget N p5.2) (fun p10 => (m_X1_condition_27 N E1 E2 hm1 hm2 N p10.2 p10.1 0))))))
  have hFc := cFree hC hA
  refine va_calli (va_runU (As := []) (rest := []) ⟨hx, hb, hml, hown, hts⟩ (c_X1_conjunction l dC dI Q N d E1 E2 hE1 hE2 hm1 hm2 σ p1 hcp1) (va_cwU 0 hts hX1_condition_X1_conjunction_u146 rfl rfl rfl rfl (by decide +kernel) ⟨(show (11 + 40 * d) + 1 ≤ (12 + 40 * d) by omega), (show 8 + (4 + 11) + 60 * (11 + 40 * d) ≤ 60 * (12 + 40 * d) by omega)⟩) ⟨zPre.blind, va_recv hK hC.1 (ci := 6) (q0 := 3) rfl rfl, cPre_go hZ hK hC⟩ rfl rfl hl.1 rfl (lv_room (Nat.le_of_ble_eq_true rfl)) dX1_condition_1 (cAcc h0 mo2 hr9)) hC.2.2.1 (fun q _ h => hFc q h) hFc (fun r3 u9 t9 H1 locs ht hvm hw hB hz1 hk1 hS => ?_)
  obtain ⟨⟨hP, hK1, hD1⟩, hsz1⟩ := hB
  rw [ht] at hP hsz1
  have hC : CP dC dI Q A s.heap p1.2 H1 locs := ⟨hP, hD1.weaken (fun _ _ _ h => hFc _ h), hS, hsz1⟩
  generalize H1 = H at hC ⊢
  have h4 : (CS.hs σ) ≤ CS.hs p1.2 := Nat.le_trans h0 mo2
  refine W.widen (k := CS.hs p1.2 - (CS.hs σ)) (n := 17 * (CS.hs p1.2 - (CS.hs σ))) (cAcc2 h0 mo2) (cAcc3 h0 mo2) ?_
  obtain rfl : r3 = p1.1 := hw
  refine lv_istore_n (lv' := [(1, .int p1.1), (0, .ref (Q.o 3))]) hx hb dX1_condition_4 rfl hl (by decide) rfl (fun ls hl => ?_)
  refine lv_aload_n hx hb dX1_condition_5 rfl (lv_at hl 1 rfl) ?_
  refine lv_sipush (v := 133) hx hb dX1_condition_6 (by decide) ?_
  obtain ⟨p5, hcp5, hf⟩ := hf_bind hf
  have mo6 : CS.hs p1.2 ≤ CS.hs p5.2 := Mono.go hcp5 (m_X1_found N p1.2 133)
  have hr9 : CS.hs p5.2 ≤ CS.hs R.2 := Mono.go hf (mono_ite (mono_ite (mono_some (Nat.le_refl _)) mono_none) (mono_bind (m_X0_newTarget N p5.2) (fun p10 => (m_X1_condition_27 N E1 E2 hm1 hm2 N p10.2 p10.1 0))))
  have hFc := cFree hC hA
  refine va_calli (va_runU (As := [.int 133]) (rest := []) ⟨hx, hb, hml, hown, hts⟩ (c_X1_found l dC dI Q N p1.2 133 p5 hcp5) (va_cwU 1 hts hX1_condition_X1_found_u42 rfl rfl rfl rfl (by decide +kernel) ⟨(show 1 + 1 ≤ (12 + 40 * d) by omega), (show 8 + (2 + 11) + 60 * 1 ≤ 60 * (12 + 40 * d) by omega)⟩) ⟨zPre.blind, va_recv hK hC.1 (ci := 6) (q0 := 3) rfl rfl, cPre_go hZ hK hC⟩ rfl rfl hl.1 rfl (lv_room (Nat.le_of_ble_eq_true rfl)) dX1_condition_9 (cAcc h4 mo6 hr9)) hC.2.2.1 (fun q _ h => hFc q h) hFc (fun r7 u9 t9 H1 locs ht hvm hw hB hz1 hk1 hS => ?_)
  obtain ⟨⟨hP, hK1, hD1⟩, hsz1⟩ := hB
  rw [ht] at hP hsz1
  have hC : CP dC dI Q A s.heap p5.2 H1 locs := ⟨hP, hD1.weaken (fun _ _ _ h => hFc _ h), hS, hsz1⟩
  generalize H1 = H at hC ⊢
  have h8 : (CS.hs σ) ≤ CS.hs p5.2 := Nat.le_trans h4 mo6
  refine W.widen (k := CS.hs p5.2 - (CS.hs σ)) (n := 17 * (CS.hs p5.2 - (CS.hs σ))) (cAcc2 h4 mo6) (cAcc3 h4 mo6) ?_
  obtain rfl : r7 = p5.1 := hw
  refine lv_if_ne (tgt := 17) hx hb dX1_condition_12 (by decide) (fun c9 => ?_) (fun c9 => ?_)
  ·
    replace hf := (if_neg c9).symm.trans hf
    refine lv_aload_n hx hb dX1_condition_17 rfl (lv_at hl 1 rfl) ?_
    refine cG_29 hx hb hts i_X1_condition_X7 hown hK hC (hts (.fieldLink RX1 22 "StatementRules2$Formulas" "code" "LStatementRules2$Code;") k_X1_condition_fieldLink_RX1_22_SR_Formulas_code_LSR_Code) (fun _ q9 => q9) dX1_condition_18 ?_
    obtain ⟨p10, hcp10, hf⟩ := hf_bind hf
    have mo11 : CS.hs p5.2 ≤ CS.hs p10.2 := Mono.go hcp10 (m_X0_newTarget N p5.2)
    have hr9 : CS.hs p10.2 ≤ CS.hs R.2 := Mono.go hf (m_X1_condition_27 N E1 E2 hm1 hm2 N p10.2 p10.1 0)
    have hFc := cFree hC hA
    refine va_calli (va_runV (As := []) (rest := []) ⟨hx, hb, hml, hown, hts⟩ (c_X0_newTarget l dC dI Q N p5.2 p10 hcp10) (cwV 0 hts hX1_condition_X0_newTarget_v110 rfl rfl rfl (by decide +kernel) ⟨(show 2 + 1 ≤ (12 + 40 * d) by omega), (show 8 + (1 + 11) + 60 * 2 ≤ 60 * (12 + 40 * d) by omega)⟩) ⟨zPre.blind, va_recv hK hC.1 (ci := 0) (q0 := 2) rfl rfl, cPre_go hZ hK hC⟩ rfl rfl hl.1 rfl (lv_room (Nat.le_of_ble_eq_true rfl)) dX1_condition_21 (cAcc h8 mo11 hr9)) hC.2.2.1 (fun q _ h => hFc q h) hFc (fun r12 u9 t9 H1 locs ht hvm hw hB hz1 hk1 hS => ?_)
    obtain ⟨⟨hP, hK1, hD1⟩, hsz1⟩ := hB
    rw [ht] at hP hsz1
    have hC : CP dC dI Q A s.heap p10.2 H1 locs := ⟨hP, hD1.weaken (fun _ _ _ h => hFc _ h), hS, hsz1⟩
    generalize H1 = H at hC ⊢
    have h13 : (CS.hs σ) ≤ CS.hs p10.2 := Nat.le_trans h8 mo11
    refine W.widen (k := CS.hs p10.2 - (CS.hs σ)) (n := 17 * (CS.hs p10.2 - (CS.hs σ))) (cAcc2 h8 mo11) (cAcc3 h8 mo11) ?_
    obtain rfl : r12 = p10.1 := hw
    refine lv_istore_n (lv' := [(2, .int p10.1), (1, .int p1.1), (0, .ref (Q.o 3))]) hx hb dX1_condition_24 rfl hl (by decide) rfl (fun ls hl => ?_)
    refine lv_iconst (v := 0) hx hb dX1_condition_25 (by decide) ?_
    refine lv_istore_n (lv' := [(3, .int 0), (2, .int p10.1), (1, .int p1.1), (0, .ref (Q.o 3))]) hx hb dX1_condition_26 rfl hl (by decide) rfl (fun ls hl => ?_)
    exact j_X1_condition_27 l dC dI Q N d E1 E2 hE1 hE2 hm1 hm2 (CS.hs σ) R hx hb hr hml hown hts hlocks hZ hA hK N p10.2 p10.1 0 _ _ _ hf h13 hC (lv_sub hl [3, 1, 0] rfl)
  ·
    replace hf := (if_pos c9).symm.trans hf
    refine lv_iload_n hx hb dX1_condition_15 rfl (lv_at hl 0 rfl) ?_
    obtain ⟨b32, hf⟩ := hf_ite hf
    obtain rfl := Option.some.inj hf
    exact W.zret (v := p1.1) hx hb hr (z_nar b32) (fun t ht hW => ⟨⟨p1.1, (), rfl, rfl, ⟨by rw [ht]; exact hC.1, va_K.moved hW.alike hK, hC.2.1⟩, by rw [ht]; exact hC.2.2.2⟩, hC.2.2.1.F ht⟩) hC.2.2.1.2.2 dX1_condition_16
set_option maxHeartbeats 4000000 in
set_option maxRecDepth 100000 in
theorem c_X7_conditionInside (l : Launch) (dC : Nat → ClassId) (dI : Nat → Nat → Nat) (Q : CQ) (N : Nat) (d : Nat) (E1 : CS → Option (Unit × CS)) (E2 : CS → Option (Int32 × CS)) (hE1 : cMF l dC dI Q d E1) (hE2 : cMO l dC dI Q d E2) (hm1 : ∀ σ, Mono (CS.hs σ) (E1 σ)) (hm2 : ∀ σ, Mono (CS.hs σ) (E2 σ)) (σ : CS) (R : Int32 × CS) (hf : f_X7_conditionInside N E1 E2 σ = some R) : Met l yX7_conditionInside wzX7_conditionInside ({ frames := (13 + 40 * d), cells := CS.hs R.2 - CS.hs σ, slots := 17 * (CS.hs R.2 - CS.hs σ), locals := 60 * (13 + 40 * d) }) (va_Pc [.ref (Q.o 3)] (zPre dC dI (CS.hs σ) (cW Q σ) (cT Q))) (va_Qi (fun (r : Int32) (_ : Unit) => r = R.1) (fun (_ : Unit) (t : State) => zPost dC dI (va_A (cW Q σ) (CS.hs σ)) (cW Q R.2) (cT Q) t ∧ t.heap.size = CS.hs R.2) (va_A (cW Q σ) (CS.hs σ))) (CS.hs R.2 - CS.hs σ) (17 * (CS.hs R.2 - CS.hs σ)) (va_A (cW Q σ) (CS.hs σ)) := by
  refine Met.ofW (cc := cX7_conditionInside) (maxL := 2) (ret := (some .boolean)) (by decide) rfl ?_
  intro p e s m args below meth c s₁ B hml hv
  obtain ⟨rfl, hsz, hZ, hP, hK, hD0⟩ := hv
  have hx := B.exec
  have hb := B.bytes
  have hr := B.returns
  have hts := atoms_spec (ws := wzX7_conditionInside) B.pre
  have hown : s.vm.findClass RX7 = some m.cls := findClass_of_methodNamed B.named
  have hlocks := B.notSynchronized
  have hD := hD0.self (sz := CS.hs σ)
  generalize hAe : va_A (cW Q σ) (CS.hs σ) = A at hD ⊢
  have hA : ∀ q : Nat, s.heap.size ≤ q → A q := fun q h => by rw [← hAe]; exact Or.inr (hsz ▸ h)
  have hC : CP dC dI Q A s.heap σ s.heap [] := ⟨hP, hD, va_S.rf, hsz⟩
  have h0 : CS.hs σ ≤ CS.hs σ := Nat.le_refl _
  have hl := lv_entry ([.ref (Q.o 3)]) (n := 2) (Nat.le_of_ble_eq_true rfl)
  rw [lg_entry_eq]
  generalize (lg_sl ([.ref (Q.o 3)]) ++ List.replicate (2 - (lg_sl ([.ref (Q.o 3)])).length) Slot.unset).toArray = ls at hl ⊢
  have hl : lv_has ls 2 [(0, .ref (Q.o 3))] := hl
  unfold f_X7_conditionInside at hf
  refine W.widen (k := CS.hs σ - CS.hs σ) (n := 17 * (CS.hs σ - CS.hs σ)) (Nat.zero_le _) (Nat.zero_le _) ?_
  refine lv_aload_n hx hb dX7_conditionInside_0 rfl (lv_at hl 0 rfl) ?_
  refine lv_bipush (v := 40) hx hb dX7_conditionInside_1 (by decide) ?_
  obtain ⟨p1, hcp1, hf⟩ := hf_bind hf
  have mo2 : CS.hs σ ≤ CS.hs p1.2 := Mono.go hcp1 (m_X1_open N σ 40)
  have hr9 : CS.hs p1.2 ≤ CS.hs R.2 := Mono.go hf (mono_bind (m_X1_condition N E1 E2 hm1 hm2 p1.2) (fun p5 => (mono_bind (m_X1_close N p5.2 41) (fun p9 => (mono_ite (mono_some (Nat.le_refl _)) mono_none)))))
  have hFc := cFree hC hA
  refine va_callv (va_runU (As := [.int 40]) (rest := []) ⟨hx, hb, hml, hown, hts⟩ (c_X1_open l dC dI Q N σ 40 p1 hcp1) (va_cwU 1 hts hX7_conditionInside_X1_open_u173 rfl rfl rfl rfl (by decide +kernel) ⟨(show 4 + 1 ≤ (13 + 40 * d) by omega), (show 8 + (2 + 11) + 60 * 4 ≤ 60 * (13 + 40 * d) by omega)⟩) ⟨zPre.blind, va_recv hK hC.1 (ci := 6) (q0 := 3) rfl rfl, cPre_go hZ hK hC⟩ rfl rfl hl.1 rfl (lv_room (Nat.le_of_ble_eq_true rfl)) dX7_conditionInside_3 (cAcc h0 mo2 hr9)) hC.2.2.1 (fun q _ h => hFc q h) hFc (fun u9 t9 H1 locs ht hvm hw hB hz1 hk1 hS => ?_)
  obtain ⟨⟨hP, hK1, hD1⟩, hsz1⟩ := hB
  rw [ht] at hP hsz1
  have hC : CP dC dI Q A s.heap p1.2 H1 locs := ⟨hP, hD1.weaken (fun _ _ _ h => hFc _ h), hS, hsz1⟩
  generalize H1 = H at hC ⊢
  have h4 : (CS.hs σ) ≤ CS.hs p1.2 := Nat.le_trans h0 mo2
  refine W.widen (k := CS.hs p1.2 - (CS.hs σ)) (n := 17 * (CS.hs p1.2 - (CS.hs σ))) (cAcc2 h0 mo2) (cAcc3 h0 mo2) ?_
  refine lv_aload_n hx hb dX7_conditionInside_6 rfl (lv_at hl 0 rfl) ?_
  obtain ⟨p5, hcp5, hf⟩ := hf_bind hf
  have mo6 : CS.hs p1.2 ≤ CS.hs p5.2 := Mono.go hcp5 (m_X1_condition N E1 E2 hm1 hm2 p1.2)
  have hr9 : CS.hs p5.2 ≤ CS.hs R.2 := Mono.go hf (mono_bind (m_X1_close N p5.2 41) (fun p9 => (mono_ite (mono_some (Nat.le_refl _)) mono_none)))
  have hFc := cFree hC hA
  refine va_calli (va_runU (As := []) (rest := []) ⟨hx, hb, hml, hown, hts⟩ (c_X1_condition l dC dI Q N d E1 E2 hE1 hE2 hm1 hm2 p1.2 p5 hcp5) (va_cwU 0 hts hX7_conditionInside_X1_condition_u312 rfl rfl rfl rfl (by decide +kernel) ⟨(show (12 + 40 * d) + 1 ≤ (13 + 40 * d) by omega), (show 8 + (4 + 11) + 60 * (12 + 40 * d) ≤ 60 * (13 + 40 * d) by omega)⟩) ⟨zPre.blind, va_recv hK hC.1 (ci := 6) (q0 := 3) rfl rfl, cPre_go hZ hK hC⟩ rfl rfl hl.1 rfl (lv_room (Nat.le_of_ble_eq_true rfl)) dX7_conditionInside_7 (cAcc h4 mo6 hr9)) hC.2.2.1 (fun q _ h => hFc q h) hFc (fun r7 u9 t9 H1 locs ht hvm hw hB hz1 hk1 hS => ?_)
  obtain ⟨⟨hP, hK1, hD1⟩, hsz1⟩ := hB
  rw [ht] at hP hsz1
  have hC : CP dC dI Q A s.heap p5.2 H1 locs := ⟨hP, hD1.weaken (fun _ _ _ h => hFc _ h), hS, hsz1⟩
  generalize H1 = H at hC ⊢
  have h8 : (CS.hs σ) ≤ CS.hs p5.2 := Nat.le_trans h4 mo6
  refine W.widen (k := CS.hs p5.2 - (CS.hs σ)) (n := 17 * (CS.hs p5.2 - (CS.hs σ))) (cAcc2 h4 mo6) (cAcc3 h4 mo6) ?_
  obtain rfl : r7 = p5.1 := hw
  refine lv_istore_n (lv' := [(1, .int p5.1), (0, .ref (Q.o 3))]) hx hb dX7_conditionInside_10 rfl hl (by decide) rfl (fun ls hl => ?_)
  refine lv_aload_n hx hb dX7_conditionInside_11 rfl (lv_at hl 1 rfl) ?_
  refine lv_bipush (v := 41) hx hb dX7_conditionInside_12 (by decide) ?_
  obtain ⟨p9, hcp9, hf⟩ := hf_bind hf
  have mo10 : CS.hs p5.2 ≤ CS.hs p9.2 := Mono.go hcp9 (m_X1_close N p5.2 41)
  have hr9 : CS.hs p9.2 ≤ CS.hs R.2 := Mono.go hf (mono_ite (mono_some (Nat.le_refl _)) mono_none)
  have hFc := cFree hC hA
  refine va_callv (va_runU (As := [.int 41]) (rest := []) ⟨hx, hb, hml, hown, hts⟩ (c_X1_close l dC dI Q N p5.2 41 p9 hcp9) (va_cwU 1 hts hX7_conditionInside_X1_close_u318 rfl rfl rfl rfl (by decide +kernel) ⟨(show 4 + 1 ≤ (13 + 40 * d) by omega), (show 8 + (2 + 11) + 60 * 4 ≤ 60 * (13 + 40 * d) by omega)⟩) ⟨zPre.blind, va_recv hK hC.1 (ci := 6) (q0 := 3) rfl rfl, cPre_go hZ hK hC⟩ rfl rfl hl.1 rfl (lv_room (Nat.le_of_ble_eq_true rfl)) dX7_conditionInside_14 (cAcc h8 mo10 hr9)) hC.2.2.1 (fun q _ h => hFc q h) hFc (fun u9 t9 H1 locs ht hvm hw hB hz1 hk1 hS => ?_)
  obtain ⟨⟨hP, hK1, hD1⟩, hsz1⟩ := hB
  rw [ht] at hP hsz1
  have hC : CP dC dI Q A s.heap p9.2 H1 locs := ⟨hP, hD1.weaken (fun _ _ _ h => hFc _ h), hS, hsz1⟩
  generalize H1 = H at hC ⊢
  have h12 : (CS.hs σ) ≤ CS.hs p9.2 := Nat.le_trans h8 mo10
  refine W.widen (k := CS.hs p9.2 - (CS.hs σ)) (n := 17 * (CS.hs p9.2 - (CS.hs σ))) (cAcc2 h8 mo10) (cAcc3 h8 mo10) ?_
  refine lv_iload_n hx hb dX7_conditionInside_17 rfl (lv_at hl 0 rfl) ?_
  obtain ⟨b13, hf⟩ := hf_ite hf
  obtain rfl := Option.some.inj hf
  exact W.zret (v := p5.1) hx hb hr (z_nar b13) (fun t ht hW => ⟨⟨p5.1, (), rfl, rfl, ⟨by rw [ht]; exact hC.1, va_K.moved hW.alike hK, hC.2.1⟩, by rw [ht]; exact hC.2.2.2⟩, hC.2.2.1.F ht⟩) hC.2.2.1.2.2 dX7_conditionInside_18
theorem k_X7_endDo_fieldLink_RX7_61_SR_Statements_alive_Z : Cond.fieldLink RX7 61 "StatementRules2$Statements" "alive" "Z" ∈ wzX7_endDo := List.mem_cons_of_mem _ (List.mem_append_right _ (List.mem_append_right _ (List.mem_append_right _ (List.mem_append_right _ (List.mem_append_right _ (List.mem_append_right _ (List.mem_append_right _ (List.mem_append_right _ (List.mem_append_right _ (List.mem_append_right _ (List.mem_append_right _ (List.mem_append_right _ (List.mem_append_right _ (List.mem_append_right _ (List.mem_append_right _ (List.mem_append_right _ (List.mem_append_right _ (List.mem_append_right _ (List.mem_append_right _ (List.mem_append_right _ (List.mem_append_right _ (List.mem_append_right _ (List.mem_append_right _ (List.mem_append_right _ (List.mem_append_left _ (List.mem_of_getElem? (i := 0) rfl))))))))))))))))))))))))))
theorem i_X7_endDo_X7 : ∀ w ∈ wsX70, w ∈ wzX7_endDo := fun _ h => List.mem_cons_of_mem _ (List.mem_append_right _ (List.mem_append_right _ (List.mem_append_right _ (List.mem_append_right _ (List.mem_append_right _ (List.mem_append_right _ (List.mem_append_right _ (List.mem_append_right _ (List.mem_append_right _ (List.mem_append_right _ (List.mem_append_right _ (List.mem_append_right _ (List.mem_append_right _ (List.mem_append_right _ (List.mem_append_right _ (List.mem_append_right _ (List.mem_append_right _ (List.mem_append_right _ (List.mem_append_right _ (List.mem_append_right _ (List.mem_append_right _ (List.mem_append_right _ (List.mem_append_right _ (List.mem_append_right _ (List.mem_append_right _ (List.mem_append_right _ (List.mem_append_right _ (List.mem_append_right _ (List.mem_append_right _ (List.mem_append_right _ (List.mem_append_right _ (List.mem_append_right _ (List.mem_append_right _ (List.mem_append_right _ (List.mem_append_right _ (List.mem_append_right _ (List.mem_append_left _ (h))))))))))))))))))))))))))))))))))))))
theorem k_X7_endDo_fieldLink_RX7_20_SR_Statements_code_LSR_Code : Cond.fieldLink RX7 20 "StatementRules2$Statements" "code" "LStatementRules2$Code;" ∈ wzX7_endDo := List.mem_cons_of_mem _ (List.mem_append_right _ (List.mem_append_right _ (List.mem_append_right _ (List.mem_append_right _ (List.mem_append_right _ (List.mem_append_right _ (List.mem_append_right _ (List.mem_append_right _ (List.mem_append_right _ (List.mem_append_right _ (List.mem_append_right _ (List.mem_append_right _ (List.mem_append_right _ (List.mem_append_right _ (List.mem_append_right _ (List.mem_append_right _ (List.mem_append_right _ (List.mem_append_right _ (List.mem_append_right _ (List.mem_append_right _ (List.mem_append_right _ (List.mem_append_right _ (List.mem_append_right _ (List.mem_append_right _ (List.mem_append_left _ (List.mem_of_getElem? (i := 1) rfl))))))))))))))))))))))))))
theorem k_X7_endDo_sameField_SR_Statements_SR_Formulas_code_LSR_Code : Cond.sameField "StatementRules2$Statements" "StatementRules2$Formulas" "code" "LStatementRules2$Code;" ∈ wzX7_endDo := List.mem_cons_of_mem _ (List.mem_append_right _ (List.mem_append_right _ (List.mem_append_right _ (List.mem_append_right _ (List.mem_append_right _ (List.mem_append_right _ (List.mem_append_right _ (List.mem_append_right _ (List.mem_append_right _ (List.mem_append_right _ (List.mem_append_right _ (List.mem_append_right _ (List.mem_append_right _ (List.mem_append_right _ (List.mem_append_right _ (List.mem_append_right _ (List.mem_append_right _ (List.mem_append_right _ (List.mem_append_right _ (List.mem_append_right _ (List.mem_append_right _ (List.mem_append_right _ (List.mem_append_right _ (List.mem_append_right _ (List.mem_append_left _ (List.mem_of_getElem? (i := 2) rfl))))))))))))))))))))))))))
theorem i_X7_endDo_X5 : ∀ w ∈ wsX50, w ∈ wzX7_endDo := fun _ h => List.mem_cons_of_mem _ (List.mem_append_right _ (List.mem_append_right _ (List.mem_append_right _ (List.mem_append_right _ (List.mem_append_right _ (List.mem_append_right _ (List.mem_append_right _ (List.mem_append_right _ (List.mem_append_right _ (List.mem_append_right _ (List.mem_append_right _ (List.mem_append_right _ (List.mem_append_right _ (List.mem_append_right _ (List.mem_append_right _ (List.mem_append_right _ (List.mem_append_right _ (List.mem_append_right _ (List.mem_append_right _ (List.mem_append_right _ (List.mem_append_right _ (List.mem_append_right _ (List.mem_append_right _ (List.mem_append_right _ (List.mem_append_right _ (List.mem_append_right _ (List.mem_append_right _ (List.mem_append_right _ (List.mem_append_right _ (List.mem_append_right _ (List.mem_append_right _ (List.mem_append_right _ (List.mem_append_right _ (List.mem_append_right _ (List.mem_append_right _ (List.mem_append_right _ (List.mem_append_right _ (List.mem_append_right _ (List.mem_append_right _ (List.mem_append_right _ (List.mem_append_right _ (List.mem_append_left _ (h)))))))))))))))))))))))))))))))))))))))))))
theorem k_X7_endDo_fieldLink_RX7_14_SR_Statements_opens_LSR_Opens : Cond.fieldLink RX7 14 "StatementRules2$Statements" "opens" "LStatementRules2$Opens;" ∈ wzX7_endDo := List.mem_cons_of_mem _ (List.mem_append_right _ (List.mem_append_right _ (List.mem_append_right _ (List.mem_append_right _ (List.mem_append_right _ (List.mem_append_right _ (List.mem_append_right _ (List.mem_append_right _ (List.mem_append_right _ (List.mem_append_right _ (List.mem_append_right _ (List.mem_append_right _ (List.mem_append_right _ (List.mem_append_right _ (List.mem_append_right _ (List.mem_append_right _ (List.mem_append_right _ (List.mem_append_right _ (List.mem_append_right _ (List.mem_append_right _ (List.mem_append_right _ (List.mem_append_right _ (List.mem_append_right _ (List.mem_append_right _ (List.mem_append_left _ (List.mem_of_getElem? (i := 3) rfl))))))))))))))))))))))))))
set_option maxHeartbeats 4000000 in
set_option maxRecDepth 100000 in
theorem j_X7_endDo_25 {p : Program} {e : Env} {s : State} {m : MethodId} {args : Array Value} {below : List Frame} {meth : Method} {c : Code} {A : Nat → Prop} (l : Launch) (dC : Nat → ClassId) (dI : Nat → Nat → Nat) (Q : CQ) (N : Nat) (d : Nat) (E1 : CS → Option (Unit × CS)) (E2 : CS → Option (Int32 × CS)) (hE1 : cMF l dC dI Q d E1) (hE2 : cMO l dC dI Q d E2) (hm1 : ∀ σ, Mono (CS.hs σ) (E1 σ)) (hm2 : ∀ σ, Mono (CS.hs σ) (E2 σ)) (z9h : Nat) (R : Unit × CS) (hx : p.tables.exec = Jvm.exec) (hb : c.code = cX7_endDo) (hr : meth.sig.returnType = none) (hml : c.maxLocals = 4) (hown : s.vm.findClass RX7 = some m.cls) (hts : ∀ w ∈ wzX7_endDo, w.before args s = true) (hlocks : meth.locks = false) (hZ : zAMB s) (hA : ∀ q : Nat, s.heap.size ≤ q → A q) (hK : va_K (dC, dI) vwCl (cT Q) s) : ∀ (σ : CS) (x1 : Nat) (x2 : Int32) (H : Heap) (locs : List Loc) (ls : Array Slot), f_X7_endDo_25 N E1 E2 σ x1 x2 = some R → z9h ≤ CS.hs σ → CP dC dI Q A s.heap σ H locs → lv_has ls 4 [(0, .ref (Q.o 3)), (1, .ref x1), (2, .int x2)] → W p l e ({ frames := (14 + 40 * d), cells := CS.hs R.2 - z9h, slots := 17 * (CS.hs R.2 - z9h), locals := 60 * (14 + 40 * d) }) s m args below meth c H locs (CS.hs σ - z9h) (17 * (CS.hs σ - z9h)) (MQ below (va_Qv (fun (_ : Unit) => True) (fun (_ : Unit) (t : State) => zPost dC dI A (cW Q R.2) (cT Q) t ∧ t.heap.size = CS.hs R.2) A) args s (CS.hs R.2 - z9h) (17 * (CS.hs R.2 - z9h)) A) (F0 m 25 ls []) := by
  intro σ x1 x2 H locs ls hf h0 hC hl
  unfold f_X7_endDo_25 at hf
  refine lv_aload_n hx hb dX7_endDo_25 rfl (lv_at hl 0 rfl) ?_
  refine lv_sipush (v := 205) hx hb dX7_endDo_26 (by decide) ?_
  obtain ⟨p2, hcp2, hf⟩ := hf_bind hf
  have mo3 : CS.hs σ ≤ CS.hs p2.2 := Mono.go hcp2 (m_X1_expect N σ 205)
  have hr9 : CS.hs p2.2 ≤ CS.hs R.2 := Mono.go hf (mono_ite (mono_bind (m_X0_aim N p2.2 (CS.o p2.2 x1 10)) (fun p7 => (mono_bind (m_X7_conditionInside N E1 E2 hm1 hm2 p7.2) (fun p11 => (mono_bind (m_X1_expect N p11.2 59) (fun p15 => (mono_ite (mono_bind (m_X0_add N p15.2 31 (CS.o p15.2 x1 9)) (fun p20 => (mono_ite (mono_bind (m_X0_add N p20.2 30 (CS.o p20.2 x1 11)) (fun p25 => (mono_ite (mono_bind (m_X0_aim N p25.2 (CS.o p25.2 x1 9)) (fun p30 => (mono_ite (mono_bind (m_X6_isGoneTo N p30.2 x1 0) (fun p35 => (mono_ite (mono_some (Nat.le_refl _)) (mono_some (Nat.le_refl _))))) (mono_ite (mono_some (Nat.le_refl _)) (mono_bind (m_X6_isGoneTo N p30.2 x1 0) (fun p41 => (mono_ite (mono_some (Nat.le_refl _)) (mono_some (Nat.le_refl _))))))))) mono_none))) mono_none))) mono_none))))))) mono_none)
  have hFc := cFree hC hA
  refine va_callv (va_runU (As := [.int 205]) (rest := []) ⟨hx, hb, hml, hown, hts⟩ (c_X1_expect l dC dI Q N σ 205 p2 hcp2) (va_cwU 1 hts hX7_endDo_X1_expect_u155 rfl rfl rfl rfl (by decide +kernel) ⟨(show 4 + 1 ≤ (14 + 40 * d) by omega), (show 8 + (2 + 11) + 60 * 4 ≤ 60 * (14 + 40 * d) by omega)⟩) ⟨zPre.blind, va_recv hK hC.1 (ci := 6) (q0 := 3) rfl rfl, cPre_go hZ hK hC⟩ rfl rfl hl.1 rfl (lv_room (Nat.le_of_ble_eq_true rfl)) dX7_endDo_29 (cAcc h0 mo3 hr9)) hC.2.2.1 (fun q _ h => hFc q h) hFc (fun u9 t9 H1 locs ht hvm hw hB hz1 hk1 hS => ?_)
  obtain ⟨⟨hP, hK1, hD1⟩, hsz1⟩ := hB
  rw [ht] at hP hsz1
  have hC : CP dC dI Q A s.heap p2.2 H1 locs := ⟨hP, hD1.weaken (fun _ _ _ h => hFc _ h), hS, hsz1⟩
  generalize H1 = H at hC ⊢
  have h5 : z9h ≤ CS.hs p2.2 := Nat.le_trans h0 mo3
  refine W.widen (k := CS.hs p2.2 - z9h) (n := 17 * (CS.hs p2.2 - z9h)) (cAcc2 h0 mo3) (cAcc3 h0 mo3) ?_
  refine lv_aload_n hx hb dX7_endDo_32 rfl (lv_at hl 0 rfl) ?_
  refine cG_29 hx hb hts i_X7_endDo_X7 hown hK hC (hts (.fieldLink RX7 20 "StatementRules2$Statements" "code" "LStatementRules2$Code;") k_X7_endDo_fieldLink_RX7_20_SR_Statements_code_LSR_Code) (fun x9 q9 => u_same (hts (.sameField "StatementRules2$Statements" "StatementRules2$Formulas" "code" "LStatementRules2$Code;") k_X7_endDo_sameField_SR_Statements_SR_Formulas_code_LSR_Code) x9 q9) dX7_endDo_33 ?_
  refine lv_aload_n hx hb dX7_endDo_36 rfl (lv_at hl 1 rfl) ?_
  obtain ⟨b6, hf⟩ := hf_ite hf
  refine pGN_X5_10 (v := (CS.o p2.2 x1 10)) hx hb hts i_X7_endDo_X5 hown hK hC (va_Nw.use rfl (hZ.1 (.fieldLinkNest RX7 284 "StatementRules2$Open" "next" "I" "StatementRules2") (by decide +kernel))) (fun _ q9 => q9) dX7_endDo_37 b6 rfl ?_
  obtain ⟨p7, hcp7, hf⟩ := hf_bind hf
  have mo8 : CS.hs p2.2 ≤ CS.hs p7.2 := Mono.go hcp7 (m_X0_aim N p2.2 (CS.o p2.2 x1 10))
  have hr9 : CS.hs p7.2 ≤ CS.hs R.2 := Mono.go hf (mono_bind (m_X7_conditionInside N E1 E2 hm1 hm2 p7.2) (fun p11 => (mono_bind (m_X1_expect N p11.2 59) (fun p15 => (mono_ite (mono_bind (m_X0_add N p15.2 31 (CS.o p15.2 x1 9)) (fun p20 => (mono_ite (mono_bind (m_X0_add N p20.2 30 (CS.o p20.2 x1 11)) (fun p25 => (mono_ite (mono_bind (m_X0_aim N p25.2 (CS.o p25.2 x1 9)) (fun p30 => (mono_ite (mono_bind (m_X6_isGoneTo N p30.2 x1 0) (fun p35 => (mono_ite (mono_some (Nat.le_refl _)) (mono_some (Nat.le_refl _))))) (mono_ite (mono_some (Nat.le_refl _)) (mono_bind (m_X6_isGoneTo N p30.2 x1 0) (fun p41 => (mono_ite (mono_some (Nat.le_refl _)) (mono_some (Nat.le_refl _))))))))) mono_none))) mono_none))) mono_none)))))
  have hFc := cFree hC hA
  refine va_callv (va_runV (As := [.int (CS.o p2.2 x1 10)]) (rest := []) ⟨hx, hb, hml, hown, hts⟩ (c_X0_aim l dC dI Q N p2.2 (CS.o p2.2 x1 10) p7 hcp7) (cwV 1 hts hX7_endDo_X0_aim_v158 rfl rfl rfl (by decide +kernel) ⟨(show 2 + 1 ≤ (14 + 40 * d) by omega), (show 8 + (2 + 11) + 60 * 2 ≤ 60 * (14 + 40 * d) by omega)⟩) ⟨zPre.blind, va_recv hK hC.1 (ci := 0) (q0 := 2) rfl rfl, cPre_go hZ hK hC⟩ rfl rfl hl.1 rfl (lv_room (Nat.le_of_ble_eq_true rfl)) dX7_endDo_40 (cAcc h5 mo8 hr9)) hC.2.2.1 (fun q _ h => hFc q h) hFc (fun u9 t9 H1 locs ht hvm hw hB hz1 hk1 hS => ?_)
  obtain ⟨⟨hP, hK1, hD1⟩, hsz1⟩ := hB
  rw [ht] at hP hsz1
  have hC : CP dC dI Q A s.heap p7.2 H1 locs := ⟨hP, hD1.weaken (fun _ _ _ h => hFc _ h), hS, hsz1⟩
  generalize H1 = H at hC ⊢
  have h10 : z9h ≤ CS.hs p7.2 := Nat.le_trans h5 mo8
  refine W.widen (k := CS.hs p7.2 - z9h) (n := 17 * (CS.hs p7.2 - z9h)) (cAcc2 h5 mo8) (cAcc3 h5 mo8) ?_
  refine lv_aload_n hx hb dX7_endDo_43 rfl (lv_at hl 0 rfl) ?_
  obtain ⟨p11, hcp11, hf⟩ := hf_bind hf
  have mo12 : CS.hs p7.2 ≤ CS.hs p11.2 := Mono.go hcp11 (m_X7_conditionInside N E1 E2 hm1 hm2 p7.2)
  have hr9 : CS.hs p11.2 ≤ CS.hs R.2 := Mono.go hf (mono_bind (m_X1_expect N p11.2 59) (fun p15 => (mono_ite (mono_bind (m_X0_add N p15.2 31 (CS.o p15.2 x1 9)) (fun p20 => (mono_ite (mono_bind (m_X0_add N p20.2 30 (CS.o p20.2 x1 11)) (fun p25 => (mono_ite (mono_bind (m_X0_aim N p25.2 (CS.o p25.2 x1 9)) (fun p30 => (mono_ite (mono_bind (m_X6_isGoneTo N p30.2 x1 0) (fun p35 => (mono_ite (mono_some (Nat.le_refl _)) (mono_some (Nat.le_refl _))))) (mono_ite (mono_some (Nat.le_refl _)) (mono_bind (m_X6_isGoneTo N p30.2 x1 0) (fun p41 => (mono_ite (mono_some (Nat.le_refl _)) (mono_some (Nat.le_refl _))))))))) mono_none))) mono_none))) mono_none)))
  have hFc := cFree hC hA
  refine va_calli (va_runV (As := []) (rest := []) ⟨hx, hb, hml, hown, hts⟩ (c_X7_conditionInside l dC dI Q N d E1 E2 hE1 hE2 hm1 hm2 p7.2 p11 hcp11) (cwV 0 hts hX7_endDo_X7_conditionInside_v315 rfl rfl rfl (by decide +kernel) ⟨(show (13 + 40 * d) + 1 ≤ (14 + 40 * d) by omega), (show 8 + (2 + 11) + 60 * (13 + 40 * d) ≤ 60 * (14 + 40 * d) by omega)⟩) ⟨zPre.blind, va_recv hK hC.1 (ci := 6) (q0 := 3) rfl rfl, cPre_go hZ hK hC⟩ rfl rfl hl.1 rfl (lv_room (Nat.le_of_ble_eq_true rfl)) dX7_endDo_44 (cAcc h10 mo12 hr9)) hC.2.2.1 (fun q _ h => hFc q h) hFc (fun r13 u9 t9 H1 locs ht hvm hw hB hz1 hk1 hS => ?_)
  obtain ⟨⟨hP, hK1, hD1⟩, hsz1⟩ := hB
  rw [ht] at hP hsz1
  have hC : CP dC dI Q A s.heap p11.2 H1 locs := ⟨hP, hD1.weaken (fun _ _ _ h => hFc _ h), hS, hsz1⟩
  generalize H1 = H at hC ⊢
  have h14 : z9h ≤ CS.hs p11.2 := Nat.le_trans h10 mo12
  refine W.widen (k := CS.hs p11.2 - z9h) (n := 17 * (CS.hs p11.2 - z9h)) (cAcc2 h10 mo12) (cAcc3 h10 mo12) ?_
  obtain rfl : r13 = p11.1 := hw
  refine lv_istore_n (lv' := [(3, .int p11.1), (0, .ref (Q.o 3)), (1, .ref x1), (2, .int x2)]) hx hb dX7_endDo_47 rfl hl (by decide) rfl (fun ls hl => ?_)
  refine lv_aload_n hx hb dX7_endDo_48 rfl (lv_at hl 1 rfl) ?_
  refine lv_bipush (v := 59) hx hb dX7_endDo_49 (by decide) ?_
  obtain ⟨p15, hcp15, hf⟩ := hf_bind hf
  have mo16 : CS.hs p11.2 ≤ CS.hs p15.2 := Mono.go hcp15 (m_X1_expect N p11.2 59)
  have hr9 : CS.hs p15.2 ≤ CS.hs R.2 := Mono.go hf (mono_ite (mono_bind (m_X0_add N p15.2 31 (CS.o p15.2 x1 9)) (fun p20 => (mono_ite (mono_bind (m_X0_add N p20.2 30 (CS.o p20.2 x1 11)) (fun p25 => (mono_ite (mono_bind (m_X0_aim N p25.2 (CS.o p25.2 x1 9)) (fun p30 => (mono_ite (mono_bind (m_X6_isGoneTo N p30.2 x1 0) (fun p35 => (mono_ite (mono_some (Nat.le_refl _)) (mono_some (Nat.le_refl _))))) (mono_ite (mono_some (Nat.le_refl _)) (mono_bind (m_X6_isGoneTo N p30.2 x1 0) (fun p41 => (mono_ite (mono_some (Nat.le_refl _)) (mono_some (Nat.le_refl _))))))))) mono_none))) mono_none))) mono_none)
  have hFc := cFree hC hA
  refine va_callv (va_runU (As := [.int 59]) (rest := []) ⟨hx, hb, hml, hown, hts⟩ (c_X1_expect l dC dI Q N p11.2 59 p15 hcp15) (va_cwU 1 hts hX7_endDo_X1_expect_u155 rfl rfl rfl rfl (by decide +kernel) ⟨(show 4 + 1 ≤ (14 + 40 * d) by omega), (show 8 + (2 + 11) + 60 * 4 ≤ 60 * (14 + 40 * d) by omega)⟩) ⟨zPre.blind, va_recv hK hC.1 (ci := 6) (q0 := 3) rfl rfl, cPre_go hZ hK hC⟩ rfl rfl hl.1 rfl (lv_room (Nat.le_of_ble_eq_true rfl)) dX7_endDo_51 (cAcc h14 mo16 hr9)) hC.2.2.1 (fun q _ h => hFc q h) hFc (fun u9 t9 H1 locs ht hvm hw hB hz1 hk1 hS => ?_)
  obtain ⟨⟨hP, hK1, hD1⟩, hsz1⟩ := hB
  rw [ht] at hP hsz1
  have hC : CP dC dI Q A s.heap p15.2 H1 locs := ⟨hP, hD1.weaken (fun _ _ _ h => hFc _ h), hS, hsz1⟩
  generalize H1 = H at hC ⊢
  have h18 : z9h ≤ CS.hs p15.2 := Nat.le_trans h14 mo16
  refine W.widen (k := CS.hs p15.2 - z9h) (n := 17 * (CS.hs p15.2 - z9h)) (cAcc2 h14 mo16) (cAcc3 h14 mo16) ?_
  refine lv_aload_n hx hb dX7_endDo_54 rfl (lv_at hl 1 rfl) ?_
  refine cG_29 hx hb hts i_X7_endDo_X7 hown hK hC (hts (.fieldLink RX7 20 "StatementRules2$Statements" "code" "LStatementRules2$Code;") k_X7_endDo_fieldLink_RX7_20_SR_Statements_code_LSR_Code) (fun x9 q9 => u_same (hts (.sameField "StatementRules2$Statements" "StatementRules2$Formulas" "code" "LStatementRules2$Code;") k_X7_endDo_sameField_SR_Statements_SR_Formulas_code_LSR_Code) x9 q9) dX7_endDo_55 ?_
  refine lv_bipush (v := 31) hx hb dX7_endDo_58 (by decide) ?_
  refine lv_aload_n hx hb dX7_endDo_60 rfl (lv_at hl 2 rfl) ?_
  obtain ⟨b19, hf⟩ := hf_ite hf
  refine pGN_X5_9 (v := (CS.o p15.2 x1 9)) hx hb hts i_X7_endDo_X5 hown hK hC (va_Nw.use rfl (hZ.1 (.fieldLinkNest RX7 196 "StatementRules2$Open" "exit" "I" "StatementRules2") (by decide +kernel))) (fun _ q9 => q9) dX7_endDo_61 b19 rfl ?_
  obtain ⟨p20, hcp20, hf⟩ := hf_bind hf
  have mo21 : CS.hs p15.2 ≤ CS.hs p20.2 := Mono.go hcp20 (m_X0_add N p15.2 31 (CS.o p15.2 x1 9))
  have hr9 : CS.hs p20.2 ≤ CS.hs R.2 := Mono.go hf (mono_ite (mono_bind (m_X0_add N p20.2 30 (CS.o p20.2 x1 11)) (fun p25 => (mono_ite (mono_bind (m_X0_aim N p25.2 (CS.o p25.2 x1 9)) (fun p30 => (mono_ite (mono_bind (m_X6_isGoneTo N p30.2 x1 0) (fun p35 => (mono_ite (mono_some (Nat.le_refl _)) (mono_some (Nat.le_refl _))))) (mono_ite (mono_some (Nat.le_refl _)) (mono_bind (m_X6_isGoneTo N p30.2 x1 0) (fun p41 => (mono_ite (mono_some (Nat.le_refl _)) (mono_some (Nat.le_refl _))))))))) mono_none))) mono_none)
  have hFc := cFree hC hA
  refine va_callv (va_runV (As := [.int 31, .int (CS.o p15.2 x1 9)]) (rest := []) ⟨hx, hb, hml, hown, hts⟩ (c_X0_add l dC dI Q N p15.2 31 (CS.o p15.2 x1 9) p20 hcp20) (cwV 2 hts hX7_endDo_X0_add_v176 rfl rfl rfl (by decide +kernel) ⟨(show 2 + 1 ≤ (14 + 40 * d) by omega), (show 8 + (3 + 11) + 60 * 2 ≤ 60 * (14 + 40 * d) by omega)⟩) ⟨zPre.blind, va_recv hK hC.1 (ci := 0) (q0 := 2) rfl rfl, cPre_go hZ hK hC⟩ rfl rfl hl.1 rfl (lv_room (Nat.le_of_ble_eq_true rfl)) dX7_endDo_64 (cAcc h18 mo21 hr9)) hC.2.2.1 (fun q _ h => hFc q h) hFc (fun u9 t9 H1 locs ht hvm hw hB hz1 hk1 hS => ?_)
  obtain ⟨⟨hP, hK1, hD1⟩, hsz1⟩ := hB
  rw [ht] at hP hsz1
  have hC : CP dC dI Q A s.heap p20.2 H1 locs := ⟨hP, hD1.weaken (fun _ _ _ h => hFc _ h), hS, hsz1⟩
  generalize H1 = H at hC ⊢
  have h23 : z9h ≤ CS.hs p20.2 := Nat.le_trans h18 mo21
  refine W.widen (k := CS.hs p20.2 - z9h) (n := 17 * (CS.hs p20.2 - z9h)) (cAcc2 h18 mo21) (cAcc3 h18 mo21) ?_
  refine lv_aload_n hx hb dX7_endDo_67 rfl (lv_at hl 1 rfl) ?_
  refine cG_29 hx hb hts i_X7_endDo_X7 hown hK hC (hts (.fieldLink RX7 20 "StatementRules2$Statements" "code" "LStatementRules2$Code;") k_X7_endDo_fieldLink_RX7_20_SR_Statements_code_LSR_Code) (fun x9 q9 => u_same (hts (.sameField "StatementRules2$Statements" "StatementRules2$Formulas" "code" "LStatementRules2$Code;") k_X7_endDo_sameField_SR_Statements_SR_Formulas_code_LSR_Code) x9 q9) dX7_endDo_68 ?_
  refine lv_bipush (v := 30) hx hb dX7_endDo_71 (by decide) ?_
  refine lv_aload_n hx hb dX7_endDo_73 rfl (lv_at hl 2 rfl) ?_
  obtain ⟨b24, hf⟩ := hf_ite hf
  refine pGN_X5_11 (v := (CS.o p20.2 x1 11)) hx hb hts i_X7_endDo_X5 hown hK hC (va_Nw.use rfl (hZ.1 (.fieldLinkNest RX7 140 "StatementRules2$Open" "other" "I" "StatementRules2") (by decide +kernel))) (fun _ q9 => q9) dX7_endDo_74 b24 rfl ?_
  obtain ⟨p25, hcp25, hf⟩ := hf_bind hf
  have mo26 : CS.hs p20.2 ≤ CS.hs p25.2 := Mono.go hcp25 (m_X0_add N p20.2 30 (CS.o p20.2 x1 11))
  have hr9 : CS.hs p25.2 ≤ CS.hs R.2 := Mono.go hf (mono_ite (mono_bind (m_X0_aim N p25.2 (CS.o p25.2 x1 9)) (fun p30 => (mono_ite (mono_bind (m_X6_isGoneTo N p30.2 x1 0) (fun p35 => (mono_ite (mono_some (Nat.le_refl _)) (mono_some (Nat.le_refl _))))) (mono_ite (mono_some (Nat.le_refl _)) (mono_bind (m_X6_isGoneTo N p30.2 x1 0) (fun p41 => (mono_ite (mono_some (Nat.le_refl _)) (mono_some (Nat.le_refl _))))))))) mono_none)
  have hFc := cFree hC hA
  refine va_callv (va_runV (As := [.int 30, .int (CS.o p20.2 x1 11)]) (rest := []) ⟨hx, hb, hml, hown, hts⟩ (c_X0_add l dC dI Q N p20.2 30 (CS.o p20.2 x1 11) p25 hcp25) (cwV 2 hts hX7_endDo_X0_add_v176 rfl rfl rfl (by decide +kernel) ⟨(show 2 + 1 ≤ (14 + 40 * d) by omega), (show 8 + (3 + 11) + 60 * 2 ≤ 60 * (14 + 40 * d) by omega)⟩) ⟨zPre.blind, va_recv hK hC.1 (ci := 0) (q0 := 2) rfl rfl, cPre_go hZ hK hC⟩ rfl rfl hl.1 rfl (lv_room (Nat.le_of_ble_eq_true rfl)) dX7_endDo_77 (cAcc h23 mo26 hr9)) hC.2.2.1 (fun q _ h => hFc q h) hFc (fun u9 t9 H1 locs ht hvm hw hB hz1 hk1 hS => ?_)
  obtain ⟨⟨hP, hK1, hD1⟩, hsz1⟩ := hB
  rw [ht] at hP hsz1
  have hC : CP dC dI Q A s.heap p25.2 H1 locs := ⟨hP, hD1.weaken (fun _ _ _ h => hFc _ h), hS, hsz1⟩
  generalize H1 = H at hC ⊢
  have h28 : z9h ≤ CS.hs p25.2 := Nat.le_trans h23 mo26
  refine W.widen (k := CS.hs p25.2 - z9h) (n := 17 * (CS.hs p25.2 - z9h)) (cAcc2 h23 mo26) (cAcc3 h23 mo26) ?_
  refine lv_aload_n hx hb dX7_endDo_80 rfl (lv_at hl 1 rfl) ?_
  refine cG_29 hx hb hts i_X7_endDo_X7 hown hK hC (hts (.fieldLink RX7 20 "StatementRules2$Statements" "code" "LStatementRules2$Code;") k_X7_endDo_fieldLink_RX7_20_SR_Statements_code_LSR_Code) (fun x9 q9 => u_same (hts (.sameField "StatementRules2$Statements" "StatementRules2$Formulas" "code" "LStatementRules2$Code;") k_X7_endDo_sameField_SR_Statements_SR_Formulas_code_LSR_Code) x9 q9) dX7_endDo_81 ?_
  refine lv_aload_n hx hb dX7_endDo_84 rfl (lv_at hl 2 rfl) ?_
  obtain ⟨b29, hf⟩ := hf_ite hf
  refine pGN_X5_9 (v := (CS.o p25.2 x1 9)) hx hb hts i_X7_endDo_X5 hown hK hC (va_Nw.use rfl (hZ.1 (.fieldLinkNest RX7 196 "StatementRules2$Open" "exit" "I" "StatementRules2") (by decide +kernel))) (fun _ q9 => q9) dX7_endDo_85 b29 rfl ?_
  obtain ⟨p30, hcp30, hf⟩ := hf_bind hf
  have mo31 : CS.hs p25.2 ≤ CS.hs p30.2 := Mono.go hcp30 (m_X0_aim N p25.2 (CS.o p25.2 x1 9))
  have hr9 : CS.hs p30.2 ≤ CS.hs R.2 := Mono.go hf (mono_ite (mono_bind (m_X6_isGoneTo N p30.2 x1 0) (fun p35 => (mono_ite (mono_some (Nat.le_refl _)) (mono_some (Nat.le_refl _))))) (mono_ite (mono_some (Nat.le_refl _)) (mono_bind (m_X6_isGoneTo N p30.2 x1 0) (fun p41 => (mono_ite (mono_some (Nat.le_refl _)) (mono_some (Nat.le_refl _)))))))
  have hFc := cFree hC hA
  refine va_callv (va_runV (As := [.int (CS.o p25.2 x1 9)]) (rest := []) ⟨hx, hb, hml, hown, hts⟩ (c_X0_aim l dC dI Q N p25.2 (CS.o p25.2 x1 9) p30 hcp30) (cwV 1 hts hX7_endDo_X0_aim_v158 rfl rfl rfl (by decide +kernel) ⟨(show 2 + 1 ≤ (14 + 40 * d) by omega), (show 8 + (2 + 11) + 60 * 2 ≤ 60 * (14 + 40 * d) by omega)⟩) ⟨zPre.blind, va_recv hK hC.1 (ci := 0) (q0 := 2) rfl rfl, cPre_go hZ hK hC⟩ rfl rfl hl.1 rfl (lv_room (Nat.le_of_ble_eq_true rfl)) dX7_endDo_88 (cAcc h28 mo31 hr9)) hC.2.2.1 (fun q _ h => hFc q h) hFc (fun u9 t9 H1 locs ht hvm hw hB hz1 hk1 hS => ?_)
  obtain ⟨⟨hP, hK1, hD1⟩, hsz1⟩ := hB
  rw [ht] at hP hsz1
  have hC : CP dC dI Q A s.heap p30.2 H1 locs := ⟨hP, hD1.weaken (fun _ _ _ h => hFc _ h), hS, hsz1⟩
  generalize H1 = H at hC ⊢
  have h33 : z9h ≤ CS.hs p30.2 := Nat.le_trans h28 mo31
  refine W.widen (k := CS.hs p30.2 - z9h) (n := 17 * (CS.hs p30.2 - z9h)) (cAcc2 h28 mo31) (cAcc3 h28 mo31) ?_
  refine lv_aload_n hx hb dX7_endDo_91 rfl (lv_at hl 1 rfl) ?_
  refine lv_iload_n hx hb dX7_endDo_92 rfl (lv_at hl 3 rfl) ?_
  refine lv_if_eq (tgt := 100) hx hb dX7_endDo_93 (by decide) (fun c34 => ?_) (fun c34 => ?_)
  ·
    replace hf := (if_pos c34).symm.trans hf
    refine lv_aload_n hx hb dX7_endDo_100 rfl (lv_at hl 1 rfl) ?_
    refine cG_35 hx hb hts i_X7_endDo_X7 hown hK hC (hts (.fieldLink RX7 14 "StatementRules2$Statements" "opens" "LStatementRules2$Opens;") k_X7_endDo_fieldLink_RX7_14_SR_Statements_opens_LSR_Opens) (fun _ q9 => q9) dX7_endDo_101 ?_
    refine lv_aload_n hx hb dX7_endDo_104 rfl (lv_at hl 2 rfl) ?_
    refine lv_iconst (v := 0) hx hb dX7_endDo_105 (by decide) ?_
    obtain ⟨p35, hcp35, hf⟩ := hf_bind hf
    have mo36 : CS.hs p30.2 ≤ CS.hs p35.2 := Mono.go hcp35 (m_X6_isGoneTo N p30.2 x1 0)
    have hr9 : CS.hs p35.2 ≤ CS.hs R.2 := Mono.go hf (mono_ite (mono_some (Nat.le_refl _)) (mono_some (Nat.le_refl _)))
    have hFc := cFree hC hA
    refine va_calli (va_runV (As := [.ref x1, .int 0]) (rest := [.ref (Q.o 3)]) ⟨hx, hb, hml, hown, hts⟩ (c_X6_isGoneTo l dC dI Q N p30.2 x1 0 p35 hcp35) (cwV 2 hts hX7_endDo_X6_isGoneTo_v362 rfl rfl rfl (by decide +kernel) ⟨(show 2 + 1 ≤ (14 + 40 * d) by omega), (show 8 + (4 + 11) + 60 * 2 ≤ 60 * (14 + 40 * d) by omega)⟩) ⟨zPre.blind, va_recv hK hC.1 (ci := 5) (q0 := 6) rfl rfl, cPre_go hZ hK hC⟩ rfl rfl hl.1 rfl (lv_room (Nat.le_of_ble_eq_true rfl)) dX7_endDo_106 (cAcc h33 mo36 hr9)) hC.2.2.1 (fun q _ h => hFc q h) hFc (fun r37 u9 t9 H1 locs ht hvm hw hB hz1 hk1 hS => ?_)
    obtain ⟨⟨hP, hK1, hD1⟩, hsz1⟩ := hB
    rw [ht] at hP hsz1
    have hC : CP dC dI Q A s.heap p35.2 H1 locs := ⟨hP, hD1.weaken (fun _ _ _ h => hFc _ h), hS, hsz1⟩
    generalize H1 = H at hC ⊢
    have h38 : z9h ≤ CS.hs p35.2 := Nat.le_trans h33 mo36
    refine W.widen (k := CS.hs p35.2 - z9h) (n := 17 * (CS.hs p35.2 - z9h)) (cAcc2 h33 mo36) (cAcc3 h33 mo36) ?_
    obtain rfl : r37 = p35.1 := hw
    refine lv_if_eq (tgt := 116) hx hb dX7_endDo_109 (by decide) (fun c39 => ?_) (fun c39 => ?_)
    ·
      replace hf := (if_pos c39).symm.trans hf
      refine lv_iconst (v := 0) hx hb dX7_endDo_116 (by decide) ?_
      refine cP_36 (v := 0) hx hb hts i_X7_endDo_X7 hown hK hC (hts (.fieldLink RX7 61 "StatementRules2$Statements" "alive" "Z") k_X7_endDo_fieldLink_RX7_61_SR_Statements_alive_Z) (fun _ q9 => q9) dX7_endDo_117 (by decide) (fun H locs hC => ?_)
      obtain rfl := Option.some.inj hf
      exact W.vret hx hb hr (fun t ht hW => ⟨⟨(), rfl, trivial, ⟨by rw [ht]; exact hC.1, va_K.moved hW.alike hK, hC.2.1⟩, by rw [ht]; exact hC.2.2.2⟩, hC.2.2.1.F ht⟩) hC.2.2.1.2.2 dX7_endDo_120
    ·
      replace hf := (if_neg c39).symm.trans hf
      refine lv_iconst (v := 1) hx hb dX7_endDo_112 (by decide) ?_
      refine lv_goto (tgt := 117) hx hb dX7_endDo_113 (by decide) ?_
      refine cP_36 (v := 1) hx hb hts i_X7_endDo_X7 hown hK hC (hts (.fieldLink RX7 61 "StatementRules2$Statements" "alive" "Z") k_X7_endDo_fieldLink_RX7_61_SR_Statements_alive_Z) (fun _ q9 => q9) dX7_endDo_117 (by decide) (fun H locs hC => ?_)
      obtain rfl := Option.some.inj hf
      exact W.vret hx hb hr (fun t ht hW => ⟨⟨(), rfl, trivial, ⟨by rw [ht]; exact hC.1, va_K.moved hW.alike hK, hC.2.1⟩, by rw [ht]; exact hC.2.2.2⟩, hC.2.2.1.F ht⟩) hC.2.2.1.2.2 dX7_endDo_120
  ·
    replace hf := (if_neg c34).symm.trans hf
    refine lv_iload_n hx hb dX7_endDo_96 rfl (lv_at hl 0 rfl) ?_
    refine lv_if_eq (tgt := 112) hx hb dX7_endDo_97 (by decide) (fun c40 => ?_) (fun c40 => ?_)
    ·
      replace hf := (if_pos c40).symm.trans hf
      refine lv_iconst (v := 1) hx hb dX7_endDo_112 (by decide) ?_
      refine lv_goto (tgt := 117) hx hb dX7_endDo_113 (by decide) ?_
      refine cP_36 (v := 1) hx hb hts i_X7_endDo_X7 hown hK hC (hts (.fieldLink RX7 61 "StatementRules2$Statements" "alive" "Z") k_X7_endDo_fieldLink_RX7_61_SR_Statements_alive_Z) (fun _ q9 => q9) dX7_endDo_117 (by decide) (fun H locs hC => ?_)
      obtain rfl := Option.some.inj hf
      exact W.vret hx hb hr (fun t ht hW => ⟨⟨(), rfl, trivial, ⟨by rw [ht]; exact hC.1, va_K.moved hW.alike hK, hC.2.1⟩, by rw [ht]; exact hC.2.2.2⟩, hC.2.2.1.F ht⟩) hC.2.2.1.2.2 dX7_endDo_120
    ·
      replace hf := (if_neg c40).symm.trans hf
      refine lv_aload_n hx hb dX7_endDo_100 rfl (lv_at hl 1 rfl) ?_
      refine cG_35 hx hb hts i_X7_endDo_X7 hown hK hC (hts (.fieldLink RX7 14 "StatementRules2$Statements" "opens" "LStatementRules2$Opens;") k_X7_endDo_fieldLink_RX7_14_SR_Statements_opens_LSR_Opens) (fun _ q9 => q9) dX7_endDo_101 ?_
      refine lv_aload_n hx hb dX7_endDo_104 rfl (lv_at hl 2 rfl) ?_
      refine lv_iconst (v := 0) hx hb dX7_endDo_105 (by decide) ?_
      obtain ⟨p41, hcp41, hf⟩ := hf_bind hf
      have mo42 : CS.hs p30.2 ≤ CS.hs p41.2 := Mono.go hcp41 (m_X6_isGoneTo N p30.2 x1 0)
      have hr9 : CS.hs p41.2 ≤ CS.hs R.2 := Mono.go hf (mono_ite (mono_some (Nat.le_refl _)) (mono_some (Nat.le_refl _)))
      have hFc := cFree hC hA
      refine va_calli (va_runV (As := [.ref x1, .int 0]) (rest := [.ref (Q.o 3)]) ⟨hx, hb, hml, hown, hts⟩ (c_X6_isGoneTo l dC dI Q N p30.2 x1 0 p41 hcp41) (cwV 2 hts hX7_endDo_X6_isGoneTo_v362 rfl rfl rfl (by decide +kernel) ⟨(show 2 + 1 ≤ (14 + 40 * d) by omega), (show 8 + (4 + 11) + 60 * 2 ≤ 60 * (14 + 40 * d) by omega)⟩) ⟨zPre.blind, va_recv hK hC.1 (ci := 5) (q0 := 6) rfl rfl, cPre_go hZ hK hC⟩ rfl rfl hl.1 rfl (lv_room (Nat.le_of_ble_eq_true rfl)) dX7_endDo_106 (cAcc h33 mo42 hr9)) hC.2.2.1 (fun q _ h => hFc q h) hFc (fun r43 u9 t9 H1 locs ht hvm hw hB hz1 hk1 hS => ?_)
      obtain ⟨⟨hP, hK1, hD1⟩, hsz1⟩ := hB
      rw [ht] at hP hsz1
      have hC : CP dC dI Q A s.heap p41.2 H1 locs := ⟨hP, hD1.weaken (fun _ _ _ h => hFc _ h), hS, hsz1⟩
      generalize H1 = H at hC ⊢
      have h44 : z9h ≤ CS.hs p41.2 := Nat.le_trans h33 mo42
      refine W.widen (k := CS.hs p41.2 - z9h) (n := 17 * (CS.hs p41.2 - z9h)) (cAcc2 h33 mo42) (cAcc3 h33 mo42) ?_
      obtain rfl : r43 = p41.1 := hw
      refine lv_if_eq (tgt := 116) hx hb dX7_endDo_109 (by decide) (fun c45 => ?_) (fun c45 => ?_)
      ·
        replace hf := (if_pos c45).symm.trans hf
        refine lv_iconst (v := 0) hx hb dX7_endDo_116 (by decide) ?_
        refine cP_36 (v := 0) hx hb hts i_X7_endDo_X7 hown hK hC (hts (.fieldLink RX7 61 "StatementRules2$Statements" "alive" "Z") k_X7_endDo_fieldLink_RX7_61_SR_Statements_alive_Z) (fun _ q9 => q9) dX7_endDo_117 (by decide) (fun H locs hC => ?_)
        obtain rfl := Option.some.inj hf
        exact W.vret hx hb hr (fun t ht hW => ⟨⟨(), rfl, trivial, ⟨by rw [ht]; exact hC.1, va_K.moved hW.alike hK, hC.2.1⟩, by rw [ht]; exact hC.2.2.2⟩, hC.2.2.1.F ht⟩) hC.2.2.1.2.2 dX7_endDo_120
      ·
        replace hf := (if_neg c45).symm.trans hf
        refine lv_iconst (v := 1) hx hb dX7_endDo_112 (by decide) ?_
        refine lv_goto (tgt := 117) hx hb dX7_endDo_113 (by decide) ?_
        refine cP_36 (v := 1) hx hb hts i_X7_endDo_X7 hown hK hC (hts (.fieldLink RX7 61 "StatementRules2$Statements" "alive" "Z") k_X7_endDo_fieldLink_RX7_61_SR_Statements_alive_Z) (fun _ q9 => q9) dX7_endDo_117 (by decide) (fun H locs hC => ?_)
        obtain rfl := Option.some.inj hf
        exact W.vret hx hb hr (fun t ht hW => ⟨⟨(), rfl, trivial, ⟨by rw [ht]; exact hC.1, va_K.moved hW.alike hK, hC.2.1⟩, by rw [ht]; exact hC.2.2.2⟩, hC.2.2.1.F ht⟩) hC.2.2.1.2.2 dX7_endDo_120
set_option maxHeartbeats 4000000 in
set_option maxRecDepth 100000 in
theorem j_X7_endDo_19 {p : Program} {e : Env} {s : State} {m : MethodId} {args : Array Value} {below : List Frame} {meth : Method} {c : Code} {A : Nat → Prop} (l : Launch) (dC : Nat → ClassId) (dI : Nat → Nat → Nat) (Q : CQ) (N : Nat) (d : Nat) (E1 : CS → Option (Unit × CS)) (E2 : CS → Option (Int32 × CS)) (hE1 : cMF l dC dI Q d E1) (hE2 : cMO l dC dI Q d E2) (hm1 : ∀ σ, Mono (CS.hs σ) (E1 σ)) (hm2 : ∀ σ, Mono (CS.hs σ) (E2 σ)) (z9h : Nat) (R : Unit × CS) (hx : p.tables.exec = Jvm.exec) (hb : c.code = cX7_endDo) (hr : meth.sig.returnType = none) (hml : c.maxLocals = 4) (hown : s.vm.findClass RX7 = some m.cls) (hts : ∀ w ∈ wzX7_endDo, w.before args s = true) (hlocks : meth.locks = false) (hZ : zAMB s) (hA : ∀ q : Nat, s.heap.size ≤ q → A q) (hK : va_K (dC, dI) vwCl (cT Q) s) : ∀ (σ : CS) (x1 : Nat) (H : Heap) (locs : List Loc) (ls : Array Slot), f_X7_endDo_19 N E1 E2 σ x1 = some R → z9h ≤ CS.hs σ → CP dC dI Q A s.heap σ H locs → lv_has ls 4 [(0, .ref (Q.o 3)), (1, .ref x1)] → W p l e ({ frames := (14 + 40 * d), cells := CS.hs R.2 - z9h, slots := 17 * (CS.hs R.2 - z9h), locals := 60 * (14 + 40 * d) }) s m args below meth c H locs (CS.hs σ - z9h) (17 * (CS.hs σ - z9h)) (MQ below (va_Qv (fun (_ : Unit) => True) (fun (_ : Unit) (t : State) => zPost dC dI A (cW Q R.2) (cT Q) t ∧ t.heap.size = CS.hs R.2) A) args s (CS.hs R.2 - z9h) (17 * (CS.hs R.2 - z9h)) A) (F0 m 19 ls []) := by
  intro σ x1 H locs ls hf h0 hC hl
  unfold f_X7_endDo_19 at hf
  refine lv_iconst (v := 1) hx hb dX7_endDo_19 (by decide) ?_
  refine lv_goto (tgt := 24) hx hb dX7_endDo_20 (by decide) ?_
  refine lv_istore_n (lv' := [(2, .int 1), (0, .ref (Q.o 3)), (1, .ref x1)]) hx hb dX7_endDo_24 rfl hl (by decide) rfl (fun ls hl => ?_)
  exact j_X7_endDo_25 l dC dI Q N d E1 E2 hE1 hE2 hm1 hm2 z9h R hx hb hr hml hown hts hlocks hZ hA hK σ x1 1 _ _ _ hf h0 hC (lv_sub hl [1, 2, 0] rfl)
set_option maxHeartbeats 4000000 in
set_option maxRecDepth 100000 in
theorem c_X7_endDo (l : Launch) (dC : Nat → ClassId) (dI : Nat → Nat → Nat) (Q : CQ) (N : Nat) (d : Nat) (E1 : CS → Option (Unit × CS)) (E2 : CS → Option (Int32 × CS)) (hE1 : cMF l dC dI Q d E1) (hE2 : cMO l dC dI Q d E2) (hm1 : ∀ σ, Mono (CS.hs σ) (E1 σ)) (hm2 : ∀ σ, Mono (CS.hs σ) (E2 σ)) (σ : CS) (x1 : Nat) (R : Unit × CS) (hf : f_X7_endDo N E1 E2 σ x1 = some R) : Met l yX7_endDo wzX7_endDo ({ frames := (14 + 40 * d), cells := CS.hs R.2 - CS.hs σ, slots := 17 * (CS.hs R.2 - CS.hs σ), locals := 60 * (14 + 40 * d) }) (va_Pc [.ref (Q.o 3), .ref x1] (zPre dC dI (CS.hs σ) (cW Q σ) (cT Q))) (va_Qv (fun (_ : Unit) => True) (fun (_ : Unit) (t : State) => zPost dC dI (va_A (cW Q σ) (CS.hs σ)) (cW Q R.2) (cT Q) t ∧ t.heap.size = CS.hs R.2) (va_A (cW Q σ) (CS.hs σ))) (CS.hs R.2 - CS.hs σ) (17 * (CS.hs R.2 - CS.hs σ)) (va_A (cW Q σ) (CS.hs σ)) := by
  refine Met.ofW (cc := cX7_endDo) (maxL := 4) (ret := none) (by decide) rfl ?_
  intro p e s m args below meth c s₁ B hml hv
  obtain ⟨rfl, hsz, hZ, hP, hK, hD0⟩ := hv
  have hx := B.exec
  have hb := B.bytes
  have hr := B.returns
  have hts := atoms_spec (ws := wzX7_endDo) B.pre
  have hown : s.vm.findClass RX7 = some m.cls := findClass_of_methodNamed B.named
  have hlocks := B.notSynchronized
  have hD := hD0.self (sz := CS.hs σ)
  generalize hAe : va_A (cW Q σ) (CS.hs σ) = A at hD ⊢
  have hA : ∀ q : Nat, s.heap.size ≤ q → A q := fun q h => by rw [← hAe]; exact Or.inr (hsz ▸ h)
  have hC : CP dC dI Q A s.heap σ s.heap [] := ⟨hP, hD, va_S.rf, hsz⟩
  have h0 : CS.hs σ ≤ CS.hs σ := Nat.le_refl _
  have hl := lv_entry ([.ref (Q.o 3), .ref x1]) (n := 4) (Nat.le_of_ble_eq_true rfl)
  rw [lg_entry_eq]
  generalize (lg_sl ([.ref (Q.o 3), .ref x1]) ++ List.replicate (4 - (lg_sl ([.ref (Q.o 3), .ref x1])).length) Slot.unset).toArray = ls at hl ⊢
  have hl : lv_has ls 4 [(0, .ref (Q.o 3)), (1, .ref x1)] := hl
  unfold f_X7_endDo at hf
  refine W.widen (k := CS.hs σ - CS.hs σ) (n := 17 * (CS.hs σ - CS.hs σ)) (Nat.zero_le _) (Nat.zero_le _) ?_
  refine lv_aload_n hx hb dX7_endDo_0 rfl (lv_at hl 0 rfl) ?_
  refine cG_36 (v := (σ.i 36)) hx hb hts i_X7_endDo_X7 hown hK hC (hts (.fieldLink RX7 61 "StatementRules2$Statements" "alive" "Z") k_X7_endDo_fieldLink_RX7_61_SR_Statements_alive_Z) (fun _ q9 => q9) dX7_endDo_1 rfl ?_
  refine lv_if_ne (tgt := 19) hx hb dX7_endDo_4 (by decide) (fun c1 => ?_) (fun c1 => ?_)
  ·
    replace hf := (if_neg c1).symm.trans hf
    exact j_X7_endDo_19 l dC dI Q N d E1 E2 hE1 hE2 hm1 hm2 (CS.hs σ) R hx hb hr hml hown hts hlocks hZ hA hK σ x1 _ _ _ hf h0 hC (lv_sub hl [0, 1] rfl)
  ·
    replace hf := (if_pos c1).symm.trans hf
    refine lv_aload_n hx hb dX7_endDo_7 rfl (lv_at hl 0 rfl) ?_
    refine cG_35 hx hb hts i_X7_endDo_X7 hown hK hC (hts (.fieldLink RX7 14 "StatementRules2$Statements" "opens" "LStatementRules2$Opens;") k_X7_endDo_fieldLink_RX7_14_SR_Statements_opens_LSR_Opens) (fun _ q9 => q9) dX7_endDo_8 ?_
    refine lv_aload_n hx hb dX7_endDo_11 rfl (lv_at hl 1 rfl) ?_
    refine lv_iconst (v := 1) hx hb dX7_endDo_12 (by decide) ?_
    obtain ⟨p46, hcp46, hf⟩ := hf_bind hf
    have mo47 : CS.hs σ ≤ CS.hs p46.2 := Mono.go hcp46 (m_X6_isGoneTo N σ x1 1)
    have hr9 : CS.hs p46.2 ≤ CS.hs R.2 := Mono.go hf (mono_ite (m_X7_endDo_25 N E1 E2 hm1 hm2 p46.2 x1 0) (m_X7_endDo_19 N E1 E2 hm1 hm2 p46.2 x1))
    have hFc := cFree hC hA
    refine va_calli (va_runV (As := [.ref x1, .int 1]) (rest := []) ⟨hx, hb, hml, hown, hts⟩ (c_X6_isGoneTo l dC dI Q N σ x1 1 p46 hcp46) (cwV 2 hts hX7_endDo_X6_isGoneTo_v362 rfl rfl rfl (by decide +kernel) ⟨(show 2 + 1 ≤ (14 + 40 * d) by omega), (show 8 + (4 + 11) + 60 * 2 ≤ 60 * (14 + 40 * d) by omega)⟩) ⟨zPre.blind, va_recv hK hC.1 (ci := 5) (q0 := 6) rfl rfl, cPre_go hZ hK hC⟩ rfl rfl hl.1 rfl (lv_room (Nat.le_of_ble_eq_true rfl)) dX7_endDo_13 (cAcc h0 mo47 hr9)) hC.2.2.1 (fun q _ h => hFc q h) hFc (fun r48 u9 t9 H1 locs ht hvm hw hB hz1 hk1 hS => ?_)
    obtain ⟨⟨hP, hK1, hD1⟩, hsz1⟩ := hB
    rw [ht] at hP hsz1
    have hC : CP dC dI Q A s.heap p46.2 H1 locs := ⟨hP, hD1.weaken (fun _ _ _ h => hFc _ h), hS, hsz1⟩
    generalize H1 = H at hC ⊢
    have h49 : (CS.hs σ) ≤ CS.hs p46.2 := Nat.le_trans h0 mo47
    refine W.widen (k := CS.hs p46.2 - (CS.hs σ)) (n := 17 * (CS.hs p46.2 - (CS.hs σ))) (cAcc2 h0 mo47) (cAcc3 h0 mo47) ?_
    obtain rfl : r48 = p46.1 := hw
    refine lv_if_eq (tgt := 23) hx hb dX7_endDo_16 (by decide) (fun c50 => ?_) (fun c50 => ?_)
    ·
      replace hf := (if_pos c50).symm.trans hf
      refine lv_iconst (v := 0) hx hb dX7_endDo_23 (by decide) ?_
      refine lv_istore_n (lv' := [(2, .int 0), (0, .ref (Q.o 3)), (1, .ref x1)]) hx hb dX7_endDo_24 rfl hl (by decide) rfl (fun ls hl => ?_)
      exact j_X7_endDo_25 l dC dI Q N d E1 E2 hE1 hE2 hm1 hm2 (CS.hs σ) R hx hb hr hml hown hts hlocks hZ hA hK p46.2 x1 0 _ _ _ hf h49 hC (lv_sub hl [1, 2, 0] rfl)
    ·
      replace hf := (if_neg c50).symm.trans hf
      exact j_X7_endDo_19 l dC dI Q N d E1 E2 hE1 hE2 hm1 hm2 (CS.hs σ) R hx hb hr hml hown hts hlocks hZ hA hK p46.2 x1 _ _ _ hf h49 hC (lv_sub hl [0, 1] rfl)
theorem i_X7_endBody_X5 : ∀ w ∈ wsX50, w ∈ wzX7_endBody := fun _ h => List.mem_cons_of_mem _ (List.mem_append_right _ (List.mem_append_right _ (List.mem_append_right _ (List.mem_append_right _ (List.mem_append_right _ (List.mem_append_right _ (List.mem_append_right _ (List.mem_append_right _ (List.mem_append_right _ (List.mem_append_right _ (List.mem_append_right _ (List.mem_append_right _ (List.mem_append_right _ (List.mem_append_right _ (List.mem_append_right _ (List.mem_append_right _ (List.mem_append_right _ (List.mem_append_right _ (List.mem_append_right _ (List.mem_append_right _ (List.mem_append_right _ (List.mem_append_right _ (List.mem_append_right _ (List.mem_append_right _ (List.mem_append_right _ (List.mem_append_right _ (List.mem_append_right _ (List.mem_append_right _ (List.mem_append_right _ (List.mem_append_right _ (List.mem_append_right _ (List.mem_append_right _ (List.mem_append_right _ (List.mem_append_right _ (List.mem_append_right _ (List.mem_append_right _ (List.mem_append_right _ (List.mem_append_right _ (List.mem_append_right _ (List.mem_append_right _ (List.mem_append_right _ (List.mem_append_left _ (h)))))))))))))))))))))))))))))))))))))))))))
theorem k_X7_endBody_fieldLink_RX7_20_SR_Statements_code_LSR_Code : Cond.fieldLink RX7 20 "StatementRules2$Statements" "code" "LStatementRules2$Code;" ∈ wzX7_endBody := List.mem_cons_of_mem _ (List.mem_append_right _ (List.mem_append_right _ (List.mem_append_right _ (List.mem_append_right _ (List.mem_append_right _ (List.mem_append_right _ (List.mem_append_right _ (List.mem_append_right _ (List.mem_append_right _ (List.mem_append_right _ (List.mem_append_right _ (List.mem_append_right _ (List.mem_append_right _ (List.mem_append_right _ (List.mem_append_right _ (List.mem_append_right _ (List.mem_append_right _ (List.mem_append_right _ (List.mem_append_right _ (List.mem_append_right _ (List.mem_append_right _ (List.mem_append_right _ (List.mem_append_right _ (List.mem_append_left _ (List.mem_of_getElem? (i := 0) rfl)))))))))))))))))))))))))
theorem k_X7_endBody_sameField_SR_Statements_SR_Formulas_code_LSR_Code : Cond.sameField "StatementRules2$Statements" "StatementRules2$Formulas" "code" "LStatementRules2$Code;" ∈ wzX7_endBody := List.mem_cons_of_mem _ (List.mem_append_right _ (List.mem_append_right _ (List.mem_append_right _ (List.mem_append_right _ (List.mem_append_right _ (List.mem_append_right _ (List.mem_append_right _ (List.mem_append_right _ (List.mem_append_right _ (List.mem_append_right _ (List.mem_append_right _ (List.mem_append_right _ (List.mem_append_right _ (List.mem_append_right _ (List.mem_append_right _ (List.mem_append_right _ (List.mem_append_right _ (List.mem_append_right _ (List.mem_append_right _ (List.mem_append_right _ (List.mem_append_right _ (List.mem_append_right _ (List.mem_append_right _ (List.mem_append_left _ (List.mem_of_getElem? (i := 1) rfl)))))))))))))))))))))))))
theorem i_X7_endBody_X7 : ∀ w ∈ wsX70, w ∈ wzX7_endBody := fun _ h => List.mem_cons_of_mem _ (List.mem_append_right _ (List.mem_append_right _ (List.mem_append_right _ (List.mem_append_right _ (List.mem_append_right _ (List.mem_append_right _ (List.mem_append_right _ (List.mem_append_right _ (List.mem_append_right _ (List.mem_append_right _ (List.mem_append_right _ (List.mem_append_right _ (List.mem_append_right _ (List.mem_append_right _ (List.mem_append_right _ (List.mem_append_right _ (List.mem_append_right _ (List.mem_append_right _ (List.mem_append_right _ (List.mem_append_right _ (List.mem_append_right _ (List.mem_append_right _ (List.mem_append_right _ (List.mem_append_right _ (List.mem_append_right _ (List.mem_append_right _ (List.mem_append_right _ (List.mem_append_right _ (List.mem_append_right _ (List.mem_append_right _ (List.mem_append_right _ (List.mem_append_right _ (List.mem_append_right _ (List.mem_append_right _ (List.mem_append_right _ (List.mem_append_right _ (List.mem_append_left _ (h))))))))))))))))))))))))))))))))))))))
theorem k_X7_endBody_fieldLink_RX7_61_SR_Statements_alive_Z : Cond.fieldLink RX7 61 "StatementRules2$Statements" "alive" "Z" ∈ wzX7_endBody := List.mem_cons_of_mem _ (List.mem_append_right _ (List.mem_append_right _ (List.mem_append_right _ (List.mem_append_right _ (List.mem_append_right _ (List.mem_append_right _ (List.mem_append_right _ (List.mem_append_right _ (List.mem_append_right _ (List.mem_append_right _ (List.mem_append_right _ (List.mem_append_right _ (List.mem_append_right _ (List.mem_append_right _ (List.mem_append_right _ (List.mem_append_right _ (List.mem_append_right _ (List.mem_append_right _ (List.mem_append_right _ (List.mem_append_right _ (List.mem_append_right _ (List.mem_append_right _ (List.mem_append_right _ (List.mem_append_left _ (List.mem_of_getElem? (i := 2) rfl)))))))))))))))))))))))))
theorem k_X7_endBody_fieldLink_RX7_29_SR_Statements_names_LSR_Names : Cond.fieldLink RX7 29 "StatementRules2$Statements" "names" "LStatementRules2$Names;" ∈ wzX7_endBody := List.mem_cons_of_mem _ (List.mem_append_right _ (List.mem_append_right _ (List.mem_append_right _ (List.mem_append_right _ (List.mem_append_right _ (List.mem_append_right _ (List.mem_append_right _ (List.mem_append_right _ (List.mem_append_right _ (List.mem_append_right _ (List.mem_append_right _ (List.mem_append_right _ (List.mem_append_right _ (List.mem_append_right _ (List.mem_append_right _ (List.mem_append_right _ (List.mem_append_right _ (List.mem_append_right _ (List.mem_append_right _ (List.mem_append_right _ (List.mem_append_right _ (List.mem_append_right _ (List.mem_append_right _ (List.mem_append_left _ (List.mem_of_getElem? (i := 3) rfl)))))))))))))))))))))))))
theorem k_X7_endBody_sameField_SR_Statements_SR_Formulas_names_LSR_Names : Cond.sameField "StatementRules2$Statements" "StatementRules2$Formulas" "names" "LStatementRules2$Names;" ∈ wzX7_endBody := List.mem_cons_of_mem _ (List.mem_append_right _ (List.mem_append_right _ (List.mem_append_right _ (List.mem_append_right _ (List.mem_append_right _ (List.mem_append_right _ (List.mem_append_right _ (List.mem_append_right _ (List.mem_append_right _ (List.mem_append_right _ (List.mem_append_right _ (List.mem_append_right _ (List.mem_append_right _ (List.mem_append_right _ (List.mem_append_right _ (List.mem_append_right _ (List.mem_append_right _ (List.mem_append_right _ (List.mem_append_right _ (List.mem_append_right _ (List.mem_append_right _ (List.mem_append_right _ (List.mem_append_right _ (List.mem_append_left _ (List.mem_of_getElem? (i := 4) rfl)))))))))))))))))))))))))
theorem i_X7_endBody_X4 : ∀ w ∈ wsX40, w ∈ wzX7_endBody := fun _ h => List.mem_cons_of_mem _ (List.mem_append_right _ (List.mem_append_right _ (List.mem_append_right _ (List.mem_append_right _ (List.mem_append_right _ (List.mem_append_right _ (List.mem_append_right _ (List.mem_append_right _ (List.mem_append_right _ (List.mem_append_right _ (List.mem_append_right _ (List.mem_append_right _ (List.mem_append_right _ (List.mem_append_right _ (List.mem_append_right _ (List.mem_append_right _ (List.mem_append_right _ (List.mem_append_right _ (List.mem_append_right _ (List.mem_append_right _ (List.mem_append_right _ (List.mem_append_right _ (List.mem_append_right _ (List.mem_append_right _ (List.mem_append_right _ (List.mem_append_right _ (List.mem_append_right _ (List.mem_append_right _ (List.mem_append_right _ (List.mem_append_right _ (List.mem_append_right _ (List.mem_append_right _ (List.mem_append_right _ (List.mem_append_right _ (List.mem_append_right _ (List.mem_append_right _ (List.mem_append_right _ (List.mem_append_right _ (List.mem_append_right _ (List.mem_append_right _ (List.mem_append_left _ (h))))))))))))))))))))))))))))))))))))))))))
theorem k_X7_endBody_fieldLink_RX7_14_SR_Statements_opens_LSR_Opens : Cond.fieldLink RX7 14 "StatementRules2$Statements" "opens" "LStatementRules2$Opens;" ∈ wzX7_endBody := List.mem_cons_of_mem _ (List.mem_append_right _ (List.mem_append_right _ (List.mem_append_right _ (List.mem_append_right _ (List.mem_append_right _ (List.mem_append_right _ (List.mem_append_right _ (List.mem_append_right _ (List.mem_append_right _ (List.mem_append_right _ (List.mem_append_right _ (List.mem_append_right _ (List.mem_append_right _ (List.mem_append_right _ (List.mem_append_right _ (List.mem_append_right _ (List.mem_append_right _ (List.mem_append_right _ (List.mem_append_right _ (List.mem_append_right _ (List.mem_append_right _ (List.mem_append_right _ (List.mem_append_right _ (List.mem_append_left _ (List.mem_of_getElem? (i := 5) rfl)))))))))))))))))))))))))
set_option maxHeartbeats 4000000 in
set_option maxRecDepth 100000 in
theorem j_X7_endBody_193 {p : Program} {e : Env} {s : State} {m : MethodId} {args : Array Value} {below : List Frame} {meth : Method} {c : Code} {A : Nat → Prop} (l : Launch) (dC : Nat → ClassId) (dI : Nat → Nat → Nat) (Q : CQ) (N : Nat) (d : Nat) (E1 : CS → Option (Unit × CS)) (E2 : CS → Option (Int32 × CS)) (hE1 : cMF l dC dI Q d E1) (hE2 : cMO l dC dI Q d E2) (hm1 : ∀ σ, Mono (CS.hs σ) (E1 σ)) (hm2 : ∀ σ, Mono (CS.hs σ) (E2 σ)) (z9h : Nat) (R : Unit × CS) (hx : p.tables.exec = Jvm.exec) (hb : c.code = cX7_endBody) (hr : meth.sig.returnType = none) (hml : c.maxLocals = 2) (hown : s.vm.findClass RX7 = some m.cls) (hts : ∀ w ∈ wzX7_endBody, w.before args s = true) (hlocks : meth.locks = false) (hZ : zAMB s) (hA : ∀ q : Nat, s.heap.size ≤ q → A q) (hK : va_K (dC, dI) vwCl (cT Q) s) : ∀ (σ : CS) (x1 : Nat) (H : Heap) (locs : List Loc) (ls : Array Slot), f_X7_endBody_193 N E1 E2 σ x1 = some R → z9h ≤ CS.hs σ → CP dC dI Q A s.heap σ H locs → lv_has ls 2 [(0, .ref (Q.o 3)), (1, .ref x1)] → W p l e ({ frames := (15 + 40 * d), cells := CS.hs R.2 - z9h, slots := 17 * (CS.hs R.2 - z9h), locals := 60 * (15 + 40 * d) }) s m args below meth c H locs (CS.hs σ - z9h) (17 * (CS.hs σ - z9h)) (MQ below (va_Qv (fun (_ : Unit) => True) (fun (_ : Unit) (t : State) => zPost dC dI A (cW Q R.2) (cT Q) t ∧ t.heap.size = CS.hs R.2) A) args s (CS.hs R.2 - z9h) (17 * (CS.hs R.2 - z9h)) A) (F0 m 193 ls []) := by
  intro σ x1 H locs ls hf h0 hC hl
  unfold f_X7_endBody_193 at hf
  refine lv_aload_n hx hb dX7_endBody_193 rfl (lv_at hl 0 rfl) ?_
  refine cG_31 hx hb hts i_X7_endBody_X7 hown hK hC (hts (.fieldLink RX7 29 "StatementRules2$Statements" "names" "LStatementRules2$Names;") k_X7_endBody_fieldLink_RX7_29_SR_Statements_names_LSR_Names) (fun x9 q9 => u_same (hts (.sameField "StatementRules2$Statements" "StatementRules2$Formulas" "names" "LStatementRules2$Names;") k_X7_endBody_sameField_SR_Statements_SR_Formulas_names_LSR_Names) x9 q9) dX7_endBody_194 ?_
  refine lv_aload_n hx hb dX7_endBody_197 rfl (lv_at hl 1 rfl) ?_
  obtain ⟨b13, hf⟩ := hf_ite hf
  refine pGN_X5_3 (v := (CS.o σ x1 3)) hx hb hts i_X7_endBody_X5 hown hK hC (va_Nw.use rfl (hZ.1 (.fieldLinkNest RX7 338 "StatementRules2$Open" "namesBefore" "I" "StatementRules2") (by decide +kernel))) (fun _ q9 => q9) dX7_endBody_198 b13 rfl ?_
  refine cPN_50 (v := (CS.o σ x1 3)) hx hb hts i_X7_endBody_X4 hown hK hC (va_Nw.use rfl (hZ.1 (.fieldLinkNest RX7 33 "StatementRules2$Names" "count" "I" "StatementRules2") (by decide +kernel))) (fun _ q9 => q9) dX7_endBody_201 (fun H locs hC => ?_)
  refine lv_aload_n hx hb dX7_endBody_204 rfl (lv_at hl 0 rfl) ?_
  refine cG_35 hx hb hts i_X7_endBody_X7 hown hK hC (hts (.fieldLink RX7 14 "StatementRules2$Statements" "opens" "LStatementRules2$Opens;") k_X7_endBody_fieldLink_RX7_14_SR_Statements_opens_LSR_Opens) (fun _ q9 => q9) dX7_endBody_205 ?_
  obtain ⟨p14, hcp14, hf⟩ := hf_bind hf
  have mo15 : CS.hs σ ≤ CS.hs p14.2 := Mono.go hcp14 (m_X6_pop N (CS.setI σ 50 (CS.o σ x1 3)))
  have hr9 : CS.hs p14.2 ≤ CS.hs R.2 := Mono.go hf (mono_some (Nat.le_refl _))
  have hFc := cFree hC hA
  refine va_callv (va_runV (As := []) (rest := []) ⟨hx, hb, hml, hown, hts⟩ (c_X6_pop l dC dI Q N (CS.setI σ 50 (CS.o σ x1 3)) p14 hcp14) (cwV 0 hts hX7_endBody_X6_pop_v369 rfl rfl rfl (by decide +kernel) ⟨(show 1 + 1 ≤ (15 + 40 * d) by omega), (show 8 + (1 + 11) + 60 * 1 ≤ 60 * (15 + 40 * d) by omega)⟩) ⟨zPre.blind, va_recv hK hC.1 (ci := 5) (q0 := 6) rfl rfl, cPre_go hZ hK hC⟩ rfl rfl hl.1 rfl (lv_room (Nat.le_of_ble_eq_true rfl)) dX7_endBody_208 (cAcc h0 mo15 hr9)) hC.2.2.1 (fun q _ h => hFc q h) hFc (fun u9 t9 H1 locs ht hvm hw hB hz1 hk1 hS => ?_)
  obtain ⟨⟨hP, hK1, hD1⟩, hsz1⟩ := hB
  rw [ht] at hP hsz1
  have hC : CP dC dI Q A s.heap p14.2 H1 locs := ⟨hP, hD1.weaken (fun _ _ _ h => hFc _ h), hS, hsz1⟩
  generalize H1 = H at hC ⊢
  have h17 : z9h ≤ CS.hs p14.2 := Nat.le_trans h0 mo15
  refine W.widen (k := CS.hs p14.2 - z9h) (n := 17 * (CS.hs p14.2 - z9h)) (cAcc2 h0 mo15) (cAcc3 h0 mo15) ?_
  obtain rfl := Option.some.inj hf
  exact W.vret hx hb hr (fun t ht hW => ⟨⟨(), rfl, trivial, ⟨by rw [ht]; exact hC.1, va_K.moved hW.alike hK, hC.2.1⟩, by rw [ht]; exact hC.2.2.2⟩, hC.2.2.1.F ht⟩) hC.2.2.1.2.2 dX7_endBody_211
set_option maxHeartbeats 4000000 in
set_option maxRecDepth 100000 in
theorem j_X7_endBody_88 {p : Program} {e : Env} {s : State} {m : MethodId} {args : Array Value} {below : List Frame} {meth : Method} {c : Code} {A : Nat → Prop} (l : Launch) (dC : Nat → ClassId) (dI : Nat → Nat → Nat) (Q : CQ) (N : Nat) (d : Nat) (E1 : CS → Option (Unit × CS)) (E2 : CS → Option (Int32 × CS)) (hE1 : cMF l dC dI Q d E1) (hE2 : cMO l dC dI Q d E2) (hm1 : ∀ σ, Mono (CS.hs σ) (E1 σ)) (hm2 : ∀ σ, Mono (CS.hs σ) (E2 σ)) (z9h : Nat) (R : Unit × CS) (hx : p.tables.exec = Jvm.exec) (hb : c.code = cX7_endBody) (hr : meth.sig.returnType = none) (hml : c.maxLocals = 2) (hown : s.vm.findClass RX7 = some m.cls) (hts : ∀ w ∈ wzX7_endBody, w.before args s = true) (hlocks : meth.locks = false) (hZ : zAMB s) (hA : ∀ q : Nat, s.heap.size ≤ q → A q) (hK : va_K (dC, dI) vwCl (cT Q) s) : ∀ (σ : CS) (x1 : Nat) (H : Heap) (locs : List Loc) (ls : Array Slot), f_X7_endBody_88 N E1 E2 σ x1 = some R → z9h ≤ CS.hs σ → CP dC dI Q A s.heap σ H locs → lv_has ls 2 [(0, .ref (Q.o 3)), (1, .ref x1)] → W p l e ({ frames := (15 + 40 * d), cells := CS.hs R.2 - z9h, slots := 17 * (CS.hs R.2 - z9h), locals := 60 * (15 + 40 * d) }) s m args below meth c H locs (CS.hs σ - z9h) (17 * (CS.hs σ - z9h)) (MQ below (va_Qv (fun (_ : Unit) => True) (fun (_ : Unit) (t : State) => zPost dC dI A (cW Q R.2) (cT Q) t ∧ t.heap.size = CS.hs R.2) A) args s (CS.hs R.2 - z9h) (17 * (CS.hs R.2 - z9h)) A) (F0 m 88 ls []) := by
  intro σ x1 H locs ls hf h0 hC hl
  unfold f_X7_endBody_88 at hf
  refine lv_goto (tgt := 193) hx hb dX7_endBody_88 (by decide) ?_
  exact j_X7_endBody_193 l dC dI Q N d E1 E2 hE1 hE2 hm1 hm2 z9h R hx hb hr hml hown hts hlocks hZ hA hK σ x1 _ _ _ hf h0 hC (lv_sub hl [0, 1] rfl)
set_option maxHeartbeats 4000000 in
set_option maxRecDepth 100000 in
theorem j_X7_endBody_130 {p : Program} {e : Env} {s : State} {m : MethodId} {args : Array Value} {below : List Frame} {meth : Method} {c : Code} {A : Nat → Prop} (l : Launch) (dC : Nat → ClassId) (dI : Nat → Nat → Nat) (Q : CQ) (N : Nat) (d : Nat) (E1 : CS → Option (Unit × CS)) (E2 : CS → Option (Int32 × CS)) (hE1 : cMF l dC dI Q d E1) (hE2 : cMO l dC dI Q d E2) (hm1 : ∀ σ, Mono (CS.hs σ) (E1 σ)) (hm2 : ∀ σ, Mono (CS.hs σ) (E2 σ)) (z9h : Nat) (R : Unit × CS) (hx : p.tables.exec = Jvm.exec) (hb : c.code = cX7_endBody) (hr : meth.sig.returnType = none) (hml : c.maxLocals = 2) (hown : s.vm.findClass RX7 = some m.cls) (hts : ∀ w ∈ wzX7_endBody, w.before args s = true) (hlocks : meth.locks = false) (hZ : zAMB s) (hA : ∀ q : Nat, s.heap.size ≤ q → A q) (hK : va_K (dC, dI) vwCl (cT Q) s) : ∀ (σ : CS) (x1 : Nat) (H : Heap) (locs : List Loc) (ls : Array Slot), f_X7_endBody_130 N E1 E2 σ x1 = some R → z9h ≤ CS.hs σ → CP dC dI Q A s.heap σ H locs → lv_has ls 2 [(0, .ref (Q.o 3)), (1, .ref x1)] → W p l e ({ frames := (15 + 40 * d), cells := CS.hs R.2 - z9h, slots := 17 * (CS.hs R.2 - z9h), locals := 60 * (15 + 40 * d) }) s m args below meth c H locs (CS.hs σ - z9h) (17 * (CS.hs σ - z9h)) (MQ below (va_Qv (fun (_ : Unit) => True) (fun (_ : Unit) (t : State) => zPost dC dI A (cW Q R.2) (cT Q) t ∧ t.heap.size = CS.hs R.2) A) args s (CS.hs R.2 - z9h) (17 * (CS.hs R.2 - z9h)) A) (F0 m 130 ls []) := by
  intro σ x1 H locs ls hf h0 hC hl
  unfold f_X7_endBody_130 at hf
  refine lv_goto (tgt := 193) hx hb dX7_endBody_130 (by decide) ?_
  exact j_X7_endBody_193 l dC dI Q N d E1 E2 hE1 hE2 hm1 hm2 z9h R hx hb hr hml hown hts hlocks hZ hA hK σ x1 _ _ _ hf h0 hC (lv_sub hl [0, 1] rfl)
set_option maxHeartbeats 4000000 in
set_option maxRecDepth 100000 in
theorem c_X7_endBody (l : Launch) (dC : Nat → ClassId) (dI : Nat → Nat → Nat) (Q : CQ) (N : Nat) (d : Nat) (E1 : CS → Option (Unit × CS)) (E2 : CS → Option (Int32 × CS)) (hE1 : cMF l dC dI Q d E1) (hE2 : cMO l dC dI Q d E2) (hm1 : ∀ σ, Mono (CS.hs σ) (E1 σ)) (hm2 : ∀ σ, Mono (CS.hs σ) (E2 σ)) (σ : CS) (x1 : Nat) (R : Unit × CS) (hf : f_X7_endBody N E1 E2 σ x1 = some R) : Met l yX7_endBody wzX7_endBody ({ frames := (15 + 40 * d), cells := CS.hs R.2 - CS.hs σ, slots := 17 * (CS.hs R.2 - CS.hs σ), locals := 60 * (15 + 40 * d) }) (va_Pc [.ref (Q.o 3), .ref x1] (zPre dC dI (CS.hs σ) (cW Q σ) (cT Q))) (va_Qv (fun (_ : Unit) => True) (fun (_ : Unit) (t : State) => zPost dC dI (va_A (cW Q σ) (CS.hs σ)) (cW Q R.2) (cT Q) t ∧ t.heap.size = CS.hs R.2) (va_A (cW Q σ) (CS.hs σ))) (CS.hs R.2 - CS.hs σ) (17 * (CS.hs R.2 - CS.hs σ)) (va_A (cW Q σ) (CS.hs σ)) := by
  refine Met.ofW (cc := cX7_endBody) (maxL := 2) (ret := none) (by decide) rfl ?_
  intro p e s m args below meth c s₁ B hml hv
  obtain ⟨rfl, hsz, hZ, hP, hK, hD0⟩ := hv
  have hx := B.exec
  have hb := B.bytes
  have hr := B.returns
  have hts := atoms_spec (ws := wzX7_endBody) B.pre
  have hown : s.vm.findClass RX7 = some m.cls := findClass_of_methodNamed B.named
  have hlocks := B.notSynchronized
  have hD := hD0.self (sz := CS.hs σ)
  generalize hAe : va_A (cW Q σ) (CS.hs σ) = A at hD ⊢
  have hA : ∀ q : Nat, s.heap.size ≤ q → A q := fun q h => by rw [← hAe]; exact Or.inr (hsz ▸ h)
  have hC : CP dC dI Q A s.heap σ s.heap [] := ⟨hP, hD, va_S.rf, hsz⟩
  have h0 : CS.hs σ ≤ CS.hs σ := Nat.le_refl _
  have hl := lv_entry ([.ref (Q.o 3), .ref x1]) (n := 2) (Nat.le_of_ble_eq_true rfl)
  rw [lg_entry_eq]
  generalize (lg_sl ([.ref (Q.o 3), .ref x1]) ++ List.replicate (2 - (lg_sl ([.ref (Q.o 3), .ref x1])).length) Slot.unset).toArray = ls at hl ⊢
  have hl : lv_has ls 2 [(0, .ref (Q.o 3)), (1, .ref x1)] := hl
  unfold f_X7_endBody at hf
  refine W.widen (k := CS.hs σ - CS.hs σ) (n := 17 * (CS.hs σ - CS.hs σ)) (Nat.zero_le _) (Nat.zero_le _) ?_
  refine lv_aload_n hx hb dX7_endBody_0 rfl (lv_at hl 1 rfl) ?_
  obtain ⟨b1, hf⟩ := hf_ite hf
  refine pGN_X5_0 (v := (CS.o σ x1 0)) hx hb hts i_X7_endBody_X5 hown hK hC (va_Nw.use rfl (hZ.1 (.fieldLinkNest RX7 107 "StatementRules2$Open" "sort" "I" "StatementRules2") (by decide +kernel))) (fun _ q9 => q9) dX7_endBody_1 b1 rfl ?_
  by_cases c2 : (CS.o σ x1 0) = 203
  ·
    replace hf := (if_pos c2).symm.trans hf
    refine lv_lookup (off := 44) (tgt := 48) hx hb dX7_endBody_4 (by decide) (by rw [c2]; decide) (by decide) ?_
    refine lv_aload_n hx hb dX7_endBody_48 rfl (lv_at hl 0 rfl) ?_
    refine lv_aload_n hx hb dX7_endBody_49 rfl (lv_at hl 1 rfl) ?_
    obtain ⟨p3, hcp3, hf⟩ := hf_bind hf
    have mo4 : CS.hs σ ≤ CS.hs p3.2 := Mono.go hcp3 (m_X7_endIf N σ x1)
    have hr9 : CS.hs p3.2 ≤ CS.hs R.2 := Mono.go hf (mono_some (Nat.le_refl _))
    have hFc := cFree hC hA
    refine va_callv (va_runV (As := [.ref x1]) (rest := []) ⟨hx, hb, hml, hown, hts⟩ (c_X7_endIf l dC dI Q N σ x1 p3 hcp3) (cwV 1 hts hX7_endBody_X7_endIf_v356 rfl rfl rfl (by decide +kernel) ⟨(show 5 + 1 ≤ (15 + 40 * d) by omega), (show 8 + (2 + 11) + 60 * 5 ≤ 60 * (15 + 40 * d) by omega)⟩) ⟨zPre.blind, va_recv hK hC.1 (ci := 6) (q0 := 3) rfl rfl, cPre_go hZ hK hC⟩ rfl rfl hl.1 rfl (lv_room (Nat.le_of_ble_eq_true rfl)) dX7_endBody_50 (cAcc h0 mo4 hr9)) hC.2.2.1 (fun q _ h => hFc q h) hFc (fun u9 t9 H1 locs ht hvm hw hB hz1 hk1 hS => ?_)
    obtain ⟨⟨hP, hK1, hD1⟩, hsz1⟩ := hB
    rw [ht] at hP hsz1
    have hC : CP dC dI Q A s.heap p3.2 H1 locs := ⟨hP, hD1.weaken (fun _ _ _ h => hFc _ h), hS, hsz1⟩
    generalize H1 = H at hC ⊢
    have h6 : (CS.hs σ) ≤ CS.hs p3.2 := Nat.le_trans h0 mo4
    refine W.widen (k := CS.hs p3.2 - (CS.hs σ)) (n := 17 * (CS.hs p3.2 - (CS.hs σ))) (cAcc2 h0 mo4) (cAcc3 h0 mo4) ?_
    obtain rfl := Option.some.inj hf
    exact W.vret hx hb hr (fun t ht hW => ⟨⟨(), rfl, trivial, ⟨by rw [ht]; exact hC.1, va_K.moved hW.alike hK, hC.2.1⟩, by rw [ht]; exact hC.2.2.2⟩, hC.2.2.1.F ht⟩) hC.2.2.1.2.2 dX7_endBody_53
  replace hf := (if_neg c2).symm.trans hf
  by_cases c7 : (CS.o σ x1 0) = 204
  ·
    replace hf := (if_pos c7).symm.trans hf
    refine lv_lookup (off := 50) (tgt := 54) hx hb dX7_endBody_4 (by decide) (by rw [c7]; decide) (by decide) ?_
    refine lv_aload_n hx hb dX7_endBody_54 rfl (lv_at hl 0 rfl) ?_
    refine cG_29 hx hb hts i_X7_endBody_X7 hown hK hC (hts (.fieldLink RX7 20 "StatementRules2$Statements" "code" "LStatementRules2$Code;") k_X7_endBody_fieldLink_RX7_20_SR_Statements_code_LSR_Code) (fun x9 q9 => u_same (hts (.sameField "StatementRules2$Statements" "StatementRules2$Formulas" "code" "LStatementRules2$Code;") k_X7_endBody_sameField_SR_Statements_SR_Formulas_code_LSR_Code) x9 q9) dX7_endBody_55 ?_
    refine lv_aload_n hx hb dX7_endBody_58 rfl (lv_at hl 1 rfl) ?_
    refine pGN_X5_9 (v := (CS.o σ x1 9)) hx hb hts i_X7_endBody_X5 hown hK hC (va_Nw.use rfl (hZ.1 (.fieldLinkNest RX7 196 "StatementRules2$Open" "exit" "I" "StatementRules2") (by decide +kernel))) (fun _ q9 => q9) dX7_endBody_59 b1 rfl ?_
    obtain ⟨p8, hcp8, hf⟩ := hf_bind hf
    have mo9 : CS.hs σ ≤ CS.hs p8.2 := Mono.go hcp8 (m_X0_aim N σ (CS.o σ x1 9))
    have hr9 : CS.hs p8.2 ≤ CS.hs R.2 := Mono.go hf (mono_ite (mono_ite (mono_ite (m_X7_endBody_88 N E1 E2 hm1 hm2 (CS.setI p8.2 36 0) x1) (m_X7_endBody_88 N E1 E2 hm1 hm2 (CS.setI p8.2 36 1) x1)) mono_none) (m_X7_endBody_88 N E1 E2 hm1 hm2 (CS.setI p8.2 36 1) x1))
    have hFc := cFree hC hA
    refine va_callv (va_runV (As := [.int (CS.o σ x1 9)]) (rest := []) ⟨hx, hb, hml, hown, hts⟩ (c_X0_aim l dC dI Q N σ (CS.o σ x1 9) p8 hcp8) (cwV 1 hts hX7_endBody_X0_aim_v158 rfl rfl rfl (by decide +kernel) ⟨(show 2 + 1 ≤ (15 + 40 * d) by omega), (show 8 + (2 + 11) + 60 * 2 ≤ 60 * (15 + 40 * d) by omega)⟩) ⟨zPre.blind, va_recv hK hC.1 (ci := 0) (q0 := 2) rfl rfl, cPre_go hZ hK hC⟩ rfl rfl hl.1 rfl (lv_room (Nat.le_of_ble_eq_true rfl)) dX7_endBody_62 (cAcc h0 mo9 hr9)) hC.2.2.1 (fun q _ h => hFc q h) hFc (fun u9 t9 H1 locs ht hvm hw hB hz1 hk1 hS => ?_)
    obtain ⟨⟨hP, hK1, hD1⟩, hsz1⟩ := hB
    rw [ht] at hP hsz1
    have hC : CP dC dI Q A s.heap p8.2 H1 locs := ⟨hP, hD1.weaken (fun _ _ _ h => hFc _ h), hS, hsz1⟩
    generalize H1 = H at hC ⊢
    have h11 : (CS.hs σ) ≤ CS.hs p8.2 := Nat.le_trans h0 mo9
    refine W.widen (k := CS.hs p8.2 - (CS.hs σ)) (n := 17 * (CS.hs p8.2 - (CS.hs σ))) (cAcc2 h0 mo9) (cAcc3 h0 mo9) ?_
    refine lv_aload_n hx hb dX7_endBody_65 rfl (lv_at hl 0 rfl) ?_
    refine lv_aload_n hx hb dX7_endBody_66 rfl (lv_at hl 0 rfl) ?_
    refine cG_36 (v := (p8.2.i 36)) hx hb hts i_X7_endBody_X7 hown hK hC (hts (.fieldLink RX7 61 "StatementRules2$Statements" "alive" "Z") k_X7_endBody_fieldLink_RX7_61_SR_Statements_alive_Z) (fun _ q9 => q9) dX7_endBody_67 rfl ?_
    refine lv_if_ne (tgt := 80) hx hb dX7_endBody_70 (by decide) (fun c12 => ?_) (fun c12 => ?_)
    ·
      replace hf := (if_neg c12).symm.trans hf
      refine lv_iconst (v := 1) hx hb dX7_endBody_80 (by decide) ?_
      refine lv_goto (tgt := 85) hx hb dX7_endBody_81 (by decide) ?_
      refine cP_36 (v := 1) hx hb hts i_X7_endBody_X7 hown hK hC (hts (.fieldLink RX7 61 "StatementRules2$Statements" "alive" "Z") k_X7_endBody_fieldLink_RX7_61_SR_Statements_alive_Z) (fun _ q9 => q9) dX7_endBody_85 (by decide) (fun H locs hC => ?_)
      exact j_X7_endBody_88 l dC dI Q N d E1 E2 hE1 hE2 hm1 hm2 (CS.hs σ) R hx hb hr hml hown hts hlocks hZ hA hK (CS.setI p8.2 36 1) x1 _ _ _ hf h11 hC (lv_sub hl [0, 1] rfl)
    ·
      replace hf := (if_pos c12).symm.trans hf
      refine lv_aload_n hx hb dX7_endBody_73 rfl (lv_at hl 1 rfl) ?_
      obtain ⟨b18, hf⟩ := hf_ite hf
      refine pGN_X5_6 (v := (CS.o p8.2 x1 6)) hx hb hts i_X7_endBody_X5 hown hK hC (va_Nw.use rfl (hZ.1 (.fieldLinkNest RX7 359 "StatementRules2$Open" "ends" "Z" "StatementRules2") (by decide +kernel))) (fun _ q9 => q9) dX7_endBody_74 b18 rfl ?_
      refine lv_if_eq (tgt := 84) hx hb dX7_endBody_77 (by decide) (fun c19 => ?_) (fun c19 => ?_)
      ·
        replace hf := (if_pos c19).symm.trans hf
        refine lv_iconst (v := 0) hx hb dX7_endBody_84 (by decide) ?_
        refine cP_36 (v := 0) hx hb hts i_X7_endBody_X7 hown hK hC (hts (.fieldLink RX7 61 "StatementRules2$Statements" "alive" "Z") k_X7_endBody_fieldLink_RX7_61_SR_Statements_alive_Z) (fun _ q9 => q9) dX7_endBody_85 (by decide) (fun H locs hC => ?_)
        exact j_X7_endBody_88 l dC dI Q N d E1 E2 hE1 hE2 hm1 hm2 (CS.hs σ) R hx hb hr hml hown hts hlocks hZ hA hK (CS.setI p8.2 36 0) x1 _ _ _ hf h11 hC (lv_sub hl [0, 1] rfl)
      ·
        replace hf := (if_neg c19).symm.trans hf
        refine lv_iconst (v := 1) hx hb dX7_endBody_80 (by decide) ?_
        refine lv_goto (tgt := 85) hx hb dX7_endBody_81 (by decide) ?_
        refine cP_36 (v := 1) hx hb hts i_X7_endBody_X7 hown hK hC (hts (.fieldLink RX7 61 "StatementRules2$Statements" "alive" "Z") k_X7_endBody_fieldLink_RX7_61_SR_Statements_alive_Z) (fun _ q9 => q9) dX7_endBody_85 (by decide) (fun H locs hC => ?_)
        exact j_X7_endBody_88 l dC dI Q N d E1 E2 hE1 hE2 hm1 hm2 (CS.hs σ) R hx hb hr hml hown hts hlocks hZ hA hK (CS.setI p8.2 36 1) x1 _ _ _ hf h11 hC (lv_sub hl [0, 1] rfl)
  replace hf := (if_neg c7).symm.trans hf
  by_cases c20 : (CS.o σ x1 0) = 206
  ·
    replace hf := (if_pos c20).symm.trans hf
    refine lv_lookup (off := 129) (tgt := 133) hx hb dX7_endBody_4 (by decide) (by rw [c20]; decide) (by decide) ?_
    refine lv_aload_n hx hb dX7_endBody_133 rfl (lv_at hl 0 rfl) ?_
    refine lv_aload_n hx hb dX7_endBody_134 rfl (lv_at hl 1 rfl) ?_
    obtain ⟨p21, hcp21, hf⟩ := hf_bind hf
    have mo22 : CS.hs σ ≤ CS.hs p21.2 := Mono.go hcp21 (m_X7_endDo N E1 E2 hm1 hm2 σ x1)
    have hr9 : CS.hs p21.2 ≤ CS.hs R.2 := Mono.go hf (m_X7_endBody_193 N E1 E2 hm1 hm2 p21.2 x1)
    have hFc := cFree hC hA
    refine va_callv (va_runV (As := [.ref x1]) (rest := []) ⟨hx, hb, hml, hown, hts⟩ (c_X7_endDo l dC dI Q N d E1 E2 hE1 hE2 hm1 hm2 σ x1 p21 hcp21) (cwV 1 hts hX7_endBody_X7_endDo_v366 rfl rfl rfl (by decide +kernel) ⟨(show (14 + 40 * d) + 1 ≤ (15 + 40 * d) by omega), (show 8 + (4 + 11) + 60 * (14 + 40 * d) ≤ 60 * (15 + 40 * d) by omega)⟩) ⟨zPre.blind, va_recv hK hC.1 (ci := 6) (q0 := 3) rfl rfl, cPre_go hZ hK hC⟩ rfl rfl hl.1 rfl (lv_room (Nat.le_of_ble_eq_true rfl)) dX7_endBody_135 (cAcc h0 mo22 hr9)) hC.2.2.1 (fun q _ h => hFc q h) hFc (fun u9 t9 H1 locs ht hvm hw hB hz1 hk1 hS => ?_)
    obtain ⟨⟨hP, hK1, hD1⟩, hsz1⟩ := hB
    rw [ht] at hP hsz1
    have hC : CP dC dI Q A s.heap p21.2 H1 locs := ⟨hP, hD1.weaken (fun _ _ _ h => hFc _ h), hS, hsz1⟩
    generalize H1 = H at hC ⊢
    have h24 : (CS.hs σ) ≤ CS.hs p21.2 := Nat.le_trans h0 mo22
    refine W.widen (k := CS.hs p21.2 - (CS.hs σ)) (n := 17 * (CS.hs p21.2 - (CS.hs σ))) (cAcc2 h0 mo22) (cAcc3 h0 mo22) ?_
    refine lv_goto (tgt := 193) hx hb dX7_endBody_138 (by decide) ?_
    exact j_X7_endBody_193 l dC dI Q N d E1 E2 hE1 hE2 hm1 hm2 (CS.hs σ) R hx hb hr hml hown hts hlocks hZ hA hK p21.2 x1 _ _ _ hf h24 hC (lv_sub hl [0, 1] rfl)
  replace hf := (if_neg c20).symm.trans hf
  by_cases c25 : (CS.o σ x1 0) = 303
  ·
    replace hf := (if_pos c25).symm.trans hf
    refine lv_lookup (off := 87) (tgt := 91) hx hb dX7_endBody_4 (by decide) (by rw [c25]; decide) (by decide) ?_
    refine lv_aload_n hx hb dX7_endBody_91 rfl (lv_at hl 0 rfl) ?_
    refine cG_29 hx hb hts i_X7_endBody_X7 hown hK hC (hts (.fieldLink RX7 20 "StatementRules2$Statements" "code" "LStatementRules2$Code;") k_X7_endBody_fieldLink_RX7_20_SR_Statements_code_LSR_Code) (fun x9 q9 => u_same (hts (.sameField "StatementRules2$Statements" "StatementRules2$Formulas" "code" "LStatementRules2$Code;") k_X7_endBody_sameField_SR_Statements_SR_Formulas_code_LSR_Code) x9 q9) dX7_endBody_92 ?_
    refine lv_aload_n hx hb dX7_endBody_95 rfl (lv_at hl 1 rfl) ?_
    refine pGN_X5_9 (v := (CS.o σ x1 9)) hx hb hts i_X7_endBody_X5 hown hK hC (va_Nw.use rfl (hZ.1 (.fieldLinkNest RX7 196 "StatementRules2$Open" "exit" "I" "StatementRules2") (by decide +kernel))) (fun _ q9 => q9) dX7_endBody_96 b1 rfl ?_
    obtain ⟨p26, hcp26, hf⟩ := hf_bind hf
    have mo27 : CS.hs σ ≤ CS.hs p26.2 := Mono.go hcp26 (m_X0_aim N σ (CS.o σ x1 9))
    have hr9 : CS.hs p26.2 ≤ CS.hs R.2 := Mono.go hf (mono_ite (mono_bind (m_X6_isGoneTo N p26.2 x1 0) (fun p31 => (mono_ite (m_X7_endBody_130 N E1 E2 hm1 hm2 (CS.setI p31.2 36 0) x1) (m_X7_endBody_130 N E1 E2 hm1 hm2 (CS.setI p31.2 36 1) x1)))) (m_X7_endBody_130 N E1 E2 hm1 hm2 (CS.setI p26.2 36 1) x1))
    have hFc := cFree hC hA
    refine va_callv (va_runV (As := [.int (CS.o σ x1 9)]) (rest := []) ⟨hx, hb, hml, hown, hts⟩ (c_X0_aim l dC dI Q N σ (CS.o σ x1 9) p26 hcp26) (cwV 1 hts hX7_endBody_X0_aim_v158 rfl rfl rfl (by decide +kernel) ⟨(show 2 + 1 ≤ (15 + 40 * d) by omega), (show 8 + (2 + 11) + 60 * 2 ≤ 60 * (15 + 40 * d) by omega)⟩) ⟨zPre.blind, va_recv hK hC.1 (ci := 0) (q0 := 2) rfl rfl, cPre_go hZ hK hC⟩ rfl rfl hl.1 rfl (lv_room (Nat.le_of_ble_eq_true rfl)) dX7_endBody_99 (cAcc h0 mo27 hr9)) hC.2.2.1 (fun q _ h => hFc q h) hFc (fun u9 t9 H1 locs ht hvm hw hB hz1 hk1 hS => ?_)
    obtain ⟨⟨hP, hK1, hD1⟩, hsz1⟩ := hB
    rw [ht] at hP hsz1
    have hC : CP dC dI Q A s.heap p26.2 H1 locs := ⟨hP, hD1.weaken (fun _ _ _ h => hFc _ h), hS, hsz1⟩
    generalize H1 = H at hC ⊢
    have h29 : (CS.hs σ) ≤ CS.hs p26.2 := Nat.le_trans h0 mo27
    refine W.widen (k := CS.hs p26.2 - (CS.hs σ)) (n := 17 * (CS.hs p26.2 - (CS.hs σ))) (cAcc2 h0 mo27) (cAcc3 h0 mo27) ?_
    refine lv_aload_n hx hb dX7_endBody_102 rfl (lv_at hl 0 rfl) ?_
    refine lv_aload_n hx hb dX7_endBody_103 rfl (lv_at hl 0 rfl) ?_
    refine cG_36 (v := (p26.2.i 36)) hx hb hts i_X7_endBody_X7 hown hK hC (hts (.fieldLink RX7 61 "StatementRules2$Statements" "alive" "Z") k_X7_endBody_fieldLink_RX7_61_SR_Statements_alive_Z) (fun _ q9 => q9) dX7_endBody_104 rfl ?_
    refine lv_if_ne (tgt := 122) hx hb dX7_endBody_107 (by decide) (fun c30 => ?_) (fun c30 => ?_)
    ·
      replace hf := (if_neg c30).symm.trans hf
      refine lv_iconst (v := 1) hx hb dX7_endBody_122 (by decide) ?_
      refine lv_goto (tgt := 127) hx hb dX7_endBody_123 (by decide) ?_
      refine cP_36 (v := 1) hx hb hts i_X7_endBody_X7 hown hK hC (hts (.fieldLink RX7 61 "StatementRules2$Statements" "alive" "Z") k_X7_endBody_fieldLink_RX7_61_SR_Statements_alive_Z) (fun _ q9 => q9) dX7_endBody_127 (by decide) (fun H locs hC => ?_)
      exact j_X7_endBody_130 l dC dI Q N d E1 E2 hE1 hE2 hm1 hm2 (CS.hs σ) R hx hb hr hml hown hts hlocks hZ hA hK (CS.setI p26.2 36 1) x1 _ _ _ hf h29 hC (lv_sub hl [0, 1] rfl)
    ·
      replace hf := (if_pos c30).symm.trans hf
      refine lv_aload_n hx hb dX7_endBody_110 rfl (lv_at hl 0 rfl) ?_
      refine cG_35 hx hb hts i_X7_endBody_X7 hown hK hC (hts (.fieldLink RX7 14 "StatementRules2$Statements" "opens" "LStatementRules2$Opens;") k_X7_endBody_fieldLink_RX7_14_SR_Statements_opens_LSR_Opens) (fun _ q9 => q9) dX7_endBody_111 ?_
      refine lv_aload_n hx hb dX7_endBody_114 rfl (lv_at hl 1 rfl) ?_
      refine lv_iconst (v := 0) hx hb dX7_endBody_115 (by decide) ?_
      obtain ⟨p31, hcp31, hf⟩ := hf_bind hf
      have mo32 : CS.hs p26.2 ≤ CS.hs p31.2 := Mono.go hcp31 (m_X6_isGoneTo N p26.2 x1 0)
      have hr9 : CS.hs p31.2 ≤ CS.hs R.2 := Mono.go hf (mono_ite (m_X7_endBody_130 N E1 E2 hm1 hm2 (CS.setI p31.2 36 0) x1) (m_X7_endBody_130 N E1 E2 hm1 hm2 (CS.setI p31.2 36 1) x1))
      have hFc := cFree hC hA
      refine va_calli (va_runV (As := [.ref x1, .int 0]) (rest := [.ref (Q.o 3)]) ⟨hx, hb, hml, hown, hts⟩ (c_X6_isGoneTo l dC dI Q N p26.2 x1 0 p31 hcp31) (cwV 2 hts hX7_endBody_X6_isGoneTo_v362 rfl rfl rfl (by decide +kernel) ⟨(show 2 + 1 ≤ (15 + 40 * d) by omega), (show 8 + (4 + 11) + 60 * 2 ≤ 60 * (15 + 40 * d) by omega)⟩) ⟨zPre.blind, va_recv hK hC.1 (ci := 5) (q0 := 6) rfl rfl, cPre_go hZ hK hC⟩ rfl rfl hl.1 rfl (lv_room (Nat.le_of_ble_eq_true rfl)) dX7_endBody_116 (cAcc h29 mo32 hr9)) hC.2.2.1 (fun q _ h => hFc q h) hFc (fun r33 u9 t9 H1 locs ht hvm hw hB hz1 hk1 hS => ?_)
      obtain ⟨⟨hP, hK1, hD1⟩, hsz1⟩ := hB
      rw [ht] at hP hsz1
      have hC : CP dC dI Q A s.heap p31.2 H1 locs := ⟨hP, hD1.weaken (fun _ _ _ h => hFc _ h), hS, hsz1⟩
      generalize H1 = H at hC ⊢
      have h34 : (CS.hs σ) ≤ CS.hs p31.2 := Nat.le_trans h29 mo32
      refine W.widen (k := CS.hs p31.2 - (CS.hs σ)) (n := 17 * (CS.hs p31.2 - (CS.hs σ))) (cAcc2 h29 mo32) (cAcc3 h29 mo32) ?_
      obtain rfl : r33 = p31.1 := hw
      refine lv_if_eq (tgt := 126) hx hb dX7_endBody_119 (by decide) (fun c35 => ?_) (fun c35 => ?_)
      ·
        replace hf := (if_pos c35).symm.trans hf
        refine lv_iconst (v := 0) hx hb dX7_endBody_126 (by decide) ?_
        refine cP_36 (v := 0) hx hb hts i_X7_endBody_X7 hown hK hC (hts (.fieldLink RX7 61 "StatementRules2$Statements" "alive" "Z") k_X7_endBody_fieldLink_RX7_61_SR_Statements_alive_Z) (fun _ q9 => q9) dX7_endBody_127 (by decide) (fun H locs hC => ?_)
        exact j_X7_endBody_130 l dC dI Q N d E1 E2 hE1 hE2 hm1 hm2 (CS.hs σ) R hx hb hr hml hown hts hlocks hZ hA hK (CS.setI p31.2 36 0) x1 _ _ _ hf h34 hC (lv_sub hl [0, 1] rfl)
      ·
        replace hf := (if_neg c35).symm.trans hf
        refine lv_iconst (v := 1) hx hb dX7_endBody_122 (by decide) ?_
        refine lv_goto (tgt := 127) hx hb dX7_endBody_123 (by decide) ?_
        refine cP_36 (v := 1) hx hb hts i_X7_endBody_X7 hown hK hC (hts (.fieldLink RX7 61 "StatementRules2$Statements" "alive" "Z") k_X7_endBody_fieldLink_RX7_61_SR_Statements_alive_Z) (fun _ q9 => q9) dX7_endBody_127 (by decide) (fun H locs hC => ?_)
        exact j_X7_endBody_130 l dC dI Q N d E1 E2 hE1 hE2 hm1 hm2 (CS.hs σ) R hx hb hr hml hown hts hlocks hZ hA hK (CS.setI p31.2 36 1) x1 _ _ _ hf h34 hC (lv_sub hl [0, 1] rfl)
  replace hf := (if_neg c25).symm.trans hf
  refine lv_lookup (off := 137) (tgt := 141) hx hb dX7_endBody_4 (by decide) (by show Op.lookupswitch.offset [(203, 44), (204, 50), (206, 129), (303, 87)] 137 ((CS.o σ x1 0) : Int32).toInt = 137; rw [lv_osw (k := 203) (a := 203) c2 (by decide), lv_osw (k := 204) (a := 204) c7 (by decide), lv_osw (k := 206) (a := 206) c20 (by decide), lv_osw (k := 303) (a := 303) c25 (by decide)]; rfl) (by decide) ?_
  refine lv_aload_n hx hb dX7_endBody_141 rfl (lv_at hl 0 rfl) ?_
  refine cG_29 hx hb hts i_X7_endBody_X7 hown hK hC (hts (.fieldLink RX7 20 "StatementRules2$Statements" "code" "LStatementRules2$Code;") k_X7_endBody_fieldLink_RX7_20_SR_Statements_code_LSR_Code) (fun x9 q9 => u_same (hts (.sameField "StatementRules2$Statements" "StatementRules2$Formulas" "code" "LStatementRules2$Code;") k_X7_endBody_sameField_SR_Statements_SR_Formulas_code_LSR_Code) x9 q9) dX7_endBody_142 ?_
  refine lv_bipush (v := 30) hx hb dX7_endBody_145 (by decide) ?_
  refine lv_aload_n hx hb dX7_endBody_147 rfl (lv_at hl 1 rfl) ?_
  refine pGN_X5_10 (v := (CS.o σ x1 10)) hx hb hts i_X7_endBody_X5 hown hK hC (va_Nw.use rfl (hZ.1 (.fieldLinkNest RX7 284 "StatementRules2$Open" "next" "I" "StatementRules2") (by decide +kernel))) (fun _ q9 => q9) dX7_endBody_148 b1 rfl ?_
  obtain ⟨p36, hcp36, hf⟩ := hf_bind hf
  have mo37 : CS.hs σ ≤ CS.hs p36.2 := Mono.go hcp36 (m_X0_add N σ 30 (CS.o σ x1 10))
  have hr9 : CS.hs p36.2 ≤ CS.hs R.2 := Mono.go hf (mono_ite (mono_bind (m_X0_aim N p36.2 (CS.o p36.2 x1 9)) (fun p41 => (mono_ite (mono_ite (m_X7_endBody_193 N E1 E2 hm1 hm2 (CS.setI p41.2 36 1) x1) (mono_bind (m_X6_isGoneTo N p41.2 x1 0) (fun p47 => (mono_ite (m_X7_endBody_193 N E1 E2 hm1 hm2 (CS.setI p47.2 36 0) x1) (m_X7_endBody_193 N E1 E2 hm1 hm2 (CS.setI p47.2 36 1) x1))))) mono_none))) mono_none)
  have hFc := cFree hC hA
  refine va_callv (va_runV (As := [.int 30, .int (CS.o σ x1 10)]) (rest := []) ⟨hx, hb, hml, hown, hts⟩ (c_X0_add l dC dI Q N σ 30 (CS.o σ x1 10) p36 hcp36) (cwV 2 hts hX7_endBody_X0_add_v176 rfl rfl rfl (by decide +kernel) ⟨(show 2 + 1 ≤ (15 + 40 * d) by omega), (show 8 + (3 + 11) + 60 * 2 ≤ 60 * (15 + 40 * d) by omega)⟩) ⟨zPre.blind, va_recv hK hC.1 (ci := 0) (q0 := 2) rfl rfl, cPre_go hZ hK hC⟩ rfl rfl hl.1 rfl (lv_room (Nat.le_of_ble_eq_true rfl)) dX7_endBody_151 (cAcc h0 mo37 hr9)) hC.2.2.1 (fun q _ h => hFc q h) hFc (fun u9 t9 H1 locs ht hvm hw hB hz1 hk1 hS => ?_)
  obtain ⟨⟨hP, hK1, hD1⟩, hsz1⟩ := hB
  rw [ht] at hP hsz1
  have hC : CP dC dI Q A s.heap p36.2 H1 locs := ⟨hP, hD1.weaken (fun _ _ _ h => hFc _ h), hS, hsz1⟩
  generalize H1 = H at hC ⊢
  have h39 : (CS.hs σ) ≤ CS.hs p36.2 := Nat.le_trans h0 mo37
  refine W.widen (k := CS.hs p36.2 - (CS.hs σ)) (n := 17 * (CS.hs p36.2 - (CS.hs σ))) (cAcc2 h0 mo37) (cAcc3 h0 mo37) ?_
  refine lv_aload_n hx hb dX7_endBody_154 rfl (lv_at hl 0 rfl) ?_
  refine cG_29 hx hb hts i_X7_endBody_X7 hown hK hC (hts (.fieldLink RX7 20 "StatementRules2$Statements" "code" "LStatementRules2$Code;") k_X7_endBody_fieldLink_RX7_20_SR_Statements_code_LSR_Code) (fun x9 q9 => u_same (hts (.sameField "StatementRules2$Statements" "StatementRules2$Formulas" "code" "LStatementRules2$Code;") k_X7_endBody_sameField_SR_Statements_SR_Formulas_code_LSR_Code) x9 q9) dX7_endBody_155 ?_
  refine lv_aload_n hx hb dX7_endBody_158 rfl (lv_at hl 1 rfl) ?_
  obtain ⟨b40, hf⟩ := hf_ite hf
  refine pGN_X5_9 (v := (CS.o p36.2 x1 9)) hx hb hts i_X7_endBody_X5 hown hK hC (va_Nw.use rfl (hZ.1 (.fieldLinkNest RX7 196 "StatementRules2$Open" "exit" "I" "StatementRules2") (by decide +kernel))) (fun _ q9 => q9) dX7_endBody_159 b40 rfl ?_
  obtain ⟨p41, hcp41, hf⟩ := hf_bind hf
  have mo42 : CS.hs p36.2 ≤ CS.hs p41.2 := Mono.go hcp41 (m_X0_aim N p36.2 (CS.o p36.2 x1 9))
  have hr9 : CS.hs p41.2 ≤ CS.hs R.2 := Mono.go hf (mono_ite (mono_ite (m_X7_endBody_193 N E1 E2 hm1 hm2 (CS.setI p41.2 36 1) x1) (mono_bind (m_X6_isGoneTo N p41.2 x1 0) (fun p47 => (mono_ite (m_X7_endBody_193 N E1 E2 hm1 hm2 (CS.setI p47.2 36 0) x1) (m_X7_endBody_193 N E1 E2 hm1 hm2 (CS.setI p47.2 36 1) x1))))) mono_none)
  have hFc := cFree hC hA
  refine va_callv (va_runV (As := [.int (CS.o p36.2 x1 9)]) (rest := []) ⟨hx, hb, hml, hown, hts⟩ (c_X0_aim l dC dI Q N p36.2 (CS.o p36.2 x1 9) p41 hcp41) (cwV 1 hts hX7_endBody_X0_aim_v158 rfl rfl rfl (by decide +kernel) ⟨(show 2 + 1 ≤ (15 + 40 * d) by omega), (show 8 + (2 + 11) + 60 * 2 ≤ 60 * (15 + 40 * d) by omega)⟩) ⟨zPre.blind, va_recv hK hC.1 (ci := 0) (q0 := 2) rfl rfl, cPre_go hZ hK hC⟩ rfl rfl hl.1 rfl (lv_room (Nat.le_of_ble_eq_true rfl)) dX7_endBody_162 (cAcc h39 mo42 hr9)) hC.2.2.1 (fun q _ h => hFc q h) hFc (fun u9 t9 H1 locs ht hvm hw hB hz1 hk1 hS => ?_)
  obtain ⟨⟨hP, hK1, hD1⟩, hsz1⟩ := hB
  rw [ht] at hP hsz1
  have hC : CP dC dI Q A s.heap p41.2 H1 locs := ⟨hP, hD1.weaken (fun _ _ _ h => hFc _ h), hS, hsz1⟩
  generalize H1 = H at hC ⊢
  have h44 : (CS.hs σ) ≤ CS.hs p41.2 := Nat.le_trans h39 mo42
  refine W.widen (k := CS.hs p41.2 - (CS.hs σ)) (n := 17 * (CS.hs p41.2 - (CS.hs σ))) (cAcc2 h39 mo42) (cAcc3 h39 mo42) ?_
  refine lv_aload_n hx hb dX7_endBody_165 rfl (lv_at hl 0 rfl) ?_
  refine lv_aload_n hx hb dX7_endBody_166 rfl (lv_at hl 1 rfl) ?_
  obtain ⟨b45, hf⟩ := hf_ite hf
  refine pGN_X5_7 (v := (CS.o p41.2 x1 7)) hx hb hts i_X7_endBody_X5 hown hK hC (va_Nw.use rfl (hZ.1 (.fieldLinkNest RX7 324 "StatementRules2$Open" "never" "Z" "StatementRules2") (by decide +kernel))) (fun _ q9 => q9) dX7_endBody_167 b45 rfl ?_
  refine lv_if_eq (tgt := 185) hx hb dX7_endBody_170 (by decide) (fun c46 => ?_) (fun c46 => ?_)
  ·
    replace hf := (if_pos c46).symm.trans hf
    refine lv_iconst (v := 1) hx hb dX7_endBody_185 (by decide) ?_
    refine lv_goto (tgt := 190) hx hb dX7_endBody_186 (by decide) ?_
    refine cP_36 (v := 1) hx hb hts i_X7_endBody_X7 hown hK hC (hts (.fieldLink RX7 61 "StatementRules2$Statements" "alive" "Z") k_X7_endBody_fieldLink_RX7_61_SR_Statements_alive_Z) (fun _ q9 => q9) dX7_endBody_190 (by decide) (fun H locs hC => ?_)
    exact j_X7_endBody_193 l dC dI Q N d E1 E2 hE1 hE2 hm1 hm2 (CS.hs σ) R hx hb hr hml hown hts hlocks hZ hA hK (CS.setI p41.2 36 1) x1 _ _ _ hf h44 hC (lv_sub hl [0, 1] rfl)
  ·
    replace hf := (if_neg c46).symm.trans hf
    refine lv_aload_n hx hb dX7_endBody_173 rfl (lv_at hl 0 rfl) ?_
    refine cG_35 hx hb hts i_X7_endBody_X7 hown hK hC (hts (.fieldLink RX7 14 "StatementRules2$Statements" "opens" "LStatementRules2$Opens;") k_X7_endBody_fieldLink_RX7_14_SR_Statements_opens_LSR_Opens) (fun _ q9 => q9) dX7_endBody_174 ?_
    refine lv_aload_n hx hb dX7_endBody_177 rfl (lv_at hl 1 rfl) ?_
    refine lv_iconst (v := 0) hx hb dX7_endBody_178 (by decide) ?_
    obtain ⟨p47, hcp47, hf⟩ := hf_bind hf
    have mo48 : CS.hs p41.2 ≤ CS.hs p47.2 := Mono.go hcp47 (m_X6_isGoneTo N p41.2 x1 0)
    have hr9 : CS.hs p47.2 ≤ CS.hs R.2 := Mono.go hf (mono_ite (m_X7_endBody_193 N E1 E2 hm1 hm2 (CS.setI p47.2 36 0) x1) (m_X7_endBody_193 N E1 E2 hm1 hm2 (CS.setI p47.2 36 1) x1))
    have hFc := cFree hC hA
    refine va_calli (va_runV (As := [.ref x1, .int 0]) (rest := [.ref (Q.o 3)]) ⟨hx, hb, hml, hown, hts⟩ (c_X6_isGoneTo l dC dI Q N p41.2 x1 0 p47 hcp47) (cwV 2 hts hX7_endBody_X6_isGoneTo_v362 rfl rfl rfl (by decide +kernel) ⟨(show 2 + 1 ≤ (15 + 40 * d) by omega), (show 8 + (4 + 11) + 60 * 2 ≤ 60 * (15 + 40 * d) by omega)⟩) ⟨zPre.blind, va_recv hK hC.1 (ci := 5) (q0 := 6) rfl rfl, cPre_go hZ hK hC⟩ rfl rfl hl.1 rfl (lv_room (Nat.le_of_ble_eq_true rfl)) dX7_endBody_179 (cAcc h44 mo48 hr9)) hC.2.2.1 (fun q _ h => hFc q h) hFc (fun r49 u9 t9 H1 locs ht hvm hw hB hz1 hk1 hS => ?_)
    obtain ⟨⟨hP, hK1, hD1⟩, hsz1⟩ := hB
    rw [ht] at hP hsz1
    have hC : CP dC dI Q A s.heap p47.2 H1 locs := ⟨hP, hD1.weaken (fun _ _ _ h => hFc _ h), hS, hsz1⟩
    generalize H1 = H at hC ⊢
    have h50 : (CS.hs σ) ≤ CS.hs p47.2 := Nat.le_trans h44 mo48
    refine W.widen (k := CS.hs p47.2 - (CS.hs σ)) (n := 17 * (CS.hs p47.2 - (CS.hs σ))) (cAcc2 h44 mo48) (cAcc3 h44 mo48) ?_
    obtain rfl : r49 = p47.1 := hw
    refine lv_if_eq (tgt := 189) hx hb dX7_endBody_182 (by decide) (fun c51 => ?_) (fun c51 => ?_)
    ·
      replace hf := (if_pos c51).symm.trans hf
      refine lv_iconst (v := 0) hx hb dX7_endBody_189 (by decide) ?_
      refine cP_36 (v := 0) hx hb hts i_X7_endBody_X7 hown hK hC (hts (.fieldLink RX7 61 "StatementRules2$Statements" "alive" "Z") k_X7_endBody_fieldLink_RX7_61_SR_Statements_alive_Z) (fun _ q9 => q9) dX7_endBody_190 (by decide) (fun H locs hC => ?_)
      exact j_X7_endBody_193 l dC dI Q N d E1 E2 hE1 hE2 hm1 hm2 (CS.hs σ) R hx hb hr hml hown hts hlocks hZ hA hK (CS.setI p47.2 36 0) x1 _ _ _ hf h50 hC (lv_sub hl [0, 1] rfl)
    ·
      replace hf := (if_neg c51).symm.trans hf
      refine lv_iconst (v := 1) hx hb dX7_endBody_185 (by decide) ?_
      refine lv_goto (tgt := 190) hx hb dX7_endBody_186 (by decide) ?_
      refine cP_36 (v := 1) hx hb hts i_X7_endBody_X7 hown hK hC (hts (.fieldLink RX7 61 "StatementRules2$Statements" "alive" "Z") k_X7_endBody_fieldLink_RX7_61_SR_Statements_alive_Z) (fun _ q9 => q9) dX7_endBody_190 (by decide) (fun H locs hC => ?_)
      exact j_X7_endBody_193 l dC dI Q N d E1 E2 hE1 hE2 hm1 hm2 (CS.hs σ) R hx hb hr hml hown hts hlocks hZ hA hK (CS.setI p47.2 36 1) x1 _ _ _ hf h50 hC (lv_sub hl [0, 1] rfl)
end
