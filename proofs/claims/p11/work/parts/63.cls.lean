theorem k_X1_expression_fieldLink_RX1_18_SR_Formulas_tokens_LSR_Tokens : Cond.fieldLink RX1 18 "StatementRules2$Formulas" "tokens" "LStatementRules2$Tokens;" ∈ wzX1_expression := List.mem_cons_of_mem _ (List.mem_append_right _ (List.mem_append_right _ (List.mem_append_right _ (List.mem_append_right _ (List.mem_append_right _ (List.mem_append_right _ (List.mem_append_left _ (List.mem_of_getElem? (i := 0) rfl))))))))
theorem i_X1_expression_X7 : ∀ w ∈ wsX70, w ∈ wzX1_expression := fun _ h => List.mem_cons_of_mem _ (List.mem_append_right _ (List.mem_append_right _ (List.mem_append_right _ (List.mem_append_right _ (List.mem_append_right _ (List.mem_append_right _ (List.mem_append_right _ (List.mem_append_right _ (List.mem_append_right _ (List.mem_append_right _ (List.mem_append_right _ (List.mem_append_right _ (List.mem_append_right _ (List.mem_append_right _ (List.mem_append_right _ (List.mem_append_right _ (List.mem_append_right _ (List.mem_append_right _ (List.mem_append_right _ (List.mem_append_right _ (List.mem_append_right _ (List.mem_append_right _ (List.mem_append_right _ (List.mem_append_right _ (List.mem_append_right _ (List.mem_append_right _ (List.mem_append_right _ (List.mem_append_right _ (List.mem_append_right _ (List.mem_append_right _ (List.mem_append_right _ (List.mem_append_right _ (List.mem_append_right _ (List.mem_append_right _ (List.mem_append_right _ (List.mem_append_right _ (List.mem_append_left _ (h))))))))))))))))))))))))))))))))))))))
theorem k_X1_expression_fieldLink_RX1_22_SR_Formulas_code_LSR_Code : Cond.fieldLink RX1 22 "StatementRules2$Formulas" "code" "LStatementRules2$Code;" ∈ wzX1_expression := List.mem_cons_of_mem _ (List.mem_append_right _ (List.mem_append_right _ (List.mem_append_right _ (List.mem_append_right _ (List.mem_append_right _ (List.mem_append_right _ (List.mem_append_left _ (List.mem_of_getElem? (i := 1) rfl))))))))
set_option maxHeartbeats 4000000 in
set_option maxRecDepth 100000 in
theorem j_X1_expression_6 {p : Program} {e : Env} {s : State} {m : MethodId} {args : Array Value} {below : List Frame} {meth : Method} {c : Code} {A : Nat → Prop} (l : Launch) (dC : Nat → ClassId) (dI : Nat → Nat → Nat) (Q : CQ) (N : Nat) (d : Nat) (E1 : CS → Option (Unit × CS)) (E2 : CS → Option (Int32 × CS)) (hE1 : cMF l dC dI Q d E1) (hE2 : cMO l dC dI Q d E2) (hm1 : ∀ σ, Mono (CS.hs σ) (E1 σ)) (hm2 : ∀ σ, Mono (CS.hs σ) (E2 σ)) (z9h : Nat) (R : Unit × CS) (hx : p.tables.exec = Jvm.exec) (hb : c.code = cX1_expression) (hr : meth.sig.returnType = none) (hml : c.maxLocals = 3) (hown : s.vm.findClass RX1 = some m.cls) (hts : ∀ w ∈ wzX1_expression, w.before args s = true) (hlocks : meth.locks = false) (hZ : zAMB s) (hA : ∀ q : Nat, s.heap.size ≤ q → A q) (hK : va_K (dC, dI) vwCl (cT Q) s) : ∀ (n9 : Nat), ∀ (σ : CS) (x1 : Int32) (H : Heap) (locs : List Loc) (ls : Array Slot), f_X1_expression_6 N E1 E2 n9 σ x1 = some R → z9h ≤ CS.hs σ → CP dC dI Q A s.heap σ H locs → lv_has ls 3 [(0, .ref (Q.o 3)), (1, .int x1)] → W p l e ({ frames := (12 + 40 * d), cells := CS.hs R.2 - z9h, slots := 17 * (CS.hs R.2 - z9h), locals := 60 * (12 + 40 * d) }) s m args below meth c H locs (CS.hs σ - z9h) (17 * (CS.hs σ - z9h)) (MQ below (va_Qv (fun (_ : Unit) => True) (fun (_ : Unit) (t : State) => zPost dC dI A (cW Q R.2) (cT Q) t ∧ t.heap.size = CS.hs R.2) A) args s (CS.hs R.2 - z9h) (17 * (CS.hs R.2 - z9h)) A) (F0 m 6 ls []) := by
  intro n9
  induction n9 with
  | zero => intro σ x1 H locs ls hf; exact absurd hf (by intro q9; cases q9)
  | succ n9 ih =>
    intro σ x1 H locs ls hf h0 hC hl
    replace hf : b_X1_expression_6 N E1 E2 (f_X1_expression_6 N E1 E2 n9) σ x1 = some R := hf
    unfold b_X1_expression_6 at hf
    have hMK := fun (σ : CS) (x1 : Int32) => m_X1_expression_6 N E1 E2 hm1 hm2 n9 σ x1
    refine lv_iload_n hx hb dX1_expression_6 rfl (lv_at hl 1 rfl) ?_
    refine lv_sipush (v := 900) hx hb dX1_expression_7 (by decide) ?_
    refine lv_icmp_ge (tgt := 74) hx hb dX1_expression_10 (by decide) (fun c5 => ?_) (fun c5 => ?_)
    ·
      replace hf := (if_pos c5).symm.trans hf
      obtain rfl := Option.some.inj hf
      exact W.vret hx hb hr (fun t ht hW => ⟨⟨(), rfl, trivial, ⟨by rw [ht]; exact hC.1, va_K.moved hW.alike hK, hC.2.1⟩, by rw [ht]; exact hC.2.2.2⟩, hC.2.2.1.F ht⟩) hC.2.2.1.2.2 dX1_expression_74
    ·
      replace hf := (if_neg c5).symm.trans hf
      refine lv_aload_n hx hb dX1_expression_13 rfl (lv_at hl 0 rfl) ?_
      refine lv_bipush (v := 43) hx hb dX1_expression_14 (by decide) ?_
      obtain ⟨p6, hcp6, hf⟩ := hf_bind hf
      have mo7 : CS.hs σ ≤ CS.hs p6.2 := Mono.go hcp6 (m_X1_found N σ 43)
      have hr9 : CS.hs p6.2 ≤ CS.hs R.2 := Mono.go hf (mono_ite (mono_bind (m_X1_found N p6.2 45) (fun p40 => (mono_ite (mono_some (Nat.le_refl _)) (mono_bind (m_X1_found N p40.2 43) (fun p45 => (mono_ite (mono_bind (m_X9_advance N p45.2) (fun p50 => (mono_bind (m_X1_product N E1 E2 hm1 hm2 p50.2) (fun p54 => (mono_bind (m_X0_add N p54.2 8 0) (fun p58 => (hMK p58.2 (x1 + 1)))))))) (mono_bind (m_X9_advance N p45.2) (fun p62 => (mono_bind (m_X1_product N E1 E2 hm1 hm2 p62.2) (fun p66 => (mono_bind (m_X0_add N p66.2 7 0) (fun p70 => (hMK p70.2 (x1 + 1)))))))))))))) (mono_bind (m_X1_found N p6.2 43) (fun p11 => (mono_ite (mono_bind (m_X9_advance N p11.2) (fun p16 => (mono_bind (m_X1_product N E1 E2 hm1 hm2 p16.2) (fun p20 => (mono_bind (m_X0_add N p20.2 8 0) (fun p24 => (hMK p24.2 (x1 + 1)))))))) (mono_bind (m_X9_advance N p11.2) (fun p28 => (mono_bind (m_X1_product N E1 E2 hm1 hm2 p28.2) (fun p32 => (mono_bind (m_X0_add N p32.2 7 0) (fun p36 => (hMK p36.2 (x1 + 1))))))))))))
      have hFc := cFree hC hA
      refine va_calli (va_runU (As := [.int 43]) (rest := []) ⟨hx, hb, hml, hown, hts⟩ (c_X1_found l dC dI Q N σ 43 p6 hcp6) (va_cwU 1 hts hX1_expression_X1_found_u42 rfl rfl rfl rfl (by decide +kernel) ⟨(show 1 + 1 ≤ (12 + 40 * d) by omega), (show 8 + (2 + 11) + 60 * 1 ≤ 60 * (12 + 40 * d) by omega)⟩) ⟨zPre.blind, va_recv hK hC.1 (ci := 6) (q0 := 3) rfl rfl, cPre_go hZ hK hC⟩ rfl rfl hl.1 rfl (lv_room (Nat.le_of_ble_eq_true rfl)) dX1_expression_16 (cAcc h0 mo7 hr9)) hC.2.2.1 (fun q _ h => hFc q h) hFc (fun r8 u9 t9 H1 locs ht hvm hw hB hz1 hk1 hS => ?_)
      obtain ⟨⟨hP, hK1, hD1⟩, hsz1⟩ := hB
      rw [ht] at hP hsz1
      have hC : CP dC dI Q A s.heap p6.2 H1 locs := ⟨hP, hD1.weaken (fun _ _ _ h => hFc _ h), hS, hsz1⟩
      generalize H1 = H at hC ⊢
      have h9 : z9h ≤ CS.hs p6.2 := Nat.le_trans h0 mo7
      refine W.widen (k := CS.hs p6.2 - z9h) (n := 17 * (CS.hs p6.2 - z9h)) (cAcc2 h0 mo7) (cAcc3 h0 mo7) ?_
      obtain rfl : r8 = p6.1 := hw
      refine lv_if_ne (tgt := 31) hx hb dX1_expression_19 (by decide) (fun c10 => ?_) (fun c10 => ?_)
      ·
        replace hf := (if_neg c10).symm.trans hf
        refine lv_aload_n hx hb dX1_expression_31 rfl (lv_at hl 0 rfl) ?_
        refine lv_bipush (v := 43) hx hb dX1_expression_32 (by decide) ?_
        obtain ⟨p11, hcp11, hf⟩ := hf_bind hf
        have mo12 : CS.hs p6.2 ≤ CS.hs p11.2 := Mono.go hcp11 (m_X1_found N p6.2 43)
        have hr9 : CS.hs p11.2 ≤ CS.hs R.2 := Mono.go hf (mono_ite (mono_bind (m_X9_advance N p11.2) (fun p16 => (mono_bind (m_X1_product N E1 E2 hm1 hm2 p16.2) (fun p20 => (mono_bind (m_X0_add N p20.2 8 0) (fun p24 => (hMK p24.2 (x1 + 1)))))))) (mono_bind (m_X9_advance N p11.2) (fun p28 => (mono_bind (m_X1_product N E1 E2 hm1 hm2 p28.2) (fun p32 => (mono_bind (m_X0_add N p32.2 7 0) (fun p36 => (hMK p36.2 (x1 + 1)))))))))
        have hFc := cFree hC hA
        refine va_calli (va_runU (As := [.int 43]) (rest := []) ⟨hx, hb, hml, hown, hts⟩ (c_X1_found l dC dI Q N p6.2 43 p11 hcp11) (va_cwU 1 hts hX1_expression_X1_found_u42 rfl rfl rfl rfl (by decide +kernel) ⟨(show 1 + 1 ≤ (12 + 40 * d) by omega), (show 8 + (2 + 11) + 60 * 1 ≤ 60 * (12 + 40 * d) by omega)⟩) ⟨zPre.blind, va_recv hK hC.1 (ci := 6) (q0 := 3) rfl rfl, cPre_go hZ hK hC⟩ rfl rfl hl.1 rfl (lv_room (Nat.le_of_ble_eq_true rfl)) dX1_expression_34 (cAcc h9 mo12 hr9)) hC.2.2.1 (fun q _ h => hFc q h) hFc (fun r13 u9 t9 H1 locs ht hvm hw hB hz1 hk1 hS => ?_)
        obtain ⟨⟨hP, hK1, hD1⟩, hsz1⟩ := hB
        rw [ht] at hP hsz1
        have hC : CP dC dI Q A s.heap p11.2 H1 locs := ⟨hP, hD1.weaken (fun _ _ _ h => hFc _ h), hS, hsz1⟩
        generalize H1 = H at hC ⊢
        have h14 : z9h ≤ CS.hs p11.2 := Nat.le_trans h9 mo12
        refine W.widen (k := CS.hs p11.2 - z9h) (n := 17 * (CS.hs p11.2 - z9h)) (cAcc2 h9 mo12) (cAcc3 h9 mo12) ?_
        obtain rfl : r13 = p11.1 := hw
        refine lv_if_eq (tgt := 45) hx hb dX1_expression_37 (by decide) (fun c15 => ?_) (fun c15 => ?_)
        ·
          replace hf := (if_pos c15).symm.trans hf
          refine lv_bipush (v := 8) hx hb dX1_expression_45 (by decide) ?_
          refine lv_istore_n (lv' := [(2, .int 8), (0, .ref (Q.o 3)), (1, .int x1)]) hx hb dX1_expression_47 rfl hl (by decide) rfl (fun ls hl => ?_)
          refine lv_aload_n hx hb dX1_expression_48 rfl (lv_at hl 1 rfl) ?_
          refine cG_28 hx hb hts i_X1_expression_X7 hown hK hC (hts (.fieldLink RX1 18 "StatementRules2$Formulas" "tokens" "LStatementRules2$Tokens;") k_X1_expression_fieldLink_RX1_18_SR_Formulas_tokens_LSR_Tokens) (fun _ q9 => q9) dX1_expression_49 ?_
          obtain ⟨p16, hcp16, hf⟩ := hf_bind hf
          have mo17 : CS.hs p11.2 ≤ CS.hs p16.2 := Mono.go hcp16 (m_X9_advance N p11.2)
          have hr9 : CS.hs p16.2 ≤ CS.hs R.2 := Mono.go hf (mono_bind (m_X1_product N E1 E2 hm1 hm2 p16.2) (fun p20 => (mono_bind (m_X0_add N p20.2 8 0) (fun p24 => (hMK p24.2 (x1 + 1))))))
          have hFc := cFree hC hA
          refine va_callv (va_runV (As := []) (rest := []) ⟨hx, hb, hml, hown, hts⟩ (c_X9_advance l dC dI Q N p11.2 p16 hcp16) (cwV 0 hts hX1_expression_X9_advance_v56 rfl rfl rfl (by decide +kernel) ⟨(show 3 + 1 ≤ (12 + 40 * d) by omega), (show 8 + (2 + 11) + 60 * 3 ≤ 60 * (12 + 40 * d) by omega)⟩) ⟨zPre.blind, va_recv hK hC.1 (ci := 8) (q0 := 4) rfl rfl, cPre_go hZ hK hC⟩ rfl rfl hl.1 rfl (lv_room (Nat.le_of_ble_eq_true rfl)) dX1_expression_52 (cAcc h14 mo17 hr9)) hC.2.2.1 (fun q _ h => hFc q h) hFc (fun u9 t9 H1 locs ht hvm hw hB hz1 hk1 hS => ?_)
          obtain ⟨⟨hP, hK1, hD1⟩, hsz1⟩ := hB
          rw [ht] at hP hsz1
          have hC : CP dC dI Q A s.heap p16.2 H1 locs := ⟨hP, hD1.weaken (fun _ _ _ h => hFc _ h), hS, hsz1⟩
          generalize H1 = H at hC ⊢
          have h19 : z9h ≤ CS.hs p16.2 := Nat.le_trans h14 mo17
          refine W.widen (k := CS.hs p16.2 - z9h) (n := 17 * (CS.hs p16.2 - z9h)) (cAcc2 h14 mo17) (cAcc3 h14 mo17) ?_
          refine lv_aload_n hx hb dX1_expression_55 rfl (lv_at hl 1 rfl) ?_
          obtain ⟨p20, hcp20, hf⟩ := hf_bind hf
          have mo21 : CS.hs p16.2 ≤ CS.hs p20.2 := Mono.go hcp20 (m_X1_product N E1 E2 hm1 hm2 p16.2)
          have hr9 : CS.hs p20.2 ≤ CS.hs R.2 := Mono.go hf (mono_bind (m_X0_add N p20.2 8 0) (fun p24 => (hMK p24.2 (x1 + 1))))
          have hFc := cFree hC hA
          refine va_callv (va_runU (As := []) (rest := []) ⟨hx, hb, hml, hown, hts⟩ (c_X1_product l dC dI Q N d E1 E2 hE1 hE2 hm1 hm2 p16.2 p20 hcp20) (va_cwU 0 hts hX1_expression_X1_product_u65 rfl rfl rfl rfl (by decide +kernel) ⟨(show (11 + 40 * d) + 1 ≤ (12 + 40 * d) by omega), (show 8 + (3 + 11) + 60 * (11 + 40 * d) ≤ 60 * (12 + 40 * d) by omega)⟩) ⟨zPre.blind, va_recv hK hC.1 (ci := 6) (q0 := 3) rfl rfl, cPre_go hZ hK hC⟩ rfl rfl hl.1 rfl (lv_room (Nat.le_of_ble_eq_true rfl)) dX1_expression_56 (cAcc h19 mo21 hr9)) hC.2.2.1 (fun q _ h => hFc q h) hFc (fun u9 t9 H1 locs ht hvm hw hB hz1 hk1 hS => ?_)
          obtain ⟨⟨hP, hK1, hD1⟩, hsz1⟩ := hB
          rw [ht] at hP hsz1
          have hC : CP dC dI Q A s.heap p20.2 H1 locs := ⟨hP, hD1.weaken (fun _ _ _ h => hFc _ h), hS, hsz1⟩
          generalize H1 = H at hC ⊢
          have h23 : z9h ≤ CS.hs p20.2 := Nat.le_trans h19 mo21
          refine W.widen (k := CS.hs p20.2 - z9h) (n := 17 * (CS.hs p20.2 - z9h)) (cAcc2 h19 mo21) (cAcc3 h19 mo21) ?_
          refine lv_aload_n hx hb dX1_expression_59 rfl (lv_at hl 1 rfl) ?_
          refine cG_29 hx hb hts i_X1_expression_X7 hown hK hC (hts (.fieldLink RX1 22 "StatementRules2$Formulas" "code" "LStatementRules2$Code;") k_X1_expression_fieldLink_RX1_22_SR_Formulas_code_LSR_Code) (fun _ q9 => q9) dX1_expression_60 ?_
          refine lv_iload_n hx hb dX1_expression_63 rfl (lv_at hl 0 rfl) ?_
          refine lv_iconst (v := 0) hx hb dX1_expression_64 (by decide) ?_
          obtain ⟨p24, hcp24, hf⟩ := hf_bind hf
          have mo25 : CS.hs p20.2 ≤ CS.hs p24.2 := Mono.go hcp24 (m_X0_add N p20.2 8 0)
          have hr9 : CS.hs p24.2 ≤ CS.hs R.2 := Mono.go hf (hMK p24.2 (x1 + 1))
          have hFc := cFree hC hA
          refine va_callv (va_runV (As := [.int 8, .int 0]) (rest := []) ⟨hx, hb, hml, hown, hts⟩ (c_X0_add l dC dI Q N p20.2 8 0 p24 hcp24) (cwV 2 hts hX1_expression_X0_add_v68 rfl rfl rfl (by decide +kernel) ⟨(show 2 + 1 ≤ (12 + 40 * d) by omega), (show 8 + (3 + 11) + 60 * 2 ≤ 60 * (12 + 40 * d) by omega)⟩) ⟨zPre.blind, va_recv hK hC.1 (ci := 0) (q0 := 2) rfl rfl, cPre_go hZ hK hC⟩ rfl rfl hl.1 rfl (lv_room (Nat.le_of_ble_eq_true rfl)) dX1_expression_65 (cAcc h23 mo25 hr9)) hC.2.2.1 (fun q _ h => hFc q h) hFc (fun u9 t9 H1 locs ht hvm hw hB hz1 hk1 hS => ?_)
          obtain ⟨⟨hP, hK1, hD1⟩, hsz1⟩ := hB
          rw [ht] at hP hsz1
          have hC : CP dC dI Q A s.heap p24.2 H1 locs := ⟨hP, hD1.weaken (fun _ _ _ h => hFc _ h), hS, hsz1⟩
          generalize H1 = H at hC ⊢
          have h27 : z9h ≤ CS.hs p24.2 := Nat.le_trans h23 mo25
          refine W.widen (k := CS.hs p24.2 - z9h) (n := 17 * (CS.hs p24.2 - z9h)) (cAcc2 h23 mo25) (cAcc3 h23 mo25) ?_
          refine lv_iinc (v := (x1 + 1)) (lv' := [(1, .int (x1 + 1)), (2, .int 8), (0, .ref (Q.o 3))]) hx hb dX1_expression_68 hl (k := 2) rfl rfl (by decide) rfl (fun ls hl => ?_)
          refine lv_goto (tgt := 6) hx hb dX1_expression_71 (by decide) ?_
          exact ih p24.2 (x1 + 1) _ _ _ hf h27 hC (lv_sub hl [2, 0] rfl)
        ·
          replace hf := (if_neg c15).symm.trans hf
          refine lv_bipush (v := 7) hx hb dX1_expression_40 (by decide) ?_
          refine lv_goto (tgt := 47) hx hb dX1_expression_42 (by decide) ?_
          refine lv_istore_n (lv' := [(2, .int 7), (0, .ref (Q.o 3)), (1, .int x1)]) hx hb dX1_expression_47 rfl hl (by decide) rfl (fun ls hl => ?_)
          refine lv_aload_n hx hb dX1_expression_48 rfl (lv_at hl 1 rfl) ?_
          refine cG_28 hx hb hts i_X1_expression_X7 hown hK hC (hts (.fieldLink RX1 18 "StatementRules2$Formulas" "tokens" "LStatementRules2$Tokens;") k_X1_expression_fieldLink_RX1_18_SR_Formulas_tokens_LSR_Tokens) (fun _ q9 => q9) dX1_expression_49 ?_
          obtain ⟨p28, hcp28, hf⟩ := hf_bind hf
          have mo29 : CS.hs p11.2 ≤ CS.hs p28.2 := Mono.go hcp28 (m_X9_advance N p11.2)
          have hr9 : CS.hs p28.2 ≤ CS.hs R.2 := Mono.go hf (mono_bind (m_X1_product N E1 E2 hm1 hm2 p28.2) (fun p32 => (mono_bind (m_X0_add N p32.2 7 0) (fun p36 => (hMK p36.2 (x1 + 1))))))
          have hFc := cFree hC hA
          refine va_callv (va_runV (As := []) (rest := []) ⟨hx, hb, hml, hown, hts⟩ (c_X9_advance l dC dI Q N p11.2 p28 hcp28) (cwV 0 hts hX1_expression_X9_advance_v56 rfl rfl rfl (by decide +kernel) ⟨(show 3 + 1 ≤ (12 + 40 * d) by omega), (show 8 + (2 + 11) + 60 * 3 ≤ 60 * (12 + 40 * d) by omega)⟩) ⟨zPre.blind, va_recv hK hC.1 (ci := 8) (q0 := 4) rfl rfl, cPre_go hZ hK hC⟩ rfl rfl hl.1 rfl (lv_room (Nat.le_of_ble_eq_true rfl)) dX1_expression_52 (cAcc h14 mo29 hr9)) hC.2.2.1 (fun q _ h => hFc q h) hFc (fun u9 t9 H1 locs ht hvm hw hB hz1 hk1 hS => ?_)
          obtain ⟨⟨hP, hK1, hD1⟩, hsz1⟩ := hB
          rw [ht] at hP hsz1
          have hC : CP dC dI Q A s.heap p28.2 H1 locs := ⟨hP, hD1.weaken (fun _ _ _ h => hFc _ h), hS, hsz1⟩
          generalize H1 = H at hC ⊢
          have h31 : z9h ≤ CS.hs p28.2 := Nat.le_trans h14 mo29
          refine W.widen (k := CS.hs p28.2 - z9h) (n := 17 * (CS.hs p28.2 - z9h)) (cAcc2 h14 mo29) (cAcc3 h14 mo29) ?_
          refine lv_aload_n hx hb dX1_expression_55 rfl (lv_at hl 1 rfl) ?_
          obtain ⟨p32, hcp32, hf⟩ := hf_bind hf
          have mo33 : CS.hs p28.2 ≤ CS.hs p32.2 := Mono.go hcp32 (m_X1_product N E1 E2 hm1 hm2 p28.2)
          have hr9 : CS.hs p32.2 ≤ CS.hs R.2 := Mono.go hf (mono_bind (m_X0_add N p32.2 7 0) (fun p36 => (hMK p36.2 (x1 + 1))))
          have hFc := cFree hC hA
          refine va_callv (va_runU (As := []) (rest := []) ⟨hx, hb, hml, hown, hts⟩ (c_X1_product l dC dI Q N d E1 E2 hE1 hE2 hm1 hm2 p28.2 p32 hcp32) (va_cwU 0 hts hX1_expression_X1_product_u65 rfl rfl rfl rfl (by decide +kernel) ⟨(show (11 + 40 * d) + 1 ≤ (12 + 40 * d) by omega), (show 8 + (3 + 11) + 60 * (11 + 40 * d) ≤ 60 * (12 + 40 * d) by omega)⟩) ⟨zPre.blind, va_recv hK hC.1 (ci := 6) (q0 := 3) rfl rfl, cPre_go hZ hK hC⟩ rfl rfl hl.1 rfl (lv_room (Nat.le_of_ble_eq_true rfl)) dX1_expression_56 (cAcc h31 mo33 hr9)) hC.2.2.1 (fun q _ h => hFc q h) hFc (fun u9 t9 H1 locs ht hvm hw hB hz1 hk1 hS => ?_)
          obtain ⟨⟨hP, hK1, hD1⟩, hsz1⟩ := hB
          rw [ht] at hP hsz1
          have hC : CP dC dI Q A s.heap p32.2 H1 locs := ⟨hP, hD1.weaken (fun _ _ _ h => hFc _ h), hS, hsz1⟩
          generalize H1 = H at hC ⊢
          have h35 : z9h ≤ CS.hs p32.2 := Nat.le_trans h31 mo33
          refine W.widen (k := CS.hs p32.2 - z9h) (n := 17 * (CS.hs p32.2 - z9h)) (cAcc2 h31 mo33) (cAcc3 h31 mo33) ?_
          refine lv_aload_n hx hb dX1_expression_59 rfl (lv_at hl 1 rfl) ?_
          refine cG_29 hx hb hts i_X1_expression_X7 hown hK hC (hts (.fieldLink RX1 22 "StatementRules2$Formulas" "code" "LStatementRules2$Code;") k_X1_expression_fieldLink_RX1_22_SR_Formulas_code_LSR_Code) (fun _ q9 => q9) dX1_expression_60 ?_
          refine lv_iload_n hx hb dX1_expression_63 rfl (lv_at hl 0 rfl) ?_
          refine lv_iconst (v := 0) hx hb dX1_expression_64 (by decide) ?_
          obtain ⟨p36, hcp36, hf⟩ := hf_bind hf
          have mo37 : CS.hs p32.2 ≤ CS.hs p36.2 := Mono.go hcp36 (m_X0_add N p32.2 7 0)
          have hr9 : CS.hs p36.2 ≤ CS.hs R.2 := Mono.go hf (hMK p36.2 (x1 + 1))
          have hFc := cFree hC hA
          refine va_callv (va_runV (As := [.int 7, .int 0]) (rest := []) ⟨hx, hb, hml, hown, hts⟩ (c_X0_add l dC dI Q N p32.2 7 0 p36 hcp36) (cwV 2 hts hX1_expression_X0_add_v68 rfl rfl rfl (by decide +kernel) ⟨(show 2 + 1 ≤ (12 + 40 * d) by omega), (show 8 + (3 + 11) + 60 * 2 ≤ 60 * (12 + 40 * d) by omega)⟩) ⟨zPre.blind, va_recv hK hC.1 (ci := 0) (q0 := 2) rfl rfl, cPre_go hZ hK hC⟩ rfl rfl hl.1 rfl (lv_room (Nat.le_of_ble_eq_true rfl)) dX1_expression_65 (cAcc h35 mo37 hr9)) hC.2.2.1 (fun q _ h => hFc q h) hFc (fun u9 t9 H1 locs ht hvm hw hB hz1 hk1 hS => ?_)
          obtain ⟨⟨hP, hK1, hD1⟩, hsz1⟩ := hB
          rw [ht] at hP hsz1
          have hC : CP dC dI Q A s.heap p36.2 H1 locs := ⟨hP, hD1.weaken (fun _ _ _ h => hFc _ h), hS, hsz1⟩
          generalize H1 = H at hC ⊢
          have h39 : z9h ≤ CS.hs p36.2 := Nat.le_trans h35 mo37
          refine W.widen (k := CS.hs p36.2 - z9h) (n := 17 * (CS.hs p36.2 - z9h)) (cAcc2 h35 mo37) (cAcc3 h35 mo37) ?_
          refine lv_iinc (v := (x1 + 1)) (lv' := [(1, .int (x1 + 1)), (2, .int 7), (0, .ref (Q.o 3))]) hx hb dX1_expression_68 hl (k := 2) rfl rfl (by decide) rfl (fun ls hl => ?_)
          refine lv_goto (tgt := 6) hx hb dX1_expression_71 (by decide) ?_
          exact ih p36.2 (x1 + 1) _ _ _ hf h39 hC (lv_sub hl [2, 0] rfl)
      ·
        replace hf := (if_pos c10).symm.trans hf
        refine lv_aload_n hx hb dX1_expression_22 rfl (lv_at hl 0 rfl) ?_
        refine lv_bipush (v := 45) hx hb dX1_expression_23 (by decide) ?_
        obtain ⟨p40, hcp40, hf⟩ := hf_bind hf
        have mo41 : CS.hs p6.2 ≤ CS.hs p40.2 := Mono.go hcp40 (m_X1_found N p6.2 45)
        have hr9 : CS.hs p40.2 ≤ CS.hs R.2 := Mono.go hf (mono_ite (mono_some (Nat.le_refl _)) (mono_bind (m_X1_found N p40.2 43) (fun p45 => (mono_ite (mono_bind (m_X9_advance N p45.2) (fun p50 => (mono_bind (m_X1_product N E1 E2 hm1 hm2 p50.2) (fun p54 => (mono_bind (m_X0_add N p54.2 8 0) (fun p58 => (hMK p58.2 (x1 + 1)))))))) (mono_bind (m_X9_advance N p45.2) (fun p62 => (mono_bind (m_X1_product N E1 E2 hm1 hm2 p62.2) (fun p66 => (mono_bind (m_X0_add N p66.2 7 0) (fun p70 => (hMK p70.2 (x1 + 1))))))))))))
        have hFc := cFree hC hA
        refine va_calli (va_runU (As := [.int 45]) (rest := []) ⟨hx, hb, hml, hown, hts⟩ (c_X1_found l dC dI Q N p6.2 45 p40 hcp40) (va_cwU 1 hts hX1_expression_X1_found_u42 rfl rfl rfl rfl (by decide +kernel) ⟨(show 1 + 1 ≤ (12 + 40 * d) by omega), (show 8 + (2 + 11) + 60 * 1 ≤ 60 * (12 + 40 * d) by omega)⟩) ⟨zPre.blind, va_recv hK hC.1 (ci := 6) (q0 := 3) rfl rfl, cPre_go hZ hK hC⟩ rfl rfl hl.1 rfl (lv_room (Nat.le_of_ble_eq_true rfl)) dX1_expression_25 (cAcc h9 mo41 hr9)) hC.2.2.1 (fun q _ h => hFc q h) hFc (fun r42 u9 t9 H1 locs ht hvm hw hB hz1 hk1 hS => ?_)
        obtain ⟨⟨hP, hK1, hD1⟩, hsz1⟩ := hB
        rw [ht] at hP hsz1
        have hC : CP dC dI Q A s.heap p40.2 H1 locs := ⟨hP, hD1.weaken (fun _ _ _ h => hFc _ h), hS, hsz1⟩
        generalize H1 = H at hC ⊢
        have h43 : z9h ≤ CS.hs p40.2 := Nat.le_trans h9 mo41
        refine W.widen (k := CS.hs p40.2 - z9h) (n := 17 * (CS.hs p40.2 - z9h)) (cAcc2 h9 mo41) (cAcc3 h9 mo41) ?_
        obtain rfl : r42 = p40.1 := hw
        refine lv_if_eq (tgt := 74) hx hb dX1_expression_28 (by decide) (fun c44 => ?_) (fun c44 => ?_)
        ·
          replace hf := (if_pos c44).symm.trans hf
          obtain rfl := Option.some.inj hf
          exact W.vret hx hb hr (fun t ht hW => ⟨⟨(), rfl, trivial, ⟨by rw [ht]; exact hC.1, va_K.moved hW.alike hK, hC.2.1⟩, by rw [ht]; exact hC.2.2.2⟩, hC.2.2.1.F ht⟩) hC.2.2.1.2.2 dX1_expression_74
        ·
          replace hf := (if_neg c44).symm.trans hf
          refine lv_aload_n hx hb dX1_expression_31 rfl (lv_at hl 0 rfl) ?_
          refine lv_bipush (v := 43) hx hb dX1_expression_32 (by decide) ?_
          obtain ⟨p45, hcp45, hf⟩ := hf_bind hf
          have mo46 : CS.hs p40.2 ≤ CS.hs p45.2 := Mono.go hcp45 (m_X1_found N p40.2 43)
          have hr9 : CS.hs p45.2 ≤ CS.hs R.2 := Mono.go hf (mono_ite (mono_bind (m_X9_advance N p45.2) (fun p50 => (mono_bind (m_X1_product N E1 E2 hm1 hm2 p50.2) (fun p54 => (mono_bind (m_X0_add N p54.2 8 0) (fun p58 => (hMK p58.2 (x1 + 1)))))))) (mono_bind (m_X9_advance N p45.2) (fun p62 => (mono_bind (m_X1_product N E1 E2 hm1 hm2 p62.2) (fun p66 => (mono_bind (m_X0_add N p66.2 7 0) (fun p70 => (hMK p70.2 (x1 + 1)))))))))
          have hFc := cFree hC hA
          refine va_calli (va_runU (As := [.int 43]) (rest := []) ⟨hx, hb, hml, hown, hts⟩ (c_X1_found l dC dI Q N p40.2 43 p45 hcp45) (va_cwU 1 hts hX1_expression_X1_found_u42 rfl rfl rfl rfl (by decide +kernel) ⟨(show 1 + 1 ≤ (12 + 40 * d) by omega), (show 8 + (2 + 11) + 60 * 1 ≤ 60 * (12 + 40 * d) by omega)⟩) ⟨zPre.blind, va_recv hK hC.1 (ci := 6) (q0 := 3) rfl rfl, cPre_go hZ hK hC⟩ rfl rfl hl.1 rfl (lv_room (Nat.le_of_ble_eq_true rfl)) dX1_expression_34 (cAcc h43 mo46 hr9)) hC.2.2.1 (fun q _ h => hFc q h) hFc (fun r47 u9 t9 H1 locs ht hvm hw hB hz1 hk1 hS => ?_)
          obtain ⟨⟨hP, hK1, hD1⟩, hsz1⟩ := hB
          rw [ht] at hP hsz1
          have hC : CP dC dI Q A s.heap p45.2 H1 locs := ⟨hP, hD1.weaken (fun _ _ _ h => hFc _ h), hS, hsz1⟩
          generalize H1 = H at hC ⊢
          have h48 : z9h ≤ CS.hs p45.2 := Nat.le_trans h43 mo46
          refine W.widen (k := CS.hs p45.2 - z9h) (n := 17 * (CS.hs p45.2 - z9h)) (cAcc2 h43 mo46) (cAcc3 h43 mo46) ?_
          obtain rfl : r47 = p45.1 := hw
          refine lv_if_eq (tgt := 45) hx hb dX1_expression_37 (by decide) (fun c49 => ?_) (fun c49 => ?_)
          ·
            replace hf := (if_pos c49).symm.trans hf
            refine lv_bipush (v := 8) hx hb dX1_expression_45 (by decide) ?_
            refine lv_istore_n (lv' := [(2, .int 8), (0, .ref (Q.o 3)), (1, .int x1)]) hx hb dX1_expression_47 rfl hl (by decide) rfl (fun ls hl => ?_)
            refine lv_aload_n hx hb dX1_expression_48 rfl (lv_at hl 1 rfl) ?_
            refine cG_28 hx hb hts i_X1_expression_X7 hown hK hC (hts (.fieldLink RX1 18 "StatementRules2$Formulas" "tokens" "LStatementRules2$Tokens;") k_X1_expression_fieldLink_RX1_18_SR_Formulas_tokens_LSR_Tokens) (fun _ q9 => q9) dX1_expression_49 ?_
            obtain ⟨p50, hcp50, hf⟩ := hf_bind hf
            have mo51 : CS.hs p45.2 ≤ CS.hs p50.2 := Mono.go hcp50 (m_X9_advance N p45.2)
            have hr9 : CS.hs p50.2 ≤ CS.hs R.2 := Mono.go hf (mono_bind (m_X1_product N E1 E2 hm1 hm2 p50.2) (fun p54 => (mono_bind (m_X0_add N p54.2 8 0) (fun p58 => (hMK p58.2 (x1 + 1))))))
            have hFc := cFree hC hA
            refine va_callv (va_runV (As := []) (rest := []) ⟨hx, hb, hml, hown, hts⟩ (c_X9_advance l dC dI Q N p45.2 p50 hcp50) (cwV 0 hts hX1_expression_X9_advance_v56 rfl rfl rfl (by decide +kernel) ⟨(show 3 + 1 ≤ (12 + 40 * d) by omega), (show 8 + (2 + 11) + 60 * 3 ≤ 60 * (12 + 40 * d) by omega)⟩) ⟨zPre.blind, va_recv hK hC.1 (ci := 8) (q0 := 4) rfl rfl, cPre_go hZ hK hC⟩ rfl rfl hl.1 rfl (lv_room (Nat.le_of_ble_eq_true rfl)) dX1_expression_52 (cAcc h48 mo51 hr9)) hC.2.2.1 (fun q _ h => hFc q h) hFc (fun u9 t9 H1 locs ht hvm hw hB hz1 hk1 hS => ?_)
            obtain ⟨⟨hP, hK1, hD1⟩, hsz1⟩ := hB
            rw [ht] at hP hsz1
            have hC : CP dC dI Q A s.heap p50.2 H1 locs := ⟨hP, hD1.weaken (fun _ _ _ h => hFc _ h), hS, hsz1⟩
            generalize H1 = H at hC ⊢
            have h53 : z9h ≤ CS.hs p50.2 := Nat.le_trans h48 mo51
            refine W.widen (k := CS.hs p50.2 - z9h) (n := 17 * (CS.hs p50.2 - z9h)) (cAcc2 h48 mo51) (cAcc3 h48 mo51) ?_
            refine lv_aload_n hx hb dX1_expression_55 rfl (lv_at hl 1 rfl) ?_
            obtain ⟨p54, hcp54, hf⟩ := hf_bind hf
            have mo55 : CS.hs p50.2 ≤ CS.hs p54.2 := Mono.go hcp54 (m_X1_product N E1 E2 hm1 hm2 p50.2)
            have hr9 : CS.hs p54.2 ≤ CS.hs R.2 := Mono.go hf (mono_bind (m_X0_add N p54.2 8 0) (fun p58 => (hMK p58.2 (x1 + 1))))
            have hFc := cFree hC hA
            refine va_callv (va_runU (As := []) (rest := []) ⟨hx, hb, hml, hown, hts⟩ (c_X1_product l dC dI Q N d E1 E2 hE1 hE2 hm1 hm2 p50.2 p54 hcp54) (va_cwU 0 hts hX1_expression_X1_product_u65 rfl rfl rfl rfl (by decide +kernel) ⟨(show (11 + 40 * d) + 1 ≤ (12 + 40 * d) by omega), (show 8 + (3 + 11) + 60 * (11 + 40 * d) ≤ 60 * (12 + 40 * d) by omega)⟩) ⟨zPre.blind, va_recv hK hC.1 (ci := 6) (q0 := 3) rfl rfl, cPre_go hZ hK hC⟩ rfl rfl hl.1 rfl (lv_room (Nat.le_of_ble_eq_true rfl)) dX1_expression_56 (cAcc h53 mo55 hr9)) hC.2.2.1 (fun q _ h => hFc q h) hFc (fun u9 t9 H1 locs ht hvm hw hB hz1 hk1 hS => ?_)
            obtain ⟨⟨hP, hK1, hD1⟩, hsz1⟩ := hB
            rw [ht] at hP hsz1
            have hC : CP dC dI Q A s.heap p54.2 H1 locs := ⟨hP, hD1.weaken (fun _ _ _ h => hFc _ h), hS, hsz1⟩
            generalize H1 = H at hC ⊢
            have h57 : z9h ≤ CS.hs p54.2 := Nat.le_trans h53 mo55
            refine W.widen (k := CS.hs p54.2 - z9h) (n := 17 * (CS.hs p54.2 - z9h)) (cAcc2 h53 mo55) (cAcc3 h53 mo55) ?_
            refine lv_aload_n hx hb dX1_expression_59 rfl (lv_at hl 1 rfl) ?_
            refine cG_29 hx hb hts i_X1_expression_X7 hown hK hC (hts (.fieldLink RX1 22 "StatementRules2$Formulas" "code" "LStatementRules2$Code;") k_X1_expression_fieldLink_RX1_22_SR_Formulas_code_LSR_Code) (fun _ q9 => q9) dX1_expression_60 ?_
            refine lv_iload_n hx hb dX1_expression_63 rfl (lv_at hl 0 rfl) ?_
            refine lv_iconst (v := 0) hx hb dX1_expression_64 (by decide) ?_
            obtain ⟨p58, hcp58, hf⟩ := hf_bind hf
            have mo59 : CS.hs p54.2 ≤ CS.hs p58.2 := Mono.go hcp58 (m_X0_add N p54.2 8 0)
            have hr9 : CS.hs p58.2 ≤ CS.hs R.2 := Mono.go hf (hMK p58.2 (x1 + 1))
            have hFc := cFree hC hA
            refine va_callv (va_runV (As := [.int 8, .int 0]) (rest := []) ⟨hx, hb, hml, hown, hts⟩ (c_X0_add l dC dI Q N p54.2 8 0 p58 hcp58) (cwV 2 hts hX1_expression_X0_add_v68 rfl rfl rfl (by decide +kernel) ⟨(show 2 + 1 ≤ (12 + 40 * d) by omega), (show 8 + (3 + 11) + 60 * 2 ≤ 60 * (12 + 40 * d) by omega)⟩) ⟨zPre.blind, va_recv hK hC.1 (ci := 0) (q0 := 2) rfl rfl, cPre_go hZ hK hC⟩ rfl rfl hl.1 rfl (lv_room (Nat.le_of_ble_eq_true rfl)) dX1_expression_65 (cAcc h57 mo59 hr9)) hC.2.2.1 (fun q _ h => hFc q h) hFc (fun u9 t9 H1 locs ht hvm hw hB hz1 hk1 hS => ?_)
            obtain ⟨⟨hP, hK1, hD1⟩, hsz1⟩ := hB
            rw [ht] at hP hsz1
            have hC : CP dC dI Q A s.heap p58.2 H1 locs := ⟨hP, hD1.weaken (fun _ _ _ h => hFc _ h), hS, hsz1⟩
            generalize H1 = H at hC ⊢
            have h61 : z9h ≤ CS.hs p58.2 := Nat.le_trans h57 mo59
            refine W.widen (k := CS.hs p58.2 - z9h) (n := 17 * (CS.hs p58.2 - z9h)) (cAcc2 h57 mo59) (cAcc3 h57 mo59) ?_
            refine lv_iinc (v := (x1 + 1)) (lv' := [(1, .int (x1 + 1)), (2, .int 8), (0, .ref (Q.o 3))]) hx hb dX1_expression_68 hl (k := 2) rfl rfl (by decide) rfl (fun ls hl => ?_)
            refine lv_goto (tgt := 6) hx hb dX1_expression_71 (by decide) ?_
            exact ih p58.2 (x1 + 1) _ _ _ hf h61 hC (lv_sub hl [2, 0] rfl)
          ·
            replace hf := (if_neg c49).symm.trans hf
            refine lv_bipush (v := 7) hx hb dX1_expression_40 (by decide) ?_
            refine lv_goto (tgt := 47) hx hb dX1_expression_42 (by decide) ?_
            refine lv_istore_n (lv' := [(2, .int 7), (0, .ref (Q.o 3)), (1, .int x1)]) hx hb dX1_expression_47 rfl hl (by decide) rfl (fun ls hl => ?_)
            refine lv_aload_n hx hb dX1_expression_48 rfl (lv_at hl 1 rfl) ?_
            refine cG_28 hx hb hts i_X1_expression_X7 hown hK hC (hts (.fieldLink RX1 18 "StatementRules2$Formulas" "tokens" "LStatementRules2$Tokens;") k_X1_expression_fieldLink_RX1_18_SR_Formulas_tokens_LSR_Tokens) (fun _ q9 => q9) dX1_expression_49 ?_
            obtain ⟨p62, hcp62, hf⟩ := hf_bind hf
            have mo63 : CS.hs p45.2 ≤ CS.hs p62.2 := Mono.go hcp62 (m_X9_advance N p45.2)
            have hr9 : CS.hs p62.2 ≤ CS.hs R.2 := Mono.go hf (mono_bind (m_X1_product N E1 E2 hm1 hm2 p62.2) (fun p66 => (mono_bind (m_X0_add N p66.2 7 0) (fun p70 => (hMK p70.2 (x1 + 1))))))
            have hFc := cFree hC hA
            refine va_callv (va_runV (As := []) (rest := []) ⟨hx, hb, hml, hown, hts⟩ (c_X9_advance l dC dI Q N p45.2 p62 hcp62) (cwV 0 hts hX1_expression_X9_advance_v56 rfl rfl rfl (by decide +kernel) ⟨(show 3 + 1 ≤ (12 + 40 * d) by omega), (show 8 + (2 + 11) + 60 * 3 ≤ 60 * (12 + 40 * d) by omega)⟩) ⟨zPre.blind, va_recv hK hC.1 (ci := 8) (q0 := 4) rfl rfl, cPre_go hZ hK hC⟩ rfl rfl hl.1 rfl (lv_room (Nat.le_of_ble_eq_true rfl)) dX1_expression_52 (cAcc h48 mo63 hr9)) hC.2.2.1 (fun q _ h => hFc q h) hFc (fun u9 t9 H1 locs ht hvm hw hB hz1 hk1 hS => ?_)
            obtain ⟨⟨hP, hK1, hD1⟩, hsz1⟩ := hB
            rw [ht] at hP hsz1
            have hC : CP dC dI Q A s.heap p62.2 H1 locs := ⟨hP, hD1.weaken (fun _ _ _ h => hFc _ h), hS, hsz1⟩
            generalize H1 = H at hC ⊢
            have h65 : z9h ≤ CS.hs p62.2 := Nat.le_trans h48 mo63
            refine W.widen (k := CS.hs p62.2 - z9h) (n := 17 * (CS.hs p62.2 - z9h)) (cAcc2 h48 mo63) (cAcc3 h48 mo63) ?_
            refine lv_aload_n hx hb dX1_expression_55 rfl (lv_at hl 1 rfl) ?_
            obtain ⟨p66, hcp66, hf⟩ := hf_bind hf
            have mo67 : CS.hs p62.2 ≤ CS.hs p66.2 := Mono.go hcp66 (m_X1_product N E1 E2 hm1 hm2 p62.2)
            have hr9 : CS.hs p66.2 ≤ CS.hs R.2 := Mono.go hf (mono_bind (m_X0_add N p66.2 7 0) (fun p70 => (hMK p70.2 (x1 + 1))))
            have hFc := cFree hC hA
            refine va_callv (va_runU (As := []) (rest := []) ⟨hx, hb, hml, hown, hts⟩ (c_X1_product l dC dI Q N d E1 E2 hE1 hE2 hm1 hm2 p62.2 p66 hcp66) (va_cwU 0 hts hX1_expression_X1_product_u65 rfl rfl rfl rfl (by decide +kernel) ⟨(show (11 + 40 * d) + 1 ≤ (12 + 40 * d) by omega), (show 8 + (3 + 11) + 60 * (11 + 40 * d) ≤ 60 * (12 + 40 * d) by omega)⟩) ⟨zPre.blind, va_recv hK hC.1 (ci := 6) (q0 := 3) rfl rfl, cPre_go hZ hK hC⟩ rfl rfl hl.1 rfl (lv_room (Nat.le_of_ble_eq_true rfl)) dX1_expression_56 (cAcc h65 mo67 hr9)) hC.2.2.1 (fun q _ h => hFc q h) hFc (fun u9 t9 H1 locs ht hvm hw hB hz1 hk1 hS => ?_)
            obtain ⟨⟨hP, hK1, hD1⟩, hsz1⟩ := hB
            rw [ht] at hP hsz1
            have hC : CP dC dI Q A s.heap p66.2 H1 locs := ⟨hP, hD1.weaken (fun _ _ _ h => hFc _ h), hS, hsz1⟩
            generalize H1 = H at hC ⊢
            have h69 : z9h ≤ CS.hs p66.2 := Nat.le_trans h65 mo67
            refine W.widen (k := CS.hs p66.2 - z9h) (n := 17 * (CS.hs p66.2 - z9h)) (cAcc2 h65 mo67) (cAcc3 h65 mo67) ?_
            refine lv_aload_n hx hb dX1_expression_59 rfl (lv_at hl 1 rfl) ?_
            refine cG_29 hx hb hts i_X1_expression_X7 hown hK hC (hts (.fieldLink RX1 22 "StatementRules2$Formulas" "code" "LStatementRules2$Code;") k_X1_expression_fieldLink_RX1_22_SR_Formulas_code_LSR_Code) (fun _ q9 => q9) dX1_expression_60 ?_
            refine lv_iload_n hx hb dX1_expression_63 rfl (lv_at hl 0 rfl) ?_
            refine lv_iconst (v := 0) hx hb dX1_expression_64 (by decide) ?_
            obtain ⟨p70, hcp70, hf⟩ := hf_bind hf
            have mo71 : CS.hs p66.2 ≤ CS.hs p70.2 := Mono.go hcp70 (m_X0_add N p66.2 7 0)
            have hr9 : CS.hs p70.2 ≤ CS.hs R.2 := Mono.go hf (hMK p70.2 (x1 + 1))
            have hFc := cFree hC hA
            refine va_callv (va_runV (As := [.int 7, .int 0]) (rest := []) ⟨hx, hb, hml, hown, hts⟩ (c_X0_add l dC dI Q N p66.2 7 0 p70 hcp70) (cwV 2 hts hX1_expression_X0_add_v68 rfl rfl rfl (by decide +kernel) ⟨(show 2 + 1 ≤ (12 + 40 * d) by omega), (show 8 + (3 + 11) + 60 * 2 ≤ 60 * (12 + 40 * d) by omega)⟩) ⟨zPre.blind, va_recv hK hC.1 (ci := 0) (q0 := 2) rfl rfl, cPre_go hZ hK hC⟩ rfl rfl hl.1 rfl (lv_room (Nat.le_of_ble_eq_true rfl)) dX1_expression_65 (cAcc h69 mo71 hr9)) hC.2.2.1 (fun q _ h => hFc q h) hFc (fun u9 t9 H1 locs ht hvm hw hB hz1 hk1 hS => ?_)
            obtain ⟨⟨hP, hK1, hD1⟩, hsz1⟩ := hB
            rw [ht] at hP hsz1
            have hC : CP dC dI Q A s.heap p70.2 H1 locs := ⟨hP, hD1.weaken (fun _ _ _ h => hFc _ h), hS, hsz1⟩
            generalize H1 = H at hC ⊢
            have h73 : z9h ≤ CS.hs p70.2 := Nat.le_trans h69 mo71
            refine W.widen (k := CS.hs p70.2 - z9h) (n := 17 * (CS.hs p70.2 - z9h)) (cAcc2 h69 mo71) (cAcc3 h69 mo71) ?_
            refine lv_iinc (v := (x1 + 1)) (lv' := [(1, .int (x1 + 1)), (2, .int 7), (0, .ref (Q.o 3))]) hx hb dX1_expression_68 hl (k := 2) rfl rfl (by decide) rfl (fun ls hl => ?_)
            refine lv_goto (tgt := 6) hx hb dX1_expression_71 (by decide) ?_
            exact ih p70.2 (x1 + 1) _ _ _ hf h73 hC (lv_sub hl [2, 0] rfl)
set_option maxHeartbeats 4000000 in
set_option maxRecDepth 100000 in
theorem c_X1_expression (l : Launch) (dC : Nat → ClassId) (dI : Nat → Nat → Nat) (Q : CQ) (N : Nat) (d : Nat) (E1 : CS → Option (Unit × CS)) (E2 : CS → Option (Int32 × CS)) (hE1 : cMF l dC dI Q d E1) (hE2 : cMO l dC dI Q d E2) (hm1 : ∀ σ, Mono (CS.hs σ) (E1 σ)) (hm2 : ∀ σ, Mono (CS.hs σ) (E2 σ)) (σ : CS) (R : Unit × CS) (hf : f_X1_expression N E1 E2 σ = some R) : Met l yX1_expression wzX1_expression ({ frames := (12 + 40 * d), cells := CS.hs R.2 - CS.hs σ, slots := 17 * (CS.hs R.2 - CS.hs σ), locals := 60 * (12 + 40 * d) }) (va_Pc [.ref (Q.o 3)] (zPre dC dI (CS.hs σ) (cW Q σ) (cT Q))) (va_Qv (fun (_ : Unit) => True) (fun (_ : Unit) (t : State) => zPost dC dI (va_A (cW Q σ) (CS.hs σ)) (cW Q R.2) (cT Q) t ∧ t.heap.size = CS.hs R.2) (va_A (cW Q σ) (CS.hs σ))) (CS.hs R.2 - CS.hs σ) (17 * (CS.hs R.2 - CS.hs σ)) (va_A (cW Q σ) (CS.hs σ)) := by
  refine Met.ofW (cc := cX1_expression) (maxL := 3) (ret := none) (by decide) rfl ?_
  intro p e s m args below meth c s₁ B hml hv
  obtain ⟨rfl, hsz, hZ, hP, hK, hD0⟩ := hv
  have hx := B.exec
  have hb := B.bytes
  have hr := B.returns
  have hts := atoms_spec (ws := wzX1_expression) B.pre
  have hown : s.vm.findClass RX1 = some m.cls := findClass_of_methodNamed B.named
  have hlocks := B.notSynchronized
  have hD := hD0.self (sz := CS.hs σ)
  generalize hAe : va_A (cW Q σ) (CS.hs σ) = A at hD ⊢
  have hA : ∀ q : Nat, s.heap.size ≤ q → A q := fun q h => by rw [← hAe]; exact Or.inr (hsz ▸ h)
  have hC : CP dC dI Q A s.heap σ s.heap [] := ⟨hP, hD, va_S.rf, hsz⟩
  have h0 : CS.hs σ ≤ CS.hs σ := Nat.le_refl _
  have hl := lv_entry ([.ref (Q.o 3)]) (n := 3) (Nat.le_of_ble_eq_true rfl)
  rw [lg_entry_eq]
  generalize (lg_sl ([.ref (Q.o 3)]) ++ List.replicate (3 - (lg_sl ([.ref (Q.o 3)])).length) Slot.unset).toArray = ls at hl ⊢
  have hl : lv_has ls 3 [(0, .ref (Q.o 3))] := hl
  unfold f_X1_expression at hf
  refine W.widen (k := CS.hs σ - CS.hs σ) (n := 17 * (CS.hs σ - CS.hs σ)) (Nat.zero_le _) (Nat.zero_le _) ?_
  refine lv_aload_n hx hb dX1_expression_0 rfl (lv_at hl 0 rfl) ?_
  obtain ⟨p1, hcp1, hf⟩ := hf_bind hf
  have mo2 : CS.hs σ ≤ CS.hs p1.2 := Mono.go hcp1 (m_X1_product N E1 E2 hm1 hm2 σ)
  have hr9 : CS.hs p1.2 ≤ CS.hs R.2 := Mono.go hf (m_X1_expression_6 N E1 E2 hm1 hm2 N p1.2 0)
  have hFc := cFree hC hA
  refine va_callv (va_runU (As := []) (rest := []) ⟨hx, hb, hml, hown, hts⟩ (c_X1_product l dC dI Q N d E1 E2 hE1 hE2 hm1 hm2 σ p1 hcp1) (va_cwU 0 hts hX1_expression_X1_product_u65 rfl rfl rfl rfl (by decide +kernel) ⟨(show (11 + 40 * d) + 1 ≤ (12 + 40 * d) by omega), (show 8 + (3 + 11) + 60 * (11 + 40 * d) ≤ 60 * (12 + 40 * d) by omega)⟩) ⟨zPre.blind, va_recv hK hC.1 (ci := 6) (q0 := 3) rfl rfl, cPre_go hZ hK hC⟩ rfl rfl hl.1 rfl (lv_room (Nat.le_of_ble_eq_true rfl)) dX1_expression_1 (cAcc h0 mo2 hr9)) hC.2.2.1 (fun q _ h => hFc q h) hFc (fun u9 t9 H1 locs ht hvm hw hB hz1 hk1 hS => ?_)
  obtain ⟨⟨hP, hK1, hD1⟩, hsz1⟩ := hB
  rw [ht] at hP hsz1
  have hC : CP dC dI Q A s.heap p1.2 H1 locs := ⟨hP, hD1.weaken (fun _ _ _ h => hFc _ h), hS, hsz1⟩
  generalize H1 = H at hC ⊢
  have h4 : (CS.hs σ) ≤ CS.hs p1.2 := Nat.le_trans h0 mo2
  refine W.widen (k := CS.hs p1.2 - (CS.hs σ)) (n := 17 * (CS.hs p1.2 - (CS.hs σ))) (cAcc2 h0 mo2) (cAcc3 h0 mo2) ?_
  refine lv_iconst (v := 0) hx hb dX1_expression_4 (by decide) ?_
  refine lv_istore_n (lv' := [(1, .int 0), (0, .ref (Q.o 3))]) hx hb dX1_expression_5 rfl hl (by decide) rfl (fun ls hl => ?_)
  exact j_X1_expression_6 l dC dI Q N d E1 E2 hE1 hE2 hm1 hm2 (CS.hs σ) R hx hb hr hml hown hts hlocks hZ hA hK N p1.2 0 _ _ _ hf h4 hC (lv_sub hl [1, 0] rfl)
theorem k_X4_find_fieldLink_RX4_20_SR_Names_count_I : Cond.fieldLink RX4 20 "StatementRules2$Names" "count" "I" ∈ wzX4_find := List.mem_cons_of_mem _ (List.mem_append_left _ (List.mem_of_getElem? (i := 0) rfl))
theorem i_X4_find_X4 : ∀ w ∈ wsX40, w ∈ wzX4_find := fun _ h => List.mem_cons_of_mem _ (List.mem_append_right _ (List.mem_append_left _ (h)))
theorem k_X4_find_fieldLink_RX4_7_SR_Names_names_J : Cond.fieldLink RX4 7 "StatementRules2$Names" "names" "[J" ∈ wzX4_find := List.mem_cons_of_mem _ (List.mem_append_left _ (List.mem_of_getElem? (i := 1) rfl))
set_option maxHeartbeats 4000000 in
set_option maxRecDepth 100000 in
theorem j_X4_find_38 {p : Program} {e : Env} {s : State} {m : MethodId} {args : Array Value} {below : List Frame} {meth : Method} {c : Code} {A : Nat → Prop} (l : Launch) (dC : Nat → ClassId) (dI : Nat → Nat → Nat) (Q : CQ) (N : Nat) (z9h : Nat) (R : Int32 × CS) (hx : p.tables.exec = Jvm.exec) (hb : c.code = cX4_find) (hr : meth.sig.returnType = (some .int)) (hml : c.maxLocals = 4) (hown : s.vm.findClass RX4 = some m.cls) (hts : ∀ w ∈ wzX4_find, w.before args s = true) (hlocks : meth.locks = false) (hZ : zAMB s) (hA : ∀ q : Nat, s.heap.size ≤ q → A q) (hK : va_K (dC, dI) vwCl (cT Q) s) : ∀ (σ : CS) (H : Heap) (locs : List Loc) (ls : Array Slot), f_X4_find_38 N σ = some R → z9h ≤ CS.hs σ → CP dC dI Q A s.heap σ H locs → lv_has ls 4 [] → W p l e ({ frames := 1, cells := CS.hs R.2 - z9h, slots := 17 * (CS.hs R.2 - z9h), locals := 60 * 1 }) s m args below meth c H locs (CS.hs σ - z9h) (17 * (CS.hs σ - z9h)) (MQ below (va_Qi (fun (r : Int32) (_ : Unit) => r = R.1) (fun (_ : Unit) (t : State) => zPost dC dI A (cW Q R.2) (cT Q) t ∧ t.heap.size = CS.hs R.2) A) args s (CS.hs R.2 - z9h) (17 * (CS.hs R.2 - z9h)) A) (F0 m 38 ls []) := by
  intro σ  H locs ls hf h0 hC hl
  unfold f_X4_find_38 at hf
  refine lv_iconst (v := (-1)) hx hb dX4_find_38 (by decide) ?_
  obtain rfl := Option.some.inj hf
  exact W.iret (v := (-1)) hx hb hr (fun t ht hW => ⟨⟨(-1), (), rfl, rfl, ⟨by rw [ht]; exact hC.1, va_K.moved hW.alike hK, hC.2.1⟩, by rw [ht]; exact hC.2.2.2⟩, hC.2.2.1.F ht⟩) hC.2.2.1.2.2 dX4_find_39
set_option maxHeartbeats 4000000 in
set_option maxRecDepth 100000 in
theorem j_X4_find_2 {p : Program} {e : Env} {s : State} {m : MethodId} {args : Array Value} {below : List Frame} {meth : Method} {c : Code} {A : Nat → Prop} (l : Launch) (dC : Nat → ClassId) (dI : Nat → Nat → Nat) (Q : CQ) (N : Nat) (z9h : Nat) (R : Int32 × CS) (hx : p.tables.exec = Jvm.exec) (hb : c.code = cX4_find) (hr : meth.sig.returnType = (some .int)) (hml : c.maxLocals = 4) (hown : s.vm.findClass RX4 = some m.cls) (hts : ∀ w ∈ wzX4_find, w.before args s = true) (hlocks : meth.locks = false) (hZ : zAMB s) (hA : ∀ q : Nat, s.heap.size ≤ q → A q) (hK : va_K (dC, dI) vwCl (cT Q) s) : ∀ (n9 : Nat), ∀ (σ : CS) (x1 : Int64) (x3 : Int32) (H : Heap) (locs : List Loc) (ls : Array Slot), f_X4_find_2 N n9 σ x1 x3 = some R → z9h ≤ CS.hs σ → CP dC dI Q A s.heap σ H locs → lv_has ls 4 [(0, .ref (Q.o 5)), (1, .long x1), (3, .int x3)] → W p l e ({ frames := 1, cells := CS.hs R.2 - z9h, slots := 17 * (CS.hs R.2 - z9h), locals := 60 * 1 }) s m args below meth c H locs (CS.hs σ - z9h) (17 * (CS.hs σ - z9h)) (MQ below (va_Qi (fun (r : Int32) (_ : Unit) => r = R.1) (fun (_ : Unit) (t : State) => zPost dC dI A (cW Q R.2) (cT Q) t ∧ t.heap.size = CS.hs R.2) A) args s (CS.hs R.2 - z9h) (17 * (CS.hs R.2 - z9h)) A) (F0 m 2 ls []) := by
  intro n9
  induction n9 with
  | zero => intro σ x1 x3 H locs ls hf; exact absurd hf (by intro q9; cases q9)
  | succ n9 ih =>
    intro σ x1 x3 H locs ls hf h0 hC hl
    replace hf : b_X4_find_2 N (f_X4_find_2 N n9) σ x1 x3 = some R := hf
    unfold b_X4_find_2 at hf
    have hMK := fun (σ : CS) (x1 : Int64) (x3 : Int32) => m_X4_find_2 N n9 σ x1 x3
    refine lv_iload_n hx hb dX4_find_2 rfl (lv_at hl 2 rfl) ?_
    refine lv_aload_n hx hb dX4_find_3 rfl (lv_at hl 0 rfl) ?_
    refine cG_50 (v := (σ.i 50)) hx hb hts i_X4_find_X4 hown hK hC (hts (.fieldLink RX4 20 "StatementRules2$Names" "count" "I") k_X4_find_fieldLink_RX4_20_SR_Names_count_I) (fun _ q9 => q9) dX4_find_4 rfl ?_
    refine lv_icmp_ge (tgt := 38) hx hb dX4_find_7 (by decide) (fun c1 => ?_) (fun c1 => ?_)
    ·
      replace hf := (if_pos c1).symm.trans hf
      exact j_X4_find_38 l dC dI Q N z9h R hx hb hr hml hown hts hlocks hZ hA hK σ _ _ _ hf h0 hC (lv_sub hl [] rfl)
    ·
      replace hf := (if_neg c1).symm.trans hf
      refine lv_iload_n hx hb dX4_find_10 rfl (lv_at hl 2 rfl) ?_
      refine lv_aload_n hx hb dX4_find_11 rfl (lv_at hl 0 rfl) ?_
      refine cG_47 hx hb hts i_X4_find_X4 hown hK hC (hts (.fieldLink RX4 7 "StatementRules2$Names" "names" "[J") k_X4_find_fieldLink_RX4_7_SR_Names_names_J) (fun _ q9 => q9) dX4_find_12 ?_
      refine va_alen (v := 128) hx hb hK hC.1 19 1 rfl rfl rfl dX4_find_15 ?_
      refine lv_icmp_ge (tgt := 38) hx hb dX4_find_16 (by decide) (fun c2 => ?_) (fun c2 => ?_)
      ·
        replace hf := (if_pos c2).symm.trans hf
        exact j_X4_find_38 l dC dI Q N z9h R hx hb hr hml hown hts hlocks hZ hA hK σ _ _ _ hf h0 hC (lv_sub hl [] rfl)
      ·
        replace hf := (if_neg c2).symm.trans hf
        refine lv_aload_n hx hb dX4_find_19 rfl (lv_at hl 0 rfl) ?_
        refine cG_47 hx hb hts i_X4_find_X4 hown hK hC (hts (.fieldLink RX4 7 "StatementRules2$Names" "names" "[J") k_X4_find_fieldLink_RX4_7_SR_Names_names_J) (fun _ q9 => q9) dX4_find_20 ?_
        refine lv_iload_n hx hb dX4_find_23 rfl (lv_at hl 2 rfl) ?_
        obtain ⟨b3, hf⟩ := hf_ite hf
        refine cL_47 (v := ((σ.b 47) ((x3 : Int32).toNatClampNeg))) hx hb hK hC b3 dX4_find_24 rfl ?_
        refine lv_lload_n hx hb dX4_find_25 rfl (lv_at hl 1 rfl) ?_
        refine W.lcmp hx hb dX4_find_26 ?_
        refine lv_if_ne (tgt := 32) hx hb dX4_find_27 (by decide) (fun c4 => ?_) (fun c4 => ?_)
        ·
          replace hf := (if_neg c4).symm.trans hf
          refine lv_iinc (v := (x3 + 1)) (lv' := [(3, .int (x3 + 1)), (0, .ref (Q.o 5)), (1, .long x1)]) hx hb dX4_find_32 hl (k := 2) rfl rfl (by decide) rfl (fun ls hl => ?_)
          refine lv_goto (tgt := 2) hx hb dX4_find_35 (by decide) ?_
          exact ih σ x1 (x3 + 1) _ _ _ hf h0 hC (lv_sub hl [1, 2, 0] rfl)
        ·
          replace hf := (if_pos c4).symm.trans hf
          refine lv_iload_n hx hb dX4_find_30 rfl (lv_at hl 2 rfl) ?_
          obtain rfl := Option.some.inj hf
          exact W.iret (v := x3) hx hb hr (fun t ht hW => ⟨⟨x3, (), rfl, rfl, ⟨by rw [ht]; exact hC.1, va_K.moved hW.alike hK, hC.2.1⟩, by rw [ht]; exact hC.2.2.2⟩, hC.2.2.1.F ht⟩) hC.2.2.1.2.2 dX4_find_31
set_option maxHeartbeats 4000000 in
set_option maxRecDepth 100000 in
theorem c_X4_find (l : Launch) (dC : Nat → ClassId) (dI : Nat → Nat → Nat) (Q : CQ) (N : Nat) (σ : CS) (x1 : Int64) (R : Int32 × CS) (hf : f_X4_find N σ x1 = some R) : Met l yX4_find wzX4_find ({ frames := 1, cells := CS.hs R.2 - CS.hs σ, slots := 17 * (CS.hs R.2 - CS.hs σ), locals := 60 * 1 }) (va_Pc [.ref (Q.o 5), .long x1] (zPre dC dI (CS.hs σ) (cW Q σ) (cT Q))) (va_Qi (fun (r : Int32) (_ : Unit) => r = R.1) (fun (_ : Unit) (t : State) => zPost dC dI (va_A (cW Q σ) (CS.hs σ)) (cW Q R.2) (cT Q) t ∧ t.heap.size = CS.hs R.2) (va_A (cW Q σ) (CS.hs σ))) (CS.hs R.2 - CS.hs σ) (17 * (CS.hs R.2 - CS.hs σ)) (va_A (cW Q σ) (CS.hs σ)) := by
  refine Met.ofW (cc := cX4_find) (maxL := 4) (ret := (some .int)) (by decide) rfl ?_
  intro p e s m args below meth c s₁ B hml hv
  obtain ⟨rfl, hsz, hZ, hP, hK, hD0⟩ := hv
  have hx := B.exec
  have hb := B.bytes
  have hr := B.returns
  have hts := atoms_spec (ws := wzX4_find) B.pre
  have hown : s.vm.findClass RX4 = some m.cls := findClass_of_methodNamed B.named
  have hlocks := B.notSynchronized
  have hD := hD0.self (sz := CS.hs σ)
  generalize hAe : va_A (cW Q σ) (CS.hs σ) = A at hD ⊢
  have hA : ∀ q : Nat, s.heap.size ≤ q → A q := fun q h => by rw [← hAe]; exact Or.inr (hsz ▸ h)
  have hC : CP dC dI Q A s.heap σ s.heap [] := ⟨hP, hD, va_S.rf, hsz⟩
  have h0 : CS.hs σ ≤ CS.hs σ := Nat.le_refl _
  have hl := lv_entry ([.ref (Q.o 5), .long x1]) (n := 4) (Nat.le_of_ble_eq_true rfl)
  rw [lg_entry_eq]
  generalize (lg_sl ([.ref (Q.o 5), .long x1]) ++ List.replicate (4 - (lg_sl ([.ref (Q.o 5), .long x1])).length) Slot.unset).toArray = ls at hl ⊢
  have hl : lv_has ls 4 [(0, .ref (Q.o 5)), (1, .long x1)] := hl
  unfold f_X4_find at hf
  refine W.widen (k := CS.hs σ - CS.hs σ) (n := 17 * (CS.hs σ - CS.hs σ)) (Nat.zero_le _) (Nat.zero_le _) ?_
  refine lv_iconst (v := 0) hx hb dX4_find_0 (by decide) ?_
  refine lv_istore_n (lv' := [(3, .int 0), (0, .ref (Q.o 5)), (1, .long x1)]) hx hb dX4_find_1 rfl hl (by decide) rfl (fun ls hl => ?_)
  exact j_X4_find_2 l dC dI Q N (CS.hs σ) R hx hb hr hml hown hts hlocks hZ hA hK N σ x1 0 _ _ _ hf h0 hC (lv_sub hl [1, 2, 0] rfl)
theorem k_X4_cellOf_fieldLink_RX4_13_SR_Names_cells_I : Cond.fieldLink RX4 13 "StatementRules2$Names" "cells" "[I" ∈ wzX4_cellOf := List.mem_cons_of_mem _ (List.mem_append_left _ (List.mem_of_getElem? (i := 0) rfl))
theorem i_X4_cellOf_X4 : ∀ w ∈ wsX40, w ∈ wzX4_cellOf := fun _ h => List.mem_cons_of_mem _ (List.mem_append_right _ (List.mem_append_left _ (h)))
theorem k_X4_cellOf_initialized_RX11 : Cond.initialized RX11 ∈ wzX4_cellOf := List.mem_cons_of_mem _ (List.mem_append_left _ (List.mem_of_getElem? (i := 1) rfl))
theorem k_X4_cellOf_static_yX11_at : Cond.static yX11_at ∈ wzX4_cellOf := List.mem_cons_of_mem _ (List.mem_append_left _ (List.mem_of_getElem? (i := 2) rfl))
set_option maxHeartbeats 4000000 in
set_option maxRecDepth 100000 in
theorem c_X4_cellOf (l : Launch) (dC : Nat → ClassId) (dI : Nat → Nat → Nat) (Q : CQ) (N : Nat) (σ : CS) (x1 : Int32) (R : Int32 × CS) (hf : f_X4_cellOf N σ x1 = some R) : Met l yX4_cellOf wzX4_cellOf ({ frames := 2, cells := CS.hs R.2 - CS.hs σ, slots := 17 * (CS.hs R.2 - CS.hs σ), locals := 60 * 2 }) (va_Pc [.ref (Q.o 5), .int x1] (zPre dC dI (CS.hs σ) (cW Q σ) (cT Q))) (va_Qi (fun (r : Int32) (_ : Unit) => r = R.1) (fun (_ : Unit) (t : State) => zPost dC dI (va_A (cW Q σ) (CS.hs σ)) (cW Q R.2) (cT Q) t ∧ t.heap.size = CS.hs R.2) (va_A (cW Q σ) (CS.hs σ))) (CS.hs R.2 - CS.hs σ) (17 * (CS.hs R.2 - CS.hs σ)) (va_A (cW Q σ) (CS.hs σ)) := by
  refine Met.ofW (cc := cX4_cellOf) (maxL := 2) (ret := (some .int)) (by decide) rfl ?_
  intro p e s m args below meth c s₁ B hml hv
  obtain ⟨rfl, hsz, hZ, hP, hK, hD0⟩ := hv
  have hx := B.exec
  have hb := B.bytes
  have hr := B.returns
  have hts := atoms_spec (ws := wzX4_cellOf) B.pre
  have hown : s.vm.findClass RX4 = some m.cls := findClass_of_methodNamed B.named
  have hlocks := B.notSynchronized
  have hD := hD0.self (sz := CS.hs σ)
  generalize hAe : va_A (cW Q σ) (CS.hs σ) = A at hD ⊢
  have hA : ∀ q : Nat, s.heap.size ≤ q → A q := fun q h => by rw [← hAe]; exact Or.inr (hsz ▸ h)
  have hC : CP dC dI Q A s.heap σ s.heap [] := ⟨hP, hD, va_S.rf, hsz⟩
  have h0 : CS.hs σ ≤ CS.hs σ := Nat.le_refl _
  have hl := lv_entry ([.ref (Q.o 5), .int x1]) (n := 2) (Nat.le_of_ble_eq_true rfl)
  rw [lg_entry_eq]
  generalize (lg_sl ([.ref (Q.o 5), .int x1]) ++ List.replicate (2 - (lg_sl ([.ref (Q.o 5), .int x1])).length) Slot.unset).toArray = ls at hl ⊢
  have hl : lv_has ls 2 [(0, .ref (Q.o 5)), (1, .int x1)] := hl
  unfold f_X4_cellOf at hf
  refine W.widen (k := CS.hs σ - CS.hs σ) (n := 17 * (CS.hs σ - CS.hs σ)) (Nat.zero_le _) (Nat.zero_le _) ?_
  refine lv_aload_n hx hb dX4_cellOf_0 rfl (lv_at hl 0 rfl) ?_
  refine cG_48 hx hb hts i_X4_cellOf_X4 hown hK hC (hts (.fieldLink RX4 13 "StatementRules2$Names" "cells" "[I") k_X4_cellOf_fieldLink_RX4_13_SR_Names_cells_I) (fun _ q9 => q9) dX4_cellOf_1 ?_
  refine lv_iload_n hx hb dX4_cellOf_4 rfl (lv_at hl 1 rfl) ?_
  have he9 := (cArr_48 (Q := Q) (σ := σ))
  have hFc := cFree1 hC hA he9
  have hr9 : CS.hs σ ≤ CS.hs R.2 := Mono.go hf (mono_some (Nat.le_refl _))
  refine va_calli (va_runSN (As := [.ref (Q.q 48), .int x1]) (rest := []) ⟨hx, hb, hml, hown, hts⟩ (c_X11_at l dC dI _ (Q.q 48) (Q.c 0) 128 (σ.a 48) x1 (by decide)) ⟨va_cnB 2 hts hX4_cellOf_X11_at_n24 rfl rfl rfl (hZ.1 (.methodLinkNest RX4 24 yX11_at "StatementRules2") (by decide +kernel)) (hts (.initialized RX11) k_X4_cellOf_initialized_RX11) (by decide +kernel) ⟨(show 1 + 1 ≤ 2 by omega), (show 8 + (2 + 11) + 60 * 1 ≤ 60 * 2 by omega)⟩, (hts (.static yX11_at) k_X4_cellOf_static_yX11_at), trivial⟩ ⟨zPre.blind, zPre.go hZ (cOne hC.1 he9) (hK.sub (tys' := [(Q.c 0, .int)]) [0] rfl) (cOneD hC.2.1 he9)⟩ rfl rfl hl.1 rfl (lv_room (Nat.le_of_ble_eq_true rfl)) dX4_cellOf_5 ⟨cAcc4 h0 hr9, cAcc5 h0 hr9⟩) hC.2.2.1 (fun q _ h => hFc q h) hFc (fun r1 u9 t9 H1 locs ht hvm hw hB hz1 hk1 hS => ?_)
  obtain ⟨⟨hP1, hK1, hD1⟩, hsz1⟩ := hB
  rw [ht] at hP1 hsz1
  have hC := cBack (σ' := σ) hC he9 (cSelf he9) (Eq.refl (CS.hs σ)) hk1 hP1 hsz1 hS
  generalize H1 = H at hC ⊢
  obtain rfl : r1 = (gAt (σ.a 48) 128 x1) := hw
  obtain rfl := Option.some.inj hf
  exact W.iret (v := (gAt (σ.a 48) 128 x1)) hx hb hr (fun t ht hW => ⟨⟨(gAt (σ.a 48) 128 x1), (), rfl, rfl, ⟨by rw [ht]; exact hC.1, va_K.moved hW.alike hK, hC.2.1⟩, by rw [ht]; exact hC.2.2.2⟩, hC.2.2.1.F ht⟩) hC.2.2.1.2.2 dX4_cellOf_8
theorem k_X1_loadName_fieldLink_RX1_12_SR_Formulas_names_LSR_Names : Cond.fieldLink RX1 12 "StatementRules2$Formulas" "names" "LStatementRules2$Names;" ∈ wzX1_loadName := List.mem_cons_of_mem _ (List.mem_append_left _ (List.mem_of_getElem? (i := 0) rfl))
theorem i_X1_loadName_X7 : ∀ w ∈ wsX70, w ∈ wzX1_loadName := fun _ h => List.mem_cons_of_mem _ (List.mem_append_right _ (List.mem_append_left _ (h)))
theorem k_X1_loadName_fieldLink_RX1_18_SR_Formulas_tokens_LSR_Tokens : Cond.fieldLink RX1 18 "StatementRules2$Formulas" "tokens" "LStatementRules2$Tokens;" ∈ wzX1_loadName := List.mem_cons_of_mem _ (List.mem_append_left _ (List.mem_of_getElem? (i := 1) rfl))
theorem i_X1_loadName_X9 : ∀ w ∈ wsX90, w ∈ wzX1_loadName := fun _ h => List.mem_cons_of_mem _ (List.mem_append_right _ (List.mem_append_right _ (List.mem_append_left _ (h))))
theorem k_X1_loadName_fieldLink_RX1_22_SR_Formulas_code_LSR_Code : Cond.fieldLink RX1 22 "StatementRules2$Formulas" "code" "LStatementRules2$Code;" ∈ wzX1_loadName := List.mem_cons_of_mem _ (List.mem_append_left _ (List.mem_of_getElem? (i := 2) rfl))
set_option maxHeartbeats 4000000 in
set_option maxRecDepth 100000 in
theorem c_X1_loadName (l : Launch) (dC : Nat → ClassId) (dI : Nat → Nat → Nat) (Q : CQ) (N : Nat) (σ : CS) (R : Unit × CS) (hf : f_X1_loadName N σ = some R) : Met l yX1_loadName wzX1_loadName ({ frames := 4, cells := CS.hs R.2 - CS.hs σ, slots := 17 * (CS.hs R.2 - CS.hs σ), locals := 60 * 4 }) (va_Pc [.ref (Q.o 3)] (zPre dC dI (CS.hs σ) (cW Q σ) (cT Q))) (va_Qv (fun (_ : Unit) => True) (fun (_ : Unit) (t : State) => zPost dC dI (va_A (cW Q σ) (CS.hs σ)) (cW Q R.2) (cT Q) t ∧ t.heap.size = CS.hs R.2) (va_A (cW Q σ) (CS.hs σ))) (CS.hs R.2 - CS.hs σ) (17 * (CS.hs R.2 - CS.hs σ)) (va_A (cW Q σ) (CS.hs σ)) := by
  refine Met.ofW (cc := cX1_loadName) (maxL := 2) (ret := none) (by decide) rfl ?_
  intro p e s m args below meth c s₁ B hml hv
  obtain ⟨rfl, hsz, hZ, hP, hK, hD0⟩ := hv
  have hx := B.exec
  have hb := B.bytes
  have hr := B.returns
  have hts := atoms_spec (ws := wzX1_loadName) B.pre
  have hown : s.vm.findClass RX1 = some m.cls := findClass_of_methodNamed B.named
  have hlocks := B.notSynchronized
  have hD := hD0.self (sz := CS.hs σ)
  generalize hAe : va_A (cW Q σ) (CS.hs σ) = A at hD ⊢
  have hA : ∀ q : Nat, s.heap.size ≤ q → A q := fun q h => by rw [← hAe]; exact Or.inr (hsz ▸ h)
  have hC : CP dC dI Q A s.heap σ s.heap [] := ⟨hP, hD, va_S.rf, hsz⟩
  have h0 : CS.hs σ ≤ CS.hs σ := Nat.le_refl _
  have hl := lv_entry ([.ref (Q.o 3)]) (n := 2) (Nat.le_of_ble_eq_true rfl)
  rw [lg_entry_eq]
  generalize (lg_sl ([.ref (Q.o 3)]) ++ List.replicate (2 - (lg_sl ([.ref (Q.o 3)])).length) Slot.unset).toArray = ls at hl ⊢
  have hl : lv_has ls 2 [(0, .ref (Q.o 3))] := hl
  unfold f_X1_loadName at hf
  refine W.widen (k := CS.hs σ - CS.hs σ) (n := 17 * (CS.hs σ - CS.hs σ)) (Nat.zero_le _) (Nat.zero_le _) ?_
  refine lv_aload_n hx hb dX1_loadName_0 rfl (lv_at hl 0 rfl) ?_
  refine cG_31 hx hb hts i_X1_loadName_X7 hown hK hC (hts (.fieldLink RX1 12 "StatementRules2$Formulas" "names" "LStatementRules2$Names;") k_X1_loadName_fieldLink_RX1_12_SR_Formulas_names_LSR_Names) (fun _ q9 => q9) dX1_loadName_1 ?_
  refine lv_aload_n hx hb dX1_loadName_4 rfl (lv_at hl 0 rfl) ?_
  refine cG_28 hx hb hts i_X1_loadName_X7 hown hK hC (hts (.fieldLink RX1 18 "StatementRules2$Formulas" "tokens" "LStatementRules2$Tokens;") k_X1_loadName_fieldLink_RX1_18_SR_Formulas_tokens_LSR_Tokens) (fun _ q9 => q9) dX1_loadName_5 ?_
  refine cGN_46 (v := σ.l) hx hb hts i_X1_loadName_X9 hown hK hC (va_Nw.use rfl (hZ.1 (.fieldLinkNest RX1 98 "StatementRules2$Tokens" "name" "J" "StatementRules2") (by decide +kernel))) (fun _ q9 => q9) dX1_loadName_8 rfl ?_
  obtain ⟨p1, hcp1, hf⟩ := hf_bind hf
  have mo2 : CS.hs σ ≤ CS.hs p1.2 := Mono.go hcp1 (m_X4_find N σ σ.l)
  have hr9 : CS.hs p1.2 ≤ CS.hs R.2 := Mono.go hf (mono_ite (mono_bind (m_X4_cellOf N p1.2 p1.1) (fun p6 => (mono_bind (m_X0_add N p6.2 1 p6.1) (fun p10 => (mono_bind (m_X9_advance N p10.2) (fun p14 => (mono_some (Nat.le_refl _)))))))) (mono_bind (m_X1_fail N p1.2 3 (p1.2.i 44)) (fun p18 => (mono_some (Nat.le_refl _)))))
  have hFc := cFree hC hA
  refine va_calli (va_runV (As := [.long σ.l]) (rest := []) ⟨hx, hb, hml, hown, hts⟩ (c_X4_find l dC dI Q N σ σ.l p1 hcp1) (cwV 1 hts hX1_loadName_X4_find_v102 rfl rfl rfl (by decide +kernel) ⟨(show 1 + 1 ≤ 4 by omega), (show 8 + (4 + 11) + 60 * 1 ≤ 60 * 4 by omega)⟩) ⟨zPre.blind, va_recv hK hC.1 (ci := 3) (q0 := 5) rfl rfl, cPre_go hZ hK hC⟩ rfl rfl hl.1 rfl (lv_room (Nat.le_of_ble_eq_true rfl)) dX1_loadName_11 (cAcc h0 mo2 hr9)) hC.2.2.1 (fun q _ h => hFc q h) hFc (fun r3 u9 t9 H1 locs ht hvm hw hB hz1 hk1 hS => ?_)
  obtain ⟨⟨hP, hK1, hD1⟩, hsz1⟩ := hB
  rw [ht] at hP hsz1
  have hC : CP dC dI Q A s.heap p1.2 H1 locs := ⟨hP, hD1.weaken (fun _ _ _ h => hFc _ h), hS, hsz1⟩
  generalize H1 = H at hC ⊢
  have h4 : (CS.hs σ) ≤ CS.hs p1.2 := Nat.le_trans h0 mo2
  refine W.widen (k := CS.hs p1.2 - (CS.hs σ)) (n := 17 * (CS.hs p1.2 - (CS.hs σ))) (cAcc2 h0 mo2) (cAcc3 h0 mo2) ?_
  obtain rfl : r3 = p1.1 := hw
  refine lv_istore_n (lv' := [(1, .int p1.1), (0, .ref (Q.o 3))]) hx hb dX1_loadName_14 rfl hl (by decide) rfl (fun ls hl => ?_)
  refine lv_iload_n hx hb dX1_loadName_15 rfl (lv_at hl 0 rfl) ?_
  refine lv_if_ge (tgt := 32) hx hb dX1_loadName_16 (by decide) (fun c5 => ?_) (fun c5 => ?_)
  ·
    replace hf := (if_pos c5).symm.trans hf
    refine lv_aload_n hx hb dX1_loadName_32 rfl (lv_at hl 1 rfl) ?_
    refine cG_29 hx hb hts i_X1_loadName_X7 hown hK hC (hts (.fieldLink RX1 22 "StatementRules2$Formulas" "code" "LStatementRules2$Code;") k_X1_loadName_fieldLink_RX1_22_SR_Formulas_code_LSR_Code) (fun _ q9 => q9) dX1_loadName_33 ?_
    refine lv_iconst (v := 1) hx hb dX1_loadName_36 (by decide) ?_
    refine lv_aload_n hx hb dX1_loadName_37 rfl (lv_at hl 1 rfl) ?_
    refine cG_31 hx hb hts i_X1_loadName_X7 hown hK hC (hts (.fieldLink RX1 12 "StatementRules2$Formulas" "names" "LStatementRules2$Names;") k_X1_loadName_fieldLink_RX1_12_SR_Formulas_names_LSR_Names) (fun _ q9 => q9) dX1_loadName_38 ?_
    refine lv_iload_n hx hb dX1_loadName_41 rfl (lv_at hl 0 rfl) ?_
    obtain ⟨p6, hcp6, hf⟩ := hf_bind hf
    have mo7 : CS.hs p1.2 ≤ CS.hs p6.2 := Mono.go hcp6 (m_X4_cellOf N p1.2 p1.1)
    have hr9 : CS.hs p6.2 ≤ CS.hs R.2 := Mono.go hf (mono_bind (m_X0_add N p6.2 1 p6.1) (fun p10 => (mono_bind (m_X9_advance N p10.2) (fun p14 => (mono_some (Nat.le_refl _))))))
    have hFc := cFree hC hA
    refine va_calli (va_runV (As := [.int p1.1]) (rest := [.int 1, .ref (Q.o 2)]) ⟨hx, hb, hml, hown, hts⟩ (c_X4_cellOf l dC dI Q N p1.2 p1.1 p6 hcp6) (cwV 1 hts hX1_loadName_X4_cellOf_v106 rfl rfl rfl (by decide +kernel) ⟨(show 2 + 1 ≤ 4 by omega), (show 8 + (2 + 11) + 60 * 2 ≤ 60 * 4 by omega)⟩) ⟨zPre.blind, va_recv hK hC.1 (ci := 3) (q0 := 5) rfl rfl, cPre_go hZ hK hC⟩ rfl rfl hl.1 rfl (lv_room (Nat.le_of_ble_eq_true rfl)) dX1_loadName_42 (cAcc h4 mo7 hr9)) hC.2.2.1 (fun q _ h => hFc q h) hFc (fun r8 u9 t9 H1 locs ht hvm hw hB hz1 hk1 hS => ?_)
    obtain ⟨⟨hP, hK1, hD1⟩, hsz1⟩ := hB
    rw [ht] at hP hsz1
    have hC : CP dC dI Q A s.heap p6.2 H1 locs := ⟨hP, hD1.weaken (fun _ _ _ h => hFc _ h), hS, hsz1⟩
    generalize H1 = H at hC ⊢
    have h9 : (CS.hs σ) ≤ CS.hs p6.2 := Nat.le_trans h4 mo7
    refine W.widen (k := CS.hs p6.2 - (CS.hs σ)) (n := 17 * (CS.hs p6.2 - (CS.hs σ))) (cAcc2 h4 mo7) (cAcc3 h4 mo7) ?_
    obtain rfl : r8 = p6.1 := hw
    obtain ⟨p10, hcp10, hf⟩ := hf_bind hf
    have mo11 : CS.hs p6.2 ≤ CS.hs p10.2 := Mono.go hcp10 (m_X0_add N p6.2 1 p6.1)
    have hr9 : CS.hs p10.2 ≤ CS.hs R.2 := Mono.go hf (mono_bind (m_X9_advance N p10.2) (fun p14 => (mono_some (Nat.le_refl _))))
    have hFc := cFree hC hA
    refine va_callv (va_runV (As := [.int 1, .int p6.1]) (rest := []) ⟨hx, hb, hml, hown, hts⟩ (c_X0_add l dC dI Q N p6.2 1 p6.1 p10 hcp10) (cwV 2 hts hX1_loadName_X0_add_v68 rfl rfl rfl (by decide +kernel) ⟨(show 2 + 1 ≤ 4 by omega), (show 8 + (3 + 11) + 60 * 2 ≤ 60 * 4 by omega)⟩) ⟨zPre.blind, va_recv hK hC.1 (ci := 0) (q0 := 2) rfl rfl, cPre_go hZ hK hC⟩ rfl rfl hl.1 rfl (lv_room (Nat.le_of_ble_eq_true rfl)) dX1_loadName_45 (cAcc h9 mo11 hr9)) hC.2.2.1 (fun q _ h => hFc q h) hFc (fun u9 t9 H1 locs ht hvm hw hB hz1 hk1 hS => ?_)
    obtain ⟨⟨hP, hK1, hD1⟩, hsz1⟩ := hB
    rw [ht] at hP hsz1
    have hC : CP dC dI Q A s.heap p10.2 H1 locs := ⟨hP, hD1.weaken (fun _ _ _ h => hFc _ h), hS, hsz1⟩
    generalize H1 = H at hC ⊢
    have h13 : (CS.hs σ) ≤ CS.hs p10.2 := Nat.le_trans h9 mo11
    refine W.widen (k := CS.hs p10.2 - (CS.hs σ)) (n := 17 * (CS.hs p10.2 - (CS.hs σ))) (cAcc2 h9 mo11) (cAcc3 h9 mo11) ?_
    refine lv_aload_n hx hb dX1_loadName_48 rfl (lv_at hl 1 rfl) ?_
    refine cG_28 hx hb hts i_X1_loadName_X7 hown hK hC (hts (.fieldLink RX1 18 "StatementRules2$Formulas" "tokens" "LStatementRules2$Tokens;") k_X1_loadName_fieldLink_RX1_18_SR_Formulas_tokens_LSR_Tokens) (fun _ q9 => q9) dX1_loadName_49 ?_
    obtain ⟨p14, hcp14, hf⟩ := hf_bind hf
    have mo15 : CS.hs p10.2 ≤ CS.hs p14.2 := Mono.go hcp14 (m_X9_advance N p10.2)
    have hr9 : CS.hs p14.2 ≤ CS.hs R.2 := Mono.go hf (mono_some (Nat.le_refl _))
    have hFc := cFree hC hA
    refine va_callv (va_runV (As := []) (rest := []) ⟨hx, hb, hml, hown, hts⟩ (c_X9_advance l dC dI Q N p10.2 p14 hcp14) (cwV 0 hts hX1_loadName_X9_advance_v56 rfl rfl rfl (by decide +kernel) ⟨(show 3 + 1 ≤ 4 by omega), (show 8 + (2 + 11) + 60 * 3 ≤ 60 * 4 by omega)⟩) ⟨zPre.blind, va_recv hK hC.1 (ci := 8) (q0 := 4) rfl rfl, cPre_go hZ hK hC⟩ rfl rfl hl.1 rfl (lv_room (Nat.le_of_ble_eq_true rfl)) dX1_loadName_52 (cAcc h13 mo15 hr9)) hC.2.2.1 (fun q _ h => hFc q h) hFc (fun u9 t9 H1 locs ht hvm hw hB hz1 hk1 hS => ?_)
    obtain ⟨⟨hP, hK1, hD1⟩, hsz1⟩ := hB
    rw [ht] at hP hsz1
    have hC : CP dC dI Q A s.heap p14.2 H1 locs := ⟨hP, hD1.weaken (fun _ _ _ h => hFc _ h), hS, hsz1⟩
    generalize H1 = H at hC ⊢
    have h17 : (CS.hs σ) ≤ CS.hs p14.2 := Nat.le_trans h13 mo15
    refine W.widen (k := CS.hs p14.2 - (CS.hs σ)) (n := 17 * (CS.hs p14.2 - (CS.hs σ))) (cAcc2 h13 mo15) (cAcc3 h13 mo15) ?_
    obtain rfl := Option.some.inj hf
    exact W.vret hx hb hr (fun t ht hW => ⟨⟨(), rfl, trivial, ⟨by rw [ht]; exact hC.1, va_K.moved hW.alike hK, hC.2.1⟩, by rw [ht]; exact hC.2.2.2⟩, hC.2.2.1.F ht⟩) hC.2.2.1.2.2 dX1_loadName_55
  ·
    replace hf := (if_neg c5).symm.trans hf
    refine lv_aload_n hx hb dX1_loadName_19 rfl (lv_at hl 1 rfl) ?_
    refine lv_iconst (v := 3) hx hb dX1_loadName_20 (by decide) ?_
    refine lv_aload_n hx hb dX1_loadName_21 rfl (lv_at hl 1 rfl) ?_
    refine cG_28 hx hb hts i_X1_loadName_X7 hown hK hC (hts (.fieldLink RX1 18 "StatementRules2$Formulas" "tokens" "LStatementRules2$Tokens;") k_X1_loadName_fieldLink_RX1_18_SR_Formulas_tokens_LSR_Tokens) (fun _ q9 => q9) dX1_loadName_22 ?_
    refine cGN_44 (v := (p1.2.i 44)) hx hb hts i_X1_loadName_X9 hown hK hC (va_Nw.use rfl (hZ.1 (.fieldLinkNest RX1 46 "StatementRules2$Tokens" "place" "I" "StatementRules2") (by decide +kernel))) (fun _ q9 => q9) dX1_loadName_25 rfl ?_
    obtain ⟨p18, hcp18, hf⟩ := hf_bind hf
    have mo19 : CS.hs p1.2 ≤ CS.hs p18.2 := Mono.go hcp18 (m_X1_fail N p1.2 3 (p1.2.i 44))
    have hr9 : CS.hs p18.2 ≤ CS.hs R.2 := Mono.go hf (mono_some (Nat.le_refl _))
    have hFc := cFree hC hA
    refine va_callv (va_runU (As := [.int 3, .int (p1.2.i 44)]) (rest := []) ⟨hx, hb, hml, hown, hts⟩ (c_X1_fail l dC dI Q N p1.2 3 (p1.2.i 44) p18 hcp18) (va_cwU 2 hts hX1_loadName_X1_fail_u49 rfl rfl rfl rfl (by decide +kernel) ⟨(show 2 + 1 ≤ 4 by omega), (show 8 + (3 + 11) + 60 * 2 ≤ 60 * 4 by omega)⟩) ⟨zPre.blind, va_recv hK hC.1 (ci := 6) (q0 := 3) rfl rfl, cPre_go hZ hK hC⟩ rfl rfl hl.1 rfl (lv_room (Nat.le_of_ble_eq_true rfl)) dX1_loadName_28 (cAcc h4 mo19 hr9)) hC.2.2.1 (fun q _ h => hFc q h) hFc (fun u9 t9 H1 locs ht hvm hw hB hz1 hk1 hS => ?_)
    obtain ⟨⟨hP, hK1, hD1⟩, hsz1⟩ := hB
    rw [ht] at hP hsz1
    have hC : CP dC dI Q A s.heap p18.2 H1 locs := ⟨hP, hD1.weaken (fun _ _ _ h => hFc _ h), hS, hsz1⟩
    generalize H1 = H at hC ⊢
    have h21 : (CS.hs σ) ≤ CS.hs p18.2 := Nat.le_trans h4 mo19
    refine W.widen (k := CS.hs p18.2 - (CS.hs σ)) (n := 17 * (CS.hs p18.2 - (CS.hs σ))) (cAcc2 h4 mo19) (cAcc3 h4 mo19) ?_
    obtain rfl := Option.some.inj hf
    exact W.vret hx hb hr (fun t ht hW => ⟨⟨(), rfl, trivial, ⟨by rw [ht]; exact hC.1, va_K.moved hW.alike hK, hC.2.1⟩, by rw [ht]; exact hC.2.2.2⟩, hC.2.2.1.F ht⟩) hC.2.2.1.2.2 dX1_loadName_31
theorem k_X1_negated_fieldLink_RX1_30_SR_Formulas_faultNumber_I : Cond.fieldLink RX1 30 "StatementRules2$Formulas" "faultNumber" "I" ∈ wzX1_negated := List.mem_cons_of_mem _ (List.mem_append_right _ (List.mem_append_right _ (List.mem_append_right _ (List.mem_append_right _ (List.mem_append_right _ (List.mem_append_right _ (List.mem_append_right _ (List.mem_append_right _ (List.mem_append_left _ (List.mem_of_getElem? (i := 0) rfl))))))))))
theorem i_X1_negated_X7 : ∀ w ∈ wsX70, w ∈ wzX1_negated := fun _ h => List.mem_cons_of_mem _ (List.mem_append_right _ (List.mem_append_right _ (List.mem_append_right _ (List.mem_append_right _ (List.mem_append_right _ (List.mem_append_right _ (List.mem_append_right _ (List.mem_append_right _ (List.mem_append_right _ (List.mem_append_right _ (List.mem_append_right _ (List.mem_append_right _ (List.mem_append_right _ (List.mem_append_right _ (List.mem_append_right _ (List.mem_append_right _ (List.mem_append_right _ (List.mem_append_right _ (List.mem_append_right _ (List.mem_append_right _ (List.mem_append_right _ (List.mem_append_right _ (List.mem_append_right _ (List.mem_append_right _ (List.mem_append_right _ (List.mem_append_right _ (List.mem_append_right _ (List.mem_append_right _ (List.mem_append_right _ (List.mem_append_right _ (List.mem_append_right _ (List.mem_append_right _ (List.mem_append_right _ (List.mem_append_right _ (List.mem_append_right _ (List.mem_append_right _ (List.mem_append_left _ (h))))))))))))))))))))))))))))))))))))))
theorem k_X1_negated_fieldLink_RX1_62_SR_Formulas_openSigns_I : Cond.fieldLink RX1 62 "StatementRules2$Formulas" "openSigns" "I" ∈ wzX1_negated := List.mem_cons_of_mem _ (List.mem_append_right _ (List.mem_append_right _ (List.mem_append_right _ (List.mem_append_right _ (List.mem_append_right _ (List.mem_append_right _ (List.mem_append_right _ (List.mem_append_right _ (List.mem_append_left _ (List.mem_of_getElem? (i := 1) rfl))))))))))
theorem k_X1_negated_fieldLink_RX1_22_SR_Formulas_code_LSR_Code : Cond.fieldLink RX1 22 "StatementRules2$Formulas" "code" "LStatementRules2$Code;" ∈ wzX1_negated := List.mem_cons_of_mem _ (List.mem_append_right _ (List.mem_append_right _ (List.mem_append_right _ (List.mem_append_right _ (List.mem_append_right _ (List.mem_append_right _ (List.mem_append_right _ (List.mem_append_right _ (List.mem_append_left _ (List.mem_of_getElem? (i := 2) rfl))))))))))
set_option maxHeartbeats 4000000 in
set_option maxRecDepth 100000 in
theorem j_X1_negated_17 {p : Program} {e : Env} {s : State} {m : MethodId} {args : Array Value} {below : List Frame} {meth : Method} {c : Code} {A : Nat → Prop} (l : Launch) (dC : Nat → ClassId) (dI : Nat → Nat → Nat) (Q : CQ) (N : Nat) (d : Nat) (E1 : CS → Option (Unit × CS)) (E2 : CS → Option (Int32 × CS)) (hE1 : cMF l dC dI Q d E1) (hE2 : cMO l dC dI Q d E2) (hm1 : ∀ σ, Mono (CS.hs σ) (E1 σ)) (hm2 : ∀ σ, Mono (CS.hs σ) (E2 σ)) (z9h : Nat) (R : Unit × CS) (hx : p.tables.exec = Jvm.exec) (hb : c.code = cX1_negated) (hr : meth.sig.returnType = none) (hml : c.maxLocals = 1) (hown : s.vm.findClass RX1 = some m.cls) (hts : ∀ w ∈ wzX1_negated, w.before args s = true) (hlocks : meth.locks = false) (hZ : zAMB s) (hA : ∀ q : Nat, s.heap.size ≤ q → A q) (hK : va_K (dC, dI) vwCl (cT Q) s) : ∀ (σ : CS) (H : Heap) (locs : List Loc) (ls : Array Slot), f_X1_negated_17 N E1 E2 σ = some R → z9h ≤ CS.hs σ → CP dC dI Q A s.heap σ H locs → lv_has ls 1 [(0, .ref (Q.o 3))] → W p l e ({ frames := (11 + 40 * d), cells := CS.hs R.2 - z9h, slots := 17 * (CS.hs R.2 - z9h), locals := 60 * (11 + 40 * d) }) s m args below meth c H locs (CS.hs σ - z9h) (17 * (CS.hs σ - z9h)) (MQ below (va_Qv (fun (_ : Unit) => True) (fun (_ : Unit) (t : State) => zPost dC dI A (cW Q R.2) (cT Q) t ∧ t.heap.size = CS.hs R.2) A) args s (CS.hs R.2 - z9h) (17 * (CS.hs R.2 - z9h)) A) (F0 m 17 ls []) := by
  intro σ  H locs ls hf h0 hC hl
  unfold f_X1_negated_17 at hf
  refine lv_aload_n hx hb dX1_negated_17 rfl (lv_at hl 0 rfl) ?_
  refine lv_dup hx hb dX1_negated_18 rfl ?_
  refine cG_34 (v := (σ.i 34)) hx hb hts i_X1_negated_X7 hown hK hC (hts (.fieldLink RX1 62 "StatementRules2$Formulas" "openSigns" "I") k_X1_negated_fieldLink_RX1_62_SR_Formulas_openSigns_I) (fun _ q9 => q9) dX1_negated_19 rfl ?_
  refine lv_iconst (v := 1) hx hb dX1_negated_22 (by decide) ?_
  refine lv_isub hx hb dX1_negated_23 ?_
  refine cP_34 (v := ((σ.i 34) - 1)) hx hb hts i_X1_negated_X7 hown hK hC (hts (.fieldLink RX1 62 "StatementRules2$Formulas" "openSigns" "I") k_X1_negated_fieldLink_RX1_62_SR_Formulas_openSigns_I) (fun _ q9 => q9) dX1_negated_24 (fun H locs hC => ?_)
  refine lv_aload_n hx hb dX1_negated_27 rfl (lv_at hl 0 rfl) ?_
  refine cG_29 hx hb hts i_X1_negated_X7 hown hK hC (hts (.fieldLink RX1 22 "StatementRules2$Formulas" "code" "LStatementRules2$Code;") k_X1_negated_fieldLink_RX1_22_SR_Formulas_code_LSR_Code) (fun _ q9 => q9) dX1_negated_28 ?_
  refine lv_iconst (v := 4) hx hb dX1_negated_31 (by decide) ?_
  refine lv_iconst (v := 0) hx hb dX1_negated_32 (by decide) ?_
  obtain ⟨p6, hcp6, hf⟩ := hf_bind hf
  have mo7 : CS.hs σ ≤ CS.hs p6.2 := Mono.go hcp6 (m_X0_add N (CS.setI σ 34 ((σ.i 34) - 1)) 4 0)
  have hr9 : CS.hs p6.2 ≤ CS.hs R.2 := Mono.go hf (mono_some (Nat.le_refl _))
  have hFc := cFree hC hA
  refine va_callv (va_runV (As := [.int 4, .int 0]) (rest := []) ⟨hx, hb, hml, hown, hts⟩ (c_X0_add l dC dI Q N (CS.setI σ 34 ((σ.i 34) - 1)) 4 0 p6 hcp6) (cwV 2 hts hX1_negated_X0_add_v68 rfl rfl rfl (by decide +kernel) ⟨(show 2 + 1 ≤ (11 + 40 * d) by omega), (show 8 + (3 + 11) + 60 * 2 ≤ 60 * (11 + 40 * d) by omega)⟩) ⟨zPre.blind, va_recv hK hC.1 (ci := 0) (q0 := 2) rfl rfl, cPre_go hZ hK hC⟩ rfl rfl hl.1 rfl (lv_room (Nat.le_of_ble_eq_true rfl)) dX1_negated_33 (cAcc h0 mo7 hr9)) hC.2.2.1 (fun q _ h => hFc q h) hFc (fun u9 t9 H1 locs ht hvm hw hB hz1 hk1 hS => ?_)
  obtain ⟨⟨hP, hK1, hD1⟩, hsz1⟩ := hB
  rw [ht] at hP hsz1
  have hC : CP dC dI Q A s.heap p6.2 H1 locs := ⟨hP, hD1.weaken (fun _ _ _ h => hFc _ h), hS, hsz1⟩
  generalize H1 = H at hC ⊢
  have h9 : z9h ≤ CS.hs p6.2 := Nat.le_trans h0 mo7
  refine W.widen (k := CS.hs p6.2 - z9h) (n := 17 * (CS.hs p6.2 - z9h)) (cAcc2 h0 mo7) (cAcc3 h0 mo7) ?_
  obtain rfl := Option.some.inj hf
  exact W.vret hx hb hr (fun t ht hW => ⟨⟨(), rfl, trivial, ⟨by rw [ht]; exact hC.1, va_K.moved hW.alike hK, hC.2.1⟩, by rw [ht]; exact hC.2.2.2⟩, hC.2.2.1.F ht⟩) hC.2.2.1.2.2 dX1_negated_36
set_option maxHeartbeats 4000000 in
set_option maxRecDepth 100000 in
theorem c_X1_negated (l : Launch) (dC : Nat → ClassId) (dI : Nat → Nat → Nat) (Q : CQ) (N : Nat) (d : Nat) (E1 : CS → Option (Unit × CS)) (E2 : CS → Option (Int32 × CS)) (hE1 : cMF l dC dI Q d E1) (hE2 : cMO l dC dI Q d E2) (hm1 : ∀ σ, Mono (CS.hs σ) (E1 σ)) (hm2 : ∀ σ, Mono (CS.hs σ) (E2 σ)) (σ : CS) (R : Unit × CS) (hf : f_X1_negated N E1 E2 σ = some R) : Met l yX1_negated wzX1_negated ({ frames := (11 + 40 * d), cells := CS.hs R.2 - CS.hs σ, slots := 17 * (CS.hs R.2 - CS.hs σ), locals := 60 * (11 + 40 * d) }) (va_Pc [.ref (Q.o 3)] (zPre dC dI (CS.hs σ) (cW Q σ) (cT Q))) (va_Qv (fun (_ : Unit) => True) (fun (_ : Unit) (t : State) => zPost dC dI (va_A (cW Q σ) (CS.hs σ)) (cW Q R.2) (cT Q) t ∧ t.heap.size = CS.hs R.2) (va_A (cW Q σ) (CS.hs σ))) (CS.hs R.2 - CS.hs σ) (17 * (CS.hs R.2 - CS.hs σ)) (va_A (cW Q σ) (CS.hs σ)) := by
  refine Met.ofW (cc := cX1_negated) (maxL := 1) (ret := none) (by decide) rfl ?_
  intro p e s m args below meth c s₁ B hml hv
  obtain ⟨rfl, hsz, hZ, hP, hK, hD0⟩ := hv
  have hx := B.exec
  have hb := B.bytes
  have hr := B.returns
  have hts := atoms_spec (ws := wzX1_negated) B.pre
  have hown : s.vm.findClass RX1 = some m.cls := findClass_of_methodNamed B.named
  have hlocks := B.notSynchronized
  have hD := hD0.self (sz := CS.hs σ)
  generalize hAe : va_A (cW Q σ) (CS.hs σ) = A at hD ⊢
  have hA : ∀ q : Nat, s.heap.size ≤ q → A q := fun q h => by rw [← hAe]; exact Or.inr (hsz ▸ h)
  have hC : CP dC dI Q A s.heap σ s.heap [] := ⟨hP, hD, va_S.rf, hsz⟩
  have h0 : CS.hs σ ≤ CS.hs σ := Nat.le_refl _
  have hl := lv_entry ([.ref (Q.o 3)]) (n := 1) (Nat.le_of_ble_eq_true rfl)
  rw [lg_entry_eq]
  generalize (lg_sl ([.ref (Q.o 3)]) ++ List.replicate (1 - (lg_sl ([.ref (Q.o 3)])).length) Slot.unset).toArray = ls at hl ⊢
  have hl : lv_has ls 1 [(0, .ref (Q.o 3))] := hl
  unfold f_X1_negated at hf
  refine W.widen (k := CS.hs σ - CS.hs σ) (n := 17 * (CS.hs σ - CS.hs σ)) (Nat.zero_le _) (Nat.zero_le _) ?_
  refine lv_aload_n hx hb dX1_negated_0 rfl (lv_at hl 0 rfl) ?_
  refine lv_bipush (v := 45) hx hb dX1_negated_1 (by decide) ?_
  obtain ⟨p1, hcp1, hf⟩ := hf_bind hf
  have mo2 : CS.hs σ ≤ CS.hs p1.2 := Mono.go hcp1 (m_X1_open N σ 45)
  have hr9 : CS.hs p1.2 ≤ CS.hs R.2 := Mono.go hf (mono_ite (mono_bind (hm1 p1.2) (fun p10 => (m_X1_negated_17 N E1 E2 hm1 hm2 p10.2))) (m_X1_negated_17 N E1 E2 hm1 hm2 p1.2))
  have hFc := cFree hC hA
  refine va_callv (va_runU (As := [.int 45]) (rest := []) ⟨hx, hb, hml, hown, hts⟩ (c_X1_open l dC dI Q N σ 45 p1 hcp1) (va_cwU 1 hts hX1_negated_X1_open_u85 rfl rfl rfl rfl (by decide +kernel) ⟨(show 4 + 1 ≤ (11 + 40 * d) by omega), (show 8 + (2 + 11) + 60 * 4 ≤ 60 * (11 + 40 * d) by omega)⟩) ⟨zPre.blind, va_recv hK hC.1 (ci := 6) (q0 := 3) rfl rfl, cPre_go hZ hK hC⟩ rfl rfl hl.1 rfl (lv_room (Nat.le_of_ble_eq_true rfl)) dX1_negated_3 (cAcc h0 mo2 hr9)) hC.2.2.1 (fun q _ h => hFc q h) hFc (fun u9 t9 H1 locs ht hvm hw hB hz1 hk1 hS => ?_)
  obtain ⟨⟨hP, hK1, hD1⟩, hsz1⟩ := hB
  rw [ht] at hP hsz1
  have hC : CP dC dI Q A s.heap p1.2 H1 locs := ⟨hP, hD1.weaken (fun _ _ _ h => hFc _ h), hS, hsz1⟩
  generalize H1 = H at hC ⊢
  have h4 : (CS.hs σ) ≤ CS.hs p1.2 := Nat.le_trans h0 mo2
  refine W.widen (k := CS.hs p1.2 - (CS.hs σ)) (n := 17 * (CS.hs p1.2 - (CS.hs σ))) (cAcc2 h0 mo2) (cAcc3 h0 mo2) ?_
  refine lv_aload_n hx hb dX1_negated_6 rfl (lv_at hl 0 rfl) ?_
  refine cG_32 (v := (p1.2.i 32)) hx hb hts i_X1_negated_X7 hown hK hC (hts (.fieldLink RX1 30 "StatementRules2$Formulas" "faultNumber" "I") k_X1_negated_fieldLink_RX1_30_SR_Formulas_faultNumber_I) (fun _ q9 => q9) dX1_negated_7 rfl ?_
  refine lv_if_ne (tgt := 17) hx hb dX1_negated_10 (by decide) (fun c5 => ?_) (fun c5 => ?_)
  ·
    replace hf := (if_neg c5).symm.trans hf
    exact j_X1_negated_17 l dC dI Q N d E1 E2 hE1 hE2 hm1 hm2 (CS.hs σ) R hx hb hr hml hown hts hlocks hZ hA hK p1.2 _ _ _ hf h4 hC (lv_sub hl [0] rfl)
  ·
    replace hf := (if_pos c5).symm.trans hf
    refine lv_aload_n hx hb dX1_negated_13 rfl (lv_at hl 0 rfl) ?_
    obtain ⟨p10, hcp10, hf⟩ := hf_bind hf
    have mo11 : CS.hs p1.2 ≤ CS.hs p10.2 := Mono.go hcp10 (hm1 p1.2)
    have hr9 : CS.hs p10.2 ≤ CS.hs R.2 := Mono.go hf (m_X1_negated_17 N E1 E2 hm1 hm2 p10.2)
    have hFc := cFree hC hA
    refine va_callv (va_runU (As := []) (rest := []) ⟨hx, hb, hml, hown, hts⟩ (hE1 p1.2 p10 hcp10) (va_cwU 0 hts hX1_negated_X1_factor_u73 rfl rfl rfl rfl (by decide +kernel) ⟨(show (10 + 40 * d) + 1 ≤ (11 + 40 * d) by omega), (show 8 + (1 + 11) + 60 * (10 + 40 * d) ≤ 60 * (11 + 40 * d) by omega)⟩) ⟨zPre.blind, va_recv hK hC.1 (ci := 6) (q0 := 3) rfl rfl, cPre_go hZ hK hC⟩ rfl rfl hl.1 rfl (lv_room (Nat.le_of_ble_eq_true rfl)) dX1_negated_14 (cAcc h4 mo11 hr9)) hC.2.2.1 (fun q _ h => hFc q h) hFc (fun u9 t9 H1 locs ht hvm hw hB hz1 hk1 hS => ?_)
    obtain ⟨⟨hP, hK1, hD1⟩, hsz1⟩ := hB
    rw [ht] at hP hsz1
    have hC : CP dC dI Q A s.heap p10.2 H1 locs := ⟨hP, hD1.weaken (fun _ _ _ h => hFc _ h), hS, hsz1⟩
    generalize H1 = H at hC ⊢
    have h13 : (CS.hs σ) ≤ CS.hs p10.2 := Nat.le_trans h4 mo11
    refine W.widen (k := CS.hs p10.2 - (CS.hs σ)) (n := 17 * (CS.hs p10.2 - (CS.hs σ))) (cAcc2 h4 mo11) (cAcc3 h4 mo11) ?_
    exact j_X1_negated_17 l dC dI Q N d E1 E2 hE1 hE2 hm1 hm2 (CS.hs σ) R hx hb hr hml hown hts hlocks hZ hA hK p10.2 _ _ _ hf h13 hC (lv_sub hl [0] rfl)
theorem k_X1_caseNumber_fieldLink_RX1_18_SR_Formulas_tokens_LSR_Tokens : Cond.fieldLink RX1 18 "StatementRules2$Formulas" "tokens" "LStatementRules2$Tokens;" ∈ wzX1_caseNumber := List.mem_cons_of_mem _ (List.mem_append_left _ (List.mem_of_getElem? (i := 0) rfl))
theorem i_X1_caseNumber_X7 : ∀ w ∈ wsX70, w ∈ wzX1_caseNumber := fun _ h => List.mem_cons_of_mem _ (List.mem_append_right _ (List.mem_append_left _ (h)))
theorem i_X1_caseNumber_X9 : ∀ w ∈ wsX90, w ∈ wzX1_caseNumber := fun _ h => List.mem_cons_of_mem _ (List.mem_append_right _ (List.mem_append_right _ (List.mem_append_left _ (h))))
theorem k_X1_caseNumber_fieldLink_RX1_22_SR_Formulas_code_LSR_Code : Cond.fieldLink RX1 22 "StatementRules2$Formulas" "code" "LStatementRules2$Code;" ∈ wzX1_caseNumber := List.mem_cons_of_mem _ (List.mem_append_left _ (List.mem_of_getElem? (i := 1) rfl))
set_option maxHeartbeats 4000000 in
set_option maxRecDepth 100000 in
theorem j_X1_caseNumber_44 {p : Program} {e : Env} {s : State} {m : MethodId} {args : Array Value} {below : List Frame} {meth : Method} {c : Code} {A : Nat → Prop} (l : Launch) (dC : Nat → ClassId) (dI : Nat → Nat → Nat) (Q : CQ) (N : Nat) (z9h : Nat) (R : Unit × CS) (hx : p.tables.exec = Jvm.exec) (hb : c.code = cX1_caseNumber) (hr : meth.sig.returnType = none) (hml : c.maxLocals = 5) (hown : s.vm.findClass RX1 = some m.cls) (hts : ∀ w ∈ wzX1_caseNumber, w.before args s = true) (hlocks : meth.locks = false) (hZ : zAMB s) (hA : ∀ q : Nat, s.heap.size ≤ q → A q) (hK : va_K (dC, dI) vwCl (cT Q) s) : ∀ (σ : CS) (x1 : Int32) (x2 : Int32) (x4 : Int32) (H : Heap) (locs : List Loc) (ls : Array Slot), f_X1_caseNumber_44 N σ x1 x2 x4 = some R → z9h ≤ CS.hs σ → CP dC dI Q A s.heap σ H locs → lv_has ls 5 [(0, .ref (Q.o 3)), (1, .int x1), (2, .int x2), (4, .int x4)] → W p l e ({ frames := 5, cells := CS.hs R.2 - z9h, slots := 17 * (CS.hs R.2 - z9h), locals := 60 * 5 }) s m args below meth c H locs (CS.hs σ - z9h) (17 * (CS.hs σ - z9h)) (MQ below (va_Qv (fun (_ : Unit) => True) (fun (_ : Unit) (t : State) => zPost dC dI A (cW Q R.2) (cT Q) t ∧ t.heap.size = CS.hs R.2) A) args s (CS.hs R.2 - z9h) (17 * (CS.hs R.2 - z9h)) A) (F0 m 44 ls []) := by
  intro σ x1 x2 x4 H locs ls hf h0 hC hl
  unfold f_X1_caseNumber_44 at hf
  refine lv_aload_n hx hb dX1_caseNumber_44 rfl (lv_at hl 0 rfl) ?_
  refine cG_29 hx hb hts i_X1_caseNumber_X7 hown hK hC (hts (.fieldLink RX1 22 "StatementRules2$Formulas" "code" "LStatementRules2$Code;") k_X1_caseNumber_fieldLink_RX1_22_SR_Formulas_code_LSR_Code) (fun _ q9 => q9) dX1_caseNumber_45 ?_
  refine lv_iload_n hx hb dX1_caseNumber_48 rfl (lv_at hl 1 rfl) ?_
  refine lv_iload hx hb dX1_caseNumber_49 (lv_at hl 3 rfl) ?_
  obtain ⟨p11, hcp11, hf⟩ := hf_bind hf
  have mo12 : CS.hs σ ≤ CS.hs p11.2 := Mono.go hcp11 (m_X0_hasCase N σ x1 x4)
  have hr9 : CS.hs p11.2 ≤ CS.hs R.2 := Mono.go hf (mono_ite (mono_bind (m_X0_addCase N p11.2 x4 x2) (fun p16 => (mono_bind (m_X9_advance N p16.2) (fun p20 => (mono_some (Nat.le_refl _)))))) (mono_bind (m_X1_fail N p11.2 4 (p11.2.i 44)) (fun p24 => (mono_some (Nat.le_refl _)))))
  have hFc := cFree hC hA
  refine va_calli (va_runV (As := [.int x1, .int x4]) (rest := []) ⟨hx, hb, hml, hown, hts⟩ (c_X0_hasCase l dC dI Q N σ x1 x4 p11 hcp11) (cwV 2 hts hX1_caseNumber_X0_hasCase_v139 rfl rfl rfl (by decide +kernel) ⟨(show 2 + 1 ≤ 5 by omega), (show 8 + (4 + 11) + 60 * 2 ≤ 60 * 5 by omega)⟩) ⟨zPre.blind, va_recv hK hC.1 (ci := 0) (q0 := 2) rfl rfl, cPre_go hZ hK hC⟩ rfl rfl hl.1 rfl (lv_room (Nat.le_of_ble_eq_true rfl)) dX1_caseNumber_51 (cAcc h0 mo12 hr9)) hC.2.2.1 (fun q _ h => hFc q h) hFc (fun r13 u9 t9 H1 locs ht hvm hw hB hz1 hk1 hS => ?_)
  obtain ⟨⟨hP, hK1, hD1⟩, hsz1⟩ := hB
  rw [ht] at hP hsz1
  have hC : CP dC dI Q A s.heap p11.2 H1 locs := ⟨hP, hD1.weaken (fun _ _ _ h => hFc _ h), hS, hsz1⟩
  generalize H1 = H at hC ⊢
  have h14 : z9h ≤ CS.hs p11.2 := Nat.le_trans h0 mo12
  refine W.widen (k := CS.hs p11.2 - z9h) (n := 17 * (CS.hs p11.2 - z9h)) (cAcc2 h0 mo12) (cAcc3 h0 mo12) ?_
  obtain rfl : r13 = p11.1 := hw
  refine lv_if_eq (tgt := 70) hx hb dX1_caseNumber_54 (by decide) (fun c15 => ?_) (fun c15 => ?_)
  ·
    replace hf := (if_pos c15).symm.trans hf
    refine lv_aload_n hx hb dX1_caseNumber_70 rfl (lv_at hl 0 rfl) ?_
    refine cG_29 hx hb hts i_X1_caseNumber_X7 hown hK hC (hts (.fieldLink RX1 22 "StatementRules2$Formulas" "code" "LStatementRules2$Code;") k_X1_caseNumber_fieldLink_RX1_22_SR_Formulas_code_LSR_Code) (fun _ q9 => q9) dX1_caseNumber_71 ?_
    refine lv_iload hx hb dX1_caseNumber_74 (lv_at hl 3 rfl) ?_
    refine lv_iload_n hx hb dX1_caseNumber_76 rfl (lv_at hl 2 rfl) ?_
    obtain ⟨p16, hcp16, hf⟩ := hf_bind hf
    have mo17 : CS.hs p11.2 ≤ CS.hs p16.2 := Mono.go hcp16 (m_X0_addCase N p11.2 x4 x2)
    have hr9 : CS.hs p16.2 ≤ CS.hs R.2 := Mono.go hf (mono_bind (m_X9_advance N p16.2) (fun p20 => (mono_some (Nat.le_refl _))))
    have hFc := cFree hC hA
    refine va_callv (va_runV (As := [.int x4, .int x2]) (rest := []) ⟨hx, hb, hml, hown, hts⟩ (c_X0_addCase l dC dI Q N p11.2 x4 x2 p16 hcp16) (cwV 2 hts hX1_caseNumber_X0_addCase_v143 rfl rfl rfl (by decide +kernel) ⟨(show 2 + 1 ≤ 5 by omega), (show 8 + (3 + 11) + 60 * 2 ≤ 60 * 5 by omega)⟩) ⟨zPre.blind, va_recv hK hC.1 (ci := 0) (q0 := 2) rfl rfl, cPre_go hZ hK hC⟩ rfl rfl hl.1 rfl (lv_room (Nat.le_of_ble_eq_true rfl)) dX1_caseNumber_77 (cAcc h14 mo17 hr9)) hC.2.2.1 (fun q _ h => hFc q h) hFc (fun u9 t9 H1 locs ht hvm hw hB hz1 hk1 hS => ?_)
    obtain ⟨⟨hP, hK1, hD1⟩, hsz1⟩ := hB
    rw [ht] at hP hsz1
    have hC : CP dC dI Q A s.heap p16.2 H1 locs := ⟨hP, hD1.weaken (fun _ _ _ h => hFc _ h), hS, hsz1⟩
    generalize H1 = H at hC ⊢
    have h19 : z9h ≤ CS.hs p16.2 := Nat.le_trans h14 mo17
    refine W.widen (k := CS.hs p16.2 - z9h) (n := 17 * (CS.hs p16.2 - z9h)) (cAcc2 h14 mo17) (cAcc3 h14 mo17) ?_
    refine lv_aload_n hx hb dX1_caseNumber_80 rfl (lv_at hl 0 rfl) ?_
    refine cG_28 hx hb hts i_X1_caseNumber_X7 hown hK hC (hts (.fieldLink RX1 18 "StatementRules2$Formulas" "tokens" "LStatementRules2$Tokens;") k_X1_caseNumber_fieldLink_RX1_18_SR_Formulas_tokens_LSR_Tokens) (fun _ q9 => q9) dX1_caseNumber_81 ?_
    obtain ⟨p20, hcp20, hf⟩ := hf_bind hf
    have mo21 : CS.hs p16.2 ≤ CS.hs p20.2 := Mono.go hcp20 (m_X9_advance N p16.2)
    have hr9 : CS.hs p20.2 ≤ CS.hs R.2 := Mono.go hf (mono_some (Nat.le_refl _))
    have hFc := cFree hC hA
    refine va_callv (va_runV (As := []) (rest := []) ⟨hx, hb, hml, hown, hts⟩ (c_X9_advance l dC dI Q N p16.2 p20 hcp20) (cwV 0 hts hX1_caseNumber_X9_advance_v56 rfl rfl rfl (by decide +kernel) ⟨(show 3 + 1 ≤ 5 by omega), (show 8 + (2 + 11) + 60 * 3 ≤ 60 * 5 by omega)⟩) ⟨zPre.blind, va_recv hK hC.1 (ci := 8) (q0 := 4) rfl rfl, cPre_go hZ hK hC⟩ rfl rfl hl.1 rfl (lv_room (Nat.le_of_ble_eq_true rfl)) dX1_caseNumber_84 (cAcc h19 mo21 hr9)) hC.2.2.1 (fun q _ h => hFc q h) hFc (fun u9 t9 H1 locs ht hvm hw hB hz1 hk1 hS => ?_)
    obtain ⟨⟨hP, hK1, hD1⟩, hsz1⟩ := hB
    rw [ht] at hP hsz1
    have hC : CP dC dI Q A s.heap p20.2 H1 locs := ⟨hP, hD1.weaken (fun _ _ _ h => hFc _ h), hS, hsz1⟩
    generalize H1 = H at hC ⊢
    have h23 : z9h ≤ CS.hs p20.2 := Nat.le_trans h19 mo21
    refine W.widen (k := CS.hs p20.2 - z9h) (n := 17 * (CS.hs p20.2 - z9h)) (cAcc2 h19 mo21) (cAcc3 h19 mo21) ?_
    obtain rfl := Option.some.inj hf
    exact W.vret hx hb hr (fun t ht hW => ⟨⟨(), rfl, trivial, ⟨by rw [ht]; exact hC.1, va_K.moved hW.alike hK, hC.2.1⟩, by rw [ht]; exact hC.2.2.2⟩, hC.2.2.1.F ht⟩) hC.2.2.1.2.2 dX1_caseNumber_87
  ·
    replace hf := (if_neg c15).symm.trans hf
    refine lv_aload_n hx hb dX1_caseNumber_57 rfl (lv_at hl 0 rfl) ?_
    refine lv_iconst (v := 4) hx hb dX1_caseNumber_58 (by decide) ?_
    refine lv_aload_n hx hb dX1_caseNumber_59 rfl (lv_at hl 0 rfl) ?_
    refine cG_28 hx hb hts i_X1_caseNumber_X7 hown hK hC (hts (.fieldLink RX1 18 "StatementRules2$Formulas" "tokens" "LStatementRules2$Tokens;") k_X1_caseNumber_fieldLink_RX1_18_SR_Formulas_tokens_LSR_Tokens) (fun _ q9 => q9) dX1_caseNumber_60 ?_
    refine cGN_44 (v := (p11.2.i 44)) hx hb hts i_X1_caseNumber_X9 hown hK hC (va_Nw.use rfl (hZ.1 (.fieldLinkNest RX1 46 "StatementRules2$Tokens" "place" "I" "StatementRules2") (by decide +kernel))) (fun _ q9 => q9) dX1_caseNumber_63 rfl ?_
    obtain ⟨p24, hcp24, hf⟩ := hf_bind hf
    have mo25 : CS.hs p11.2 ≤ CS.hs p24.2 := Mono.go hcp24 (m_X1_fail N p11.2 4 (p11.2.i 44))
    have hr9 : CS.hs p24.2 ≤ CS.hs R.2 := Mono.go hf (mono_some (Nat.le_refl _))
    have hFc := cFree hC hA
    refine va_callv (va_runU (As := [.int 4, .int (p11.2.i 44)]) (rest := []) ⟨hx, hb, hml, hown, hts⟩ (c_X1_fail l dC dI Q N p11.2 4 (p11.2.i 44) p24 hcp24) (va_cwU 2 hts hX1_caseNumber_X1_fail_u49 rfl rfl rfl rfl (by decide +kernel) ⟨(show 2 + 1 ≤ 5 by omega), (show 8 + (3 + 11) + 60 * 2 ≤ 60 * 5 by omega)⟩) ⟨zPre.blind, va_recv hK hC.1 (ci := 6) (q0 := 3) rfl rfl, cPre_go hZ hK hC⟩ rfl rfl hl.1 rfl (lv_room (Nat.le_of_ble_eq_true rfl)) dX1_caseNumber_66 (cAcc h14 mo25 hr9)) hC.2.2.1 (fun q _ h => hFc q h) hFc (fun u9 t9 H1 locs ht hvm hw hB hz1 hk1 hS => ?_)
    obtain ⟨⟨hP, hK1, hD1⟩, hsz1⟩ := hB
    rw [ht] at hP hsz1
    have hC : CP dC dI Q A s.heap p24.2 H1 locs := ⟨hP, hD1.weaken (fun _ _ _ h => hFc _ h), hS, hsz1⟩
    generalize H1 = H at hC ⊢
    have h27 : z9h ≤ CS.hs p24.2 := Nat.le_trans h14 mo25
    refine W.widen (k := CS.hs p24.2 - z9h) (n := 17 * (CS.hs p24.2 - z9h)) (cAcc2 h14 mo25) (cAcc3 h14 mo25) ?_
    obtain rfl := Option.some.inj hf
    exact W.vret hx hb hr (fun t ht hW => ⟨⟨(), rfl, trivial, ⟨by rw [ht]; exact hC.1, va_K.moved hW.alike hK, hC.2.1⟩, by rw [ht]; exact hC.2.2.2⟩, hC.2.2.1.F ht⟩) hC.2.2.1.2.2 dX1_caseNumber_69
set_option maxHeartbeats 4000000 in
set_option maxRecDepth 100000 in
theorem c_X1_caseNumber (l : Launch) (dC : Nat → ClassId) (dI : Nat → Nat → Nat) (Q : CQ) (N : Nat) (σ : CS) (x1 : Int32) (x2 : Int32) (R : Unit × CS) (hf : f_X1_caseNumber N σ x1 x2 = some R) : Met l yX1_caseNumber wzX1_caseNumber ({ frames := 5, cells := CS.hs R.2 - CS.hs σ, slots := 17 * (CS.hs R.2 - CS.hs σ), locals := 60 * 5 }) (va_Pc [.ref (Q.o 3), .int x1, .int x2] (zPre dC dI (CS.hs σ) (cW Q σ) (cT Q))) (va_Qv (fun (_ : Unit) => True) (fun (_ : Unit) (t : State) => zPost dC dI (va_A (cW Q σ) (CS.hs σ)) (cW Q R.2) (cT Q) t ∧ t.heap.size = CS.hs R.2) (va_A (cW Q σ) (CS.hs σ))) (CS.hs R.2 - CS.hs σ) (17 * (CS.hs R.2 - CS.hs σ)) (va_A (cW Q σ) (CS.hs σ)) := by
  refine Met.ofW (cc := cX1_caseNumber) (maxL := 5) (ret := none) (by decide) rfl ?_
  intro p e s m args below meth c s₁ B hml hv
  obtain ⟨rfl, hsz, hZ, hP, hK, hD0⟩ := hv
  have hx := B.exec
  have hb := B.bytes
  have hr := B.returns
  have hts := atoms_spec (ws := wzX1_caseNumber) B.pre
  have hown : s.vm.findClass RX1 = some m.cls := findClass_of_methodNamed B.named
  have hlocks := B.notSynchronized
  have hD := hD0.self (sz := CS.hs σ)
  generalize hAe : va_A (cW Q σ) (CS.hs σ) = A at hD ⊢
  have hA : ∀ q : Nat, s.heap.size ≤ q → A q := fun q h => by rw [← hAe]; exact Or.inr (hsz ▸ h)
  have hC : CP dC dI Q A s.heap σ s.heap [] := ⟨hP, hD, va_S.rf, hsz⟩
  have h0 : CS.hs σ ≤ CS.hs σ := Nat.le_refl _
  have hl := lv_entry ([.ref (Q.o 3), .int x1, .int x2]) (n := 5) (Nat.le_of_ble_eq_true rfl)
  rw [lg_entry_eq]
  generalize (lg_sl ([.ref (Q.o 3), .int x1, .int x2]) ++ List.replicate (5 - (lg_sl ([.ref (Q.o 3), .int x1, .int x2])).length) Slot.unset).toArray = ls at hl ⊢
  have hl : lv_has ls 5 [(0, .ref (Q.o 3)), (1, .int x1), (2, .int x2)] := hl
  unfold f_X1_caseNumber at hf
  refine W.widen (k := CS.hs σ - CS.hs σ) (n := 17 * (CS.hs σ - CS.hs σ)) (Nat.zero_le _) (Nat.zero_le _) ?_
  refine lv_aload_n hx hb dX1_caseNumber_0 rfl (lv_at hl 0 rfl) ?_
  refine lv_bipush (v := 45) hx hb dX1_caseNumber_1 (by decide) ?_
  obtain ⟨p1, hcp1, hf⟩ := hf_bind hf
  have mo2 : CS.hs σ ≤ CS.hs p1.2 := Mono.go hcp1 (m_X1_skip N σ 45)
  have hr9 : CS.hs p1.2 ≤ CS.hs R.2 := Mono.go hf (mono_bind (m_X1_found N p1.2 1) (fun p5 => (mono_ite (mono_bind (m_X1_misplaced N p5.2) (fun p28 => (mono_some (Nat.le_refl _)))) (mono_ite (m_X1_caseNumber_44 N p5.2 x1 x2 (p5.2.i 45)) (m_X1_caseNumber_44 N p5.2 x1 x2 (-(p5.2.i 45)))))))
  have hFc := cFree hC hA
  refine va_calli (va_runU (As := [.int 45]) (rest := []) ⟨hx, hb, hml, hown, hts⟩ (c_X1_skip l dC dI Q N σ 45 p1 hcp1) (va_cwU 1 hts hX1_caseNumber_X1_skip_u130 rfl rfl rfl rfl (by decide +kernel) ⟨(show 4 + 1 ≤ 5 by omega), (show 8 + (3 + 11) + 60 * 4 ≤ 60 * 5 by omega)⟩) ⟨zPre.blind, va_recv hK hC.1 (ci := 6) (q0 := 3) rfl rfl, cPre_go hZ hK hC⟩ rfl rfl hl.1 rfl (lv_room (Nat.le_of_ble_eq_true rfl)) dX1_caseNumber_3 (cAcc h0 mo2 hr9)) hC.2.2.1 (fun q _ h => hFc q h) hFc (fun r3 u9 t9 H1 locs ht hvm hw hB hz1 hk1 hS => ?_)
  obtain ⟨⟨hP, hK1, hD1⟩, hsz1⟩ := hB
  rw [ht] at hP hsz1
  have hC : CP dC dI Q A s.heap p1.2 H1 locs := ⟨hP, hD1.weaken (fun _ _ _ h => hFc _ h), hS, hsz1⟩
  generalize H1 = H at hC ⊢
  have h4 : (CS.hs σ) ≤ CS.hs p1.2 := Nat.le_trans h0 mo2
  refine W.widen (k := CS.hs p1.2 - (CS.hs σ)) (n := 17 * (CS.hs p1.2 - (CS.hs σ))) (cAcc2 h0 mo2) (cAcc3 h0 mo2) ?_
  obtain rfl : r3 = p1.1 := hw
  refine lv_istore_n (lv' := [(3, .int p1.1), (0, .ref (Q.o 3)), (1, .int x1), (2, .int x2)]) hx hb dX1_caseNumber_6 rfl hl (by decide) rfl (fun ls hl => ?_)
  refine lv_aload_n hx hb dX1_caseNumber_7 rfl (lv_at hl 1 rfl) ?_
  refine lv_iconst (v := 1) hx hb dX1_caseNumber_8 (by decide) ?_
  obtain ⟨p5, hcp5, hf⟩ := hf_bind hf
  have mo6 : CS.hs p1.2 ≤ CS.hs p5.2 := Mono.go hcp5 (m_X1_found N p1.2 1)
  have hr9 : CS.hs p5.2 ≤ CS.hs R.2 := Mono.go hf (mono_ite (mono_bind (m_X1_misplaced N p5.2) (fun p28 => (mono_some (Nat.le_refl _)))) (mono_ite (m_X1_caseNumber_44 N p5.2 x1 x2 (p5.2.i 45)) (m_X1_caseNumber_44 N p5.2 x1 x2 (-(p5.2.i 45)))))
  have hFc := cFree hC hA
  refine va_calli (va_runU (As := [.int 1]) (rest := []) ⟨hx, hb, hml, hown, hts⟩ (c_X1_found l dC dI Q N p1.2 1 p5 hcp5) (va_cwU 1 hts hX1_caseNumber_X1_found_u42 rfl rfl rfl rfl (by decide +kernel) ⟨(show 1 + 1 ≤ 5 by omega), (show 8 + (2 + 11) + 60 * 1 ≤ 60 * 5 by omega)⟩) ⟨zPre.blind, va_recv hK hC.1 (ci := 6) (q0 := 3) rfl rfl, cPre_go hZ hK hC⟩ rfl rfl hl.1 rfl (lv_room (Nat.le_of_ble_eq_true rfl)) dX1_caseNumber_9 (cAcc h4 mo6 hr9)) hC.2.2.1 (fun q _ h => hFc q h) hFc (fun r7 u9 t9 H1 locs ht hvm hw hB hz1 hk1 hS => ?_)
  obtain ⟨⟨hP, hK1, hD1⟩, hsz1⟩ := hB
  rw [ht] at hP hsz1
  have hC : CP dC dI Q A s.heap p5.2 H1 locs := ⟨hP, hD1.weaken (fun _ _ _ h => hFc _ h), hS, hsz1⟩
  generalize H1 = H at hC ⊢
  have h8 : (CS.hs σ) ≤ CS.hs p5.2 := Nat.le_trans h4 mo6
  refine W.widen (k := CS.hs p5.2 - (CS.hs σ)) (n := 17 * (CS.hs p5.2 - (CS.hs σ))) (cAcc2 h4 mo6) (cAcc3 h4 mo6) ?_
  obtain rfl : r7 = p5.1 := hw
  refine lv_if_ne (tgt := 20) hx hb dX1_caseNumber_12 (by decide) (fun c9 => ?_) (fun c9 => ?_)
  ·
    replace hf := (if_neg c9).symm.trans hf
    refine lv_iload_n hx hb dX1_caseNumber_20 rfl (lv_at hl 0 rfl) ?_
    refine lv_if_eq (tgt := 35) hx hb dX1_caseNumber_21 (by decide) (fun c10 => ?_) (fun c10 => ?_)
    ·
      replace hf := (if_pos c10).symm.trans hf
      refine lv_aload_n hx hb dX1_caseNumber_35 rfl (lv_at hl 1 rfl) ?_
      refine cG_28 hx hb hts i_X1_caseNumber_X7 hown hK hC (hts (.fieldLink RX1 18 "StatementRules2$Formulas" "tokens" "LStatementRules2$Tokens;") k_X1_caseNumber_fieldLink_RX1_18_SR_Formulas_tokens_LSR_Tokens) (fun _ q9 => q9) dX1_caseNumber_36 ?_
      refine cGN_45 (v := (p5.2.i 45)) hx hb hts i_X1_caseNumber_X9 hown hK hC (va_Nw.use rfl (hZ.1 (.fieldLinkNest RX1 76 "StatementRules2$Tokens" "value" "I" "StatementRules2") (by decide +kernel))) (fun _ q9 => q9) dX1_caseNumber_39 rfl ?_
      refine lv_istore (lv' := [(4, .int (p5.2.i 45)), (3, .int p1.1), (0, .ref (Q.o 3)), (1, .int x1), (2, .int x2)]) hx hb dX1_caseNumber_42 hl (by decide) rfl (fun ls hl => ?_)
      exact j_X1_caseNumber_44 l dC dI Q N (CS.hs σ) R hx hb hr hml hown hts hlocks hZ hA hK p5.2 x1 x2 (p5.2.i 45) _ _ _ hf h8 hC (lv_sub hl [2, 3, 4, 0] rfl)
    ·
      replace hf := (if_neg c10).symm.trans hf
      refine lv_aload_n hx hb dX1_caseNumber_24 rfl (lv_at hl 1 rfl) ?_
      refine cG_28 hx hb hts i_X1_caseNumber_X7 hown hK hC (hts (.fieldLink RX1 18 "StatementRules2$Formulas" "tokens" "LStatementRules2$Tokens;") k_X1_caseNumber_fieldLink_RX1_18_SR_Formulas_tokens_LSR_Tokens) (fun _ q9 => q9) dX1_caseNumber_25 ?_
      refine cGN_45 (v := (p5.2.i 45)) hx hb hts i_X1_caseNumber_X9 hown hK hC (va_Nw.use rfl (hZ.1 (.fieldLinkNest RX1 76 "StatementRules2$Tokens" "value" "I" "StatementRules2") (by decide +kernel))) (fun _ q9 => q9) dX1_caseNumber_28 rfl ?_
      refine lv_ineg hx hb dX1_caseNumber_31 ?_
      refine lv_goto (tgt := 42) hx hb dX1_caseNumber_32 (by decide) ?_
      refine lv_istore (lv' := [(4, .int (-(p5.2.i 45))), (3, .int p1.1), (0, .ref (Q.o 3)), (1, .int x1), (2, .int x2)]) hx hb dX1_caseNumber_42 hl (by decide) rfl (fun ls hl => ?_)
      exact j_X1_caseNumber_44 l dC dI Q N (CS.hs σ) R hx hb hr hml hown hts hlocks hZ hA hK p5.2 x1 x2 (-(p5.2.i 45)) _ _ _ hf h8 hC (lv_sub hl [2, 3, 4, 0] rfl)
  ·
    replace hf := (if_pos c9).symm.trans hf
    refine lv_aload_n hx hb dX1_caseNumber_15 rfl (lv_at hl 1 rfl) ?_
    obtain ⟨p28, hcp28, hf⟩ := hf_bind hf
    have mo29 : CS.hs p5.2 ≤ CS.hs p28.2 := Mono.go hcp28 (m_X1_misplaced N p5.2)
    have hr9 : CS.hs p28.2 ≤ CS.hs R.2 := Mono.go hf (mono_some (Nat.le_refl _))
    have hFc := cFree hC hA
    refine va_callv (va_runU (As := []) (rest := []) ⟨hx, hb, hml, hown, hts⟩ (c_X1_misplaced l dC dI Q N p5.2 p28 hcp28) (va_cwU 0 hts hX1_caseNumber_X1_misplaced_u59 rfl rfl rfl rfl (by decide +kernel) ⟨(show 3 + 1 ≤ 5 by omega), (show 8 + (1 + 11) + 60 * 3 ≤ 60 * 5 by omega)⟩) ⟨zPre.blind, va_recv hK hC.1 (ci := 6) (q0 := 3) rfl rfl, cPre_go hZ hK hC⟩ rfl rfl hl.1 rfl (lv_room (Nat.le_of_ble_eq_true rfl)) dX1_caseNumber_16 (cAcc h8 mo29 hr9)) hC.2.2.1 (fun q _ h => hFc q h) hFc (fun u9 t9 H1 locs ht hvm hw hB hz1 hk1 hS => ?_)
    obtain ⟨⟨hP, hK1, hD1⟩, hsz1⟩ := hB
    rw [ht] at hP hsz1
    have hC : CP dC dI Q A s.heap p28.2 H1 locs := ⟨hP, hD1.weaken (fun _ _ _ h => hFc _ h), hS, hsz1⟩
    generalize H1 = H at hC ⊢
    have h31 : (CS.hs σ) ≤ CS.hs p28.2 := Nat.le_trans h8 mo29
    refine W.widen (k := CS.hs p28.2 - (CS.hs σ)) (n := 17 * (CS.hs p28.2 - (CS.hs σ))) (cAcc2 h8 mo29) (cAcc3 h8 mo29) ?_
    obtain rfl := Option.some.inj hf
    exact W.vret hx hb hr (fun t ht hW => ⟨⟨(), rfl, trivial, ⟨by rw [ht]; exact hC.1, va_K.moved hW.alike hK, hC.2.1⟩, by rw [ht]; exact hC.2.2.2⟩, hC.2.2.1.F ht⟩) hC.2.2.1.2.2 dX1_caseNumber_19
