theorem k_X9_takeNumber_fieldLink_RX9_66_SR_Tokens_value_I : Cond.fieldLink RX9 66 "StatementRules2$Tokens" "value" "I" ∈ wzX9_takeNumber := List.mem_cons_of_mem _ (List.mem_append_left _ (List.mem_of_getElem? (i := 0) rfl))
theorem i_X9_takeNumber_X9 : ∀ w ∈ wsX90, w ∈ wzX9_takeNumber := fun _ h => List.mem_cons_of_mem _ (List.mem_append_right _ (List.mem_append_left _ (h)))
theorem k_X9_takeNumber_fieldLink_RX9_34_SR_Tokens_next_I : Cond.fieldLink RX9 34 "StatementRules2$Tokens" "next" "I" ∈ wzX9_takeNumber := List.mem_cons_of_mem _ (List.mem_append_left _ (List.mem_of_getElem? (i := 1) rfl))
theorem k_X9_takeNumber_fieldLink_RX9_47_SR_Tokens_place_I : Cond.fieldLink RX9 47 "StatementRules2$Tokens" "place" "I" ∈ wzX9_takeNumber := List.mem_cons_of_mem _ (List.mem_append_left _ (List.mem_of_getElem? (i := 2) rfl))
theorem k_X9_takeNumber_fieldLink_RX9_40_SR_Tokens_type_I : Cond.fieldLink RX9 40 "StatementRules2$Tokens" "type" "I" ∈ wzX9_takeNumber := List.mem_cons_of_mem _ (List.mem_append_left _ (List.mem_of_getElem? (i := 3) rfl))
set_option maxHeartbeats 4000000 in
set_option maxRecDepth 100000 in
theorem j_X9_takeNumber_67 {p : Program} {e : Env} {s : State} {m : MethodId} {args : Array Value} {below : List Frame} {meth : Method} {c : Code} {A : Nat → Prop} (l : Launch) (dC : Nat → ClassId) (dI : Nat → Nat → Nat) (Q : CQ) (N : Nat) (z9h : Nat) (R : Unit × CS) (hx : p.tables.exec = Jvm.exec) (hb : c.code = cX9_takeNumber) (hr : meth.sig.returnType = none) (hml : c.maxLocals = 2) (hown : s.vm.findClass RX9 = some m.cls) (hts : ∀ w ∈ wzX9_takeNumber, w.before args s = true) (hlocks : meth.locks = false) (hZ : zAMB s) (hA : ∀ q : Nat, s.heap.size ≤ q → A q) (hK : va_K (dC, dI) vwCl (cT Q) s) : ∀ (σ : CS) (H : Heap) (locs : List Loc) (ls : Array Slot), f_X9_takeNumber_67 N σ = some R → z9h ≤ CS.hs σ → CP dC dI Q A s.heap σ H locs → lv_has ls 2 [(0, .ref (Q.o 4))] → W p l e ({ frames := 2, cells := CS.hs R.2 - z9h, slots := 17 * (CS.hs R.2 - z9h), locals := 60 * 2 }) s m args below meth c H locs (CS.hs σ - z9h) (17 * (CS.hs σ - z9h)) (MQ below (va_Qv (fun (_ : Unit) => True) (fun (_ : Unit) (t : State) => zPost dC dI A (cW Q R.2) (cT Q) t ∧ t.heap.size = CS.hs R.2) A) args s (CS.hs R.2 - z9h) (17 * (CS.hs R.2 - z9h)) A) (F0 m 67 ls []) := by
  intro σ  H locs ls hf h0 hC hl
  unfold f_X9_takeNumber_67 at hf
  refine lv_aload_n hx hb dX9_takeNumber_67 rfl (lv_at hl 0 rfl) ?_
  refine lv_aload_n hx hb dX9_takeNumber_68 rfl (lv_at hl 0 rfl) ?_
  refine cG_42 (v := (σ.i 42)) hx hb hts i_X9_takeNumber_X9 hown hK hC (hts (.fieldLink RX9 34 "StatementRules2$Tokens" "next" "I") k_X9_takeNumber_fieldLink_RX9_34_SR_Tokens_next_I) (fun _ q9 => q9) dX9_takeNumber_69 rfl ?_
  refine lv_aload_n hx hb dX9_takeNumber_72 rfl (lv_at hl 0 rfl) ?_
  refine cG_44 (v := (σ.i 44)) hx hb hts i_X9_takeNumber_X9 hown hK hC (hts (.fieldLink RX9 47 "StatementRules2$Tokens" "place" "I") k_X9_takeNumber_fieldLink_RX9_47_SR_Tokens_place_I) (fun _ q9 => q9) dX9_takeNumber_73 rfl ?_
  refine lv_isub hx hb dX9_takeNumber_76 ?_
  refine lv_bipush (v := 9) hx hb dX9_takeNumber_77 (by decide) ?_
  refine lv_icmp_le (tgt := 87) hx hb dX9_takeNumber_79 (by decide) (fun c2 => ?_) (fun c2 => ?_)
  ·
    replace hf := (if_pos c2).symm.trans hf
    refine lv_iconst (v := 1) hx hb dX9_takeNumber_87 (by decide) ?_
    refine cP_43 (v := 1) hx hb hts i_X9_takeNumber_X9 hown hK hC (hts (.fieldLink RX9 40 "StatementRules2$Tokens" "type" "I") k_X9_takeNumber_fieldLink_RX9_40_SR_Tokens_type_I) (fun _ q9 => q9) dX9_takeNumber_88 (fun H locs hC => ?_)
    obtain rfl := Option.some.inj hf
    exact W.vret hx hb hr (fun t ht hW => ⟨⟨(), rfl, trivial, ⟨by rw [ht]; exact hC.1, va_K.moved hW.alike hK, hC.2.1⟩, by rw [ht]; exact hC.2.2.2⟩, hC.2.2.1.F ht⟩) hC.2.2.1.2.2 dX9_takeNumber_91
  ·
    replace hf := (if_neg c2).symm.trans hf
    refine lv_bipush (v := 6) hx hb dX9_takeNumber_82 (by decide) ?_
    refine lv_goto (tgt := 88) hx hb dX9_takeNumber_84 (by decide) ?_
    refine cP_43 (v := 6) hx hb hts i_X9_takeNumber_X9 hown hK hC (hts (.fieldLink RX9 40 "StatementRules2$Tokens" "type" "I") k_X9_takeNumber_fieldLink_RX9_40_SR_Tokens_type_I) (fun _ q9 => q9) dX9_takeNumber_88 (fun H locs hC => ?_)
    obtain rfl := Option.some.inj hf
    exact W.vret hx hb hr (fun t ht hW => ⟨⟨(), rfl, trivial, ⟨by rw [ht]; exact hC.1, va_K.moved hW.alike hK, hC.2.1⟩, by rw [ht]; exact hC.2.2.2⟩, hC.2.2.1.F ht⟩) hC.2.2.1.2.2 dX9_takeNumber_91
set_option maxHeartbeats 4000000 in
set_option maxRecDepth 100000 in
theorem j_X9_takeNumber_7 {p : Program} {e : Env} {s : State} {m : MethodId} {args : Array Value} {below : List Frame} {meth : Method} {c : Code} {A : Nat → Prop} (l : Launch) (dC : Nat → ClassId) (dI : Nat → Nat → Nat) (Q : CQ) (N : Nat) (z9h : Nat) (R : Unit × CS) (hx : p.tables.exec = Jvm.exec) (hb : c.code = cX9_takeNumber) (hr : meth.sig.returnType = none) (hml : c.maxLocals = 2) (hown : s.vm.findClass RX9 = some m.cls) (hts : ∀ w ∈ wzX9_takeNumber, w.before args s = true) (hlocks : meth.locks = false) (hZ : zAMB s) (hA : ∀ q : Nat, s.heap.size ≤ q → A q) (hK : va_K (dC, dI) vwCl (cT Q) s) : ∀ (n9 : Nat), ∀ (σ : CS) (x1 : Int32) (H : Heap) (locs : List Loc) (ls : Array Slot), f_X9_takeNumber_7 N n9 σ x1 = some R → z9h ≤ CS.hs σ → CP dC dI Q A s.heap σ H locs → lv_has ls 2 [(0, .ref (Q.o 4)), (1, .int x1)] → W p l e ({ frames := 2, cells := CS.hs R.2 - z9h, slots := 17 * (CS.hs R.2 - z9h), locals := 60 * 2 }) s m args below meth c H locs (CS.hs σ - z9h) (17 * (CS.hs σ - z9h)) (MQ below (va_Qv (fun (_ : Unit) => True) (fun (_ : Unit) (t : State) => zPost dC dI A (cW Q R.2) (cT Q) t ∧ t.heap.size = CS.hs R.2) A) args s (CS.hs R.2 - z9h) (17 * (CS.hs R.2 - z9h)) A) (F0 m 7 ls []) := by
  intro n9
  induction n9 with
  | zero => intro σ x1 H locs ls hf; exact absurd hf (by intro q9; cases q9)
  | succ n9 ih =>
    intro σ x1 H locs ls hf h0 hC hl
    replace hf : b_X9_takeNumber_7 N (f_X9_takeNumber_7 N n9) σ x1 = some R := hf
    unfold b_X9_takeNumber_7 at hf
    have hMK := fun (σ : CS) (x1 : Int32) => m_X9_takeNumber_7 N n9 σ x1
    refine lv_iload_n hx hb dX9_takeNumber_7 rfl (lv_at hl 1 rfl) ?_
    refine lv_sipush (v := 900) hx hb dX9_takeNumber_8 (by decide) ?_
    refine lv_icmp_ge (tgt := 67) hx hb dX9_takeNumber_11 (by decide) (fun c1 => ?_) (fun c1 => ?_)
    ·
      replace hf := (if_pos c1).symm.trans hf
      exact j_X9_takeNumber_67 l dC dI Q N z9h R hx hb hr hml hown hts hlocks hZ hA hK σ _ _ _ hf h0 hC (lv_sub hl [0] rfl)
    ·
      replace hf := (if_neg c1).symm.trans hf
      refine lv_aload_n hx hb dX9_takeNumber_14 rfl (lv_at hl 0 rfl) ?_
      refine lv_aload_n hx hb dX9_takeNumber_15 rfl (lv_at hl 0 rfl) ?_
      refine cG_42 (v := (σ.i 42)) hx hb hts i_X9_takeNumber_X9 hown hK hC (hts (.fieldLink RX9 34 "StatementRules2$Tokens" "next" "I") k_X9_takeNumber_fieldLink_RX9_34_SR_Tokens_next_I) (fun _ q9 => q9) dX9_takeNumber_16 rfl ?_
      obtain ⟨p3, hcp3, hf⟩ := hf_bind hf
      have mo4 : CS.hs σ ≤ CS.hs p3.2 := Mono.go hcp3 (m_X9_byteAt N σ (σ.i 42))
      have hr9 : CS.hs p3.2 ≤ CS.hs R.2 := Mono.go hf (mono_bind (m_X9_isDigit N p3.2 p3.1) (fun p7 => (mono_ite (m_X9_takeNumber_67 N p7.2) (mono_bind (m_X9_byteAt N p7.2 (p7.2.i 42)) (fun p12 => (hMK (CS.setI (CS.setI p12.2 45 ((((p7.2.i 45) * 10) + p12.1) - 48)) 42 ((p12.2.i 42) + 1)) (x1 + 1)))))))
      have hFc := cFree hC hA
      refine va_calli (va_runV (As := [.int (σ.i 42)]) (rest := []) ⟨hx, hb, hml, hown, hts⟩ (c_X9_byteAt l dC dI Q N σ (σ.i 42) p3 hcp3) (cwV 1 hts hX9_takeNumber_X9_byteAt_v43 rfl rfl rfl (by decide +kernel) ⟨(show 1 + 1 ≤ 2 by omega), (show 8 + (2 + 11) + 60 * 1 ≤ 60 * 2 by omega)⟩) ⟨zPre.blind, va_recv hK hC.1 (ci := 8) (q0 := 4) rfl rfl, cPre_go hZ hK hC⟩ rfl rfl hl.1 rfl (lv_room (Nat.le_of_ble_eq_true rfl)) dX9_takeNumber_19 (cAcc h0 mo4 hr9)) hC.2.2.1 (fun q _ h => hFc q h) hFc (fun r5 u9 t9 H1 locs ht hvm hw hB hz1 hk1 hS => ?_)
      obtain ⟨⟨hP, hK1, hD1⟩, hsz1⟩ := hB
      rw [ht] at hP hsz1
      have hC : CP dC dI Q A s.heap p3.2 H1 locs := ⟨hP, hD1.weaken (fun _ _ _ h => hFc _ h), hS, hsz1⟩
      generalize H1 = H at hC ⊢
      have h6 : z9h ≤ CS.hs p3.2 := Nat.le_trans h0 mo4
      refine W.widen (k := CS.hs p3.2 - z9h) (n := 17 * (CS.hs p3.2 - z9h)) (cAcc2 h0 mo4) (cAcc3 h0 mo4) ?_
      obtain rfl : r5 = p3.1 := hw
      obtain ⟨p7, hcp7, hf⟩ := hf_bind hf
      have mo8 : CS.hs p3.2 ≤ CS.hs p7.2 := Mono.go hcp7 (m_X9_isDigit N p3.2 p3.1)
      have hr9 : CS.hs p7.2 ≤ CS.hs R.2 := Mono.go hf (mono_ite (m_X9_takeNumber_67 N p7.2) (mono_bind (m_X9_byteAt N p7.2 (p7.2.i 42)) (fun p12 => (hMK (CS.setI (CS.setI p12.2 45 ((((p7.2.i 45) * 10) + p12.1) - 48)) 42 ((p12.2.i 42) + 1)) (x1 + 1)))))
      have hFc := cFree hC hA
      refine va_calli (va_runS (As := [.int p3.1]) (rest := []) ⟨hx, hb, hml, hown, hts⟩ (c_X9_isDigit l dC dI Q N p3.2 p3.1 p7 hcp7) (va_cwS 1 hts hX9_takeNumber_X9_isDigit_s50 rfl rfl rfl (by decide +kernel) ⟨(show 1 + 1 ≤ 2 by omega), (show 8 + (1 + 11) + 60 * 1 ≤ 60 * 2 by omega)⟩) ⟨zPre.blind, cPre_go hZ hK hC⟩ rfl rfl hl.1 rfl (lv_room (Nat.le_of_ble_eq_true rfl)) dX9_takeNumber_22 (cAcc h6 mo8 hr9)) hC.2.2.1 (fun q _ h => hFc q h) hFc (fun r9 u9 t9 H1 locs ht hvm hw hB hz1 hk1 hS => ?_)
      obtain ⟨⟨hP, hK1, hD1⟩, hsz1⟩ := hB
      rw [ht] at hP hsz1
      have hC : CP dC dI Q A s.heap p7.2 H1 locs := ⟨hP, hD1.weaken (fun _ _ _ h => hFc _ h), hS, hsz1⟩
      generalize H1 = H at hC ⊢
      have h10 : z9h ≤ CS.hs p7.2 := Nat.le_trans h6 mo8
      refine W.widen (k := CS.hs p7.2 - z9h) (n := 17 * (CS.hs p7.2 - z9h)) (cAcc2 h6 mo8) (cAcc3 h6 mo8) ?_
      obtain rfl : r9 = p7.1 := hw
      refine lv_if_eq (tgt := 67) hx hb dX9_takeNumber_25 (by decide) (fun c11 => ?_) (fun c11 => ?_)
      ·
        replace hf := (if_pos c11).symm.trans hf
        exact j_X9_takeNumber_67 l dC dI Q N z9h R hx hb hr hml hown hts hlocks hZ hA hK p7.2 _ _ _ hf h10 hC (lv_sub hl [0] rfl)
      ·
        replace hf := (if_neg c11).symm.trans hf
        refine lv_aload_n hx hb dX9_takeNumber_28 rfl (lv_at hl 0 rfl) ?_
        refine lv_aload_n hx hb dX9_takeNumber_29 rfl (lv_at hl 0 rfl) ?_
        refine cG_45 (v := (p7.2.i 45)) hx hb hts i_X9_takeNumber_X9 hown hK hC (hts (.fieldLink RX9 66 "StatementRules2$Tokens" "value" "I") k_X9_takeNumber_fieldLink_RX9_66_SR_Tokens_value_I) (fun _ q9 => q9) dX9_takeNumber_30 rfl ?_
        refine lv_bipush (v := 10) hx hb dX9_takeNumber_33 (by decide) ?_
        refine lv_imul hx hb dX9_takeNumber_35 ?_
        refine lv_aload_n hx hb dX9_takeNumber_36 rfl (lv_at hl 0 rfl) ?_
        refine lv_aload_n hx hb dX9_takeNumber_37 rfl (lv_at hl 0 rfl) ?_
        refine cG_42 (v := (p7.2.i 42)) hx hb hts i_X9_takeNumber_X9 hown hK hC (hts (.fieldLink RX9 34 "StatementRules2$Tokens" "next" "I") k_X9_takeNumber_fieldLink_RX9_34_SR_Tokens_next_I) (fun _ q9 => q9) dX9_takeNumber_38 rfl ?_
        obtain ⟨p12, hcp12, hf⟩ := hf_bind hf
        have mo13 : CS.hs p7.2 ≤ CS.hs p12.2 := Mono.go hcp12 (m_X9_byteAt N p7.2 (p7.2.i 42))
        have hr9 : CS.hs p12.2 ≤ CS.hs R.2 := Mono.go hf (hMK (CS.setI (CS.setI p12.2 45 ((((p7.2.i 45) * 10) + p12.1) - 48)) 42 ((p12.2.i 42) + 1)) (x1 + 1))
        have hFc := cFree hC hA
        refine va_calli (va_runV (As := [.int (p7.2.i 42)]) (rest := [.int ((p7.2.i 45) * 10), .ref (Q.o 4)]) ⟨hx, hb, hml, hown, hts⟩ (c_X9_byteAt l dC dI Q N p7.2 (p7.2.i 42) p12 hcp12) (cwV 1 hts hX9_takeNumber_X9_byteAt_v43 rfl rfl rfl (by decide +kernel) ⟨(show 1 + 1 ≤ 2 by omega), (show 8 + (2 + 11) + 60 * 1 ≤ 60 * 2 by omega)⟩) ⟨zPre.blind, va_recv hK hC.1 (ci := 8) (q0 := 4) rfl rfl, cPre_go hZ hK hC⟩ rfl rfl hl.1 rfl (lv_room (Nat.le_of_ble_eq_true rfl)) dX9_takeNumber_41 (cAcc h10 mo13 hr9)) hC.2.2.1 (fun q _ h => hFc q h) hFc (fun r14 u9 t9 H1 locs ht hvm hw hB hz1 hk1 hS => ?_)
        obtain ⟨⟨hP, hK1, hD1⟩, hsz1⟩ := hB
        rw [ht] at hP hsz1
        have hC : CP dC dI Q A s.heap p12.2 H1 locs := ⟨hP, hD1.weaken (fun _ _ _ h => hFc _ h), hS, hsz1⟩
        generalize H1 = H at hC ⊢
        have h15 : z9h ≤ CS.hs p12.2 := Nat.le_trans h10 mo13
        refine W.widen (k := CS.hs p12.2 - z9h) (n := 17 * (CS.hs p12.2 - z9h)) (cAcc2 h10 mo13) (cAcc3 h10 mo13) ?_
        obtain rfl : r14 = p12.1 := hw
        refine lv_iadd hx hb dX9_takeNumber_44 ?_
        refine lv_bipush (v := 48) hx hb dX9_takeNumber_45 (by decide) ?_
        refine lv_isub hx hb dX9_takeNumber_47 ?_
        refine cP_45 (v := ((((p7.2.i 45) * 10) + p12.1) - 48)) hx hb hts i_X9_takeNumber_X9 hown hK hC (hts (.fieldLink RX9 66 "StatementRules2$Tokens" "value" "I") k_X9_takeNumber_fieldLink_RX9_66_SR_Tokens_value_I) (fun _ q9 => q9) dX9_takeNumber_48 (fun H locs hC => ?_)
        refine lv_aload_n hx hb dX9_takeNumber_51 rfl (lv_at hl 0 rfl) ?_
        refine lv_dup hx hb dX9_takeNumber_52 rfl ?_
        refine cG_42 (v := (p12.2.i 42)) hx hb hts i_X9_takeNumber_X9 hown hK hC (hts (.fieldLink RX9 34 "StatementRules2$Tokens" "next" "I") k_X9_takeNumber_fieldLink_RX9_34_SR_Tokens_next_I) (fun _ q9 => q9) dX9_takeNumber_53 rfl ?_
        refine lv_iconst (v := 1) hx hb dX9_takeNumber_56 (by decide) ?_
        refine lv_iadd hx hb dX9_takeNumber_57 ?_
        refine cP_42 (v := ((p12.2.i 42) + 1)) hx hb hts i_X9_takeNumber_X9 hown hK hC (hts (.fieldLink RX9 34 "StatementRules2$Tokens" "next" "I") k_X9_takeNumber_fieldLink_RX9_34_SR_Tokens_next_I) (fun _ q9 => q9) dX9_takeNumber_58 (fun H locs hC => ?_)
        refine lv_iinc (v := (x1 + 1)) (lv' := [(1, .int (x1 + 1)), (0, .ref (Q.o 4))]) hx hb dX9_takeNumber_61 hl (k := 1) rfl rfl (by decide) rfl (fun ls hl => ?_)
        refine lv_goto (tgt := 7) hx hb dX9_takeNumber_64 (by decide) ?_
        exact ih (CS.setI (CS.setI p12.2 45 ((((p7.2.i 45) * 10) + p12.1) - 48)) 42 ((p12.2.i 42) + 1)) (x1 + 1) _ _ _ hf h15 hC (lv_sub hl [1, 0] rfl)
set_option maxHeartbeats 4000000 in
set_option maxRecDepth 100000 in
theorem c_X9_takeNumber (l : Launch) (dC : Nat → ClassId) (dI : Nat → Nat → Nat) (Q : CQ) (N : Nat) (σ : CS) (R : Unit × CS) (hf : f_X9_takeNumber N σ = some R) : Met l yX9_takeNumber wzX9_takeNumber ({ frames := 2, cells := CS.hs R.2 - CS.hs σ, slots := 17 * (CS.hs R.2 - CS.hs σ), locals := 60 * 2 }) (va_Pc [.ref (Q.o 4)] (zPre dC dI (CS.hs σ) (cW Q σ) (cT Q))) (va_Qv (fun (_ : Unit) => True) (fun (_ : Unit) (t : State) => zPost dC dI (va_A (cW Q σ) (CS.hs σ)) (cW Q R.2) (cT Q) t ∧ t.heap.size = CS.hs R.2) (va_A (cW Q σ) (CS.hs σ))) (CS.hs R.2 - CS.hs σ) (17 * (CS.hs R.2 - CS.hs σ)) (va_A (cW Q σ) (CS.hs σ)) := by
  refine Met.ofW (cc := cX9_takeNumber) (maxL := 2) (ret := none) (by decide) rfl ?_
  intro p e s m args below meth c s₁ B hml hv
  obtain ⟨rfl, hsz, hZ, hP, hK, hD0⟩ := hv
  have hx := B.exec
  have hb := B.bytes
  have hr := B.returns
  have hts := atoms_spec (ws := wzX9_takeNumber) B.pre
  have hown : s.vm.findClass RX9 = some m.cls := findClass_of_methodNamed B.named
  have hlocks := B.notSynchronized
  have hD := hD0.self (sz := CS.hs σ)
  generalize hAe : va_A (cW Q σ) (CS.hs σ) = A at hD ⊢
  have hA : ∀ q : Nat, s.heap.size ≤ q → A q := fun q h => by rw [← hAe]; exact Or.inr (hsz ▸ h)
  have hC : CP dC dI Q A s.heap σ s.heap [] := ⟨hP, hD, va_S.rf, hsz⟩
  have h0 : CS.hs σ ≤ CS.hs σ := Nat.le_refl _
  have hl := lv_entry ([.ref (Q.o 4)]) (n := 2) (Nat.le_of_ble_eq_true rfl)
  rw [lg_entry_eq]
  generalize (lg_sl ([.ref (Q.o 4)]) ++ List.replicate (2 - (lg_sl ([.ref (Q.o 4)])).length) Slot.unset).toArray = ls at hl ⊢
  have hl : lv_has ls 2 [(0, .ref (Q.o 4))] := hl
  unfold f_X9_takeNumber at hf
  refine W.widen (k := CS.hs σ - CS.hs σ) (n := 17 * (CS.hs σ - CS.hs σ)) (Nat.zero_le _) (Nat.zero_le _) ?_
  refine lv_aload_n hx hb dX9_takeNumber_0 rfl (lv_at hl 0 rfl) ?_
  refine lv_iconst (v := 0) hx hb dX9_takeNumber_1 (by decide) ?_
  refine cP_45 (v := 0) hx hb hts i_X9_takeNumber_X9 hown hK hC (hts (.fieldLink RX9 66 "StatementRules2$Tokens" "value" "I") k_X9_takeNumber_fieldLink_RX9_66_SR_Tokens_value_I) (fun _ q9 => q9) dX9_takeNumber_2 (fun H locs hC => ?_)
  refine lv_iconst (v := 0) hx hb dX9_takeNumber_5 (by decide) ?_
  refine lv_istore_n (lv' := [(1, .int 0), (0, .ref (Q.o 4))]) hx hb dX9_takeNumber_6 rfl hl (by decide) rfl (fun ls hl => ?_)
  exact j_X9_takeNumber_7 l dC dI Q N (CS.hs σ) R hx hb hr hml hown hts hlocks hZ hA hK N (CS.setI σ 45 0) 0 _ _ _ hf h0 hC (lv_sub hl [1, 0] rfl)
set_option maxHeartbeats 4000000 in
set_option maxRecDepth 100000 in
theorem j_X9_isLetter_16 {p : Program} {e : Env} {s : State} {m : MethodId} {args : Array Value} {below : List Frame} {meth : Method} {c : Code} {A : Nat → Prop} (l : Launch) (dC : Nat → ClassId) (dI : Nat → Nat → Nat) (Q : CQ) (N : Nat) (z9h : Nat) (R : Int32 × CS) (hx : p.tables.exec = Jvm.exec) (hb : c.code = cX9_isLetter) (hr : meth.sig.returnType = (some .boolean)) (hml : c.maxLocals = 1) (hown : s.vm.findClass RX9 = some m.cls) (hts : ∀ w ∈ wzX9_isLetter, w.before args s = true) (hlocks : meth.locks = false) (hZ : zAMB s) (hA : ∀ q : Nat, s.heap.size ≤ q → A q) (hK : va_K (dC, dI) vwCl (cT Q) s) : ∀ (σ : CS) (H : Heap) (locs : List Loc) (ls : Array Slot), f_X9_isLetter_16 N σ = some R → z9h ≤ CS.hs σ → CP dC dI Q A s.heap σ H locs → lv_has ls 1 [] → W p l e ({ frames := 1, cells := CS.hs R.2 - z9h, slots := 17 * (CS.hs R.2 - z9h), locals := 60 * 1 }) s m args below meth c H locs (CS.hs σ - z9h) (17 * (CS.hs σ - z9h)) (MQ below (va_Qi (fun (r : Int32) (_ : Unit) => r = R.1) (fun (_ : Unit) (t : State) => zPost dC dI A (cW Q R.2) (cT Q) t ∧ t.heap.size = CS.hs R.2) A) args s (CS.hs R.2 - z9h) (17 * (CS.hs R.2 - z9h)) A) (F0 m 16 ls []) := by
  intro σ  H locs ls hf h0 hC hl
  unfold f_X9_isLetter_16 at hf
  refine lv_iconst (v := 0) hx hb dX9_isLetter_16 (by decide) ?_
  obtain rfl := Option.some.inj hf
  exact W.zret (v := 0) hx hb hr (rfl) (fun t ht hW => ⟨⟨0, (), rfl, rfl, ⟨by rw [ht]; exact hC.1, va_K.moved hW.alike hK, hC.2.1⟩, by rw [ht]; exact hC.2.2.2⟩, hC.2.2.1.F ht⟩) hC.2.2.1.2.2 dX9_isLetter_17
set_option maxHeartbeats 4000000 in
set_option maxRecDepth 100000 in
theorem c_X9_isLetter (l : Launch) (dC : Nat → ClassId) (dI : Nat → Nat → Nat) (Q : CQ) (N : Nat) (σ : CS) (x0 : Int32) (R : Int32 × CS) (hf : f_X9_isLetter N σ x0 = some R) : Met l yX9_isLetter wzX9_isLetter ({ frames := 1, cells := CS.hs R.2 - CS.hs σ, slots := 17 * (CS.hs R.2 - CS.hs σ), locals := 60 * 1 }) (va_Pc [.int x0] (zPre dC dI (CS.hs σ) (cW Q σ) (cT Q))) (va_Qi (fun (r : Int32) (_ : Unit) => r = R.1) (fun (_ : Unit) (t : State) => zPost dC dI (va_A (cW Q σ) (CS.hs σ)) (cW Q R.2) (cT Q) t ∧ t.heap.size = CS.hs R.2) (va_A (cW Q σ) (CS.hs σ))) (CS.hs R.2 - CS.hs σ) (17 * (CS.hs R.2 - CS.hs σ)) (va_A (cW Q σ) (CS.hs σ)) := by
  refine Met.ofW (cc := cX9_isLetter) (maxL := 1) (ret := (some .boolean)) (by decide) rfl ?_
  intro p e s m args below meth c s₁ B hml hv
  obtain ⟨rfl, hsz, hZ, hP, hK, hD0⟩ := hv
  have hx := B.exec
  have hb := B.bytes
  have hr := B.returns
  have hts := atoms_spec (ws := wzX9_isLetter) B.pre
  have hown : s.vm.findClass RX9 = some m.cls := findClass_of_methodNamed B.named
  have hlocks := B.notSynchronized
  have hD := hD0.self (sz := CS.hs σ)
  generalize hAe : va_A (cW Q σ) (CS.hs σ) = A at hD ⊢
  have hA : ∀ q : Nat, s.heap.size ≤ q → A q := fun q h => by rw [← hAe]; exact Or.inr (hsz ▸ h)
  have hC : CP dC dI Q A s.heap σ s.heap [] := ⟨hP, hD, va_S.rf, hsz⟩
  have h0 : CS.hs σ ≤ CS.hs σ := Nat.le_refl _
  have hl := lv_entry ([.int x0]) (n := 1) (Nat.le_of_ble_eq_true rfl)
  rw [lg_entry_eq]
  generalize (lg_sl ([.int x0]) ++ List.replicate (1 - (lg_sl ([.int x0])).length) Slot.unset).toArray = ls at hl ⊢
  have hl : lv_has ls 1 [(0, .int x0)] := hl
  unfold f_X9_isLetter at hf
  refine W.widen (k := CS.hs σ - CS.hs σ) (n := 17 * (CS.hs σ - CS.hs σ)) (Nat.zero_le _) (Nat.zero_le _) ?_
  refine lv_iload_n hx hb dX9_isLetter_0 rfl (lv_at hl 0 rfl) ?_
  refine lv_bipush (v := 97) hx hb dX9_isLetter_1 (by decide) ?_
  refine lv_icmp_lt (tgt := 16) hx hb dX9_isLetter_3 (by decide) (fun c1 => ?_) (fun c1 => ?_)
  ·
    replace hf := (if_pos c1).symm.trans hf
    exact j_X9_isLetter_16 l dC dI Q N (CS.hs σ) R hx hb hr hml hown hts hlocks hZ hA hK σ _ _ _ hf h0 hC (lv_sub hl [] rfl)
  ·
    replace hf := (if_neg c1).symm.trans hf
    refine lv_iload_n hx hb dX9_isLetter_6 rfl (lv_at hl 0 rfl) ?_
    refine lv_bipush (v := 122) hx hb dX9_isLetter_7 (by decide) ?_
    refine lv_icmp_gt (tgt := 16) hx hb dX9_isLetter_9 (by decide) (fun c2 => ?_) (fun c2 => ?_)
    ·
      replace hf := (if_pos c2).symm.trans hf
      exact j_X9_isLetter_16 l dC dI Q N (CS.hs σ) R hx hb hr hml hown hts hlocks hZ hA hK σ _ _ _ hf h0 hC (lv_sub hl [] rfl)
    ·
      replace hf := (if_neg c2).symm.trans hf
      refine lv_iconst (v := 1) hx hb dX9_isLetter_12 (by decide) ?_
      refine lv_goto (tgt := 17) hx hb dX9_isLetter_13 (by decide) ?_
      obtain rfl := Option.some.inj hf
      exact W.zret (v := 1) hx hb hr (rfl) (fun t ht hW => ⟨⟨1, (), rfl, rfl, ⟨by rw [ht]; exact hC.1, va_K.moved hW.alike hK, hC.2.1⟩, by rw [ht]; exact hC.2.2.2⟩, hC.2.2.1.F ht⟩) hC.2.2.1.2.2 dX9_isLetter_17
theorem k_X9_rowType_fieldLink_RX9_69_SR_Tokens_name_J : Cond.fieldLink RX9 69 "StatementRules2$Tokens" "name" "J" ∈ wzX9_rowType := List.mem_cons_of_mem _ (List.mem_append_left _ (List.mem_of_getElem? (i := 0) rfl))
theorem i_X9_rowType_X9 : ∀ w ∈ wsX90, w ∈ wzX9_rowType := fun _ h => List.mem_cons_of_mem _ (List.mem_append_right _ (List.mem_append_left _ (h)))
theorem k_X9_rowType_constantLong_RX9_76_255 : Cond.constantLong RX9 76 (255) ∈ wzX9_rowType := List.mem_cons_of_mem _ (List.mem_append_left _ (List.mem_of_getElem? (i := 1) rfl))
theorem k_X9_rowType_constantLong_RX9_78_48 : Cond.constantLong RX9 78 (48) ∈ wzX9_rowType := List.mem_cons_of_mem _ (List.mem_append_left _ (List.mem_of_getElem? (i := 2) rfl))
theorem k_X9_rowType_fieldLink_RX9_66_SR_Tokens_value_I : Cond.fieldLink RX9 66 "StatementRules2$Tokens" "value" "I" ∈ wzX9_rowType := List.mem_cons_of_mem _ (List.mem_append_left _ (List.mem_of_getElem? (i := 3) rfl))
theorem k_X9_rowType_constantLong_RX9_84_101 : Cond.constantLong RX9 84 (101) ∈ wzX9_rowType := List.mem_cons_of_mem _ (List.mem_append_left _ (List.mem_of_getElem? (i := 4) rfl))
theorem k_X9_rowType_constantLong_RX9_86_109 : Cond.constantLong RX9 86 (109) ∈ wzX9_rowType := List.mem_cons_of_mem _ (List.mem_append_left _ (List.mem_of_getElem? (i := 5) rfl))
theorem k_X9_rowType_constantLong_RX9_88_114 : Cond.constantLong RX9 88 (114) ∈ wzX9_rowType := List.mem_cons_of_mem _ (List.mem_append_left _ (List.mem_of_getElem? (i := 6) rfl))
theorem k_X9_rowType_constantLong_RX9_80_9 : Cond.constantLong RX9 80 (9) ∈ wzX9_rowType := List.mem_cons_of_mem _ (List.mem_append_left _ (List.mem_of_getElem? (i := 7) rfl))
theorem k_X9_rowType_constantLong_RX9_82_49 : Cond.constantLong RX9 82 (49) ∈ wzX9_rowType := List.mem_cons_of_mem _ (List.mem_append_left _ (List.mem_of_getElem? (i := 8) rfl))
theorem k_X9_rowType_fieldLink_RX9_9_SR_Tokens_words_J : Cond.fieldLink RX9 9 "StatementRules2$Tokens" "words" "[J" ∈ wzX9_rowType := List.mem_cons_of_mem _ (List.mem_append_left _ (List.mem_of_getElem? (i := 9) rfl))
set_option maxHeartbeats 4000000 in
set_option maxRecDepth 100000 in
theorem j_X9_rowType_171 {p : Program} {e : Env} {s : State} {m : MethodId} {args : Array Value} {below : List Frame} {meth : Method} {c : Code} {A : Nat → Prop} (l : Launch) (dC : Nat → ClassId) (dI : Nat → Nat → Nat) (Q : CQ) (N : Nat) (z9h : Nat) (R : Int32 × CS) (hx : p.tables.exec = Jvm.exec) (hb : c.code = cX9_rowType) (hr : meth.sig.returnType = (some .int)) (hml : c.maxLocals = 8) (hown : s.vm.findClass RX9 = some m.cls) (hts : ∀ w ∈ wzX9_rowType, w.before args s = true) (hlocks : meth.locks = false) (hZ : zAMB s) (hA : ∀ q : Nat, s.heap.size ≤ q → A q) (hK : va_K (dC, dI) vwCl (cT Q) s) : ∀ (σ : CS) (x6 : Int64) (H : Heap) (locs : List Loc) (ls : Array Slot), f_X9_rowType_171 N σ x6 = some R → z9h ≤ CS.hs σ → CP dC dI Q A s.heap σ H locs → lv_has ls 8 [(0, .ref (Q.o 4)), (6, .long x6)] → W p l e ({ frames := 1, cells := CS.hs R.2 - z9h, slots := 17 * (CS.hs R.2 - z9h), locals := 60 * 1 }) s m args below meth c H locs (CS.hs σ - z9h) (17 * (CS.hs σ - z9h)) (MQ below (va_Qi (fun (r : Int32) (_ : Unit) => r = R.1) (fun (_ : Unit) (t : State) => zPost dC dI A (cW Q R.2) (cT Q) t ∧ t.heap.size = CS.hs R.2) A) args s (CS.hs R.2 - z9h) (17 * (CS.hs R.2 - z9h)) A) (F0 m 171 ls []) := by
  intro σ x6 H locs ls hf h0 hC hl
  unfold f_X9_rowType_171 at hf
  refine lv_lload hx hb dX9_rowType_171 (lv_at hl 1 rfl) ?_
  refine lv_ldc2 (v := 101) hx hb hown (hts (.constantLong RX9 84 (101)) k_X9_rowType_constantLong_RX9_84_101) dX9_rowType_173 ?_
  refine W.lcmp hx hb dX9_rowType_176 ?_
  refine lv_if_ne (tgt := 195) hx hb dX9_rowType_177 (by decide) (fun c7 => ?_) (fun c7 => ?_)
  ·
    replace hf := (if_neg c7).symm.trans hf
    refine lv_aload_n hx hb dX9_rowType_195 rfl (lv_at hl 0 rfl) ?_
    refine cG_45 (v := (σ.i 45)) hx hb hts i_X9_rowType_X9 hown hK hC (hts (.fieldLink RX9 66 "StatementRules2$Tokens" "value" "I") k_X9_rowType_fieldLink_RX9_66_SR_Tokens_value_I) (fun _ q9 => q9) dX9_rowType_196 rfl ?_
    refine lv_bipush (v := 8) hx hb dX9_rowType_199 (by decide) ?_
    refine lv_icmp_lt (tgt := 206) hx hb dX9_rowType_201 (by decide) (fun c8 => ?_) (fun c8 => ?_)
    ·
      replace hf := (if_pos c8).symm.trans hf
      refine lv_lload hx hb dX9_rowType_206 (lv_at hl 1 rfl) ?_
      refine lv_ldc2 (v := 109) hx hb hown (hts (.constantLong RX9 86 (109)) k_X9_rowType_constantLong_RX9_86_109) dX9_rowType_208 ?_
      refine W.lcmp hx hb dX9_rowType_211 ?_
      refine lv_if_ne (tgt := 219) hx hb dX9_rowType_212 (by decide) (fun c9 => ?_) (fun c9 => ?_)
      ·
        replace hf := (if_neg c9).symm.trans hf
        refine lv_lload hx hb dX9_rowType_219 (lv_at hl 1 rfl) ?_
        refine lv_ldc2 (v := 114) hx hb hown (hts (.constantLong RX9 88 (114)) k_X9_rowType_constantLong_RX9_88_114) dX9_rowType_221 ?_
        refine W.lcmp hx hb dX9_rowType_224 ?_
        refine lv_if_ne (tgt := 232) hx hb dX9_rowType_225 (by decide) (fun c10 => ?_) (fun c10 => ?_)
        ·
          replace hf := (if_neg c10).symm.trans hf
          refine lv_iconst (v := 2) hx hb dX9_rowType_232 (by decide) ?_
          obtain rfl := Option.some.inj hf
          exact W.iret (v := 2) hx hb hr (fun t ht hW => ⟨⟨2, (), rfl, rfl, ⟨by rw [ht]; exact hC.1, va_K.moved hW.alike hK, hC.2.1⟩, by rw [ht]; exact hC.2.2.2⟩, hC.2.2.1.F ht⟩) hC.2.2.1.2.2 dX9_rowType_233
        ·
          replace hf := (if_pos c10).symm.trans hf
          refine lv_iconst (v := 4) hx hb dX9_rowType_228 (by decide) ?_
          refine lv_goto (tgt := 233) hx hb dX9_rowType_229 (by decide) ?_
          obtain rfl := Option.some.inj hf
          exact W.iret (v := 4) hx hb hr (fun t ht hW => ⟨⟨4, (), rfl, rfl, ⟨by rw [ht]; exact hC.1, va_K.moved hW.alike hK, hC.2.1⟩, by rw [ht]; exact hC.2.2.2⟩, hC.2.2.1.F ht⟩) hC.2.2.1.2.2 dX9_rowType_233
      ·
        replace hf := (if_pos c9).symm.trans hf
        refine lv_iconst (v := 3) hx hb dX9_rowType_215 (by decide) ?_
        refine lv_goto (tgt := 233) hx hb dX9_rowType_216 (by decide) ?_
        obtain rfl := Option.some.inj hf
        exact W.iret (v := 3) hx hb hr (fun t ht hW => ⟨⟨3, (), rfl, rfl, ⟨by rw [ht]; exact hC.1, va_K.moved hW.alike hK, hC.2.1⟩, by rw [ht]; exact hC.2.2.2⟩, hC.2.2.1.F ht⟩) hC.2.2.1.2.2 dX9_rowType_233
    ·
      replace hf := (if_neg c8).symm.trans hf
      refine lv_iconst (v := 2) hx hb dX9_rowType_204 (by decide) ?_
      obtain rfl := Option.some.inj hf
      exact W.iret (v := 2) hx hb hr (fun t ht hW => ⟨⟨2, (), rfl, rfl, ⟨by rw [ht]; exact hC.1, va_K.moved hW.alike hK, hC.2.1⟩, by rw [ht]; exact hC.2.2.2⟩, hC.2.2.1.F ht⟩) hC.2.2.1.2.2 dX9_rowType_205
  ·
    replace hf := (if_pos c7).symm.trans hf
    refine lv_aload_n hx hb dX9_rowType_180 rfl (lv_at hl 0 rfl) ?_
    refine cG_45 (v := (σ.i 45)) hx hb hts i_X9_rowType_X9 hown hK hC (hts (.fieldLink RX9 66 "StatementRules2$Tokens" "value" "I") k_X9_rowType_fieldLink_RX9_66_SR_Tokens_value_I) (fun _ q9 => q9) dX9_rowType_181 rfl ?_
    refine lv_bipush (v := 12) hx hb dX9_rowType_184 (by decide) ?_
    refine lv_icmp_ge (tgt := 193) hx hb dX9_rowType_186 (by decide) (fun c11 => ?_) (fun c11 => ?_)
    ·
      replace hf := (if_pos c11).symm.trans hf
      refine lv_iconst (v := 2) hx hb dX9_rowType_193 (by decide) ?_
      obtain rfl := Option.some.inj hf
      exact W.iret (v := 2) hx hb hr (fun t ht hW => ⟨⟨2, (), rfl, rfl, ⟨by rw [ht]; exact hC.1, va_K.moved hW.alike hK, hC.2.1⟩, by rw [ht]; exact hC.2.2.2⟩, hC.2.2.1.F ht⟩) hC.2.2.1.2.2 dX9_rowType_194
    ·
      replace hf := (if_neg c11).symm.trans hf
      refine lv_iconst (v := 5) hx hb dX9_rowType_189 (by decide) ?_
      refine lv_goto (tgt := 194) hx hb dX9_rowType_190 (by decide) ?_
      obtain rfl := Option.some.inj hf
      exact W.iret (v := 5) hx hb hr (fun t ht hW => ⟨⟨5, (), rfl, rfl, ⟨by rw [ht]; exact hC.1, va_K.moved hW.alike hK, hC.2.1⟩, by rw [ht]; exact hC.2.2.2⟩, hC.2.2.1.F ht⟩) hC.2.2.1.2.2 dX9_rowType_194
set_option maxHeartbeats 4000000 in
set_option maxRecDepth 100000 in
theorem j_X9_rowType_153 {p : Program} {e : Env} {s : State} {m : MethodId} {args : Array Value} {below : List Frame} {meth : Method} {c : Code} {A : Nat → Prop} (l : Launch) (dC : Nat → ClassId) (dI : Nat → Nat → Nat) (Q : CQ) (N : Nat) (z9h : Nat) (R : Int32 × CS) (hx : p.tables.exec = Jvm.exec) (hb : c.code = cX9_rowType) (hr : meth.sig.returnType = (some .int)) (hml : c.maxLocals = 8) (hown : s.vm.findClass RX9 = some m.cls) (hts : ∀ w ∈ wzX9_rowType, w.before args s = true) (hlocks : meth.locks = false) (hZ : zAMB s) (hA : ∀ q : Nat, s.heap.size ≤ q → A q) (hK : va_K (dC, dI) vwCl (cT Q) s) : ∀ (σ : CS) (x2 : Int64) (x4 : Int32) (x6 : Int64) (H : Heap) (locs : List Loc) (ls : Array Slot), f_X9_rowType_153 N σ x2 x4 x6 = some R → z9h ≤ CS.hs σ → CP dC dI Q A s.heap σ H locs → lv_has ls 8 [(0, .ref (Q.o 4)), (2, .long x2), (4, .int x4), (6, .long x6)] → W p l e ({ frames := 1, cells := CS.hs R.2 - z9h, slots := 17 * (CS.hs R.2 - z9h), locals := 60 * 1 }) s m args below meth c H locs (CS.hs σ - z9h) (17 * (CS.hs σ - z9h)) (MQ below (va_Qi (fun (r : Int32) (_ : Unit) => r = R.1) (fun (_ : Unit) (t : State) => zPost dC dI A (cW Q R.2) (cT Q) t ∧ t.heap.size = CS.hs R.2) A) args s (CS.hs R.2 - z9h) (17 * (CS.hs R.2 - z9h)) A) (F0 m 153 ls []) := by
  intro σ x2 x4 x6 H locs ls hf h0 hC hl
  unfold f_X9_rowType_153 at hf
  refine lv_aload_n hx hb dX9_rowType_153 rfl (lv_at hl 0 rfl) ?_
  refine lv_lload_n hx hb dX9_rowType_154 rfl (lv_at hl 1 rfl) ?_
  refine lv_l2i (v := (x2 : Int64).toInt32) hx hb dX9_rowType_155 rfl ?_
  refine lv_iload hx hb dX9_rowType_156 (lv_at hl 2 rfl) ?_
  refine lv_if_eq (tgt := 165) hx hb dX9_rowType_158 (by decide) (fun c6 => ?_) (fun c6 => ?_)
  ·
    replace hf := (if_pos c6).symm.trans hf
    refine lv_bipush (v := 10) hx hb dX9_rowType_165 (by decide) ?_
    refine lv_iadd hx hb dX9_rowType_167 ?_
    refine cP_45 (v := (((x2 : Int64).toInt32) + 10)) hx hb hts i_X9_rowType_X9 hown hK hC (hts (.fieldLink RX9 66 "StatementRules2$Tokens" "value" "I") k_X9_rowType_fieldLink_RX9_66_SR_Tokens_value_I) (fun _ q9 => q9) dX9_rowType_168 (fun H locs hC => ?_)
    exact j_X9_rowType_171 l dC dI Q N z9h R hx hb hr hml hown hts hlocks hZ hA hK (CS.setI σ 45 (((x2 : Int64).toInt32) + 10)) x6 _ _ _ hf h0 hC (lv_sub hl [0, 3] rfl)
  ·
    replace hf := (if_neg c6).symm.trans hf
    refine lv_iconst (v := 0) hx hb dX9_rowType_161 (by decide) ?_
    refine lv_goto (tgt := 167) hx hb dX9_rowType_162 (by decide) ?_
    refine lv_iadd hx hb dX9_rowType_167 ?_
    refine cP_45 (v := (((x2 : Int64).toInt32) + 0)) hx hb hts i_X9_rowType_X9 hown hK hC (hts (.fieldLink RX9 66 "StatementRules2$Tokens" "value" "I") k_X9_rowType_fieldLink_RX9_66_SR_Tokens_value_I) (fun _ q9 => q9) dX9_rowType_168 (fun H locs hC => ?_)
    exact j_X9_rowType_171 l dC dI Q N z9h R hx hb hr hml hown hts hlocks hZ hA hK (CS.setI σ 45 (((x2 : Int64).toInt32) + 0)) x6 _ _ _ hf h0 hC (lv_sub hl [0, 3] rfl)
set_option maxHeartbeats 4000000 in
set_option maxRecDepth 100000 in
theorem j_X9_rowType_129 {p : Program} {e : Env} {s : State} {m : MethodId} {args : Array Value} {below : List Frame} {meth : Method} {c : Code} {A : Nat → Prop} (l : Launch) (dC : Nat → ClassId) (dI : Nat → Nat → Nat) (Q : CQ) (N : Nat) (z9h : Nat) (R : Int32 × CS) (hx : p.tables.exec = Jvm.exec) (hb : c.code = cX9_rowType) (hr : meth.sig.returnType = (some .int)) (hml : c.maxLocals = 8) (hown : s.vm.findClass RX9 = some m.cls) (hts : ∀ w ∈ wzX9_rowType, w.before args s = true) (hlocks : meth.locks = false) (hZ : zAMB s) (hA : ∀ q : Nat, s.heap.size ≤ q → A q) (hK : va_K (dC, dI) vwCl (cT Q) s) : ∀ (σ : CS) (x2 : Int64) (x4 : Int32) (H : Heap) (locs : List Loc) (ls : Array Slot), f_X9_rowType_129 N σ x2 x4 = some R → z9h ≤ CS.hs σ → CP dC dI Q A s.heap σ H locs → lv_has ls 8 [(0, .ref (Q.o 4)), (2, .long x2), (4, .int x4)] → W p l e ({ frames := 1, cells := CS.hs R.2 - z9h, slots := 17 * (CS.hs R.2 - z9h), locals := 60 * 1 }) s m args below meth c H locs (CS.hs σ - z9h) (17 * (CS.hs σ - z9h)) (MQ below (va_Qi (fun (r : Int32) (_ : Unit) => r = R.1) (fun (_ : Unit) (t : State) => zPost dC dI A (cW Q R.2) (cT Q) t ∧ t.heap.size = CS.hs R.2) A) args s (CS.hs R.2 - z9h) (17 * (CS.hs R.2 - z9h)) A) (F0 m 129 ls []) := by
  intro σ x2 x4 H locs ls hf h0 hC hl
  unfold f_X9_rowType_129 at hf
  refine lv_iload hx hb dX9_rowType_129 (lv_at hl 2 rfl) ?_
  refine lv_if_eq (tgt := 144) hx hb dX9_rowType_131 (by decide) (fun c5 => ?_) (fun c5 => ?_)
  ·
    replace hf := (if_pos c5).symm.trans hf
    refine lv_aload_n hx hb dX9_rowType_144 rfl (lv_at hl 0 rfl) ?_
    refine cG_46 (v := σ.l) hx hb hts i_X9_rowType_X9 hown hK hC (hts (.fieldLink RX9 69 "StatementRules2$Tokens" "name" "J") k_X9_rowType_fieldLink_RX9_69_SR_Tokens_name_J) (fun _ q9 => q9) dX9_rowType_145 rfl ?_
    refine lv_bipush (v := 16) hx hb dX9_rowType_148 (by decide) ?_
    refine lv_lshr (v := (σ.l >>> ((16 : Int32).toInt64 &&& 63))) hx hb dX9_rowType_150 rfl ?_
    refine lv_lstore (lv' := [(6, .long (σ.l >>> ((16 : Int32).toInt64 &&& 63))), (0, .ref (Q.o 4)), (2, .long x2), (4, .int x4)]) hx hb dX9_rowType_151 hl (by decide) rfl (fun ls hl => ?_)
    exact j_X9_rowType_153 l dC dI Q N z9h R hx hb hr hml hown hts hlocks hZ hA hK σ x2 x4 (σ.l >>> ((16 : Int32).toInt64 &&& 63)) _ _ _ hf h0 hC (lv_sub hl [1, 2, 3, 0] rfl)
  ·
    replace hf := (if_neg c5).symm.trans hf
    refine lv_aload_n hx hb dX9_rowType_134 rfl (lv_at hl 0 rfl) ?_
    refine cG_46 (v := σ.l) hx hb hts i_X9_rowType_X9 hown hK hC (hts (.fieldLink RX9 69 "StatementRules2$Tokens" "name" "J") k_X9_rowType_fieldLink_RX9_69_SR_Tokens_name_J) (fun _ q9 => q9) dX9_rowType_135 rfl ?_
    refine lv_bipush (v := 8) hx hb dX9_rowType_138 (by decide) ?_
    refine lv_lshr (v := (σ.l >>> ((8 : Int32).toInt64 &&& 63))) hx hb dX9_rowType_140 rfl ?_
    refine lv_goto (tgt := 151) hx hb dX9_rowType_141 (by decide) ?_
    refine lv_lstore (lv' := [(6, .long (σ.l >>> ((8 : Int32).toInt64 &&& 63))), (0, .ref (Q.o 4)), (2, .long x2), (4, .int x4)]) hx hb dX9_rowType_151 hl (by decide) rfl (fun ls hl => ?_)
    exact j_X9_rowType_153 l dC dI Q N z9h R hx hb hr hml hown hts hlocks hZ hA hK σ x2 x4 (σ.l >>> ((8 : Int32).toInt64 &&& 63)) _ _ _ hf h0 hC (lv_sub hl [1, 2, 3, 0] rfl)
set_option maxHeartbeats 4000000 in
set_option maxRecDepth 100000 in
theorem j_X9_rowType_117 {p : Program} {e : Env} {s : State} {m : MethodId} {args : Array Value} {below : List Frame} {meth : Method} {c : Code} {A : Nat → Prop} (l : Launch) (dC : Nat → ClassId) (dI : Nat → Nat → Nat) (Q : CQ) (N : Nat) (z9h : Nat) (R : Int32 × CS) (hx : p.tables.exec = Jvm.exec) (hb : c.code = cX9_rowType) (hr : meth.sig.returnType = (some .int)) (hml : c.maxLocals = 8) (hown : s.vm.findClass RX9 = some m.cls) (hts : ∀ w ∈ wzX9_rowType, w.before args s = true) (hlocks : meth.locks = false) (hZ : zAMB s) (hA : ∀ q : Nat, s.heap.size ≤ q → A q) (hK : va_K (dC, dI) vwCl (cT Q) s) : ∀ (σ : CS) (x2 : Int64) (x4 : Int32) (x5 : Int32) (H : Heap) (locs : List Loc) (ls : Array Slot), f_X9_rowType_117 N σ x2 x4 x5 = some R → z9h ≤ CS.hs σ → CP dC dI Q A s.heap σ H locs → lv_has ls 8 [(0, .ref (Q.o 4)), (2, .long x2), (4, .int x4), (5, .int x5)] → W p l e ({ frames := 1, cells := CS.hs R.2 - z9h, slots := 17 * (CS.hs R.2 - z9h), locals := 60 * 1 }) s m args below meth c H locs (CS.hs σ - z9h) (17 * (CS.hs σ - z9h)) (MQ below (va_Qi (fun (r : Int32) (_ : Unit) => r = R.1) (fun (_ : Unit) (t : State) => zPost dC dI A (cW Q R.2) (cT Q) t ∧ t.heap.size = CS.hs R.2) A) args s (CS.hs R.2 - z9h) (17 * (CS.hs R.2 - z9h)) A) (F0 m 117 ls []) := by
  intro σ x2 x4 x5 H locs ls hf h0 hC hl
  unfold f_X9_rowType_117 at hf
  refine lv_iload hx hb dX9_rowType_117 (lv_at hl 2 rfl) ?_
  refine lv_if_ne (tgt := 129) hx hb dX9_rowType_119 (by decide) (fun c4 => ?_) (fun c4 => ?_)
  ·
    replace hf := (if_neg c4).symm.trans hf
    exact j_X9_rowType_129 l dC dI Q N z9h R hx hb hr hml hown hts hlocks hZ hA hK σ x2 x4 _ _ _ hf h0 hC (lv_sub hl [0, 1, 2] rfl)
  ·
    replace hf := (if_pos c4).symm.trans hf
    refine lv_iload hx hb dX9_rowType_122 (lv_at hl 3 rfl) ?_
    refine lv_if_ne (tgt := 129) hx hb dX9_rowType_124 (by decide) (fun c12 => ?_) (fun c12 => ?_)
    ·
      replace hf := (if_neg c12).symm.trans hf
      exact j_X9_rowType_129 l dC dI Q N z9h R hx hb hr hml hown hts hlocks hZ hA hK σ x2 x4 _ _ _ hf h0 hC (lv_sub hl [0, 1, 2] rfl)
    ·
      replace hf := (if_pos c12).symm.trans hf
      refine lv_iconst (v := 2) hx hb dX9_rowType_127 (by decide) ?_
      obtain rfl := Option.some.inj hf
      exact W.iret (v := 2) hx hb hr (fun t ht hW => ⟨⟨2, (), rfl, rfl, ⟨by rw [ht]; exact hC.1, va_K.moved hW.alike hK, hC.2.1⟩, by rw [ht]; exact hC.2.2.2⟩, hC.2.2.1.F ht⟩) hC.2.2.1.2.2 dX9_rowType_128
set_option maxHeartbeats 4000000 in
set_option maxRecDepth 100000 in
theorem j_X9_rowType_114 {p : Program} {e : Env} {s : State} {m : MethodId} {args : Array Value} {below : List Frame} {meth : Method} {c : Code} {A : Nat → Prop} (l : Launch) (dC : Nat → ClassId) (dI : Nat → Nat → Nat) (Q : CQ) (N : Nat) (z9h : Nat) (R : Int32 × CS) (hx : p.tables.exec = Jvm.exec) (hb : c.code = cX9_rowType) (hr : meth.sig.returnType = (some .int)) (hml : c.maxLocals = 8) (hown : s.vm.findClass RX9 = some m.cls) (hts : ∀ w ∈ wzX9_rowType, w.before args s = true) (hlocks : meth.locks = false) (hZ : zAMB s) (hA : ∀ q : Nat, s.heap.size ≤ q → A q) (hK : va_K (dC, dI) vwCl (cT Q) s) : ∀ (σ : CS) (x2 : Int64) (x4 : Int32) (H : Heap) (locs : List Loc) (ls : Array Slot), f_X9_rowType_114 N σ x2 x4 = some R → z9h ≤ CS.hs σ → CP dC dI Q A s.heap σ H locs → lv_has ls 8 [(0, .ref (Q.o 4)), (2, .long x2), (4, .int x4)] → W p l e ({ frames := 1, cells := CS.hs R.2 - z9h, slots := 17 * (CS.hs R.2 - z9h), locals := 60 * 1 }) s m args below meth c H locs (CS.hs σ - z9h) (17 * (CS.hs σ - z9h)) (MQ below (va_Qi (fun (r : Int32) (_ : Unit) => r = R.1) (fun (_ : Unit) (t : State) => zPost dC dI A (cW Q R.2) (cT Q) t ∧ t.heap.size = CS.hs R.2) A) args s (CS.hs R.2 - z9h) (17 * (CS.hs R.2 - z9h)) A) (F0 m 114 ls []) := by
  intro σ x2 x4 H locs ls hf h0 hC hl
  unfold f_X9_rowType_114 at hf
  refine lv_iconst (v := 0) hx hb dX9_rowType_114 (by decide) ?_
  refine lv_istore (lv' := [(5, .int 0), (0, .ref (Q.o 4)), (2, .long x2), (4, .int x4)]) hx hb dX9_rowType_115 hl (by decide) rfl (fun ls hl => ?_)
  exact j_X9_rowType_117 l dC dI Q N z9h R hx hb hr hml hown hts hlocks hZ hA hK σ x2 x4 0 _ _ _ hf h0 hC (lv_sub hl [1, 2, 3, 0] rfl)
set_option maxHeartbeats 4000000 in
set_option maxRecDepth 100000 in
theorem j_X9_rowType_73 {p : Program} {e : Env} {s : State} {m : MethodId} {args : Array Value} {below : List Frame} {meth : Method} {c : Code} {A : Nat → Prop} (l : Launch) (dC : Nat → ClassId) (dI : Nat → Nat → Nat) (Q : CQ) (N : Nat) (z9h : Nat) (R : Int32 × CS) (hx : p.tables.exec = Jvm.exec) (hb : c.code = cX9_rowType) (hr : meth.sig.returnType = (some .int)) (hml : c.maxLocals = 8) (hown : s.vm.findClass RX9 = some m.cls) (hts : ∀ w ∈ wzX9_rowType, w.before args s = true) (hlocks : meth.locks = false) (hZ : zAMB s) (hA : ∀ q : Nat, s.heap.size ≤ q → A q) (hK : va_K (dC, dI) vwCl (cT Q) s) : ∀ (σ : CS) (x1 : Int32) (x2 : Int64) (x4 : Int32) (H : Heap) (locs : List Loc) (ls : Array Slot), f_X9_rowType_73 N σ x1 x2 x4 = some R → z9h ≤ CS.hs σ → CP dC dI Q A s.heap σ H locs → lv_has ls 8 [(0, .ref (Q.o 4)), (1, .int x1), (2, .long x2), (4, .int x4)] → W p l e ({ frames := 1, cells := CS.hs R.2 - z9h, slots := 17 * (CS.hs R.2 - z9h), locals := 60 * 1 }) s m args below meth c H locs (CS.hs σ - z9h) (17 * (CS.hs σ - z9h)) (MQ below (va_Qi (fun (r : Int32) (_ : Unit) => r = R.1) (fun (_ : Unit) (t : State) => zPost dC dI A (cW Q R.2) (cT Q) t ∧ t.heap.size = CS.hs R.2) A) args s (CS.hs R.2 - z9h) (17 * (CS.hs R.2 - z9h)) A) (F0 m 73 ls []) := by
  intro σ x1 x2 x4 H locs ls hf h0 hC hl
  unfold f_X9_rowType_73 at hf
  refine lv_iload_n hx hb dX9_rowType_73 rfl (lv_at hl 1 rfl) ?_
  refine lv_iconst (v := 3) hx hb dX9_rowType_74 (by decide) ?_
  refine lv_icmp_ne (tgt := 114) hx hb dX9_rowType_75 (by decide) (fun c3 => ?_) (fun c3 => ?_)
  ·
    replace hf := (if_neg c3).symm.trans hf
    exact j_X9_rowType_114 l dC dI Q N z9h R hx hb hr hml hown hts hlocks hZ hA hK σ x2 x4 _ _ _ hf h0 hC (lv_sub hl [0, 2, 3] rfl)
  ·
    replace hf := (if_pos c3).symm.trans hf
    refine lv_lload_n hx hb dX9_rowType_78 rfl (lv_at hl 2 rfl) ?_
    refine lv_lconst (v := 0) hx hb dX9_rowType_79 (by decide) ?_
    refine W.lcmp hx hb dX9_rowType_80 ?_
    refine lv_if_lt (tgt := 114) hx hb dX9_rowType_81 (by decide) (fun c13 => ?_) (fun c13 => ?_)
    ·
      replace hf := (if_pos c13).symm.trans hf
      exact j_X9_rowType_114 l dC dI Q N z9h R hx hb hr hml hown hts hlocks hZ hA hK σ x2 x4 _ _ _ hf h0 hC (lv_sub hl [0, 2, 3] rfl)
    ·
      replace hf := (if_neg c13).symm.trans hf
      refine lv_lload_n hx hb dX9_rowType_84 rfl (lv_at hl 2 rfl) ?_
      refine lv_ldc2 (v := 9) hx hb hown (hts (.constantLong RX9 80 (9)) k_X9_rowType_constantLong_RX9_80_9) dX9_rowType_85 ?_
      refine W.lcmp hx hb dX9_rowType_88 ?_
      refine lv_if_gt (tgt := 114) hx hb dX9_rowType_89 (by decide) (fun c14 => ?_) (fun c14 => ?_)
      ·
        replace hf := (if_pos c14).symm.trans hf
        exact j_X9_rowType_114 l dC dI Q N z9h R hx hb hr hml hown hts hlocks hZ hA hK σ x2 x4 _ _ _ hf h0 hC (lv_sub hl [0, 2, 3] rfl)
      ·
        replace hf := (if_neg c14).symm.trans hf
        refine lv_aload_n hx hb dX9_rowType_92 rfl (lv_at hl 0 rfl) ?_
        refine cG_46 (v := σ.l) hx hb hts i_X9_rowType_X9 hown hK hC (hts (.fieldLink RX9 69 "StatementRules2$Tokens" "name" "J") k_X9_rowType_fieldLink_RX9_69_SR_Tokens_name_J) (fun _ q9 => q9) dX9_rowType_93 rfl ?_
        refine lv_bipush (v := 8) hx hb dX9_rowType_96 (by decide) ?_
        refine lv_lshr (v := (σ.l >>> ((8 : Int32).toInt64 &&& 63))) hx hb dX9_rowType_98 rfl ?_
        refine lv_ldc2 (v := 255) hx hb hown (hts (.constantLong RX9 76 (255)) k_X9_rowType_constantLong_RX9_76_255) dX9_rowType_99 ?_
        refine lv_land hx hb dX9_rowType_102 ?_
        refine lv_ldc2 (v := 49) hx hb hown (hts (.constantLong RX9 82 (49)) k_X9_rowType_constantLong_RX9_82_49) dX9_rowType_103 ?_
        refine W.lcmp hx hb dX9_rowType_106 ?_
        refine lv_if_ne (tgt := 114) hx hb dX9_rowType_107 (by decide) (fun c15 => ?_) (fun c15 => ?_)
        ·
          replace hf := (if_neg c15).symm.trans hf
          exact j_X9_rowType_114 l dC dI Q N z9h R hx hb hr hml hown hts hlocks hZ hA hK σ x2 x4 _ _ _ hf h0 hC (lv_sub hl [0, 2, 3] rfl)
        ·
          replace hf := (if_pos c15).symm.trans hf
          refine lv_iconst (v := 1) hx hb dX9_rowType_110 (by decide) ?_
          refine lv_goto (tgt := 115) hx hb dX9_rowType_111 (by decide) ?_
          refine lv_istore (lv' := [(5, .int 1), (0, .ref (Q.o 4)), (1, .int x1), (2, .long x2), (4, .int x4)]) hx hb dX9_rowType_115 hl (by decide) rfl (fun ls hl => ?_)
          exact j_X9_rowType_117 l dC dI Q N z9h R hx hb hr hml hown hts hlocks hZ hA hK σ x2 x4 1 _ _ _ hf h0 hC (lv_sub hl [1, 3, 4, 0] rfl)
set_option maxHeartbeats 4000000 in
set_option maxRecDepth 100000 in
theorem j_X9_rowType_70 {p : Program} {e : Env} {s : State} {m : MethodId} {args : Array Value} {below : List Frame} {meth : Method} {c : Code} {A : Nat → Prop} (l : Launch) (dC : Nat → ClassId) (dI : Nat → Nat → Nat) (Q : CQ) (N : Nat) (z9h : Nat) (R : Int32 × CS) (hx : p.tables.exec = Jvm.exec) (hb : c.code = cX9_rowType) (hr : meth.sig.returnType = (some .int)) (hml : c.maxLocals = 8) (hown : s.vm.findClass RX9 = some m.cls) (hts : ∀ w ∈ wzX9_rowType, w.before args s = true) (hlocks : meth.locks = false) (hZ : zAMB s) (hA : ∀ q : Nat, s.heap.size ≤ q → A q) (hK : va_K (dC, dI) vwCl (cT Q) s) : ∀ (σ : CS) (x1 : Int32) (x2 : Int64) (H : Heap) (locs : List Loc) (ls : Array Slot), f_X9_rowType_70 N σ x1 x2 = some R → z9h ≤ CS.hs σ → CP dC dI Q A s.heap σ H locs → lv_has ls 8 [(0, .ref (Q.o 4)), (1, .int x1), (2, .long x2)] → W p l e ({ frames := 1, cells := CS.hs R.2 - z9h, slots := 17 * (CS.hs R.2 - z9h), locals := 60 * 1 }) s m args below meth c H locs (CS.hs σ - z9h) (17 * (CS.hs σ - z9h)) (MQ below (va_Qi (fun (r : Int32) (_ : Unit) => r = R.1) (fun (_ : Unit) (t : State) => zPost dC dI A (cW Q R.2) (cT Q) t ∧ t.heap.size = CS.hs R.2) A) args s (CS.hs R.2 - z9h) (17 * (CS.hs R.2 - z9h)) A) (F0 m 70 ls []) := by
  intro σ x1 x2 H locs ls hf h0 hC hl
  unfold f_X9_rowType_70 at hf
  refine lv_iconst (v := 0) hx hb dX9_rowType_70 (by decide) ?_
  refine lv_istore (lv' := [(4, .int 0), (0, .ref (Q.o 4)), (1, .int x1), (2, .long x2)]) hx hb dX9_rowType_71 hl (by decide) rfl (fun ls hl => ?_)
  exact j_X9_rowType_73 l dC dI Q N z9h R hx hb hr hml hown hts hlocks hZ hA hK σ x1 x2 0 _ _ _ hf h0 hC (lv_sub hl [1, 2, 3, 0] rfl)
set_option maxHeartbeats 4000000 in
set_option maxRecDepth 100000 in
theorem j_X9_rowType_2 {p : Program} {e : Env} {s : State} {m : MethodId} {args : Array Value} {below : List Frame} {meth : Method} {c : Code} {A : Nat → Prop} (l : Launch) (dC : Nat → ClassId) (dI : Nat → Nat → Nat) (Q : CQ) (N : Nat) (z9h : Nat) (R : Int32 × CS) (hx : p.tables.exec = Jvm.exec) (hb : c.code = cX9_rowType) (hr : meth.sig.returnType = (some .int)) (hml : c.maxLocals = 8) (hown : s.vm.findClass RX9 = some m.cls) (hts : ∀ w ∈ wzX9_rowType, w.before args s = true) (hlocks : meth.locks = false) (hZ : zAMB s) (hA : ∀ q : Nat, s.heap.size ≤ q → A q) (hK : va_K (dC, dI) vwCl (cT Q) s) : ∀ (n9 : Nat), ∀ (σ : CS) (x1 : Int32) (x2 : Int32) (H : Heap) (locs : List Loc) (ls : Array Slot), f_X9_rowType_2 N n9 σ x1 x2 = some R → z9h ≤ CS.hs σ → CP dC dI Q A s.heap σ H locs → lv_has ls 8 [(0, .ref (Q.o 4)), (1, .int x1), (2, .int x2)] → W p l e ({ frames := 1, cells := CS.hs R.2 - z9h, slots := 17 * (CS.hs R.2 - z9h), locals := 60 * 1 }) s m args below meth c H locs (CS.hs σ - z9h) (17 * (CS.hs σ - z9h)) (MQ below (va_Qi (fun (r : Int32) (_ : Unit) => r = R.1) (fun (_ : Unit) (t : State) => zPost dC dI A (cW Q R.2) (cT Q) t ∧ t.heap.size = CS.hs R.2) A) args s (CS.hs R.2 - z9h) (17 * (CS.hs R.2 - z9h)) A) (F0 m 2 ls []) := by
  intro n9
  induction n9 with
  | zero => intro σ x1 x2 H locs ls hf; exact absurd hf (by intro q9; cases q9)
  | succ n9 ih =>
    intro σ x1 x2 H locs ls hf h0 hC hl
    replace hf : b_X9_rowType_2 N (f_X9_rowType_2 N n9) σ x1 x2 = some R := hf
    unfold b_X9_rowType_2 at hf
    have hMK := fun (σ : CS) (x1 : Int32) (x2 : Int32) => m_X9_rowType_2 N n9 σ x1 x2
    refine lv_iload_n hx hb dX9_rowType_2 rfl (lv_at hl 2 rfl) ?_
    refine lv_bipush (v := 25) hx hb dX9_rowType_3 (by decide) ?_
    refine lv_icmp_ge (tgt := 34) hx hb dX9_rowType_5 (by decide) (fun c1 => ?_) (fun c1 => ?_)
    ·
      replace hf := (if_pos c1).symm.trans hf
      refine lv_aload_n hx hb dX9_rowType_34 rfl (lv_at hl 0 rfl) ?_
      refine cG_46 (v := σ.l) hx hb hts i_X9_rowType_X9 hown hK hC (hts (.fieldLink RX9 69 "StatementRules2$Tokens" "name" "J") k_X9_rowType_fieldLink_RX9_69_SR_Tokens_name_J) (fun _ q9 => q9) dX9_rowType_35 rfl ?_
      refine lv_ldc2 (v := 255) hx hb hown (hts (.constantLong RX9 76 (255)) k_X9_rowType_constantLong_RX9_76_255) dX9_rowType_38 ?_
      refine lv_land hx hb dX9_rowType_41 ?_
      refine lv_ldc2 (v := 48) hx hb hown (hts (.constantLong RX9 78 (48)) k_X9_rowType_constantLong_RX9_78_48) dX9_rowType_42 ?_
      refine lv_lsub hx hb dX9_rowType_45 ?_
      refine lv_lstore_n (lv' := [(2, .long ((σ.l &&& 255) - 48)), (0, .ref (Q.o 4)), (1, .int x1)]) hx hb dX9_rowType_46 rfl hl (by decide) rfl (fun ls hl => ?_)
      refine lv_iload_n hx hb dX9_rowType_47 rfl (lv_at hl 2 rfl) ?_
      refine lv_iconst (v := 2) hx hb dX9_rowType_48 (by decide) ?_
      refine lv_icmp_ne (tgt := 70) hx hb dX9_rowType_49 (by decide) (fun c2 => ?_) (fun c2 => ?_)
      ·
        replace hf := (if_neg c2).symm.trans hf
        exact j_X9_rowType_70 l dC dI Q N z9h R hx hb hr hml hown hts hlocks hZ hA hK σ x1 ((σ.l &&& 255) - 48) _ _ _ hf h0 hC (lv_sub hl [1, 2, 0] rfl)
      ·
        replace hf := (if_pos c2).symm.trans hf
        refine lv_lload_n hx hb dX9_rowType_52 rfl (lv_at hl 0 rfl) ?_
        refine lv_lconst (v := 0) hx hb dX9_rowType_53 (by decide) ?_
        refine W.lcmp hx hb dX9_rowType_54 ?_
        refine lv_if_lt (tgt := 70) hx hb dX9_rowType_55 (by decide) (fun c16 => ?_) (fun c16 => ?_)
        ·
          replace hf := (if_pos c16).symm.trans hf
          exact j_X9_rowType_70 l dC dI Q N z9h R hx hb hr hml hown hts hlocks hZ hA hK σ x1 ((σ.l &&& 255) - 48) _ _ _ hf h0 hC (lv_sub hl [1, 2, 0] rfl)
        ·
          replace hf := (if_neg c16).symm.trans hf
          refine lv_lload_n hx hb dX9_rowType_58 rfl (lv_at hl 0 rfl) ?_
          refine lv_ldc2 (v := 9) hx hb hown (hts (.constantLong RX9 80 (9)) k_X9_rowType_constantLong_RX9_80_9) dX9_rowType_59 ?_
          refine W.lcmp hx hb dX9_rowType_62 ?_
          refine lv_if_gt (tgt := 70) hx hb dX9_rowType_63 (by decide) (fun c17 => ?_) (fun c17 => ?_)
          ·
            replace hf := (if_pos c17).symm.trans hf
            exact j_X9_rowType_70 l dC dI Q N z9h R hx hb hr hml hown hts hlocks hZ hA hK σ x1 ((σ.l &&& 255) - 48) _ _ _ hf h0 hC (lv_sub hl [1, 2, 0] rfl)
          ·
            replace hf := (if_neg c17).symm.trans hf
            refine lv_iconst (v := 1) hx hb dX9_rowType_66 (by decide) ?_
            refine lv_goto (tgt := 71) hx hb dX9_rowType_67 (by decide) ?_
            refine lv_istore (lv' := [(4, .int 1), (2, .long ((σ.l &&& 255) - 48)), (0, .ref (Q.o 4)), (1, .int x1)]) hx hb dX9_rowType_71 hl (by decide) rfl (fun ls hl => ?_)
            exact j_X9_rowType_73 l dC dI Q N z9h R hx hb hr hml hown hts hlocks hZ hA hK σ x1 ((σ.l &&& 255) - 48) 1 _ _ _ hf h0 hC (lv_sub hl [2, 3, 1, 0] rfl)
    ·
      replace hf := (if_neg c1).symm.trans hf
      refine lv_aload_n hx hb dX9_rowType_8 rfl (lv_at hl 0 rfl) ?_
      refine cG_40 hx hb hts i_X9_rowType_X9 hown hK hC (hts (.fieldLink RX9 9 "StatementRules2$Tokens" "words" "[J") k_X9_rowType_fieldLink_RX9_9_SR_Tokens_words_J) (fun _ q9 => q9) dX9_rowType_9 ?_
      refine lv_iload_n hx hb dX9_rowType_12 rfl (lv_at hl 2 rfl) ?_
      obtain ⟨b18, hf⟩ := hf_ite hf
      refine cL_40 (v := ((σ.b 40) ((x2 : Int32).toNatClampNeg))) hx hb hK hC b18 dX9_rowType_13 rfl ?_
      refine lv_aload_n hx hb dX9_rowType_14 rfl (lv_at hl 0 rfl) ?_
      refine cG_46 (v := σ.l) hx hb hts i_X9_rowType_X9 hown hK hC (hts (.fieldLink RX9 69 "StatementRules2$Tokens" "name" "J") k_X9_rowType_fieldLink_RX9_69_SR_Tokens_name_J) (fun _ q9 => q9) dX9_rowType_15 rfl ?_
      refine W.lcmp hx hb dX9_rowType_18 ?_
      refine lv_if_ne (tgt := 28) hx hb dX9_rowType_19 (by decide) (fun c19 => ?_) (fun c19 => ?_)
      ·
        replace hf := (if_neg c19).symm.trans hf
        refine lv_iinc (v := (x2 + 1)) (lv' := [(2, .int (x2 + 1)), (0, .ref (Q.o 4)), (1, .int x1)]) hx hb dX9_rowType_28 hl (k := 2) rfl rfl (by decide) rfl (fun ls hl => ?_)
        refine lv_goto (tgt := 2) hx hb dX9_rowType_31 (by decide) ?_
        exact ih σ x1 (x2 + 1) _ _ _ hf h0 hC (lv_sub hl [1, 2, 0] rfl)
      ·
        replace hf := (if_pos c19).symm.trans hf
        refine lv_sipush (v := 200) hx hb dX9_rowType_22 (by decide) ?_
        refine lv_iload_n hx hb dX9_rowType_25 rfl (lv_at hl 2 rfl) ?_
        refine lv_iadd hx hb dX9_rowType_26 ?_
        obtain rfl := Option.some.inj hf
        exact W.iret (v := (200 + x2)) hx hb hr (fun t ht hW => ⟨⟨(200 + x2), (), rfl, rfl, ⟨by rw [ht]; exact hC.1, va_K.moved hW.alike hK, hC.2.1⟩, by rw [ht]; exact hC.2.2.2⟩, hC.2.2.1.F ht⟩) hC.2.2.1.2.2 dX9_rowType_27
set_option maxHeartbeats 4000000 in
set_option maxRecDepth 100000 in
theorem c_X9_rowType (l : Launch) (dC : Nat → ClassId) (dI : Nat → Nat → Nat) (Q : CQ) (N : Nat) (σ : CS) (x1 : Int32) (R : Int32 × CS) (hf : f_X9_rowType N σ x1 = some R) : Met l yX9_rowType wzX9_rowType ({ frames := 1, cells := CS.hs R.2 - CS.hs σ, slots := 17 * (CS.hs R.2 - CS.hs σ), locals := 60 * 1 }) (va_Pc [.ref (Q.o 4), .int x1] (zPre dC dI (CS.hs σ) (cW Q σ) (cT Q))) (va_Qi (fun (r : Int32) (_ : Unit) => r = R.1) (fun (_ : Unit) (t : State) => zPost dC dI (va_A (cW Q σ) (CS.hs σ)) (cW Q R.2) (cT Q) t ∧ t.heap.size = CS.hs R.2) (va_A (cW Q σ) (CS.hs σ))) (CS.hs R.2 - CS.hs σ) (17 * (CS.hs R.2 - CS.hs σ)) (va_A (cW Q σ) (CS.hs σ)) := by
  refine Met.ofW (cc := cX9_rowType) (maxL := 8) (ret := (some .int)) (by decide) rfl ?_
  intro p e s m args below meth c s₁ B hml hv
  obtain ⟨rfl, hsz, hZ, hP, hK, hD0⟩ := hv
  have hx := B.exec
  have hb := B.bytes
  have hr := B.returns
  have hts := atoms_spec (ws := wzX9_rowType) B.pre
  have hown : s.vm.findClass RX9 = some m.cls := findClass_of_methodNamed B.named
  have hlocks := B.notSynchronized
  have hD := hD0.self (sz := CS.hs σ)
  generalize hAe : va_A (cW Q σ) (CS.hs σ) = A at hD ⊢
  have hA : ∀ q : Nat, s.heap.size ≤ q → A q := fun q h => by rw [← hAe]; exact Or.inr (hsz ▸ h)
  have hC : CP dC dI Q A s.heap σ s.heap [] := ⟨hP, hD, va_S.rf, hsz⟩
  have h0 : CS.hs σ ≤ CS.hs σ := Nat.le_refl _
  have hl := lv_entry ([.ref (Q.o 4), .int x1]) (n := 8) (Nat.le_of_ble_eq_true rfl)
  rw [lg_entry_eq]
  generalize (lg_sl ([.ref (Q.o 4), .int x1]) ++ List.replicate (8 - (lg_sl ([.ref (Q.o 4), .int x1])).length) Slot.unset).toArray = ls at hl ⊢
  have hl : lv_has ls 8 [(0, .ref (Q.o 4)), (1, .int x1)] := hl
  unfold f_X9_rowType at hf
  refine W.widen (k := CS.hs σ - CS.hs σ) (n := 17 * (CS.hs σ - CS.hs σ)) (Nat.zero_le _) (Nat.zero_le _) ?_
  refine lv_iconst (v := 0) hx hb dX9_rowType_0 (by decide) ?_
  refine lv_istore_n (lv' := [(2, .int 0), (0, .ref (Q.o 4)), (1, .int x1)]) hx hb dX9_rowType_1 rfl hl (by decide) rfl (fun ls hl => ?_)
  exact j_X9_rowType_2 l dC dI Q N (CS.hs σ) R hx hb hr hml hown hts hlocks hZ hA hK N σ x1 0 _ _ _ hf h0 hC (lv_sub hl [1, 2, 0] rfl)
theorem k_X9_takeRow_fieldLink_RX9_69_SR_Tokens_name_J : Cond.fieldLink RX9 69 "StatementRules2$Tokens" "name" "J" ∈ wzX9_takeRow := List.mem_cons_of_mem _ (List.mem_append_left _ (List.mem_of_getElem? (i := 0) rfl))
theorem i_X9_takeRow_X9 : ∀ w ∈ wsX90, w ∈ wzX9_takeRow := fun _ h => List.mem_cons_of_mem _ (List.mem_append_right _ (List.mem_append_left _ (h)))
theorem k_X9_takeRow_fieldLink_RX9_34_SR_Tokens_next_I : Cond.fieldLink RX9 34 "StatementRules2$Tokens" "next" "I" ∈ wzX9_takeRow := List.mem_cons_of_mem _ (List.mem_append_left _ (List.mem_of_getElem? (i := 1) rfl))
theorem k_X9_takeRow_fieldLink_RX9_47_SR_Tokens_place_I : Cond.fieldLink RX9 47 "StatementRules2$Tokens" "place" "I" ∈ wzX9_takeRow := List.mem_cons_of_mem _ (List.mem_append_left _ (List.mem_of_getElem? (i := 2) rfl))
theorem k_X9_takeRow_fieldLink_RX9_40_SR_Tokens_type_I : Cond.fieldLink RX9 40 "StatementRules2$Tokens" "type" "I" ∈ wzX9_takeRow := List.mem_cons_of_mem _ (List.mem_append_left _ (List.mem_of_getElem? (i := 3) rfl))
set_option maxHeartbeats 4000000 in
set_option maxRecDepth 100000 in
theorem j_X9_takeRow_79 {p : Program} {e : Env} {s : State} {m : MethodId} {args : Array Value} {below : List Frame} {meth : Method} {c : Code} {A : Nat → Prop} (l : Launch) (dC : Nat → ClassId) (dI : Nat → Nat → Nat) (Q : CQ) (N : Nat) (z9h : Nat) (R : Unit × CS) (hx : p.tables.exec = Jvm.exec) (hb : c.code = cX9_takeRow) (hr : meth.sig.returnType = none) (hml : c.maxLocals = 2) (hown : s.vm.findClass RX9 = some m.cls) (hts : ∀ w ∈ wzX9_takeRow, w.before args s = true) (hlocks : meth.locks = false) (hZ : zAMB s) (hA : ∀ q : Nat, s.heap.size ≤ q → A q) (hK : va_K (dC, dI) vwCl (cT Q) s) : ∀ (σ : CS) (H : Heap) (locs : List Loc) (ls : Array Slot), f_X9_takeRow_79 N σ = some R → z9h ≤ CS.hs σ → CP dC dI Q A s.heap σ H locs → lv_has ls 2 [(0, .ref (Q.o 4))] → W p l e ({ frames := 2, cells := CS.hs R.2 - z9h, slots := 17 * (CS.hs R.2 - z9h), locals := 60 * 2 }) s m args below meth c H locs (CS.hs σ - z9h) (17 * (CS.hs σ - z9h)) (MQ below (va_Qv (fun (_ : Unit) => True) (fun (_ : Unit) (t : State) => zPost dC dI A (cW Q R.2) (cT Q) t ∧ t.heap.size = CS.hs R.2) A) args s (CS.hs R.2 - z9h) (17 * (CS.hs R.2 - z9h)) A) (F0 m 79 ls []) := by
  intro σ  H locs ls hf h0 hC hl
  unfold f_X9_takeRow_79 at hf
  refine lv_aload_n hx hb dX9_takeRow_79 rfl (lv_at hl 0 rfl) ?_
  refine lv_aload_n hx hb dX9_takeRow_80 rfl (lv_at hl 0 rfl) ?_
  refine cG_42 (v := (σ.i 42)) hx hb hts i_X9_takeRow_X9 hown hK hC (hts (.fieldLink RX9 34 "StatementRules2$Tokens" "next" "I") k_X9_takeRow_fieldLink_RX9_34_SR_Tokens_next_I) (fun _ q9 => q9) dX9_takeRow_81 rfl ?_
  refine lv_aload_n hx hb dX9_takeRow_84 rfl (lv_at hl 0 rfl) ?_
  refine cG_44 (v := (σ.i 44)) hx hb hts i_X9_takeRow_X9 hown hK hC (hts (.fieldLink RX9 47 "StatementRules2$Tokens" "place" "I") k_X9_takeRow_fieldLink_RX9_47_SR_Tokens_place_I) (fun _ q9 => q9) dX9_takeRow_85 rfl ?_
  refine lv_isub hx hb dX9_takeRow_88 ?_
  refine lv_bipush (v := 8) hx hb dX9_takeRow_89 (by decide) ?_
  refine lv_icmp_le (tgt := 99) hx hb dX9_takeRow_91 (by decide) (fun c2 => ?_) (fun c2 => ?_)
  ·
    replace hf := (if_pos c2).symm.trans hf
    refine lv_aload_n hx hb dX9_takeRow_99 rfl (lv_at hl 0 rfl) ?_
    refine lv_aload_n hx hb dX9_takeRow_100 rfl (lv_at hl 0 rfl) ?_
    refine cG_42 (v := (σ.i 42)) hx hb hts i_X9_takeRow_X9 hown hK hC (hts (.fieldLink RX9 34 "StatementRules2$Tokens" "next" "I") k_X9_takeRow_fieldLink_RX9_34_SR_Tokens_next_I) (fun _ q9 => q9) dX9_takeRow_101 rfl ?_
    refine lv_aload_n hx hb dX9_takeRow_104 rfl (lv_at hl 0 rfl) ?_
    refine cG_44 (v := (σ.i 44)) hx hb hts i_X9_takeRow_X9 hown hK hC (hts (.fieldLink RX9 47 "StatementRules2$Tokens" "place" "I") k_X9_takeRow_fieldLink_RX9_47_SR_Tokens_place_I) (fun _ q9 => q9) dX9_takeRow_105 rfl ?_
    refine lv_isub hx hb dX9_takeRow_108 ?_
    obtain ⟨p3, hcp3, hf⟩ := hf_bind hf
    have mo4 : CS.hs σ ≤ CS.hs p3.2 := Mono.go hcp3 (m_X9_rowType N σ ((σ.i 42) - (σ.i 44)))
    have hr9 : CS.hs p3.2 ≤ CS.hs R.2 := Mono.go hf (mono_some (Nat.le_refl _))
    have hFc := cFree hC hA
    refine va_calli (va_runV (As := [.int ((σ.i 42) - (σ.i 44))]) (rest := [.ref (Q.o 4)]) ⟨hx, hb, hml, hown, hts⟩ (c_X9_rowType l dC dI Q N σ ((σ.i 42) - (σ.i 44)) p3 hcp3) (cwV 1 hts hX9_takeRow_X9_rowType_v73 rfl rfl rfl (by decide +kernel) ⟨(show 1 + 1 ≤ 2 by omega), (show 8 + (8 + 11) + 60 * 1 ≤ 60 * 2 by omega)⟩) ⟨zPre.blind, va_recv hK hC.1 (ci := 8) (q0 := 4) rfl rfl, cPre_go hZ hK hC⟩ rfl rfl hl.1 rfl (lv_room (Nat.le_of_ble_eq_true rfl)) dX9_takeRow_109 (cAcc h0 mo4 hr9)) hC.2.2.1 (fun q _ h => hFc q h) hFc (fun r5 u9 t9 H1 locs ht hvm hw hB hz1 hk1 hS => ?_)
    obtain ⟨⟨hP, hK1, hD1⟩, hsz1⟩ := hB
    rw [ht] at hP hsz1
    have hC : CP dC dI Q A s.heap p3.2 H1 locs := ⟨hP, hD1.weaken (fun _ _ _ h => hFc _ h), hS, hsz1⟩
    generalize H1 = H at hC ⊢
    have h6 : z9h ≤ CS.hs p3.2 := Nat.le_trans h0 mo4
    refine W.widen (k := CS.hs p3.2 - z9h) (n := 17 * (CS.hs p3.2 - z9h)) (cAcc2 h0 mo4) (cAcc3 h0 mo4) ?_
    obtain rfl : r5 = p3.1 := hw
    refine cP_43 (v := p3.1) hx hb hts i_X9_takeRow_X9 hown hK hC (hts (.fieldLink RX9 40 "StatementRules2$Tokens" "type" "I") k_X9_takeRow_fieldLink_RX9_40_SR_Tokens_type_I) (fun _ q9 => q9) dX9_takeRow_112 (fun H locs hC => ?_)
    obtain rfl := Option.some.inj hf
    exact W.vret hx hb hr (fun t ht hW => ⟨⟨(), rfl, trivial, ⟨by rw [ht]; exact hC.1, va_K.moved hW.alike hK, hC.2.1⟩, by rw [ht]; exact hC.2.2.2⟩, hC.2.2.1.F ht⟩) hC.2.2.1.2.2 dX9_takeRow_115
  ·
    replace hf := (if_neg c2).symm.trans hf
    refine lv_bipush (v := 6) hx hb dX9_takeRow_94 (by decide) ?_
    refine lv_goto (tgt := 112) hx hb dX9_takeRow_96 (by decide) ?_
    refine cP_43 (v := 6) hx hb hts i_X9_takeRow_X9 hown hK hC (hts (.fieldLink RX9 40 "StatementRules2$Tokens" "type" "I") k_X9_takeRow_fieldLink_RX9_40_SR_Tokens_type_I) (fun _ q9 => q9) dX9_takeRow_112 (fun H locs hC => ?_)
    obtain rfl := Option.some.inj hf
    exact W.vret hx hb hr (fun t ht hW => ⟨⟨(), rfl, trivial, ⟨by rw [ht]; exact hC.1, va_K.moved hW.alike hK, hC.2.1⟩, by rw [ht]; exact hC.2.2.2⟩, hC.2.2.1.F ht⟩) hC.2.2.1.2.2 dX9_takeRow_115
set_option maxHeartbeats 4000000 in
set_option maxRecDepth 100000 in
theorem j_X9_takeRow_7 {p : Program} {e : Env} {s : State} {m : MethodId} {args : Array Value} {below : List Frame} {meth : Method} {c : Code} {A : Nat → Prop} (l : Launch) (dC : Nat → ClassId) (dI : Nat → Nat → Nat) (Q : CQ) (N : Nat) (z9h : Nat) (R : Unit × CS) (hx : p.tables.exec = Jvm.exec) (hb : c.code = cX9_takeRow) (hr : meth.sig.returnType = none) (hml : c.maxLocals = 2) (hown : s.vm.findClass RX9 = some m.cls) (hts : ∀ w ∈ wzX9_takeRow, w.before args s = true) (hlocks : meth.locks = false) (hZ : zAMB s) (hA : ∀ q : Nat, s.heap.size ≤ q → A q) (hK : va_K (dC, dI) vwCl (cT Q) s) : ∀ (n9 : Nat), ∀ (σ : CS) (x1 : Int32) (H : Heap) (locs : List Loc) (ls : Array Slot), f_X9_takeRow_7 N n9 σ x1 = some R → z9h ≤ CS.hs σ → CP dC dI Q A s.heap σ H locs → lv_has ls 2 [(0, .ref (Q.o 4)), (1, .int x1)] → W p l e ({ frames := 2, cells := CS.hs R.2 - z9h, slots := 17 * (CS.hs R.2 - z9h), locals := 60 * 2 }) s m args below meth c H locs (CS.hs σ - z9h) (17 * (CS.hs σ - z9h)) (MQ below (va_Qv (fun (_ : Unit) => True) (fun (_ : Unit) (t : State) => zPost dC dI A (cW Q R.2) (cT Q) t ∧ t.heap.size = CS.hs R.2) A) args s (CS.hs R.2 - z9h) (17 * (CS.hs R.2 - z9h)) A) (F0 m 7 ls []) := by
  intro n9
  induction n9 with
  | zero => intro σ x1 H locs ls hf; exact absurd hf (by intro q9; cases q9)
  | succ n9 ih =>
    intro σ x1 H locs ls hf h0 hC hl
    replace hf : b_X9_takeRow_7 N (f_X9_takeRow_7 N n9) σ x1 = some R := hf
    unfold b_X9_takeRow_7 at hf
    have hMK := fun (σ : CS) (x1 : Int32) => m_X9_takeRow_7 N n9 σ x1
    refine lv_iload_n hx hb dX9_takeRow_7 rfl (lv_at hl 1 rfl) ?_
    refine lv_sipush (v := 900) hx hb dX9_takeRow_8 (by decide) ?_
    refine lv_icmp_ge (tgt := 79) hx hb dX9_takeRow_11 (by decide) (fun c1 => ?_) (fun c1 => ?_)
    ·
      replace hf := (if_pos c1).symm.trans hf
      exact j_X9_takeRow_79 l dC dI Q N z9h R hx hb hr hml hown hts hlocks hZ hA hK σ _ _ _ hf h0 hC (lv_sub hl [0] rfl)
    ·
      replace hf := (if_neg c1).symm.trans hf
      refine lv_aload_n hx hb dX9_takeRow_14 rfl (lv_at hl 0 rfl) ?_
      refine lv_aload_n hx hb dX9_takeRow_15 rfl (lv_at hl 0 rfl) ?_
      refine cG_42 (v := (σ.i 42)) hx hb hts i_X9_takeRow_X9 hown hK hC (hts (.fieldLink RX9 34 "StatementRules2$Tokens" "next" "I") k_X9_takeRow_fieldLink_RX9_34_SR_Tokens_next_I) (fun _ q9 => q9) dX9_takeRow_16 rfl ?_
      obtain ⟨p7, hcp7, hf⟩ := hf_bind hf
      have mo8 : CS.hs σ ≤ CS.hs p7.2 := Mono.go hcp7 (m_X9_byteAt N σ (σ.i 42))
      have hr9 : CS.hs p7.2 ≤ CS.hs R.2 := Mono.go hf (mono_bind (m_X9_isDigit N p7.2 p7.1) (fun p11 => (mono_ite (mono_bind (m_X9_byteAt N p11.2 (p11.2.i 42)) (fun p20 => (mono_bind (m_X9_isLetter N p20.2 p20.1) (fun p24 => (mono_ite (m_X9_takeRow_79 N p24.2) (mono_bind (m_X9_byteAt N p24.2 (p24.2.i 42)) (fun p29 => (hMK (CS.setI (CS.setL p29.2 ((p24.2.l <<< ((8 : Int32).toInt64 &&& 63)) ||| (p29.1 : Int32).toInt64)) 42 ((p29.2.i 42) + 1)) (x1 + 1))))))))) (mono_bind (m_X9_byteAt N p11.2 (p11.2.i 42)) (fun p16 => (hMK (CS.setI (CS.setL p16.2 ((p11.2.l <<< ((8 : Int32).toInt64 &&& 63)) ||| (p16.1 : Int32).toInt64)) 42 ((p16.2.i 42) + 1)) (x1 + 1)))))))
      have hFc := cFree hC hA
      refine va_calli (va_runV (As := [.int (σ.i 42)]) (rest := []) ⟨hx, hb, hml, hown, hts⟩ (c_X9_byteAt l dC dI Q N σ (σ.i 42) p7 hcp7) (cwV 1 hts hX9_takeRow_X9_byteAt_v43 rfl rfl rfl (by decide +kernel) ⟨(show 1 + 1 ≤ 2 by omega), (show 8 + (2 + 11) + 60 * 1 ≤ 60 * 2 by omega)⟩) ⟨zPre.blind, va_recv hK hC.1 (ci := 8) (q0 := 4) rfl rfl, cPre_go hZ hK hC⟩ rfl rfl hl.1 rfl (lv_room (Nat.le_of_ble_eq_true rfl)) dX9_takeRow_19 (cAcc h0 mo8 hr9)) hC.2.2.1 (fun q _ h => hFc q h) hFc (fun r9 u9 t9 H1 locs ht hvm hw hB hz1 hk1 hS => ?_)
      obtain ⟨⟨hP, hK1, hD1⟩, hsz1⟩ := hB
      rw [ht] at hP hsz1
      have hC : CP dC dI Q A s.heap p7.2 H1 locs := ⟨hP, hD1.weaken (fun _ _ _ h => hFc _ h), hS, hsz1⟩
      generalize H1 = H at hC ⊢
      have h10 : z9h ≤ CS.hs p7.2 := Nat.le_trans h0 mo8
      refine W.widen (k := CS.hs p7.2 - z9h) (n := 17 * (CS.hs p7.2 - z9h)) (cAcc2 h0 mo8) (cAcc3 h0 mo8) ?_
      obtain rfl : r9 = p7.1 := hw
      obtain ⟨p11, hcp11, hf⟩ := hf_bind hf
      have mo12 : CS.hs p7.2 ≤ CS.hs p11.2 := Mono.go hcp11 (m_X9_isDigit N p7.2 p7.1)
      have hr9 : CS.hs p11.2 ≤ CS.hs R.2 := Mono.go hf (mono_ite (mono_bind (m_X9_byteAt N p11.2 (p11.2.i 42)) (fun p20 => (mono_bind (m_X9_isLetter N p20.2 p20.1) (fun p24 => (mono_ite (m_X9_takeRow_79 N p24.2) (mono_bind (m_X9_byteAt N p24.2 (p24.2.i 42)) (fun p29 => (hMK (CS.setI (CS.setL p29.2 ((p24.2.l <<< ((8 : Int32).toInt64 &&& 63)) ||| (p29.1 : Int32).toInt64)) 42 ((p29.2.i 42) + 1)) (x1 + 1))))))))) (mono_bind (m_X9_byteAt N p11.2 (p11.2.i 42)) (fun p16 => (hMK (CS.setI (CS.setL p16.2 ((p11.2.l <<< ((8 : Int32).toInt64 &&& 63)) ||| (p16.1 : Int32).toInt64)) 42 ((p16.2.i 42) + 1)) (x1 + 1)))))
      have hFc := cFree hC hA
      refine va_calli (va_runS (As := [.int p7.1]) (rest := []) ⟨hx, hb, hml, hown, hts⟩ (c_X9_isDigit l dC dI Q N p7.2 p7.1 p11 hcp11) (va_cwS 1 hts hX9_takeRow_X9_isDigit_s50 rfl rfl rfl (by decide +kernel) ⟨(show 1 + 1 ≤ 2 by omega), (show 8 + (1 + 11) + 60 * 1 ≤ 60 * 2 by omega)⟩) ⟨zPre.blind, cPre_go hZ hK hC⟩ rfl rfl hl.1 rfl (lv_room (Nat.le_of_ble_eq_true rfl)) dX9_takeRow_22 (cAcc h10 mo12 hr9)) hC.2.2.1 (fun q _ h => hFc q h) hFc (fun r13 u9 t9 H1 locs ht hvm hw hB hz1 hk1 hS => ?_)
      obtain ⟨⟨hP, hK1, hD1⟩, hsz1⟩ := hB
      rw [ht] at hP hsz1
      have hC : CP dC dI Q A s.heap p11.2 H1 locs := ⟨hP, hD1.weaken (fun _ _ _ h => hFc _ h), hS, hsz1⟩
      generalize H1 = H at hC ⊢
      have h14 : z9h ≤ CS.hs p11.2 := Nat.le_trans h10 mo12
      refine W.widen (k := CS.hs p11.2 - z9h) (n := 17 * (CS.hs p11.2 - z9h)) (cAcc2 h10 mo12) (cAcc3 h10 mo12) ?_
      obtain rfl : r13 = p11.1 := hw
      refine lv_if_ne (tgt := 42) hx hb dX9_takeRow_25 (by decide) (fun c15 => ?_) (fun c15 => ?_)
      ·
        replace hf := (if_neg c15).symm.trans hf
        refine lv_aload_n hx hb dX9_takeRow_42 rfl (lv_at hl 0 rfl) ?_
        refine lv_aload_n hx hb dX9_takeRow_43 rfl (lv_at hl 0 rfl) ?_
        refine cG_46 (v := p11.2.l) hx hb hts i_X9_takeRow_X9 hown hK hC (hts (.fieldLink RX9 69 "StatementRules2$Tokens" "name" "J") k_X9_takeRow_fieldLink_RX9_69_SR_Tokens_name_J) (fun _ q9 => q9) dX9_takeRow_44 rfl ?_
        refine lv_bipush (v := 8) hx hb dX9_takeRow_47 (by decide) ?_
        refine lv_lshl (v := (p11.2.l <<< ((8 : Int32).toInt64 &&& 63))) hx hb dX9_takeRow_49 rfl ?_
        refine lv_aload_n hx hb dX9_takeRow_50 rfl (lv_at hl 0 rfl) ?_
        refine lv_aload_n hx hb dX9_takeRow_51 rfl (lv_at hl 0 rfl) ?_
        refine cG_42 (v := (p11.2.i 42)) hx hb hts i_X9_takeRow_X9 hown hK hC (hts (.fieldLink RX9 34 "StatementRules2$Tokens" "next" "I") k_X9_takeRow_fieldLink_RX9_34_SR_Tokens_next_I) (fun _ q9 => q9) dX9_takeRow_52 rfl ?_
        obtain ⟨p16, hcp16, hf⟩ := hf_bind hf
        have mo17 : CS.hs p11.2 ≤ CS.hs p16.2 := Mono.go hcp16 (m_X9_byteAt N p11.2 (p11.2.i 42))
        have hr9 : CS.hs p16.2 ≤ CS.hs R.2 := Mono.go hf (hMK (CS.setI (CS.setL p16.2 ((p11.2.l <<< ((8 : Int32).toInt64 &&& 63)) ||| (p16.1 : Int32).toInt64)) 42 ((p16.2.i 42) + 1)) (x1 + 1))
        have hFc := cFree hC hA
        refine va_calli (va_runV (As := [.int (p11.2.i 42)]) (rest := [.long (p11.2.l <<< ((8 : Int32).toInt64 &&& 63)), .ref (Q.o 4)]) ⟨hx, hb, hml, hown, hts⟩ (c_X9_byteAt l dC dI Q N p11.2 (p11.2.i 42) p16 hcp16) (cwV 1 hts hX9_takeRow_X9_byteAt_v43 rfl rfl rfl (by decide +kernel) ⟨(show 1 + 1 ≤ 2 by omega), (show 8 + (2 + 11) + 60 * 1 ≤ 60 * 2 by omega)⟩) ⟨zPre.blind, va_recv hK hC.1 (ci := 8) (q0 := 4) rfl rfl, cPre_go hZ hK hC⟩ rfl rfl hl.1 rfl (lv_room (Nat.le_of_ble_eq_true rfl)) dX9_takeRow_55 (cAcc h14 mo17 hr9)) hC.2.2.1 (fun q _ h => hFc q h) hFc (fun r18 u9 t9 H1 locs ht hvm hw hB hz1 hk1 hS => ?_)
        obtain ⟨⟨hP, hK1, hD1⟩, hsz1⟩ := hB
        rw [ht] at hP hsz1
        have hC : CP dC dI Q A s.heap p16.2 H1 locs := ⟨hP, hD1.weaken (fun _ _ _ h => hFc _ h), hS, hsz1⟩
        generalize H1 = H at hC ⊢
        have h19 : z9h ≤ CS.hs p16.2 := Nat.le_trans h14 mo17
        refine W.widen (k := CS.hs p16.2 - z9h) (n := 17 * (CS.hs p16.2 - z9h)) (cAcc2 h14 mo17) (cAcc3 h14 mo17) ?_
        obtain rfl : r18 = p16.1 := hw
        refine lv_i2l (v := (p16.1 : Int32).toInt64) hx hb dX9_takeRow_58 rfl ?_
        refine lv_lor hx hb dX9_takeRow_59 ?_
        refine cP_46 (v := ((p11.2.l <<< ((8 : Int32).toInt64 &&& 63)) ||| (p16.1 : Int32).toInt64)) hx hb hts i_X9_takeRow_X9 hown hK hC (hts (.fieldLink RX9 69 "StatementRules2$Tokens" "name" "J") k_X9_takeRow_fieldLink_RX9_69_SR_Tokens_name_J) (fun _ q9 => q9) dX9_takeRow_60 (fun H locs hC => ?_)
        refine lv_aload_n hx hb dX9_takeRow_63 rfl (lv_at hl 0 rfl) ?_
        refine lv_dup hx hb dX9_takeRow_64 rfl ?_
        refine cG_42 (v := (p16.2.i 42)) hx hb hts i_X9_takeRow_X9 hown hK hC (hts (.fieldLink RX9 34 "StatementRules2$Tokens" "next" "I") k_X9_takeRow_fieldLink_RX9_34_SR_Tokens_next_I) (fun _ q9 => q9) dX9_takeRow_65 rfl ?_
        refine lv_iconst (v := 1) hx hb dX9_takeRow_68 (by decide) ?_
        refine lv_iadd hx hb dX9_takeRow_69 ?_
        refine cP_42 (v := ((p16.2.i 42) + 1)) hx hb hts i_X9_takeRow_X9 hown hK hC (hts (.fieldLink RX9 34 "StatementRules2$Tokens" "next" "I") k_X9_takeRow_fieldLink_RX9_34_SR_Tokens_next_I) (fun _ q9 => q9) dX9_takeRow_70 (fun H locs hC => ?_)
        refine lv_iinc (v := (x1 + 1)) (lv' := [(1, .int (x1 + 1)), (0, .ref (Q.o 4))]) hx hb dX9_takeRow_73 hl (k := 1) rfl rfl (by decide) rfl (fun ls hl => ?_)
        refine lv_goto (tgt := 7) hx hb dX9_takeRow_76 (by decide) ?_
        exact ih (CS.setI (CS.setL p16.2 ((p11.2.l <<< ((8 : Int32).toInt64 &&& 63)) ||| (p16.1 : Int32).toInt64)) 42 ((p16.2.i 42) + 1)) (x1 + 1) _ _ _ hf h19 hC (lv_sub hl [1, 0] rfl)
      ·
        replace hf := (if_pos c15).symm.trans hf
        refine lv_aload_n hx hb dX9_takeRow_28 rfl (lv_at hl 0 rfl) ?_
        refine lv_aload_n hx hb dX9_takeRow_29 rfl (lv_at hl 0 rfl) ?_
        refine cG_42 (v := (p11.2.i 42)) hx hb hts i_X9_takeRow_X9 hown hK hC (hts (.fieldLink RX9 34 "StatementRules2$Tokens" "next" "I") k_X9_takeRow_fieldLink_RX9_34_SR_Tokens_next_I) (fun _ q9 => q9) dX9_takeRow_30 rfl ?_
        obtain ⟨p20, hcp20, hf⟩ := hf_bind hf
        have mo21 : CS.hs p11.2 ≤ CS.hs p20.2 := Mono.go hcp20 (m_X9_byteAt N p11.2 (p11.2.i 42))
        have hr9 : CS.hs p20.2 ≤ CS.hs R.2 := Mono.go hf (mono_bind (m_X9_isLetter N p20.2 p20.1) (fun p24 => (mono_ite (m_X9_takeRow_79 N p24.2) (mono_bind (m_X9_byteAt N p24.2 (p24.2.i 42)) (fun p29 => (hMK (CS.setI (CS.setL p29.2 ((p24.2.l <<< ((8 : Int32).toInt64 &&& 63)) ||| (p29.1 : Int32).toInt64)) 42 ((p29.2.i 42) + 1)) (x1 + 1)))))))
        have hFc := cFree hC hA
        refine va_calli (va_runV (As := [.int (p11.2.i 42)]) (rest := []) ⟨hx, hb, hml, hown, hts⟩ (c_X9_byteAt l dC dI Q N p11.2 (p11.2.i 42) p20 hcp20) (cwV 1 hts hX9_takeRow_X9_byteAt_v43 rfl rfl rfl (by decide +kernel) ⟨(show 1 + 1 ≤ 2 by omega), (show 8 + (2 + 11) + 60 * 1 ≤ 60 * 2 by omega)⟩) ⟨zPre.blind, va_recv hK hC.1 (ci := 8) (q0 := 4) rfl rfl, cPre_go hZ hK hC⟩ rfl rfl hl.1 rfl (lv_room (Nat.le_of_ble_eq_true rfl)) dX9_takeRow_33 (cAcc h14 mo21 hr9)) hC.2.2.1 (fun q _ h => hFc q h) hFc (fun r22 u9 t9 H1 locs ht hvm hw hB hz1 hk1 hS => ?_)
        obtain ⟨⟨hP, hK1, hD1⟩, hsz1⟩ := hB
        rw [ht] at hP hsz1
        have hC : CP dC dI Q A s.heap p20.2 H1 locs := ⟨hP, hD1.weaken (fun _ _ _ h => hFc _ h), hS, hsz1⟩
        generalize H1 = H at hC ⊢
        have h23 : z9h ≤ CS.hs p20.2 := Nat.le_trans h14 mo21
        refine W.widen (k := CS.hs p20.2 - z9h) (n := 17 * (CS.hs p20.2 - z9h)) (cAcc2 h14 mo21) (cAcc3 h14 mo21) ?_
        obtain rfl : r22 = p20.1 := hw
        obtain ⟨p24, hcp24, hf⟩ := hf_bind hf
        have mo25 : CS.hs p20.2 ≤ CS.hs p24.2 := Mono.go hcp24 (m_X9_isLetter N p20.2 p20.1)
        have hr9 : CS.hs p24.2 ≤ CS.hs R.2 := Mono.go hf (mono_ite (m_X9_takeRow_79 N p24.2) (mono_bind (m_X9_byteAt N p24.2 (p24.2.i 42)) (fun p29 => (hMK (CS.setI (CS.setL p29.2 ((p24.2.l <<< ((8 : Int32).toInt64 &&& 63)) ||| (p29.1 : Int32).toInt64)) 42 ((p29.2.i 42) + 1)) (x1 + 1)))))
        have hFc := cFree hC hA
        refine va_calli (va_runS (As := [.int p20.1]) (rest := []) ⟨hx, hb, hml, hown, hts⟩ (c_X9_isLetter l dC dI Q N p20.2 p20.1 p24 hcp24) (va_cwS 1 hts hX9_takeRow_X9_isLetter_s57 rfl rfl rfl (by decide +kernel) ⟨(show 1 + 1 ≤ 2 by omega), (show 8 + (1 + 11) + 60 * 1 ≤ 60 * 2 by omega)⟩) ⟨zPre.blind, cPre_go hZ hK hC⟩ rfl rfl hl.1 rfl (lv_room (Nat.le_of_ble_eq_true rfl)) dX9_takeRow_36 (cAcc h23 mo25 hr9)) hC.2.2.1 (fun q _ h => hFc q h) hFc (fun r26 u9 t9 H1 locs ht hvm hw hB hz1 hk1 hS => ?_)
        obtain ⟨⟨hP, hK1, hD1⟩, hsz1⟩ := hB
        rw [ht] at hP hsz1
        have hC : CP dC dI Q A s.heap p24.2 H1 locs := ⟨hP, hD1.weaken (fun _ _ _ h => hFc _ h), hS, hsz1⟩
        generalize H1 = H at hC ⊢
        have h27 : z9h ≤ CS.hs p24.2 := Nat.le_trans h23 mo25
        refine W.widen (k := CS.hs p24.2 - z9h) (n := 17 * (CS.hs p24.2 - z9h)) (cAcc2 h23 mo25) (cAcc3 h23 mo25) ?_
        obtain rfl : r26 = p24.1 := hw
        refine lv_if_eq (tgt := 79) hx hb dX9_takeRow_39 (by decide) (fun c28 => ?_) (fun c28 => ?_)
        ·
          replace hf := (if_pos c28).symm.trans hf
          exact j_X9_takeRow_79 l dC dI Q N z9h R hx hb hr hml hown hts hlocks hZ hA hK p24.2 _ _ _ hf h27 hC (lv_sub hl [0] rfl)
        ·
          replace hf := (if_neg c28).symm.trans hf
          refine lv_aload_n hx hb dX9_takeRow_42 rfl (lv_at hl 0 rfl) ?_
          refine lv_aload_n hx hb dX9_takeRow_43 rfl (lv_at hl 0 rfl) ?_
          refine cG_46 (v := p24.2.l) hx hb hts i_X9_takeRow_X9 hown hK hC (hts (.fieldLink RX9 69 "StatementRules2$Tokens" "name" "J") k_X9_takeRow_fieldLink_RX9_69_SR_Tokens_name_J) (fun _ q9 => q9) dX9_takeRow_44 rfl ?_
          refine lv_bipush (v := 8) hx hb dX9_takeRow_47 (by decide) ?_
          refine lv_lshl (v := (p24.2.l <<< ((8 : Int32).toInt64 &&& 63))) hx hb dX9_takeRow_49 rfl ?_
          refine lv_aload_n hx hb dX9_takeRow_50 rfl (lv_at hl 0 rfl) ?_
          refine lv_aload_n hx hb dX9_takeRow_51 rfl (lv_at hl 0 rfl) ?_
          refine cG_42 (v := (p24.2.i 42)) hx hb hts i_X9_takeRow_X9 hown hK hC (hts (.fieldLink RX9 34 "StatementRules2$Tokens" "next" "I") k_X9_takeRow_fieldLink_RX9_34_SR_Tokens_next_I) (fun _ q9 => q9) dX9_takeRow_52 rfl ?_
          obtain ⟨p29, hcp29, hf⟩ := hf_bind hf
          have mo30 : CS.hs p24.2 ≤ CS.hs p29.2 := Mono.go hcp29 (m_X9_byteAt N p24.2 (p24.2.i 42))
          have hr9 : CS.hs p29.2 ≤ CS.hs R.2 := Mono.go hf (hMK (CS.setI (CS.setL p29.2 ((p24.2.l <<< ((8 : Int32).toInt64 &&& 63)) ||| (p29.1 : Int32).toInt64)) 42 ((p29.2.i 42) + 1)) (x1 + 1))
          have hFc := cFree hC hA
          refine va_calli (va_runV (As := [.int (p24.2.i 42)]) (rest := [.long (p24.2.l <<< ((8 : Int32).toInt64 &&& 63)), .ref (Q.o 4)]) ⟨hx, hb, hml, hown, hts⟩ (c_X9_byteAt l dC dI Q N p24.2 (p24.2.i 42) p29 hcp29) (cwV 1 hts hX9_takeRow_X9_byteAt_v43 rfl rfl rfl (by decide +kernel) ⟨(show 1 + 1 ≤ 2 by omega), (show 8 + (2 + 11) + 60 * 1 ≤ 60 * 2 by omega)⟩) ⟨zPre.blind, va_recv hK hC.1 (ci := 8) (q0 := 4) rfl rfl, cPre_go hZ hK hC⟩ rfl rfl hl.1 rfl (lv_room (Nat.le_of_ble_eq_true rfl)) dX9_takeRow_55 (cAcc h27 mo30 hr9)) hC.2.2.1 (fun q _ h => hFc q h) hFc (fun r31 u9 t9 H1 locs ht hvm hw hB hz1 hk1 hS => ?_)
          obtain ⟨⟨hP, hK1, hD1⟩, hsz1⟩ := hB
          rw [ht] at hP hsz1
          have hC : CP dC dI Q A s.heap p29.2 H1 locs := ⟨hP, hD1.weaken (fun _ _ _ h => hFc _ h), hS, hsz1⟩
          generalize H1 = H at hC ⊢
          have h32 : z9h ≤ CS.hs p29.2 := Nat.le_trans h27 mo30
          refine W.widen (k := CS.hs p29.2 - z9h) (n := 17 * (CS.hs p29.2 - z9h)) (cAcc2 h27 mo30) (cAcc3 h27 mo30) ?_
          obtain rfl : r31 = p29.1 := hw
          refine lv_i2l (v := (p29.1 : Int32).toInt64) hx hb dX9_takeRow_58 rfl ?_
          refine lv_lor hx hb dX9_takeRow_59 ?_
          refine cP_46 (v := ((p24.2.l <<< ((8 : Int32).toInt64 &&& 63)) ||| (p29.1 : Int32).toInt64)) hx hb hts i_X9_takeRow_X9 hown hK hC (hts (.fieldLink RX9 69 "StatementRules2$Tokens" "name" "J") k_X9_takeRow_fieldLink_RX9_69_SR_Tokens_name_J) (fun _ q9 => q9) dX9_takeRow_60 (fun H locs hC => ?_)
          refine lv_aload_n hx hb dX9_takeRow_63 rfl (lv_at hl 0 rfl) ?_
          refine lv_dup hx hb dX9_takeRow_64 rfl ?_
          refine cG_42 (v := (p29.2.i 42)) hx hb hts i_X9_takeRow_X9 hown hK hC (hts (.fieldLink RX9 34 "StatementRules2$Tokens" "next" "I") k_X9_takeRow_fieldLink_RX9_34_SR_Tokens_next_I) (fun _ q9 => q9) dX9_takeRow_65 rfl ?_
          refine lv_iconst (v := 1) hx hb dX9_takeRow_68 (by decide) ?_
          refine lv_iadd hx hb dX9_takeRow_69 ?_
          refine cP_42 (v := ((p29.2.i 42) + 1)) hx hb hts i_X9_takeRow_X9 hown hK hC (hts (.fieldLink RX9 34 "StatementRules2$Tokens" "next" "I") k_X9_takeRow_fieldLink_RX9_34_SR_Tokens_next_I) (fun _ q9 => q9) dX9_takeRow_70 (fun H locs hC => ?_)
          refine lv_iinc (v := (x1 + 1)) (lv' := [(1, .int (x1 + 1)), (0, .ref (Q.o 4))]) hx hb dX9_takeRow_73 hl (k := 1) rfl rfl (by decide) rfl (fun ls hl => ?_)
          refine lv_goto (tgt := 7) hx hb dX9_takeRow_76 (by decide) ?_
          exact ih (CS.setI (CS.setL p29.2 ((p24.2.l <<< ((8 : Int32).toInt64 &&& 63)) ||| (p29.1 : Int32).toInt64)) 42 ((p29.2.i 42) + 1)) (x1 + 1) _ _ _ hf h32 hC (lv_sub hl [1, 0] rfl)
set_option maxHeartbeats 4000000 in
set_option maxRecDepth 100000 in
theorem c_X9_takeRow (l : Launch) (dC : Nat → ClassId) (dI : Nat → Nat → Nat) (Q : CQ) (N : Nat) (σ : CS) (R : Unit × CS) (hf : f_X9_takeRow N σ = some R) : Met l yX9_takeRow wzX9_takeRow ({ frames := 2, cells := CS.hs R.2 - CS.hs σ, slots := 17 * (CS.hs R.2 - CS.hs σ), locals := 60 * 2 }) (va_Pc [.ref (Q.o 4)] (zPre dC dI (CS.hs σ) (cW Q σ) (cT Q))) (va_Qv (fun (_ : Unit) => True) (fun (_ : Unit) (t : State) => zPost dC dI (va_A (cW Q σ) (CS.hs σ)) (cW Q R.2) (cT Q) t ∧ t.heap.size = CS.hs R.2) (va_A (cW Q σ) (CS.hs σ))) (CS.hs R.2 - CS.hs σ) (17 * (CS.hs R.2 - CS.hs σ)) (va_A (cW Q σ) (CS.hs σ)) := by
  refine Met.ofW (cc := cX9_takeRow) (maxL := 2) (ret := none) (by decide) rfl ?_
  intro p e s m args below meth c s₁ B hml hv
  obtain ⟨rfl, hsz, hZ, hP, hK, hD0⟩ := hv
  have hx := B.exec
  have hb := B.bytes
  have hr := B.returns
  have hts := atoms_spec (ws := wzX9_takeRow) B.pre
  have hown : s.vm.findClass RX9 = some m.cls := findClass_of_methodNamed B.named
  have hlocks := B.notSynchronized
  have hD := hD0.self (sz := CS.hs σ)
  generalize hAe : va_A (cW Q σ) (CS.hs σ) = A at hD ⊢
  have hA : ∀ q : Nat, s.heap.size ≤ q → A q := fun q h => by rw [← hAe]; exact Or.inr (hsz ▸ h)
  have hC : CP dC dI Q A s.heap σ s.heap [] := ⟨hP, hD, va_S.rf, hsz⟩
  have h0 : CS.hs σ ≤ CS.hs σ := Nat.le_refl _
  have hl := lv_entry ([.ref (Q.o 4)]) (n := 2) (Nat.le_of_ble_eq_true rfl)
  rw [lg_entry_eq]
  generalize (lg_sl ([.ref (Q.o 4)]) ++ List.replicate (2 - (lg_sl ([.ref (Q.o 4)])).length) Slot.unset).toArray = ls at hl ⊢
  have hl : lv_has ls 2 [(0, .ref (Q.o 4))] := hl
  unfold f_X9_takeRow at hf
  refine W.widen (k := CS.hs σ - CS.hs σ) (n := 17 * (CS.hs σ - CS.hs σ)) (Nat.zero_le _) (Nat.zero_le _) ?_
  refine lv_aload_n hx hb dX9_takeRow_0 rfl (lv_at hl 0 rfl) ?_
  refine lv_lconst (v := 0) hx hb dX9_takeRow_1 (by decide) ?_
  refine cP_46 (v := 0) hx hb hts i_X9_takeRow_X9 hown hK hC (hts (.fieldLink RX9 69 "StatementRules2$Tokens" "name" "J") k_X9_takeRow_fieldLink_RX9_69_SR_Tokens_name_J) (fun _ q9 => q9) dX9_takeRow_2 (fun H locs hC => ?_)
  refine lv_iconst (v := 0) hx hb dX9_takeRow_5 (by decide) ?_
  refine lv_istore_n (lv' := [(1, .int 0), (0, .ref (Q.o 4))]) hx hb dX9_takeRow_6 rfl hl (by decide) rfl (fun ls hl => ?_)
  exact j_X9_takeRow_7 l dC dI Q N (CS.hs σ) R hx hb hr hml hown hts hlocks hZ hA hK N (CS.setL σ 0) 0 _ _ _ hf h0 hC (lv_sub hl [1, 0] rfl)
set_option maxHeartbeats 4000000 in
set_option maxRecDepth 100000 in
theorem j_X9_longSign_73 {p : Program} {e : Env} {s : State} {m : MethodId} {args : Array Value} {below : List Frame} {meth : Method} {c : Code} {A : Nat → Prop} (l : Launch) (dC : Nat → ClassId) (dI : Nat → Nat → Nat) (Q : CQ) (N : Nat) (z9h : Nat) (R : Int32 × CS) (hx : p.tables.exec = Jvm.exec) (hb : c.code = cX9_longSign) (hr : meth.sig.returnType = (some .int)) (hml : c.maxLocals = 2) (hown : s.vm.findClass RX9 = some m.cls) (hts : ∀ w ∈ wzX9_longSign, w.before args s = true) (hlocks : meth.locks = false) (hZ : zAMB s) (hA : ∀ q : Nat, s.heap.size ≤ q → A q) (hK : va_K (dC, dI) vwCl (cT Q) s) : ∀ (σ : CS) (x0 : Int32) (x1 : Int32) (H : Heap) (locs : List Loc) (ls : Array Slot), f_X9_longSign_73 N σ x0 x1 = some R → z9h ≤ CS.hs σ → CP dC dI Q A s.heap σ H locs → lv_has ls 2 [(0, .int x0), (1, .int x1)] → W p l e ({ frames := 1, cells := CS.hs R.2 - z9h, slots := 17 * (CS.hs R.2 - z9h), locals := 60 * 1 }) s m args below meth c H locs (CS.hs σ - z9h) (17 * (CS.hs σ - z9h)) (MQ below (va_Qi (fun (r : Int32) (_ : Unit) => r = R.1) (fun (_ : Unit) (t : State) => zPost dC dI A (cW Q R.2) (cT Q) t ∧ t.heap.size = CS.hs R.2) A) args s (CS.hs R.2 - z9h) (17 * (CS.hs R.2 - z9h)) A) (F0 m 73 ls []) := by
  intro σ x0 x1 H locs ls hf h0 hC hl
  unfold f_X9_longSign_73 at hf
  refine lv_iload_n hx hb dX9_longSign_73 rfl (lv_at hl 0 rfl) ?_
  refine lv_iload_n hx hb dX9_longSign_74 rfl (lv_at hl 1 rfl) ?_
  refine lv_icmp_eq (tgt := 81) hx hb dX9_longSign_75 (by decide) (fun c3 => ?_) (fun c3 => ?_)
  ·
    replace hf := (if_pos c3).symm.trans hf
    refine lv_iload_n hx hb dX9_longSign_81 rfl (lv_at hl 0 rfl) ?_
    refine lv_bipush (v := 38) hx hb dX9_longSign_82 (by decide) ?_
    refine lv_icmp_ne (tgt := 93) hx hb dX9_longSign_84 (by decide) (fun c4 => ?_) (fun c4 => ?_)
    ·
      replace hf := (if_neg c4).symm.trans hf
      refine lv_iload_n hx hb dX9_longSign_93 rfl (lv_at hl 0 rfl) ?_
      refine lv_bipush (v := 124) hx hb dX9_longSign_94 (by decide) ?_
      refine lv_icmp_ne (tgt := 105) hx hb dX9_longSign_96 (by decide) (fun c5 => ?_) (fun c5 => ?_)
      ·
        replace hf := (if_neg c5).symm.trans hf
        refine lv_iload_n hx hb dX9_longSign_105 rfl (lv_at hl 0 rfl) ?_
        refine lv_bipush (v := 43) hx hb dX9_longSign_106 (by decide) ?_
        refine lv_icmp_ne (tgt := 117) hx hb dX9_longSign_108 (by decide) (fun c6 => ?_) (fun c6 => ?_)
        ·
          replace hf := (if_neg c6).symm.trans hf
          refine lv_bipush (v := 6) hx hb dX9_longSign_117 (by decide) ?_
          obtain rfl := Option.some.inj hf
          exact W.iret (v := 6) hx hb hr (fun t ht hW => ⟨⟨6, (), rfl, rfl, ⟨by rw [ht]; exact hC.1, va_K.moved hW.alike hK, hC.2.1⟩, by rw [ht]; exact hC.2.2.2⟩, hC.2.2.1.F ht⟩) hC.2.2.1.2.2 dX9_longSign_119
        ·
          replace hf := (if_pos c6).symm.trans hf
          refine lv_sipush (v := 135) hx hb dX9_longSign_111 (by decide) ?_
          refine lv_goto (tgt := 119) hx hb dX9_longSign_114 (by decide) ?_
          obtain rfl := Option.some.inj hf
          exact W.iret (v := 135) hx hb hr (fun t ht hW => ⟨⟨135, (), rfl, rfl, ⟨by rw [ht]; exact hC.1, va_K.moved hW.alike hK, hC.2.1⟩, by rw [ht]; exact hC.2.2.2⟩, hC.2.2.1.F ht⟩) hC.2.2.1.2.2 dX9_longSign_119
      ·
        replace hf := (if_pos c5).symm.trans hf
        refine lv_sipush (v := 133) hx hb dX9_longSign_99 (by decide) ?_
        refine lv_goto (tgt := 119) hx hb dX9_longSign_102 (by decide) ?_
        obtain rfl := Option.some.inj hf
        exact W.iret (v := 133) hx hb hr (fun t ht hW => ⟨⟨133, (), rfl, rfl, ⟨by rw [ht]; exact hC.1, va_K.moved hW.alike hK, hC.2.1⟩, by rw [ht]; exact hC.2.2.2⟩, hC.2.2.1.F ht⟩) hC.2.2.1.2.2 dX9_longSign_119
    ·
      replace hf := (if_pos c4).symm.trans hf
      refine lv_sipush (v := 132) hx hb dX9_longSign_87 (by decide) ?_
      refine lv_goto (tgt := 119) hx hb dX9_longSign_90 (by decide) ?_
      obtain rfl := Option.some.inj hf
      exact W.iret (v := 132) hx hb hr (fun t ht hW => ⟨⟨132, (), rfl, rfl, ⟨by rw [ht]; exact hC.1, va_K.moved hW.alike hK, hC.2.1⟩, by rw [ht]; exact hC.2.2.2⟩, hC.2.2.1.F ht⟩) hC.2.2.1.2.2 dX9_longSign_119
  ·
    replace hf := (if_neg c3).symm.trans hf
    refine lv_bipush (v := 6) hx hb dX9_longSign_78 (by decide) ?_
    obtain rfl := Option.some.inj hf
    exact W.iret (v := 6) hx hb hr (fun t ht hW => ⟨⟨6, (), rfl, rfl, ⟨by rw [ht]; exact hC.1, va_K.moved hW.alike hK, hC.2.1⟩, by rw [ht]; exact hC.2.2.2⟩, hC.2.2.1.F ht⟩) hC.2.2.1.2.2 dX9_longSign_80
set_option maxHeartbeats 4000000 in
set_option maxRecDepth 100000 in
theorem c_X9_longSign (l : Launch) (dC : Nat → ClassId) (dI : Nat → Nat → Nat) (Q : CQ) (N : Nat) (σ : CS) (x0 : Int32) (x1 : Int32) (R : Int32 × CS) (hf : f_X9_longSign N σ x0 x1 = some R) : Met l yX9_longSign wzX9_longSign ({ frames := 1, cells := CS.hs R.2 - CS.hs σ, slots := 17 * (CS.hs R.2 - CS.hs σ), locals := 60 * 1 }) (va_Pc [.int x0, .int x1] (zPre dC dI (CS.hs σ) (cW Q σ) (cT Q))) (va_Qi (fun (r : Int32) (_ : Unit) => r = R.1) (fun (_ : Unit) (t : State) => zPost dC dI (va_A (cW Q σ) (CS.hs σ)) (cW Q R.2) (cT Q) t ∧ t.heap.size = CS.hs R.2) (va_A (cW Q σ) (CS.hs σ))) (CS.hs R.2 - CS.hs σ) (17 * (CS.hs R.2 - CS.hs σ)) (va_A (cW Q σ) (CS.hs σ)) := by
  refine Met.ofW (cc := cX9_longSign) (maxL := 2) (ret := (some .int)) (by decide) rfl ?_
  intro p e s m args below meth c s₁ B hml hv
  obtain ⟨rfl, hsz, hZ, hP, hK, hD0⟩ := hv
  have hx := B.exec
  have hb := B.bytes
  have hr := B.returns
  have hts := atoms_spec (ws := wzX9_longSign) B.pre
  have hown : s.vm.findClass RX9 = some m.cls := findClass_of_methodNamed B.named
  have hlocks := B.notSynchronized
  have hD := hD0.self (sz := CS.hs σ)
  generalize hAe : va_A (cW Q σ) (CS.hs σ) = A at hD ⊢
  have hA : ∀ q : Nat, s.heap.size ≤ q → A q := fun q h => by rw [← hAe]; exact Or.inr (hsz ▸ h)
  have hC : CP dC dI Q A s.heap σ s.heap [] := ⟨hP, hD, va_S.rf, hsz⟩
  have h0 : CS.hs σ ≤ CS.hs σ := Nat.le_refl _
  have hl := lv_entry ([.int x0, .int x1]) (n := 2) (Nat.le_of_ble_eq_true rfl)
  rw [lg_entry_eq]
  generalize (lg_sl ([.int x0, .int x1]) ++ List.replicate (2 - (lg_sl ([.int x0, .int x1])).length) Slot.unset).toArray = ls at hl ⊢
  have hl : lv_has ls 2 [(0, .int x0), (1, .int x1)] := hl
  unfold f_X9_longSign at hf
  refine W.widen (k := CS.hs σ - CS.hs σ) (n := 17 * (CS.hs σ - CS.hs σ)) (Nat.zero_le _) (Nat.zero_le _) ?_
  refine lv_iload_n hx hb dX9_longSign_0 rfl (lv_at hl 1 rfl) ?_
  refine lv_bipush (v := 61) hx hb dX9_longSign_1 (by decide) ?_
  refine lv_icmp_ne (tgt := 57) hx hb dX9_longSign_3 (by decide) (fun c1 => ?_) (fun c1 => ?_)
  ·
    replace hf := (if_neg c1).symm.trans hf
    refine lv_iload_n hx hb dX9_longSign_57 rfl (lv_at hl 0 rfl) ?_
    refine lv_bipush (v := 45) hx hb dX9_longSign_58 (by decide) ?_
    refine lv_icmp_ne (tgt := 73) hx hb dX9_longSign_60 (by decide) (fun c2 => ?_) (fun c2 => ?_)
    ·
      replace hf := (if_neg c2).symm.trans hf
      exact j_X9_longSign_73 l dC dI Q N (CS.hs σ) R hx hb hr hml hown hts hlocks hZ hA hK σ x0 x1 _ _ _ hf h0 hC (lv_sub hl [0, 1] rfl)
    ·
      replace hf := (if_pos c2).symm.trans hf
      refine lv_iload_n hx hb dX9_longSign_63 rfl (lv_at hl 1 rfl) ?_
      refine lv_bipush (v := 62) hx hb dX9_longSign_64 (by decide) ?_
      refine lv_icmp_ne (tgt := 73) hx hb dX9_longSign_66 (by decide) (fun c7 => ?_) (fun c7 => ?_)
      ·
        replace hf := (if_neg c7).symm.trans hf
        exact j_X9_longSign_73 l dC dI Q N (CS.hs σ) R hx hb hr hml hown hts hlocks hZ hA hK σ x0 x1 _ _ _ hf h0 hC (lv_sub hl [0, 1] rfl)
      ·
        replace hf := (if_pos c7).symm.trans hf
        refine lv_sipush (v := 134) hx hb dX9_longSign_69 (by decide) ?_
        obtain rfl := Option.some.inj hf
        exact W.iret (v := 134) hx hb hr (fun t ht hW => ⟨⟨134, (), rfl, rfl, ⟨by rw [ht]; exact hC.1, va_K.moved hW.alike hK, hC.2.1⟩, by rw [ht]; exact hC.2.2.2⟩, hC.2.2.1.F ht⟩) hC.2.2.1.2.2 dX9_longSign_72
  ·
    replace hf := (if_pos c1).symm.trans hf
    refine lv_iload_n hx hb dX9_longSign_6 rfl (lv_at hl 0 rfl) ?_
    refine lv_bipush (v := 60) hx hb dX9_longSign_7 (by decide) ?_
    refine lv_icmp_ne (tgt := 18) hx hb dX9_longSign_9 (by decide) (fun c8 => ?_) (fun c8 => ?_)
    ·
      replace hf := (if_neg c8).symm.trans hf
      refine lv_iload_n hx hb dX9_longSign_18 rfl (lv_at hl 0 rfl) ?_
      refine lv_bipush (v := 62) hx hb dX9_longSign_19 (by decide) ?_
      refine lv_icmp_ne (tgt := 30) hx hb dX9_longSign_21 (by decide) (fun c9 => ?_) (fun c9 => ?_)
      ·
        replace hf := (if_neg c9).symm.trans hf
        refine lv_iload_n hx hb dX9_longSign_30 rfl (lv_at hl 0 rfl) ?_
        refine lv_bipush (v := 61) hx hb dX9_longSign_31 (by decide) ?_
        refine lv_icmp_ne (tgt := 42) hx hb dX9_longSign_33 (by decide) (fun c10 => ?_) (fun c10 => ?_)
        ·
          replace hf := (if_neg c10).symm.trans hf
          refine lv_iload_n hx hb dX9_longSign_42 rfl (lv_at hl 0 rfl) ?_
          refine lv_bipush (v := 33) hx hb dX9_longSign_43 (by decide) ?_
          refine lv_icmp_ne (tgt := 54) hx hb dX9_longSign_45 (by decide) (fun c11 => ?_) (fun c11 => ?_)
          ·
            replace hf := (if_neg c11).symm.trans hf
            refine lv_bipush (v := 6) hx hb dX9_longSign_54 (by decide) ?_
            obtain rfl := Option.some.inj hf
            exact W.iret (v := 6) hx hb hr (fun t ht hW => ⟨⟨6, (), rfl, rfl, ⟨by rw [ht]; exact hC.1, va_K.moved hW.alike hK, hC.2.1⟩, by rw [ht]; exact hC.2.2.2⟩, hC.2.2.1.F ht⟩) hC.2.2.1.2.2 dX9_longSign_56
          ·
            replace hf := (if_pos c11).symm.trans hf
            refine lv_sipush (v := 131) hx hb dX9_longSign_48 (by decide) ?_
            refine lv_goto (tgt := 56) hx hb dX9_longSign_51 (by decide) ?_
            obtain rfl := Option.some.inj hf
            exact W.iret (v := 131) hx hb hr (fun t ht hW => ⟨⟨131, (), rfl, rfl, ⟨by rw [ht]; exact hC.1, va_K.moved hW.alike hK, hC.2.1⟩, by rw [ht]; exact hC.2.2.2⟩, hC.2.2.1.F ht⟩) hC.2.2.1.2.2 dX9_longSign_56
        ·
          replace hf := (if_pos c10).symm.trans hf
          refine lv_sipush (v := 130) hx hb dX9_longSign_36 (by decide) ?_
          refine lv_goto (tgt := 56) hx hb dX9_longSign_39 (by decide) ?_
          obtain rfl := Option.some.inj hf
          exact W.iret (v := 130) hx hb hr (fun t ht hW => ⟨⟨130, (), rfl, rfl, ⟨by rw [ht]; exact hC.1, va_K.moved hW.alike hK, hC.2.1⟩, by rw [ht]; exact hC.2.2.2⟩, hC.2.2.1.F ht⟩) hC.2.2.1.2.2 dX9_longSign_56
      ·
        replace hf := (if_pos c9).symm.trans hf
        refine lv_sipush (v := 129) hx hb dX9_longSign_24 (by decide) ?_
        refine lv_goto (tgt := 56) hx hb dX9_longSign_27 (by decide) ?_
        obtain rfl := Option.some.inj hf
        exact W.iret (v := 129) hx hb hr (fun t ht hW => ⟨⟨129, (), rfl, rfl, ⟨by rw [ht]; exact hC.1, va_K.moved hW.alike hK, hC.2.1⟩, by rw [ht]; exact hC.2.2.2⟩, hC.2.2.1.F ht⟩) hC.2.2.1.2.2 dX9_longSign_56
    ·
      replace hf := (if_pos c8).symm.trans hf
      refine lv_sipush (v := 128) hx hb dX9_longSign_12 (by decide) ?_
      refine lv_goto (tgt := 56) hx hb dX9_longSign_15 (by decide) ?_
      obtain rfl := Option.some.inj hf
      exact W.iret (v := 128) hx hb hr (fun t ht hW => ⟨⟨128, (), rfl, rfl, ⟨by rw [ht]; exact hC.1, va_K.moved hW.alike hK, hC.2.1⟩, by rw [ht]; exact hC.2.2.2⟩, hC.2.2.1.F ht⟩) hC.2.2.1.2.2 dX9_longSign_56
