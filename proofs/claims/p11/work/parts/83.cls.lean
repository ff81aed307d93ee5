theorem k_X3_leaveBody_fieldLink_RX3_63_SR_Machine_openedCount_I : Cond.fieldLink RX3 63 "StatementRules2$Machine" "openedCount" "I" ∈ wzX3_leaveBody := List.mem_cons_of_mem _ (List.mem_append_left _ (List.mem_of_getElem? (i := 0) rfl))
theorem i_X3_leaveBody_X3 : ∀ w ∈ wsX30, w ∈ wzX3_leaveBody := fun _ h => List.mem_cons_of_mem _ (List.mem_append_right _ (List.mem_append_left _ (h)))
theorem i_X3_leaveBody_X2 : ∀ w ∈ wsX20, w ∈ wzX3_leaveBody := fun _ h => List.mem_cons_of_mem _ (List.mem_append_right _ (List.mem_append_right _ (List.mem_append_left _ (h))))
theorem k_X3_leaveBody_fieldLink_RX3_75_SR_Machine_way_I : Cond.fieldLink RX3 75 "StatementRules2$Machine" "way" "I" ∈ wzX3_leaveBody := List.mem_cons_of_mem _ (List.mem_append_left _ (List.mem_of_getElem? (i := 1) rfl))
theorem k_X3_leaveBody_fieldLink_RX3_81_SR_Machine_wayThrown_LSR_Thrown : Cond.fieldLink RX3 81 "StatementRules2$Machine" "wayThrown" "LStatementRules2$Thrown;" ∈ wzX3_leaveBody := List.mem_cons_of_mem _ (List.mem_append_left _ (List.mem_of_getElem? (i := 2) rfl))
theorem k_X3_leaveBody_fieldLink_RX3_30_SR_Machine_opened_I : Cond.fieldLink RX3 30 "StatementRules2$Machine" "opened" "[I" ∈ wzX3_leaveBody := List.mem_cons_of_mem _ (List.mem_append_left _ (List.mem_of_getElem? (i := 3) rfl))
theorem k_X3_leaveBody_initialized_RX11 : Cond.initialized RX11 ∈ wzX3_leaveBody := List.mem_cons_of_mem _ (List.mem_append_left _ (List.mem_of_getElem? (i := 4) rfl))
theorem k_X3_leaveBody_static_yX11_at : Cond.static yX11_at ∈ wzX3_leaveBody := List.mem_cons_of_mem _ (List.mem_append_left _ (List.mem_of_getElem? (i := 5) rfl))
set_option maxHeartbeats 4000000 in
set_option maxRecDepth 100000 in
theorem j_X3_leaveBody_7 {p : Program} {e : Env} {s : State} {m : MethodId} {args : Array Value} {below : List Frame} {meth : Method} {c : Code} {A : Nat → Prop} (l : Launch) (dC : Nat → ClassId) (dI : Nat → Nat → Nat) (Q : CQ) (N : Nat) (z9h : Nat) (R : Unit × CS) (hx : p.tables.exec = Jvm.exec) (hb : c.code = cX3_leaveBody) (hr : meth.sig.returnType = none) (hml : c.maxLocals = 3) (hown : s.vm.findClass RX3 = some m.cls) (hts : ∀ w ∈ wzX3_leaveBody, w.before args s = true) (hlocks : meth.locks = false) (hZ : zAMB s) (hA : ∀ q : Nat, s.heap.size ≤ q → A q) (hK : va_K (dC, dI) vwCl (cT Q) s) : ∀ (n9 : Nat), ∀ (σ : CS) (x1 : Nat) (x2 : Int32) (H : Heap) (locs : List Loc) (ls : Array Slot), f_X3_leaveBody_7 N n9 σ x1 x2 = some R → z9h ≤ CS.hs σ → CP dC dI Q A s.heap σ H locs → lv_has ls 3 [(0, .ref (Q.o 7)), (1, .ref x1), (2, .int x2)] → W p l e ({ frames := 5, cells := CS.hs R.2 - z9h, slots := 17 * (CS.hs R.2 - z9h), locals := 60 * 5 }) s m args below meth c H locs (CS.hs σ - z9h) (17 * (CS.hs σ - z9h)) (MQ below (va_Qv (fun (_ : Unit) => True) (fun (_ : Unit) (t : State) => zPost dC dI A (cW Q R.2) (cT Q) t ∧ t.heap.size = CS.hs R.2) A) args s (CS.hs R.2 - z9h) (17 * (CS.hs R.2 - z9h)) A) (F0 m 7 ls []) := by
  intro n9
  induction n9 with
  | zero => intro σ x1 x2 H locs ls hf; exact absurd hf (by intro q9; cases q9)
  | succ n9 ih =>
    intro σ x1 x2 H locs ls hf h0 hC hl
    replace hf : b_X3_leaveBody_7 N (f_X3_leaveBody_7 N n9) σ x1 x2 = some R := hf
    unfold b_X3_leaveBody_7 at hf
    have hMK := fun (σ : CS) (x1 : Nat) (x2 : Int32) => m_X3_leaveBody_7 N n9 σ x1 x2
    refine lv_iload_n hx hb dX3_leaveBody_7 rfl (lv_at hl 2 rfl) ?_
    refine lv_aload_n hx hb dX3_leaveBody_8 rfl (lv_at hl 1 rfl) ?_
    obtain ⟨b1, hf⟩ := hf_ite hf
    refine pGN_X2_3 (v := (CS.o σ x1 3)) hx hb hts i_X3_leaveBody_X2 hown hK hC (va_Nw.use rfl (hZ.1 (.fieldLinkNest RX3 201 "StatementRules2$Frame" "openedBefore" "I" "StatementRules2") (by decide +kernel))) (fun _ q9 => q9) dX3_leaveBody_9 b1 rfl ?_
    refine lv_icmp_lt (tgt := 33) hx hb dX3_leaveBody_12 (by decide) (fun c2 => ?_) (fun c2 => ?_)
    ·
      replace hf := (if_pos c2).symm.trans hf
      refine lv_aload_n hx hb dX3_leaveBody_33 rfl (lv_at hl 0 rfl) ?_
      refine lv_aload_n hx hb dX3_leaveBody_34 rfl (lv_at hl 1 rfl) ?_
      refine pGN_X2_3 (v := (CS.o σ x1 3)) hx hb hts i_X3_leaveBody_X2 hown hK hC (va_Nw.use rfl (hZ.1 (.fieldLinkNest RX3 201 "StatementRules2$Frame" "openedBefore" "I" "StatementRules2") (by decide +kernel))) (fun _ q9 => q9) dX3_leaveBody_35 b1 rfl ?_
      refine cP_68 (v := (CS.o σ x1 3)) hx hb hts i_X3_leaveBody_X3 hown hK hC (hts (.fieldLink RX3 63 "StatementRules2$Machine" "openedCount" "I") k_X3_leaveBody_fieldLink_RX3_63_SR_Machine_openedCount_I) (fun _ q9 => q9) dX3_leaveBody_38 (fun H locs hC => ?_)
      refine lv_aload_n hx hb dX3_leaveBody_41 rfl (lv_at hl 1 rfl) ?_
      refine lv_iconst (v := 2) hx hb dX3_leaveBody_42 (by decide) ?_
      refine pPN_X2_0 (v := 2) hx hb hts i_X3_leaveBody_X2 hown hK hC (va_Nw.use rfl (hZ.1 (.fieldLinkNest RX3 194 "StatementRules2$Frame" "phase" "I" "StatementRules2") (by decide +kernel))) (fun _ q9 => q9) dX3_leaveBody_43 b1 (fun H locs hC => ?_)
      refine lv_aload_n hx hb dX3_leaveBody_46 rfl (lv_at hl 0 rfl) ?_
      refine cG_73 (v := (σ.i 73)) hx hb hts i_X3_leaveBody_X3 hown hK hC (hts (.fieldLink RX3 75 "StatementRules2$Machine" "way" "I") k_X3_leaveBody_fieldLink_RX3_75_SR_Machine_way_I) (fun _ q9 => q9) dX3_leaveBody_47 rfl ?_
      refine lv_iconst (v := 4) hx hb dX3_leaveBody_50 (by decide) ?_
      refine lv_icmp_ne (tgt := 71) hx hb dX3_leaveBody_51 (by decide) (fun c3 => ?_) (fun c3 => ?_)
      ·
        replace hf := (if_neg c3).symm.trans hf
        obtain rfl := Option.some.inj hf
        exact W.vret hx hb hr (fun t ht hW => ⟨⟨(), rfl, trivial, ⟨by rw [ht]; exact hC.1, va_K.moved hW.alike hK, hC.2.1⟩, by rw [ht]; exact hC.2.2.2⟩, hC.2.2.1.F ht⟩) hC.2.2.1.2.2 dX3_leaveBody_71
      ·
        replace hf := (if_pos c3).symm.trans hf
        refine lv_aload_n hx hb dX3_leaveBody_54 rfl (lv_at hl 1 rfl) ?_
        refine lv_aload_n hx hb dX3_leaveBody_55 rfl (lv_at hl 0 rfl) ?_
        refine cG_76 (v := (CS.w (CS.setO (CS.setI σ 68 (CS.o σ x1 3)) x1 0 2))) hx hb hts i_X3_leaveBody_X3 hown hK hC (hts (.fieldLink RX3 81 "StatementRules2$Machine" "wayThrown" "LStatementRules2$Thrown;") k_X3_leaveBody_fieldLink_RX3_81_SR_Machine_wayThrown_LSR_Thrown) (fun _ q9 => q9) dX3_leaveBody_56 rfl ?_
        rcases hf_oc hf with ⟨q4, hf⟩ | ⟨a5, q4, hf⟩
        ·
          refine W.eq (congrArg (fun v9 => F0 m 59 ls (va_rf v9 :: [.ref x1])) q4) ?_
          refine W.eq (g2 := F0 m 59 ls (.null :: [.ref x1])) rfl ?_
          refine pPN_X2_4 (v := none) hx hb hts i_X3_leaveBody_X2 hown hK hC (va_Nw.use rfl (hZ.1 (.fieldLinkNest RX3 204 "StatementRules2$Frame" "thrown" "LStatementRules2$Thrown;" "StatementRules2") (by decide +kernel))) (fun _ q9 => q9) dX3_leaveBody_59 b1 (fun H locs hC => ?_)
          refine lv_aload_n hx hb dX3_leaveBody_62 rfl (lv_at hl 0 rfl) ?_
          refine lv_aload_n hx hb dX3_leaveBody_63 rfl (lv_at hl 1 rfl) ?_
          refine lv_aload_n hx hb dX3_leaveBody_64 rfl (lv_at hl 1 rfl) ?_
          refine pGN_X2_1 (v := (CS.o (CS.setOt (CS.setO (CS.setI σ 68 (CS.o σ x1 3)) x1 0 2) x1 none) x1 1)) hx hb hts i_X3_leaveBody_X2 hown hK hC (va_Nw.use rfl (hZ.1 (.fieldLinkNest RX3 197 "StatementRules2$Frame" "argument" "I" "StatementRules2") (by decide +kernel))) (fun _ q9 => q9) dX3_leaveBody_65 b1 rfl ?_
          obtain ⟨p6, hcp6, hf⟩ := hf_bind hf
          have mo7 : CS.hs σ ≤ CS.hs p6.2 := Mono.go hcp6 (m_X3_begin N (CS.setOt (CS.setO (CS.setI σ 68 (CS.o σ x1 3)) x1 0 2) x1 none) x1 (CS.o (CS.setOt (CS.setO (CS.setI σ 68 (CS.o σ x1 3)) x1 0 2) x1 none) x1 1))
          have hr9 : CS.hs p6.2 ≤ CS.hs R.2 := Mono.go hf (mono_some (Nat.le_refl _))
          have hFc := cFree hC hA
          refine va_callv (va_runV (As := [.ref x1, .int (CS.o (CS.setOt (CS.setO (CS.setI σ 68 (CS.o σ x1 3)) x1 0 2) x1 none) x1 1)]) (rest := []) ⟨hx, hb, hml, hown, hts⟩ (c_X3_begin l dC dI Q N (CS.setOt (CS.setO (CS.setI σ 68 (CS.o σ x1 3)) x1 0 2) x1 none) x1 (CS.o (CS.setOt (CS.setO (CS.setI σ 68 (CS.o σ x1 3)) x1 0 2) x1 none) x1 1) p6 hcp6) (cwV 2 hts hX3_leaveBody_X3_begin_v261 rfl rfl rfl (by decide +kernel) ⟨(show 2 + 1 ≤ 5 by omega), (show 8 + (3 + 11) + 60 * 2 ≤ 60 * 5 by omega)⟩) ⟨zPre.blind, va_recv hK hC.1 (ci := 2) (q0 := 7) rfl rfl, cPre_go hZ hK hC⟩ rfl rfl hl.1 rfl (lv_room (Nat.le_of_ble_eq_true rfl)) dX3_leaveBody_68 (cAcc h0 mo7 hr9)) hC.2.2.1 (fun q _ h => hFc q h) hFc (fun u9 t9 H1 locs ht hvm hw hB hz1 hk1 hS => ?_)
          obtain ⟨⟨hP, hK1, hD1⟩, hsz1⟩ := hB
          rw [ht] at hP hsz1
          have hC : CP dC dI Q A s.heap p6.2 H1 locs := ⟨hP, hD1.weaken (fun _ _ _ h => hFc _ h), hS, hsz1⟩
          generalize H1 = H at hC ⊢
          have h9 : z9h ≤ CS.hs p6.2 := Nat.le_trans h0 mo7
          refine W.widen (k := CS.hs p6.2 - z9h) (n := 17 * (CS.hs p6.2 - z9h)) (cAcc2 h0 mo7) (cAcc3 h0 mo7) ?_
          obtain rfl := Option.some.inj hf
          exact W.vret hx hb hr (fun t ht hW => ⟨⟨(), rfl, trivial, ⟨by rw [ht]; exact hC.1, va_K.moved hW.alike hK, hC.2.1⟩, by rw [ht]; exact hC.2.2.2⟩, hC.2.2.1.F ht⟩) hC.2.2.1.2.2 dX3_leaveBody_71
        ·
          refine W.eq (congrArg (fun v9 => F0 m 59 ls (va_rf v9 :: [.ref x1])) q4) ?_
          refine W.eq (g2 := F0 m 59 ls (.ref a5 :: [.ref x1])) rfl ?_
          refine pPN_X2_4 (v := (some a5)) hx hb hts i_X3_leaveBody_X2 hown hK hC (va_Nw.use rfl (hZ.1 (.fieldLinkNest RX3 204 "StatementRules2$Frame" "thrown" "LStatementRules2$Thrown;" "StatementRules2") (by decide +kernel))) (fun _ q9 => q9) dX3_leaveBody_59 b1 (fun H locs hC => ?_)
          refine lv_aload_n hx hb dX3_leaveBody_62 rfl (lv_at hl 0 rfl) ?_
          refine lv_aload_n hx hb dX3_leaveBody_63 rfl (lv_at hl 1 rfl) ?_
          refine lv_aload_n hx hb dX3_leaveBody_64 rfl (lv_at hl 1 rfl) ?_
          refine pGN_X2_1 (v := (CS.o (CS.setOt (CS.setO (CS.setI σ 68 (CS.o σ x1 3)) x1 0 2) x1 (some a5)) x1 1)) hx hb hts i_X3_leaveBody_X2 hown hK hC (va_Nw.use rfl (hZ.1 (.fieldLinkNest RX3 197 "StatementRules2$Frame" "argument" "I" "StatementRules2") (by decide +kernel))) (fun _ q9 => q9) dX3_leaveBody_65 b1 rfl ?_
          obtain ⟨p10, hcp10, hf⟩ := hf_bind hf
          have mo11 : CS.hs σ ≤ CS.hs p10.2 := Mono.go hcp10 (m_X3_begin N (CS.setOt (CS.setO (CS.setI σ 68 (CS.o σ x1 3)) x1 0 2) x1 (some a5)) x1 (CS.o (CS.setOt (CS.setO (CS.setI σ 68 (CS.o σ x1 3)) x1 0 2) x1 (some a5)) x1 1))
          have hr9 : CS.hs p10.2 ≤ CS.hs R.2 := Mono.go hf (mono_some (Nat.le_refl _))
          have hFc := cFree hC hA
          refine va_callv (va_runV (As := [.ref x1, .int (CS.o (CS.setOt (CS.setO (CS.setI σ 68 (CS.o σ x1 3)) x1 0 2) x1 (some a5)) x1 1)]) (rest := []) ⟨hx, hb, hml, hown, hts⟩ (c_X3_begin l dC dI Q N (CS.setOt (CS.setO (CS.setI σ 68 (CS.o σ x1 3)) x1 0 2) x1 (some a5)) x1 (CS.o (CS.setOt (CS.setO (CS.setI σ 68 (CS.o σ x1 3)) x1 0 2) x1 (some a5)) x1 1) p10 hcp10) (cwV 2 hts hX3_leaveBody_X3_begin_v261 rfl rfl rfl (by decide +kernel) ⟨(show 2 + 1 ≤ 5 by omega), (show 8 + (3 + 11) + 60 * 2 ≤ 60 * 5 by omega)⟩) ⟨zPre.blind, va_recv hK hC.1 (ci := 2) (q0 := 7) rfl rfl, cPre_go hZ hK hC⟩ rfl rfl hl.1 rfl (lv_room (Nat.le_of_ble_eq_true rfl)) dX3_leaveBody_68 (cAcc h0 mo11 hr9)) hC.2.2.1 (fun q _ h => hFc q h) hFc (fun u9 t9 H1 locs ht hvm hw hB hz1 hk1 hS => ?_)
          obtain ⟨⟨hP, hK1, hD1⟩, hsz1⟩ := hB
          rw [ht] at hP hsz1
          have hC : CP dC dI Q A s.heap p10.2 H1 locs := ⟨hP, hD1.weaken (fun _ _ _ h => hFc _ h), hS, hsz1⟩
          generalize H1 = H at hC ⊢
          have h13 : z9h ≤ CS.hs p10.2 := Nat.le_trans h0 mo11
          refine W.widen (k := CS.hs p10.2 - z9h) (n := 17 * (CS.hs p10.2 - z9h)) (cAcc2 h0 mo11) (cAcc3 h0 mo11) ?_
          obtain rfl := Option.some.inj hf
          exact W.vret hx hb hr (fun t ht hW => ⟨⟨(), rfl, trivial, ⟨by rw [ht]; exact hC.1, va_K.moved hW.alike hK, hC.2.1⟩, by rw [ht]; exact hC.2.2.2⟩, hC.2.2.1.F ht⟩) hC.2.2.1.2.2 dX3_leaveBody_71
    ·
      replace hf := (if_neg c2).symm.trans hf
      refine lv_aload_n hx hb dX3_leaveBody_15 rfl (lv_at hl 0 rfl) ?_
      refine lv_aload_n hx hb dX3_leaveBody_16 rfl (lv_at hl 0 rfl) ?_
      refine cG_63 hx hb hts i_X3_leaveBody_X3 hown hK hC (hts (.fieldLink RX3 30 "StatementRules2$Machine" "opened" "[I") k_X3_leaveBody_fieldLink_RX3_30_SR_Machine_opened_I) (fun _ q9 => q9) dX3_leaveBody_17 ?_
      refine lv_iload_n hx hb dX3_leaveBody_20 rfl (lv_at hl 2 rfl) ?_
      have he9 := (cArr_63 (Q := Q) (σ := σ))
      have hFc := cFree1 hC hA he9
      have hr9 : CS.hs σ ≤ CS.hs R.2 := Mono.go hf (mono_bind (m_X3_closeOne N σ (gAt (σ.a 63) 320 x2)) (fun p15 => (hMK p15.2 x1 (x2 + (-1)))))
      refine va_calli (va_runSN (As := [.ref (Q.q 63), .int x2]) (rest := [.ref (Q.o 7)]) ⟨hx, hb, hml, hown, hts⟩ (c_X11_at l dC dI _ (Q.q 63) (Q.c 0) 320 (σ.a 63) x2 (by decide)) ⟨va_cnB 2 hts hX3_leaveBody_X11_at_n111 rfl rfl rfl (hZ.1 (.methodLinkNest RX3 111 yX11_at "StatementRules2") (by decide +kernel)) (hts (.initialized RX11) k_X3_leaveBody_initialized_RX11) (by decide +kernel) ⟨(show 1 + 1 ≤ 5 by omega), (show 8 + (2 + 11) + 60 * 1 ≤ 60 * 5 by omega)⟩, (hts (.static yX11_at) k_X3_leaveBody_static_yX11_at), trivial⟩ ⟨zPre.blind, zPre.go hZ (cOne hC.1 he9) (hK.sub (tys' := [(Q.c 0, .int)]) [0] rfl) (cOneD hC.2.1 he9)⟩ rfl rfl hl.1 rfl (lv_room (Nat.le_of_ble_eq_true rfl)) dX3_leaveBody_21 ⟨cAcc4 h0 hr9, cAcc5 h0 hr9⟩) hC.2.2.1 (fun q _ h => hFc q h) hFc (fun r14 u9 t9 H1 locs ht hvm hw hB hz1 hk1 hS => ?_)
      obtain ⟨⟨hP1, hK1, hD1⟩, hsz1⟩ := hB
      rw [ht] at hP1 hsz1
      have hC := cBack (σ' := σ) hC he9 (cSelf he9) (Eq.refl (CS.hs σ)) hk1 hP1 hsz1 hS
      generalize H1 = H at hC ⊢
      obtain rfl : r14 = (gAt (σ.a 63) 320 x2) := hw
      obtain ⟨p15, hcp15, hf⟩ := hf_bind hf
      have mo16 : CS.hs σ ≤ CS.hs p15.2 := Mono.go hcp15 (m_X3_closeOne N σ (gAt (σ.a 63) 320 x2))
      have hr9 : CS.hs p15.2 ≤ CS.hs R.2 := Mono.go hf (hMK p15.2 x1 (x2 + (-1)))
      have hFc := cFree hC hA
      refine va_callv (va_runV (As := [.int (gAt (σ.a 63) 320 x2)]) (rest := []) ⟨hx, hb, hml, hown, hts⟩ (c_X3_closeOne l dC dI Q N σ (gAt (σ.a 63) 320 x2) p15 hcp15) (cwV 1 hts hX3_leaveBody_X3_closeOne_v258 rfl rfl rfl (by decide +kernel) ⟨(show 4 + 1 ≤ 5 by omega), (show 8 + (3 + 11) + 60 * 4 ≤ 60 * 5 by omega)⟩) ⟨zPre.blind, va_recv hK hC.1 (ci := 2) (q0 := 7) rfl rfl, cPre_go hZ hK hC⟩ rfl rfl hl.1 rfl (lv_room (Nat.le_of_ble_eq_true rfl)) dX3_leaveBody_24 (cAcc h0 mo16 hr9)) hC.2.2.1 (fun q _ h => hFc q h) hFc (fun u9 t9 H1 locs ht hvm hw hB hz1 hk1 hS => ?_)
      obtain ⟨⟨hP, hK1, hD1⟩, hsz1⟩ := hB
      rw [ht] at hP hsz1
      have hC : CP dC dI Q A s.heap p15.2 H1 locs := ⟨hP, hD1.weaken (fun _ _ _ h => hFc _ h), hS, hsz1⟩
      generalize H1 = H at hC ⊢
      have h18 : z9h ≤ CS.hs p15.2 := Nat.le_trans h0 mo16
      refine W.widen (k := CS.hs p15.2 - z9h) (n := 17 * (CS.hs p15.2 - z9h)) (cAcc2 h0 mo16) (cAcc3 h0 mo16) ?_
      refine lv_iinc (v := (x2 + (-1))) (lv' := [(2, .int (x2 + (-1))), (0, .ref (Q.o 7)), (1, .ref x1)]) hx hb dX3_leaveBody_27 hl (k := 2) rfl rfl (by decide) rfl (fun ls hl => ?_)
      refine lv_goto (tgt := 7) hx hb dX3_leaveBody_30 (by decide) ?_
      exact ih p15.2 x1 (x2 + (-1)) _ _ _ hf h18 hC (lv_sub hl [1, 2, 0] rfl)
set_option maxHeartbeats 4000000 in
set_option maxRecDepth 100000 in
theorem c_X3_leaveBody (l : Launch) (dC : Nat → ClassId) (dI : Nat → Nat → Nat) (Q : CQ) (N : Nat) (σ : CS) (x1 : Nat) (R : Unit × CS) (hf : f_X3_leaveBody N σ x1 = some R) : Met l yX3_leaveBody wzX3_leaveBody ({ frames := 5, cells := CS.hs R.2 - CS.hs σ, slots := 17 * (CS.hs R.2 - CS.hs σ), locals := 60 * 5 }) (va_Pc [.ref (Q.o 7), .ref x1] (zPre dC dI (CS.hs σ) (cW Q σ) (cT Q))) (va_Qv (fun (_ : Unit) => True) (fun (_ : Unit) (t : State) => zPost dC dI (va_A (cW Q σ) (CS.hs σ)) (cW Q R.2) (cT Q) t ∧ t.heap.size = CS.hs R.2) (va_A (cW Q σ) (CS.hs σ))) (CS.hs R.2 - CS.hs σ) (17 * (CS.hs R.2 - CS.hs σ)) (va_A (cW Q σ) (CS.hs σ)) := by
  refine Met.ofW (cc := cX3_leaveBody) (maxL := 3) (ret := none) (by decide) rfl ?_
  intro p e s m args below meth c s₁ B hml hv
  obtain ⟨rfl, hsz, hZ, hP, hK, hD0⟩ := hv
  have hx := B.exec
  have hb := B.bytes
  have hr := B.returns
  have hts := atoms_spec (ws := wzX3_leaveBody) B.pre
  have hown : s.vm.findClass RX3 = some m.cls := findClass_of_methodNamed B.named
  have hlocks := B.notSynchronized
  have hD := hD0.self (sz := CS.hs σ)
  generalize hAe : va_A (cW Q σ) (CS.hs σ) = A at hD ⊢
  have hA : ∀ q : Nat, s.heap.size ≤ q → A q := fun q h => by rw [← hAe]; exact Or.inr (hsz ▸ h)
  have hC : CP dC dI Q A s.heap σ s.heap [] := ⟨hP, hD, va_S.rf, hsz⟩
  have h0 : CS.hs σ ≤ CS.hs σ := Nat.le_refl _
  have hl := lv_entry ([.ref (Q.o 7), .ref x1]) (n := 3) (Nat.le_of_ble_eq_true rfl)
  rw [lg_entry_eq]
  generalize (lg_sl ([.ref (Q.o 7), .ref x1]) ++ List.replicate (3 - (lg_sl ([.ref (Q.o 7), .ref x1])).length) Slot.unset).toArray = ls at hl ⊢
  have hl : lv_has ls 3 [(0, .ref (Q.o 7)), (1, .ref x1)] := hl
  unfold f_X3_leaveBody at hf
  refine W.widen (k := CS.hs σ - CS.hs σ) (n := 17 * (CS.hs σ - CS.hs σ)) (Nat.zero_le _) (Nat.zero_le _) ?_
  refine lv_aload_n hx hb dX3_leaveBody_0 rfl (lv_at hl 0 rfl) ?_
  refine cG_68 (v := (σ.i 68)) hx hb hts i_X3_leaveBody_X3 hown hK hC (hts (.fieldLink RX3 63 "StatementRules2$Machine" "openedCount" "I") k_X3_leaveBody_fieldLink_RX3_63_SR_Machine_openedCount_I) (fun _ q9 => q9) dX3_leaveBody_1 rfl ?_
  refine lv_iconst (v := 1) hx hb dX3_leaveBody_4 (by decide) ?_
  refine lv_isub hx hb dX3_leaveBody_5 ?_
  refine lv_istore_n (lv' := [(2, .int ((σ.i 68) - 1)), (0, .ref (Q.o 7)), (1, .ref x1)]) hx hb dX3_leaveBody_6 rfl hl (by decide) rfl (fun ls hl => ?_)
  exact j_X3_leaveBody_7 l dC dI Q N (CS.hs σ) R hx hb hr hml hown hts hlocks hZ hA hK N σ x1 ((σ.i 68) - 1) _ _ _ hf h0 hC (lv_sub hl [1, 2, 0] rfl)
theorem i_X3_enterFinally_X2 : ∀ w ∈ wsX20, w ∈ wzX3_enterFinally := fun _ h => List.mem_cons_of_mem _ (List.mem_append_right _ (List.mem_append_left _ (h)))
theorem k_X3_enterFinally_fieldLink_RX3_81_SR_Machine_wayThrown_LSR_Thrown : Cond.fieldLink RX3 81 "StatementRules2$Machine" "wayThrown" "LStatementRules2$Thrown;" ∈ wzX3_enterFinally := List.mem_cons_of_mem _ (List.mem_append_left _ (List.mem_of_getElem? (i := 0) rfl))
theorem i_X3_enterFinally_X3 : ∀ w ∈ wsX30, w ∈ wzX3_enterFinally := fun _ h => List.mem_cons_of_mem _ (List.mem_append_right _ (List.mem_append_right _ (List.mem_append_left _ (h))))
theorem k_X3_enterFinally_fieldLink_RX3_75_SR_Machine_way_I : Cond.fieldLink RX3 75 "StatementRules2$Machine" "way" "I" ∈ wzX3_enterFinally := List.mem_cons_of_mem _ (List.mem_append_left _ (List.mem_of_getElem? (i := 1) rfl))
theorem k_X3_enterFinally_fieldLink_RX3_78_SR_Machine_wayValue_I : Cond.fieldLink RX3 78 "StatementRules2$Machine" "wayValue" "I" ∈ wzX3_enterFinally := List.mem_cons_of_mem _ (List.mem_append_left _ (List.mem_of_getElem? (i := 2) rfl))
theorem k_X3_enterFinally_fieldLink_RX3_235_SR_Machine_wayTarget_I : Cond.fieldLink RX3 235 "StatementRules2$Machine" "wayTarget" "I" ∈ wzX3_enterFinally := List.mem_cons_of_mem _ (List.mem_append_left _ (List.mem_of_getElem? (i := 3) rfl))
set_option maxHeartbeats 4000000 in
set_option maxRecDepth 100000 in
theorem c_X3_enterFinally (l : Launch) (dC : Nat → ClassId) (dI : Nat → Nat → Nat) (Q : CQ) (N : Nat) (σ : CS) (x1 : Nat) (R : Unit × CS) (hf : f_X3_enterFinally N σ x1 = some R) : Met l yX3_enterFinally wzX3_enterFinally ({ frames := 3, cells := CS.hs R.2 - CS.hs σ, slots := 17 * (CS.hs R.2 - CS.hs σ), locals := 60 * 3 }) (va_Pc [.ref (Q.o 7), .ref x1] (zPre dC dI (CS.hs σ) (cW Q σ) (cT Q))) (va_Qv (fun (_ : Unit) => True) (fun (_ : Unit) (t : State) => zPost dC dI (va_A (cW Q σ) (CS.hs σ)) (cW Q R.2) (cT Q) t ∧ t.heap.size = CS.hs R.2) (va_A (cW Q σ) (CS.hs σ))) (CS.hs R.2 - CS.hs σ) (17 * (CS.hs R.2 - CS.hs σ)) (va_A (cW Q σ) (CS.hs σ)) := by
  refine Met.ofW (cc := cX3_enterFinally) (maxL := 2) (ret := none) (by decide) rfl ?_
  intro p e s m args below meth c s₁ B hml hv
  obtain ⟨rfl, hsz, hZ, hP, hK, hD0⟩ := hv
  have hx := B.exec
  have hb := B.bytes
  have hr := B.returns
  have hts := atoms_spec (ws := wzX3_enterFinally) B.pre
  have hown : s.vm.findClass RX3 = some m.cls := findClass_of_methodNamed B.named
  have hlocks := B.notSynchronized
  have hD := hD0.self (sz := CS.hs σ)
  generalize hAe : va_A (cW Q σ) (CS.hs σ) = A at hD ⊢
  have hA : ∀ q : Nat, s.heap.size ≤ q → A q := fun q h => by rw [← hAe]; exact Or.inr (hsz ▸ h)
  have hC : CP dC dI Q A s.heap σ s.heap [] := ⟨hP, hD, va_S.rf, hsz⟩
  have h0 : CS.hs σ ≤ CS.hs σ := Nat.le_refl _
  have hl := lv_entry ([.ref (Q.o 7), .ref x1]) (n := 2) (Nat.le_of_ble_eq_true rfl)
  rw [lg_entry_eq]
  generalize (lg_sl ([.ref (Q.o 7), .ref x1]) ++ List.replicate (2 - (lg_sl ([.ref (Q.o 7), .ref x1])).length) Slot.unset).toArray = ls at hl ⊢
  have hl : lv_has ls 2 [(0, .ref (Q.o 7)), (1, .ref x1)] := hl
  unfold f_X3_enterFinally at hf
  refine W.widen (k := CS.hs σ - CS.hs σ) (n := 17 * (CS.hs σ - CS.hs σ)) (Nat.zero_le _) (Nat.zero_le _) ?_
  refine lv_aload_n hx hb dX3_enterFinally_0 rfl (lv_at hl 1 rfl) ?_
  refine lv_iconst (v := 3) hx hb dX3_enterFinally_1 (by decide) ?_
  obtain ⟨b1, hf⟩ := hf_ite hf
  refine pPN_X2_0 (v := 3) hx hb hts i_X3_enterFinally_X2 hown hK hC (va_Nw.use rfl (hZ.1 (.fieldLinkNest RX3 194 "StatementRules2$Frame" "phase" "I" "StatementRules2") (by decide +kernel))) (fun _ q9 => q9) dX3_enterFinally_2 b1 (fun H locs hC => ?_)
  refine lv_aload_n hx hb dX3_enterFinally_5 rfl (lv_at hl 1 rfl) ?_
  refine lv_aload_n hx hb dX3_enterFinally_6 rfl (lv_at hl 0 rfl) ?_
  refine cG_76 (v := (CS.w (CS.setO σ x1 0 3))) hx hb hts i_X3_enterFinally_X3 hown hK hC (hts (.fieldLink RX3 81 "StatementRules2$Machine" "wayThrown" "LStatementRules2$Thrown;") k_X3_enterFinally_fieldLink_RX3_81_SR_Machine_wayThrown_LSR_Thrown) (fun _ q9 => q9) dX3_enterFinally_7 rfl ?_
  rcases hf_oc hf with ⟨q2, hf⟩ | ⟨a3, q2, hf⟩
  ·
    refine W.eq (congrArg (fun v9 => F0 m 10 ls (va_rf v9 :: [.ref x1])) q2) ?_
    refine W.eq (g2 := F0 m 10 ls (.null :: [.ref x1])) rfl ?_
    refine pPN_X2_4 (v := none) hx hb hts i_X3_enterFinally_X2 hown hK hC (va_Nw.use rfl (hZ.1 (.fieldLinkNest RX3 204 "StatementRules2$Frame" "thrown" "LStatementRules2$Thrown;" "StatementRules2") (by decide +kernel))) (fun _ q9 => q9) dX3_enterFinally_10 b1 (fun H locs hC => ?_)
    refine lv_aload_n hx hb dX3_enterFinally_13 rfl (lv_at hl 1 rfl) ?_
    refine lv_aload_n hx hb dX3_enterFinally_14 rfl (lv_at hl 0 rfl) ?_
    refine cG_73 (v := (σ.i 73)) hx hb hts i_X3_enterFinally_X3 hown hK hC (hts (.fieldLink RX3 75 "StatementRules2$Machine" "way" "I") k_X3_enterFinally_fieldLink_RX3_75_SR_Machine_way_I) (fun _ q9 => q9) dX3_enterFinally_15 rfl ?_
    refine pPN_X2_5 (v := (σ.i 73)) hx hb hts i_X3_enterFinally_X2 hown hK hC (va_Nw.use rfl (hZ.1 (.fieldLinkNest RX3 246 "StatementRules2$Frame" "way" "I" "StatementRules2") (by decide +kernel))) (fun _ q9 => q9) dX3_enterFinally_18 b1 (fun H locs hC => ?_)
    refine lv_aload_n hx hb dX3_enterFinally_21 rfl (lv_at hl 1 rfl) ?_
    refine lv_aload_n hx hb dX3_enterFinally_22 rfl (lv_at hl 0 rfl) ?_
    refine cG_74 (v := (σ.i 74)) hx hb hts i_X3_enterFinally_X3 hown hK hC (hts (.fieldLink RX3 78 "StatementRules2$Machine" "wayValue" "I") k_X3_enterFinally_fieldLink_RX3_78_SR_Machine_wayValue_I) (fun _ q9 => q9) dX3_enterFinally_23 rfl ?_
    refine pPN_X2_6 (v := (σ.i 74)) hx hb hts i_X3_enterFinally_X2 hown hK hC (va_Nw.use rfl (hZ.1 (.fieldLinkNest RX3 247 "StatementRules2$Frame" "wayValue" "I" "StatementRules2") (by decide +kernel))) (fun _ q9 => q9) dX3_enterFinally_26 b1 (fun H locs hC => ?_)
    refine lv_aload_n hx hb dX3_enterFinally_29 rfl (lv_at hl 1 rfl) ?_
    refine lv_aload_n hx hb dX3_enterFinally_30 rfl (lv_at hl 0 rfl) ?_
    refine cG_75 (v := (σ.i 75)) hx hb hts i_X3_enterFinally_X3 hown hK hC (hts (.fieldLink RX3 235 "StatementRules2$Machine" "wayTarget" "I") k_X3_enterFinally_fieldLink_RX3_235_SR_Machine_wayTarget_I) (fun _ q9 => q9) dX3_enterFinally_31 rfl ?_
    refine pPN_X2_7 (v := (σ.i 75)) hx hb hts i_X3_enterFinally_X2 hown hK hC (va_Nw.use rfl (hZ.1 (.fieldLinkNest RX3 248 "StatementRules2$Frame" "wayTarget" "I" "StatementRules2") (by decide +kernel))) (fun _ q9 => q9) dX3_enterFinally_34 b1 (fun H locs hC => ?_)
    refine lv_aload_n hx hb dX3_enterFinally_37 rfl (lv_at hl 0 rfl) ?_
    refine lv_aload_n hx hb dX3_enterFinally_38 rfl (lv_at hl 1 rfl) ?_
    refine lv_aload_n hx hb dX3_enterFinally_39 rfl (lv_at hl 1 rfl) ?_
    refine pGN_X2_1 (v := (CS.o (CS.setO (CS.setO (CS.setO (CS.setOt (CS.setO σ x1 0 3) x1 none) x1 5 (σ.i 73)) x1 6 (σ.i 74)) x1 7 (σ.i 75)) x1 1)) hx hb hts i_X3_enterFinally_X2 hown hK hC (va_Nw.use rfl (hZ.1 (.fieldLinkNest RX3 197 "StatementRules2$Frame" "argument" "I" "StatementRules2") (by decide +kernel))) (fun _ q9 => q9) dX3_enterFinally_40 b1 rfl ?_
    refine lv_iconst (v := 1) hx hb dX3_enterFinally_43 (by decide) ?_
    refine lv_iadd hx hb dX3_enterFinally_44 ?_
    obtain ⟨p4, hcp4, hf⟩ := hf_bind hf
    have mo5 : CS.hs σ ≤ CS.hs p4.2 := Mono.go hcp4 (m_X3_begin N (CS.setO (CS.setO (CS.setO (CS.setOt (CS.setO σ x1 0 3) x1 none) x1 5 (σ.i 73)) x1 6 (σ.i 74)) x1 7 (σ.i 75)) x1 ((CS.o (CS.setO (CS.setO (CS.setO (CS.setOt (CS.setO σ x1 0 3) x1 none) x1 5 (σ.i 73)) x1 6 (σ.i 74)) x1 7 (σ.i 75)) x1 1) + 1))
    have hr9 : CS.hs p4.2 ≤ CS.hs R.2 := Mono.go hf (mono_some (Nat.le_refl _))
    have hFc := cFree hC hA
    refine va_callv (va_runV (As := [.ref x1, .int ((CS.o (CS.setO (CS.setO (CS.setO (CS.setOt (CS.setO σ x1 0 3) x1 none) x1 5 (σ.i 73)) x1 6 (σ.i 74)) x1 7 (σ.i 75)) x1 1) + 1)]) (rest := []) ⟨hx, hb, hml, hown, hts⟩ (c_X3_begin l dC dI Q N (CS.setO (CS.setO (CS.setO (CS.setOt (CS.setO σ x1 0 3) x1 none) x1 5 (σ.i 73)) x1 6 (σ.i 74)) x1 7 (σ.i 75)) x1 ((CS.o (CS.setO (CS.setO (CS.setO (CS.setOt (CS.setO σ x1 0 3) x1 none) x1 5 (σ.i 73)) x1 6 (σ.i 74)) x1 7 (σ.i 75)) x1 1) + 1) p4 hcp4) (cwV 2 hts hX3_enterFinally_X3_begin_v261 rfl rfl rfl (by decide +kernel) ⟨(show 2 + 1 ≤ 3 by omega), (show 8 + (3 + 11) + 60 * 2 ≤ 60 * 3 by omega)⟩) ⟨zPre.blind, va_recv hK hC.1 (ci := 2) (q0 := 7) rfl rfl, cPre_go hZ hK hC⟩ rfl rfl hl.1 rfl (lv_room (Nat.le_of_ble_eq_true rfl)) dX3_enterFinally_45 (cAcc h0 mo5 hr9)) hC.2.2.1 (fun q _ h => hFc q h) hFc (fun u9 t9 H1 locs ht hvm hw hB hz1 hk1 hS => ?_)
    obtain ⟨⟨hP, hK1, hD1⟩, hsz1⟩ := hB
    rw [ht] at hP hsz1
    have hC : CP dC dI Q A s.heap p4.2 H1 locs := ⟨hP, hD1.weaken (fun _ _ _ h => hFc _ h), hS, hsz1⟩
    generalize H1 = H at hC ⊢
    have h7 : (CS.hs σ) ≤ CS.hs p4.2 := Nat.le_trans h0 mo5
    refine W.widen (k := CS.hs p4.2 - (CS.hs σ)) (n := 17 * (CS.hs p4.2 - (CS.hs σ))) (cAcc2 h0 mo5) (cAcc3 h0 mo5) ?_
    obtain rfl := Option.some.inj hf
    exact W.vret hx hb hr (fun t ht hW => ⟨⟨(), rfl, trivial, ⟨by rw [ht]; exact hC.1, va_K.moved hW.alike hK, hC.2.1⟩, by rw [ht]; exact hC.2.2.2⟩, hC.2.2.1.F ht⟩) hC.2.2.1.2.2 dX3_enterFinally_48
  ·
    refine W.eq (congrArg (fun v9 => F0 m 10 ls (va_rf v9 :: [.ref x1])) q2) ?_
    refine W.eq (g2 := F0 m 10 ls (.ref a3 :: [.ref x1])) rfl ?_
    refine pPN_X2_4 (v := (some a3)) hx hb hts i_X3_enterFinally_X2 hown hK hC (va_Nw.use rfl (hZ.1 (.fieldLinkNest RX3 204 "StatementRules2$Frame" "thrown" "LStatementRules2$Thrown;" "StatementRules2") (by decide +kernel))) (fun _ q9 => q9) dX3_enterFinally_10 b1 (fun H locs hC => ?_)
    refine lv_aload_n hx hb dX3_enterFinally_13 rfl (lv_at hl 1 rfl) ?_
    refine lv_aload_n hx hb dX3_enterFinally_14 rfl (lv_at hl 0 rfl) ?_
    refine cG_73 (v := (σ.i 73)) hx hb hts i_X3_enterFinally_X3 hown hK hC (hts (.fieldLink RX3 75 "StatementRules2$Machine" "way" "I") k_X3_enterFinally_fieldLink_RX3_75_SR_Machine_way_I) (fun _ q9 => q9) dX3_enterFinally_15 rfl ?_
    refine pPN_X2_5 (v := (σ.i 73)) hx hb hts i_X3_enterFinally_X2 hown hK hC (va_Nw.use rfl (hZ.1 (.fieldLinkNest RX3 246 "StatementRules2$Frame" "way" "I" "StatementRules2") (by decide +kernel))) (fun _ q9 => q9) dX3_enterFinally_18 b1 (fun H locs hC => ?_)
    refine lv_aload_n hx hb dX3_enterFinally_21 rfl (lv_at hl 1 rfl) ?_
    refine lv_aload_n hx hb dX3_enterFinally_22 rfl (lv_at hl 0 rfl) ?_
    refine cG_74 (v := (σ.i 74)) hx hb hts i_X3_enterFinally_X3 hown hK hC (hts (.fieldLink RX3 78 "StatementRules2$Machine" "wayValue" "I") k_X3_enterFinally_fieldLink_RX3_78_SR_Machine_wayValue_I) (fun _ q9 => q9) dX3_enterFinally_23 rfl ?_
    refine pPN_X2_6 (v := (σ.i 74)) hx hb hts i_X3_enterFinally_X2 hown hK hC (va_Nw.use rfl (hZ.1 (.fieldLinkNest RX3 247 "StatementRules2$Frame" "wayValue" "I" "StatementRules2") (by decide +kernel))) (fun _ q9 => q9) dX3_enterFinally_26 b1 (fun H locs hC => ?_)
    refine lv_aload_n hx hb dX3_enterFinally_29 rfl (lv_at hl 1 rfl) ?_
    refine lv_aload_n hx hb dX3_enterFinally_30 rfl (lv_at hl 0 rfl) ?_
    refine cG_75 (v := (σ.i 75)) hx hb hts i_X3_enterFinally_X3 hown hK hC (hts (.fieldLink RX3 235 "StatementRules2$Machine" "wayTarget" "I") k_X3_enterFinally_fieldLink_RX3_235_SR_Machine_wayTarget_I) (fun _ q9 => q9) dX3_enterFinally_31 rfl ?_
    refine pPN_X2_7 (v := (σ.i 75)) hx hb hts i_X3_enterFinally_X2 hown hK hC (va_Nw.use rfl (hZ.1 (.fieldLinkNest RX3 248 "StatementRules2$Frame" "wayTarget" "I" "StatementRules2") (by decide +kernel))) (fun _ q9 => q9) dX3_enterFinally_34 b1 (fun H locs hC => ?_)
    refine lv_aload_n hx hb dX3_enterFinally_37 rfl (lv_at hl 0 rfl) ?_
    refine lv_aload_n hx hb dX3_enterFinally_38 rfl (lv_at hl 1 rfl) ?_
    refine lv_aload_n hx hb dX3_enterFinally_39 rfl (lv_at hl 1 rfl) ?_
    refine pGN_X2_1 (v := (CS.o (CS.setO (CS.setO (CS.setO (CS.setOt (CS.setO σ x1 0 3) x1 (some a3)) x1 5 (σ.i 73)) x1 6 (σ.i 74)) x1 7 (σ.i 75)) x1 1)) hx hb hts i_X3_enterFinally_X2 hown hK hC (va_Nw.use rfl (hZ.1 (.fieldLinkNest RX3 197 "StatementRules2$Frame" "argument" "I" "StatementRules2") (by decide +kernel))) (fun _ q9 => q9) dX3_enterFinally_40 b1 rfl ?_
    refine lv_iconst (v := 1) hx hb dX3_enterFinally_43 (by decide) ?_
    refine lv_iadd hx hb dX3_enterFinally_44 ?_
    obtain ⟨p8, hcp8, hf⟩ := hf_bind hf
    have mo9 : CS.hs σ ≤ CS.hs p8.2 := Mono.go hcp8 (m_X3_begin N (CS.setO (CS.setO (CS.setO (CS.setOt (CS.setO σ x1 0 3) x1 (some a3)) x1 5 (σ.i 73)) x1 6 (σ.i 74)) x1 7 (σ.i 75)) x1 ((CS.o (CS.setO (CS.setO (CS.setO (CS.setOt (CS.setO σ x1 0 3) x1 (some a3)) x1 5 (σ.i 73)) x1 6 (σ.i 74)) x1 7 (σ.i 75)) x1 1) + 1))
    have hr9 : CS.hs p8.2 ≤ CS.hs R.2 := Mono.go hf (mono_some (Nat.le_refl _))
    have hFc := cFree hC hA
    refine va_callv (va_runV (As := [.ref x1, .int ((CS.o (CS.setO (CS.setO (CS.setO (CS.setOt (CS.setO σ x1 0 3) x1 (some a3)) x1 5 (σ.i 73)) x1 6 (σ.i 74)) x1 7 (σ.i 75)) x1 1) + 1)]) (rest := []) ⟨hx, hb, hml, hown, hts⟩ (c_X3_begin l dC dI Q N (CS.setO (CS.setO (CS.setO (CS.setOt (CS.setO σ x1 0 3) x1 (some a3)) x1 5 (σ.i 73)) x1 6 (σ.i 74)) x1 7 (σ.i 75)) x1 ((CS.o (CS.setO (CS.setO (CS.setO (CS.setOt (CS.setO σ x1 0 3) x1 (some a3)) x1 5 (σ.i 73)) x1 6 (σ.i 74)) x1 7 (σ.i 75)) x1 1) + 1) p8 hcp8) (cwV 2 hts hX3_enterFinally_X3_begin_v261 rfl rfl rfl (by decide +kernel) ⟨(show 2 + 1 ≤ 3 by omega), (show 8 + (3 + 11) + 60 * 2 ≤ 60 * 3 by omega)⟩) ⟨zPre.blind, va_recv hK hC.1 (ci := 2) (q0 := 7) rfl rfl, cPre_go hZ hK hC⟩ rfl rfl hl.1 rfl (lv_room (Nat.le_of_ble_eq_true rfl)) dX3_enterFinally_45 (cAcc h0 mo9 hr9)) hC.2.2.1 (fun q _ h => hFc q h) hFc (fun u9 t9 H1 locs ht hvm hw hB hz1 hk1 hS => ?_)
    obtain ⟨⟨hP, hK1, hD1⟩, hsz1⟩ := hB
    rw [ht] at hP hsz1
    have hC : CP dC dI Q A s.heap p8.2 H1 locs := ⟨hP, hD1.weaken (fun _ _ _ h => hFc _ h), hS, hsz1⟩
    generalize H1 = H at hC ⊢
    have h11 : (CS.hs σ) ≤ CS.hs p8.2 := Nat.le_trans h0 mo9
    refine W.widen (k := CS.hs p8.2 - (CS.hs σ)) (n := 17 * (CS.hs p8.2 - (CS.hs σ))) (cAcc2 h0 mo9) (cAcc3 h0 mo9) ?_
    obtain rfl := Option.some.inj hf
    exact W.vret hx hb hr (fun t ht hW => ⟨⟨(), rfl, trivial, ⟨by rw [ht]; exact hC.1, va_K.moved hW.alike hK, hC.2.1⟩, by rw [ht]; exact hC.2.2.2⟩, hC.2.2.1.F ht⟩) hC.2.2.1.2.2 dX3_enterFinally_48
theorem k_X3_leaveOne_fieldLink_RX3_60_SR_Machine_depth_I : Cond.fieldLink RX3 60 "StatementRules2$Machine" "depth" "I" ∈ wzX3_leaveOne := List.mem_cons_of_mem _ (List.mem_append_left _ (List.mem_of_getElem? (i := 0) rfl))
theorem i_X3_leaveOne_X3 : ∀ w ∈ wsX30, w ∈ wzX3_leaveOne := fun _ h => List.mem_cons_of_mem _ (List.mem_append_right _ (List.mem_append_left _ (h)))
theorem k_X3_leaveOne_fieldLink_RX3_235_SR_Machine_wayTarget_I : Cond.fieldLink RX3 235 "StatementRules2$Machine" "wayTarget" "I" ∈ wzX3_leaveOne := List.mem_cons_of_mem _ (List.mem_append_left _ (List.mem_of_getElem? (i := 1) rfl))
theorem i_X3_leaveOne_X2 : ∀ w ∈ wsX20, w ∈ wzX3_leaveOne := fun _ h => List.mem_cons_of_mem _ (List.mem_append_right _ (List.mem_append_right _ (List.mem_append_left _ (h))))
theorem k_X3_leaveOne_fieldLink_RX3_72_SR_Machine_taken_I : Cond.fieldLink RX3 72 "StatementRules2$Machine" "taken" "I" ∈ wzX3_leaveOne := List.mem_cons_of_mem _ (List.mem_append_left _ (List.mem_of_getElem? (i := 2) rfl))
theorem k_X3_leaveOne_fieldLink_RX3_40_SR_Machine_code_LSR_Code : Cond.fieldLink RX3 40 "StatementRules2$Machine" "code" "LStatementRules2$Code;" ∈ wzX3_leaveOne := List.mem_cons_of_mem _ (List.mem_append_left _ (List.mem_of_getElem? (i := 3) rfl))
theorem i_X3_leaveOne_X0 : ∀ w ∈ wsX00, w ∈ wzX3_leaveOne := fun _ h => List.mem_cons_of_mem _ (List.mem_append_right _ (List.mem_append_right _ (List.mem_append_right _ (List.mem_append_left _ (h)))))
theorem k_X3_leaveOne_initialized_RX11 : Cond.initialized RX11 ∈ wzX3_leaveOne := List.mem_cons_of_mem _ (List.mem_append_left _ (List.mem_of_getElem? (i := 4) rfl))
theorem k_X3_leaveOne_static_yX11_at : Cond.static yX11_at ∈ wzX3_leaveOne := List.mem_cons_of_mem _ (List.mem_append_left _ (List.mem_of_getElem? (i := 5) rfl))
set_option maxHeartbeats 4000000 in
set_option maxRecDepth 100000 in
theorem j_X3_leaveOne_29 {p : Program} {e : Env} {s : State} {m : MethodId} {args : Array Value} {below : List Frame} {meth : Method} {c : Code} {A : Nat → Prop} (l : Launch) (dC : Nat → ClassId) (dI : Nat → Nat → Nat) (Q : CQ) (N : Nat) (z9h : Nat) (R : Unit × CS) (hx : p.tables.exec = Jvm.exec) (hb : c.code = cX3_leaveOne) (hr : meth.sig.returnType = none) (hml : c.maxLocals = 2) (hown : s.vm.findClass RX3 = some m.cls) (hts : ∀ w ∈ wzX3_leaveOne, w.before args s = true) (hlocks : meth.locks = false) (hZ : zAMB s) (hA : ∀ q : Nat, s.heap.size ≤ q → A q) (hK : va_K (dC, dI) vwCl (cT Q) s) : ∀ (σ : CS) (H : Heap) (locs : List Loc) (ls : Array Slot), f_X3_leaveOne_29 N σ = some R → z9h ≤ CS.hs σ → CP dC dI Q A s.heap σ H locs → lv_has ls 2 [(0, .ref (Q.o 7))] → W p l e ({ frames := 6, cells := CS.hs R.2 - z9h, slots := 17 * (CS.hs R.2 - z9h), locals := 60 * 6 }) s m args below meth c H locs (CS.hs σ - z9h) (17 * (CS.hs σ - z9h)) (MQ below (va_Qv (fun (_ : Unit) => True) (fun (_ : Unit) (t : State) => zPost dC dI A (cW Q R.2) (cT Q) t ∧ t.heap.size = CS.hs R.2) A) args s (CS.hs R.2 - z9h) (17 * (CS.hs R.2 - z9h)) A) (F0 m 29 ls []) := by
  intro σ  H locs ls hf h0 hC hl
  unfold f_X3_leaveOne_29 at hf
  refine lv_aload_n hx hb dX3_leaveOne_29 rfl (lv_at hl 0 rfl) ?_
  obtain ⟨p7, hcp7, hf⟩ := hf_bind hf
  have mo8 : CS.hs σ ≤ CS.hs p7.2 := Mono.go hcp7 (m_X3_arrive N σ)
  have hr9 : CS.hs p7.2 ≤ CS.hs R.2 := Mono.go hf (mono_some (Nat.le_refl _))
  have hFc := cFree hC hA
  refine va_callv (va_runV (As := []) (rest := []) ⟨hx, hb, hml, hown, hts⟩ (c_X3_arrive l dC dI Q N σ p7 hcp7) (cwV 0 hts hX3_leaveOne_X3_arrive_v249 rfl rfl rfl (by decide +kernel) ⟨(show 3 + 1 ≤ 6 by omega), (show 8 + (1 + 11) + 60 * 3 ≤ 60 * 6 by omega)⟩) ⟨zPre.blind, va_recv hK hC.1 (ci := 2) (q0 := 7) rfl rfl, cPre_go hZ hK hC⟩ rfl rfl hl.1 rfl (lv_room (Nat.le_of_ble_eq_true rfl)) dX3_leaveOne_30 (cAcc h0 mo8 hr9)) hC.2.2.1 (fun q _ h => hFc q h) hFc (fun u9 t9 H1 locs ht hvm hw hB hz1 hk1 hS => ?_)
  obtain ⟨⟨hP, hK1, hD1⟩, hsz1⟩ := hB
  rw [ht] at hP hsz1
  have hC : CP dC dI Q A s.heap p7.2 H1 locs := ⟨hP, hD1.weaken (fun _ _ _ h => hFc _ h), hS, hsz1⟩
  generalize H1 = H at hC ⊢
  have h10 : z9h ≤ CS.hs p7.2 := Nat.le_trans h0 mo8
  refine W.widen (k := CS.hs p7.2 - z9h) (n := 17 * (CS.hs p7.2 - z9h)) (cAcc2 h0 mo8) (cAcc3 h0 mo8) ?_
  refine lv_goto (tgt := 123) hx hb dX3_leaveOne_33 (by decide) ?_
  obtain rfl := Option.some.inj hf
  exact W.vret hx hb hr (fun t ht hW => ⟨⟨(), rfl, trivial, ⟨by rw [ht]; exact hC.1, va_K.moved hW.alike hK, hC.2.1⟩, by rw [ht]; exact hC.2.2.2⟩, hC.2.2.1.F ht⟩) hC.2.2.1.2.2 dX3_leaveOne_123
set_option maxHeartbeats 4000000 in
set_option maxRecDepth 100000 in
theorem j_X3_leaveOne_113 {p : Program} {e : Env} {s : State} {m : MethodId} {args : Array Value} {below : List Frame} {meth : Method} {c : Code} {A : Nat → Prop} (l : Launch) (dC : Nat → ClassId) (dI : Nat → Nat → Nat) (Q : CQ) (N : Nat) (z9h : Nat) (R : Unit × CS) (hx : p.tables.exec = Jvm.exec) (hb : c.code = cX3_leaveOne) (hr : meth.sig.returnType = none) (hml : c.maxLocals = 2) (hown : s.vm.findClass RX3 = some m.cls) (hts : ∀ w ∈ wzX3_leaveOne, w.before args s = true) (hlocks : meth.locks = false) (hZ : zAMB s) (hA : ∀ q : Nat, s.heap.size ≤ q → A q) (hK : va_K (dC, dI) vwCl (cT Q) s) : ∀ (σ : CS) (H : Heap) (locs : List Loc) (ls : Array Slot), f_X3_leaveOne_113 N σ = some R → z9h ≤ CS.hs σ → CP dC dI Q A s.heap σ H locs → lv_has ls 2 [(0, .ref (Q.o 7))] → W p l e ({ frames := 6, cells := CS.hs R.2 - z9h, slots := 17 * (CS.hs R.2 - z9h), locals := 60 * 6 }) s m args below meth c H locs (CS.hs σ - z9h) (17 * (CS.hs σ - z9h)) (MQ below (va_Qv (fun (_ : Unit) => True) (fun (_ : Unit) (t : State) => zPost dC dI A (cW Q R.2) (cT Q) t ∧ t.heap.size = CS.hs R.2) A) args s (CS.hs R.2 - z9h) (17 * (CS.hs R.2 - z9h)) A) (F0 m 113 ls []) := by
  intro σ  H locs ls hf h0 hC hl
  unfold f_X3_leaveOne_113 at hf
  refine lv_aload_n hx hb dX3_leaveOne_113 rfl (lv_at hl 0 rfl) ?_
  refine lv_dup hx hb dX3_leaveOne_114 rfl ?_
  refine cG_67 (v := (σ.i 67)) hx hb hts i_X3_leaveOne_X3 hown hK hC (hts (.fieldLink RX3 60 "StatementRules2$Machine" "depth" "I") k_X3_leaveOne_fieldLink_RX3_60_SR_Machine_depth_I) (fun _ q9 => q9) dX3_leaveOne_115 rfl ?_
  refine lv_iconst (v := 1) hx hb dX3_leaveOne_118 (by decide) ?_
  refine lv_isub hx hb dX3_leaveOne_119 ?_
  refine cP_67 (v := ((σ.i 67) - 1)) hx hb hts i_X3_leaveOne_X3 hown hK hC (hts (.fieldLink RX3 60 "StatementRules2$Machine" "depth" "I") k_X3_leaveOne_fieldLink_RX3_60_SR_Machine_depth_I) (fun _ q9 => q9) dX3_leaveOne_120 (fun H locs hC => ?_)
  obtain rfl := Option.some.inj hf
  exact W.vret hx hb hr (fun t ht hW => ⟨⟨(), rfl, trivial, ⟨by rw [ht]; exact hC.1, va_K.moved hW.alike hK, hC.2.1⟩, by rw [ht]; exact hC.2.2.2⟩, hC.2.2.1.F ht⟩) hC.2.2.1.2.2 dX3_leaveOne_123
set_option maxHeartbeats 4000000 in
set_option maxRecDepth 100000 in
theorem j_X3_leaveOne_87 {p : Program} {e : Env} {s : State} {m : MethodId} {args : Array Value} {below : List Frame} {meth : Method} {c : Code} {A : Nat → Prop} (l : Launch) (dC : Nat → ClassId) (dI : Nat → Nat → Nat) (Q : CQ) (N : Nat) (z9h : Nat) (R : Unit × CS) (hx : p.tables.exec = Jvm.exec) (hb : c.code = cX3_leaveOne) (hr : meth.sig.returnType = none) (hml : c.maxLocals = 2) (hown : s.vm.findClass RX3 = some m.cls) (hts : ∀ w ∈ wzX3_leaveOne, w.before args s = true) (hlocks : meth.locks = false) (hZ : zAMB s) (hA : ∀ q : Nat, s.heap.size ≤ q → A q) (hK : va_K (dC, dI) vwCl (cT Q) s) : ∀ (σ : CS) (x1 : Nat) (H : Heap) (locs : List Loc) (ls : Array Slot), f_X3_leaveOne_87 N σ x1 = some R → z9h ≤ CS.hs σ → CP dC dI Q A s.heap σ H locs → lv_has ls 2 [(0, .ref (Q.o 7)), (1, .ref x1)] → W p l e ({ frames := 6, cells := CS.hs R.2 - z9h, slots := 17 * (CS.hs R.2 - z9h), locals := 60 * 6 }) s m args below meth c H locs (CS.hs σ - z9h) (17 * (CS.hs σ - z9h)) (MQ below (va_Qv (fun (_ : Unit) => True) (fun (_ : Unit) (t : State) => zPost dC dI A (cW Q R.2) (cT Q) t ∧ t.heap.size = CS.hs R.2) A) args s (CS.hs R.2 - z9h) (17 * (CS.hs R.2 - z9h)) A) (F0 m 87 ls []) := by
  intro σ x1 H locs ls hf h0 hC hl
  unfold f_X3_leaveOne_87 at hf
  refine lv_aload_n hx hb dX3_leaveOne_87 rfl (lv_at hl 1 rfl) ?_
  obtain ⟨b15, hf⟩ := hf_ite hf
  refine pGN_X2_0 (v := (CS.o σ x1 0)) hx hb hts i_X3_leaveOne_X2 hown hK hC (va_Nw.use rfl (hZ.1 (.fieldLinkNest RX3 194 "StatementRules2$Frame" "phase" "I" "StatementRules2") (by decide +kernel))) (fun _ q9 => q9) dX3_leaveOne_88 b15 rfl ?_
  refine lv_if_ne (tgt := 113) hx hb dX3_leaveOne_91 (by decide) (fun c16 => ?_) (fun c16 => ?_)
  ·
    replace hf := (if_neg c16).symm.trans hf
    exact j_X3_leaveOne_113 l dC dI Q N z9h R hx hb hr hml hown hts hlocks hZ hA hK σ _ _ _ hf h0 hC (lv_sub hl [0] rfl)
  ·
    replace hf := (if_pos c16).symm.trans hf
    refine lv_aload_n hx hb dX3_leaveOne_94 rfl (lv_at hl 0 rfl) ?_
    refine lv_dup hx hb dX3_leaveOne_95 rfl ?_
    refine cG_71 (v := (σ.i 71)) hx hb hts i_X3_leaveOne_X3 hown hK hC (hts (.fieldLink RX3 72 "StatementRules2$Machine" "taken" "I") k_X3_leaveOne_fieldLink_RX3_72_SR_Machine_taken_I) (fun _ q9 => q9) dX3_leaveOne_96 rfl ?_
    refine lv_iconst (v := 1) hx hb dX3_leaveOne_99 (by decide) ?_
    refine lv_isub hx hb dX3_leaveOne_100 ?_
    refine cP_71 (v := ((σ.i 71) - 1)) hx hb hts i_X3_leaveOne_X3 hown hK hC (hts (.fieldLink RX3 72 "StatementRules2$Machine" "taken" "I") k_X3_leaveOne_fieldLink_RX3_72_SR_Machine_taken_I) (fun _ q9 => q9) dX3_leaveOne_101 (fun H locs hC => ?_)
    refine lv_aload_n hx hb dX3_leaveOne_104 rfl (lv_at hl 0 rfl) ?_
    refine lv_iconst (v := 4) hx hb dX3_leaveOne_105 (by decide) ?_
    refine lv_aload_n hx hb dX3_leaveOne_106 rfl (lv_at hl 1 rfl) ?_
    refine pGN_X2_1 (v := (CS.o (CS.setI σ 71 ((σ.i 71) - 1)) x1 1)) hx hb hts i_X3_leaveOne_X2 hown hK hC (va_Nw.use rfl (hZ.1 (.fieldLinkNest RX3 197 "StatementRules2$Frame" "argument" "I" "StatementRules2") (by decide +kernel))) (fun _ q9 => q9) dX3_leaveOne_107 b15 rfl ?_
    obtain ⟨p17, hcp17, hf⟩ := hf_bind hf
    have mo18 : CS.hs σ ≤ CS.hs p17.2 := Mono.go hcp17 (m_X3_note N (CS.setI σ 71 ((σ.i 71) - 1)) 4 (CS.o (CS.setI σ 71 ((σ.i 71) - 1)) x1 1))
    have hr9 : CS.hs p17.2 ≤ CS.hs R.2 := Mono.go hf (m_X3_leaveOne_113 N p17.2)
    have hFc := cFree hC hA
    refine va_callv (va_runV (As := [.int 4, .int (CS.o (CS.setI σ 71 ((σ.i 71) - 1)) x1 1)]) (rest := []) ⟨hx, hb, hml, hown, hts⟩ (c_X3_note l dC dI Q N (CS.setI σ 71 ((σ.i 71) - 1)) 4 (CS.o (CS.setI σ 71 ((σ.i 71) - 1)) x1 1) p17 hcp17) (cwV 2 hts hX3_leaveOne_X3_note_v178 rfl rfl rfl (by decide +kernel) ⟨(show 2 + 1 ≤ 6 by omega), (show 8 + (3 + 11) + 60 * 2 ≤ 60 * 6 by omega)⟩) ⟨zPre.blind, va_recv hK hC.1 (ci := 2) (q0 := 7) rfl rfl, cPre_go hZ hK hC⟩ rfl rfl hl.1 rfl (lv_room (Nat.le_of_ble_eq_true rfl)) dX3_leaveOne_110 (cAcc h0 mo18 hr9)) hC.2.2.1 (fun q _ h => hFc q h) hFc (fun u9 t9 H1 locs ht hvm hw hB hz1 hk1 hS => ?_)
    obtain ⟨⟨hP, hK1, hD1⟩, hsz1⟩ := hB
    rw [ht] at hP hsz1
    have hC : CP dC dI Q A s.heap p17.2 H1 locs := ⟨hP, hD1.weaken (fun _ _ _ h => hFc _ h), hS, hsz1⟩
    generalize H1 = H at hC ⊢
    have h20 : z9h ≤ CS.hs p17.2 := Nat.le_trans h0 mo18
    refine W.widen (k := CS.hs p17.2 - z9h) (n := 17 * (CS.hs p17.2 - z9h)) (cAcc2 h0 mo18) (cAcc3 h0 mo18) ?_
    exact j_X3_leaveOne_113 l dC dI Q N z9h R hx hb hr hml hown hts hlocks hZ hA hK p17.2 _ _ _ hf h20 hC (lv_sub hl [0] rfl)
set_option maxHeartbeats 4000000 in
set_option maxRecDepth 100000 in
theorem c_X3_leaveOne (l : Launch) (dC : Nat → ClassId) (dI : Nat → Nat → Nat) (Q : CQ) (N : Nat) (σ : CS) (R : Unit × CS) (hf : f_X3_leaveOne N σ = some R) : Met l yX3_leaveOne wzX3_leaveOne ({ frames := 6, cells := CS.hs R.2 - CS.hs σ, slots := 17 * (CS.hs R.2 - CS.hs σ), locals := 60 * 6 }) (va_Pc [.ref (Q.o 7)] (zPre dC dI (CS.hs σ) (cW Q σ) (cT Q))) (va_Qv (fun (_ : Unit) => True) (fun (_ : Unit) (t : State) => zPost dC dI (va_A (cW Q σ) (CS.hs σ)) (cW Q R.2) (cT Q) t ∧ t.heap.size = CS.hs R.2) (va_A (cW Q σ) (CS.hs σ))) (CS.hs R.2 - CS.hs σ) (17 * (CS.hs R.2 - CS.hs σ)) (va_A (cW Q σ) (CS.hs σ)) := by
  refine Met.ofW (cc := cX3_leaveOne) (maxL := 2) (ret := none) (by decide) rfl ?_
  intro p e s m args below meth c s₁ B hml hv
  obtain ⟨rfl, hsz, hZ, hP, hK, hD0⟩ := hv
  have hx := B.exec
  have hb := B.bytes
  have hr := B.returns
  have hts := atoms_spec (ws := wzX3_leaveOne) B.pre
  have hown : s.vm.findClass RX3 = some m.cls := findClass_of_methodNamed B.named
  have hlocks := B.notSynchronized
  have hD := hD0.self (sz := CS.hs σ)
  generalize hAe : va_A (cW Q σ) (CS.hs σ) = A at hD ⊢
  have hA : ∀ q : Nat, s.heap.size ≤ q → A q := fun q h => by rw [← hAe]; exact Or.inr (hsz ▸ h)
  have hC : CP dC dI Q A s.heap σ s.heap [] := ⟨hP, hD, va_S.rf, hsz⟩
  have h0 : CS.hs σ ≤ CS.hs σ := Nat.le_refl _
  have hl := lv_entry ([.ref (Q.o 7)]) (n := 2) (Nat.le_of_ble_eq_true rfl)
  rw [lg_entry_eq]
  generalize (lg_sl ([.ref (Q.o 7)]) ++ List.replicate (2 - (lg_sl ([.ref (Q.o 7)])).length) Slot.unset).toArray = ls at hl ⊢
  have hl : lv_has ls 2 [(0, .ref (Q.o 7))] := hl
  unfold f_X3_leaveOne at hf
  refine W.widen (k := CS.hs σ - CS.hs σ) (n := 17 * (CS.hs σ - CS.hs σ)) (Nat.zero_le _) (Nat.zero_le _) ?_
  refine lv_aload_n hx hb dX3_leaveOne_0 rfl (lv_at hl 0 rfl) ?_
  refine lv_aload_n hx hb dX3_leaveOne_1 rfl (lv_at hl 0 rfl) ?_
  refine cG_67 (v := (σ.i 67)) hx hb hts i_X3_leaveOne_X3 hown hK hC (hts (.fieldLink RX3 60 "StatementRules2$Machine" "depth" "I") k_X3_leaveOne_fieldLink_RX3_60_SR_Machine_depth_I) (fun _ q9 => q9) dX3_leaveOne_2 rfl ?_
  refine lv_iconst (v := 1) hx hb dX3_leaveOne_5 (by decide) ?_
  refine lv_isub hx hb dX3_leaveOne_6 ?_
  obtain ⟨p1, hcp1, hf⟩ := hf_bind hf
  have mo2 : CS.hs σ ≤ CS.hs p1.2 := Mono.go hcp1 (m_X3_frame N σ ((σ.i 67) - 1))
  have hr9 : CS.hs p1.2 ≤ CS.hs R.2 := Mono.go hf (mono_oc (m_X3_leaveOne_29 N p1.2) (fun a6 => (mono_ite (mono_ite (mono_ite (mono_bind (m_X3_leaveBody N p1.2 a6) (fun p27 => (mono_some (Nat.le_refl _)))) (mono_ite (mono_ite (m_X3_leaveOne_87 N p1.2 a6) (mono_bind (m_X3_enterFinally N p1.2 a6) (fun p23 => (mono_some (Nat.le_refl _))))) (m_X3_leaveOne_87 N p1.2 a6))) mono_none) (m_X3_leaveOne_29 N p1.2))))
  have hFc := cFree hC hA
  refine va_callq (va_runV (As := [.int ((σ.i 67) - 1)]) (rest := []) ⟨hx, hb, hml, hown, hts⟩ (c_X3_frame l dC dI Q N σ ((σ.i 67) - 1) p1 hcp1) (cwV 1 hts hX3_leaveOne_X3_frame_v216 rfl rfl rfl (by decide +kernel) ⟨(show 1 + 1 ≤ 6 by omega), (show 8 + (2 + 11) + 60 * 1 ≤ 60 * 6 by omega)⟩) ⟨zPre.blind, va_recv hK hC.1 (ci := 2) (q0 := 7) rfl rfl, cPre_go hZ hK hC⟩ rfl rfl hl.1 rfl (lv_room (Nat.le_of_ble_eq_true rfl)) dX3_leaveOne_7 (cAcc h0 mo2 hr9)) hC.2.2.1 (fun q _ h => hFc q h) hFc (fun r3 u9 t9 H1 locs ht hvm hw hB hz1 hk1 hS => ?_)
  obtain ⟨⟨hP, hK1, hD1⟩, hsz1⟩ := hB
  rw [ht] at hP hsz1
  have hC : CP dC dI Q A s.heap p1.2 H1 locs := ⟨hP, hD1.weaken (fun _ _ _ h => hFc _ h), hS, hsz1⟩
  generalize H1 = H at hC ⊢
  have h4 : (CS.hs σ) ≤ CS.hs p1.2 := Nat.le_trans h0 mo2
  refine W.widen (k := CS.hs p1.2 - (CS.hs σ)) (n := 17 * (CS.hs p1.2 - (CS.hs σ))) (cAcc2 h0 mo2) (cAcc3 h0 mo2) ?_
  obtain rfl : r3 = p1.1 := hw
  rcases hf_oc hf with ⟨q5, hf⟩ | ⟨a6, q5, hf⟩
  ·
    refine W.eq (congrArg (fun v9 => F0 m 10 ls (va_rf v9 :: [])) q5) ?_
    refine W.eq (g2 := F0 m 10 ls (.null :: [])) rfl ?_
    refine lv_astore_nN (lv' := [(1, .null), (0, .ref (Q.o 7))]) hx hb dX3_leaveOne_10 rfl hl (by decide) rfl (fun ls hl => ?_)
    refine lv_aload_nN hx hb dX3_leaveOne_11 rfl (lv_at hl 0 rfl) ?_
    refine lv_ifnullN (tgt := 29) hx hb dX3_leaveOne_12 (by decide) ?_
    exact j_X3_leaveOne_29 l dC dI Q N (CS.hs σ) R hx hb hr hml hown hts hlocks hZ hA hK p1.2 _ _ _ hf h4 hC (lv_sub hl [1] rfl)
  ·
    refine W.eq (congrArg (fun v9 => F0 m 10 ls (va_rf v9 :: [])) q5) ?_
    refine W.eq (g2 := F0 m 10 ls (.ref a6 :: [])) rfl ?_
    refine lv_astore_n (lv' := [(1, .ref a6), (0, .ref (Q.o 7))]) hx hb dX3_leaveOne_10 rfl hl (by decide) rfl (fun ls hl => ?_)
    refine lv_aload_n hx hb dX3_leaveOne_11 rfl (lv_at hl 0 rfl) ?_
    refine lv_ifnull hx hb dX3_leaveOne_12 ?_
    refine lv_aload_n hx hb dX3_leaveOne_15 rfl (lv_at hl 1 rfl) ?_
    refine cG_67 (v := (p1.2.i 67)) hx hb hts i_X3_leaveOne_X3 hown hK hC (hts (.fieldLink RX3 60 "StatementRules2$Machine" "depth" "I") k_X3_leaveOne_fieldLink_RX3_60_SR_Machine_depth_I) (fun _ q9 => q9) dX3_leaveOne_16 rfl ?_
    refine lv_aload_n hx hb dX3_leaveOne_19 rfl (lv_at hl 1 rfl) ?_
    refine cG_75 (v := (p1.2.i 75)) hx hb hts i_X3_leaveOne_X3 hown hK hC (hts (.fieldLink RX3 235 "StatementRules2$Machine" "wayTarget" "I") k_X3_leaveOne_fieldLink_RX3_235_SR_Machine_wayTarget_I) (fun _ q9 => q9) dX3_leaveOne_20 rfl ?_
    refine lv_bipush (v := 32) hx hb dX3_leaveOne_23 (by decide) ?_
    refine lv_irem hx hb dX3_leaveOne_25 (by decide) ?_
    refine lv_icmp_gt (tgt := 36) hx hb dX3_leaveOne_26 (by decide) (fun c11 => ?_) (fun c11 => ?_)
    ·
      replace hf := (if_pos c11).symm.trans hf
      refine lv_aload_n hx hb dX3_leaveOne_36 rfl (lv_at hl 0 rfl) ?_
      obtain ⟨b12, hf⟩ := hf_ite hf
      refine pGN_X2_0 (v := (CS.o p1.2 a6 0)) hx hb hts i_X3_leaveOne_X2 hown hK hC (va_Nw.use rfl (hZ.1 (.fieldLinkNest RX3 194 "StatementRules2$Frame" "phase" "I" "StatementRules2") (by decide +kernel))) (fun _ q9 => q9) dX3_leaveOne_37 b12 rfl ?_
      refine lv_iconst (v := 1) hx hb dX3_leaveOne_40 (by decide) ?_
      refine lv_icmp_ne (tgt := 52) hx hb dX3_leaveOne_41 (by decide) (fun c13 => ?_) (fun c13 => ?_)
      ·
        replace hf := (if_neg c13).symm.trans hf
        refine lv_aload_n hx hb dX3_leaveOne_52 rfl (lv_at hl 0 rfl) ?_
        refine pGN_X2_0 (v := (CS.o p1.2 a6 0)) hx hb hts i_X3_leaveOne_X2 hown hK hC (va_Nw.use rfl (hZ.1 (.fieldLinkNest RX3 194 "StatementRules2$Frame" "phase" "I" "StatementRules2") (by decide +kernel))) (fun _ q9 => q9) dX3_leaveOne_53 b12 rfl ?_
        refine lv_iconst (v := 2) hx hb dX3_leaveOne_56 (by decide) ?_
        refine lv_icmp_ne (tgt := 87) hx hb dX3_leaveOne_57 (by decide) (fun c14 => ?_) (fun c14 => ?_)
        ·
          replace hf := (if_neg c14).symm.trans hf
          exact j_X3_leaveOne_87 l dC dI Q N (CS.hs σ) R hx hb hr hml hown hts hlocks hZ hA hK p1.2 a6 _ _ _ hf h4 hC (lv_sub hl [1, 0] rfl)
        ·
          replace hf := (if_pos c14).symm.trans hf
          refine lv_aload_n hx hb dX3_leaveOne_60 rfl (lv_at hl 1 rfl) ?_
          refine cG_58 hx hb hts i_X3_leaveOne_X3 hown hK hC (hts (.fieldLink RX3 40 "StatementRules2$Machine" "code" "LStatementRules2$Code;") k_X3_leaveOne_fieldLink_RX3_40_SR_Machine_code_LSR_Code) (fun _ q9 => q9) dX3_leaveOne_61 ?_
          refine cGN_17 hx hb hts i_X3_leaveOne_X0 hown hK hC (va_Nw.use rfl (hZ.1 (.fieldLinkNest RX3 153 "StatementRules2$Code" "targets" "[I" "StatementRules2") (by decide +kernel))) (fun _ q9 => q9) dX3_leaveOne_64 ?_
          refine lv_aload_n hx hb dX3_leaveOne_67 rfl (lv_at hl 0 rfl) ?_
          refine pGN_X2_1 (v := (CS.o p1.2 a6 1)) hx hb hts i_X3_leaveOne_X2 hown hK hC (va_Nw.use rfl (hZ.1 (.fieldLinkNest RX3 197 "StatementRules2$Frame" "argument" "I" "StatementRules2") (by decide +kernel))) (fun _ q9 => q9) dX3_leaveOne_68 b12 rfl ?_
          refine lv_iconst (v := 1) hx hb dX3_leaveOne_71 (by decide) ?_
          refine lv_iadd hx hb dX3_leaveOne_72 ?_
          have he9 := (cArr_17 (Q := Q) (σ := p1.2))
          have hFc := cFree1 hC hA he9
          have hr9 : CS.hs p1.2 ≤ CS.hs R.2 := Mono.go hf (mono_ite (m_X3_leaveOne_87 N p1.2 a6) (mono_bind (m_X3_enterFinally N p1.2 a6) (fun p23 => (mono_some (Nat.le_refl _)))))
          refine va_calli (va_runSN (As := [.ref (Q.q 17), .int ((CS.o p1.2 a6 1) + 1)]) (rest := []) ⟨hx, hb, hml, hown, hts⟩ (c_X11_at l dC dI _ (Q.q 17) (Q.c 0) 1024 (p1.2.a 17) ((CS.o p1.2 a6 1) + 1) (by decide)) ⟨va_cnB 2 hts hX3_leaveOne_X11_at_n111 rfl rfl rfl (hZ.1 (.methodLinkNest RX3 111 yX11_at "StatementRules2") (by decide +kernel)) (hts (.initialized RX11) k_X3_leaveOne_initialized_RX11) (by decide +kernel) ⟨(show 1 + 1 ≤ 6 by omega), (show 8 + (2 + 11) + 60 * 1 ≤ 60 * 6 by omega)⟩, (hts (.static yX11_at) k_X3_leaveOne_static_yX11_at), trivial⟩ ⟨zPre.blind, zPre.go hZ (cOne hC.1 he9) (hK.sub (tys' := [(Q.c 0, .int)]) [0] rfl) (cOneD hC.2.1 he9)⟩ rfl rfl hl.1 rfl (lv_room (Nat.le_of_ble_eq_true rfl)) dX3_leaveOne_73 ⟨cAcc4 h4 hr9, cAcc5 h4 hr9⟩) hC.2.2.1 (fun q _ h => hFc q h) hFc (fun r21 u9 t9 H1 locs ht hvm hw hB hz1 hk1 hS => ?_)
          obtain ⟨⟨hP1, hK1, hD1⟩, hsz1⟩ := hB
          rw [ht] at hP1 hsz1
          have hC := cBack (σ' := p1.2) hC he9 (cSelf he9) (Eq.refl (CS.hs p1.2)) hk1 hP1 hsz1 hS
          generalize H1 = H at hC ⊢
          obtain rfl : r21 = (gAt (p1.2.a 17) 1024 ((CS.o p1.2 a6 1) + 1)) := hw
          refine lv_if_lt (tgt := 87) hx hb dX3_leaveOne_76 (by decide) (fun c22 => ?_) (fun c22 => ?_)
          ·
            replace hf := (if_pos c22).symm.trans hf
            exact j_X3_leaveOne_87 l dC dI Q N (CS.hs σ) R hx hb hr hml hown hts hlocks hZ hA hK p1.2 a6 _ _ _ hf h4 hC (lv_sub hl [1, 0] rfl)
          ·
            replace hf := (if_neg c22).symm.trans hf
            refine lv_aload_n hx hb dX3_leaveOne_79 rfl (lv_at hl 1 rfl) ?_
            refine lv_aload_n hx hb dX3_leaveOne_80 rfl (lv_at hl 0 rfl) ?_
            obtain ⟨p23, hcp23, hf⟩ := hf_bind hf
            have mo24 : CS.hs p1.2 ≤ CS.hs p23.2 := Mono.go hcp23 (m_X3_enterFinally N p1.2 a6)
            have hr9 : CS.hs p23.2 ≤ CS.hs R.2 := Mono.go hf (mono_some (Nat.le_refl _))
            have hFc := cFree hC hA
            refine va_callv (va_runV (As := [.ref a6]) (rest := []) ⟨hx, hb, hml, hown, hts⟩ (c_X3_enterFinally l dC dI Q N p1.2 a6 p23 hcp23) (cwV 1 hts hX3_leaveOne_X3_enterFinally_v255 rfl rfl rfl (by decide +kernel) ⟨(show 3 + 1 ≤ 6 by omega), (show 8 + (2 + 11) + 60 * 3 ≤ 60 * 6 by omega)⟩) ⟨zPre.blind, va_recv hK hC.1 (ci := 2) (q0 := 7) rfl rfl, cPre_go hZ hK hC⟩ rfl rfl hl.1 rfl (lv_room (Nat.le_of_ble_eq_true rfl)) dX3_leaveOne_81 (cAcc h4 mo24 hr9)) hC.2.2.1 (fun q _ h => hFc q h) hFc (fun u9 t9 H1 locs ht hvm hw hB hz1 hk1 hS => ?_)
            obtain ⟨⟨hP, hK1, hD1⟩, hsz1⟩ := hB
            rw [ht] at hP hsz1
            have hC : CP dC dI Q A s.heap p23.2 H1 locs := ⟨hP, hD1.weaken (fun _ _ _ h => hFc _ h), hS, hsz1⟩
            generalize H1 = H at hC ⊢
            have h26 : (CS.hs σ) ≤ CS.hs p23.2 := Nat.le_trans h4 mo24
            refine W.widen (k := CS.hs p23.2 - (CS.hs σ)) (n := 17 * (CS.hs p23.2 - (CS.hs σ))) (cAcc2 h4 mo24) (cAcc3 h4 mo24) ?_
            refine lv_goto (tgt := 123) hx hb dX3_leaveOne_84 (by decide) ?_
            obtain rfl := Option.some.inj hf
            exact W.vret hx hb hr (fun t ht hW => ⟨⟨(), rfl, trivial, ⟨by rw [ht]; exact hC.1, va_K.moved hW.alike hK, hC.2.1⟩, by rw [ht]; exact hC.2.2.2⟩, hC.2.2.1.F ht⟩) hC.2.2.1.2.2 dX3_leaveOne_123
      ·
        replace hf := (if_pos c13).symm.trans hf
        refine lv_aload_n hx hb dX3_leaveOne_44 rfl (lv_at hl 1 rfl) ?_
        refine lv_aload_n hx hb dX3_leaveOne_45 rfl (lv_at hl 0 rfl) ?_
        obtain ⟨p27, hcp27, hf⟩ := hf_bind hf
        have mo28 : CS.hs p1.2 ≤ CS.hs p27.2 := Mono.go hcp27 (m_X3_leaveBody N p1.2 a6)
        have hr9 : CS.hs p27.2 ≤ CS.hs R.2 := Mono.go hf (mono_some (Nat.le_refl _))
        have hFc := cFree hC hA
        refine va_callv (va_runV (As := [.ref a6]) (rest := []) ⟨hx, hb, hml, hown, hts⟩ (c_X3_leaveBody l dC dI Q N p1.2 a6 p27 hcp27) (cwV 1 hts hX3_leaveOne_X3_leaveBody_v252 rfl rfl rfl (by decide +kernel) ⟨(show 5 + 1 ≤ 6 by omega), (show 8 + (3 + 11) + 60 * 5 ≤ 60 * 6 by omega)⟩) ⟨zPre.blind, va_recv hK hC.1 (ci := 2) (q0 := 7) rfl rfl, cPre_go hZ hK hC⟩ rfl rfl hl.1 rfl (lv_room (Nat.le_of_ble_eq_true rfl)) dX3_leaveOne_46 (cAcc h4 mo28 hr9)) hC.2.2.1 (fun q _ h => hFc q h) hFc (fun u9 t9 H1 locs ht hvm hw hB hz1 hk1 hS => ?_)
        obtain ⟨⟨hP, hK1, hD1⟩, hsz1⟩ := hB
        rw [ht] at hP hsz1
        have hC : CP dC dI Q A s.heap p27.2 H1 locs := ⟨hP, hD1.weaken (fun _ _ _ h => hFc _ h), hS, hsz1⟩
        generalize H1 = H at hC ⊢
        have h30 : (CS.hs σ) ≤ CS.hs p27.2 := Nat.le_trans h4 mo28
        refine W.widen (k := CS.hs p27.2 - (CS.hs σ)) (n := 17 * (CS.hs p27.2 - (CS.hs σ))) (cAcc2 h4 mo28) (cAcc3 h4 mo28) ?_
        refine lv_goto (tgt := 123) hx hb dX3_leaveOne_49 (by decide) ?_
        obtain rfl := Option.some.inj hf
        exact W.vret hx hb hr (fun t ht hW => ⟨⟨(), rfl, trivial, ⟨by rw [ht]; exact hC.1, va_K.moved hW.alike hK, hC.2.1⟩, by rw [ht]; exact hC.2.2.2⟩, hC.2.2.1.F ht⟩) hC.2.2.1.2.2 dX3_leaveOne_123
    ·
      replace hf := (if_neg c11).symm.trans hf
      exact j_X3_leaveOne_29 l dC dI Q N (CS.hs σ) R hx hb hr hml hown hts hlocks hZ hA hK p1.2 _ _ _ hf h4 hC (lv_sub hl [1] rfl)
theorem k_X3_perform_fieldLink_RX3_40_SR_Machine_code_LSR_Code : Cond.fieldLink RX3 40 "StatementRules2$Machine" "code" "LStatementRules2$Code;" ∈ wzX3_perform := List.mem_cons_of_mem _ (List.mem_append_left _ (List.mem_of_getElem? (i := 0) rfl))
theorem i_X3_perform_X3 : ∀ w ∈ wsX30, w ∈ wzX3_perform := fun _ h => List.mem_cons_of_mem _ (List.mem_append_right _ (List.mem_append_left _ (h)))
theorem i_X3_perform_X0 : ∀ w ∈ wsX00, w ∈ wzX3_perform := fun _ h => List.mem_cons_of_mem _ (List.mem_append_right _ (List.mem_append_right _ (List.mem_append_left _ (h))))
theorem k_X3_perform_fieldLink_RX3_9_SR_Machine_cells_I : Cond.fieldLink RX3 9 "StatementRules2$Machine" "cells" "[I" ∈ wzX3_perform := List.mem_cons_of_mem _ (List.mem_append_left _ (List.mem_of_getElem? (i := 1) rfl))
theorem k_X3_perform_initialized_RX11 : Cond.initialized RX11 ∈ wzX3_perform := List.mem_cons_of_mem _ (List.mem_append_left _ (List.mem_of_getElem? (i := 2) rfl))
theorem k_X3_perform_static_yX11_put : Cond.static yX11_put ∈ wzX3_perform := List.mem_cons_of_mem _ (List.mem_append_left _ (List.mem_of_getElem? (i := 3) rfl))
theorem k_X3_perform_fieldLink_RX3_54_SR_Machine_height_I : Cond.fieldLink RX3 54 "StatementRules2$Machine" "height" "I" ∈ wzX3_perform := List.mem_cons_of_mem _ (List.mem_append_left _ (List.mem_of_getElem? (i := 4) rfl))
theorem k_X3_perform_fieldLink_RX3_57_SR_Machine_place_I : Cond.fieldLink RX3 57 "StatementRules2$Machine" "place" "I" ∈ wzX3_perform := List.mem_cons_of_mem _ (List.mem_append_left _ (List.mem_of_getElem? (i := 5) rfl))
theorem k_X3_perform_fieldLink_RX3_60_SR_Machine_depth_I : Cond.fieldLink RX3 60 "StatementRules2$Machine" "depth" "I" ∈ wzX3_perform := List.mem_cons_of_mem _ (List.mem_append_left _ (List.mem_of_getElem? (i := 6) rfl))
theorem k_X3_perform_fieldLink_RX3_63_SR_Machine_openedCount_I : Cond.fieldLink RX3 63 "StatementRules2$Machine" "openedCount" "I" ∈ wzX3_perform := List.mem_cons_of_mem _ (List.mem_append_left _ (List.mem_of_getElem? (i := 7) rfl))
theorem k_X3_perform_fieldLink_RX3_66_SR_Machine_rowCount_I : Cond.fieldLink RX3 66 "StatementRules2$Machine" "rowCount" "I" ∈ wzX3_perform := List.mem_cons_of_mem _ (List.mem_append_left _ (List.mem_of_getElem? (i := 8) rfl))
theorem k_X3_perform_fieldLink_RX3_69_SR_Machine_steps_I : Cond.fieldLink RX3 69 "StatementRules2$Machine" "steps" "I" ∈ wzX3_perform := List.mem_cons_of_mem _ (List.mem_append_left _ (List.mem_of_getElem? (i := 9) rfl))
theorem k_X3_perform_fieldLink_RX3_72_SR_Machine_taken_I : Cond.fieldLink RX3 72 "StatementRules2$Machine" "taken" "I" ∈ wzX3_perform := List.mem_cons_of_mem _ (List.mem_append_left _ (List.mem_of_getElem? (i := 10) rfl))
theorem k_X3_perform_fieldLink_RX3_75_SR_Machine_way_I : Cond.fieldLink RX3 75 "StatementRules2$Machine" "way" "I" ∈ wzX3_perform := List.mem_cons_of_mem _ (List.mem_append_left _ (List.mem_of_getElem? (i := 11) rfl))
theorem k_X3_perform_fieldLink_RX3_78_SR_Machine_wayValue_I : Cond.fieldLink RX3 78 "StatementRules2$Machine" "wayValue" "I" ∈ wzX3_perform := List.mem_cons_of_mem _ (List.mem_append_left _ (List.mem_of_getElem? (i := 12) rfl))
theorem k_X3_perform_fieldLink_RX3_81_SR_Machine_wayThrown_LSR_Thrown : Cond.fieldLink RX3 81 "StatementRules2$Machine" "wayThrown" "LStatementRules2$Thrown;" ∈ wzX3_perform := List.mem_cons_of_mem _ (List.mem_append_left _ (List.mem_of_getElem? (i := 13) rfl))
theorem k_X3_perform_fieldLink_RX3_85_SR_Machine_outcome_I : Cond.fieldLink RX3 85 "StatementRules2$Machine" "outcome" "I" ∈ wzX3_perform := List.mem_cons_of_mem _ (List.mem_append_left _ (List.mem_of_getElem? (i := 14) rfl))
theorem k_X3_perform_constant_RX3_88_4000000 : Cond.constant RX3 88 (4000000) ∈ wzX3_perform := List.mem_cons_of_mem _ (List.mem_append_left _ (List.mem_of_getElem? (i := 15) rfl))
set_option maxHeartbeats 4000000 in
set_option maxRecDepth 100000 in
theorem j_X3_perform_148 {p : Program} {e : Env} {s : State} {m : MethodId} {args : Array Value} {below : List Frame} {meth : Method} {c : Code} {A : Nat → Prop} (l : Launch) (dC : Nat → ClassId) (dI : Nat → Nat → Nat) (Q : CQ) (N : Nat) (z9h : Nat) (R : Int32 × CS) (hx : p.tables.exec = Jvm.exec) (hb : c.code = cX3_perform) (hr : meth.sig.returnType = (some .int)) (hml : c.maxLocals = 4) (hown : s.vm.findClass RX3 = some m.cls) (hts : ∀ w ∈ wzX3_perform, w.before args s = true) (hlocks : meth.locks = false) (hZ : zAMB s) (hA : ∀ q : Nat, s.heap.size ≤ q → A q) (hK : va_K (dC, dI) vwCl (cT Q) s) : ∀ (σ : CS) (H : Heap) (locs : List Loc) (ls : Array Slot), f_X3_perform_148 N σ = some R → z9h ≤ CS.hs σ → CP dC dI Q A s.heap σ H locs → lv_has ls 4 [(0, .ref (Q.o 7))] → W p l e ({ frames := 7, cells := CS.hs R.2 - z9h, slots := 17 * (CS.hs R.2 - z9h), locals := 60 * 7 }) s m args below meth c H locs (CS.hs σ - z9h) (17 * (CS.hs σ - z9h)) (MQ below (va_Qi (fun (r : Int32) (_ : Unit) => r = R.1) (fun (_ : Unit) (t : State) => zPost dC dI A (cW Q R.2) (cT Q) t ∧ t.heap.size = CS.hs R.2) A) args s (CS.hs R.2 - z9h) (17 * (CS.hs R.2 - z9h)) A) (F0 m 148 ls []) := by
  intro σ  H locs ls hf h0 hC hl
  unfold f_X3_perform_148 at hf
  refine lv_aload_n hx hb dX3_perform_148 rfl (lv_at hl 0 rfl) ?_
  refine cG_72 (v := (σ.i 72)) hx hb hts i_X3_perform_X3 hown hK hC (hts (.fieldLink RX3 85 "StatementRules2$Machine" "outcome" "I") k_X3_perform_fieldLink_RX3_85_SR_Machine_outcome_I) (fun _ q9 => q9) dX3_perform_149 rfl ?_
  obtain rfl := Option.some.inj hf
  exact W.iret (v := (σ.i 72)) hx hb hr (fun t ht hW => ⟨⟨(σ.i 72), (), rfl, rfl, ⟨by rw [ht]; exact hC.1, va_K.moved hW.alike hK, hC.2.1⟩, by rw [ht]; exact hC.2.2.2⟩, hC.2.2.1.F ht⟩) hC.2.2.1.2.2 dX3_perform_152
set_option maxHeartbeats 4000000 in
set_option maxRecDepth 100000 in
theorem j_X3_perform_110 {p : Program} {e : Env} {s : State} {m : MethodId} {args : Array Value} {below : List Frame} {meth : Method} {c : Code} {A : Nat → Prop} (l : Launch) (dC : Nat → ClassId) (dI : Nat → Nat → Nat) (Q : CQ) (N : Nat) (z9h : Nat) (R : Int32 × CS) (hx : p.tables.exec = Jvm.exec) (hb : c.code = cX3_perform) (hr : meth.sig.returnType = (some .int)) (hml : c.maxLocals = 4) (hown : s.vm.findClass RX3 = some m.cls) (hts : ∀ w ∈ wzX3_perform, w.before args s = true) (hlocks : meth.locks = false) (hZ : zAMB s) (hA : ∀ q : Nat, s.heap.size ≤ q → A q) (hK : va_K (dC, dI) vwCl (cT Q) s) : ∀ (n9 : Nat), ∀ (σ : CS) (x3 : Int32) (H : Heap) (locs : List Loc) (ls : Array Slot), f_X3_perform_110 N n9 σ x3 = some R → z9h ≤ CS.hs σ → CP dC dI Q A s.heap σ H locs → lv_has ls 4 [(0, .ref (Q.o 7)), (3, .int x3)] → W p l e ({ frames := 7, cells := CS.hs R.2 - z9h, slots := 17 * (CS.hs R.2 - z9h), locals := 60 * 7 }) s m args below meth c H locs (CS.hs σ - z9h) (17 * (CS.hs σ - z9h)) (MQ below (va_Qi (fun (r : Int32) (_ : Unit) => r = R.1) (fun (_ : Unit) (t : State) => zPost dC dI A (cW Q R.2) (cT Q) t ∧ t.heap.size = CS.hs R.2) A) args s (CS.hs R.2 - z9h) (17 * (CS.hs R.2 - z9h)) A) (F0 m 110 ls []) := by
  intro n9
  induction n9 with
  | zero => intro σ x3 H locs ls hf; exact absurd hf (by intro q9; cases q9)
  | succ n9 ih =>
    intro σ x3 H locs ls hf h0 hC hl
    replace hf : b_X3_perform_110 N (f_X3_perform_110 N n9) σ x3 = some R := hf
    unfold b_X3_perform_110 at hf
    have hMK := fun (σ : CS) (x3 : Int32) => m_X3_perform_110 N n9 σ x3
    refine lv_iload_n hx hb dX3_perform_110 rfl (lv_at hl 1 rfl) ?_
    refine lv_ldc (v := 4000000) hx hb hown (hts (.constant RX3 88 (4000000)) k_X3_perform_constant_RX3_88_4000000) dX3_perform_111 ?_
    refine lv_icmp_ge (tgt := 148) hx hb dX3_perform_113 (by decide) (fun c2 => ?_) (fun c2 => ?_)
    ·
      replace hf := (if_pos c2).symm.trans hf
      exact j_X3_perform_148 l dC dI Q N z9h R hx hb hr hml hown hts hlocks hZ hA hK σ _ _ _ hf h0 hC (lv_sub hl [0] rfl)
    ·
      replace hf := (if_neg c2).symm.trans hf
      refine lv_aload_n hx hb dX3_perform_116 rfl (lv_at hl 0 rfl) ?_
      refine cG_72 (v := (σ.i 72)) hx hb hts i_X3_perform_X3 hown hK hC (hts (.fieldLink RX3 85 "StatementRules2$Machine" "outcome" "I") k_X3_perform_fieldLink_RX3_85_SR_Machine_outcome_I) (fun _ q9 => q9) dX3_perform_117 rfl ?_
      refine lv_iconst (v := (-1)) hx hb dX3_perform_120 (by decide) ?_
      refine lv_icmp_ne (tgt := 148) hx hb dX3_perform_121 (by decide) (fun c3 => ?_) (fun c3 => ?_)
      ·
        replace hf := (if_neg c3).symm.trans hf
        exact j_X3_perform_148 l dC dI Q N z9h R hx hb hr hml hown hts hlocks hZ hA hK σ _ _ _ hf h0 hC (lv_sub hl [0] rfl)
      ·
        replace hf := (if_pos c3).symm.trans hf
        refine lv_aload_n hx hb dX3_perform_124 rfl (lv_at hl 0 rfl) ?_
        refine cG_73 (v := (σ.i 73)) hx hb hts i_X3_perform_X3 hown hK hC (hts (.fieldLink RX3 75 "StatementRules2$Machine" "way" "I") k_X3_perform_fieldLink_RX3_75_SR_Machine_way_I) (fun _ q9 => q9) dX3_perform_125 rfl ?_
        refine lv_if_ne (tgt := 138) hx hb dX3_perform_128 (by decide) (fun c4 => ?_) (fun c4 => ?_)
        ·
          replace hf := (if_neg c4).symm.trans hf
          refine lv_aload_n hx hb dX3_perform_138 rfl (lv_at hl 0 rfl) ?_
          obtain ⟨p5, hcp5, hf⟩ := hf_bind hf
          have mo6 : CS.hs σ ≤ CS.hs p5.2 := Mono.go hcp5 (m_X3_leaveOne N σ)
          have hr9 : CS.hs p5.2 ≤ CS.hs R.2 := Mono.go hf (hMK p5.2 (x3 + 1))
          have hFc := cFree hC hA
          refine va_callv (va_runV (As := []) (rest := []) ⟨hx, hb, hml, hown, hts⟩ (c_X3_leaveOne l dC dI Q N σ p5 hcp5) (cwV 0 hts hX3_perform_X3_leaveOne_v92 rfl rfl rfl (by decide +kernel) ⟨(show 6 + 1 ≤ 7 by omega), (show 8 + (2 + 11) + 60 * 6 ≤ 60 * 7 by omega)⟩) ⟨zPre.blind, va_recv hK hC.1 (ci := 2) (q0 := 7) rfl rfl, cPre_go hZ hK hC⟩ rfl rfl hl.1 rfl (lv_room (Nat.le_of_ble_eq_true rfl)) dX3_perform_139 (cAcc h0 mo6 hr9)) hC.2.2.1 (fun q _ h => hFc q h) hFc (fun u9 t9 H1 locs ht hvm hw hB hz1 hk1 hS => ?_)
          obtain ⟨⟨hP, hK1, hD1⟩, hsz1⟩ := hB
          rw [ht] at hP hsz1
          have hC : CP dC dI Q A s.heap p5.2 H1 locs := ⟨hP, hD1.weaken (fun _ _ _ h => hFc _ h), hS, hsz1⟩
          generalize H1 = H at hC ⊢
          have h8 : z9h ≤ CS.hs p5.2 := Nat.le_trans h0 mo6
          refine W.widen (k := CS.hs p5.2 - z9h) (n := 17 * (CS.hs p5.2 - z9h)) (cAcc2 h0 mo6) (cAcc3 h0 mo6) ?_
          refine lv_iinc (v := (x3 + 1)) (lv' := [(3, .int (x3 + 1)), (0, .ref (Q.o 7))]) hx hb dX3_perform_142 hl (k := 1) rfl rfl (by decide) rfl (fun ls hl => ?_)
          refine lv_goto (tgt := 110) hx hb dX3_perform_145 (by decide) ?_
          exact ih p5.2 (x3 + 1) _ _ _ hf h8 hC (lv_sub hl [1, 0] rfl)
        ·
          replace hf := (if_pos c4).symm.trans hf
          refine lv_aload_n hx hb dX3_perform_131 rfl (lv_at hl 0 rfl) ?_
          obtain ⟨p9, hcp9, hf⟩ := hf_bind hf
          have mo10 : CS.hs σ ≤ CS.hs p9.2 := Mono.go hcp9 (m_X3_instruction N σ)
          have hr9 : CS.hs p9.2 ≤ CS.hs R.2 := Mono.go hf (hMK p9.2 (x3 + 1))
          have hFc := cFree hC hA
          refine va_callv (va_runV (As := []) (rest := []) ⟨hx, hb, hml, hown, hts⟩ (c_X3_instruction l dC dI Q N σ p9 hcp9) (cwV 0 hts hX3_perform_X3_instruction_v89 rfl rfl rfl (by decide +kernel) ⟨(show 6 + 1 ≤ 7 by omega), (show 8 + (3 + 11) + 60 * 6 ≤ 60 * 7 by omega)⟩) ⟨zPre.blind, va_recv hK hC.1 (ci := 2) (q0 := 7) rfl rfl, cPre_go hZ hK hC⟩ rfl rfl hl.1 rfl (lv_room (Nat.le_of_ble_eq_true rfl)) dX3_perform_132 (cAcc h0 mo10 hr9)) hC.2.2.1 (fun q _ h => hFc q h) hFc (fun u9 t9 H1 locs ht hvm hw hB hz1 hk1 hS => ?_)
          obtain ⟨⟨hP, hK1, hD1⟩, hsz1⟩ := hB
          rw [ht] at hP hsz1
          have hC : CP dC dI Q A s.heap p9.2 H1 locs := ⟨hP, hD1.weaken (fun _ _ _ h => hFc _ h), hS, hsz1⟩
          generalize H1 = H at hC ⊢
          have h12 : z9h ≤ CS.hs p9.2 := Nat.le_trans h0 mo10
          refine W.widen (k := CS.hs p9.2 - z9h) (n := 17 * (CS.hs p9.2 - z9h)) (cAcc2 h0 mo10) (cAcc3 h0 mo10) ?_
          refine lv_goto (tgt := 142) hx hb dX3_perform_135 (by decide) ?_
          refine lv_iinc (v := (x3 + 1)) (lv' := [(3, .int (x3 + 1)), (0, .ref (Q.o 7))]) hx hb dX3_perform_142 hl (k := 1) rfl rfl (by decide) rfl (fun ls hl => ?_)
          refine lv_goto (tgt := 110) hx hb dX3_perform_145 (by decide) ?_
          exact ih p9.2 (x3 + 1) _ _ _ hf h12 hC (lv_sub hl [1, 0] rfl)
set_option maxHeartbeats 4000000 in
set_option maxRecDepth 100000 in
theorem j_X3_perform_35 {p : Program} {e : Env} {s : State} {m : MethodId} {args : Array Value} {below : List Frame} {meth : Method} {c : Code} {A : Nat → Prop} (l : Launch) (dC : Nat → ClassId) (dI : Nat → Nat → Nat) (Q : CQ) (N : Nat) (z9h : Nat) (R : Int32 × CS) (hx : p.tables.exec = Jvm.exec) (hb : c.code = cX3_perform) (hr : meth.sig.returnType = (some .int)) (hml : c.maxLocals = 4) (hown : s.vm.findClass RX3 = some m.cls) (hts : ∀ w ∈ wzX3_perform, w.before args s = true) (hlocks : meth.locks = false) (hZ : zAMB s) (hA : ∀ q : Nat, s.heap.size ≤ q → A q) (hK : va_K (dC, dI) vwCl (cT Q) s) : ∀ (σ : CS) (x1 : Int32) (x2 : Int32) (H : Heap) (locs : List Loc) (ls : Array Slot), f_X3_perform_35 N σ x1 x2 = some R → z9h ≤ CS.hs σ → CP dC dI Q A s.heap σ H locs → lv_has ls 4 [(0, .ref (Q.o 7)), (1, .int x1), (2, .int x2)] → W p l e ({ frames := 7, cells := CS.hs R.2 - z9h, slots := 17 * (CS.hs R.2 - z9h), locals := 60 * 7 }) s m args below meth c H locs (CS.hs σ - z9h) (17 * (CS.hs σ - z9h)) (MQ below (va_Qi (fun (r : Int32) (_ : Unit) => r = R.1) (fun (_ : Unit) (t : State) => zPost dC dI A (cW Q R.2) (cT Q) t ∧ t.heap.size = CS.hs R.2) A) args s (CS.hs R.2 - z9h) (17 * (CS.hs R.2 - z9h)) A) (F0 m 35 ls []) := by
  intro σ x1 x2 H locs ls hf h0 hC hl
  unfold f_X3_perform_35 at hf
  refine lv_aload_n hx hb dX3_perform_35 rfl (lv_at hl 0 rfl) ?_
  refine cG_59 hx hb hts i_X3_perform_X3 hown hK hC (hts (.fieldLink RX3 9 "StatementRules2$Machine" "cells" "[I") k_X3_perform_fieldLink_RX3_9_SR_Machine_cells_I) (fun _ q9 => q9) dX3_perform_36 ?_
  refine lv_iconst (v := 0) hx hb dX3_perform_39 (by decide) ?_
  refine lv_iload_n hx hb dX3_perform_40 rfl (lv_at hl 1 rfl) ?_
  have he9 := (cArr_59 (Q := Q) (σ := σ))
  have hFc := cFree1 hC hA he9
  have hr9 : CS.hs σ ≤ CS.hs R.2 := Mono.go hf (m_X3_perform_110 N N (CS.setI (CS.setW (CS.setI (CS.setI (CS.setI (CS.setI (CS.setI (CS.setI (CS.setI (CS.setI (CS.setI (CS.putA (CS.putA σ 59 (gPut (σ.a 59) 720 0 x1)) 59 (gPut (CS.a (CS.putA σ 59 (gPut (σ.a 59) 720 0 x1)) 59) 720 1 x2)) 65 0) 66 0) 67 0) 68 0) 69 0) 70 0) 71 0) 73 0) 74 0) none) 72 (-1)) 0)
  refine va_callv (va_runSN (As := [.ref (Q.q 59), .int 0, .int x1]) (rest := []) ⟨hx, hb, hml, hown, hts⟩ (c_X11_put l dC dI _ (Q.q 59) (Q.c 0) 720 (σ.a 59) 0 x1 (by decide)) ⟨va_cnB 3 hts hX3_perform_X11_put_n50 rfl rfl rfl (hZ.1 (.methodLinkNest RX3 50 yX11_put "StatementRules2") (by decide +kernel)) (hts (.initialized RX11) k_X3_perform_initialized_RX11) (by decide +kernel) ⟨(show 1 + 1 ≤ 7 by omega), (show 8 + (3 + 11) + 60 * 1 ≤ 60 * 7 by omega)⟩, (hts (.static yX11_put) k_X3_perform_static_yX11_put), trivial⟩ ⟨zPre.blind, zPre.go hZ (cOne hC.1 he9) (hK.sub (tys' := [(Q.c 0, .int)]) [0] rfl) (cOneD hC.2.1 he9)⟩ rfl rfl hl.1 rfl (lv_room (Nat.le_of_ble_eq_true rfl)) dX3_perform_41 ⟨cAcc4 h0 hr9, cAcc5 h0 hr9⟩) hC.2.2.1 (fun q _ h => hFc q h) hFc (fun u9 t9 H1 locs ht hvm hw hB hz1 hk1 hS => ?_)
  obtain ⟨⟨hP1, hK1, hD1⟩, hsz1⟩ := hB
  rw [ht] at hP1 hsz1
  have hC := cBack (σ' := CS.putA σ 59 (gPut (σ.a 59) 720 0 x1)) hC he9 cPutA_59 (cPutA_h _ _ _) hk1 hP1 hsz1 hS
  generalize H1 = H at hC ⊢
  refine lv_aload_n hx hb dX3_perform_44 rfl (lv_at hl 0 rfl) ?_
  refine cG_59 hx hb hts i_X3_perform_X3 hown hK hC (hts (.fieldLink RX3 9 "StatementRules2$Machine" "cells" "[I") k_X3_perform_fieldLink_RX3_9_SR_Machine_cells_I) (fun _ q9 => q9) dX3_perform_45 ?_
  refine lv_iconst (v := 1) hx hb dX3_perform_48 (by decide) ?_
  refine lv_iload_n hx hb dX3_perform_49 rfl (lv_at hl 2 rfl) ?_
  have he9 := (cArr_59 (Q := Q) (σ := CS.putA σ 59 (gPut (σ.a 59) 720 0 x1)))
  have hFc := cFree1 hC hA he9
  have hr9 : CS.hs σ ≤ CS.hs R.2 := Mono.go hf (m_X3_perform_110 N N (CS.setI (CS.setW (CS.setI (CS.setI (CS.setI (CS.setI (CS.setI (CS.setI (CS.setI (CS.setI (CS.setI (CS.putA (CS.putA σ 59 (gPut (σ.a 59) 720 0 x1)) 59 (gPut (CS.a (CS.putA σ 59 (gPut (σ.a 59) 720 0 x1)) 59) 720 1 x2)) 65 0) 66 0) 67 0) 68 0) 69 0) 70 0) 71 0) 73 0) 74 0) none) 72 (-1)) 0)
  refine va_callv (va_runSN (As := [.ref (Q.q 59), .int 1, .int x2]) (rest := []) ⟨hx, hb, hml, hown, hts⟩ (c_X11_put l dC dI _ (Q.q 59) (Q.c 0) 720 (CS.a (CS.putA σ 59 (gPut (σ.a 59) 720 0 x1)) 59) 1 x2 (by decide)) ⟨va_cnB 3 hts hX3_perform_X11_put_n50 rfl rfl rfl (hZ.1 (.methodLinkNest RX3 50 yX11_put "StatementRules2") (by decide +kernel)) (hts (.initialized RX11) k_X3_perform_initialized_RX11) (by decide +kernel) ⟨(show 1 + 1 ≤ 7 by omega), (show 8 + (3 + 11) + 60 * 1 ≤ 60 * 7 by omega)⟩, (hts (.static yX11_put) k_X3_perform_static_yX11_put), trivial⟩ ⟨zPre.blind, zPre.go hZ (cOne hC.1 he9) (hK.sub (tys' := [(Q.c 0, .int)]) [0] rfl) (cOneD hC.2.1 he9)⟩ rfl rfl hl.1 rfl (lv_room (Nat.le_of_ble_eq_true rfl)) dX3_perform_50 ⟨cAcc4 h0 hr9, cAcc5 h0 hr9⟩) hC.2.2.1 (fun q _ h => hFc q h) hFc (fun u9 t9 H1 locs ht hvm hw hB hz1 hk1 hS => ?_)
  obtain ⟨⟨hP1, hK1, hD1⟩, hsz1⟩ := hB
  rw [ht] at hP1 hsz1
  have hC := cBack (σ' := CS.putA (CS.putA σ 59 (gPut (σ.a 59) 720 0 x1)) 59 (gPut (CS.a (CS.putA σ 59 (gPut (σ.a 59) 720 0 x1)) 59) 720 1 x2)) hC he9 cPutA_59 (cPutA_h _ _ _) hk1 hP1 hsz1 hS
  generalize H1 = H at hC ⊢
  refine lv_aload_n hx hb dX3_perform_53 rfl (lv_at hl 0 rfl) ?_
  refine lv_iconst (v := 0) hx hb dX3_perform_54 (by decide) ?_
  refine cP_65 (v := 0) hx hb hts i_X3_perform_X3 hown hK hC (hts (.fieldLink RX3 54 "StatementRules2$Machine" "height" "I") k_X3_perform_fieldLink_RX3_54_SR_Machine_height_I) (fun _ q9 => q9) dX3_perform_55 (fun H locs hC => ?_)
  refine lv_aload_n hx hb dX3_perform_58 rfl (lv_at hl 0 rfl) ?_
  refine lv_iconst (v := 0) hx hb dX3_perform_59 (by decide) ?_
  refine cP_66 (v := 0) hx hb hts i_X3_perform_X3 hown hK hC (hts (.fieldLink RX3 57 "StatementRules2$Machine" "place" "I") k_X3_perform_fieldLink_RX3_57_SR_Machine_place_I) (fun _ q9 => q9) dX3_perform_60 (fun H locs hC => ?_)
  refine lv_aload_n hx hb dX3_perform_63 rfl (lv_at hl 0 rfl) ?_
  refine lv_iconst (v := 0) hx hb dX3_perform_64 (by decide) ?_
  refine cP_67 (v := 0) hx hb hts i_X3_perform_X3 hown hK hC (hts (.fieldLink RX3 60 "StatementRules2$Machine" "depth" "I") k_X3_perform_fieldLink_RX3_60_SR_Machine_depth_I) (fun _ q9 => q9) dX3_perform_65 (fun H locs hC => ?_)
  refine lv_aload_n hx hb dX3_perform_68 rfl (lv_at hl 0 rfl) ?_
  refine lv_iconst (v := 0) hx hb dX3_perform_69 (by decide) ?_
  refine cP_68 (v := 0) hx hb hts i_X3_perform_X3 hown hK hC (hts (.fieldLink RX3 63 "StatementRules2$Machine" "openedCount" "I") k_X3_perform_fieldLink_RX3_63_SR_Machine_openedCount_I) (fun _ q9 => q9) dX3_perform_70 (fun H locs hC => ?_)
  refine lv_aload_n hx hb dX3_perform_73 rfl (lv_at hl 0 rfl) ?_
  refine lv_iconst (v := 0) hx hb dX3_perform_74 (by decide) ?_
  refine cP_69 (v := 0) hx hb hts i_X3_perform_X3 hown hK hC (hts (.fieldLink RX3 66 "StatementRules2$Machine" "rowCount" "I") k_X3_perform_fieldLink_RX3_66_SR_Machine_rowCount_I) (fun _ q9 => q9) dX3_perform_75 (fun H locs hC => ?_)
  refine lv_aload_n hx hb dX3_perform_78 rfl (lv_at hl 0 rfl) ?_
  refine lv_iconst (v := 0) hx hb dX3_perform_79 (by decide) ?_
  refine cP_70 (v := 0) hx hb hts i_X3_perform_X3 hown hK hC (hts (.fieldLink RX3 69 "StatementRules2$Machine" "steps" "I") k_X3_perform_fieldLink_RX3_69_SR_Machine_steps_I) (fun _ q9 => q9) dX3_perform_80 (fun H locs hC => ?_)
  refine lv_aload_n hx hb dX3_perform_83 rfl (lv_at hl 0 rfl) ?_
  refine lv_iconst (v := 0) hx hb dX3_perform_84 (by decide) ?_
  refine cP_71 (v := 0) hx hb hts i_X3_perform_X3 hown hK hC (hts (.fieldLink RX3 72 "StatementRules2$Machine" "taken" "I") k_X3_perform_fieldLink_RX3_72_SR_Machine_taken_I) (fun _ q9 => q9) dX3_perform_85 (fun H locs hC => ?_)
  refine lv_aload_n hx hb dX3_perform_88 rfl (lv_at hl 0 rfl) ?_
  refine lv_iconst (v := 0) hx hb dX3_perform_89 (by decide) ?_
  refine cP_73 (v := 0) hx hb hts i_X3_perform_X3 hown hK hC (hts (.fieldLink RX3 75 "StatementRules2$Machine" "way" "I") k_X3_perform_fieldLink_RX3_75_SR_Machine_way_I) (fun _ q9 => q9) dX3_perform_90 (fun H locs hC => ?_)
  refine lv_aload_n hx hb dX3_perform_93 rfl (lv_at hl 0 rfl) ?_
  refine lv_iconst (v := 0) hx hb dX3_perform_94 (by decide) ?_
  refine cP_74 (v := 0) hx hb hts i_X3_perform_X3 hown hK hC (hts (.fieldLink RX3 78 "StatementRules2$Machine" "wayValue" "I") k_X3_perform_fieldLink_RX3_78_SR_Machine_wayValue_I) (fun _ q9 => q9) dX3_perform_95 (fun H locs hC => ?_)
  refine lv_aload_n hx hb dX3_perform_98 rfl (lv_at hl 0 rfl) ?_
  refine lv_null hx hb dX3_perform_99 ?_
  refine cP_76 (v := none) hx hb hts i_X3_perform_X3 hown hK hC (hts (.fieldLink RX3 81 "StatementRules2$Machine" "wayThrown" "LStatementRules2$Thrown;") k_X3_perform_fieldLink_RX3_81_SR_Machine_wayThrown_LSR_Thrown) (fun _ q9 => q9) dX3_perform_100 (fun H locs hC => ?_)
  refine lv_aload_n hx hb dX3_perform_103 rfl (lv_at hl 0 rfl) ?_
  refine lv_iconst (v := (-1)) hx hb dX3_perform_104 (by decide) ?_
  refine cP_72 (v := (-1)) hx hb hts i_X3_perform_X3 hown hK hC (hts (.fieldLink RX3 85 "StatementRules2$Machine" "outcome" "I") k_X3_perform_fieldLink_RX3_85_SR_Machine_outcome_I) (fun _ q9 => q9) dX3_perform_105 (fun H locs hC => ?_)
  refine lv_iconst (v := 0) hx hb dX3_perform_108 (by decide) ?_
  refine lv_istore_n (lv' := [(3, .int 0), (0, .ref (Q.o 7)), (1, .int x1), (2, .int x2)]) hx hb dX3_perform_109 rfl hl (by decide) rfl (fun ls hl => ?_)
  exact j_X3_perform_110 l dC dI Q N z9h R hx hb hr hml hown hts hlocks hZ hA hK N (CS.setI (CS.setW (CS.setI (CS.setI (CS.setI (CS.setI (CS.setI (CS.setI (CS.setI (CS.setI (CS.setI (CS.putA (CS.putA σ 59 (gPut (σ.a 59) 720 0 x1)) 59 (gPut (CS.a (CS.putA σ 59 (gPut (σ.a 59) 720 0 x1)) 59) 720 1 x2)) 65 0) 66 0) 67 0) 68 0) 69 0) 70 0) 71 0) 73 0) 74 0) none) 72 (-1)) 0 _ _ _ hf h0 hC (lv_sub hl [1, 0] rfl)
set_option maxHeartbeats 4000000 in
set_option maxRecDepth 100000 in
theorem j_X3_perform_2 {p : Program} {e : Env} {s : State} {m : MethodId} {args : Array Value} {below : List Frame} {meth : Method} {c : Code} {A : Nat → Prop} (l : Launch) (dC : Nat → ClassId) (dI : Nat → Nat → Nat) (Q : CQ) (N : Nat) (z9h : Nat) (R : Int32 × CS) (hx : p.tables.exec = Jvm.exec) (hb : c.code = cX3_perform) (hr : meth.sig.returnType = (some .int)) (hml : c.maxLocals = 4) (hown : s.vm.findClass RX3 = some m.cls) (hts : ∀ w ∈ wzX3_perform, w.before args s = true) (hlocks : meth.locks = false) (hZ : zAMB s) (hA : ∀ q : Nat, s.heap.size ≤ q → A q) (hK : va_K (dC, dI) vwCl (cT Q) s) : ∀ (n9 : Nat), ∀ (σ : CS) (x1 : Int32) (x2 : Int32) (x3 : Int32) (H : Heap) (locs : List Loc) (ls : Array Slot), f_X3_perform_2 N n9 σ x1 x2 x3 = some R → z9h ≤ CS.hs σ → CP dC dI Q A s.heap σ H locs → lv_has ls 4 [(0, .ref (Q.o 7)), (1, .int x1), (2, .int x2), (3, .int x3)] → W p l e ({ frames := 7, cells := CS.hs R.2 - z9h, slots := 17 * (CS.hs R.2 - z9h), locals := 60 * 7 }) s m args below meth c H locs (CS.hs σ - z9h) (17 * (CS.hs σ - z9h)) (MQ below (va_Qi (fun (r : Int32) (_ : Unit) => r = R.1) (fun (_ : Unit) (t : State) => zPost dC dI A (cW Q R.2) (cT Q) t ∧ t.heap.size = CS.hs R.2) A) args s (CS.hs R.2 - z9h) (17 * (CS.hs R.2 - z9h)) A) (F0 m 2 ls []) := by
  intro n9
  induction n9 with
  | zero => intro σ x1 x2 x3 H locs ls hf; exact absurd hf (by intro q9; cases q9)
  | succ n9 ih =>
    intro σ x1 x2 x3 H locs ls hf h0 hC hl
    replace hf : b_X3_perform_2 N (f_X3_perform_2 N n9) σ x1 x2 x3 = some R := hf
    unfold b_X3_perform_2 at hf
    have hMK := fun (σ : CS) (x1 : Int32) (x2 : Int32) (x3 : Int32) => m_X3_perform_2 N n9 σ x1 x2 x3
    refine lv_iload_n hx hb dX3_perform_2 rfl (lv_at hl 3 rfl) ?_
    refine lv_aload_n hx hb dX3_perform_3 rfl (lv_at hl 0 rfl) ?_
    refine cG_58 hx hb hts i_X3_perform_X3 hown hK hC (hts (.fieldLink RX3 40 "StatementRules2$Machine" "code" "LStatementRules2$Code;") k_X3_perform_fieldLink_RX3_40_SR_Machine_code_LSR_Code) (fun _ q9 => q9) dX3_perform_4 ?_
    refine cGN_23 (v := (σ.i 23)) hx hb hts i_X3_perform_X0 hown hK hC (va_Nw.use rfl (hZ.1 (.fieldLinkNest RX3 44 "StatementRules2$Code" "cellCount" "I" "StatementRules2") (by decide +kernel))) (fun _ q9 => q9) dX3_perform_7 rfl ?_
    refine lv_icmp_ge (tgt := 35) hx hb dX3_perform_10 (by decide) (fun c1 => ?_) (fun c1 => ?_)
    ·
      replace hf := (if_pos c1).symm.trans hf
      exact j_X3_perform_35 l dC dI Q N z9h R hx hb hr hml hown hts hlocks hZ hA hK σ x1 x2 _ _ _ hf h0 hC (lv_sub hl [0, 1, 2] rfl)
    ·
      replace hf := (if_neg c1).symm.trans hf
      refine lv_iload_n hx hb dX3_perform_13 rfl (lv_at hl 3 rfl) ?_
      refine lv_aload_n hx hb dX3_perform_14 rfl (lv_at hl 0 rfl) ?_
      refine cG_59 hx hb hts i_X3_perform_X3 hown hK hC (hts (.fieldLink RX3 9 "StatementRules2$Machine" "cells" "[I") k_X3_perform_fieldLink_RX3_9_SR_Machine_cells_I) (fun _ q9 => q9) dX3_perform_15 ?_
      refine va_alen (v := 720) hx hb hK hC.1 24 0 rfl rfl rfl dX3_perform_18 ?_
      refine lv_icmp_ge (tgt := 35) hx hb dX3_perform_19 (by decide) (fun c13 => ?_) (fun c13 => ?_)
      ·
        replace hf := (if_pos c13).symm.trans hf
        exact j_X3_perform_35 l dC dI Q N z9h R hx hb hr hml hown hts hlocks hZ hA hK σ x1 x2 _ _ _ hf h0 hC (lv_sub hl [0, 1, 2] rfl)
      ·
        replace hf := (if_neg c13).symm.trans hf
        refine lv_aload_n hx hb dX3_perform_22 rfl (lv_at hl 0 rfl) ?_
        refine cG_59 hx hb hts i_X3_perform_X3 hown hK hC (hts (.fieldLink RX3 9 "StatementRules2$Machine" "cells" "[I") k_X3_perform_fieldLink_RX3_9_SR_Machine_cells_I) (fun _ q9 => q9) dX3_perform_23 ?_
        refine lv_iload_n hx hb dX3_perform_26 rfl (lv_at hl 3 rfl) ?_
        refine lv_iconst (v := 0) hx hb dX3_perform_27 (by decide) ?_
        obtain ⟨b14, hf⟩ := hf_ite hf
        refine cS_59 hx hb hK hC b14 dX3_perform_28 (fun H locs hC => ?_)
        refine lv_iinc (v := (x3 + 1)) (lv' := [(3, .int (x3 + 1)), (0, .ref (Q.o 7)), (1, .int x1), (2, .int x2)]) hx hb dX3_perform_29 hl (k := 3) rfl rfl (by decide) rfl (fun ls hl => ?_)
        refine lv_goto (tgt := 2) hx hb dX3_perform_32 (by decide) ?_
        exact ih (CS.setA σ 59 ((x3 : Int32).toNatClampNeg) 0) x1 x2 (x3 + 1) _ _ _ hf h0 hC (lv_sub hl [1, 2, 3, 0] rfl)
set_option maxHeartbeats 4000000 in
set_option maxRecDepth 100000 in
theorem c_X3_perform (l : Launch) (dC : Nat → ClassId) (dI : Nat → Nat → Nat) (Q : CQ) (N : Nat) (σ : CS) (x1 : Int32) (x2 : Int32) (R : Int32 × CS) (hf : f_X3_perform N σ x1 x2 = some R) : Met l yX3_perform wzX3_perform ({ frames := 7, cells := CS.hs R.2 - CS.hs σ, slots := 17 * (CS.hs R.2 - CS.hs σ), locals := 60 * 7 }) (va_Pc [.ref (Q.o 7), .int x1, .int x2] (zPre dC dI (CS.hs σ) (cW Q σ) (cT Q))) (va_Qi (fun (r : Int32) (_ : Unit) => r = R.1) (fun (_ : Unit) (t : State) => zPost dC dI (va_A (cW Q σ) (CS.hs σ)) (cW Q R.2) (cT Q) t ∧ t.heap.size = CS.hs R.2) (va_A (cW Q σ) (CS.hs σ))) (CS.hs R.2 - CS.hs σ) (17 * (CS.hs R.2 - CS.hs σ)) (va_A (cW Q σ) (CS.hs σ)) := by
  refine Met.ofW (cc := cX3_perform) (maxL := 4) (ret := (some .int)) (by decide) rfl ?_
  intro p e s m args below meth c s₁ B hml hv
  obtain ⟨rfl, hsz, hZ, hP, hK, hD0⟩ := hv
  have hx := B.exec
  have hb := B.bytes
  have hr := B.returns
  have hts := atoms_spec (ws := wzX3_perform) B.pre
  have hown : s.vm.findClass RX3 = some m.cls := findClass_of_methodNamed B.named
  have hlocks := B.notSynchronized
  have hD := hD0.self (sz := CS.hs σ)
  generalize hAe : va_A (cW Q σ) (CS.hs σ) = A at hD ⊢
  have hA : ∀ q : Nat, s.heap.size ≤ q → A q := fun q h => by rw [← hAe]; exact Or.inr (hsz ▸ h)
  have hC : CP dC dI Q A s.heap σ s.heap [] := ⟨hP, hD, va_S.rf, hsz⟩
  have h0 : CS.hs σ ≤ CS.hs σ := Nat.le_refl _
  have hl := lv_entry ([.ref (Q.o 7), .int x1, .int x2]) (n := 4) (Nat.le_of_ble_eq_true rfl)
  rw [lg_entry_eq]
  generalize (lg_sl ([.ref (Q.o 7), .int x1, .int x2]) ++ List.replicate (4 - (lg_sl ([.ref (Q.o 7), .int x1, .int x2])).length) Slot.unset).toArray = ls at hl ⊢
  have hl : lv_has ls 4 [(0, .ref (Q.o 7)), (1, .int x1), (2, .int x2)] := hl
  unfold f_X3_perform at hf
  refine W.widen (k := CS.hs σ - CS.hs σ) (n := 17 * (CS.hs σ - CS.hs σ)) (Nat.zero_le _) (Nat.zero_le _) ?_
  refine lv_iconst (v := 0) hx hb dX3_perform_0 (by decide) ?_
  refine lv_istore_n (lv' := [(3, .int 0), (0, .ref (Q.o 7)), (1, .int x1), (2, .int x2)]) hx hb dX3_perform_1 rfl hl (by decide) rfl (fun ls hl => ?_)
  exact j_X3_perform_2 l dC dI Q N (CS.hs σ) R hx hb hr hml hown hts hlocks hZ hA hK N σ x1 x2 0 _ _ _ hf h0 hC (lv_sub hl [1, 2, 3, 0] rfl)
theorem k_X3_lastThrown_fieldLink_RX3_85_SR_Machine_outcome_I : Cond.fieldLink RX3 85 "StatementRules2$Machine" "outcome" "I" ∈ wzX3_lastThrown := List.mem_cons_of_mem _ (List.mem_append_left _ (List.mem_of_getElem? (i := 0) rfl))
theorem i_X3_lastThrown_X3 : ∀ w ∈ wsX30, w ∈ wzX3_lastThrown := fun _ h => List.mem_cons_of_mem _ (List.mem_append_right _ (List.mem_append_left _ (h)))
theorem k_X3_lastThrown_fieldLink_RX3_81_SR_Machine_wayThrown_LSR_Thrown : Cond.fieldLink RX3 81 "StatementRules2$Machine" "wayThrown" "LStatementRules2$Thrown;" ∈ wzX3_lastThrown := List.mem_cons_of_mem _ (List.mem_append_left _ (List.mem_of_getElem? (i := 1) rfl))
set_option maxHeartbeats 4000000 in
set_option maxRecDepth 100000 in
theorem c_X3_lastThrown (l : Launch) (dC : Nat → ClassId) (dI : Nat → Nat → Nat) (Q : CQ) (N : Nat) (σ : CS) (R : Option Nat × CS) (hf : f_X3_lastThrown N σ = some R) : Met l yX3_lastThrown wzX3_lastThrown ({ frames := 1, cells := CS.hs R.2 - CS.hs σ, slots := 17 * (CS.hs R.2 - CS.hs σ), locals := 60 * 1 }) (va_Pc [.ref (Q.o 7)] (zPre dC dI (CS.hs σ) (cW Q σ) (cT Q))) (va_Qq (fun (r : Option Nat) (_ : Unit) => r = R.1) (fun (_ : Unit) (t : State) => zPost dC dI (va_A (cW Q σ) (CS.hs σ)) (cW Q R.2) (cT Q) t ∧ t.heap.size = CS.hs R.2) (va_A (cW Q σ) (CS.hs σ))) (CS.hs R.2 - CS.hs σ) (17 * (CS.hs R.2 - CS.hs σ)) (va_A (cW Q σ) (CS.hs σ)) := by
  refine Met.ofW (cc := cX3_lastThrown) (maxL := 1) (ret := (some (.object "StatementRules2$Thrown"))) (by decide) rfl ?_
  intro p e s m args below meth c s₁ B hml hv
  obtain ⟨rfl, hsz, hZ, hP, hK, hD0⟩ := hv
  have hx := B.exec
  have hb := B.bytes
  have hr := B.returns
  have hts := atoms_spec (ws := wzX3_lastThrown) B.pre
  have hown : s.vm.findClass RX3 = some m.cls := findClass_of_methodNamed B.named
  have hlocks := B.notSynchronized
  have hD := hD0.self (sz := CS.hs σ)
  generalize hAe : va_A (cW Q σ) (CS.hs σ) = A at hD ⊢
  have hA : ∀ q : Nat, s.heap.size ≤ q → A q := fun q h => by rw [← hAe]; exact Or.inr (hsz ▸ h)
  have hC : CP dC dI Q A s.heap σ s.heap [] := ⟨hP, hD, va_S.rf, hsz⟩
  have h0 : CS.hs σ ≤ CS.hs σ := Nat.le_refl _
  have hl := lv_entry ([.ref (Q.o 7)]) (n := 1) (Nat.le_of_ble_eq_true rfl)
  rw [lg_entry_eq]
  generalize (lg_sl ([.ref (Q.o 7)]) ++ List.replicate (1 - (lg_sl ([.ref (Q.o 7)])).length) Slot.unset).toArray = ls at hl ⊢
  have hl : lv_has ls 1 [(0, .ref (Q.o 7))] := hl
  unfold f_X3_lastThrown at hf
  refine W.widen (k := CS.hs σ - CS.hs σ) (n := 17 * (CS.hs σ - CS.hs σ)) (Nat.zero_le _) (Nat.zero_le _) ?_
  refine lv_aload_n hx hb dX3_lastThrown_0 rfl (lv_at hl 0 rfl) ?_
  refine cG_72 (v := (σ.i 72)) hx hb hts i_X3_lastThrown_X3 hown hK hC (hts (.fieldLink RX3 85 "StatementRules2$Machine" "outcome" "I") k_X3_lastThrown_fieldLink_RX3_85_SR_Machine_outcome_I) (fun _ q9 => q9) dX3_lastThrown_1 rfl ?_
  refine lv_iconst (v := 2) hx hb dX3_lastThrown_4 (by decide) ?_
  refine lv_icmp_ne (tgt := 15) hx hb dX3_lastThrown_5 (by decide) (fun c1 => ?_) (fun c1 => ?_)
  ·
    replace hf := (if_neg c1).symm.trans hf
    refine lv_null hx hb dX3_lastThrown_15 ?_
    obtain rfl := Option.some.inj hf
    exact W.aret (v := .null) hx hb hr (Or.inl ⟨_, rfl⟩) (Or.inl rfl) (fun t ht hW => ⟨⟨none, (), rfl, rfl, ⟨by rw [ht]; exact hC.1, va_K.moved hW.alike hK, hC.2.1⟩, by rw [ht]; exact hC.2.2.2⟩, hC.2.2.1.F ht⟩) hC.2.2.1.2.2 dX3_lastThrown_16
  ·
    replace hf := (if_pos c1).symm.trans hf
    refine lv_aload_n hx hb dX3_lastThrown_8 rfl (lv_at hl 0 rfl) ?_
    refine cG_76 (v := (CS.w σ)) hx hb hts i_X3_lastThrown_X3 hown hK hC (hts (.fieldLink RX3 81 "StatementRules2$Machine" "wayThrown" "LStatementRules2$Thrown;") k_X3_lastThrown_fieldLink_RX3_81_SR_Machine_wayThrown_LSR_Thrown) (fun _ q9 => q9) dX3_lastThrown_9 rfl ?_
    rcases hf_oc hf with ⟨q2, hf⟩ | ⟨a3, q2, hf⟩
    ·
      refine W.eq (congrArg (fun v9 => F0 m 12 ls (va_rf v9 :: [])) q2) ?_
      refine W.eq (g2 := F0 m 12 ls (.null :: [])) rfl ?_
      refine lv_goto (tgt := 16) hx hb dX3_lastThrown_12 (by decide) ?_
      obtain rfl := Option.some.inj hf
      exact W.aret (v := .null) hx hb hr (Or.inl ⟨_, rfl⟩) (Or.inl rfl) (fun t ht hW => ⟨⟨none, (), rfl, rfl, ⟨by rw [ht]; exact hC.1, va_K.moved hW.alike hK, hC.2.1⟩, by rw [ht]; exact hC.2.2.2⟩, hC.2.2.1.F ht⟩) hC.2.2.1.2.2 dX3_lastThrown_16
    ·
      refine W.eq (congrArg (fun v9 => F0 m 12 ls (va_rf v9 :: [])) q2) ?_
      refine W.eq (g2 := F0 m 12 ls (.ref a3 :: [])) rfl ?_
      refine lv_goto (tgt := 16) hx hb dX3_lastThrown_12 (by decide) ?_
      obtain rfl := Option.some.inj hf
      exact W.aret (v := .ref a3) hx hb hr (Or.inl ⟨_, rfl⟩) (Or.inr ⟨_, rfl⟩) (fun t ht hW => ⟨⟨(some a3), (), rfl, rfl, ⟨by rw [ht]; exact hC.1, va_K.moved hW.alike hK, hC.2.1⟩, by rw [ht]; exact hC.2.2.2⟩, hC.2.2.1.F ht⟩) hC.2.2.1.2.2 dX3_lastThrown_16
