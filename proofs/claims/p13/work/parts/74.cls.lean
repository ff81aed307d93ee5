theorem i_X7_bodyTurn_X5 : ∀ w ∈ wsX50, w ∈ wzX7_bodyTurn := fun _ h => List.mem_cons_of_mem _ (List.mem_append_right _ (List.mem_append_right _ (List.mem_append_right _ (List.mem_append_right _ (List.mem_append_right _ (List.mem_append_right _ (List.mem_append_right _ (List.mem_append_right _ (List.mem_append_right _ (List.mem_append_right _ (List.mem_append_right _ (List.mem_append_right _ (List.mem_append_right _ (List.mem_append_right _ (List.mem_append_right _ (List.mem_append_right _ (List.mem_append_right _ (List.mem_append_right _ (List.mem_append_right _ (List.mem_append_right _ (List.mem_append_right _ (List.mem_append_right _ (List.mem_append_right _ (List.mem_append_right _ (List.mem_append_right _ (List.mem_append_right _ (List.mem_append_right _ (List.mem_append_right _ (List.mem_append_right _ (List.mem_append_right _ (List.mem_append_right _ (List.mem_append_right _ (List.mem_append_right _ (List.mem_append_right _ (List.mem_append_right _ (List.mem_append_right _ (List.mem_append_right _ (List.mem_append_right _ (List.mem_append_right _ (List.mem_append_right _ (List.mem_append_right _ (List.mem_append_left _ (h)))))))))))))))))))))))))))))))))))))))))))
set_option maxHeartbeats 4000000 in
set_option maxRecDepth 100000 in
theorem c_X7_bodyTurn (l : Launch) (dC : Nat → ClassId) (dI : Nat → Nat → Nat) (Q : CQ) (N : Nat) (d : Nat) (E1 : CS → Option (Unit × CS)) (E2 : CS → Option (Int32 × CS)) (hE1 : cMF l dC dI Q d E1) (hE2 : cMO l dC dI Q d E2) (hm1 : ∀ σ, Mono (CS.hs σ) (E1 σ)) (hm2 : ∀ σ, Mono (CS.hs σ) (E2 σ)) (σ : CS) (x1 : Nat) (R : Unit × CS) (hf : f_X7_bodyTurn N E1 E2 σ x1 = some R) : Met l yX7_bodyTurn wzX7_bodyTurn ({ frames := (20 + 40 * d), cells := CS.hs R.2 - CS.hs σ, slots := 17 * (CS.hs R.2 - CS.hs σ), locals := 60 * (20 + 40 * d) }) (va_Pc [.ref (Q.o 3), .ref x1] (zPre dC dI (CS.hs σ) (cW Q σ) (cT Q))) (va_Qv (fun (_ : Unit) => True) (fun (_ : Unit) (t : State) => zPost dC dI (va_A (cW Q σ) (CS.hs σ)) (cW Q R.2) (cT Q) t ∧ t.heap.size = CS.hs R.2) (va_A (cW Q σ) (CS.hs σ))) (CS.hs R.2 - CS.hs σ) (17 * (CS.hs R.2 - CS.hs σ)) (va_A (cW Q σ) (CS.hs σ)) := by
  refine Met.ofW (cc := cX7_bodyTurn) (maxL := 2) (ret := none) (by decide) rfl ?_
  intro p e s m args below meth c s₁ B hml hv
  obtain ⟨rfl, hsz, hZ, hP, hK, hD0⟩ := hv
  have hx := B.exec
  have hb := B.bytes
  have hr := B.returns
  have hts := atoms_spec (ws := wzX7_bodyTurn) B.pre
  have hown : s.vm.findClass RX7 = some m.cls := findClass_of_methodNamed B.named
  have hlocks := B.notSynchronized
  have hD := hD0.self (sz := CS.hs σ)
  generalize hAe : va_A (cW Q σ) (CS.hs σ) = A at hD ⊢
  have hA : ∀ q : Nat, s.heap.size ≤ q → A q := fun q h => by rw [← hAe]; exact Or.inr (hsz ▸ h)
  have hC : CP dC dI Q A s.heap σ s.heap [] := ⟨hP, hD, va_S.rf, hsz⟩
  have h0 : CS.hs σ ≤ CS.hs σ := Nat.le_refl _
  have hl := lv_entry ([.ref (Q.o 3), .ref x1]) (n := 2) (Nat.le_of_ble_eq_true rfl)
  rw [lg_entry_eq]
  generalize (lg_sl ([.ref (Q.o 3), .ref x1]) ++ List.replicate (2 - (lg_sl ([.ref (Q.o 3), .ref x1])).length) Slot.unset).toArray = ls at hl ⊢
  have hl : lv_has ls 2 [(0, .ref (Q.o 3)), (1, .ref x1)] := hl
  unfold f_X7_bodyTurn at hf
  refine W.widen (k := CS.hs σ - CS.hs σ) (n := 17 * (CS.hs σ - CS.hs σ)) (Nat.zero_le _) (Nat.zero_le _) ?_
  refine lv_aload_n hx hb dX7_bodyTurn_0 rfl (lv_at hl 1 rfl) ?_
  obtain ⟨b1, hf⟩ := hf_ite hf
  refine pGN_X5_5 (v := (CS.o σ x1 5)) hx hb hts i_X7_bodyTurn_X5 hown hK hC (va_Nw.use rfl (hZ.1 (.fieldLinkNest RX7 130 "StatementRules2$Open" "begun" "Z" "StatementRules2") (by decide +kernel))) (fun _ q9 => q9) dX7_bodyTurn_1 b1 rfl ?_
  refine lv_if_eq (tgt := 15) hx hb dX7_bodyTurn_4 (by decide) (fun c2 => ?_) (fun c2 => ?_)
  ·
    replace hf := (if_pos c2).symm.trans hf
    refine lv_aload_n hx hb dX7_bodyTurn_15 rfl (lv_at hl 1 rfl) ?_
    refine lv_iconst (v := 1) hx hb dX7_bodyTurn_16 (by decide) ?_
    refine pPN_X5_5 (v := 1) hx hb hts i_X7_bodyTurn_X5 hown hK hC (va_Nw.use rfl (hZ.1 (.fieldLinkNest RX7 130 "StatementRules2$Open" "begun" "Z" "StatementRules2") (by decide +kernel))) (fun _ q9 => q9) dX7_bodyTurn_17 b1 (by decide) (fun H locs hC => ?_)
    refine lv_aload_n hx hb dX7_bodyTurn_20 rfl (lv_at hl 0 rfl) ?_
    refine lv_iconst (v := 1) hx hb dX7_bodyTurn_21 (by decide) ?_
    obtain ⟨p3, hcp3, hf⟩ := hf_bind hf
    have mo4 : CS.hs σ ≤ CS.hs p3.2 := Mono.go hcp3 (m_X7_statement N E1 E2 hm1 hm2 (CS.setO σ x1 5 1) 1)
    have hr9 : CS.hs p3.2 ≤ CS.hs R.2 := Mono.go hf (mono_some (Nat.le_refl _))
    have hFc := cFree hC hA
    refine va_callv (va_runV (As := [.int 1]) (rest := []) ⟨hx, hb, hml, hown, hts⟩ (c_X7_statement l dC dI Q N d E1 E2 hE1 hE2 hm1 hm2 (CS.setO σ x1 5 1) 1 p3 hcp3) (cwV 1 hts hX7_bodyTurn_X7_statement_v126 rfl rfl rfl (by decide +kernel) ⟨(show (19 + 40 * d) + 1 ≤ (20 + 40 * d) by omega), (show 8 + (2 + 11) + 60 * (19 + 40 * d) ≤ 60 * (20 + 40 * d) by omega)⟩) ⟨zPre.blind, va_recv hK hC.1 (ci := 6) (q0 := 3) rfl rfl, cPre_go hZ hK hC⟩ rfl rfl hl.1 rfl (lv_room (Nat.le_of_ble_eq_true rfl)) dX7_bodyTurn_22 (cAcc h0 mo4 hr9)) hC.2.2.1 (fun q _ h => hFc q h) hFc (fun u9 t9 H1 locs ht hvm hw hB hz1 hk1 hS => ?_)
    obtain ⟨⟨hP, hK1, hD1⟩, hsz1⟩ := hB
    rw [ht] at hP hsz1
    have hC : CP dC dI Q A s.heap p3.2 H1 locs := ⟨hP, hD1.weaken (fun _ _ _ h => hFc _ h), hS, hsz1⟩
    generalize H1 = H at hC ⊢
    have h6 : (CS.hs σ) ≤ CS.hs p3.2 := Nat.le_trans h0 mo4
    refine W.widen (k := CS.hs p3.2 - (CS.hs σ)) (n := 17 * (CS.hs p3.2 - (CS.hs σ))) (cAcc2 h0 mo4) (cAcc3 h0 mo4) ?_
    obtain rfl := Option.some.inj hf
    exact W.vret hx hb hr (fun t ht hW => ⟨⟨(), rfl, trivial, ⟨by rw [ht]; exact hC.1, va_K.moved hW.alike hK, hC.2.1⟩, by rw [ht]; exact hC.2.2.2⟩, hC.2.2.1.F ht⟩) hC.2.2.1.2.2 dX7_bodyTurn_25
  ·
    replace hf := (if_neg c2).symm.trans hf
    refine lv_aload_n hx hb dX7_bodyTurn_7 rfl (lv_at hl 0 rfl) ?_
    refine lv_aload_n hx hb dX7_bodyTurn_8 rfl (lv_at hl 1 rfl) ?_
    obtain ⟨p7, hcp7, hf⟩ := hf_bind hf
    have mo8 : CS.hs σ ≤ CS.hs p7.2 := Mono.go hcp7 (m_X7_endBody N E1 E2 hm1 hm2 σ x1)
    have hr9 : CS.hs p7.2 ≤ CS.hs R.2 := Mono.go hf (mono_some (Nat.le_refl _))
    have hFc := cFree hC hA
    refine va_callv (va_runV (As := [.ref x1]) (rest := []) ⟨hx, hb, hml, hown, hts⟩ (c_X7_endBody l dC dI Q N d E1 E2 hE1 hE2 hm1 hm2 σ x1 p7 hcp7) (cwV 1 hts hX7_bodyTurn_X7_endBody_v133 rfl rfl rfl (by decide +kernel) ⟨(show (15 + 40 * d) + 1 ≤ (20 + 40 * d) by omega), (show 8 + (2 + 11) + 60 * (15 + 40 * d) ≤ 60 * (20 + 40 * d) by omega)⟩) ⟨zPre.blind, va_recv hK hC.1 (ci := 6) (q0 := 3) rfl rfl, cPre_go hZ hK hC⟩ rfl rfl hl.1 rfl (lv_room (Nat.le_of_ble_eq_true rfl)) dX7_bodyTurn_9 (cAcc h0 mo8 hr9)) hC.2.2.1 (fun q _ h => hFc q h) hFc (fun u9 t9 H1 locs ht hvm hw hB hz1 hk1 hS => ?_)
    obtain ⟨⟨hP, hK1, hD1⟩, hsz1⟩ := hB
    rw [ht] at hP hsz1
    have hC : CP dC dI Q A s.heap p7.2 H1 locs := ⟨hP, hD1.weaken (fun _ _ _ h => hFc _ h), hS, hsz1⟩
    generalize H1 = H at hC ⊢
    have h10 : (CS.hs σ) ≤ CS.hs p7.2 := Nat.le_trans h0 mo8
    refine W.widen (k := CS.hs p7.2 - (CS.hs σ)) (n := 17 * (CS.hs p7.2 - (CS.hs σ))) (cAcc2 h0 mo8) (cAcc3 h0 mo8) ?_
    refine lv_goto (tgt := 25) hx hb dX7_bodyTurn_12 (by decide) ?_
    obtain rfl := Option.some.inj hf
    exact W.vret hx hb hr (fun t ht hW => ⟨⟨(), rfl, trivial, ⟨by rw [ht]; exact hC.1, va_K.moved hW.alike hK, hC.2.1⟩, by rw [ht]; exact hC.2.2.2⟩, hC.2.2.1.F ht⟩) hC.2.2.1.2.2 dX7_bodyTurn_25
theorem k_X10_isUnder_fieldLink_RX10_9_SR_Told_above_I : Cond.fieldLink RX10 9 "StatementRules2$Told" "above" "[I" ∈ wzX10_isUnder := List.mem_cons_of_mem _ (List.mem_append_left _ (List.mem_of_getElem? (i := 0) rfl))
theorem i_X10_isUnder_X10 : ∀ w ∈ wsX100, w ∈ wzX10_isUnder := fun _ h => List.mem_cons_of_mem _ (List.mem_append_right _ (List.mem_append_left _ (h)))
theorem k_X10_isUnder_initialized_RX11 : Cond.initialized RX11 ∈ wzX10_isUnder := List.mem_cons_of_mem _ (List.mem_append_left _ (List.mem_of_getElem? (i := 1) rfl))
theorem k_X10_isUnder_static_yX11_at : Cond.static yX11_at ∈ wzX10_isUnder := List.mem_cons_of_mem _ (List.mem_append_left _ (List.mem_of_getElem? (i := 2) rfl))
set_option maxHeartbeats 4000000 in
set_option maxRecDepth 100000 in
theorem j_X10_isUnder_38 {p : Program} {e : Env} {s : State} {m : MethodId} {args : Array Value} {below : List Frame} {meth : Method} {c : Code} {A : Nat → Prop} (l : Launch) (dC : Nat → ClassId) (dI : Nat → Nat → Nat) (Q : CQ) (N : Nat) (z9h : Nat) (R : Int32 × CS) (hx : p.tables.exec = Jvm.exec) (hb : c.code = cX10_isUnder) (hr : meth.sig.returnType = (some .boolean)) (hml : c.maxLocals = 5) (hown : s.vm.findClass RX10 = some m.cls) (hts : ∀ w ∈ wzX10_isUnder, w.before args s = true) (hlocks : meth.locks = false) (hZ : zAMB s) (hA : ∀ q : Nat, s.heap.size ≤ q → A q) (hK : va_K (dC, dI) vwCl (cT Q) s) : ∀ (σ : CS) (H : Heap) (locs : List Loc) (ls : Array Slot), f_X10_isUnder_38 N σ = some R → z9h ≤ CS.hs σ → CP dC dI Q A s.heap σ H locs → lv_has ls 5 [] → W p l e ({ frames := 2, cells := CS.hs R.2 - z9h, slots := 17 * (CS.hs R.2 - z9h), locals := 60 * 2 }) s m args below meth c H locs (CS.hs σ - z9h) (17 * (CS.hs σ - z9h)) (MQ below (va_Qi (fun (r : Int32) (_ : Unit) => r = R.1) (fun (_ : Unit) (t : State) => zPost dC dI A (cW Q R.2) (cT Q) t ∧ t.heap.size = CS.hs R.2) A) args s (CS.hs R.2 - z9h) (17 * (CS.hs R.2 - z9h)) A) (F0 m 38 ls []) := by
  intro σ  H locs ls hf h0 hC hl
  unfold f_X10_isUnder_38 at hf
  refine lv_iconst (v := 0) hx hb dX10_isUnder_38 (by decide) ?_
  obtain rfl := Option.some.inj hf
  exact W.zret (v := 0) hx hb hr (rfl) (fun t ht hW => ⟨⟨0, (), rfl, rfl, ⟨by rw [ht]; exact hC.1, va_K.moved hW.alike hK, hC.2.1⟩, by rw [ht]; exact hC.2.2.2⟩, hC.2.2.1.F ht⟩) hC.2.2.1.2.2 dX10_isUnder_39
set_option maxHeartbeats 4000000 in
set_option maxRecDepth 100000 in
theorem j_X10_isUnder_5 {p : Program} {e : Env} {s : State} {m : MethodId} {args : Array Value} {below : List Frame} {meth : Method} {c : Code} {A : Nat → Prop} (l : Launch) (dC : Nat → ClassId) (dI : Nat → Nat → Nat) (Q : CQ) (N : Nat) (z9h : Nat) (R : Int32 × CS) (hx : p.tables.exec = Jvm.exec) (hb : c.code = cX10_isUnder) (hr : meth.sig.returnType = (some .boolean)) (hml : c.maxLocals = 5) (hown : s.vm.findClass RX10 = some m.cls) (hts : ∀ w ∈ wzX10_isUnder, w.before args s = true) (hlocks : meth.locks = false) (hZ : zAMB s) (hA : ∀ q : Nat, s.heap.size ≤ q → A q) (hK : va_K (dC, dI) vwCl (cT Q) s) : ∀ (n9 : Nat), ∀ (σ : CS) (x2 : Int32) (x3 : Int32) (x4 : Int32) (H : Heap) (locs : List Loc) (ls : Array Slot), f_X10_isUnder_5 N n9 σ x2 x3 x4 = some R → z9h ≤ CS.hs σ → CP dC dI Q A s.heap σ H locs → lv_has ls 5 [(0, .ref (Q.o 1)), (2, .int x2), (3, .int x3), (4, .int x4)] → W p l e ({ frames := 2, cells := CS.hs R.2 - z9h, slots := 17 * (CS.hs R.2 - z9h), locals := 60 * 2 }) s m args below meth c H locs (CS.hs σ - z9h) (17 * (CS.hs σ - z9h)) (MQ below (va_Qi (fun (r : Int32) (_ : Unit) => r = R.1) (fun (_ : Unit) (t : State) => zPost dC dI A (cW Q R.2) (cT Q) t ∧ t.heap.size = CS.hs R.2) A) args s (CS.hs R.2 - z9h) (17 * (CS.hs R.2 - z9h)) A) (F0 m 5 ls []) := by
  intro n9
  induction n9 with
  | zero => intro σ x2 x3 x4 H locs ls hf; exact absurd hf (by intro q9; cases q9)
  | succ n9 ih =>
    intro σ x2 x3 x4 H locs ls hf h0 hC hl
    replace hf : b_X10_isUnder_5 N (f_X10_isUnder_5 N n9) σ x2 x3 x4 = some R := hf
    unfold b_X10_isUnder_5 at hf
    have hMK := fun (σ : CS) (x2 : Int32) (x3 : Int32) (x4 : Int32) => m_X10_isUnder_5 N n9 σ x2 x3 x4
    refine lv_iload hx hb dX10_isUnder_5 (lv_at hl 3 rfl) ?_
    refine lv_bipush (v := 12) hx hb dX10_isUnder_7 (by decide) ?_
    refine lv_icmp_ge (tgt := 38) hx hb dX10_isUnder_9 (by decide) (fun c1 => ?_) (fun c1 => ?_)
    ·
      replace hf := (if_pos c1).symm.trans hf
      exact j_X10_isUnder_38 l dC dI Q N z9h R hx hb hr hml hown hts hlocks hZ hA hK σ _ _ _ hf h0 hC (lv_sub hl [] rfl)
    ·
      replace hf := (if_neg c1).symm.trans hf
      refine lv_iload_n hx hb dX10_isUnder_12 rfl (lv_at hl 2 rfl) ?_
      refine lv_if_lt (tgt := 38) hx hb dX10_isUnder_13 (by decide) (fun c2 => ?_) (fun c2 => ?_)
      ·
        replace hf := (if_pos c2).symm.trans hf
        exact j_X10_isUnder_38 l dC dI Q N z9h R hx hb hr hml hown hts hlocks hZ hA hK σ _ _ _ hf h0 hC (lv_sub hl [] rfl)
      ·
        replace hf := (if_neg c2).symm.trans hf
        refine lv_iload_n hx hb dX10_isUnder_16 rfl (lv_at hl 2 rfl) ?_
        refine lv_iload_n hx hb dX10_isUnder_17 rfl (lv_at hl 1 rfl) ?_
        refine lv_icmp_ne (tgt := 23) hx hb dX10_isUnder_18 (by decide) (fun c3 => ?_) (fun c3 => ?_)
        ·
          replace hf := (if_neg c3).symm.trans hf
          refine lv_aload_n hx hb dX10_isUnder_23 rfl (lv_at hl 0 rfl) ?_
          refine cG_9 hx hb hts i_X10_isUnder_X10 hown hK hC (hts (.fieldLink RX10 9 "StatementRules2$Told" "above" "[I") k_X10_isUnder_fieldLink_RX10_9_SR_Told_above_I) (fun _ q9 => q9) dX10_isUnder_24 ?_
          refine lv_iload_n hx hb dX10_isUnder_27 rfl (lv_at hl 2 rfl) ?_
          have he9 := (cArr_9 (Q := Q) (σ := σ))
          have hFc := cFree1 hC hA he9
          have hr9 : CS.hs σ ≤ CS.hs R.2 := Mono.go hf (hMK σ x2 (gAt (σ.a 9) 12 x3) (x4 + 1))
          refine va_calli (va_runSN (As := [.ref (Q.q 9), .int x3]) (rest := []) ⟨hx, hb, hml, hown, hts⟩ (c_X11_at l dC dI _ (Q.q 9) (Q.c 0) 12 (σ.a 9) x3 (by decide)) ⟨va_cnB 2 hts hX10_isUnder_X11_at_n32 rfl rfl rfl (hZ.1 (.methodLinkNest RX10 32 yX11_at "StatementRules2") (by decide +kernel)) (hts (.initialized RX11) k_X10_isUnder_initialized_RX11) (by decide +kernel) ⟨(show 1 + 1 ≤ 2 by omega), (show 8 + (2 + 11) + 60 * 1 ≤ 60 * 2 by omega)⟩, (hts (.static yX11_at) k_X10_isUnder_static_yX11_at), trivial⟩ ⟨zPre.blind, zPre.go hZ (cOne hC.1 he9) (hK.sub (tys' := [(Q.c 0, .int)]) [0] rfl) (cOneD hC.2.1 he9)⟩ rfl rfl hl.1 rfl (lv_room (Nat.le_of_ble_eq_true rfl)) dX10_isUnder_28 ⟨cAcc4 h0 hr9, cAcc5 h0 hr9⟩) hC.2.2.1 (fun q _ h => hFc q h) hFc (fun r4 u9 t9 H1 locs ht hvm hw hB hz1 hk1 hS => ?_)
          obtain ⟨⟨hP1, hK1, hD1⟩, hsz1⟩ := hB
          rw [ht] at hP1 hsz1
          have hC := cBack (σ' := σ) hC he9 (cSelf he9) (Eq.refl (CS.hs σ)) hk1 hP1 hsz1 hS
          generalize H1 = H at hC ⊢
          obtain rfl : r4 = (gAt (σ.a 9) 12 x3) := hw
          refine lv_istore_n (lv' := [(3, .int (gAt (σ.a 9) 12 x3)), (0, .ref (Q.o 1)), (2, .int x2), (4, .int x4)]) hx hb dX10_isUnder_31 rfl hl (by decide) rfl (fun ls hl => ?_)
          refine lv_iinc (v := (x4 + 1)) (lv' := [(4, .int (x4 + 1)), (3, .int (gAt (σ.a 9) 12 x3)), (0, .ref (Q.o 1)), (2, .int x2)]) hx hb dX10_isUnder_32 hl (k := 3) rfl rfl (by decide) rfl (fun ls hl => ?_)
          refine lv_goto (tgt := 5) hx hb dX10_isUnder_35 (by decide) ?_
          exact ih σ x2 (gAt (σ.a 9) 12 x3) (x4 + 1) _ _ _ hf h0 hC (lv_sub hl [2, 3, 1, 0] rfl)
        ·
          replace hf := (if_pos c3).symm.trans hf
          refine lv_iconst (v := 1) hx hb dX10_isUnder_21 (by decide) ?_
          obtain rfl := Option.some.inj hf
          exact W.zret (v := 1) hx hb hr (rfl) (fun t ht hW => ⟨⟨1, (), rfl, rfl, ⟨by rw [ht]; exact hC.1, va_K.moved hW.alike hK, hC.2.1⟩, by rw [ht]; exact hC.2.2.2⟩, hC.2.2.1.F ht⟩) hC.2.2.1.2.2 dX10_isUnder_22
set_option maxHeartbeats 4000000 in
set_option maxRecDepth 100000 in
theorem c_X10_isUnder (l : Launch) (dC : Nat → ClassId) (dI : Nat → Nat → Nat) (Q : CQ) (N : Nat) (σ : CS) (x1 : Int32) (x2 : Int32) (R : Int32 × CS) (hf : f_X10_isUnder N σ x1 x2 = some R) : Met l yX10_isUnder wzX10_isUnder ({ frames := 2, cells := CS.hs R.2 - CS.hs σ, slots := 17 * (CS.hs R.2 - CS.hs σ), locals := 60 * 2 }) (va_Pc [.ref (Q.o 1), .int x1, .int x2] (zPre dC dI (CS.hs σ) (cW Q σ) (cT Q))) (va_Qi (fun (r : Int32) (_ : Unit) => r = R.1) (fun (_ : Unit) (t : State) => zPost dC dI (va_A (cW Q σ) (CS.hs σ)) (cW Q R.2) (cT Q) t ∧ t.heap.size = CS.hs R.2) (va_A (cW Q σ) (CS.hs σ))) (CS.hs R.2 - CS.hs σ) (17 * (CS.hs R.2 - CS.hs σ)) (va_A (cW Q σ) (CS.hs σ)) := by
  refine Met.ofW (cc := cX10_isUnder) (maxL := 5) (ret := (some .boolean)) (by decide) rfl ?_
  intro p e s m args below meth c s₁ B hml hv
  obtain ⟨rfl, hsz, hZ, hP, hK, hD0⟩ := hv
  have hx := B.exec
  have hb := B.bytes
  have hr := B.returns
  have hts := atoms_spec (ws := wzX10_isUnder) B.pre
  have hown : s.vm.findClass RX10 = some m.cls := findClass_of_methodNamed B.named
  have hlocks := B.notSynchronized
  have hD := hD0.self (sz := CS.hs σ)
  generalize hAe : va_A (cW Q σ) (CS.hs σ) = A at hD ⊢
  have hA : ∀ q : Nat, s.heap.size ≤ q → A q := fun q h => by rw [← hAe]; exact Or.inr (hsz ▸ h)
  have hC : CP dC dI Q A s.heap σ s.heap [] := ⟨hP, hD, va_S.rf, hsz⟩
  have h0 : CS.hs σ ≤ CS.hs σ := Nat.le_refl _
  have hl := lv_entry ([.ref (Q.o 1), .int x1, .int x2]) (n := 5) (Nat.le_of_ble_eq_true rfl)
  rw [lg_entry_eq]
  generalize (lg_sl ([.ref (Q.o 1), .int x1, .int x2]) ++ List.replicate (5 - (lg_sl ([.ref (Q.o 1), .int x1, .int x2])).length) Slot.unset).toArray = ls at hl ⊢
  have hl : lv_has ls 5 [(0, .ref (Q.o 1)), (1, .int x1), (2, .int x2)] := hl
  unfold f_X10_isUnder at hf
  refine W.widen (k := CS.hs σ - CS.hs σ) (n := 17 * (CS.hs σ - CS.hs σ)) (Nat.zero_le _) (Nat.zero_le _) ?_
  refine lv_iload_n hx hb dX10_isUnder_0 rfl (lv_at hl 1 rfl) ?_
  refine lv_istore_n (lv' := [(3, .int x1), (0, .ref (Q.o 1)), (1, .int x1), (2, .int x2)]) hx hb dX10_isUnder_1 rfl hl (by decide) rfl (fun ls hl => ?_)
  refine lv_iconst (v := 0) hx hb dX10_isUnder_2 (by decide) ?_
  refine lv_istore (lv' := [(4, .int 0), (3, .int x1), (0, .ref (Q.o 1)), (1, .int x1), (2, .int x2)]) hx hb dX10_isUnder_3 hl (by decide) rfl (fun ls hl => ?_)
  exact j_X10_isUnder_5 l dC dI Q N (CS.hs σ) R hx hb hr hml hown hts hlocks hZ hA hK N σ x2 x1 0 _ _ _ hf h0 hC (lv_sub hl [2, 4, 1, 0] rfl)
theorem k_X7_caughtKind_fieldLink_RX7_71_SR_Statements_tokens_LSR_Tokens : Cond.fieldLink RX7 71 "StatementRules2$Statements" "tokens" "LStatementRules2$Tokens;" ∈ wzX7_caughtKind := List.mem_cons_of_mem _ (List.mem_append_left _ (List.mem_of_getElem? (i := 0) rfl))
theorem k_X7_caughtKind_sameField_SR_Statements_SR_Formulas_tokens_LSR_Tokens : Cond.sameField "StatementRules2$Statements" "StatementRules2$Formulas" "tokens" "LStatementRules2$Tokens;" ∈ wzX7_caughtKind := List.mem_cons_of_mem _ (List.mem_append_left _ (List.mem_of_getElem? (i := 1) rfl))
theorem i_X7_caughtKind_X7 : ∀ w ∈ wsX70, w ∈ wzX7_caughtKind := fun _ h => List.mem_cons_of_mem _ (List.mem_append_right _ (List.mem_append_left _ (h)))
theorem i_X7_caughtKind_X9 : ∀ w ∈ wsX90, w ∈ wzX7_caughtKind := fun _ h => List.mem_cons_of_mem _ (List.mem_append_right _ (List.mem_append_right _ (List.mem_append_left _ (h))))
theorem k_X7_caughtKind_fieldLink_RX7_300_SR_Statements_told_LSR_Told : Cond.fieldLink RX7 300 "StatementRules2$Statements" "told" "LStatementRules2$Told;" ∈ wzX7_caughtKind := List.mem_cons_of_mem _ (List.mem_append_left _ (List.mem_of_getElem? (i := 2) rfl))
theorem k_X7_caughtKind_sameField_SR_Statements_SR_Formulas_told_LSR_Told : Cond.sameField "StatementRules2$Statements" "StatementRules2$Formulas" "told" "LStatementRules2$Told;" ∈ wzX7_caughtKind := List.mem_cons_of_mem _ (List.mem_append_left _ (List.mem_of_getElem? (i := 3) rfl))
theorem i_X7_caughtKind_X5 : ∀ w ∈ wsX50, w ∈ wzX7_caughtKind := fun _ h => List.mem_cons_of_mem _ (List.mem_append_right _ (List.mem_append_right _ (List.mem_append_right _ (List.mem_append_left _ (h)))))
theorem k_X7_caughtKind_fieldLink_RX7_20_SR_Statements_code_LSR_Code : Cond.fieldLink RX7 20 "StatementRules2$Statements" "code" "LStatementRules2$Code;" ∈ wzX7_caughtKind := List.mem_cons_of_mem _ (List.mem_append_left _ (List.mem_of_getElem? (i := 4) rfl))
theorem k_X7_caughtKind_sameField_SR_Statements_SR_Formulas_code_LSR_Code : Cond.sameField "StatementRules2$Statements" "StatementRules2$Formulas" "code" "LStatementRules2$Code;" ∈ wzX7_caughtKind := List.mem_cons_of_mem _ (List.mem_append_left _ (List.mem_of_getElem? (i := 5) rfl))
set_option maxHeartbeats 4000000 in
set_option maxRecDepth 100000 in
theorem j_X7_caughtKind_47 {p : Program} {e : Env} {s : State} {m : MethodId} {args : Array Value} {below : List Frame} {meth : Method} {c : Code} {A : Nat → Prop} (l : Launch) (dC : Nat → ClassId) (dI : Nat → Nat → Nat) (Q : CQ) (N : Nat) (z9h : Nat) (R : Unit × CS) (hx : p.tables.exec = Jvm.exec) (hb : c.code = cX7_caughtKind) (hr : meth.sig.returnType = none) (hml : c.maxLocals = 5) (hown : s.vm.findClass RX7 = some m.cls) (hts : ∀ w ∈ wzX7_caughtKind, w.before args s = true) (hlocks : meth.locks = false) (hZ : zAMB s) (hA : ∀ q : Nat, s.heap.size ≤ q → A q) (hK : va_K (dC, dI) vwCl (cT Q) s) : ∀ (n9 : Nat), ∀ (σ : CS) (x1 : Nat) (x2 : Int32) (x3 : Int32) (x4 : Int32) (H : Heap) (locs : List Loc) (ls : Array Slot), f_X7_caughtKind_47 N n9 σ x1 x2 x3 x4 = some R → z9h ≤ CS.hs σ → CP dC dI Q A s.heap σ H locs → lv_has ls 5 [(0, .ref (Q.o 3)), (1, .ref x1), (2, .int x2), (3, .int x3), (4, .int x4)] → W p l e ({ frames := 4, cells := CS.hs R.2 - z9h, slots := 17 * (CS.hs R.2 - z9h), locals := 60 * 4 }) s m args below meth c H locs (CS.hs σ - z9h) (17 * (CS.hs σ - z9h)) (MQ below (va_Qv (fun (_ : Unit) => True) (fun (_ : Unit) (t : State) => zPost dC dI A (cW Q R.2) (cT Q) t ∧ t.heap.size = CS.hs R.2) A) args s (CS.hs R.2 - z9h) (17 * (CS.hs R.2 - z9h)) A) (F0 m 47 ls []) := by
  intro n9
  induction n9 with
  | zero => intro σ x1 x2 x3 x4 H locs ls hf; exact absurd hf (by intro q9; cases q9)
  | succ n9 ih =>
    intro σ x1 x2 x3 x4 H locs ls hf h0 hC hl
    replace hf : b_X7_caughtKind_47 N (f_X7_caughtKind_47 N n9) σ x1 x2 x3 x4 = some R := hf
    unfold b_X7_caughtKind_47 at hf
    have hMK := fun (σ : CS) (x1 : Nat) (x2 : Int32) (x3 : Int32) (x4 : Int32) => m_X7_caughtKind_47 N n9 σ x1 x2 x3 x4
    refine lv_iload hx hb dX7_caughtKind_47 (lv_at hl 4 rfl) ?_
    refine lv_bipush (v := 12) hx hb dX7_caughtKind_49 (by decide) ?_
    refine lv_icmp_ge (tgt := 99) hx hb dX7_caughtKind_51 (by decide) (fun c11 => ?_) (fun c11 => ?_)
    ·
      replace hf := (if_pos c11).symm.trans hf
      refine lv_aload_n hx hb dX7_caughtKind_99 rfl (lv_at hl 1 rfl) ?_
      refine lv_dup hx hb dX7_caughtKind_100 rfl ?_
      obtain ⟨b12, hf⟩ := hf_ite hf
      refine pGN_X5_12 (v := (CS.o σ x1 12)) hx hb hts i_X7_caughtKind_X5 hown hK hC (va_Nw.use rfl (hZ.1 (.fieldLinkNest RX7 394 "StatementRules2$Open" "caught" "I" "StatementRules2") (by decide +kernel))) (fun _ q9 => q9) dX7_caughtKind_101 b12 rfl ?_
      refine lv_iconst (v := 1) hx hb dX7_caughtKind_104 (by decide) ?_
      refine lv_iload_n hx hb dX7_caughtKind_105 rfl (lv_at hl 3 rfl) ?_
      refine lv_ishl hx hb dX7_caughtKind_106 ?_
      refine lv_ior hx hb dX7_caughtKind_107 ?_
      refine pPN_X5_12 (v := ((CS.o σ x1 12) ||| ((1 : Int32) <<< (x3 &&& 31)))) hx hb hts i_X7_caughtKind_X5 hown hK hC (va_Nw.use rfl (hZ.1 (.fieldLinkNest RX7 394 "StatementRules2$Open" "caught" "I" "StatementRules2") (by decide +kernel))) (fun _ q9 => q9) dX7_caughtKind_108 b12 (fun H locs hC => ?_)
      refine lv_aload_n hx hb dX7_caughtKind_111 rfl (lv_at hl 0 rfl) ?_
      refine cG_29 hx hb hts i_X7_caughtKind_X7 hown hK hC (hts (.fieldLink RX7 20 "StatementRules2$Statements" "code" "LStatementRules2$Code;") k_X7_caughtKind_fieldLink_RX7_20_SR_Statements_code_LSR_Code) (fun x9 q9 => u_same (hts (.sameField "StatementRules2$Statements" "StatementRules2$Formulas" "code" "LStatementRules2$Code;") k_X7_caughtKind_sameField_SR_Statements_SR_Formulas_code_LSR_Code) x9 q9) dX7_caughtKind_112 ?_
      refine lv_bipush (v := 56) hx hb dX7_caughtKind_115 (by decide) ?_
      refine lv_iload_n hx hb dX7_caughtKind_117 rfl (lv_at hl 2 rfl) ?_
      refine lv_bipush (v := 16) hx hb dX7_caughtKind_118 (by decide) ?_
      refine lv_imul hx hb dX7_caughtKind_120 ?_
      refine lv_iload_n hx hb dX7_caughtKind_121 rfl (lv_at hl 3 rfl) ?_
      refine lv_iadd hx hb dX7_caughtKind_122 ?_
      obtain ⟨p13, hcp13, hf⟩ := hf_bind hf
      have mo14 : CS.hs σ ≤ CS.hs p13.2 := Mono.go hcp13 (m_X0_add N (CS.setO σ x1 12 ((CS.o σ x1 12) ||| ((1 : Int32) <<< (x3 &&& 31)))) 56 ((x2 * 16) + x3))
      have hr9 : CS.hs p13.2 ≤ CS.hs R.2 := Mono.go hf (mono_bind (m_X9_advance N p13.2) (fun p17 => (mono_some (Nat.le_refl _))))
      have hFc := cFree hC hA
      refine va_callv (va_runV (As := [.int 56, .int ((x2 * 16) + x3)]) (rest := []) ⟨hx, hb, hml, hown, hts⟩ (c_X0_add l dC dI Q N (CS.setO σ x1 12 ((CS.o σ x1 12) ||| ((1 : Int32) <<< (x3 &&& 31)))) 56 ((x2 * 16) + x3) p13 hcp13) (cwV 2 hts hX7_caughtKind_X0_add_v176 rfl rfl rfl (by decide +kernel) ⟨(show 2 + 1 ≤ 4 by omega), (show 8 + (3 + 11) + 60 * 2 ≤ 60 * 4 by omega)⟩) ⟨zPre.blind, va_recv hK hC.1 (ci := 0) (q0 := 2) rfl rfl, cPre_go hZ hK hC⟩ rfl rfl hl.1 rfl (lv_room (Nat.le_of_ble_eq_true rfl)) dX7_caughtKind_123 (cAcc h0 mo14 hr9)) hC.2.2.1 (fun q _ h => hFc q h) hFc (fun u9 t9 H1 locs ht hvm hw hB hz1 hk1 hS => ?_)
      obtain ⟨⟨hP, hK1, hD1⟩, hsz1⟩ := hB
      rw [ht] at hP hsz1
      have hC : CP dC dI Q A s.heap p13.2 H1 locs := ⟨hP, hD1.weaken (fun _ _ _ h => hFc _ h), hS, hsz1⟩
      generalize H1 = H at hC ⊢
      have h16 : z9h ≤ CS.hs p13.2 := Nat.le_trans h0 mo14
      refine W.widen (k := CS.hs p13.2 - z9h) (n := 17 * (CS.hs p13.2 - z9h)) (cAcc2 h0 mo14) (cAcc3 h0 mo14) ?_
      refine lv_aload_n hx hb dX7_caughtKind_126 rfl (lv_at hl 0 rfl) ?_
      refine cG_28 hx hb hts i_X7_caughtKind_X7 hown hK hC (hts (.fieldLink RX7 71 "StatementRules2$Statements" "tokens" "LStatementRules2$Tokens;") k_X7_caughtKind_fieldLink_RX7_71_SR_Statements_tokens_LSR_Tokens) (fun x9 q9 => u_same (hts (.sameField "StatementRules2$Statements" "StatementRules2$Formulas" "tokens" "LStatementRules2$Tokens;") k_X7_caughtKind_sameField_SR_Statements_SR_Formulas_tokens_LSR_Tokens) x9 q9) dX7_caughtKind_127 ?_
      obtain ⟨p17, hcp17, hf⟩ := hf_bind hf
      have mo18 : CS.hs p13.2 ≤ CS.hs p17.2 := Mono.go hcp17 (m_X9_advance N p13.2)
      have hr9 : CS.hs p17.2 ≤ CS.hs R.2 := Mono.go hf (mono_some (Nat.le_refl _))
      have hFc := cFree hC hA
      refine va_callv (va_runV (As := []) (rest := []) ⟨hx, hb, hml, hown, hts⟩ (c_X9_advance l dC dI Q N p13.2 p17 hcp17) (cwV 0 hts hX7_caughtKind_X9_advance_v146 rfl rfl rfl (by decide +kernel) ⟨(show 3 + 1 ≤ 4 by omega), (show 8 + (2 + 11) + 60 * 3 ≤ 60 * 4 by omega)⟩) ⟨zPre.blind, va_recv hK hC.1 (ci := 8) (q0 := 4) rfl rfl, cPre_go hZ hK hC⟩ rfl rfl hl.1 rfl (lv_room (Nat.le_of_ble_eq_true rfl)) dX7_caughtKind_130 (cAcc h16 mo18 hr9)) hC.2.2.1 (fun q _ h => hFc q h) hFc (fun u9 t9 H1 locs ht hvm hw hB hz1 hk1 hS => ?_)
      obtain ⟨⟨hP, hK1, hD1⟩, hsz1⟩ := hB
      rw [ht] at hP hsz1
      have hC : CP dC dI Q A s.heap p17.2 H1 locs := ⟨hP, hD1.weaken (fun _ _ _ h => hFc _ h), hS, hsz1⟩
      generalize H1 = H at hC ⊢
      have h20 : z9h ≤ CS.hs p17.2 := Nat.le_trans h16 mo18
      refine W.widen (k := CS.hs p17.2 - z9h) (n := 17 * (CS.hs p17.2 - z9h)) (cAcc2 h16 mo18) (cAcc3 h16 mo18) ?_
      obtain rfl := Option.some.inj hf
      exact W.vret hx hb hr (fun t ht hW => ⟨⟨(), rfl, trivial, ⟨by rw [ht]; exact hC.1, va_K.moved hW.alike hK, hC.2.1⟩, by rw [ht]; exact hC.2.2.2⟩, hC.2.2.1.F ht⟩) hC.2.2.1.2.2 dX7_caughtKind_133
    ·
      replace hf := (if_neg c11).symm.trans hf
      refine lv_aload_n hx hb dX7_caughtKind_54 rfl (lv_at hl 1 rfl) ?_
      obtain ⟨b21, hf⟩ := hf_ite hf
      refine pGN_X5_12 (v := (CS.o σ x1 12)) hx hb hts i_X7_caughtKind_X5 hown hK hC (va_Nw.use rfl (hZ.1 (.fieldLinkNest RX7 394 "StatementRules2$Open" "caught" "I" "StatementRules2") (by decide +kernel))) (fun _ q9 => q9) dX7_caughtKind_55 b21 rfl ?_
      refine lv_iload hx hb dX7_caughtKind_58 (lv_at hl 4 rfl) ?_
      refine lv_ishr hx hb dX7_caughtKind_60 ?_
      refine lv_iconst (v := 1) hx hb dX7_caughtKind_61 (by decide) ?_
      refine lv_iand hx hb dX7_caughtKind_62 ?_
      refine lv_iconst (v := 1) hx hb dX7_caughtKind_63 (by decide) ?_
      refine lv_icmp_ne (tgt := 93) hx hb dX7_caughtKind_64 (by decide) (fun c22 => ?_) (fun c22 => ?_)
      ·
        replace hf := (if_neg c22).symm.trans hf
        refine lv_iinc (v := (x4 + 1)) (lv' := [(4, .int (x4 + 1)), (0, .ref (Q.o 3)), (1, .ref x1), (2, .int x2), (3, .int x3)]) hx hb dX7_caughtKind_93 hl (k := 4) rfl rfl (by decide) rfl (fun ls hl => ?_)
        refine lv_goto (tgt := 47) hx hb dX7_caughtKind_96 (by decide) ?_
        exact ih σ x1 x2 x3 (x4 + 1) _ _ _ hf h0 hC (lv_sub hl [1, 2, 3, 4, 0] rfl)
      ·
        replace hf := (if_pos c22).symm.trans hf
        refine lv_aload_n hx hb dX7_caughtKind_67 rfl (lv_at hl 0 rfl) ?_
        refine cG_30 hx hb hts i_X7_caughtKind_X7 hown hK hC (hts (.fieldLink RX7 300 "StatementRules2$Statements" "told" "LStatementRules2$Told;") k_X7_caughtKind_fieldLink_RX7_300_SR_Statements_told_LSR_Told) (fun x9 q9 => u_same (hts (.sameField "StatementRules2$Statements" "StatementRules2$Formulas" "told" "LStatementRules2$Told;") k_X7_caughtKind_sameField_SR_Statements_SR_Formulas_told_LSR_Told) x9 q9) dX7_caughtKind_68 ?_
        refine lv_iload_n hx hb dX7_caughtKind_71 rfl (lv_at hl 3 rfl) ?_
        refine lv_iload hx hb dX7_caughtKind_72 (lv_at hl 4 rfl) ?_
        obtain ⟨p23, hcp23, hf⟩ := hf_bind hf
        have mo24 : CS.hs σ ≤ CS.hs p23.2 := Mono.go hcp23 (m_X10_isUnder N σ x3 x4)
        have hr9 : CS.hs p23.2 ≤ CS.hs R.2 := Mono.go hf (mono_ite (hMK p23.2 x1 x2 x3 (x4 + 1)) (mono_bind (m_X1_fail N p23.2 6 (p23.2.i 44)) (fun p28 => (hMK p28.2 x1 x2 x3 (x4 + 1)))))
        have hFc := cFree hC hA
        refine va_calli (va_runV (As := [.int x3, .int x4]) (rest := []) ⟨hx, hb, hml, hown, hts⟩ (c_X10_isUnder l dC dI Q N σ x3 x4 p23 hcp23) (cwV 2 hts hX7_caughtKind_X10_isUnder_v397 rfl rfl rfl (by decide +kernel) ⟨(show 2 + 1 ≤ 4 by omega), (show 8 + (5 + 11) + 60 * 2 ≤ 60 * 4 by omega)⟩) ⟨zPre.blind, va_recv hK hC.1 (ci := 9) (q0 := 1) rfl rfl, cPre_go hZ hK hC⟩ rfl rfl hl.1 rfl (lv_room (Nat.le_of_ble_eq_true rfl)) dX7_caughtKind_74 (cAcc h0 mo24 hr9)) hC.2.2.1 (fun q _ h => hFc q h) hFc (fun r25 u9 t9 H1 locs ht hvm hw hB hz1 hk1 hS => ?_)
        obtain ⟨⟨hP, hK1, hD1⟩, hsz1⟩ := hB
        rw [ht] at hP hsz1
        have hC : CP dC dI Q A s.heap p23.2 H1 locs := ⟨hP, hD1.weaken (fun _ _ _ h => hFc _ h), hS, hsz1⟩
        generalize H1 = H at hC ⊢
        have h26 : z9h ≤ CS.hs p23.2 := Nat.le_trans h0 mo24
        refine W.widen (k := CS.hs p23.2 - z9h) (n := 17 * (CS.hs p23.2 - z9h)) (cAcc2 h0 mo24) (cAcc3 h0 mo24) ?_
        obtain rfl : r25 = p23.1 := hw
        refine lv_if_eq (tgt := 93) hx hb dX7_caughtKind_77 (by decide) (fun c27 => ?_) (fun c27 => ?_)
        ·
          replace hf := (if_pos c27).symm.trans hf
          refine lv_iinc (v := (x4 + 1)) (lv' := [(4, .int (x4 + 1)), (0, .ref (Q.o 3)), (1, .ref x1), (2, .int x2), (3, .int x3)]) hx hb dX7_caughtKind_93 hl (k := 4) rfl rfl (by decide) rfl (fun ls hl => ?_)
          refine lv_goto (tgt := 47) hx hb dX7_caughtKind_96 (by decide) ?_
          exact ih p23.2 x1 x2 x3 (x4 + 1) _ _ _ hf h26 hC (lv_sub hl [1, 2, 3, 4, 0] rfl)
        ·
          replace hf := (if_neg c27).symm.trans hf
          refine lv_aload_n hx hb dX7_caughtKind_80 rfl (lv_at hl 0 rfl) ?_
          refine lv_bipush (v := 6) hx hb dX7_caughtKind_81 (by decide) ?_
          refine lv_aload_n hx hb dX7_caughtKind_83 rfl (lv_at hl 0 rfl) ?_
          refine cG_28 hx hb hts i_X7_caughtKind_X7 hown hK hC (hts (.fieldLink RX7 71 "StatementRules2$Statements" "tokens" "LStatementRules2$Tokens;") k_X7_caughtKind_fieldLink_RX7_71_SR_Statements_tokens_LSR_Tokens) (fun x9 q9 => u_same (hts (.sameField "StatementRules2$Statements" "StatementRules2$Formulas" "tokens" "LStatementRules2$Tokens;") k_X7_caughtKind_sameField_SR_Statements_SR_Formulas_tokens_LSR_Tokens) x9 q9) dX7_caughtKind_84 ?_
          refine cGN_44 (v := (p23.2.i 44)) hx hb hts i_X7_caughtKind_X9 hown hK hC (va_Nw.use rfl (hZ.1 (.fieldLinkNest RX7 143 "StatementRules2$Tokens" "place" "I" "StatementRules2") (by decide +kernel))) (fun _ q9 => q9) dX7_caughtKind_87 rfl ?_
          obtain ⟨p28, hcp28, hf⟩ := hf_bind hf
          have mo29 : CS.hs p23.2 ≤ CS.hs p28.2 := Mono.go hcp28 (m_X1_fail N p23.2 6 (p23.2.i 44))
          have hr9 : CS.hs p28.2 ≤ CS.hs R.2 := Mono.go hf (hMK p28.2 x1 x2 x3 (x4 + 1))
          have hFc := cFree hC hA
          refine va_callv (va_runU (As := [.int 6, .int (p23.2.i 44)]) (rest := []) ⟨hx, hb, hml, hown, hts⟩ (c_X1_fail l dC dI Q N p23.2 6 (p23.2.i 44) p28 hcp28) (va_cwU 2 hts hX7_caughtKind_X1_fail_u88 rfl rfl rfl rfl (by decide +kernel) ⟨(show 2 + 1 ≤ 4 by omega), (show 8 + (3 + 11) + 60 * 2 ≤ 60 * 4 by omega)⟩) ⟨zPre.blind, va_recv hK hC.1 (ci := 6) (q0 := 3) rfl rfl, cPre_go hZ hK hC⟩ rfl rfl hl.1 rfl (lv_room (Nat.le_of_ble_eq_true rfl)) dX7_caughtKind_90 (cAcc h26 mo29 hr9)) hC.2.2.1 (fun q _ h => hFc q h) hFc (fun u9 t9 H1 locs ht hvm hw hB hz1 hk1 hS => ?_)
          obtain ⟨⟨hP, hK1, hD1⟩, hsz1⟩ := hB
          rw [ht] at hP hsz1
          have hC : CP dC dI Q A s.heap p28.2 H1 locs := ⟨hP, hD1.weaken (fun _ _ _ h => hFc _ h), hS, hsz1⟩
          generalize H1 = H at hC ⊢
          have h31 : z9h ≤ CS.hs p28.2 := Nat.le_trans h26 mo29
          refine W.widen (k := CS.hs p28.2 - z9h) (n := 17 * (CS.hs p28.2 - z9h)) (cAcc2 h26 mo29) (cAcc3 h26 mo29) ?_
          refine lv_iinc (v := (x4 + 1)) (lv' := [(4, .int (x4 + 1)), (0, .ref (Q.o 3)), (1, .ref x1), (2, .int x2), (3, .int x3)]) hx hb dX7_caughtKind_93 hl (k := 4) rfl rfl (by decide) rfl (fun ls hl => ?_)
          refine lv_goto (tgt := 47) hx hb dX7_caughtKind_96 (by decide) ?_
          exact ih p28.2 x1 x2 x3 (x4 + 1) _ _ _ hf h31 hC (lv_sub hl [1, 2, 3, 4, 0] rfl)
set_option maxHeartbeats 4000000 in
set_option maxRecDepth 100000 in
theorem j_X7_caughtKind_44 {p : Program} {e : Env} {s : State} {m : MethodId} {args : Array Value} {below : List Frame} {meth : Method} {c : Code} {A : Nat → Prop} (l : Launch) (dC : Nat → ClassId) (dI : Nat → Nat → Nat) (Q : CQ) (N : Nat) (z9h : Nat) (R : Unit × CS) (hx : p.tables.exec = Jvm.exec) (hb : c.code = cX7_caughtKind) (hr : meth.sig.returnType = none) (hml : c.maxLocals = 5) (hown : s.vm.findClass RX7 = some m.cls) (hts : ∀ w ∈ wzX7_caughtKind, w.before args s = true) (hlocks : meth.locks = false) (hZ : zAMB s) (hA : ∀ q : Nat, s.heap.size ≤ q → A q) (hK : va_K (dC, dI) vwCl (cT Q) s) : ∀ (σ : CS) (x1 : Nat) (x2 : Int32) (x3 : Int32) (H : Heap) (locs : List Loc) (ls : Array Slot), f_X7_caughtKind_44 N σ x1 x2 x3 = some R → z9h ≤ CS.hs σ → CP dC dI Q A s.heap σ H locs → lv_has ls 5 [(0, .ref (Q.o 3)), (1, .ref x1), (2, .int x2), (3, .int x3)] → W p l e ({ frames := 4, cells := CS.hs R.2 - z9h, slots := 17 * (CS.hs R.2 - z9h), locals := 60 * 4 }) s m args below meth c H locs (CS.hs σ - z9h) (17 * (CS.hs σ - z9h)) (MQ below (va_Qv (fun (_ : Unit) => True) (fun (_ : Unit) (t : State) => zPost dC dI A (cW Q R.2) (cT Q) t ∧ t.heap.size = CS.hs R.2) A) args s (CS.hs R.2 - z9h) (17 * (CS.hs R.2 - z9h)) A) (F0 m 44 ls []) := by
  intro σ x1 x2 x3 H locs ls hf h0 hC hl
  unfold f_X7_caughtKind_44 at hf
  refine lv_iconst (v := 0) hx hb dX7_caughtKind_44 (by decide) ?_
  refine lv_istore (lv' := [(4, .int 0), (0, .ref (Q.o 3)), (1, .ref x1), (2, .int x2), (3, .int x3)]) hx hb dX7_caughtKind_45 hl (by decide) rfl (fun ls hl => ?_)
  exact j_X7_caughtKind_47 l dC dI Q N z9h R hx hb hr hml hown hts hlocks hZ hA hK N σ x1 x2 x3 0 _ _ _ hf h0 hC (lv_sub hl [1, 2, 3, 4, 0] rfl)
set_option maxHeartbeats 4000000 in
set_option maxRecDepth 100000 in
theorem c_X7_caughtKind (l : Launch) (dC : Nat → ClassId) (dI : Nat → Nat → Nat) (Q : CQ) (N : Nat) (σ : CS) (x1 : Nat) (x2 : Int32) (R : Unit × CS) (hf : f_X7_caughtKind N σ x1 x2 = some R) : Met l yX7_caughtKind wzX7_caughtKind ({ frames := 4, cells := CS.hs R.2 - CS.hs σ, slots := 17 * (CS.hs R.2 - CS.hs σ), locals := 60 * 4 }) (va_Pc [.ref (Q.o 3), .ref x1, .int x2] (zPre dC dI (CS.hs σ) (cW Q σ) (cT Q))) (va_Qv (fun (_ : Unit) => True) (fun (_ : Unit) (t : State) => zPost dC dI (va_A (cW Q σ) (CS.hs σ)) (cW Q R.2) (cT Q) t ∧ t.heap.size = CS.hs R.2) (va_A (cW Q σ) (CS.hs σ))) (CS.hs R.2 - CS.hs σ) (17 * (CS.hs R.2 - CS.hs σ)) (va_A (cW Q σ) (CS.hs σ)) := by
  refine Met.ofW (cc := cX7_caughtKind) (maxL := 5) (ret := none) (by decide) rfl ?_
  intro p e s m args below meth c s₁ B hml hv
  obtain ⟨rfl, hsz, hZ, hP, hK, hD0⟩ := hv
  have hx := B.exec
  have hb := B.bytes
  have hr := B.returns
  have hts := atoms_spec (ws := wzX7_caughtKind) B.pre
  have hown : s.vm.findClass RX7 = some m.cls := findClass_of_methodNamed B.named
  have hlocks := B.notSynchronized
  have hD := hD0.self (sz := CS.hs σ)
  generalize hAe : va_A (cW Q σ) (CS.hs σ) = A at hD ⊢
  have hA : ∀ q : Nat, s.heap.size ≤ q → A q := fun q h => by rw [← hAe]; exact Or.inr (hsz ▸ h)
  have hC : CP dC dI Q A s.heap σ s.heap [] := ⟨hP, hD, va_S.rf, hsz⟩
  have h0 : CS.hs σ ≤ CS.hs σ := Nat.le_refl _
  have hl := lv_entry ([.ref (Q.o 3), .ref x1, .int x2]) (n := 5) (Nat.le_of_ble_eq_true rfl)
  rw [lg_entry_eq]
  generalize (lg_sl ([.ref (Q.o 3), .ref x1, .int x2]) ++ List.replicate (5 - (lg_sl ([.ref (Q.o 3), .ref x1, .int x2])).length) Slot.unset).toArray = ls at hl ⊢
  have hl : lv_has ls 5 [(0, .ref (Q.o 3)), (1, .ref x1), (2, .int x2)] := hl
  unfold f_X7_caughtKind at hf
  refine W.widen (k := CS.hs σ - CS.hs σ) (n := 17 * (CS.hs σ - CS.hs σ)) (Nat.zero_le _) (Nat.zero_le _) ?_
  refine lv_aload_n hx hb dX7_caughtKind_0 rfl (lv_at hl 0 rfl) ?_
  refine lv_iconst (v := 5) hx hb dX7_caughtKind_1 (by decide) ?_
  obtain ⟨p1, hcp1, hf⟩ := hf_bind hf
  have mo2 : CS.hs σ ≤ CS.hs p1.2 := Mono.go hcp1 (m_X1_found N σ 5)
  have hr9 : CS.hs p1.2 ≤ CS.hs R.2 := Mono.go hf (mono_ite (mono_bind (m_X1_misplaced N p1.2) (fun p36 => (mono_some (Nat.le_refl _)))) (mono_bind (m_X10_isKind N p1.2 (p1.2.i 45)) (fun p6 => (mono_ite (mono_bind (m_X1_fail N p6.2 3 (p6.2.i 44)) (fun p32 => (m_X7_caughtKind_44 N p32.2 x1 x2 (p1.2.i 45)))) (m_X7_caughtKind_44 N p6.2 x1 x2 (p1.2.i 45))))))
  have hFc := cFree hC hA
  refine va_calli (va_runU (As := [.int 5]) (rest := []) ⟨hx, hb, hml, hown, hts⟩ (c_X1_found l dC dI Q N σ 5 p1 hcp1) (va_cwU 1 hts hX7_caughtKind_X1_found_u110 rfl rfl rfl rfl (by decide +kernel) ⟨(show 1 + 1 ≤ 4 by omega), (show 8 + (2 + 11) + 60 * 1 ≤ 60 * 4 by omega)⟩) ⟨zPre.blind, va_recv hK hC.1 (ci := 6) (q0 := 3) rfl rfl, cPre_go hZ hK hC⟩ rfl rfl hl.1 rfl (lv_room (Nat.le_of_ble_eq_true rfl)) dX7_caughtKind_2 (cAcc h0 mo2 hr9)) hC.2.2.1 (fun q _ h => hFc q h) hFc (fun r3 u9 t9 H1 locs ht hvm hw hB hz1 hk1 hS => ?_)
  obtain ⟨⟨hP, hK1, hD1⟩, hsz1⟩ := hB
  rw [ht] at hP hsz1
  have hC : CP dC dI Q A s.heap p1.2 H1 locs := ⟨hP, hD1.weaken (fun _ _ _ h => hFc _ h), hS, hsz1⟩
  generalize H1 = H at hC ⊢
  have h4 : (CS.hs σ) ≤ CS.hs p1.2 := Nat.le_trans h0 mo2
  refine W.widen (k := CS.hs p1.2 - (CS.hs σ)) (n := 17 * (CS.hs p1.2 - (CS.hs σ))) (cAcc2 h0 mo2) (cAcc3 h0 mo2) ?_
  obtain rfl : r3 = p1.1 := hw
  refine lv_if_ne (tgt := 13) hx hb dX7_caughtKind_5 (by decide) (fun c5 => ?_) (fun c5 => ?_)
  ·
    replace hf := (if_neg c5).symm.trans hf
    refine lv_aload_n hx hb dX7_caughtKind_13 rfl (lv_at hl 0 rfl) ?_
    refine cG_28 hx hb hts i_X7_caughtKind_X7 hown hK hC (hts (.fieldLink RX7 71 "StatementRules2$Statements" "tokens" "LStatementRules2$Tokens;") k_X7_caughtKind_fieldLink_RX7_71_SR_Statements_tokens_LSR_Tokens) (fun x9 q9 => u_same (hts (.sameField "StatementRules2$Statements" "StatementRules2$Formulas" "tokens" "LStatementRules2$Tokens;") k_X7_caughtKind_sameField_SR_Statements_SR_Formulas_tokens_LSR_Tokens) x9 q9) dX7_caughtKind_14 ?_
    refine cGN_45 (v := (p1.2.i 45)) hx hb hts i_X7_caughtKind_X9 hown hK hC (va_Nw.use rfl (hZ.1 (.fieldLinkNest RX7 297 "StatementRules2$Tokens" "value" "I" "StatementRules2") (by decide +kernel))) (fun _ q9 => q9) dX7_caughtKind_17 rfl ?_
    refine lv_istore_n (lv' := [(3, .int (p1.2.i 45)), (0, .ref (Q.o 3)), (1, .ref x1), (2, .int x2)]) hx hb dX7_caughtKind_20 rfl hl (by decide) rfl (fun ls hl => ?_)
    refine lv_aload_n hx hb dX7_caughtKind_21 rfl (lv_at hl 1 rfl) ?_
    refine cG_30 hx hb hts i_X7_caughtKind_X7 hown hK hC (hts (.fieldLink RX7 300 "StatementRules2$Statements" "told" "LStatementRules2$Told;") k_X7_caughtKind_fieldLink_RX7_300_SR_Statements_told_LSR_Told) (fun x9 q9 => u_same (hts (.sameField "StatementRules2$Statements" "StatementRules2$Formulas" "told" "LStatementRules2$Told;") k_X7_caughtKind_sameField_SR_Statements_SR_Formulas_told_LSR_Told) x9 q9) dX7_caughtKind_22 ?_
    refine lv_iload_n hx hb dX7_caughtKind_25 rfl (lv_at hl 0 rfl) ?_
    obtain ⟨p6, hcp6, hf⟩ := hf_bind hf
    have mo7 : CS.hs p1.2 ≤ CS.hs p6.2 := Mono.go hcp6 (m_X10_isKind N p1.2 (p1.2.i 45))
    have hr9 : CS.hs p6.2 ≤ CS.hs R.2 := Mono.go hf (mono_ite (mono_bind (m_X1_fail N p6.2 3 (p6.2.i 44)) (fun p32 => (m_X7_caughtKind_44 N p32.2 x1 x2 (p1.2.i 45)))) (m_X7_caughtKind_44 N p6.2 x1 x2 (p1.2.i 45)))
    have hFc := cFree hC hA
    refine va_calli (va_runV (As := [.int (p1.2.i 45)]) (rest := []) ⟨hx, hb, hml, hown, hts⟩ (c_X10_isKind l dC dI Q N p1.2 (p1.2.i 45) p6 hcp6) (cwV 1 hts hX7_caughtKind_X10_isKind_v304 rfl rfl rfl (by decide +kernel) ⟨(show 1 + 1 ≤ 4 by omega), (show 8 + (2 + 11) + 60 * 1 ≤ 60 * 4 by omega)⟩) ⟨zPre.blind, va_recv hK hC.1 (ci := 9) (q0 := 1) rfl rfl, cPre_go hZ hK hC⟩ rfl rfl hl.1 rfl (lv_room (Nat.le_of_ble_eq_true rfl)) dX7_caughtKind_26 (cAcc h4 mo7 hr9)) hC.2.2.1 (fun q _ h => hFc q h) hFc (fun r8 u9 t9 H1 locs ht hvm hw hB hz1 hk1 hS => ?_)
    obtain ⟨⟨hP, hK1, hD1⟩, hsz1⟩ := hB
    rw [ht] at hP hsz1
    have hC : CP dC dI Q A s.heap p6.2 H1 locs := ⟨hP, hD1.weaken (fun _ _ _ h => hFc _ h), hS, hsz1⟩
    generalize H1 = H at hC ⊢
    have h9 : (CS.hs σ) ≤ CS.hs p6.2 := Nat.le_trans h4 mo7
    refine W.widen (k := CS.hs p6.2 - (CS.hs σ)) (n := 17 * (CS.hs p6.2 - (CS.hs σ))) (cAcc2 h4 mo7) (cAcc3 h4 mo7) ?_
    obtain rfl : r8 = p6.1 := hw
    refine lv_if_ne (tgt := 44) hx hb dX7_caughtKind_29 (by decide) (fun c10 => ?_) (fun c10 => ?_)
    ·
      replace hf := (if_neg c10).symm.trans hf
      exact j_X7_caughtKind_44 l dC dI Q N (CS.hs σ) R hx hb hr hml hown hts hlocks hZ hA hK p6.2 x1 x2 (p1.2.i 45) _ _ _ hf h9 hC (lv_sub hl [1, 2, 3, 0] rfl)
    ·
      replace hf := (if_pos c10).symm.trans hf
      refine lv_aload_n hx hb dX7_caughtKind_32 rfl (lv_at hl 1 rfl) ?_
      refine lv_iconst (v := 3) hx hb dX7_caughtKind_33 (by decide) ?_
      refine lv_aload_n hx hb dX7_caughtKind_34 rfl (lv_at hl 1 rfl) ?_
      refine cG_28 hx hb hts i_X7_caughtKind_X7 hown hK hC (hts (.fieldLink RX7 71 "StatementRules2$Statements" "tokens" "LStatementRules2$Tokens;") k_X7_caughtKind_fieldLink_RX7_71_SR_Statements_tokens_LSR_Tokens) (fun x9 q9 => u_same (hts (.sameField "StatementRules2$Statements" "StatementRules2$Formulas" "tokens" "LStatementRules2$Tokens;") k_X7_caughtKind_sameField_SR_Statements_SR_Formulas_tokens_LSR_Tokens) x9 q9) dX7_caughtKind_35 ?_
      refine cGN_44 (v := (p6.2.i 44)) hx hb hts i_X7_caughtKind_X9 hown hK hC (va_Nw.use rfl (hZ.1 (.fieldLinkNest RX7 143 "StatementRules2$Tokens" "place" "I" "StatementRules2") (by decide +kernel))) (fun _ q9 => q9) dX7_caughtKind_38 rfl ?_
      obtain ⟨p32, hcp32, hf⟩ := hf_bind hf
      have mo33 : CS.hs p6.2 ≤ CS.hs p32.2 := Mono.go hcp32 (m_X1_fail N p6.2 3 (p6.2.i 44))
      have hr9 : CS.hs p32.2 ≤ CS.hs R.2 := Mono.go hf (m_X7_caughtKind_44 N p32.2 x1 x2 (p1.2.i 45))
      have hFc := cFree hC hA
      refine va_callv (va_runU (As := [.int 3, .int (p6.2.i 44)]) (rest := []) ⟨hx, hb, hml, hown, hts⟩ (c_X1_fail l dC dI Q N p6.2 3 (p6.2.i 44) p32 hcp32) (va_cwU 2 hts hX7_caughtKind_X1_fail_u88 rfl rfl rfl rfl (by decide +kernel) ⟨(show 2 + 1 ≤ 4 by omega), (show 8 + (3 + 11) + 60 * 2 ≤ 60 * 4 by omega)⟩) ⟨zPre.blind, va_recv hK hC.1 (ci := 6) (q0 := 3) rfl rfl, cPre_go hZ hK hC⟩ rfl rfl hl.1 rfl (lv_room (Nat.le_of_ble_eq_true rfl)) dX7_caughtKind_41 (cAcc h9 mo33 hr9)) hC.2.2.1 (fun q _ h => hFc q h) hFc (fun u9 t9 H1 locs ht hvm hw hB hz1 hk1 hS => ?_)
      obtain ⟨⟨hP, hK1, hD1⟩, hsz1⟩ := hB
      rw [ht] at hP hsz1
      have hC : CP dC dI Q A s.heap p32.2 H1 locs := ⟨hP, hD1.weaken (fun _ _ _ h => hFc _ h), hS, hsz1⟩
      generalize H1 = H at hC ⊢
      have h35 : (CS.hs σ) ≤ CS.hs p32.2 := Nat.le_trans h9 mo33
      refine W.widen (k := CS.hs p32.2 - (CS.hs σ)) (n := 17 * (CS.hs p32.2 - (CS.hs σ))) (cAcc2 h9 mo33) (cAcc3 h9 mo33) ?_
      exact j_X7_caughtKind_44 l dC dI Q N (CS.hs σ) R hx hb hr hml hown hts hlocks hZ hA hK p32.2 x1 x2 (p1.2.i 45) _ _ _ hf h35 hC (lv_sub hl [1, 2, 3, 0] rfl)
  ·
    replace hf := (if_pos c5).symm.trans hf
    refine lv_aload_n hx hb dX7_caughtKind_8 rfl (lv_at hl 0 rfl) ?_
    obtain ⟨p36, hcp36, hf⟩ := hf_bind hf
    have mo37 : CS.hs p1.2 ≤ CS.hs p36.2 := Mono.go hcp36 (m_X1_misplaced N p1.2)
    have hr9 : CS.hs p36.2 ≤ CS.hs R.2 := Mono.go hf (mono_some (Nat.le_refl _))
    have hFc := cFree hC hA
    refine va_callv (va_runU (As := []) (rest := []) ⟨hx, hb, hml, hown, hts⟩ (c_X1_misplaced l dC dI Q N p1.2 p36 hcp36) (va_cwU 0 hts hX7_caughtKind_X1_misplaced_u161 rfl rfl rfl rfl (by decide +kernel) ⟨(show 3 + 1 ≤ 4 by omega), (show 8 + (1 + 11) + 60 * 3 ≤ 60 * 4 by omega)⟩) ⟨zPre.blind, va_recv hK hC.1 (ci := 6) (q0 := 3) rfl rfl, cPre_go hZ hK hC⟩ rfl rfl hl.1 rfl (lv_room (Nat.le_of_ble_eq_true rfl)) dX7_caughtKind_9 (cAcc h4 mo37 hr9)) hC.2.2.1 (fun q _ h => hFc q h) hFc (fun u9 t9 H1 locs ht hvm hw hB hz1 hk1 hS => ?_)
    obtain ⟨⟨hP, hK1, hD1⟩, hsz1⟩ := hB
    rw [ht] at hP hsz1
    have hC : CP dC dI Q A s.heap p36.2 H1 locs := ⟨hP, hD1.weaken (fun _ _ _ h => hFc _ h), hS, hsz1⟩
    generalize H1 = H at hC ⊢
    have h39 : (CS.hs σ) ≤ CS.hs p36.2 := Nat.le_trans h4 mo37
    refine W.widen (k := CS.hs p36.2 - (CS.hs σ)) (n := 17 * (CS.hs p36.2 - (CS.hs σ))) (cAcc2 h4 mo37) (cAcc3 h4 mo37) ?_
    obtain rfl := Option.some.inj hf
    exact W.vret hx hb hr (fun t ht hW => ⟨⟨(), rfl, trivial, ⟨by rw [ht]; exact hC.1, va_K.moved hW.alike hK, hC.2.1⟩, by rw [ht]; exact hC.2.2.2⟩, hC.2.2.1.F ht⟩) hC.2.2.1.2.2 dX7_caughtKind_12
theorem k_X7_beginCatch_fieldLink_RX7_20_SR_Statements_code_LSR_Code : Cond.fieldLink RX7 20 "StatementRules2$Statements" "code" "LStatementRules2$Code;" ∈ wzX7_beginCatch := List.mem_cons_of_mem _ (List.mem_append_left _ (List.mem_of_getElem? (i := 0) rfl))
theorem k_X7_beginCatch_sameField_SR_Statements_SR_Formulas_code_LSR_Code : Cond.sameField "StatementRules2$Statements" "StatementRules2$Formulas" "code" "LStatementRules2$Code;" ∈ wzX7_beginCatch := List.mem_cons_of_mem _ (List.mem_append_left _ (List.mem_of_getElem? (i := 1) rfl))
theorem i_X7_beginCatch_X7 : ∀ w ∈ wsX70, w ∈ wzX7_beginCatch := fun _ h => List.mem_cons_of_mem _ (List.mem_append_right _ (List.mem_append_left _ (h)))
theorem i_X7_beginCatch_X5 : ∀ w ∈ wsX50, w ∈ wzX7_beginCatch := fun _ h => List.mem_cons_of_mem _ (List.mem_append_right _ (List.mem_append_right _ (List.mem_append_left _ (h))))
theorem k_X7_beginCatch_fieldLink_RX7_71_SR_Statements_tokens_LSR_Tokens : Cond.fieldLink RX7 71 "StatementRules2$Statements" "tokens" "LStatementRules2$Tokens;" ∈ wzX7_beginCatch := List.mem_cons_of_mem _ (List.mem_append_left _ (List.mem_of_getElem? (i := 2) rfl))
theorem k_X7_beginCatch_sameField_SR_Statements_SR_Formulas_tokens_LSR_Tokens : Cond.sameField "StatementRules2$Statements" "StatementRules2$Formulas" "tokens" "LStatementRules2$Tokens;" ∈ wzX7_beginCatch := List.mem_cons_of_mem _ (List.mem_append_left _ (List.mem_of_getElem? (i := 3) rfl))
theorem k_X7_beginCatch_fieldLink_RX7_29_SR_Statements_names_LSR_Names : Cond.fieldLink RX7 29 "StatementRules2$Statements" "names" "LStatementRules2$Names;" ∈ wzX7_beginCatch := List.mem_cons_of_mem _ (List.mem_append_left _ (List.mem_of_getElem? (i := 4) rfl))
theorem k_X7_beginCatch_sameField_SR_Statements_SR_Formulas_names_LSR_Names : Cond.sameField "StatementRules2$Statements" "StatementRules2$Formulas" "names" "LStatementRules2$Names;" ∈ wzX7_beginCatch := List.mem_cons_of_mem _ (List.mem_append_left _ (List.mem_of_getElem? (i := 5) rfl))
theorem k_X7_beginCatch_fieldLink_RX7_68_SR_Statements_depth_I : Cond.fieldLink RX7 68 "StatementRules2$Statements" "depth" "I" ∈ wzX7_beginCatch := List.mem_cons_of_mem _ (List.mem_append_left _ (List.mem_of_getElem? (i := 6) rfl))
theorem k_X7_beginCatch_fieldLink_RX7_61_SR_Statements_alive_Z : Cond.fieldLink RX7 61 "StatementRules2$Statements" "alive" "Z" ∈ wzX7_beginCatch := List.mem_cons_of_mem _ (List.mem_append_left _ (List.mem_of_getElem? (i := 7) rfl))
set_option maxHeartbeats 4000000 in
set_option maxRecDepth 100000 in
theorem j_X7_beginCatch_80 {p : Program} {e : Env} {s : State} {m : MethodId} {args : Array Value} {below : List Frame} {meth : Method} {c : Code} {A : Nat → Prop} (l : Launch) (dC : Nat → ClassId) (dI : Nat → Nat → Nat) (Q : CQ) (N : Nat) (z9h : Nat) (R : Unit × CS) (hx : p.tables.exec = Jvm.exec) (hb : c.code = cX7_beginCatch) (hr : meth.sig.returnType = none) (hml : c.maxLocals = 4) (hown : s.vm.findClass RX7 = some m.cls) (hts : ∀ w ∈ wzX7_beginCatch, w.before args s = true) (hlocks : meth.locks = false) (hZ : zAMB s) (hA : ∀ q : Nat, s.heap.size ≤ q → A q) (hK : va_K (dC, dI) vwCl (cT Q) s) : ∀ (σ : CS) (x1 : Nat) (x2 : Int32) (H : Heap) (locs : List Loc) (ls : Array Slot), f_X7_beginCatch_80 N σ x1 x2 = some R → z9h ≤ CS.hs σ → CP dC dI Q A s.heap σ H locs → lv_has ls 4 [(0, .ref (Q.o 3)), (1, .ref x1), (2, .int x2)] → W p l e ({ frames := 5, cells := CS.hs R.2 - z9h, slots := 17 * (CS.hs R.2 - z9h), locals := 60 * 5 }) s m args below meth c H locs (CS.hs σ - z9h) (17 * (CS.hs σ - z9h)) (MQ below (va_Qv (fun (_ : Unit) => True) (fun (_ : Unit) (t : State) => zPost dC dI A (cW Q R.2) (cT Q) t ∧ t.heap.size = CS.hs R.2) A) args s (CS.hs R.2 - z9h) (17 * (CS.hs R.2 - z9h)) A) (F0 m 80 ls []) := by
  intro σ x1 x2 H locs ls hf h0 hC hl
  unfold f_X7_beginCatch_80 at hf
  refine lv_aload_n hx hb dX7_beginCatch_80 rfl (lv_at hl 0 rfl) ?_
  refine cG_29 hx hb hts i_X7_beginCatch_X7 hown hK hC (hts (.fieldLink RX7 20 "StatementRules2$Statements" "code" "LStatementRules2$Code;") k_X7_beginCatch_fieldLink_RX7_20_SR_Statements_code_LSR_Code) (fun x9 q9 => u_same (hts (.sameField "StatementRules2$Statements" "StatementRules2$Formulas" "code" "LStatementRules2$Code;") k_X7_beginCatch_sameField_SR_Statements_SR_Formulas_code_LSR_Code) x9 q9) dX7_beginCatch_81 ?_
  refine lv_iconst (v := 1) hx hb dX7_beginCatch_84 (by decide) ?_
  obtain ⟨p24, hcp24, hf⟩ := hf_bind hf
  have mo25 : CS.hs σ ≤ CS.hs p24.2 := Mono.go hcp24 (m_X0_newCells N σ 1)
  have hr9 : CS.hs p24.2 ≤ CS.hs R.2 := Mono.go hf (mono_bind (m_X7_newName N p24.2) (fun p28 => (mono_bind (m_X4_add N p28.2 p28.1 p24.1 ((p28.2.i 38) - 1)) (fun p32 => (mono_bind (m_X1_close N p32.2 41) (fun p36 => (mono_bind (m_X1_open N p36.2 123) (fun p40 => (mono_ite (mono_bind (m_X0_add N p40.2 30 (CS.o p40.2 x1 10)) (fun p45 => (mono_bind (m_X0_aim N p45.2 x2) (fun p49 => (mono_bind (m_X0_add N p49.2 57 p24.1) (fun p53 => (mono_some (Nat.le_refl _)))))))) mono_none)))))))))
  have hFc := cFree hC hA
  refine va_calli (va_runV (As := [.int 1]) (rest := []) ⟨hx, hb, hml, hown, hts⟩ (c_X0_newCells l dC dI Q N σ 1 p24 hcp24) (cwV 1 hts hX7_beginCatch_X0_newCells_v41 rfl rfl rfl (by decide +kernel) ⟨(show 1 + 1 ≤ 5 by omega), (show 8 + (2 + 11) + 60 * 1 ≤ 60 * 5 by omega)⟩) ⟨zPre.blind, va_recv hK hC.1 (ci := 0) (q0 := 2) rfl rfl, cPre_go hZ hK hC⟩ rfl rfl hl.1 rfl (lv_room (Nat.le_of_ble_eq_true rfl)) dX7_beginCatch_85 (cAcc h0 mo25 hr9)) hC.2.2.1 (fun q _ h => hFc q h) hFc (fun r26 u9 t9 H1 locs ht hvm hw hB hz1 hk1 hS => ?_)
  obtain ⟨⟨hP, hK1, hD1⟩, hsz1⟩ := hB
  rw [ht] at hP hsz1
  have hC : CP dC dI Q A s.heap p24.2 H1 locs := ⟨hP, hD1.weaken (fun _ _ _ h => hFc _ h), hS, hsz1⟩
  generalize H1 = H at hC ⊢
  have h27 : z9h ≤ CS.hs p24.2 := Nat.le_trans h0 mo25
  refine W.widen (k := CS.hs p24.2 - z9h) (n := 17 * (CS.hs p24.2 - z9h)) (cAcc2 h0 mo25) (cAcc3 h0 mo25) ?_
  obtain rfl : r26 = p24.1 := hw
  refine lv_istore_n (lv' := [(3, .int p24.1), (0, .ref (Q.o 3)), (1, .ref x1), (2, .int x2)]) hx hb dX7_beginCatch_88 rfl hl (by decide) rfl (fun ls hl => ?_)
  refine lv_aload_n hx hb dX7_beginCatch_89 rfl (lv_at hl 1 rfl) ?_
  refine cG_31 hx hb hts i_X7_beginCatch_X7 hown hK hC (hts (.fieldLink RX7 29 "StatementRules2$Statements" "names" "LStatementRules2$Names;") k_X7_beginCatch_fieldLink_RX7_29_SR_Statements_names_LSR_Names) (fun x9 q9 => u_same (hts (.sameField "StatementRules2$Statements" "StatementRules2$Formulas" "names" "LStatementRules2$Names;") k_X7_beginCatch_sameField_SR_Statements_SR_Formulas_names_LSR_Names) x9 q9) dX7_beginCatch_90 ?_
  refine lv_aload_n hx hb dX7_beginCatch_93 rfl (lv_at hl 1 rfl) ?_
  obtain ⟨p28, hcp28, hf⟩ := hf_bind hf
  have mo29 : CS.hs p24.2 ≤ CS.hs p28.2 := Mono.go hcp28 (m_X7_newName N p24.2)
  have hr9 : CS.hs p28.2 ≤ CS.hs R.2 := Mono.go hf (mono_bind (m_X4_add N p28.2 p28.1 p24.1 ((p28.2.i 38) - 1)) (fun p32 => (mono_bind (m_X1_close N p32.2 41) (fun p36 => (mono_bind (m_X1_open N p36.2 123) (fun p40 => (mono_ite (mono_bind (m_X0_add N p40.2 30 (CS.o p40.2 x1 10)) (fun p45 => (mono_bind (m_X0_aim N p45.2 x2) (fun p49 => (mono_bind (m_X0_add N p49.2 57 p24.1) (fun p53 => (mono_some (Nat.le_refl _)))))))) mono_none)))))))
  have hFc := cFree hC hA
  refine va_calll (va_runV (As := []) (rest := [.ref (Q.o 5)]) ⟨hx, hb, hml, hown, hts⟩ (c_X7_newName l dC dI Q N p24.2 p28 hcp28) (cwV 0 hts hX7_beginCatch_X7_newName_v217 rfl rfl rfl (by decide +kernel) ⟨(show 4 + 1 ≤ 5 by omega), (show 8 + (3 + 11) + 60 * 4 ≤ 60 * 5 by omega)⟩) ⟨zPre.blind, va_recv hK hC.1 (ci := 6) (q0 := 3) rfl rfl, cPre_go hZ hK hC⟩ rfl rfl hl.1 rfl (lv_room (Nat.le_of_ble_eq_true rfl)) dX7_beginCatch_94 (cAcc h27 mo29 hr9)) hC.2.2.1 (fun q _ h => hFc q h) hFc (fun r30 u9 t9 H1 locs ht hvm hw hB hz1 hk1 hS => ?_)
  obtain ⟨⟨hP, hK1, hD1⟩, hsz1⟩ := hB
  rw [ht] at hP hsz1
  have hC : CP dC dI Q A s.heap p28.2 H1 locs := ⟨hP, hD1.weaken (fun _ _ _ h => hFc _ h), hS, hsz1⟩
  generalize H1 = H at hC ⊢
  have h31 : z9h ≤ CS.hs p28.2 := Nat.le_trans h27 mo29
  refine W.widen (k := CS.hs p28.2 - z9h) (n := 17 * (CS.hs p28.2 - z9h)) (cAcc2 h27 mo29) (cAcc3 h27 mo29) ?_
  obtain rfl : r30 = p28.1 := hw
  refine lv_iload_n hx hb dX7_beginCatch_97 rfl (lv_at hl 0 rfl) ?_
  refine lv_aload_n hx hb dX7_beginCatch_98 rfl (lv_at hl 1 rfl) ?_
  refine cG_38 (v := (p28.2.i 38)) hx hb hts i_X7_beginCatch_X7 hown hK hC (hts (.fieldLink RX7 68 "StatementRules2$Statements" "depth" "I") k_X7_beginCatch_fieldLink_RX7_68_SR_Statements_depth_I) (fun _ q9 => q9) dX7_beginCatch_99 rfl ?_
  refine lv_iconst (v := 1) hx hb dX7_beginCatch_102 (by decide) ?_
  refine lv_isub hx hb dX7_beginCatch_103 ?_
  obtain ⟨p32, hcp32, hf⟩ := hf_bind hf
  have mo33 : CS.hs p28.2 ≤ CS.hs p32.2 := Mono.go hcp32 (m_X4_add N p28.2 p28.1 p24.1 ((p28.2.i 38) - 1))
  have hr9 : CS.hs p32.2 ≤ CS.hs R.2 := Mono.go hf (mono_bind (m_X1_close N p32.2 41) (fun p36 => (mono_bind (m_X1_open N p36.2 123) (fun p40 => (mono_ite (mono_bind (m_X0_add N p40.2 30 (CS.o p40.2 x1 10)) (fun p45 => (mono_bind (m_X0_aim N p45.2 x2) (fun p49 => (mono_bind (m_X0_add N p49.2 57 p24.1) (fun p53 => (mono_some (Nat.le_refl _)))))))) mono_none)))))
  have hFc := cFree hC hA
  refine va_callv (va_runV (As := [.long p28.1, .int p24.1, .int ((p28.2.i 38) - 1)]) (rest := []) ⟨hx, hb, hml, hown, hts⟩ (c_X4_add l dC dI Q N p28.2 p28.1 p24.1 ((p28.2.i 38) - 1) p32 hcp32) (cwV 3 hts hX7_beginCatch_X4_add_v45 rfl rfl rfl (by decide +kernel) ⟨(show 1 + 1 ≤ 5 by omega), (show 8 + (5 + 11) + 60 * 1 ≤ 60 * 5 by omega)⟩) ⟨zPre.blind, va_recv hK hC.1 (ci := 3) (q0 := 5) rfl rfl, cPre_go hZ hK hC⟩ rfl rfl hl.1 rfl (lv_room (Nat.le_of_ble_eq_true rfl)) dX7_beginCatch_104 (cAcc h31 mo33 hr9)) hC.2.2.1 (fun q _ h => hFc q h) hFc (fun u9 t9 H1 locs ht hvm hw hB hz1 hk1 hS => ?_)
  obtain ⟨⟨hP, hK1, hD1⟩, hsz1⟩ := hB
  rw [ht] at hP hsz1
  have hC : CP dC dI Q A s.heap p32.2 H1 locs := ⟨hP, hD1.weaken (fun _ _ _ h => hFc _ h), hS, hsz1⟩
  generalize H1 = H at hC ⊢
  have h35 : z9h ≤ CS.hs p32.2 := Nat.le_trans h31 mo33
  refine W.widen (k := CS.hs p32.2 - z9h) (n := 17 * (CS.hs p32.2 - z9h)) (cAcc2 h31 mo33) (cAcc3 h31 mo33) ?_
  refine lv_aload_n hx hb dX7_beginCatch_107 rfl (lv_at hl 1 rfl) ?_
  refine lv_bipush (v := 41) hx hb dX7_beginCatch_108 (by decide) ?_
  obtain ⟨p36, hcp36, hf⟩ := hf_bind hf
  have mo37 : CS.hs p32.2 ≤ CS.hs p36.2 := Mono.go hcp36 (m_X1_close N p32.2 41)
  have hr9 : CS.hs p36.2 ≤ CS.hs R.2 := Mono.go hf (mono_bind (m_X1_open N p36.2 123) (fun p40 => (mono_ite (mono_bind (m_X0_add N p40.2 30 (CS.o p40.2 x1 10)) (fun p45 => (mono_bind (m_X0_aim N p45.2 x2) (fun p49 => (mono_bind (m_X0_add N p49.2 57 p24.1) (fun p53 => (mono_some (Nat.le_refl _)))))))) mono_none)))
  have hFc := cFree hC hA
  refine va_callv (va_runU (As := [.int 41]) (rest := []) ⟨hx, hb, hml, hown, hts⟩ (c_X1_close l dC dI Q N p32.2 41 p36 hcp36) (va_cwU 1 hts hX7_beginCatch_X1_close_u318 rfl rfl rfl rfl (by decide +kernel) ⟨(show 4 + 1 ≤ 5 by omega), (show 8 + (2 + 11) + 60 * 4 ≤ 60 * 5 by omega)⟩) ⟨zPre.blind, va_recv hK hC.1 (ci := 6) (q0 := 3) rfl rfl, cPre_go hZ hK hC⟩ rfl rfl hl.1 rfl (lv_room (Nat.le_of_ble_eq_true rfl)) dX7_beginCatch_110 (cAcc h35 mo37 hr9)) hC.2.2.1 (fun q _ h => hFc q h) hFc (fun u9 t9 H1 locs ht hvm hw hB hz1 hk1 hS => ?_)
  obtain ⟨⟨hP, hK1, hD1⟩, hsz1⟩ := hB
  rw [ht] at hP hsz1
  have hC : CP dC dI Q A s.heap p36.2 H1 locs := ⟨hP, hD1.weaken (fun _ _ _ h => hFc _ h), hS, hsz1⟩
  generalize H1 = H at hC ⊢
  have h39 : z9h ≤ CS.hs p36.2 := Nat.le_trans h35 mo37
  refine W.widen (k := CS.hs p36.2 - z9h) (n := 17 * (CS.hs p36.2 - z9h)) (cAcc2 h35 mo37) (cAcc3 h35 mo37) ?_
  refine lv_aload_n hx hb dX7_beginCatch_113 rfl (lv_at hl 1 rfl) ?_
  refine lv_bipush (v := 123) hx hb dX7_beginCatch_114 (by decide) ?_
  obtain ⟨p40, hcp40, hf⟩ := hf_bind hf
  have mo41 : CS.hs p36.2 ≤ CS.hs p40.2 := Mono.go hcp40 (m_X1_open N p36.2 123)
  have hr9 : CS.hs p40.2 ≤ CS.hs R.2 := Mono.go hf (mono_ite (mono_bind (m_X0_add N p40.2 30 (CS.o p40.2 x1 10)) (fun p45 => (mono_bind (m_X0_aim N p45.2 x2) (fun p49 => (mono_bind (m_X0_add N p49.2 57 p24.1) (fun p53 => (mono_some (Nat.le_refl _)))))))) mono_none)
  have hFc := cFree hC hA
  refine va_callv (va_runU (As := [.int 123]) (rest := []) ⟨hx, hb, hml, hown, hts⟩ (c_X1_open l dC dI Q N p36.2 123 p40 hcp40) (va_cwU 1 hts hX7_beginCatch_X1_open_u173 rfl rfl rfl rfl (by decide +kernel) ⟨(show 4 + 1 ≤ 5 by omega), (show 8 + (2 + 11) + 60 * 4 ≤ 60 * 5 by omega)⟩) ⟨zPre.blind, va_recv hK hC.1 (ci := 6) (q0 := 3) rfl rfl, cPre_go hZ hK hC⟩ rfl rfl hl.1 rfl (lv_room (Nat.le_of_ble_eq_true rfl)) dX7_beginCatch_116 (cAcc h39 mo41 hr9)) hC.2.2.1 (fun q _ h => hFc q h) hFc (fun u9 t9 H1 locs ht hvm hw hB hz1 hk1 hS => ?_)
  obtain ⟨⟨hP, hK1, hD1⟩, hsz1⟩ := hB
  rw [ht] at hP hsz1
  have hC : CP dC dI Q A s.heap p40.2 H1 locs := ⟨hP, hD1.weaken (fun _ _ _ h => hFc _ h), hS, hsz1⟩
  generalize H1 = H at hC ⊢
  have h43 : z9h ≤ CS.hs p40.2 := Nat.le_trans h39 mo41
  refine W.widen (k := CS.hs p40.2 - z9h) (n := 17 * (CS.hs p40.2 - z9h)) (cAcc2 h39 mo41) (cAcc3 h39 mo41) ?_
  refine lv_aload_n hx hb dX7_beginCatch_119 rfl (lv_at hl 1 rfl) ?_
  refine cG_29 hx hb hts i_X7_beginCatch_X7 hown hK hC (hts (.fieldLink RX7 20 "StatementRules2$Statements" "code" "LStatementRules2$Code;") k_X7_beginCatch_fieldLink_RX7_20_SR_Statements_code_LSR_Code) (fun x9 q9 => u_same (hts (.sameField "StatementRules2$Statements" "StatementRules2$Formulas" "code" "LStatementRules2$Code;") k_X7_beginCatch_sameField_SR_Statements_SR_Formulas_code_LSR_Code) x9 q9) dX7_beginCatch_120 ?_
  refine lv_bipush (v := 30) hx hb dX7_beginCatch_123 (by decide) ?_
  refine lv_aload_n hx hb dX7_beginCatch_125 rfl (lv_at hl 2 rfl) ?_
  obtain ⟨b44, hf⟩ := hf_ite hf
  refine pGN_X5_10 (v := (CS.o p40.2 x1 10)) hx hb hts i_X7_beginCatch_X5 hown hK hC (va_Nw.use rfl (hZ.1 (.fieldLinkNest RX7 284 "StatementRules2$Open" "next" "I" "StatementRules2") (by decide +kernel))) (fun _ q9 => q9) dX7_beginCatch_126 b44 rfl ?_
  obtain ⟨p45, hcp45, hf⟩ := hf_bind hf
  have mo46 : CS.hs p40.2 ≤ CS.hs p45.2 := Mono.go hcp45 (m_X0_add N p40.2 30 (CS.o p40.2 x1 10))
  have hr9 : CS.hs p45.2 ≤ CS.hs R.2 := Mono.go hf (mono_bind (m_X0_aim N p45.2 x2) (fun p49 => (mono_bind (m_X0_add N p49.2 57 p24.1) (fun p53 => (mono_some (Nat.le_refl _))))))
  have hFc := cFree hC hA
  refine va_callv (va_runV (As := [.int 30, .int (CS.o p40.2 x1 10)]) (rest := []) ⟨hx, hb, hml, hown, hts⟩ (c_X0_add l dC dI Q N p40.2 30 (CS.o p40.2 x1 10) p45 hcp45) (cwV 2 hts hX7_beginCatch_X0_add_v176 rfl rfl rfl (by decide +kernel) ⟨(show 2 + 1 ≤ 5 by omega), (show 8 + (3 + 11) + 60 * 2 ≤ 60 * 5 by omega)⟩) ⟨zPre.blind, va_recv hK hC.1 (ci := 0) (q0 := 2) rfl rfl, cPre_go hZ hK hC⟩ rfl rfl hl.1 rfl (lv_room (Nat.le_of_ble_eq_true rfl)) dX7_beginCatch_129 (cAcc h43 mo46 hr9)) hC.2.2.1 (fun q _ h => hFc q h) hFc (fun u9 t9 H1 locs ht hvm hw hB hz1 hk1 hS => ?_)
  obtain ⟨⟨hP, hK1, hD1⟩, hsz1⟩ := hB
  rw [ht] at hP hsz1
  have hC : CP dC dI Q A s.heap p45.2 H1 locs := ⟨hP, hD1.weaken (fun _ _ _ h => hFc _ h), hS, hsz1⟩
  generalize H1 = H at hC ⊢
  have h48 : z9h ≤ CS.hs p45.2 := Nat.le_trans h43 mo46
  refine W.widen (k := CS.hs p45.2 - z9h) (n := 17 * (CS.hs p45.2 - z9h)) (cAcc2 h43 mo46) (cAcc3 h43 mo46) ?_
  refine lv_aload_n hx hb dX7_beginCatch_132 rfl (lv_at hl 1 rfl) ?_
  refine cG_29 hx hb hts i_X7_beginCatch_X7 hown hK hC (hts (.fieldLink RX7 20 "StatementRules2$Statements" "code" "LStatementRules2$Code;") k_X7_beginCatch_fieldLink_RX7_20_SR_Statements_code_LSR_Code) (fun x9 q9 => u_same (hts (.sameField "StatementRules2$Statements" "StatementRules2$Formulas" "code" "LStatementRules2$Code;") k_X7_beginCatch_sameField_SR_Statements_SR_Formulas_code_LSR_Code) x9 q9) dX7_beginCatch_133 ?_
  refine lv_iload_n hx hb dX7_beginCatch_136 rfl (lv_at hl 3 rfl) ?_
  obtain ⟨p49, hcp49, hf⟩ := hf_bind hf
  have mo50 : CS.hs p45.2 ≤ CS.hs p49.2 := Mono.go hcp49 (m_X0_aim N p45.2 x2)
  have hr9 : CS.hs p49.2 ≤ CS.hs R.2 := Mono.go hf (mono_bind (m_X0_add N p49.2 57 p24.1) (fun p53 => (mono_some (Nat.le_refl _))))
  have hFc := cFree hC hA
  refine va_callv (va_runV (As := [.int x2]) (rest := []) ⟨hx, hb, hml, hown, hts⟩ (c_X0_aim l dC dI Q N p45.2 x2 p49 hcp49) (cwV 1 hts hX7_beginCatch_X0_aim_v158 rfl rfl rfl (by decide +kernel) ⟨(show 2 + 1 ≤ 5 by omega), (show 8 + (2 + 11) + 60 * 2 ≤ 60 * 5 by omega)⟩) ⟨zPre.blind, va_recv hK hC.1 (ci := 0) (q0 := 2) rfl rfl, cPre_go hZ hK hC⟩ rfl rfl hl.1 rfl (lv_room (Nat.le_of_ble_eq_true rfl)) dX7_beginCatch_137 (cAcc h48 mo50 hr9)) hC.2.2.1 (fun q _ h => hFc q h) hFc (fun u9 t9 H1 locs ht hvm hw hB hz1 hk1 hS => ?_)
  obtain ⟨⟨hP, hK1, hD1⟩, hsz1⟩ := hB
  rw [ht] at hP hsz1
  have hC : CP dC dI Q A s.heap p49.2 H1 locs := ⟨hP, hD1.weaken (fun _ _ _ h => hFc _ h), hS, hsz1⟩
  generalize H1 = H at hC ⊢
  have h52 : z9h ≤ CS.hs p49.2 := Nat.le_trans h48 mo50
  refine W.widen (k := CS.hs p49.2 - z9h) (n := 17 * (CS.hs p49.2 - z9h)) (cAcc2 h48 mo50) (cAcc3 h48 mo50) ?_
  refine lv_aload_n hx hb dX7_beginCatch_140 rfl (lv_at hl 1 rfl) ?_
  refine cG_29 hx hb hts i_X7_beginCatch_X7 hown hK hC (hts (.fieldLink RX7 20 "StatementRules2$Statements" "code" "LStatementRules2$Code;") k_X7_beginCatch_fieldLink_RX7_20_SR_Statements_code_LSR_Code) (fun x9 q9 => u_same (hts (.sameField "StatementRules2$Statements" "StatementRules2$Formulas" "code" "LStatementRules2$Code;") k_X7_beginCatch_sameField_SR_Statements_SR_Formulas_code_LSR_Code) x9 q9) dX7_beginCatch_141 ?_
  refine lv_bipush (v := 57) hx hb dX7_beginCatch_144 (by decide) ?_
  refine lv_iload_n hx hb dX7_beginCatch_146 rfl (lv_at hl 0 rfl) ?_
  obtain ⟨p53, hcp53, hf⟩ := hf_bind hf
  have mo54 : CS.hs p49.2 ≤ CS.hs p53.2 := Mono.go hcp53 (m_X0_add N p49.2 57 p24.1)
  have hr9 : CS.hs p53.2 ≤ CS.hs R.2 := Mono.go hf (mono_some (Nat.le_refl _))
  have hFc := cFree hC hA
  refine va_callv (va_runV (As := [.int 57, .int p24.1]) (rest := []) ⟨hx, hb, hml, hown, hts⟩ (c_X0_add l dC dI Q N p49.2 57 p24.1 p53 hcp53) (cwV 2 hts hX7_beginCatch_X0_add_v176 rfl rfl rfl (by decide +kernel) ⟨(show 2 + 1 ≤ 5 by omega), (show 8 + (3 + 11) + 60 * 2 ≤ 60 * 5 by omega)⟩) ⟨zPre.blind, va_recv hK hC.1 (ci := 0) (q0 := 2) rfl rfl, cPre_go hZ hK hC⟩ rfl rfl hl.1 rfl (lv_room (Nat.le_of_ble_eq_true rfl)) dX7_beginCatch_147 (cAcc h52 mo54 hr9)) hC.2.2.1 (fun q _ h => hFc q h) hFc (fun u9 t9 H1 locs ht hvm hw hB hz1 hk1 hS => ?_)
  obtain ⟨⟨hP, hK1, hD1⟩, hsz1⟩ := hB
  rw [ht] at hP hsz1
  have hC : CP dC dI Q A s.heap p53.2 H1 locs := ⟨hP, hD1.weaken (fun _ _ _ h => hFc _ h), hS, hsz1⟩
  generalize H1 = H at hC ⊢
  have h56 : z9h ≤ CS.hs p53.2 := Nat.le_trans h52 mo54
  refine W.widen (k := CS.hs p53.2 - z9h) (n := 17 * (CS.hs p53.2 - z9h)) (cAcc2 h52 mo54) (cAcc3 h52 mo54) ?_
  refine lv_aload_n hx hb dX7_beginCatch_150 rfl (lv_at hl 1 rfl) ?_
  refine lv_iconst (v := 1) hx hb dX7_beginCatch_151 (by decide) ?_
  refine cP_36 (v := 1) hx hb hts i_X7_beginCatch_X7 hown hK hC (hts (.fieldLink RX7 61 "StatementRules2$Statements" "alive" "Z") k_X7_beginCatch_fieldLink_RX7_61_SR_Statements_alive_Z) (fun _ q9 => q9) dX7_beginCatch_152 (by decide) (fun H locs hC => ?_)
  obtain rfl := Option.some.inj hf
  exact W.vret hx hb hr (fun t ht hW => ⟨⟨(), rfl, trivial, ⟨by rw [ht]; exact hC.1, va_K.moved hW.alike hK, hC.2.1⟩, by rw [ht]; exact hC.2.2.2⟩, hC.2.2.1.F ht⟩) hC.2.2.1.2.2 dX7_beginCatch_155
set_option maxHeartbeats 4000000 in
set_option maxRecDepth 100000 in
theorem j_X7_beginCatch_52 {p : Program} {e : Env} {s : State} {m : MethodId} {args : Array Value} {below : List Frame} {meth : Method} {c : Code} {A : Nat → Prop} (l : Launch) (dC : Nat → ClassId) (dI : Nat → Nat → Nat) (Q : CQ) (N : Nat) (z9h : Nat) (R : Unit × CS) (hx : p.tables.exec = Jvm.exec) (hb : c.code = cX7_beginCatch) (hr : meth.sig.returnType = none) (hml : c.maxLocals = 4) (hown : s.vm.findClass RX7 = some m.cls) (hts : ∀ w ∈ wzX7_beginCatch, w.before args s = true) (hlocks : meth.locks = false) (hZ : zAMB s) (hA : ∀ q : Nat, s.heap.size ≤ q → A q) (hK : va_K (dC, dI) vwCl (cT Q) s) : ∀ (n9 : Nat), ∀ (σ : CS) (x1 : Nat) (x2 : Int32) (x3 : Int32) (H : Heap) (locs : List Loc) (ls : Array Slot), f_X7_beginCatch_52 N n9 σ x1 x2 x3 = some R → z9h ≤ CS.hs σ → CP dC dI Q A s.heap σ H locs → lv_has ls 4 [(0, .ref (Q.o 3)), (1, .ref x1), (2, .int x2), (3, .int x3)] → W p l e ({ frames := 5, cells := CS.hs R.2 - z9h, slots := 17 * (CS.hs R.2 - z9h), locals := 60 * 5 }) s m args below meth c H locs (CS.hs σ - z9h) (17 * (CS.hs σ - z9h)) (MQ below (va_Qv (fun (_ : Unit) => True) (fun (_ : Unit) (t : State) => zPost dC dI A (cW Q R.2) (cT Q) t ∧ t.heap.size = CS.hs R.2) A) args s (CS.hs R.2 - z9h) (17 * (CS.hs R.2 - z9h)) A) (F0 m 52 ls []) := by
  intro n9
  induction n9 with
  | zero => intro σ x1 x2 x3 H locs ls hf; exact absurd hf (by intro q9; cases q9)
  | succ n9 ih =>
    intro σ x1 x2 x3 H locs ls hf h0 hC hl
    replace hf : b_X7_beginCatch_52 N (f_X7_beginCatch_52 N n9) σ x1 x2 x3 = some R := hf
    unfold b_X7_beginCatch_52 at hf
    have hMK := fun (σ : CS) (x1 : Nat) (x2 : Int32) (x3 : Int32) => m_X7_beginCatch_52 N n9 σ x1 x2 x3
    refine lv_iload_n hx hb dX7_beginCatch_52 rfl (lv_at hl 3 rfl) ?_
    refine lv_sipush (v := 900) hx hb dX7_beginCatch_53 (by decide) ?_
    refine lv_icmp_ge (tgt := 80) hx hb dX7_beginCatch_56 (by decide) (fun c23 => ?_) (fun c23 => ?_)
    ·
      replace hf := (if_pos c23).symm.trans hf
      exact j_X7_beginCatch_80 l dC dI Q N z9h R hx hb hr hml hown hts hlocks hZ hA hK σ x1 x2 _ _ _ hf h0 hC (lv_sub hl [0, 1, 2] rfl)
    ·
      replace hf := (if_neg c23).symm.trans hf
      refine lv_aload_n hx hb dX7_beginCatch_59 rfl (lv_at hl 0 rfl) ?_
      refine lv_bipush (v := 124) hx hb dX7_beginCatch_60 (by decide) ?_
      obtain ⟨p57, hcp57, hf⟩ := hf_bind hf
      have mo58 : CS.hs σ ≤ CS.hs p57.2 := Mono.go hcp57 (m_X1_skip N σ 124)
      have hr9 : CS.hs p57.2 ≤ CS.hs R.2 := Mono.go hf (mono_ite (m_X7_beginCatch_80 N p57.2 x1 x2) (mono_bind (m_X7_caughtKind N p57.2 x1 x2) (fun p62 => (hMK p62.2 x1 x2 (x3 + 1)))))
      have hFc := cFree hC hA
      refine va_calli (va_runU (As := [.int 124]) (rest := []) ⟨hx, hb, hml, hown, hts⟩ (c_X1_skip l dC dI Q N σ 124 p57 hcp57) (va_cwU 1 hts hX7_beginCatch_X1_skip_u205 rfl rfl rfl rfl (by decide +kernel) ⟨(show 4 + 1 ≤ 5 by omega), (show 8 + (3 + 11) + 60 * 4 ≤ 60 * 5 by omega)⟩) ⟨zPre.blind, va_recv hK hC.1 (ci := 6) (q0 := 3) rfl rfl, cPre_go hZ hK hC⟩ rfl rfl hl.1 rfl (lv_room (Nat.le_of_ble_eq_true rfl)) dX7_beginCatch_62 (cAcc h0 mo58 hr9)) hC.2.2.1 (fun q _ h => hFc q h) hFc (fun r59 u9 t9 H1 locs ht hvm hw hB hz1 hk1 hS => ?_)
      obtain ⟨⟨hP, hK1, hD1⟩, hsz1⟩ := hB
      rw [ht] at hP hsz1
      have hC : CP dC dI Q A s.heap p57.2 H1 locs := ⟨hP, hD1.weaken (fun _ _ _ h => hFc _ h), hS, hsz1⟩
      generalize H1 = H at hC ⊢
      have h60 : z9h ≤ CS.hs p57.2 := Nat.le_trans h0 mo58
      refine W.widen (k := CS.hs p57.2 - z9h) (n := 17 * (CS.hs p57.2 - z9h)) (cAcc2 h0 mo58) (cAcc3 h0 mo58) ?_
      obtain rfl : r59 = p57.1 := hw
      refine lv_if_eq (tgt := 80) hx hb dX7_beginCatch_65 (by decide) (fun c61 => ?_) (fun c61 => ?_)
      ·
        replace hf := (if_pos c61).symm.trans hf
        exact j_X7_beginCatch_80 l dC dI Q N z9h R hx hb hr hml hown hts hlocks hZ hA hK p57.2 x1 x2 _ _ _ hf h60 hC (lv_sub hl [0, 1, 2] rfl)
      ·
        replace hf := (if_neg c61).symm.trans hf
        refine lv_aload_n hx hb dX7_beginCatch_68 rfl (lv_at hl 0 rfl) ?_
        refine lv_aload_n hx hb dX7_beginCatch_69 rfl (lv_at hl 1 rfl) ?_
        refine lv_iload_n hx hb dX7_beginCatch_70 rfl (lv_at hl 2 rfl) ?_
        obtain ⟨p62, hcp62, hf⟩ := hf_bind hf
        have mo63 : CS.hs p57.2 ≤ CS.hs p62.2 := Mono.go hcp62 (m_X7_caughtKind N p57.2 x1 x2)
        have hr9 : CS.hs p62.2 ≤ CS.hs R.2 := Mono.go hf (hMK p62.2 x1 x2 (x3 + 1))
        have hFc := cFree hC hA
        refine va_callv (va_runV (As := [.ref x1, .int x2]) (rest := []) ⟨hx, hb, hml, hown, hts⟩ (c_X7_caughtKind l dC dI Q N p57.2 x1 x2 p62 hcp62) (cwV 2 hts hX7_beginCatch_X7_caughtKind_v390 rfl rfl rfl (by decide +kernel) ⟨(show 4 + 1 ≤ 5 by omega), (show 8 + (5 + 11) + 60 * 4 ≤ 60 * 5 by omega)⟩) ⟨zPre.blind, va_recv hK hC.1 (ci := 6) (q0 := 3) rfl rfl, cPre_go hZ hK hC⟩ rfl rfl hl.1 rfl (lv_room (Nat.le_of_ble_eq_true rfl)) dX7_beginCatch_71 (cAcc h60 mo63 hr9)) hC.2.2.1 (fun q _ h => hFc q h) hFc (fun u9 t9 H1 locs ht hvm hw hB hz1 hk1 hS => ?_)
        obtain ⟨⟨hP, hK1, hD1⟩, hsz1⟩ := hB
        rw [ht] at hP hsz1
        have hC : CP dC dI Q A s.heap p62.2 H1 locs := ⟨hP, hD1.weaken (fun _ _ _ h => hFc _ h), hS, hsz1⟩
        generalize H1 = H at hC ⊢
        have h65 : z9h ≤ CS.hs p62.2 := Nat.le_trans h60 mo63
        refine W.widen (k := CS.hs p62.2 - z9h) (n := 17 * (CS.hs p62.2 - z9h)) (cAcc2 h60 mo63) (cAcc3 h60 mo63) ?_
        refine lv_iinc (v := (x3 + 1)) (lv' := [(3, .int (x3 + 1)), (0, .ref (Q.o 3)), (1, .ref x1), (2, .int x2)]) hx hb dX7_beginCatch_74 hl (k := 3) rfl rfl (by decide) rfl (fun ls hl => ?_)
        refine lv_goto (tgt := 52) hx hb dX7_beginCatch_77 (by decide) ?_
        exact ih p62.2 x1 x2 (x3 + 1) _ _ _ hf h65 hC (lv_sub hl [1, 2, 3, 0] rfl)
set_option maxHeartbeats 4000000 in
set_option maxRecDepth 100000 in
theorem c_X7_beginCatch (l : Launch) (dC : Nat → ClassId) (dI : Nat → Nat → Nat) (Q : CQ) (N : Nat) (σ : CS) (x1 : Nat) (R : Unit × CS) (hf : f_X7_beginCatch N σ x1 = some R) : Met l yX7_beginCatch wzX7_beginCatch ({ frames := 5, cells := CS.hs R.2 - CS.hs σ, slots := 17 * (CS.hs R.2 - CS.hs σ), locals := 60 * 5 }) (va_Pc [.ref (Q.o 3), .ref x1] (zPre dC dI (CS.hs σ) (cW Q σ) (cT Q))) (va_Qv (fun (_ : Unit) => True) (fun (_ : Unit) (t : State) => zPost dC dI (va_A (cW Q σ) (CS.hs σ)) (cW Q R.2) (cT Q) t ∧ t.heap.size = CS.hs R.2) (va_A (cW Q σ) (CS.hs σ))) (CS.hs R.2 - CS.hs σ) (17 * (CS.hs R.2 - CS.hs σ)) (va_A (cW Q σ) (CS.hs σ)) := by
  refine Met.ofW (cc := cX7_beginCatch) (maxL := 4) (ret := none) (by decide) rfl ?_
  intro p e s m args below meth c s₁ B hml hv
  obtain ⟨rfl, hsz, hZ, hP, hK, hD0⟩ := hv
  have hx := B.exec
  have hb := B.bytes
  have hr := B.returns
  have hts := atoms_spec (ws := wzX7_beginCatch) B.pre
  have hown : s.vm.findClass RX7 = some m.cls := findClass_of_methodNamed B.named
  have hlocks := B.notSynchronized
  have hD := hD0.self (sz := CS.hs σ)
  generalize hAe : va_A (cW Q σ) (CS.hs σ) = A at hD ⊢
  have hA : ∀ q : Nat, s.heap.size ≤ q → A q := fun q h => by rw [← hAe]; exact Or.inr (hsz ▸ h)
  have hC : CP dC dI Q A s.heap σ s.heap [] := ⟨hP, hD, va_S.rf, hsz⟩
  have h0 : CS.hs σ ≤ CS.hs σ := Nat.le_refl _
  have hl := lv_entry ([.ref (Q.o 3), .ref x1]) (n := 4) (Nat.le_of_ble_eq_true rfl)
  rw [lg_entry_eq]
  generalize (lg_sl ([.ref (Q.o 3), .ref x1]) ++ List.replicate (4 - (lg_sl ([.ref (Q.o 3), .ref x1])).length) Slot.unset).toArray = ls at hl ⊢
  have hl : lv_has ls 4 [(0, .ref (Q.o 3)), (1, .ref x1)] := hl
  unfold f_X7_beginCatch at hf
  refine W.widen (k := CS.hs σ - CS.hs σ) (n := 17 * (CS.hs σ - CS.hs σ)) (Nat.zero_le _) (Nat.zero_le _) ?_
  refine lv_aload_n hx hb dX7_beginCatch_0 rfl (lv_at hl 0 rfl) ?_
  refine cG_29 hx hb hts i_X7_beginCatch_X7 hown hK hC (hts (.fieldLink RX7 20 "StatementRules2$Statements" "code" "LStatementRules2$Code;") k_X7_beginCatch_fieldLink_RX7_20_SR_Statements_code_LSR_Code) (fun x9 q9 => u_same (hts (.sameField "StatementRules2$Statements" "StatementRules2$Formulas" "code" "LStatementRules2$Code;") k_X7_beginCatch_sameField_SR_Statements_SR_Formulas_code_LSR_Code) x9 q9) dX7_beginCatch_1 ?_
  obtain ⟨p1, hcp1, hf⟩ := hf_bind hf
  have mo2 : CS.hs σ ≤ CS.hs p1.2 := Mono.go hcp1 (m_X0_newTarget N σ)
  have hr9 : CS.hs p1.2 ≤ CS.hs R.2 := Mono.go hf (mono_ite (mono_bind (m_X0_newTarget N (CS.setO (CS.setO p1.2 x1 0 215) x1 8 1)) (fun p6 => (mono_ite (mono_bind (m_X9_advance N (CS.setO p6.2 x1 10 p6.1)) (fun p11 => (mono_bind (m_X1_open N p11.2 40) (fun p15 => (mono_bind (m_X7_caughtKind N p15.2 x1 p1.1) (fun p19 => (m_X7_beginCatch_52 N N p19.2 x1 p1.1 0))))))) mono_none))) mono_none)
  have hFc := cFree hC hA
  refine va_calli (va_runV (As := []) (rest := []) ⟨hx, hb, hml, hown, hts⟩ (c_X0_newTarget l dC dI Q N σ p1 hcp1) (cwV 0 hts hX7_beginCatch_X0_newTarget_v136 rfl rfl rfl (by decide +kernel) ⟨(show 2 + 1 ≤ 5 by omega), (show 8 + (1 + 11) + 60 * 2 ≤ 60 * 5 by omega)⟩) ⟨zPre.blind, va_recv hK hC.1 (ci := 0) (q0 := 2) rfl rfl, cPre_go hZ hK hC⟩ rfl rfl hl.1 rfl (lv_room (Nat.le_of_ble_eq_true rfl)) dX7_beginCatch_4 (cAcc h0 mo2 hr9)) hC.2.2.1 (fun q _ h => hFc q h) hFc (fun r3 u9 t9 H1 locs ht hvm hw hB hz1 hk1 hS => ?_)
  obtain ⟨⟨hP, hK1, hD1⟩, hsz1⟩ := hB
  rw [ht] at hP hsz1
  have hC : CP dC dI Q A s.heap p1.2 H1 locs := ⟨hP, hD1.weaken (fun _ _ _ h => hFc _ h), hS, hsz1⟩
  generalize H1 = H at hC ⊢
  have h4 : (CS.hs σ) ≤ CS.hs p1.2 := Nat.le_trans h0 mo2
  refine W.widen (k := CS.hs p1.2 - (CS.hs σ)) (n := 17 * (CS.hs p1.2 - (CS.hs σ))) (cAcc2 h0 mo2) (cAcc3 h0 mo2) ?_
  obtain rfl : r3 = p1.1 := hw
  refine lv_istore_n (lv' := [(2, .int p1.1), (0, .ref (Q.o 3)), (1, .ref x1)]) hx hb dX7_beginCatch_7 rfl hl (by decide) rfl (fun ls hl => ?_)
  refine lv_aload_n hx hb dX7_beginCatch_8 rfl (lv_at hl 2 rfl) ?_
  refine lv_sipush (v := 215) hx hb dX7_beginCatch_9 (by decide) ?_
  obtain ⟨b5, hf⟩ := hf_ite hf
  refine pPN_X5_0 (v := 215) hx hb hts i_X7_beginCatch_X5 hown hK hC (va_Nw.use rfl (hZ.1 (.fieldLinkNest RX7 107 "StatementRules2$Open" "sort" "I" "StatementRules2") (by decide +kernel))) (fun _ q9 => q9) dX7_beginCatch_12 b5 (fun H locs hC => ?_)
  refine lv_aload_n hx hb dX7_beginCatch_15 rfl (lv_at hl 2 rfl) ?_
  refine lv_iconst (v := 1) hx hb dX7_beginCatch_16 (by decide) ?_
  refine pPN_X5_8 (v := 1) hx hb hts i_X7_beginCatch_X5 hown hK hC (va_Nw.use rfl (hZ.1 (.fieldLinkNest RX7 350 "StatementRules2$Open" "whole" "Z" "StatementRules2") (by decide +kernel))) (fun _ q9 => q9) dX7_beginCatch_17 b5 (by decide) (fun H locs hC => ?_)
  refine lv_aload_n hx hb dX7_beginCatch_20 rfl (lv_at hl 2 rfl) ?_
  refine lv_aload_n hx hb dX7_beginCatch_21 rfl (lv_at hl 1 rfl) ?_
  refine cG_29 hx hb hts i_X7_beginCatch_X7 hown hK hC (hts (.fieldLink RX7 20 "StatementRules2$Statements" "code" "LStatementRules2$Code;") k_X7_beginCatch_fieldLink_RX7_20_SR_Statements_code_LSR_Code) (fun x9 q9 => u_same (hts (.sameField "StatementRules2$Statements" "StatementRules2$Formulas" "code" "LStatementRules2$Code;") k_X7_beginCatch_sameField_SR_Statements_SR_Formulas_code_LSR_Code) x9 q9) dX7_beginCatch_22 ?_
  obtain ⟨p6, hcp6, hf⟩ := hf_bind hf
  have mo7 : CS.hs p1.2 ≤ CS.hs p6.2 := Mono.go hcp6 (m_X0_newTarget N (CS.setO (CS.setO p1.2 x1 0 215) x1 8 1))
  have hr9 : CS.hs p6.2 ≤ CS.hs R.2 := Mono.go hf (mono_ite (mono_bind (m_X9_advance N (CS.setO p6.2 x1 10 p6.1)) (fun p11 => (mono_bind (m_X1_open N p11.2 40) (fun p15 => (mono_bind (m_X7_caughtKind N p15.2 x1 p1.1) (fun p19 => (m_X7_beginCatch_52 N N p19.2 x1 p1.1 0))))))) mono_none)
  have hFc := cFree hC hA
  refine va_calli (va_runV (As := []) (rest := [.ref x1]) ⟨hx, hb, hml, hown, hts⟩ (c_X0_newTarget l dC dI Q N (CS.setO (CS.setO p1.2 x1 0 215) x1 8 1) p6 hcp6) (cwV 0 hts hX7_beginCatch_X0_newTarget_v136 rfl rfl rfl (by decide +kernel) ⟨(show 2 + 1 ≤ 5 by omega), (show 8 + (1 + 11) + 60 * 2 ≤ 60 * 5 by omega)⟩) ⟨zPre.blind, va_recv hK hC.1 (ci := 0) (q0 := 2) rfl rfl, cPre_go hZ hK hC⟩ rfl rfl hl.1 rfl (lv_room (Nat.le_of_ble_eq_true rfl)) dX7_beginCatch_25 (cAcc h4 mo7 hr9)) hC.2.2.1 (fun q _ h => hFc q h) hFc (fun r8 u9 t9 H1 locs ht hvm hw hB hz1 hk1 hS => ?_)
  obtain ⟨⟨hP, hK1, hD1⟩, hsz1⟩ := hB
  rw [ht] at hP hsz1
  have hC : CP dC dI Q A s.heap p6.2 H1 locs := ⟨hP, hD1.weaken (fun _ _ _ h => hFc _ h), hS, hsz1⟩
  generalize H1 = H at hC ⊢
  have h9 : (CS.hs σ) ≤ CS.hs p6.2 := Nat.le_trans h4 mo7
  refine W.widen (k := CS.hs p6.2 - (CS.hs σ)) (n := 17 * (CS.hs p6.2 - (CS.hs σ))) (cAcc2 h4 mo7) (cAcc3 h4 mo7) ?_
  obtain rfl : r8 = p6.1 := hw
  obtain ⟨b10, hf⟩ := hf_ite hf
  refine pPN_X5_10 (v := p6.1) hx hb hts i_X7_beginCatch_X5 hown hK hC (va_Nw.use rfl (hZ.1 (.fieldLinkNest RX7 284 "StatementRules2$Open" "next" "I" "StatementRules2") (by decide +kernel))) (fun _ q9 => q9) dX7_beginCatch_28 b10 (fun H locs hC => ?_)
  refine lv_aload_n hx hb dX7_beginCatch_31 rfl (lv_at hl 1 rfl) ?_
  refine cG_28 hx hb hts i_X7_beginCatch_X7 hown hK hC (hts (.fieldLink RX7 71 "StatementRules2$Statements" "tokens" "LStatementRules2$Tokens;") k_X7_beginCatch_fieldLink_RX7_71_SR_Statements_tokens_LSR_Tokens) (fun x9 q9 => u_same (hts (.sameField "StatementRules2$Statements" "StatementRules2$Formulas" "tokens" "LStatementRules2$Tokens;") k_X7_beginCatch_sameField_SR_Statements_SR_Formulas_tokens_LSR_Tokens) x9 q9) dX7_beginCatch_32 ?_
  obtain ⟨p11, hcp11, hf⟩ := hf_bind hf
  have mo12 : CS.hs p6.2 ≤ CS.hs p11.2 := Mono.go hcp11 (m_X9_advance N (CS.setO p6.2 x1 10 p6.1))
  have hr9 : CS.hs p11.2 ≤ CS.hs R.2 := Mono.go hf (mono_bind (m_X1_open N p11.2 40) (fun p15 => (mono_bind (m_X7_caughtKind N p15.2 x1 p1.1) (fun p19 => (m_X7_beginCatch_52 N N p19.2 x1 p1.1 0)))))
  have hFc := cFree hC hA
  refine va_callv (va_runV (As := []) (rest := []) ⟨hx, hb, hml, hown, hts⟩ (c_X9_advance l dC dI Q N (CS.setO p6.2 x1 10 p6.1) p11 hcp11) (cwV 0 hts hX7_beginCatch_X9_advance_v146 rfl rfl rfl (by decide +kernel) ⟨(show 3 + 1 ≤ 5 by omega), (show 8 + (2 + 11) + 60 * 3 ≤ 60 * 5 by omega)⟩) ⟨zPre.blind, va_recv hK hC.1 (ci := 8) (q0 := 4) rfl rfl, cPre_go hZ hK hC⟩ rfl rfl hl.1 rfl (lv_room (Nat.le_of_ble_eq_true rfl)) dX7_beginCatch_35 (cAcc h9 mo12 hr9)) hC.2.2.1 (fun q _ h => hFc q h) hFc (fun u9 t9 H1 locs ht hvm hw hB hz1 hk1 hS => ?_)
  obtain ⟨⟨hP, hK1, hD1⟩, hsz1⟩ := hB
  rw [ht] at hP hsz1
  have hC : CP dC dI Q A s.heap p11.2 H1 locs := ⟨hP, hD1.weaken (fun _ _ _ h => hFc _ h), hS, hsz1⟩
  generalize H1 = H at hC ⊢
  have h14 : (CS.hs σ) ≤ CS.hs p11.2 := Nat.le_trans h9 mo12
  refine W.widen (k := CS.hs p11.2 - (CS.hs σ)) (n := 17 * (CS.hs p11.2 - (CS.hs σ))) (cAcc2 h9 mo12) (cAcc3 h9 mo12) ?_
  refine lv_aload_n hx hb dX7_beginCatch_38 rfl (lv_at hl 1 rfl) ?_
  refine lv_bipush (v := 40) hx hb dX7_beginCatch_39 (by decide) ?_
  obtain ⟨p15, hcp15, hf⟩ := hf_bind hf
  have mo16 : CS.hs p11.2 ≤ CS.hs p15.2 := Mono.go hcp15 (m_X1_open N p11.2 40)
  have hr9 : CS.hs p15.2 ≤ CS.hs R.2 := Mono.go hf (mono_bind (m_X7_caughtKind N p15.2 x1 p1.1) (fun p19 => (m_X7_beginCatch_52 N N p19.2 x1 p1.1 0)))
  have hFc := cFree hC hA
  refine va_callv (va_runU (As := [.int 40]) (rest := []) ⟨hx, hb, hml, hown, hts⟩ (c_X1_open l dC dI Q N p11.2 40 p15 hcp15) (va_cwU 1 hts hX7_beginCatch_X1_open_u173 rfl rfl rfl rfl (by decide +kernel) ⟨(show 4 + 1 ≤ 5 by omega), (show 8 + (2 + 11) + 60 * 4 ≤ 60 * 5 by omega)⟩) ⟨zPre.blind, va_recv hK hC.1 (ci := 6) (q0 := 3) rfl rfl, cPre_go hZ hK hC⟩ rfl rfl hl.1 rfl (lv_room (Nat.le_of_ble_eq_true rfl)) dX7_beginCatch_41 (cAcc h14 mo16 hr9)) hC.2.2.1 (fun q _ h => hFc q h) hFc (fun u9 t9 H1 locs ht hvm hw hB hz1 hk1 hS => ?_)
  obtain ⟨⟨hP, hK1, hD1⟩, hsz1⟩ := hB
  rw [ht] at hP hsz1
  have hC : CP dC dI Q A s.heap p15.2 H1 locs := ⟨hP, hD1.weaken (fun _ _ _ h => hFc _ h), hS, hsz1⟩
  generalize H1 = H at hC ⊢
  have h18 : (CS.hs σ) ≤ CS.hs p15.2 := Nat.le_trans h14 mo16
  refine W.widen (k := CS.hs p15.2 - (CS.hs σ)) (n := 17 * (CS.hs p15.2 - (CS.hs σ))) (cAcc2 h14 mo16) (cAcc3 h14 mo16) ?_
  refine lv_aload_n hx hb dX7_beginCatch_44 rfl (lv_at hl 1 rfl) ?_
  refine lv_aload_n hx hb dX7_beginCatch_45 rfl (lv_at hl 2 rfl) ?_
  refine lv_iload_n hx hb dX7_beginCatch_46 rfl (lv_at hl 0 rfl) ?_
  obtain ⟨p19, hcp19, hf⟩ := hf_bind hf
  have mo20 : CS.hs p15.2 ≤ CS.hs p19.2 := Mono.go hcp19 (m_X7_caughtKind N p15.2 x1 p1.1)
  have hr9 : CS.hs p19.2 ≤ CS.hs R.2 := Mono.go hf (m_X7_beginCatch_52 N N p19.2 x1 p1.1 0)
  have hFc := cFree hC hA
  refine va_callv (va_runV (As := [.ref x1, .int p1.1]) (rest := []) ⟨hx, hb, hml, hown, hts⟩ (c_X7_caughtKind l dC dI Q N p15.2 x1 p1.1 p19 hcp19) (cwV 2 hts hX7_beginCatch_X7_caughtKind_v390 rfl rfl rfl (by decide +kernel) ⟨(show 4 + 1 ≤ 5 by omega), (show 8 + (5 + 11) + 60 * 4 ≤ 60 * 5 by omega)⟩) ⟨zPre.blind, va_recv hK hC.1 (ci := 6) (q0 := 3) rfl rfl, cPre_go hZ hK hC⟩ rfl rfl hl.1 rfl (lv_room (Nat.le_of_ble_eq_true rfl)) dX7_beginCatch_47 (cAcc h18 mo20 hr9)) hC.2.2.1 (fun q _ h => hFc q h) hFc (fun u9 t9 H1 locs ht hvm hw hB hz1 hk1 hS => ?_)
  obtain ⟨⟨hP, hK1, hD1⟩, hsz1⟩ := hB
  rw [ht] at hP hsz1
  have hC : CP dC dI Q A s.heap p19.2 H1 locs := ⟨hP, hD1.weaken (fun _ _ _ h => hFc _ h), hS, hsz1⟩
  generalize H1 = H at hC ⊢
  have h22 : (CS.hs σ) ≤ CS.hs p19.2 := Nat.le_trans h18 mo20
  refine W.widen (k := CS.hs p19.2 - (CS.hs σ)) (n := 17 * (CS.hs p19.2 - (CS.hs σ))) (cAcc2 h18 mo20) (cAcc3 h18 mo20) ?_
  refine lv_iconst (v := 0) hx hb dX7_beginCatch_50 (by decide) ?_
  refine lv_istore_n (lv' := [(3, .int 0), (2, .int p1.1), (0, .ref (Q.o 3)), (1, .ref x1)]) hx hb dX7_beginCatch_51 rfl hl (by decide) rfl (fun ls hl => ?_)
  exact j_X7_beginCatch_52 l dC dI Q N (CS.hs σ) R hx hb hr hml hown hts hlocks hZ hA hK N p19.2 x1 p1.1 0 _ _ _ hf h22 hC (lv_sub hl [2, 3, 1, 0] rfl)
theorem i_X7_beginFinally_X5 : ∀ w ∈ wsX50, w ∈ wzX7_beginFinally := fun _ h => List.mem_cons_of_mem _ (List.mem_append_right _ (List.mem_append_left _ (h)))
theorem k_X7_beginFinally_fieldLink_RX7_14_SR_Statements_opens_LSR_Opens : Cond.fieldLink RX7 14 "StatementRules2$Statements" "opens" "LStatementRules2$Opens;" ∈ wzX7_beginFinally := List.mem_cons_of_mem _ (List.mem_append_left _ (List.mem_of_getElem? (i := 0) rfl))
theorem i_X7_beginFinally_X7 : ∀ w ∈ wsX70, w ∈ wzX7_beginFinally := fun _ h => List.mem_cons_of_mem _ (List.mem_append_right _ (List.mem_append_right _ (List.mem_append_left _ (h))))
theorem i_X7_beginFinally_X6 : ∀ w ∈ wsX60, w ∈ wzX7_beginFinally := fun _ h => List.mem_cons_of_mem _ (List.mem_append_right _ (List.mem_append_right _ (List.mem_append_right _ (List.mem_append_left _ (h)))))
theorem k_X7_beginFinally_fieldLink_RX7_71_SR_Statements_tokens_LSR_Tokens : Cond.fieldLink RX7 71 "StatementRules2$Statements" "tokens" "LStatementRules2$Tokens;" ∈ wzX7_beginFinally := List.mem_cons_of_mem _ (List.mem_append_left _ (List.mem_of_getElem? (i := 1) rfl))
theorem k_X7_beginFinally_sameField_SR_Statements_SR_Formulas_tokens_LSR_Tokens : Cond.sameField "StatementRules2$Statements" "StatementRules2$Formulas" "tokens" "LStatementRules2$Tokens;" ∈ wzX7_beginFinally := List.mem_cons_of_mem _ (List.mem_append_left _ (List.mem_of_getElem? (i := 2) rfl))
theorem k_X7_beginFinally_fieldLink_RX7_20_SR_Statements_code_LSR_Code : Cond.fieldLink RX7 20 "StatementRules2$Statements" "code" "LStatementRules2$Code;" ∈ wzX7_beginFinally := List.mem_cons_of_mem _ (List.mem_append_left _ (List.mem_of_getElem? (i := 3) rfl))
theorem k_X7_beginFinally_sameField_SR_Statements_SR_Formulas_code_LSR_Code : Cond.sameField "StatementRules2$Statements" "StatementRules2$Formulas" "code" "LStatementRules2$Code;" ∈ wzX7_beginFinally := List.mem_cons_of_mem _ (List.mem_append_left _ (List.mem_of_getElem? (i := 4) rfl))
theorem k_X7_beginFinally_fieldLink_RX7_61_SR_Statements_alive_Z : Cond.fieldLink RX7 61 "StatementRules2$Statements" "alive" "Z" ∈ wzX7_beginFinally := List.mem_cons_of_mem _ (List.mem_append_left _ (List.mem_of_getElem? (i := 5) rfl))
set_option maxHeartbeats 4000000 in
set_option maxRecDepth 100000 in
theorem c_X7_beginFinally (l : Launch) (dC : Nat → ClassId) (dI : Nat → Nat → Nat) (Q : CQ) (N : Nat) (σ : CS) (x1 : Nat) (R : Unit × CS) (hf : f_X7_beginFinally N σ x1 = some R) : Met l yX7_beginFinally wzX7_beginFinally ({ frames := 5, cells := CS.hs R.2 - CS.hs σ, slots := 17 * (CS.hs R.2 - CS.hs σ), locals := 60 * 5 }) (va_Pc [.ref (Q.o 3), .ref x1] (zPre dC dI (CS.hs σ) (cW Q σ) (cT Q))) (va_Qv (fun (_ : Unit) => True) (fun (_ : Unit) (t : State) => zPost dC dI (va_A (cW Q σ) (CS.hs σ)) (cW Q R.2) (cT Q) t ∧ t.heap.size = CS.hs R.2) (va_A (cW Q σ) (CS.hs σ))) (CS.hs R.2 - CS.hs σ) (17 * (CS.hs R.2 - CS.hs σ)) (va_A (cW Q σ) (CS.hs σ)) := by
  refine Met.ofW (cc := cX7_beginFinally) (maxL := 2) (ret := none) (by decide) rfl ?_
  intro p e s m args below meth c s₁ B hml hv
  obtain ⟨rfl, hsz, hZ, hP, hK, hD0⟩ := hv
  have hx := B.exec
  have hb := B.bytes
  have hr := B.returns
  have hts := atoms_spec (ws := wzX7_beginFinally) B.pre
  have hown : s.vm.findClass RX7 = some m.cls := findClass_of_methodNamed B.named
  have hlocks := B.notSynchronized
  have hD := hD0.self (sz := CS.hs σ)
  generalize hAe : va_A (cW Q σ) (CS.hs σ) = A at hD ⊢
  have hA : ∀ q : Nat, s.heap.size ≤ q → A q := fun q h => by rw [← hAe]; exact Or.inr (hsz ▸ h)
  have hC : CP dC dI Q A s.heap σ s.heap [] := ⟨hP, hD, va_S.rf, hsz⟩
  have h0 : CS.hs σ ≤ CS.hs σ := Nat.le_refl _
  have hl := lv_entry ([.ref (Q.o 3), .ref x1]) (n := 2) (Nat.le_of_ble_eq_true rfl)
  rw [lg_entry_eq]
  generalize (lg_sl ([.ref (Q.o 3), .ref x1]) ++ List.replicate (2 - (lg_sl ([.ref (Q.o 3), .ref x1])).length) Slot.unset).toArray = ls at hl ⊢
  have hl : lv_has ls 2 [(0, .ref (Q.o 3)), (1, .ref x1)] := hl
  unfold f_X7_beginFinally at hf
  refine W.widen (k := CS.hs σ - CS.hs σ) (n := 17 * (CS.hs σ - CS.hs σ)) (Nat.zero_le _) (Nat.zero_le _) ?_
  refine lv_aload_n hx hb dX7_beginFinally_0 rfl (lv_at hl 1 rfl) ?_
  refine lv_sipush (v := 216) hx hb dX7_beginFinally_1 (by decide) ?_
  obtain ⟨b1, hf⟩ := hf_ite hf
  refine pPN_X5_0 (v := 216) hx hb hts i_X7_beginFinally_X5 hown hK hC (va_Nw.use rfl (hZ.1 (.fieldLinkNest RX7 107 "StatementRules2$Open" "sort" "I" "StatementRules2") (by decide +kernel))) (fun _ q9 => q9) dX7_beginFinally_4 b1 (fun H locs hC => ?_)
  refine lv_aload_n hx hb dX7_beginFinally_7 rfl (lv_at hl 1 rfl) ?_
  refine lv_aload_n hx hb dX7_beginFinally_8 rfl (lv_at hl 0 rfl) ?_
  refine cG_35 hx hb hts i_X7_beginFinally_X7 hown hK hC (hts (.fieldLink RX7 14 "StatementRules2$Statements" "opens" "LStatementRules2$Opens;") k_X7_beginFinally_fieldLink_RX7_14_SR_Statements_opens_LSR_Opens) (fun _ q9 => q9) dX7_beginFinally_9 ?_
  refine cGN_55 (v := (σ.i 55)) hx hb hts i_X7_beginFinally_X6 hown hK hC (va_Nw.use rfl (hZ.1 (.fieldLinkNest RX7 401 "StatementRules2$Opens" "jumpCount" "I" "StatementRules2") (by decide +kernel))) (fun _ q9 => q9) dX7_beginFinally_12 rfl ?_
  refine pPN_X5_15 (v := (σ.i 55)) hx hb hts i_X7_beginFinally_X5 hown hK hC (va_Nw.use rfl (hZ.1 (.fieldLinkNest RX7 404 "StatementRules2$Open" "finallyJump" "I" "StatementRules2") (by decide +kernel))) (fun _ q9 => q9) dX7_beginFinally_15 b1 (fun H locs hC => ?_)
  refine lv_aload_n hx hb dX7_beginFinally_18 rfl (lv_at hl 0 rfl) ?_
  refine cG_28 hx hb hts i_X7_beginFinally_X7 hown hK hC (hts (.fieldLink RX7 71 "StatementRules2$Statements" "tokens" "LStatementRules2$Tokens;") k_X7_beginFinally_fieldLink_RX7_71_SR_Statements_tokens_LSR_Tokens) (fun x9 q9 => u_same (hts (.sameField "StatementRules2$Statements" "StatementRules2$Formulas" "tokens" "LStatementRules2$Tokens;") k_X7_beginFinally_sameField_SR_Statements_SR_Formulas_tokens_LSR_Tokens) x9 q9) dX7_beginFinally_19 ?_
  obtain ⟨p2, hcp2, hf⟩ := hf_bind hf
  have mo3 : CS.hs σ ≤ CS.hs p2.2 := Mono.go hcp2 (m_X9_advance N (CS.setO (CS.setO σ x1 0 216) x1 15 (σ.i 55)))
  have hr9 : CS.hs p2.2 ≤ CS.hs R.2 := Mono.go hf (mono_bind (m_X1_open N p2.2 123) (fun p6 => (mono_bind (m_X0_add N p6.2 58 0) (fun p10 => (mono_ite (mono_bind (m_X0_aim N p10.2 (CS.o p10.2 x1 11)) (fun p15 => (mono_some (Nat.le_refl _)))) mono_none)))))
  have hFc := cFree hC hA
  refine va_callv (va_runV (As := []) (rest := []) ⟨hx, hb, hml, hown, hts⟩ (c_X9_advance l dC dI Q N (CS.setO (CS.setO σ x1 0 216) x1 15 (σ.i 55)) p2 hcp2) (cwV 0 hts hX7_beginFinally_X9_advance_v146 rfl rfl rfl (by decide +kernel) ⟨(show 3 + 1 ≤ 5 by omega), (show 8 + (2 + 11) + 60 * 3 ≤ 60 * 5 by omega)⟩) ⟨zPre.blind, va_recv hK hC.1 (ci := 8) (q0 := 4) rfl rfl, cPre_go hZ hK hC⟩ rfl rfl hl.1 rfl (lv_room (Nat.le_of_ble_eq_true rfl)) dX7_beginFinally_22 (cAcc h0 mo3 hr9)) hC.2.2.1 (fun q _ h => hFc q h) hFc (fun u9 t9 H1 locs ht hvm hw hB hz1 hk1 hS => ?_)
  obtain ⟨⟨hP, hK1, hD1⟩, hsz1⟩ := hB
  rw [ht] at hP hsz1
  have hC : CP dC dI Q A s.heap p2.2 H1 locs := ⟨hP, hD1.weaken (fun _ _ _ h => hFc _ h), hS, hsz1⟩
  generalize H1 = H at hC ⊢
  have h5 : (CS.hs σ) ≤ CS.hs p2.2 := Nat.le_trans h0 mo3
  refine W.widen (k := CS.hs p2.2 - (CS.hs σ)) (n := 17 * (CS.hs p2.2 - (CS.hs σ))) (cAcc2 h0 mo3) (cAcc3 h0 mo3) ?_
  refine lv_aload_n hx hb dX7_beginFinally_25 rfl (lv_at hl 0 rfl) ?_
  refine lv_bipush (v := 123) hx hb dX7_beginFinally_26 (by decide) ?_
  obtain ⟨p6, hcp6, hf⟩ := hf_bind hf
  have mo7 : CS.hs p2.2 ≤ CS.hs p6.2 := Mono.go hcp6 (m_X1_open N p2.2 123)
  have hr9 : CS.hs p6.2 ≤ CS.hs R.2 := Mono.go hf (mono_bind (m_X0_add N p6.2 58 0) (fun p10 => (mono_ite (mono_bind (m_X0_aim N p10.2 (CS.o p10.2 x1 11)) (fun p15 => (mono_some (Nat.le_refl _)))) mono_none)))
  have hFc := cFree hC hA
  refine va_callv (va_runU (As := [.int 123]) (rest := []) ⟨hx, hb, hml, hown, hts⟩ (c_X1_open l dC dI Q N p2.2 123 p6 hcp6) (va_cwU 1 hts hX7_beginFinally_X1_open_u173 rfl rfl rfl rfl (by decide +kernel) ⟨(show 4 + 1 ≤ 5 by omega), (show 8 + (2 + 11) + 60 * 4 ≤ 60 * 5 by omega)⟩) ⟨zPre.blind, va_recv hK hC.1 (ci := 6) (q0 := 3) rfl rfl, cPre_go hZ hK hC⟩ rfl rfl hl.1 rfl (lv_room (Nat.le_of_ble_eq_true rfl)) dX7_beginFinally_28 (cAcc h5 mo7 hr9)) hC.2.2.1 (fun q _ h => hFc q h) hFc (fun u9 t9 H1 locs ht hvm hw hB hz1 hk1 hS => ?_)
  obtain ⟨⟨hP, hK1, hD1⟩, hsz1⟩ := hB
  rw [ht] at hP hsz1
  have hC : CP dC dI Q A s.heap p6.2 H1 locs := ⟨hP, hD1.weaken (fun _ _ _ h => hFc _ h), hS, hsz1⟩
  generalize H1 = H at hC ⊢
  have h9 : (CS.hs σ) ≤ CS.hs p6.2 := Nat.le_trans h5 mo7
  refine W.widen (k := CS.hs p6.2 - (CS.hs σ)) (n := 17 * (CS.hs p6.2 - (CS.hs σ))) (cAcc2 h5 mo7) (cAcc3 h5 mo7) ?_
  refine lv_aload_n hx hb dX7_beginFinally_31 rfl (lv_at hl 0 rfl) ?_
  refine cG_29 hx hb hts i_X7_beginFinally_X7 hown hK hC (hts (.fieldLink RX7 20 "StatementRules2$Statements" "code" "LStatementRules2$Code;") k_X7_beginFinally_fieldLink_RX7_20_SR_Statements_code_LSR_Code) (fun x9 q9 => u_same (hts (.sameField "StatementRules2$Statements" "StatementRules2$Formulas" "code" "LStatementRules2$Code;") k_X7_beginFinally_sameField_SR_Statements_SR_Formulas_code_LSR_Code) x9 q9) dX7_beginFinally_32 ?_
  refine lv_bipush (v := 58) hx hb dX7_beginFinally_35 (by decide) ?_
  refine lv_iconst (v := 0) hx hb dX7_beginFinally_37 (by decide) ?_
  obtain ⟨p10, hcp10, hf⟩ := hf_bind hf
  have mo11 : CS.hs p6.2 ≤ CS.hs p10.2 := Mono.go hcp10 (m_X0_add N p6.2 58 0)
  have hr9 : CS.hs p10.2 ≤ CS.hs R.2 := Mono.go hf (mono_ite (mono_bind (m_X0_aim N p10.2 (CS.o p10.2 x1 11)) (fun p15 => (mono_some (Nat.le_refl _)))) mono_none)
  have hFc := cFree hC hA
  refine va_callv (va_runV (As := [.int 58, .int 0]) (rest := []) ⟨hx, hb, hml, hown, hts⟩ (c_X0_add l dC dI Q N p6.2 58 0 p10 hcp10) (cwV 2 hts hX7_beginFinally_X0_add_v176 rfl rfl rfl (by decide +kernel) ⟨(show 2 + 1 ≤ 5 by omega), (show 8 + (3 + 11) + 60 * 2 ≤ 60 * 5 by omega)⟩) ⟨zPre.blind, va_recv hK hC.1 (ci := 0) (q0 := 2) rfl rfl, cPre_go hZ hK hC⟩ rfl rfl hl.1 rfl (lv_room (Nat.le_of_ble_eq_true rfl)) dX7_beginFinally_38 (cAcc h9 mo11 hr9)) hC.2.2.1 (fun q _ h => hFc q h) hFc (fun u9 t9 H1 locs ht hvm hw hB hz1 hk1 hS => ?_)
  obtain ⟨⟨hP, hK1, hD1⟩, hsz1⟩ := hB
  rw [ht] at hP hsz1
  have hC : CP dC dI Q A s.heap p10.2 H1 locs := ⟨hP, hD1.weaken (fun _ _ _ h => hFc _ h), hS, hsz1⟩
  generalize H1 = H at hC ⊢
  have h13 : (CS.hs σ) ≤ CS.hs p10.2 := Nat.le_trans h9 mo11
  refine W.widen (k := CS.hs p10.2 - (CS.hs σ)) (n := 17 * (CS.hs p10.2 - (CS.hs σ))) (cAcc2 h9 mo11) (cAcc3 h9 mo11) ?_
  refine lv_aload_n hx hb dX7_beginFinally_41 rfl (lv_at hl 0 rfl) ?_
  refine cG_29 hx hb hts i_X7_beginFinally_X7 hown hK hC (hts (.fieldLink RX7 20 "StatementRules2$Statements" "code" "LStatementRules2$Code;") k_X7_beginFinally_fieldLink_RX7_20_SR_Statements_code_LSR_Code) (fun x9 q9 => u_same (hts (.sameField "StatementRules2$Statements" "StatementRules2$Formulas" "code" "LStatementRules2$Code;") k_X7_beginFinally_sameField_SR_Statements_SR_Formulas_code_LSR_Code) x9 q9) dX7_beginFinally_42 ?_
  refine lv_aload_n hx hb dX7_beginFinally_45 rfl (lv_at hl 1 rfl) ?_
  obtain ⟨b14, hf⟩ := hf_ite hf
  refine pGN_X5_11 (v := (CS.o p10.2 x1 11)) hx hb hts i_X7_beginFinally_X5 hown hK hC (va_Nw.use rfl (hZ.1 (.fieldLinkNest RX7 140 "StatementRules2$Open" "other" "I" "StatementRules2") (by decide +kernel))) (fun _ q9 => q9) dX7_beginFinally_46 b14 rfl ?_
  obtain ⟨p15, hcp15, hf⟩ := hf_bind hf
  have mo16 : CS.hs p10.2 ≤ CS.hs p15.2 := Mono.go hcp15 (m_X0_aim N p10.2 (CS.o p10.2 x1 11))
  have hr9 : CS.hs p15.2 ≤ CS.hs R.2 := Mono.go hf (mono_some (Nat.le_refl _))
  have hFc := cFree hC hA
  refine va_callv (va_runV (As := [.int (CS.o p10.2 x1 11)]) (rest := []) ⟨hx, hb, hml, hown, hts⟩ (c_X0_aim l dC dI Q N p10.2 (CS.o p10.2 x1 11) p15 hcp15) (cwV 1 hts hX7_beginFinally_X0_aim_v158 rfl rfl rfl (by decide +kernel) ⟨(show 2 + 1 ≤ 5 by omega), (show 8 + (2 + 11) + 60 * 2 ≤ 60 * 5 by omega)⟩) ⟨zPre.blind, va_recv hK hC.1 (ci := 0) (q0 := 2) rfl rfl, cPre_go hZ hK hC⟩ rfl rfl hl.1 rfl (lv_room (Nat.le_of_ble_eq_true rfl)) dX7_beginFinally_49 (cAcc h13 mo16 hr9)) hC.2.2.1 (fun q _ h => hFc q h) hFc (fun u9 t9 H1 locs ht hvm hw hB hz1 hk1 hS => ?_)
  obtain ⟨⟨hP, hK1, hD1⟩, hsz1⟩ := hB
  rw [ht] at hP hsz1
  have hC : CP dC dI Q A s.heap p15.2 H1 locs := ⟨hP, hD1.weaken (fun _ _ _ h => hFc _ h), hS, hsz1⟩
  generalize H1 = H at hC ⊢
  have h18 : (CS.hs σ) ≤ CS.hs p15.2 := Nat.le_trans h13 mo16
  refine W.widen (k := CS.hs p15.2 - (CS.hs σ)) (n := 17 * (CS.hs p15.2 - (CS.hs σ))) (cAcc2 h13 mo16) (cAcc3 h13 mo16) ?_
  refine lv_aload_n hx hb dX7_beginFinally_52 rfl (lv_at hl 0 rfl) ?_
  refine lv_iconst (v := 1) hx hb dX7_beginFinally_53 (by decide) ?_
  refine cP_36 (v := 1) hx hb hts i_X7_beginFinally_X7 hown hK hC (hts (.fieldLink RX7 61 "StatementRules2$Statements" "alive" "Z") k_X7_beginFinally_fieldLink_RX7_61_SR_Statements_alive_Z) (fun _ q9 => q9) dX7_beginFinally_54 (by decide) (fun H locs hC => ?_)
  obtain rfl := Option.some.inj hf
  exact W.vret hx hb hr (fun t ht hW => ⟨⟨(), rfl, trivial, ⟨by rw [ht]; exact hC.1, va_K.moved hW.alike hK, hC.2.1⟩, by rw [ht]; exact hC.2.2.2⟩, hC.2.2.1.F ht⟩) hC.2.2.1.2.2 dX7_beginFinally_57
