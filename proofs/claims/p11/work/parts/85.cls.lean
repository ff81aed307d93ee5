theorem k_X11_feed_fieldLink_RX11_50_SR_length_I : Cond.fieldLink RX11 50 "StatementRules2" "length" "I" ∈ wzX11_feed := List.mem_cons_of_mem _ (List.mem_append_left _ (List.mem_of_getElem? (i := 0) rfl))
theorem i_X11_feed_X11 : ∀ w ∈ wsX110, w ∈ wzX11_feed := fun _ h => List.mem_cons_of_mem _ (List.mem_append_right _ (List.mem_append_left _ (h)))
set_option maxHeartbeats 4000000 in
set_option maxRecDepth 100000 in
theorem c_X11_feed (l : Launch) (dC : Nat → ClassId) (dI : Nat → Nat → Nat) (Q : CQ) (N : Nat) (σ : CS) (x1 : Int32) (x2 : Int32) (x3 : Int32) (x4 : Int32) (x5 : Int32) (R : Int32 × CS) (hf : f_X11_feed N σ x1 x2 x3 x4 x5 = some R) : Met l yX11_feed wzX11_feed ({ frames := 3, cells := CS.hs R.2 - CS.hs σ, slots := 17 * (CS.hs R.2 - CS.hs σ), locals := 60 * 3 }) (va_Pc [.ref (Q.o 0), .int x1, .int x2, .int x3, .int x4, .int x5] (zPre dC dI (CS.hs σ) (cW Q σ) (cT Q))) (va_Qi (fun (r : Int32) (_ : Unit) => r = R.1) (fun (_ : Unit) (t : State) => zPost dC dI (va_A (cW Q σ) (CS.hs σ)) (cW Q R.2) (cT Q) t ∧ t.heap.size = CS.hs R.2) (va_A (cW Q σ) (CS.hs σ))) (CS.hs R.2 - CS.hs σ) (17 * (CS.hs R.2 - CS.hs σ)) (va_A (cW Q σ) (CS.hs σ)) := by
  refine Met.ofW (cc := cX11_feed) (maxL := 6) (ret := (some .int)) (by decide) rfl ?_
  intro p e s m args below meth c s₁ B hml hv
  obtain ⟨rfl, hsz, hZ, hP, hK, hD0⟩ := hv
  have hx := B.exec
  have hb := B.bytes
  have hr := B.returns
  have hts := atoms_spec (ws := wzX11_feed) B.pre
  have hown : s.vm.findClass RX11 = some m.cls := findClass_of_methodNamed B.named
  have hlocks := B.notSynchronized
  have hD := hD0.self (sz := CS.hs σ)
  generalize hAe : va_A (cW Q σ) (CS.hs σ) = A at hD ⊢
  have hA : ∀ q : Nat, s.heap.size ≤ q → A q := fun q h => by rw [← hAe]; exact Or.inr (hsz ▸ h)
  have hC : CP dC dI Q A s.heap σ s.heap [] := ⟨hP, hD, va_S.rf, hsz⟩
  have h0 : CS.hs σ ≤ CS.hs σ := Nat.le_refl _
  have hl := lv_entry ([.ref (Q.o 0), .int x1, .int x2, .int x3, .int x4, .int x5]) (n := 6) (Nat.le_of_ble_eq_true rfl)
  rw [lg_entry_eq]
  generalize (lg_sl ([.ref (Q.o 0), .int x1, .int x2, .int x3, .int x4, .int x5]) ++ List.replicate (6 - (lg_sl ([.ref (Q.o 0), .int x1, .int x2, .int x3, .int x4, .int x5])).length) Slot.unset).toArray = ls at hl ⊢
  have hl : lv_has ls 6 [(0, .ref (Q.o 0)), (1, .int x1), (2, .int x2), (3, .int x3), (4, .int x4), (5, .int x5)] := hl
  unfold f_X11_feed at hf
  refine W.widen (k := CS.hs σ - CS.hs σ) (n := 17 * (CS.hs σ - CS.hs σ)) (Nat.zero_le _) (Nat.zero_le _) ?_
  refine lv_aload_n hx hb dX11_feed_0 rfl (lv_at hl 0 rfl) ?_
  refine cG_5 (v := (σ.i 5)) hx hb hts i_X11_feed_X11 hown hK hC (hts (.fieldLink RX11 50 "StatementRules2" "length" "I") k_X11_feed_fieldLink_RX11_50_SR_length_I) (fun _ q9 => q9) dX11_feed_1 rfl ?_
  refine lv_bipush (v := 20) hx hb dX11_feed_4 (by decide) ?_
  refine lv_iadd hx hb dX11_feed_6 ?_
  refine lv_sipush (v := 900) hx hb dX11_feed_7 (by decide) ?_
  refine lv_icmp_le (tgt := 16) hx hb dX11_feed_10 (by decide) (fun c1 => ?_) (fun c1 => ?_)
  ·
    replace hf := (if_pos c1).symm.trans hf
    refine lv_aload_n hx hb dX11_feed_16 rfl (lv_at hl 0 rfl) ?_
    refine lv_iload_n hx hb dX11_feed_17 rfl (lv_at hl 1 rfl) ?_
    obtain ⟨p2, hcp2, hf⟩ := hf_bind hf
    have mo3 : CS.hs σ ≤ CS.hs p2.2 := Mono.go hcp2 (m_X11_addBytes N σ x1)
    have hr9 : CS.hs p2.2 ≤ CS.hs R.2 := Mono.go hf (mono_bind (m_X11_addBytes N p2.2 x2) (fun p6 => (mono_bind (m_X11_addBytes N p6.2 x3) (fun p10 => (mono_bind (m_X11_addBytes N p10.2 x4) (fun p14 => (mono_bind (m_X11_addBytes N p14.2 x5) (fun p18 => (mono_some (Nat.le_refl _))))))))))
    have hFc := cFree hC hA
    refine va_callv (va_runV (As := [.int x1]) (rest := []) ⟨hx, hb, hml, hown, hts⟩ (c_X11_addBytes l dC dI Q N σ x1 p2 hcp2) (cwV 1 hts hX11_feed_X11_addBytes_v54 rfl rfl rfl (by decide +kernel) ⟨(show 2 + 1 ≤ 3 by omega), (show 8 + (3 + 11) + 60 * 2 ≤ 60 * 3 by omega)⟩) ⟨zPre.blind, va_recv hK hC.1 (ci := 10) (q0 := 0) rfl rfl, cPre_go hZ hK hC⟩ rfl rfl hl.1 rfl (lv_room (Nat.le_of_ble_eq_true rfl)) dX11_feed_18 (cAcc h0 mo3 hr9)) hC.2.2.1 (fun q _ h => hFc q h) hFc (fun u9 t9 H1 locs ht hvm hw hB hz1 hk1 hS => ?_)
    obtain ⟨⟨hP, hK1, hD1⟩, hsz1⟩ := hB
    rw [ht] at hP hsz1
    have hC : CP dC dI Q A s.heap p2.2 H1 locs := ⟨hP, hD1.weaken (fun _ _ _ h => hFc _ h), hS, hsz1⟩
    generalize H1 = H at hC ⊢
    have h5 : (CS.hs σ) ≤ CS.hs p2.2 := Nat.le_trans h0 mo3
    refine W.widen (k := CS.hs p2.2 - (CS.hs σ)) (n := 17 * (CS.hs p2.2 - (CS.hs σ))) (cAcc2 h0 mo3) (cAcc3 h0 mo3) ?_
    refine lv_aload_n hx hb dX11_feed_21 rfl (lv_at hl 0 rfl) ?_
    refine lv_iload_n hx hb dX11_feed_22 rfl (lv_at hl 2 rfl) ?_
    obtain ⟨p6, hcp6, hf⟩ := hf_bind hf
    have mo7 : CS.hs p2.2 ≤ CS.hs p6.2 := Mono.go hcp6 (m_X11_addBytes N p2.2 x2)
    have hr9 : CS.hs p6.2 ≤ CS.hs R.2 := Mono.go hf (mono_bind (m_X11_addBytes N p6.2 x3) (fun p10 => (mono_bind (m_X11_addBytes N p10.2 x4) (fun p14 => (mono_bind (m_X11_addBytes N p14.2 x5) (fun p18 => (mono_some (Nat.le_refl _))))))))
    have hFc := cFree hC hA
    refine va_callv (va_runV (As := [.int x2]) (rest := []) ⟨hx, hb, hml, hown, hts⟩ (c_X11_addBytes l dC dI Q N p2.2 x2 p6 hcp6) (cwV 1 hts hX11_feed_X11_addBytes_v54 rfl rfl rfl (by decide +kernel) ⟨(show 2 + 1 ≤ 3 by omega), (show 8 + (3 + 11) + 60 * 2 ≤ 60 * 3 by omega)⟩) ⟨zPre.blind, va_recv hK hC.1 (ci := 10) (q0 := 0) rfl rfl, cPre_go hZ hK hC⟩ rfl rfl hl.1 rfl (lv_room (Nat.le_of_ble_eq_true rfl)) dX11_feed_23 (cAcc h5 mo7 hr9)) hC.2.2.1 (fun q _ h => hFc q h) hFc (fun u9 t9 H1 locs ht hvm hw hB hz1 hk1 hS => ?_)
    obtain ⟨⟨hP, hK1, hD1⟩, hsz1⟩ := hB
    rw [ht] at hP hsz1
    have hC : CP dC dI Q A s.heap p6.2 H1 locs := ⟨hP, hD1.weaken (fun _ _ _ h => hFc _ h), hS, hsz1⟩
    generalize H1 = H at hC ⊢
    have h9 : (CS.hs σ) ≤ CS.hs p6.2 := Nat.le_trans h5 mo7
    refine W.widen (k := CS.hs p6.2 - (CS.hs σ)) (n := 17 * (CS.hs p6.2 - (CS.hs σ))) (cAcc2 h5 mo7) (cAcc3 h5 mo7) ?_
    refine lv_aload_n hx hb dX11_feed_26 rfl (lv_at hl 0 rfl) ?_
    refine lv_iload_n hx hb dX11_feed_27 rfl (lv_at hl 3 rfl) ?_
    obtain ⟨p10, hcp10, hf⟩ := hf_bind hf
    have mo11 : CS.hs p6.2 ≤ CS.hs p10.2 := Mono.go hcp10 (m_X11_addBytes N p6.2 x3)
    have hr9 : CS.hs p10.2 ≤ CS.hs R.2 := Mono.go hf (mono_bind (m_X11_addBytes N p10.2 x4) (fun p14 => (mono_bind (m_X11_addBytes N p14.2 x5) (fun p18 => (mono_some (Nat.le_refl _))))))
    have hFc := cFree hC hA
    refine va_callv (va_runV (As := [.int x3]) (rest := []) ⟨hx, hb, hml, hown, hts⟩ (c_X11_addBytes l dC dI Q N p6.2 x3 p10 hcp10) (cwV 1 hts hX11_feed_X11_addBytes_v54 rfl rfl rfl (by decide +kernel) ⟨(show 2 + 1 ≤ 3 by omega), (show 8 + (3 + 11) + 60 * 2 ≤ 60 * 3 by omega)⟩) ⟨zPre.blind, va_recv hK hC.1 (ci := 10) (q0 := 0) rfl rfl, cPre_go hZ hK hC⟩ rfl rfl hl.1 rfl (lv_room (Nat.le_of_ble_eq_true rfl)) dX11_feed_28 (cAcc h9 mo11 hr9)) hC.2.2.1 (fun q _ h => hFc q h) hFc (fun u9 t9 H1 locs ht hvm hw hB hz1 hk1 hS => ?_)
    obtain ⟨⟨hP, hK1, hD1⟩, hsz1⟩ := hB
    rw [ht] at hP hsz1
    have hC : CP dC dI Q A s.heap p10.2 H1 locs := ⟨hP, hD1.weaken (fun _ _ _ h => hFc _ h), hS, hsz1⟩
    generalize H1 = H at hC ⊢
    have h13 : (CS.hs σ) ≤ CS.hs p10.2 := Nat.le_trans h9 mo11
    refine W.widen (k := CS.hs p10.2 - (CS.hs σ)) (n := 17 * (CS.hs p10.2 - (CS.hs σ))) (cAcc2 h9 mo11) (cAcc3 h9 mo11) ?_
    refine lv_aload_n hx hb dX11_feed_31 rfl (lv_at hl 0 rfl) ?_
    refine lv_iload hx hb dX11_feed_32 (lv_at hl 4 rfl) ?_
    obtain ⟨p14, hcp14, hf⟩ := hf_bind hf
    have mo15 : CS.hs p10.2 ≤ CS.hs p14.2 := Mono.go hcp14 (m_X11_addBytes N p10.2 x4)
    have hr9 : CS.hs p14.2 ≤ CS.hs R.2 := Mono.go hf (mono_bind (m_X11_addBytes N p14.2 x5) (fun p18 => (mono_some (Nat.le_refl _))))
    have hFc := cFree hC hA
    refine va_callv (va_runV (As := [.int x4]) (rest := []) ⟨hx, hb, hml, hown, hts⟩ (c_X11_addBytes l dC dI Q N p10.2 x4 p14 hcp14) (cwV 1 hts hX11_feed_X11_addBytes_v54 rfl rfl rfl (by decide +kernel) ⟨(show 2 + 1 ≤ 3 by omega), (show 8 + (3 + 11) + 60 * 2 ≤ 60 * 3 by omega)⟩) ⟨zPre.blind, va_recv hK hC.1 (ci := 10) (q0 := 0) rfl rfl, cPre_go hZ hK hC⟩ rfl rfl hl.1 rfl (lv_room (Nat.le_of_ble_eq_true rfl)) dX11_feed_34 (cAcc h13 mo15 hr9)) hC.2.2.1 (fun q _ h => hFc q h) hFc (fun u9 t9 H1 locs ht hvm hw hB hz1 hk1 hS => ?_)
    obtain ⟨⟨hP, hK1, hD1⟩, hsz1⟩ := hB
    rw [ht] at hP hsz1
    have hC : CP dC dI Q A s.heap p14.2 H1 locs := ⟨hP, hD1.weaken (fun _ _ _ h => hFc _ h), hS, hsz1⟩
    generalize H1 = H at hC ⊢
    have h17 : (CS.hs σ) ≤ CS.hs p14.2 := Nat.le_trans h13 mo15
    refine W.widen (k := CS.hs p14.2 - (CS.hs σ)) (n := 17 * (CS.hs p14.2 - (CS.hs σ))) (cAcc2 h13 mo15) (cAcc3 h13 mo15) ?_
    refine lv_aload_n hx hb dX11_feed_37 rfl (lv_at hl 0 rfl) ?_
    refine lv_iload hx hb dX11_feed_38 (lv_at hl 5 rfl) ?_
    obtain ⟨p18, hcp18, hf⟩ := hf_bind hf
    have mo19 : CS.hs p14.2 ≤ CS.hs p18.2 := Mono.go hcp18 (m_X11_addBytes N p14.2 x5)
    have hr9 : CS.hs p18.2 ≤ CS.hs R.2 := Mono.go hf (mono_some (Nat.le_refl _))
    have hFc := cFree hC hA
    refine va_callv (va_runV (As := [.int x5]) (rest := []) ⟨hx, hb, hml, hown, hts⟩ (c_X11_addBytes l dC dI Q N p14.2 x5 p18 hcp18) (cwV 1 hts hX11_feed_X11_addBytes_v54 rfl rfl rfl (by decide +kernel) ⟨(show 2 + 1 ≤ 3 by omega), (show 8 + (3 + 11) + 60 * 2 ≤ 60 * 3 by omega)⟩) ⟨zPre.blind, va_recv hK hC.1 (ci := 10) (q0 := 0) rfl rfl, cPre_go hZ hK hC⟩ rfl rfl hl.1 rfl (lv_room (Nat.le_of_ble_eq_true rfl)) dX11_feed_40 (cAcc h17 mo19 hr9)) hC.2.2.1 (fun q _ h => hFc q h) hFc (fun u9 t9 H1 locs ht hvm hw hB hz1 hk1 hS => ?_)
    obtain ⟨⟨hP, hK1, hD1⟩, hsz1⟩ := hB
    rw [ht] at hP hsz1
    have hC : CP dC dI Q A s.heap p18.2 H1 locs := ⟨hP, hD1.weaken (fun _ _ _ h => hFc _ h), hS, hsz1⟩
    generalize H1 = H at hC ⊢
    have h21 : (CS.hs σ) ≤ CS.hs p18.2 := Nat.le_trans h17 mo19
    refine W.widen (k := CS.hs p18.2 - (CS.hs σ)) (n := 17 * (CS.hs p18.2 - (CS.hs σ))) (cAcc2 h17 mo19) (cAcc3 h17 mo19) ?_
    refine lv_aload_n hx hb dX11_feed_43 rfl (lv_at hl 0 rfl) ?_
    refine cG_5 (v := (p18.2.i 5)) hx hb hts i_X11_feed_X11 hown hK hC (hts (.fieldLink RX11 50 "StatementRules2" "length" "I") k_X11_feed_fieldLink_RX11_50_SR_length_I) (fun _ q9 => q9) dX11_feed_44 rfl ?_
    obtain rfl := Option.some.inj hf
    exact W.iret (v := (p18.2.i 5)) hx hb hr (fun t ht hW => ⟨⟨(p18.2.i 5), (), rfl, rfl, ⟨by rw [ht]; exact hC.1, va_K.moved hW.alike hK, hC.2.1⟩, by rw [ht]; exact hC.2.2.2⟩, hC.2.2.1.F ht⟩) hC.2.2.1.2.2 dX11_feed_47
  ·
    replace hf := (if_neg c1).symm.trans hf
    refine lv_bipush (v := (-2)) hx hb dX11_feed_13 (by decide) ?_
    obtain rfl := Option.some.inj hf
    exact W.iret (v := (-2)) hx hb hr (fun t ht hW => ⟨⟨(-2), (), rfl, rfl, ⟨by rw [ht]; exact hC.1, va_K.moved hW.alike hK, hC.2.1⟩, by rw [ht]; exact hC.2.2.2⟩, hC.2.2.1.F ht⟩) hC.2.2.1.2.2 dX11_feed_15
theorem k_X11_cut_fieldLink_RX11_50_SR_length_I : Cond.fieldLink RX11 50 "StatementRules2" "length" "I" ∈ wzX11_cut := List.mem_cons_of_mem _ (List.mem_append_left _ (List.mem_of_getElem? (i := 0) rfl))
theorem i_X11_cut_X11 : ∀ w ∈ wsX110, w ∈ wzX11_cut := fun _ h => List.mem_cons_of_mem _ (List.mem_append_right _ (List.mem_append_left _ (h)))
set_option maxHeartbeats 4000000 in
set_option maxRecDepth 100000 in
theorem j_X11_cut_12 {p : Program} {e : Env} {s : State} {m : MethodId} {args : Array Value} {below : List Frame} {meth : Method} {c : Code} {A : Nat → Prop} (l : Launch) (dC : Nat → ClassId) (dI : Nat → Nat → Nat) (Q : CQ) (N : Nat) (z9h : Nat) (R : Int32 × CS) (hx : p.tables.exec = Jvm.exec) (hb : c.code = cX11_cut) (hr : meth.sig.returnType = (some .int)) (hml : c.maxLocals = 3) (hown : s.vm.findClass RX11 = some m.cls) (hts : ∀ w ∈ wzX11_cut, w.before args s = true) (hlocks : meth.locks = false) (hZ : zAMB s) (hA : ∀ q : Nat, s.heap.size ≤ q → A q) (hK : va_K (dC, dI) vwCl (cT Q) s) : ∀ (σ : CS) (H : Heap) (locs : List Loc) (ls : Array Slot), f_X11_cut_12 N σ = some R → z9h ≤ CS.hs σ → CP dC dI Q A s.heap σ H locs → lv_has ls 3 [] → W p l e ({ frames := 1, cells := CS.hs R.2 - z9h, slots := 17 * (CS.hs R.2 - z9h), locals := 60 * 1 }) s m args below meth c H locs (CS.hs σ - z9h) (17 * (CS.hs σ - z9h)) (MQ below (va_Qi (fun (r : Int32) (_ : Unit) => r = R.1) (fun (_ : Unit) (t : State) => zPost dC dI A (cW Q R.2) (cT Q) t ∧ t.heap.size = CS.hs R.2) A) args s (CS.hs R.2 - z9h) (17 * (CS.hs R.2 - z9h)) A) (F0 m 12 ls []) := by
  intro σ  H locs ls hf h0 hC hl
  unfold f_X11_cut_12 at hf
  refine lv_iconst (v := (-1)) hx hb dX11_cut_12 (by decide) ?_
  obtain rfl := Option.some.inj hf
  exact W.iret (v := (-1)) hx hb hr (fun t ht hW => ⟨⟨(-1), (), rfl, rfl, ⟨by rw [ht]; exact hC.1, va_K.moved hW.alike hK, hC.2.1⟩, by rw [ht]; exact hC.2.2.2⟩, hC.2.2.1.F ht⟩) hC.2.2.1.2.2 dX11_cut_13
set_option maxHeartbeats 4000000 in
set_option maxRecDepth 100000 in
theorem c_X11_cut (l : Launch) (dC : Nat → ClassId) (dI : Nat → Nat → Nat) (Q : CQ) (N : Nat) (σ : CS) (x1 : Int32) (R : Int32 × CS) (hf : f_X11_cut N σ x1 = some R) : Met l yX11_cut wzX11_cut ({ frames := 1, cells := CS.hs R.2 - CS.hs σ, slots := 17 * (CS.hs R.2 - CS.hs σ), locals := 60 * 1 }) (va_Pc [.ref (Q.o 0), .int x1] (zPre dC dI (CS.hs σ) (cW Q σ) (cT Q))) (va_Qi (fun (r : Int32) (_ : Unit) => r = R.1) (fun (_ : Unit) (t : State) => zPost dC dI (va_A (cW Q σ) (CS.hs σ)) (cW Q R.2) (cT Q) t ∧ t.heap.size = CS.hs R.2) (va_A (cW Q σ) (CS.hs σ))) (CS.hs R.2 - CS.hs σ) (17 * (CS.hs R.2 - CS.hs σ)) (va_A (cW Q σ) (CS.hs σ)) := by
  refine Met.ofW (cc := cX11_cut) (maxL := 3) (ret := (some .int)) (by decide) rfl ?_
  intro p e s m args below meth c s₁ B hml hv
  obtain ⟨rfl, hsz, hZ, hP, hK, hD0⟩ := hv
  have hx := B.exec
  have hb := B.bytes
  have hr := B.returns
  have hts := atoms_spec (ws := wzX11_cut) B.pre
  have hown : s.vm.findClass RX11 = some m.cls := findClass_of_methodNamed B.named
  have hlocks := B.notSynchronized
  have hD := hD0.self (sz := CS.hs σ)
  generalize hAe : va_A (cW Q σ) (CS.hs σ) = A at hD ⊢
  have hA : ∀ q : Nat, s.heap.size ≤ q → A q := fun q h => by rw [← hAe]; exact Or.inr (hsz ▸ h)
  have hC : CP dC dI Q A s.heap σ s.heap [] := ⟨hP, hD, va_S.rf, hsz⟩
  have h0 : CS.hs σ ≤ CS.hs σ := Nat.le_refl _
  have hl := lv_entry ([.ref (Q.o 0), .int x1]) (n := 3) (Nat.le_of_ble_eq_true rfl)
  rw [lg_entry_eq]
  generalize (lg_sl ([.ref (Q.o 0), .int x1]) ++ List.replicate (3 - (lg_sl ([.ref (Q.o 0), .int x1])).length) Slot.unset).toArray = ls at hl ⊢
  have hl : lv_has ls 3 [(0, .ref (Q.o 0)), (1, .int x1)] := hl
  unfold f_X11_cut at hf
  refine W.widen (k := CS.hs σ - CS.hs σ) (n := 17 * (CS.hs σ - CS.hs σ)) (Nat.zero_le _) (Nat.zero_le _) ?_
  refine lv_iload_n hx hb dX11_cut_0 rfl (lv_at hl 1 rfl) ?_
  refine lv_if_lt (tgt := 12) hx hb dX11_cut_1 (by decide) (fun c1 => ?_) (fun c1 => ?_)
  ·
    replace hf := (if_pos c1).symm.trans hf
    exact j_X11_cut_12 l dC dI Q N (CS.hs σ) R hx hb hr hml hown hts hlocks hZ hA hK σ _ _ _ hf h0 hC (lv_sub hl [] rfl)
  ·
    replace hf := (if_neg c1).symm.trans hf
    refine lv_iload_n hx hb dX11_cut_4 rfl (lv_at hl 1 rfl) ?_
    refine lv_aload_n hx hb dX11_cut_5 rfl (lv_at hl 0 rfl) ?_
    refine cG_5 (v := (σ.i 5)) hx hb hts i_X11_cut_X11 hown hK hC (hts (.fieldLink RX11 50 "StatementRules2" "length" "I") k_X11_cut_fieldLink_RX11_50_SR_length_I) (fun _ q9 => q9) dX11_cut_6 rfl ?_
    refine lv_icmp_le (tgt := 14) hx hb dX11_cut_9 (by decide) (fun c2 => ?_) (fun c2 => ?_)
    ·
      replace hf := (if_pos c2).symm.trans hf
      refine lv_aload_n hx hb dX11_cut_14 rfl (lv_at hl 0 rfl) ?_
      refine cG_5 (v := (σ.i 5)) hx hb hts i_X11_cut_X11 hown hK hC (hts (.fieldLink RX11 50 "StatementRules2" "length" "I") k_X11_cut_fieldLink_RX11_50_SR_length_I) (fun _ q9 => q9) dX11_cut_15 rfl ?_
      refine lv_iload_n hx hb dX11_cut_18 rfl (lv_at hl 1 rfl) ?_
      refine lv_isub hx hb dX11_cut_19 ?_
      refine lv_istore_n (lv' := [(2, .int ((σ.i 5) - x1)), (0, .ref (Q.o 0)), (1, .int x1)]) hx hb dX11_cut_20 rfl hl (by decide) rfl (fun ls hl => ?_)
      refine lv_aload_n hx hb dX11_cut_21 rfl (lv_at hl 1 rfl) ?_
      refine lv_iload_n hx hb dX11_cut_22 rfl (lv_at hl 2 rfl) ?_
      refine cP_5 (v := x1) hx hb hts i_X11_cut_X11 hown hK hC (hts (.fieldLink RX11 50 "StatementRules2" "length" "I") k_X11_cut_fieldLink_RX11_50_SR_length_I) (fun _ q9 => q9) dX11_cut_23 (fun H locs hC => ?_)
      refine lv_iload_n hx hb dX11_cut_26 rfl (lv_at hl 0 rfl) ?_
      obtain rfl := Option.some.inj hf
      exact W.iret (v := ((σ.i 5) - x1)) hx hb hr (fun t ht hW => ⟨⟨((σ.i 5) - x1), (), rfl, rfl, ⟨by rw [ht]; exact hC.1, va_K.moved hW.alike hK, hC.2.1⟩, by rw [ht]; exact hC.2.2.2⟩, hC.2.2.1.F ht⟩) hC.2.2.1.2.2 dX11_cut_27
    ·
      replace hf := (if_neg c2).symm.trans hf
      exact j_X11_cut_12 l dC dI Q N (CS.hs σ) R hx hb hr hml hown hts hlocks hZ hA hK σ _ _ _ hf h0 hC (lv_sub hl [] rfl)
theorem k_X11_kind_fieldLink_RX11_16_SR_told_LSR_Told : Cond.fieldLink RX11 16 "StatementRules2" "told" "LStatementRules2$Told;" ∈ wzX11_kind := List.mem_cons_of_mem _ (List.mem_append_left _ (List.mem_of_getElem? (i := 0) rfl))
theorem i_X11_kind_X11 : ∀ w ∈ wsX110, w ∈ wzX11_kind := fun _ h => List.mem_cons_of_mem _ (List.mem_append_right _ (List.mem_append_left _ (h)))
set_option maxHeartbeats 4000000 in
set_option maxRecDepth 100000 in
theorem c_X11_kind (l : Launch) (dC : Nat → ClassId) (dI : Nat → Nat → Nat) (Q : CQ) (N : Nat) (σ : CS) (x1 : Int32) (R : Int32 × CS) (hf : f_X11_kind N σ x1 = some R) : Met l yX11_kind wzX11_kind ({ frames := 3, cells := CS.hs R.2 - CS.hs σ, slots := 17 * (CS.hs R.2 - CS.hs σ), locals := 60 * 3 }) (va_Pc [.ref (Q.o 0), .int x1] (zPre dC dI (CS.hs σ) (cW Q σ) (cT Q))) (va_Qi (fun (r : Int32) (_ : Unit) => r = R.1) (fun (_ : Unit) (t : State) => zPost dC dI (va_A (cW Q σ) (CS.hs σ)) (cW Q R.2) (cT Q) t ∧ t.heap.size = CS.hs R.2) (va_A (cW Q σ) (CS.hs σ))) (CS.hs R.2 - CS.hs σ) (17 * (CS.hs R.2 - CS.hs σ)) (va_A (cW Q σ) (CS.hs σ)) := by
  refine Met.ofW (cc := cX11_kind) (maxL := 2) (ret := (some .int)) (by decide) rfl ?_
  intro p e s m args below meth c s₁ B hml hv
  obtain ⟨rfl, hsz, hZ, hP, hK, hD0⟩ := hv
  have hx := B.exec
  have hb := B.bytes
  have hr := B.returns
  have hts := atoms_spec (ws := wzX11_kind) B.pre
  have hown : s.vm.findClass RX11 = some m.cls := findClass_of_methodNamed B.named
  have hlocks := B.notSynchronized
  have hD := hD0.self (sz := CS.hs σ)
  generalize hAe : va_A (cW Q σ) (CS.hs σ) = A at hD ⊢
  have hA : ∀ q : Nat, s.heap.size ≤ q → A q := fun q h => by rw [← hAe]; exact Or.inr (hsz ▸ h)
  have hC : CP dC dI Q A s.heap σ s.heap [] := ⟨hP, hD, va_S.rf, hsz⟩
  have h0 : CS.hs σ ≤ CS.hs σ := Nat.le_refl _
  have hl := lv_entry ([.ref (Q.o 0), .int x1]) (n := 2) (Nat.le_of_ble_eq_true rfl)
  rw [lg_entry_eq]
  generalize (lg_sl ([.ref (Q.o 0), .int x1]) ++ List.replicate (2 - (lg_sl ([.ref (Q.o 0), .int x1])).length) Slot.unset).toArray = ls at hl ⊢
  have hl : lv_has ls 2 [(0, .ref (Q.o 0)), (1, .int x1)] := hl
  unfold f_X11_kind at hf
  refine W.widen (k := CS.hs σ - CS.hs σ) (n := 17 * (CS.hs σ - CS.hs σ)) (Nat.zero_le _) (Nat.zero_le _) ?_
  refine lv_aload_n hx hb dX11_kind_0 rfl (lv_at hl 0 rfl) ?_
  refine cG_1 hx hb hts i_X11_kind_X11 hown hK hC (hts (.fieldLink RX11 16 "StatementRules2" "told" "LStatementRules2$Told;") k_X11_kind_fieldLink_RX11_16_SR_told_LSR_Told) (fun _ q9 => q9) dX11_kind_1 ?_
  refine lv_iload_n hx hb dX11_kind_4 rfl (lv_at hl 1 rfl) ?_
  obtain ⟨p1, hcp1, hf⟩ := hf_bind hf
  have mo2 : CS.hs σ ≤ CS.hs p1.2 := Mono.go hcp1 (m_X10_isKind N σ x1)
  have hr9 : CS.hs p1.2 ≤ CS.hs R.2 := Mono.go hf (mono_ite (mono_some (Nat.le_refl _)) (mono_bind (m_X10_isFull N p1.2) (fun p6 => (mono_ite (mono_bind (m_X10_addKind N p6.2 x1) (fun p11 => (mono_some (Nat.le_refl _)))) (mono_some (Nat.le_refl _))))))
  have hFc := cFree hC hA
  refine va_calli (va_runV (As := [.int x1]) (rest := []) ⟨hx, hb, hml, hown, hts⟩ (c_X10_isKind l dC dI Q N σ x1 p1 hcp1) (cwV 1 hts hX11_kind_X10_isKind_v62 rfl rfl rfl (by decide +kernel) ⟨(show 1 + 1 ≤ 3 by omega), (show 8 + (2 + 11) + 60 * 1 ≤ 60 * 3 by omega)⟩) ⟨zPre.blind, va_recv hK hC.1 (ci := 9) (q0 := 1) rfl rfl, cPre_go hZ hK hC⟩ rfl rfl hl.1 rfl (lv_room (Nat.le_of_ble_eq_true rfl)) dX11_kind_5 (cAcc h0 mo2 hr9)) hC.2.2.1 (fun q _ h => hFc q h) hFc (fun r3 u9 t9 H1 locs ht hvm hw hB hz1 hk1 hS => ?_)
  obtain ⟨⟨hP, hK1, hD1⟩, hsz1⟩ := hB
  rw [ht] at hP hsz1
  have hC : CP dC dI Q A s.heap p1.2 H1 locs := ⟨hP, hD1.weaken (fun _ _ _ h => hFc _ h), hS, hsz1⟩
  generalize H1 = H at hC ⊢
  have h4 : (CS.hs σ) ≤ CS.hs p1.2 := Nat.le_trans h0 mo2
  refine W.widen (k := CS.hs p1.2 - (CS.hs σ)) (n := 17 * (CS.hs p1.2 - (CS.hs σ))) (cAcc2 h0 mo2) (cAcc3 h0 mo2) ?_
  obtain rfl : r3 = p1.1 := hw
  refine lv_if_ne (tgt := 13) hx hb dX11_kind_8 (by decide) (fun c5 => ?_) (fun c5 => ?_)
  ·
    replace hf := (if_neg c5).symm.trans hf
    refine lv_aload_n hx hb dX11_kind_13 rfl (lv_at hl 0 rfl) ?_
    refine cG_1 hx hb hts i_X11_kind_X11 hown hK hC (hts (.fieldLink RX11 16 "StatementRules2" "told" "LStatementRules2$Told;") k_X11_kind_fieldLink_RX11_16_SR_told_LSR_Told) (fun _ q9 => q9) dX11_kind_14 ?_
    obtain ⟨p6, hcp6, hf⟩ := hf_bind hf
    have mo7 : CS.hs p1.2 ≤ CS.hs p6.2 := Mono.go hcp6 (m_X10_isFull N p1.2)
    have hr9 : CS.hs p6.2 ≤ CS.hs R.2 := Mono.go hf (mono_ite (mono_bind (m_X10_addKind N p6.2 x1) (fun p11 => (mono_some (Nat.le_refl _)))) (mono_some (Nat.le_refl _)))
    have hFc := cFree hC hA
    refine va_calli (va_runV (As := []) (rest := []) ⟨hx, hb, hml, hown, hts⟩ (c_X10_isFull l dC dI Q N p1.2 p6 hcp6) (cwV 0 hts hX11_kind_X10_isFull_v66 rfl rfl rfl (by decide +kernel) ⟨(show 1 + 1 ≤ 3 by omega), (show 8 + (1 + 11) + 60 * 1 ≤ 60 * 3 by omega)⟩) ⟨zPre.blind, va_recv hK hC.1 (ci := 9) (q0 := 1) rfl rfl, cPre_go hZ hK hC⟩ rfl rfl hl.1 rfl (lv_room (Nat.le_of_ble_eq_true rfl)) dX11_kind_17 (cAcc h4 mo7 hr9)) hC.2.2.1 (fun q _ h => hFc q h) hFc (fun r8 u9 t9 H1 locs ht hvm hw hB hz1 hk1 hS => ?_)
    obtain ⟨⟨hP, hK1, hD1⟩, hsz1⟩ := hB
    rw [ht] at hP hsz1
    have hC : CP dC dI Q A s.heap p6.2 H1 locs := ⟨hP, hD1.weaken (fun _ _ _ h => hFc _ h), hS, hsz1⟩
    generalize H1 = H at hC ⊢
    have h9 : (CS.hs σ) ≤ CS.hs p6.2 := Nat.le_trans h4 mo7
    refine W.widen (k := CS.hs p6.2 - (CS.hs σ)) (n := 17 * (CS.hs p6.2 - (CS.hs σ))) (cAcc2 h4 mo7) (cAcc3 h4 mo7) ?_
    obtain rfl : r8 = p6.1 := hw
    refine lv_if_eq (tgt := 28) hx hb dX11_kind_20 (by decide) (fun c10 => ?_) (fun c10 => ?_)
    ·
      replace hf := (if_pos c10).symm.trans hf
      refine lv_aload_n hx hb dX11_kind_28 rfl (lv_at hl 0 rfl) ?_
      refine cG_1 hx hb hts i_X11_kind_X11 hown hK hC (hts (.fieldLink RX11 16 "StatementRules2" "told" "LStatementRules2$Told;") k_X11_kind_fieldLink_RX11_16_SR_told_LSR_Told) (fun _ q9 => q9) dX11_kind_29 ?_
      refine lv_iload_n hx hb dX11_kind_32 rfl (lv_at hl 1 rfl) ?_
      obtain ⟨p11, hcp11, hf⟩ := hf_bind hf
      have mo12 : CS.hs p6.2 ≤ CS.hs p11.2 := Mono.go hcp11 (m_X10_addKind N p6.2 x1)
      have hr9 : CS.hs p11.2 ≤ CS.hs R.2 := Mono.go hf (mono_some (Nat.le_refl _))
      have hFc := cFree hC hA
      refine va_calli (va_runV (As := [.int x1]) (rest := []) ⟨hx, hb, hml, hown, hts⟩ (c_X10_addKind l dC dI Q N p6.2 x1 p11 hcp11) (cwV 1 hts hX11_kind_X10_addKind_v70 rfl rfl rfl (by decide +kernel) ⟨(show 2 + 1 ≤ 3 by omega), (show 8 + (2 + 11) + 60 * 2 ≤ 60 * 3 by omega)⟩) ⟨zPre.blind, va_recv hK hC.1 (ci := 9) (q0 := 1) rfl rfl, cPre_go hZ hK hC⟩ rfl rfl hl.1 rfl (lv_room (Nat.le_of_ble_eq_true rfl)) dX11_kind_33 (cAcc h9 mo12 hr9)) hC.2.2.1 (fun q _ h => hFc q h) hFc (fun r13 u9 t9 H1 locs ht hvm hw hB hz1 hk1 hS => ?_)
      obtain ⟨⟨hP, hK1, hD1⟩, hsz1⟩ := hB
      rw [ht] at hP hsz1
      have hC : CP dC dI Q A s.heap p11.2 H1 locs := ⟨hP, hD1.weaken (fun _ _ _ h => hFc _ h), hS, hsz1⟩
      generalize H1 = H at hC ⊢
      have h14 : (CS.hs σ) ≤ CS.hs p11.2 := Nat.le_trans h9 mo12
      refine W.widen (k := CS.hs p11.2 - (CS.hs σ)) (n := 17 * (CS.hs p11.2 - (CS.hs σ))) (cAcc2 h9 mo12) (cAcc3 h9 mo12) ?_
      obtain rfl : r13 = p11.1 := hw
      obtain rfl := Option.some.inj hf
      exact W.iret (v := p11.1) hx hb hr (fun t ht hW => ⟨⟨p11.1, (), rfl, rfl, ⟨by rw [ht]; exact hC.1, va_K.moved hW.alike hK, hC.2.1⟩, by rw [ht]; exact hC.2.2.2⟩, hC.2.2.1.F ht⟩) hC.2.2.1.2.2 dX11_kind_36
    ·
      replace hf := (if_neg c10).symm.trans hf
      refine lv_bipush (v := (-2)) hx hb dX11_kind_23 (by decide) ?_
      refine lv_goto (tgt := 36) hx hb dX11_kind_25 (by decide) ?_
      obtain rfl := Option.some.inj hf
      exact W.iret (v := (-2)) hx hb hr (fun t ht hW => ⟨⟨(-2), (), rfl, rfl, ⟨by rw [ht]; exact hC.1, va_K.moved hW.alike hK, hC.2.1⟩, by rw [ht]; exact hC.2.2.2⟩, hC.2.2.1.F ht⟩) hC.2.2.1.2.2 dX11_kind_36
  ·
    replace hf := (if_pos c5).symm.trans hf
    refine lv_iconst (v := (-1)) hx hb dX11_kind_11 (by decide) ?_
    obtain rfl := Option.some.inj hf
    exact W.iret (v := (-1)) hx hb hr (fun t ht hW => ⟨⟨(-1), (), rfl, rfl, ⟨by rw [ht]; exact hC.1, va_K.moved hW.alike hK, hC.2.1⟩, by rw [ht]; exact hC.2.2.2⟩, hC.2.2.1.F ht⟩) hC.2.2.1.2.2 dX11_kind_12
theorem k_X11_isKindOrNothing_fieldLink_RX11_16_SR_told_LSR_Told : Cond.fieldLink RX11 16 "StatementRules2" "told" "LStatementRules2$Told;" ∈ wzX11_isKindOrNothing := List.mem_cons_of_mem _ (List.mem_append_left _ (List.mem_of_getElem? (i := 0) rfl))
theorem i_X11_isKindOrNothing_X11 : ∀ w ∈ wsX110, w ∈ wzX11_isKindOrNothing := fun _ h => List.mem_cons_of_mem _ (List.mem_append_right _ (List.mem_append_left _ (h)))
set_option maxHeartbeats 4000000 in
set_option maxRecDepth 100000 in
theorem j_X11_isKindOrNothing_16 {p : Program} {e : Env} {s : State} {m : MethodId} {args : Array Value} {below : List Frame} {meth : Method} {c : Code} {A : Nat → Prop} (l : Launch) (dC : Nat → ClassId) (dI : Nat → Nat → Nat) (Q : CQ) (N : Nat) (z9h : Nat) (R : Int32 × CS) (hx : p.tables.exec = Jvm.exec) (hb : c.code = cX11_isKindOrNothing) (hr : meth.sig.returnType = (some .boolean)) (hml : c.maxLocals = 2) (hown : s.vm.findClass RX11 = some m.cls) (hts : ∀ w ∈ wzX11_isKindOrNothing, w.before args s = true) (hlocks : meth.locks = false) (hZ : zAMB s) (hA : ∀ q : Nat, s.heap.size ≤ q → A q) (hK : va_K (dC, dI) vwCl (cT Q) s) : ∀ (σ : CS) (H : Heap) (locs : List Loc) (ls : Array Slot), f_X11_isKindOrNothing_16 N σ = some R → z9h ≤ CS.hs σ → CP dC dI Q A s.heap σ H locs → lv_has ls 2 [] → W p l e ({ frames := 2, cells := CS.hs R.2 - z9h, slots := 17 * (CS.hs R.2 - z9h), locals := 60 * 2 }) s m args below meth c H locs (CS.hs σ - z9h) (17 * (CS.hs σ - z9h)) (MQ below (va_Qi (fun (r : Int32) (_ : Unit) => r = R.1) (fun (_ : Unit) (t : State) => zPost dC dI A (cW Q R.2) (cT Q) t ∧ t.heap.size = CS.hs R.2) A) args s (CS.hs R.2 - z9h) (17 * (CS.hs R.2 - z9h)) A) (F0 m 16 ls []) := by
  intro σ  H locs ls hf h0 hC hl
  unfold f_X11_isKindOrNothing_16 at hf
  refine lv_iconst (v := 1) hx hb dX11_isKindOrNothing_16 (by decide) ?_
  refine lv_goto (tgt := 21) hx hb dX11_isKindOrNothing_17 (by decide) ?_
  obtain rfl := Option.some.inj hf
  exact W.zret (v := 1) hx hb hr (rfl) (fun t ht hW => ⟨⟨1, (), rfl, rfl, ⟨by rw [ht]; exact hC.1, va_K.moved hW.alike hK, hC.2.1⟩, by rw [ht]; exact hC.2.2.2⟩, hC.2.2.1.F ht⟩) hC.2.2.1.2.2 dX11_isKindOrNothing_21
set_option maxHeartbeats 4000000 in
set_option maxRecDepth 100000 in
theorem c_X11_isKindOrNothing (l : Launch) (dC : Nat → ClassId) (dI : Nat → Nat → Nat) (Q : CQ) (N : Nat) (σ : CS) (x1 : Int32) (R : Int32 × CS) (hf : f_X11_isKindOrNothing N σ x1 = some R) : Met l yX11_isKindOrNothing wzX11_isKindOrNothing ({ frames := 2, cells := CS.hs R.2 - CS.hs σ, slots := 17 * (CS.hs R.2 - CS.hs σ), locals := 60 * 2 }) (va_Pc [.ref (Q.o 0), .int x1] (zPre dC dI (CS.hs σ) (cW Q σ) (cT Q))) (va_Qi (fun (r : Int32) (_ : Unit) => r = R.1) (fun (_ : Unit) (t : State) => zPost dC dI (va_A (cW Q σ) (CS.hs σ)) (cW Q R.2) (cT Q) t ∧ t.heap.size = CS.hs R.2) (va_A (cW Q σ) (CS.hs σ))) (CS.hs R.2 - CS.hs σ) (17 * (CS.hs R.2 - CS.hs σ)) (va_A (cW Q σ) (CS.hs σ)) := by
  refine Met.ofW (cc := cX11_isKindOrNothing) (maxL := 2) (ret := (some .boolean)) (by decide) rfl ?_
  intro p e s m args below meth c s₁ B hml hv
  obtain ⟨rfl, hsz, hZ, hP, hK, hD0⟩ := hv
  have hx := B.exec
  have hb := B.bytes
  have hr := B.returns
  have hts := atoms_spec (ws := wzX11_isKindOrNothing) B.pre
  have hown : s.vm.findClass RX11 = some m.cls := findClass_of_methodNamed B.named
  have hlocks := B.notSynchronized
  have hD := hD0.self (sz := CS.hs σ)
  generalize hAe : va_A (cW Q σ) (CS.hs σ) = A at hD ⊢
  have hA : ∀ q : Nat, s.heap.size ≤ q → A q := fun q h => by rw [← hAe]; exact Or.inr (hsz ▸ h)
  have hC : CP dC dI Q A s.heap σ s.heap [] := ⟨hP, hD, va_S.rf, hsz⟩
  have h0 : CS.hs σ ≤ CS.hs σ := Nat.le_refl _
  have hl := lv_entry ([.ref (Q.o 0), .int x1]) (n := 2) (Nat.le_of_ble_eq_true rfl)
  rw [lg_entry_eq]
  generalize (lg_sl ([.ref (Q.o 0), .int x1]) ++ List.replicate (2 - (lg_sl ([.ref (Q.o 0), .int x1])).length) Slot.unset).toArray = ls at hl ⊢
  have hl : lv_has ls 2 [(0, .ref (Q.o 0)), (1, .int x1)] := hl
  unfold f_X11_isKindOrNothing at hf
  refine W.widen (k := CS.hs σ - CS.hs σ) (n := 17 * (CS.hs σ - CS.hs σ)) (Nat.zero_le _) (Nat.zero_le _) ?_
  refine lv_iload_n hx hb dX11_isKindOrNothing_0 rfl (lv_at hl 1 rfl) ?_
  refine lv_iconst (v := (-1)) hx hb dX11_isKindOrNothing_1 (by decide) ?_
  refine lv_icmp_eq (tgt := 16) hx hb dX11_isKindOrNothing_2 (by decide) (fun c1 => ?_) (fun c1 => ?_)
  ·
    replace hf := (if_pos c1).symm.trans hf
    exact j_X11_isKindOrNothing_16 l dC dI Q N (CS.hs σ) R hx hb hr hml hown hts hlocks hZ hA hK σ _ _ _ hf h0 hC (lv_sub hl [] rfl)
  ·
    replace hf := (if_neg c1).symm.trans hf
    refine lv_aload_n hx hb dX11_isKindOrNothing_5 rfl (lv_at hl 0 rfl) ?_
    refine cG_1 hx hb hts i_X11_isKindOrNothing_X11 hown hK hC (hts (.fieldLink RX11 16 "StatementRules2" "told" "LStatementRules2$Told;") k_X11_isKindOrNothing_fieldLink_RX11_16_SR_told_LSR_Told) (fun _ q9 => q9) dX11_isKindOrNothing_6 ?_
    refine lv_iload_n hx hb dX11_isKindOrNothing_9 rfl (lv_at hl 1 rfl) ?_
    obtain ⟨p2, hcp2, hf⟩ := hf_bind hf
    have mo3 : CS.hs σ ≤ CS.hs p2.2 := Mono.go hcp2 (m_X10_isKind N σ x1)
    have hr9 : CS.hs p2.2 ≤ CS.hs R.2 := Mono.go hf (mono_ite (mono_some (Nat.le_refl _)) (m_X11_isKindOrNothing_16 N p2.2))
    have hFc := cFree hC hA
    refine va_calli (va_runV (As := [.int x1]) (rest := []) ⟨hx, hb, hml, hown, hts⟩ (c_X10_isKind l dC dI Q N σ x1 p2 hcp2) (cwV 1 hts hX11_isKindOrNothing_X10_isKind_v62 rfl rfl rfl (by decide +kernel) ⟨(show 1 + 1 ≤ 2 by omega), (show 8 + (2 + 11) + 60 * 1 ≤ 60 * 2 by omega)⟩) ⟨zPre.blind, va_recv hK hC.1 (ci := 9) (q0 := 1) rfl rfl, cPre_go hZ hK hC⟩ rfl rfl hl.1 rfl (lv_room (Nat.le_of_ble_eq_true rfl)) dX11_isKindOrNothing_10 (cAcc h0 mo3 hr9)) hC.2.2.1 (fun q _ h => hFc q h) hFc (fun r4 u9 t9 H1 locs ht hvm hw hB hz1 hk1 hS => ?_)
    obtain ⟨⟨hP, hK1, hD1⟩, hsz1⟩ := hB
    rw [ht] at hP hsz1
    have hC : CP dC dI Q A s.heap p2.2 H1 locs := ⟨hP, hD1.weaken (fun _ _ _ h => hFc _ h), hS, hsz1⟩
    generalize H1 = H at hC ⊢
    have h5 : (CS.hs σ) ≤ CS.hs p2.2 := Nat.le_trans h0 mo3
    refine W.widen (k := CS.hs p2.2 - (CS.hs σ)) (n := 17 * (CS.hs p2.2 - (CS.hs σ))) (cAcc2 h0 mo3) (cAcc3 h0 mo3) ?_
    obtain rfl : r4 = p2.1 := hw
    refine lv_if_eq (tgt := 20) hx hb dX11_isKindOrNothing_13 (by decide) (fun c6 => ?_) (fun c6 => ?_)
    ·
      replace hf := (if_pos c6).symm.trans hf
      refine lv_iconst (v := 0) hx hb dX11_isKindOrNothing_20 (by decide) ?_
      obtain rfl := Option.some.inj hf
      exact W.zret (v := 0) hx hb hr (rfl) (fun t ht hW => ⟨⟨0, (), rfl, rfl, ⟨by rw [ht]; exact hC.1, va_K.moved hW.alike hK, hC.2.1⟩, by rw [ht]; exact hC.2.2.2⟩, hC.2.2.1.F ht⟩) hC.2.2.1.2.2 dX11_isKindOrNothing_21
    ·
      replace hf := (if_neg c6).symm.trans hf
      exact j_X11_isKindOrNothing_16 l dC dI Q N (CS.hs σ) R hx hb hr hml hown hts hlocks hZ hA hK p2.2 _ _ _ hf h5 hC (lv_sub hl [] rfl)
theorem k_X11_resource_fieldLink_RX11_16_SR_told_LSR_Told : Cond.fieldLink RX11 16 "StatementRules2" "told" "LStatementRules2$Told;" ∈ wzX11_resource := List.mem_cons_of_mem _ (List.mem_append_left _ (List.mem_of_getElem? (i := 0) rfl))
theorem i_X11_resource_X11 : ∀ w ∈ wsX110, w ∈ wzX11_resource := fun _ h => List.mem_cons_of_mem _ (List.mem_append_right _ (List.mem_append_left _ (h)))
set_option maxHeartbeats 4000000 in
set_option maxRecDepth 100000 in
theorem j_X11_resource_19 {p : Program} {e : Env} {s : State} {m : MethodId} {args : Array Value} {below : List Frame} {meth : Method} {c : Code} {A : Nat → Prop} (l : Launch) (dC : Nat → ClassId) (dI : Nat → Nat → Nat) (Q : CQ) (N : Nat) (z9h : Nat) (R : Int32 × CS) (hx : p.tables.exec = Jvm.exec) (hb : c.code = cX11_resource) (hr : meth.sig.returnType = (some .int)) (hml : c.maxLocals = 5) (hown : s.vm.findClass RX11 = some m.cls) (hts : ∀ w ∈ wzX11_resource, w.before args s = true) (hlocks : meth.locks = false) (hZ : zAMB s) (hA : ∀ q : Nat, s.heap.size ≤ q → A q) (hK : va_K (dC, dI) vwCl (cT Q) s) : ∀ (σ : CS) (H : Heap) (locs : List Loc) (ls : Array Slot), f_X11_resource_19 N σ = some R → z9h ≤ CS.hs σ → CP dC dI Q A s.heap σ H locs → lv_has ls 5 [] → W p l e ({ frames := 3, cells := CS.hs R.2 - z9h, slots := 17 * (CS.hs R.2 - z9h), locals := 60 * 3 }) s m args below meth c H locs (CS.hs σ - z9h) (17 * (CS.hs σ - z9h)) (MQ below (va_Qi (fun (r : Int32) (_ : Unit) => r = R.1) (fun (_ : Unit) (t : State) => zPost dC dI A (cW Q R.2) (cT Q) t ∧ t.heap.size = CS.hs R.2) A) args s (CS.hs R.2 - z9h) (17 * (CS.hs R.2 - z9h)) A) (F0 m 19 ls []) := by
  intro σ  H locs ls hf h0 hC hl
  unfold f_X11_resource_19 at hf
  refine lv_iconst (v := (-1)) hx hb dX11_resource_19 (by decide) ?_
  obtain rfl := Option.some.inj hf
  exact W.iret (v := (-1)) hx hb hr (fun t ht hW => ⟨⟨(-1), (), rfl, rfl, ⟨by rw [ht]; exact hC.1, va_K.moved hW.alike hK, hC.2.1⟩, by rw [ht]; exact hC.2.2.2⟩, hC.2.2.1.F ht⟩) hC.2.2.1.2.2 dX11_resource_20
set_option maxHeartbeats 4000000 in
set_option maxRecDepth 100000 in
theorem j_X11_resource_38 {p : Program} {e : Env} {s : State} {m : MethodId} {args : Array Value} {below : List Frame} {meth : Method} {c : Code} {A : Nat → Prop} (l : Launch) (dC : Nat → ClassId) (dI : Nat → Nat → Nat) (Q : CQ) (N : Nat) (z9h : Nat) (R : Int32 × CS) (hx : p.tables.exec = Jvm.exec) (hb : c.code = cX11_resource) (hr : meth.sig.returnType = (some .int)) (hml : c.maxLocals = 5) (hown : s.vm.findClass RX11 = some m.cls) (hts : ∀ w ∈ wzX11_resource, w.before args s = true) (hlocks : meth.locks = false) (hZ : zAMB s) (hA : ∀ q : Nat, s.heap.size ≤ q → A q) (hK : va_K (dC, dI) vwCl (cT Q) s) : ∀ (σ : CS) (H : Heap) (locs : List Loc) (ls : Array Slot), f_X11_resource_38 N σ = some R → z9h ≤ CS.hs σ → CP dC dI Q A s.heap σ H locs → lv_has ls 5 [] → W p l e ({ frames := 3, cells := CS.hs R.2 - z9h, slots := 17 * (CS.hs R.2 - z9h), locals := 60 * 3 }) s m args below meth c H locs (CS.hs σ - z9h) (17 * (CS.hs σ - z9h)) (MQ below (va_Qi (fun (r : Int32) (_ : Unit) => r = R.1) (fun (_ : Unit) (t : State) => zPost dC dI A (cW Q R.2) (cT Q) t ∧ t.heap.size = CS.hs R.2) A) args s (CS.hs R.2 - z9h) (17 * (CS.hs R.2 - z9h)) A) (F0 m 38 ls []) := by
  intro σ  H locs ls hf h0 hC hl
  unfold f_X11_resource_38 at hf
  refine lv_iconst (v := (-1)) hx hb dX11_resource_38 (by decide) ?_
  obtain rfl := Option.some.inj hf
  exact W.iret (v := (-1)) hx hb hr (fun t ht hW => ⟨⟨(-1), (), rfl, rfl, ⟨by rw [ht]; exact hC.1, va_K.moved hW.alike hK, hC.2.1⟩, by rw [ht]; exact hC.2.2.2⟩, hC.2.2.1.F ht⟩) hC.2.2.1.2.2 dX11_resource_39
set_option maxHeartbeats 4000000 in
set_option maxRecDepth 100000 in
theorem c_X11_resource (l : Launch) (dC : Nat → ClassId) (dI : Nat → Nat → Nat) (Q : CQ) (N : Nat) (σ : CS) (x1 : Int32) (x2 : Int32) (x3 : Int32) (x4 : Int32) (R : Int32 × CS) (hf : f_X11_resource N σ x1 x2 x3 x4 = some R) : Met l yX11_resource wzX11_resource ({ frames := 3, cells := CS.hs R.2 - CS.hs σ, slots := 17 * (CS.hs R.2 - CS.hs σ), locals := 60 * 3 }) (va_Pc [.ref (Q.o 0), .int x1, .int x2, .int x3, .int x4] (zPre dC dI (CS.hs σ) (cW Q σ) (cT Q))) (va_Qi (fun (r : Int32) (_ : Unit) => r = R.1) (fun (_ : Unit) (t : State) => zPost dC dI (va_A (cW Q σ) (CS.hs σ)) (cW Q R.2) (cT Q) t ∧ t.heap.size = CS.hs R.2) (va_A (cW Q σ) (CS.hs σ))) (CS.hs R.2 - CS.hs σ) (17 * (CS.hs R.2 - CS.hs σ)) (va_A (cW Q σ) (CS.hs σ)) := by
  refine Met.ofW (cc := cX11_resource) (maxL := 5) (ret := (some .int)) (by decide) rfl ?_
  intro p e s m args below meth c s₁ B hml hv
  obtain ⟨rfl, hsz, hZ, hP, hK, hD0⟩ := hv
  have hx := B.exec
  have hb := B.bytes
  have hr := B.returns
  have hts := atoms_spec (ws := wzX11_resource) B.pre
  have hown : s.vm.findClass RX11 = some m.cls := findClass_of_methodNamed B.named
  have hlocks := B.notSynchronized
  have hD := hD0.self (sz := CS.hs σ)
  generalize hAe : va_A (cW Q σ) (CS.hs σ) = A at hD ⊢
  have hA : ∀ q : Nat, s.heap.size ≤ q → A q := fun q h => by rw [← hAe]; exact Or.inr (hsz ▸ h)
  have hC : CP dC dI Q A s.heap σ s.heap [] := ⟨hP, hD, va_S.rf, hsz⟩
  have h0 : CS.hs σ ≤ CS.hs σ := Nat.le_refl _
  have hl := lv_entry ([.ref (Q.o 0), .int x1, .int x2, .int x3, .int x4]) (n := 5) (Nat.le_of_ble_eq_true rfl)
  rw [lg_entry_eq]
  generalize (lg_sl ([.ref (Q.o 0), .int x1, .int x2, .int x3, .int x4]) ++ List.replicate (5 - (lg_sl ([.ref (Q.o 0), .int x1, .int x2, .int x3, .int x4])).length) Slot.unset).toArray = ls at hl ⊢
  have hl : lv_has ls 5 [(0, .ref (Q.o 0)), (1, .int x1), (2, .int x2), (3, .int x3), (4, .int x4)] := hl
  unfold f_X11_resource at hf
  refine W.widen (k := CS.hs σ - CS.hs σ) (n := 17 * (CS.hs σ - CS.hs σ)) (Nat.zero_le _) (Nat.zero_le _) ?_
  refine lv_iload_n hx hb dX11_resource_0 rfl (lv_at hl 1 rfl) ?_
  refine lv_if_lt (tgt := 19) hx hb dX11_resource_1 (by decide) (fun c1 => ?_) (fun c1 => ?_)
  ·
    replace hf := (if_pos c1).symm.trans hf
    exact j_X11_resource_19 l dC dI Q N (CS.hs σ) R hx hb hr hml hown hts hlocks hZ hA hK σ _ _ _ hf h0 hC (lv_sub hl [] rfl)
  ·
    replace hf := (if_neg c1).symm.trans hf
    refine lv_iload_n hx hb dX11_resource_4 rfl (lv_at hl 1 rfl) ?_
    refine lv_bipush (v := 8) hx hb dX11_resource_5 (by decide) ?_
    refine lv_icmp_ge (tgt := 19) hx hb dX11_resource_7 (by decide) (fun c2 => ?_) (fun c2 => ?_)
    ·
      replace hf := (if_pos c2).symm.trans hf
      exact j_X11_resource_19 l dC dI Q N (CS.hs σ) R hx hb hr hml hown hts hlocks hZ hA hK σ _ _ _ hf h0 hC (lv_sub hl [] rfl)
    ·
      replace hf := (if_neg c2).symm.trans hf
      refine lv_iload_n hx hb dX11_resource_10 rfl (lv_at hl 2 rfl) ?_
      refine lv_if_lt (tgt := 19) hx hb dX11_resource_11 (by decide) (fun c3 => ?_) (fun c3 => ?_)
      ·
        replace hf := (if_pos c3).symm.trans hf
        exact j_X11_resource_19 l dC dI Q N (CS.hs σ) R hx hb hr hml hown hts hlocks hZ hA hK σ _ _ _ hf h0 hC (lv_sub hl [] rfl)
      ·
        replace hf := (if_neg c3).symm.trans hf
        refine lv_iload_n hx hb dX11_resource_14 rfl (lv_at hl 2 rfl) ?_
        refine lv_iconst (v := 1) hx hb dX11_resource_15 (by decide) ?_
        refine lv_icmp_le (tgt := 21) hx hb dX11_resource_16 (by decide) (fun c4 => ?_) (fun c4 => ?_)
        ·
          replace hf := (if_pos c4).symm.trans hf
          refine lv_aload_n hx hb dX11_resource_21 rfl (lv_at hl 0 rfl) ?_
          refine lv_iload_n hx hb dX11_resource_22 rfl (lv_at hl 3 rfl) ?_
          obtain ⟨p5, hcp5, hf⟩ := hf_bind hf
          have mo6 : CS.hs σ ≤ CS.hs p5.2 := Mono.go hcp5 (m_X11_isKindOrNothing N σ x3)
          have hr9 : CS.hs p5.2 ≤ CS.hs R.2 := Mono.go hf (mono_ite (m_X11_resource_38 N p5.2) (mono_bind (m_X11_isKindOrNothing N p5.2 x4) (fun p10 => (mono_ite (m_X11_resource_38 N p10.2) (mono_bind (m_X10_tellResource N p10.2 x1 x2 x3 x4) (fun p15 => (mono_some (Nat.le_refl _))))))))
          have hFc := cFree hC hA
          refine va_calli (va_runV (As := [.int x3]) (rest := []) ⟨hx, hb, hml, hown, hts⟩ (c_X11_isKindOrNothing l dC dI Q N σ x3 p5 hcp5) (cwV 1 hts hX11_resource_X11_isKindOrNothing_v74 rfl rfl rfl (by decide +kernel) ⟨(show 2 + 1 ≤ 3 by omega), (show 8 + (2 + 11) + 60 * 2 ≤ 60 * 3 by omega)⟩) ⟨zPre.blind, va_recv hK hC.1 (ci := 10) (q0 := 0) rfl rfl, cPre_go hZ hK hC⟩ rfl rfl hl.1 rfl (lv_room (Nat.le_of_ble_eq_true rfl)) dX11_resource_23 (cAcc h0 mo6 hr9)) hC.2.2.1 (fun q _ h => hFc q h) hFc (fun r7 u9 t9 H1 locs ht hvm hw hB hz1 hk1 hS => ?_)
          obtain ⟨⟨hP, hK1, hD1⟩, hsz1⟩ := hB
          rw [ht] at hP hsz1
          have hC : CP dC dI Q A s.heap p5.2 H1 locs := ⟨hP, hD1.weaken (fun _ _ _ h => hFc _ h), hS, hsz1⟩
          generalize H1 = H at hC ⊢
          have h8 : (CS.hs σ) ≤ CS.hs p5.2 := Nat.le_trans h0 mo6
          refine W.widen (k := CS.hs p5.2 - (CS.hs σ)) (n := 17 * (CS.hs p5.2 - (CS.hs σ))) (cAcc2 h0 mo6) (cAcc3 h0 mo6) ?_
          obtain rfl : r7 = p5.1 := hw
          refine lv_if_eq (tgt := 38) hx hb dX11_resource_26 (by decide) (fun c9 => ?_) (fun c9 => ?_)
          ·
            replace hf := (if_pos c9).symm.trans hf
            exact j_X11_resource_38 l dC dI Q N (CS.hs σ) R hx hb hr hml hown hts hlocks hZ hA hK p5.2 _ _ _ hf h8 hC (lv_sub hl [] rfl)
          ·
            replace hf := (if_neg c9).symm.trans hf
            refine lv_aload_n hx hb dX11_resource_29 rfl (lv_at hl 0 rfl) ?_
            refine lv_iload hx hb dX11_resource_30 (lv_at hl 4 rfl) ?_
            obtain ⟨p10, hcp10, hf⟩ := hf_bind hf
            have mo11 : CS.hs p5.2 ≤ CS.hs p10.2 := Mono.go hcp10 (m_X11_isKindOrNothing N p5.2 x4)
            have hr9 : CS.hs p10.2 ≤ CS.hs R.2 := Mono.go hf (mono_ite (m_X11_resource_38 N p10.2) (mono_bind (m_X10_tellResource N p10.2 x1 x2 x3 x4) (fun p15 => (mono_some (Nat.le_refl _)))))
            have hFc := cFree hC hA
            refine va_calli (va_runV (As := [.int x4]) (rest := []) ⟨hx, hb, hml, hown, hts⟩ (c_X11_isKindOrNothing l dC dI Q N p5.2 x4 p10 hcp10) (cwV 1 hts hX11_resource_X11_isKindOrNothing_v74 rfl rfl rfl (by decide +kernel) ⟨(show 2 + 1 ≤ 3 by omega), (show 8 + (2 + 11) + 60 * 2 ≤ 60 * 3 by omega)⟩) ⟨zPre.blind, va_recv hK hC.1 (ci := 10) (q0 := 0) rfl rfl, cPre_go hZ hK hC⟩ rfl rfl hl.1 rfl (lv_room (Nat.le_of_ble_eq_true rfl)) dX11_resource_32 (cAcc h8 mo11 hr9)) hC.2.2.1 (fun q _ h => hFc q h) hFc (fun r12 u9 t9 H1 locs ht hvm hw hB hz1 hk1 hS => ?_)
            obtain ⟨⟨hP, hK1, hD1⟩, hsz1⟩ := hB
            rw [ht] at hP hsz1
            have hC : CP dC dI Q A s.heap p10.2 H1 locs := ⟨hP, hD1.weaken (fun _ _ _ h => hFc _ h), hS, hsz1⟩
            generalize H1 = H at hC ⊢
            have h13 : (CS.hs σ) ≤ CS.hs p10.2 := Nat.le_trans h8 mo11
            refine W.widen (k := CS.hs p10.2 - (CS.hs σ)) (n := 17 * (CS.hs p10.2 - (CS.hs σ))) (cAcc2 h8 mo11) (cAcc3 h8 mo11) ?_
            obtain rfl : r12 = p10.1 := hw
            refine lv_if_ne (tgt := 40) hx hb dX11_resource_35 (by decide) (fun c14 => ?_) (fun c14 => ?_)
            ·
              replace hf := (if_neg c14).symm.trans hf
              refine lv_aload_n hx hb dX11_resource_40 rfl (lv_at hl 0 rfl) ?_
              refine cG_1 hx hb hts i_X11_resource_X11 hown hK hC (hts (.fieldLink RX11 16 "StatementRules2" "told" "LStatementRules2$Told;") k_X11_resource_fieldLink_RX11_16_SR_told_LSR_Told) (fun _ q9 => q9) dX11_resource_41 ?_
              refine lv_iload_n hx hb dX11_resource_44 rfl (lv_at hl 1 rfl) ?_
              refine lv_iload_n hx hb dX11_resource_45 rfl (lv_at hl 2 rfl) ?_
              refine lv_iload_n hx hb dX11_resource_46 rfl (lv_at hl 3 rfl) ?_
              refine lv_iload hx hb dX11_resource_47 (lv_at hl 4 rfl) ?_
              obtain ⟨p15, hcp15, hf⟩ := hf_bind hf
              have mo16 : CS.hs p10.2 ≤ CS.hs p15.2 := Mono.go hcp15 (m_X10_tellResource N p10.2 x1 x2 x3 x4)
              have hr9 : CS.hs p15.2 ≤ CS.hs R.2 := Mono.go hf (mono_some (Nat.le_refl _))
              have hFc := cFree hC hA
              refine va_callv (va_runV (As := [.int x1, .int x2, .int x3, .int x4]) (rest := []) ⟨hx, hb, hml, hown, hts⟩ (c_X10_tellResource l dC dI Q N p10.2 x1 x2 x3 x4 p15 hcp15) (cwV 4 hts hX11_resource_X10_tellResource_v77 rfl rfl rfl (by decide +kernel) ⟨(show 2 + 1 ≤ 3 by omega), (show 8 + (5 + 11) + 60 * 2 ≤ 60 * 3 by omega)⟩) ⟨zPre.blind, va_recv hK hC.1 (ci := 9) (q0 := 1) rfl rfl, cPre_go hZ hK hC⟩ rfl rfl hl.1 rfl (lv_room (Nat.le_of_ble_eq_true rfl)) dX11_resource_49 (cAcc h13 mo16 hr9)) hC.2.2.1 (fun q _ h => hFc q h) hFc (fun u9 t9 H1 locs ht hvm hw hB hz1 hk1 hS => ?_)
              obtain ⟨⟨hP, hK1, hD1⟩, hsz1⟩ := hB
              rw [ht] at hP hsz1
              have hC : CP dC dI Q A s.heap p15.2 H1 locs := ⟨hP, hD1.weaken (fun _ _ _ h => hFc _ h), hS, hsz1⟩
              generalize H1 = H at hC ⊢
              have h18 : (CS.hs σ) ≤ CS.hs p15.2 := Nat.le_trans h13 mo16
              refine W.widen (k := CS.hs p15.2 - (CS.hs σ)) (n := 17 * (CS.hs p15.2 - (CS.hs σ))) (cAcc2 h13 mo16) (cAcc3 h13 mo16) ?_
              refine lv_iconst (v := 1) hx hb dX11_resource_52 (by decide) ?_
              obtain rfl := Option.some.inj hf
              exact W.iret (v := 1) hx hb hr (fun t ht hW => ⟨⟨1, (), rfl, rfl, ⟨by rw [ht]; exact hC.1, va_K.moved hW.alike hK, hC.2.1⟩, by rw [ht]; exact hC.2.2.2⟩, hC.2.2.1.F ht⟩) hC.2.2.1.2.2 dX11_resource_53
            ·
              replace hf := (if_pos c14).symm.trans hf
              exact j_X11_resource_38 l dC dI Q N (CS.hs σ) R hx hb hr hml hown hts hlocks hZ hA hK p10.2 _ _ _ hf h13 hC (lv_sub hl [] rfl)
        ·
          replace hf := (if_neg c4).symm.trans hf
          exact j_X11_resource_19 l dC dI Q N (CS.hs σ) R hx hb hr hml hown hts hlocks hZ hA hK σ _ _ _ hf h0 hC (lv_sub hl [] rfl)
theorem k_X11_asserts_fieldLink_RX11_16_SR_told_LSR_Told : Cond.fieldLink RX11 16 "StatementRules2" "told" "LStatementRules2$Told;" ∈ wzX11_asserts := List.mem_cons_of_mem _ (List.mem_append_left _ (List.mem_of_getElem? (i := 0) rfl))
theorem i_X11_asserts_X11 : ∀ w ∈ wsX110, w ∈ wzX11_asserts := fun _ h => List.mem_cons_of_mem _ (List.mem_append_right _ (List.mem_append_left _ (h)))
theorem i_X11_asserts_X10 : ∀ w ∈ wsX100, w ∈ wzX11_asserts := fun _ h => List.mem_cons_of_mem _ (List.mem_append_right _ (List.mem_append_right _ (List.mem_append_left _ (h))))
set_option maxHeartbeats 4000000 in
set_option maxRecDepth 100000 in
theorem j_X11_asserts_16 {p : Program} {e : Env} {s : State} {m : MethodId} {args : Array Value} {below : List Frame} {meth : Method} {c : Code} {A : Nat → Prop} (l : Launch) (dC : Nat → ClassId) (dI : Nat → Nat → Nat) (Q : CQ) (N : Nat) (z9h : Nat) (R : Int32 × CS) (hx : p.tables.exec = Jvm.exec) (hb : c.code = cX11_asserts) (hr : meth.sig.returnType = (some .int)) (hml : c.maxLocals = 3) (hown : s.vm.findClass RX11 = some m.cls) (hts : ∀ w ∈ wzX11_asserts, w.before args s = true) (hlocks : meth.locks = false) (hZ : zAMB s) (hA : ∀ q : Nat, s.heap.size ≤ q → A q) (hK : va_K (dC, dI) vwCl (cT Q) s) : ∀ (σ : CS) (x1 : Int32) (x2 : Int32) (H : Heap) (locs : List Loc) (ls : Array Slot), f_X11_asserts_16 N σ x1 x2 = some R → z9h ≤ CS.hs σ → CP dC dI Q A s.heap σ H locs → lv_has ls 3 [(0, .ref (Q.o 0)), (1, .int x1), (2, .int x2)] → W p l e ({ frames := 1, cells := CS.hs R.2 - z9h, slots := 17 * (CS.hs R.2 - z9h), locals := 60 * 1 }) s m args below meth c H locs (CS.hs σ - z9h) (17 * (CS.hs σ - z9h)) (MQ below (va_Qi (fun (r : Int32) (_ : Unit) => r = R.1) (fun (_ : Unit) (t : State) => zPost dC dI A (cW Q R.2) (cT Q) t ∧ t.heap.size = CS.hs R.2) A) args s (CS.hs R.2 - z9h) (17 * (CS.hs R.2 - z9h)) A) (F0 m 16 ls []) := by
  intro σ x1 x2 H locs ls hf h0 hC hl
  unfold f_X11_asserts_16 at hf
  refine lv_aload_n hx hb dX11_asserts_16 rfl (lv_at hl 0 rfl) ?_
  refine cG_1 hx hb hts i_X11_asserts_X11 hown hK hC (hts (.fieldLink RX11 16 "StatementRules2" "told" "LStatementRules2$Told;") k_X11_asserts_fieldLink_RX11_16_SR_told_LSR_Told) (fun _ q9 => q9) dX11_asserts_17 ?_
  refine lv_iload_n hx hb dX11_asserts_20 rfl (lv_at hl 1 rfl) ?_
  obtain ⟨b2, hf⟩ := hf_ite hf
  refine cPN_14 (v := x1) hx hb hts i_X11_asserts_X10 hown hK hC (va_Nw.use rfl (hZ.1 (.fieldLinkNest RX11 81 "StatementRules2$Told" "assertsOn" "Z" "StatementRules2") (by decide +kernel))) (fun _ q9 => q9) dX11_asserts_21 b2 (fun H locs hC => ?_)
  refine lv_iload_n hx hb dX11_asserts_24 rfl (lv_at hl 2 rfl) ?_
  obtain rfl := Option.some.inj hf
  exact W.iret (v := x2) hx hb hr (fun t ht hW => ⟨⟨x2, (), rfl, rfl, ⟨by rw [ht]; exact hC.1, va_K.moved hW.alike hK, hC.2.1⟩, by rw [ht]; exact hC.2.2.2⟩, hC.2.2.1.F ht⟩) hC.2.2.1.2.2 dX11_asserts_25
set_option maxHeartbeats 4000000 in
set_option maxRecDepth 100000 in
theorem c_X11_asserts (l : Launch) (dC : Nat → ClassId) (dI : Nat → Nat → Nat) (Q : CQ) (N : Nat) (σ : CS) (x1 : Int32) (R : Int32 × CS) (hf : f_X11_asserts N σ x1 = some R) : Met l yX11_asserts wzX11_asserts ({ frames := 1, cells := CS.hs R.2 - CS.hs σ, slots := 17 * (CS.hs R.2 - CS.hs σ), locals := 60 * 1 }) (va_Pc [.ref (Q.o 0), .int x1] (zPre dC dI (CS.hs σ) (cW Q σ) (cT Q))) (va_Qi (fun (r : Int32) (_ : Unit) => r = R.1) (fun (_ : Unit) (t : State) => zPost dC dI (va_A (cW Q σ) (CS.hs σ)) (cW Q R.2) (cT Q) t ∧ t.heap.size = CS.hs R.2) (va_A (cW Q σ) (CS.hs σ))) (CS.hs R.2 - CS.hs σ) (17 * (CS.hs R.2 - CS.hs σ)) (va_A (cW Q σ) (CS.hs σ)) := by
  refine Met.ofW (cc := cX11_asserts) (maxL := 3) (ret := (some .int)) (by decide) rfl ?_
  intro p e s m args below meth c s₁ B hml hv
  obtain ⟨rfl, hsz, hZ, hP, hK, hD0⟩ := hv
  have hx := B.exec
  have hb := B.bytes
  have hr := B.returns
  have hts := atoms_spec (ws := wzX11_asserts) B.pre
  have hown : s.vm.findClass RX11 = some m.cls := findClass_of_methodNamed B.named
  have hlocks := B.notSynchronized
  have hD := hD0.self (sz := CS.hs σ)
  generalize hAe : va_A (cW Q σ) (CS.hs σ) = A at hD ⊢
  have hA : ∀ q : Nat, s.heap.size ≤ q → A q := fun q h => by rw [← hAe]; exact Or.inr (hsz ▸ h)
  have hC : CP dC dI Q A s.heap σ s.heap [] := ⟨hP, hD, va_S.rf, hsz⟩
  have h0 : CS.hs σ ≤ CS.hs σ := Nat.le_refl _
  have hl := lv_entry ([.ref (Q.o 0), .int x1]) (n := 3) (Nat.le_of_ble_eq_true rfl)
  rw [lg_entry_eq]
  generalize (lg_sl ([.ref (Q.o 0), .int x1]) ++ List.replicate (3 - (lg_sl ([.ref (Q.o 0), .int x1])).length) Slot.unset).toArray = ls at hl ⊢
  have hl : lv_has ls 3 [(0, .ref (Q.o 0)), (1, .int x1)] := hl
  unfold f_X11_asserts at hf
  refine W.widen (k := CS.hs σ - CS.hs σ) (n := 17 * (CS.hs σ - CS.hs σ)) (Nat.zero_le _) (Nat.zero_le _) ?_
  refine lv_aload_n hx hb dX11_asserts_0 rfl (lv_at hl 0 rfl) ?_
  refine cG_1 hx hb hts i_X11_asserts_X11 hown hK hC (hts (.fieldLink RX11 16 "StatementRules2" "told" "LStatementRules2$Told;") k_X11_asserts_fieldLink_RX11_16_SR_told_LSR_Told) (fun _ q9 => q9) dX11_asserts_1 ?_
  refine cGN_14 (v := (σ.i 14)) hx hb hts i_X11_asserts_X10 hown hK hC (va_Nw.use rfl (hZ.1 (.fieldLinkNest RX11 81 "StatementRules2$Told" "assertsOn" "Z" "StatementRules2") (by decide +kernel))) (fun _ q9 => q9) dX11_asserts_4 rfl ?_
  refine lv_if_eq (tgt := 14) hx hb dX11_asserts_7 (by decide) (fun c1 => ?_) (fun c1 => ?_)
  ·
    replace hf := (if_pos c1).symm.trans hf
    refine lv_iconst (v := 0) hx hb dX11_asserts_14 (by decide) ?_
    refine lv_istore_n (lv' := [(2, .int 0), (0, .ref (Q.o 0)), (1, .int x1)]) hx hb dX11_asserts_15 rfl hl (by decide) rfl (fun ls hl => ?_)
    exact j_X11_asserts_16 l dC dI Q N (CS.hs σ) R hx hb hr hml hown hts hlocks hZ hA hK σ x1 0 _ _ _ hf h0 hC (lv_sub hl [1, 2, 0] rfl)
  ·
    replace hf := (if_neg c1).symm.trans hf
    refine lv_iconst (v := 1) hx hb dX11_asserts_10 (by decide) ?_
    refine lv_goto (tgt := 15) hx hb dX11_asserts_11 (by decide) ?_
    refine lv_istore_n (lv' := [(2, .int 1), (0, .ref (Q.o 0)), (1, .int x1)]) hx hb dX11_asserts_15 rfl hl (by decide) rfl (fun ls hl => ?_)
    exact j_X11_asserts_16 l dC dI Q N (CS.hs σ) R hx hb hr hml hown hts hlocks hZ hA hK σ x1 1 _ _ _ hf h0 hC (lv_sub hl [1, 2, 0] rfl)
theorem k_X11_read_fieldLink_RX11_50_SR_length_I : Cond.fieldLink RX11 50 "StatementRules2" "length" "I" ∈ wzX11_read := List.mem_cons_of_mem _ (List.mem_append_left _ (List.mem_of_getElem? (i := 0) rfl))
theorem i_X11_read_X11 : ∀ w ∈ wsX110, w ∈ wzX11_read := fun _ h => List.mem_cons_of_mem _ (List.mem_append_right _ (List.mem_append_left _ (h)))
theorem k_X11_read_fieldLink_RX11_85_SR_hasRun_Z : Cond.fieldLink RX11 85 "StatementRules2" "hasRun" "Z" ∈ wzX11_read := List.mem_cons_of_mem _ (List.mem_append_left _ (List.mem_of_getElem? (i := 1) rfl))
theorem k_X11_read_fieldLink_RX11_37_SR_reader_LSR_Statements : Cond.fieldLink RX11 37 "StatementRules2" "reader" "LStatementRules2$Statements;" ∈ wzX11_read := List.mem_cons_of_mem _ (List.mem_append_left _ (List.mem_of_getElem? (i := 2) rfl))
theorem k_X11_read_fieldLink_RX11_91_SR_latestFault_I : Cond.fieldLink RX11 91 "StatementRules2" "latestFault" "I" ∈ wzX11_read := List.mem_cons_of_mem _ (List.mem_append_left _ (List.mem_of_getElem? (i := 3) rfl))
theorem k_X11_read_fieldLink_RX11_94_SR_hasProgram_Z : Cond.fieldLink RX11 94 "StatementRules2" "hasProgram" "Z" ∈ wzX11_read := List.mem_cons_of_mem _ (List.mem_append_left _ (List.mem_of_getElem? (i := 4) rfl))
theorem k_X11_read_fieldLink_RX11_100_SR_Statements_faultPlace_I : Cond.fieldLink RX11 100 "StatementRules2$Statements" "faultPlace" "I" ∈ wzX11_read := List.mem_cons_of_mem _ (List.mem_append_left _ (List.mem_of_getElem? (i := 5) rfl))
theorem k_X11_read_sameField_SR_Statements_SR_Formulas_faultPlace_I : Cond.sameField "StatementRules2$Statements" "StatementRules2$Formulas" "faultPlace" "I" ∈ wzX11_read := List.mem_cons_of_mem _ (List.mem_append_left _ (List.mem_of_getElem? (i := 6) rfl))
theorem i_X11_read_X7 : ∀ w ∈ wsX70, w ∈ wzX11_read := fun _ h => List.mem_cons_of_mem _ (List.mem_append_right _ (List.mem_append_right _ (List.mem_append_left _ (h))))
theorem k_X11_read_fieldLink_RX11_23_SR_code_LSR_Code : Cond.fieldLink RX11 23 "StatementRules2" "code" "LStatementRules2$Code;" ∈ wzX11_read := List.mem_cons_of_mem _ (List.mem_append_left _ (List.mem_of_getElem? (i := 7) rfl))
theorem i_X11_read_X0 : ∀ w ∈ wsX00, w ∈ wzX11_read := fun _ h => List.mem_cons_of_mem _ (List.mem_append_right _ (List.mem_append_right _ (List.mem_append_right _ (List.mem_append_left _ (h)))))
set_option maxHeartbeats 4000000 in
set_option maxRecDepth 100000 in
theorem j_X11_read_43 {p : Program} {e : Env} {s : State} {m : MethodId} {args : Array Value} {below : List Frame} {meth : Method} {c : Code} {A : Nat → Prop} (l : Launch) (dC : Nat → ClassId) (dI : Nat → Nat → Nat) (Q : CQ) (N : Nat) (d : Nat) (E1 : CS → Option (Unit × CS)) (E2 : CS → Option (Int32 × CS)) (hE1 : cMF l dC dI Q d E1) (hE2 : cMO l dC dI Q d E2) (hm1 : ∀ σ, Mono (CS.hs σ) (E1 σ)) (hm2 : ∀ σ, Mono (CS.hs σ) (E2 σ)) (z9h : Nat) (R : Int32 × CS) (hx : p.tables.exec = Jvm.exec) (hb : c.code = cX11_read) (hr : meth.sig.returnType = (some .int)) (hml : c.maxLocals = 2) (hown : s.vm.findClass RX11 = some m.cls) (hts : ∀ w ∈ wzX11_read, w.before args s = true) (hlocks : meth.locks = false) (hZ : zAMB s) (hA : ∀ q : Nat, s.heap.size ≤ q → A q) (hK : va_K (dC, dI) vwCl (cT Q) s) : ∀ (σ : CS) (H : Heap) (locs : List Loc) (ls : Array Slot), f_X11_read_43 N E1 E2 σ = some R → z9h ≤ CS.hs σ → CP dC dI Q A s.heap σ H locs → lv_has ls 2 [(0, .ref (Q.o 0))] → W p l e ({ frames := (23 + 40 * d), cells := CS.hs R.2 - z9h, slots := 17 * (CS.hs R.2 - z9h), locals := 60 * (23 + 40 * d) }) s m args below meth c H locs (CS.hs σ - z9h) (17 * (CS.hs σ - z9h)) (MQ below (va_Qi (fun (r : Int32) (_ : Unit) => r = R.1) (fun (_ : Unit) (t : State) => zPost dC dI A (cW Q R.2) (cT Q) t ∧ t.heap.size = CS.hs R.2) A) args s (CS.hs R.2 - z9h) (17 * (CS.hs R.2 - z9h)) A) (F0 m 43 ls []) := by
  intro σ  H locs ls hf h0 hC hl
  unfold f_X11_read_43 at hf
  refine lv_aload_n hx hb dX11_read_43 rfl (lv_at hl 0 rfl) ?_
  refine cG_7 (v := (σ.i 7)) hx hb hts i_X11_read_X11 hown hK hC (hts (.fieldLink RX11 94 "StatementRules2" "hasProgram" "Z") k_X11_read_fieldLink_RX11_94_SR_hasProgram_Z) (fun _ q9 => q9) dX11_read_44 rfl ?_
  refine lv_if_eq (tgt := 60) hx hb dX11_read_47 (by decide) (fun c6 => ?_) (fun c6 => ?_)
  ·
    replace hf := (if_pos c6).symm.trans hf
    refine lv_bipush (v := (-10)) hx hb dX11_read_60 (by decide) ?_
    refine lv_aload_n hx hb dX11_read_62 rfl (lv_at hl 0 rfl) ?_
    refine cG_3 hx hb hts i_X11_read_X11 hown hK hC (hts (.fieldLink RX11 37 "StatementRules2" "reader" "LStatementRules2$Statements;") k_X11_read_fieldLink_RX11_37_SR_reader_LSR_Statements) (fun _ q9 => q9) dX11_read_63 ?_
    refine cG_33 (v := (σ.i 33)) hx hb hts i_X11_read_X7 hown hK hC (hts (.fieldLink RX11 100 "StatementRules2$Statements" "faultPlace" "I") k_X11_read_fieldLink_RX11_100_SR_Statements_faultPlace_I) (fun x9 q9 => u_same (hts (.sameField "StatementRules2$Statements" "StatementRules2$Formulas" "faultPlace" "I") k_X11_read_sameField_SR_Statements_SR_Formulas_faultPlace_I) x9 q9) dX11_read_66 rfl ?_
    refine lv_isub hx hb dX11_read_69 ?_
    obtain rfl := Option.some.inj hf
    exact W.iret (v := ((-10) - (σ.i 33))) hx hb hr (fun t ht hW => ⟨⟨((-10) - (σ.i 33)), (), rfl, rfl, ⟨by rw [ht]; exact hC.1, va_K.moved hW.alike hK, hC.2.1⟩, by rw [ht]; exact hC.2.2.2⟩, hC.2.2.1.F ht⟩) hC.2.2.1.2.2 dX11_read_70
  ·
    replace hf := (if_neg c6).symm.trans hf
    refine lv_aload_n hx hb dX11_read_50 rfl (lv_at hl 0 rfl) ?_
    refine cG_2 hx hb hts i_X11_read_X11 hown hK hC (hts (.fieldLink RX11 23 "StatementRules2" "code" "LStatementRules2$Code;") k_X11_read_fieldLink_RX11_23_SR_code_LSR_Code) (fun _ q9 => q9) dX11_read_51 ?_
    refine cGN_24 (v := (σ.i 24)) hx hb hts i_X11_read_X0 hown hK hC (va_Nw.use rfl (hZ.1 (.fieldLinkNest RX11 97 "StatementRules2$Code" "statements" "I" "StatementRules2") (by decide +kernel))) (fun _ q9 => q9) dX11_read_54 rfl ?_
    refine lv_goto (tgt := 70) hx hb dX11_read_57 (by decide) ?_
    obtain rfl := Option.some.inj hf
    exact W.iret (v := (σ.i 24)) hx hb hr (fun t ht hW => ⟨⟨(σ.i 24), (), rfl, rfl, ⟨by rw [ht]; exact hC.1, va_K.moved hW.alike hK, hC.2.1⟩, by rw [ht]; exact hC.2.2.2⟩, hC.2.2.1.F ht⟩) hC.2.2.1.2.2 dX11_read_70
set_option maxHeartbeats 4000000 in
set_option maxRecDepth 100000 in
theorem c_X11_read (l : Launch) (dC : Nat → ClassId) (dI : Nat → Nat → Nat) (Q : CQ) (N : Nat) (d : Nat) (E1 : CS → Option (Unit × CS)) (E2 : CS → Option (Int32 × CS)) (hE1 : cMF l dC dI Q d E1) (hE2 : cMO l dC dI Q d E2) (hm1 : ∀ σ, Mono (CS.hs σ) (E1 σ)) (hm2 : ∀ σ, Mono (CS.hs σ) (E2 σ)) (σ : CS) (R : Int32 × CS) (hf : f_X11_read N E1 E2 σ = some R) : Met l yX11_read wzX11_read ({ frames := (23 + 40 * d), cells := CS.hs R.2 - CS.hs σ, slots := 17 * (CS.hs R.2 - CS.hs σ), locals := 60 * (23 + 40 * d) }) (va_Pc [.ref (Q.o 0)] (zPre dC dI (CS.hs σ) (cW Q σ) (cT Q))) (va_Qi (fun (r : Int32) (_ : Unit) => r = R.1) (fun (_ : Unit) (t : State) => zPost dC dI (va_A (cW Q σ) (CS.hs σ)) (cW Q R.2) (cT Q) t ∧ t.heap.size = CS.hs R.2) (va_A (cW Q σ) (CS.hs σ))) (CS.hs R.2 - CS.hs σ) (17 * (CS.hs R.2 - CS.hs σ)) (va_A (cW Q σ) (CS.hs σ)) := by
  refine Met.ofW (cc := cX11_read) (maxL := 2) (ret := (some .int)) (by decide) rfl ?_
  intro p e s m args below meth c s₁ B hml hv
  obtain ⟨rfl, hsz, hZ, hP, hK, hD0⟩ := hv
  have hx := B.exec
  have hb := B.bytes
  have hr := B.returns
  have hts := atoms_spec (ws := wzX11_read) B.pre
  have hown : s.vm.findClass RX11 = some m.cls := findClass_of_methodNamed B.named
  have hlocks := B.notSynchronized
  have hD := hD0.self (sz := CS.hs σ)
  generalize hAe : va_A (cW Q σ) (CS.hs σ) = A at hD ⊢
  have hA : ∀ q : Nat, s.heap.size ≤ q → A q := fun q h => by rw [← hAe]; exact Or.inr (hsz ▸ h)
  have hC : CP dC dI Q A s.heap σ s.heap [] := ⟨hP, hD, va_S.rf, hsz⟩
  have h0 : CS.hs σ ≤ CS.hs σ := Nat.le_refl _
  have hl := lv_entry ([.ref (Q.o 0)]) (n := 2) (Nat.le_of_ble_eq_true rfl)
  rw [lg_entry_eq]
  generalize (lg_sl ([.ref (Q.o 0)]) ++ List.replicate (2 - (lg_sl ([.ref (Q.o 0)])).length) Slot.unset).toArray = ls at hl ⊢
  have hl : lv_has ls 2 [(0, .ref (Q.o 0))] := hl
  unfold f_X11_read at hf
  refine W.widen (k := CS.hs σ - CS.hs σ) (n := 17 * (CS.hs σ - CS.hs σ)) (Nat.zero_le _) (Nat.zero_le _) ?_
  refine lv_aload_n hx hb dX11_read_0 rfl (lv_at hl 0 rfl) ?_
  refine cG_5 (v := (σ.i 5)) hx hb hts i_X11_read_X11 hown hK hC (hts (.fieldLink RX11 50 "StatementRules2" "length" "I") k_X11_read_fieldLink_RX11_50_SR_length_I) (fun _ q9 => q9) dX11_read_1 rfl ?_
  refine lv_istore_n (lv' := [(1, .int (σ.i 5)), (0, .ref (Q.o 0))]) hx hb dX11_read_4 rfl hl (by decide) rfl (fun ls hl => ?_)
  refine lv_aload_n hx hb dX11_read_5 rfl (lv_at hl 1 rfl) ?_
  refine lv_iconst (v := 0) hx hb dX11_read_6 (by decide) ?_
  refine cP_5 (v := 0) hx hb hts i_X11_read_X11 hown hK hC (hts (.fieldLink RX11 50 "StatementRules2" "length" "I") k_X11_read_fieldLink_RX11_50_SR_length_I) (fun _ q9 => q9) dX11_read_7 (fun H locs hC => ?_)
  refine lv_aload_n hx hb dX11_read_10 rfl (lv_at hl 1 rfl) ?_
  refine lv_iconst (v := 0) hx hb dX11_read_11 (by decide) ?_
  refine cP_8 (v := 0) hx hb hts i_X11_read_X11 hown hK hC (hts (.fieldLink RX11 85 "StatementRules2" "hasRun" "Z") k_X11_read_fieldLink_RX11_85_SR_hasRun_Z) (fun _ q9 => q9) dX11_read_12 (by decide) (fun H locs hC => ?_)
  refine lv_aload_n hx hb dX11_read_15 rfl (lv_at hl 1 rfl) ?_
  refine lv_aload_n hx hb dX11_read_16 rfl (lv_at hl 1 rfl) ?_
  refine cG_3 hx hb hts i_X11_read_X11 hown hK hC (hts (.fieldLink RX11 37 "StatementRules2" "reader" "LStatementRules2$Statements;") k_X11_read_fieldLink_RX11_37_SR_reader_LSR_Statements) (fun _ q9 => q9) dX11_read_17 ?_
  refine lv_iload_n hx hb dX11_read_20 rfl (lv_at hl 0 rfl) ?_
  obtain ⟨p1, hcp1, hf⟩ := hf_bind hf
  have mo2 : CS.hs σ ≤ CS.hs p1.2 := Mono.go hcp1 (m_X7_translate N E1 E2 hm1 hm2 (CS.setI (CS.setI σ 5 0) 8 0) (σ.i 5))
  have hr9 : CS.hs p1.2 ≤ CS.hs R.2 := Mono.go hf (mono_ite (m_X11_read_43 N E1 E2 hm1 hm2 (CS.setI (CS.setI p1.2 6 p1.1) 7 1)) (m_X11_read_43 N E1 E2 hm1 hm2 (CS.setI (CS.setI p1.2 6 p1.1) 7 0)))
  have hFc := cFree hC hA
  refine va_calli (va_runV (As := [.int (σ.i 5)]) (rest := [.ref (Q.o 0)]) ⟨hx, hb, hml, hown, hts⟩ (c_X7_translate l dC dI Q N d E1 E2 hE1 hE2 hm1 hm2 (CS.setI (CS.setI σ 5 0) 8 0) (σ.i 5) p1 hcp1) (cwV 1 hts hX11_read_X7_translate_v88 rfl rfl rfl (by decide +kernel) ⟨(show (22 + 40 * d) + 1 ≤ (23 + 40 * d) by omega), (show 8 + (2 + 11) + 60 * (22 + 40 * d) ≤ 60 * (23 + 40 * d) by omega)⟩) ⟨zPre.blind, va_recv hK hC.1 (ci := 6) (q0 := 3) rfl rfl, cPre_go hZ hK hC⟩ rfl rfl hl.1 rfl (lv_room (Nat.le_of_ble_eq_true rfl)) dX11_read_21 (cAcc h0 mo2 hr9)) hC.2.2.1 (fun q _ h => hFc q h) hFc (fun r3 u9 t9 H1 locs ht hvm hw hB hz1 hk1 hS => ?_)
  obtain ⟨⟨hP, hK1, hD1⟩, hsz1⟩ := hB
  rw [ht] at hP hsz1
  have hC : CP dC dI Q A s.heap p1.2 H1 locs := ⟨hP, hD1.weaken (fun _ _ _ h => hFc _ h), hS, hsz1⟩
  generalize H1 = H at hC ⊢
  have h4 : (CS.hs σ) ≤ CS.hs p1.2 := Nat.le_trans h0 mo2
  refine W.widen (k := CS.hs p1.2 - (CS.hs σ)) (n := 17 * (CS.hs p1.2 - (CS.hs σ))) (cAcc2 h0 mo2) (cAcc3 h0 mo2) ?_
  obtain rfl : r3 = p1.1 := hw
  refine cP_6 (v := p1.1) hx hb hts i_X11_read_X11 hown hK hC (hts (.fieldLink RX11 91 "StatementRules2" "latestFault" "I") k_X11_read_fieldLink_RX11_91_SR_latestFault_I) (fun _ q9 => q9) dX11_read_24 (fun H locs hC => ?_)
  refine lv_aload_n hx hb dX11_read_27 rfl (lv_at hl 1 rfl) ?_
  refine lv_aload_n hx hb dX11_read_28 rfl (lv_at hl 1 rfl) ?_
  refine cG_6 (v := p1.1) hx hb hts i_X11_read_X11 hown hK hC (hts (.fieldLink RX11 91 "StatementRules2" "latestFault" "I") k_X11_read_fieldLink_RX11_91_SR_latestFault_I) (fun _ q9 => q9) dX11_read_29 rfl ?_
  refine lv_if_ne (tgt := 39) hx hb dX11_read_32 (by decide) (fun c5 => ?_) (fun c5 => ?_)
  ·
    replace hf := (if_neg c5).symm.trans hf
    refine lv_iconst (v := 0) hx hb dX11_read_39 (by decide) ?_
    refine cP_7 (v := 0) hx hb hts i_X11_read_X11 hown hK hC (hts (.fieldLink RX11 94 "StatementRules2" "hasProgram" "Z") k_X11_read_fieldLink_RX11_94_SR_hasProgram_Z) (fun _ q9 => q9) dX11_read_40 (by decide) (fun H locs hC => ?_)
    exact j_X11_read_43 l dC dI Q N d E1 E2 hE1 hE2 hm1 hm2 (CS.hs σ) R hx hb hr hml hown hts hlocks hZ hA hK (CS.setI (CS.setI p1.2 6 p1.1) 7 0) _ _ _ hf h4 hC (lv_sub hl [1] rfl)
  ·
    replace hf := (if_pos c5).symm.trans hf
    refine lv_iconst (v := 1) hx hb dX11_read_35 (by decide) ?_
    refine lv_goto (tgt := 40) hx hb dX11_read_36 (by decide) ?_
    refine cP_7 (v := 1) hx hb hts i_X11_read_X11 hown hK hC (hts (.fieldLink RX11 94 "StatementRules2" "hasProgram" "Z") k_X11_read_fieldLink_RX11_94_SR_hasProgram_Z) (fun _ q9 => q9) dX11_read_40 (by decide) (fun H locs hC => ?_)
    exact j_X11_read_43 l dC dI Q N d E1 E2 hE1 hE2 hm1 hm2 (CS.hs σ) R hx hb hr hml hown hts hlocks hZ hA hK (CS.setI (CS.setI p1.2 6 p1.1) 7 1) _ _ _ hf h4 hC (lv_sub hl [1] rfl)
theorem k_X11_fault_fieldLink_RX11_91_SR_latestFault_I : Cond.fieldLink RX11 91 "StatementRules2" "latestFault" "I" ∈ wzX11_fault := List.mem_cons_of_mem _ (List.mem_append_left _ (List.mem_of_getElem? (i := 0) rfl))
theorem i_X11_fault_X11 : ∀ w ∈ wsX110, w ∈ wzX11_fault := fun _ h => List.mem_cons_of_mem _ (List.mem_append_right _ (List.mem_append_left _ (h)))
set_option maxHeartbeats 4000000 in
set_option maxRecDepth 100000 in
theorem c_X11_fault (l : Launch) (dC : Nat → ClassId) (dI : Nat → Nat → Nat) (Q : CQ) (N : Nat) (σ : CS) (R : Int32 × CS) (hf : f_X11_fault N σ = some R) : Met l yX11_fault wzX11_fault ({ frames := 1, cells := CS.hs R.2 - CS.hs σ, slots := 17 * (CS.hs R.2 - CS.hs σ), locals := 60 * 1 }) (va_Pc [.ref (Q.o 0)] (zPre dC dI (CS.hs σ) (cW Q σ) (cT Q))) (va_Qi (fun (r : Int32) (_ : Unit) => r = R.1) (fun (_ : Unit) (t : State) => zPost dC dI (va_A (cW Q σ) (CS.hs σ)) (cW Q R.2) (cT Q) t ∧ t.heap.size = CS.hs R.2) (va_A (cW Q σ) (CS.hs σ))) (CS.hs R.2 - CS.hs σ) (17 * (CS.hs R.2 - CS.hs σ)) (va_A (cW Q σ) (CS.hs σ)) := by
  refine Met.ofW (cc := cX11_fault) (maxL := 1) (ret := (some .int)) (by decide) rfl ?_
  intro p e s m args below meth c s₁ B hml hv
  obtain ⟨rfl, hsz, hZ, hP, hK, hD0⟩ := hv
  have hx := B.exec
  have hb := B.bytes
  have hr := B.returns
  have hts := atoms_spec (ws := wzX11_fault) B.pre
  have hown : s.vm.findClass RX11 = some m.cls := findClass_of_methodNamed B.named
  have hlocks := B.notSynchronized
  have hD := hD0.self (sz := CS.hs σ)
  generalize hAe : va_A (cW Q σ) (CS.hs σ) = A at hD ⊢
  have hA : ∀ q : Nat, s.heap.size ≤ q → A q := fun q h => by rw [← hAe]; exact Or.inr (hsz ▸ h)
  have hC : CP dC dI Q A s.heap σ s.heap [] := ⟨hP, hD, va_S.rf, hsz⟩
  have h0 : CS.hs σ ≤ CS.hs σ := Nat.le_refl _
  have hl := lv_entry ([.ref (Q.o 0)]) (n := 1) (Nat.le_of_ble_eq_true rfl)
  rw [lg_entry_eq]
  generalize (lg_sl ([.ref (Q.o 0)]) ++ List.replicate (1 - (lg_sl ([.ref (Q.o 0)])).length) Slot.unset).toArray = ls at hl ⊢
  have hl : lv_has ls 1 [(0, .ref (Q.o 0))] := hl
  unfold f_X11_fault at hf
  refine W.widen (k := CS.hs σ - CS.hs σ) (n := 17 * (CS.hs σ - CS.hs σ)) (Nat.zero_le _) (Nat.zero_le _) ?_
  refine lv_aload_n hx hb dX11_fault_0 rfl (lv_at hl 0 rfl) ?_
  refine cG_6 (v := (σ.i 6)) hx hb hts i_X11_fault_X11 hown hK hC (hts (.fieldLink RX11 91 "StatementRules2" "latestFault" "I") k_X11_fault_fieldLink_RX11_91_SR_latestFault_I) (fun _ q9 => q9) dX11_fault_1 rfl ?_
  obtain rfl := Option.some.inj hf
  exact W.iret (v := (σ.i 6)) hx hb hr (fun t ht hW => ⟨⟨(σ.i 6), (), rfl, rfl, ⟨by rw [ht]; exact hC.1, va_K.moved hW.alike hK, hC.2.1⟩, by rw [ht]; exact hC.2.2.2⟩, hC.2.2.1.F ht⟩) hC.2.2.1.2.2 dX11_fault_4
theorem k_X11_program_fieldLink_RX11_94_SR_hasProgram_Z : Cond.fieldLink RX11 94 "StatementRules2" "hasProgram" "Z" ∈ wzX11_program := List.mem_cons_of_mem _ (List.mem_append_left _ (List.mem_of_getElem? (i := 0) rfl))
theorem i_X11_program_X11 : ∀ w ∈ wsX110, w ∈ wzX11_program := fun _ h => List.mem_cons_of_mem _ (List.mem_append_right _ (List.mem_append_left _ (h)))
theorem k_X11_program_fieldLink_RX11_23_SR_code_LSR_Code : Cond.fieldLink RX11 23 "StatementRules2" "code" "LStatementRules2$Code;" ∈ wzX11_program := List.mem_cons_of_mem _ (List.mem_append_left _ (List.mem_of_getElem? (i := 1) rfl))
theorem i_X11_program_X0 : ∀ w ∈ wsX00, w ∈ wzX11_program := fun _ h => List.mem_cons_of_mem _ (List.mem_append_right _ (List.mem_append_right _ (List.mem_append_left _ (h))))
set_option maxHeartbeats 4000000 in
set_option maxRecDepth 100000 in
theorem j_X11_program_9 {p : Program} {e : Env} {s : State} {m : MethodId} {args : Array Value} {below : List Frame} {meth : Method} {c : Code} {A : Nat → Prop} (l : Launch) (dC : Nat → ClassId) (dI : Nat → Nat → Nat) (Q : CQ) (N : Nat) (z9h : Nat) (R : Int32 × CS) (hx : p.tables.exec = Jvm.exec) (hb : c.code = cX11_program) (hr : meth.sig.returnType = (some .int)) (hml : c.maxLocals = 2) (hown : s.vm.findClass RX11 = some m.cls) (hts : ∀ w ∈ wzX11_program, w.before args s = true) (hlocks : meth.locks = false) (hZ : zAMB s) (hA : ∀ q : Nat, s.heap.size ≤ q → A q) (hK : va_K (dC, dI) vwCl (cT Q) s) : ∀ (σ : CS) (H : Heap) (locs : List Loc) (ls : Array Slot), f_X11_program_9 N σ = some R → z9h ≤ CS.hs σ → CP dC dI Q A s.heap σ H locs → lv_has ls 2 [] → W p l e ({ frames := 1, cells := CS.hs R.2 - z9h, slots := 17 * (CS.hs R.2 - z9h), locals := 60 * 1 }) s m args below meth c H locs (CS.hs σ - z9h) (17 * (CS.hs σ - z9h)) (MQ below (va_Qi (fun (r : Int32) (_ : Unit) => r = R.1) (fun (_ : Unit) (t : State) => zPost dC dI A (cW Q R.2) (cT Q) t ∧ t.heap.size = CS.hs R.2) A) args s (CS.hs R.2 - z9h) (17 * (CS.hs R.2 - z9h)) A) (F0 m 9 ls []) := by
  intro σ  H locs ls hf h0 hC hl
  unfold f_X11_program_9 at hf
  refine lv_iconst (v := (-1)) hx hb dX11_program_9 (by decide) ?_
  obtain rfl := Option.some.inj hf
  exact W.iret (v := (-1)) hx hb hr (fun t ht hW => ⟨⟨(-1), (), rfl, rfl, ⟨by rw [ht]; exact hC.1, va_K.moved hW.alike hK, hC.2.1⟩, by rw [ht]; exact hC.2.2.2⟩, hC.2.2.1.F ht⟩) hC.2.2.1.2.2 dX11_program_10
set_option maxHeartbeats 4000000 in
set_option maxRecDepth 100000 in
theorem c_X11_program (l : Launch) (dC : Nat → ClassId) (dI : Nat → Nat → Nat) (Q : CQ) (N : Nat) (σ : CS) (x1 : Int32) (R : Int32 × CS) (hf : f_X11_program N σ x1 = some R) : Met l yX11_program wzX11_program ({ frames := 1, cells := CS.hs R.2 - CS.hs σ, slots := 17 * (CS.hs R.2 - CS.hs σ), locals := 60 * 1 }) (va_Pc [.ref (Q.o 0), .int x1] (zPre dC dI (CS.hs σ) (cW Q σ) (cT Q))) (va_Qi (fun (r : Int32) (_ : Unit) => r = R.1) (fun (_ : Unit) (t : State) => zPost dC dI (va_A (cW Q σ) (CS.hs σ)) (cW Q R.2) (cT Q) t ∧ t.heap.size = CS.hs R.2) (va_A (cW Q σ) (CS.hs σ))) (CS.hs R.2 - CS.hs σ) (17 * (CS.hs R.2 - CS.hs σ)) (va_A (cW Q σ) (CS.hs σ)) := by
  refine Met.ofW (cc := cX11_program) (maxL := 2) (ret := (some .int)) (by decide) rfl ?_
  intro p e s m args below meth c s₁ B hml hv
  obtain ⟨rfl, hsz, hZ, hP, hK, hD0⟩ := hv
  have hx := B.exec
  have hb := B.bytes
  have hr := B.returns
  have hts := atoms_spec (ws := wzX11_program) B.pre
  have hown : s.vm.findClass RX11 = some m.cls := findClass_of_methodNamed B.named
  have hlocks := B.notSynchronized
  have hD := hD0.self (sz := CS.hs σ)
  generalize hAe : va_A (cW Q σ) (CS.hs σ) = A at hD ⊢
  have hA : ∀ q : Nat, s.heap.size ≤ q → A q := fun q h => by rw [← hAe]; exact Or.inr (hsz ▸ h)
  have hC : CP dC dI Q A s.heap σ s.heap [] := ⟨hP, hD, va_S.rf, hsz⟩
  have h0 : CS.hs σ ≤ CS.hs σ := Nat.le_refl _
  have hl := lv_entry ([.ref (Q.o 0), .int x1]) (n := 2) (Nat.le_of_ble_eq_true rfl)
  rw [lg_entry_eq]
  generalize (lg_sl ([.ref (Q.o 0), .int x1]) ++ List.replicate (2 - (lg_sl ([.ref (Q.o 0), .int x1])).length) Slot.unset).toArray = ls at hl ⊢
  have hl : lv_has ls 2 [(0, .ref (Q.o 0)), (1, .int x1)] := hl
  unfold f_X11_program at hf
  refine W.widen (k := CS.hs σ - CS.hs σ) (n := 17 * (CS.hs σ - CS.hs σ)) (Nat.zero_le _) (Nat.zero_le _) ?_
  refine lv_iload_n hx hb dX11_program_0 rfl (lv_at hl 1 rfl) ?_
  refine lv_if_lt (tgt := 9) hx hb dX11_program_1 (by decide) (fun c1 => ?_) (fun c1 => ?_)
  ·
    replace hf := (if_pos c1).symm.trans hf
    exact j_X11_program_9 l dC dI Q N (CS.hs σ) R hx hb hr hml hown hts hlocks hZ hA hK σ _ _ _ hf h0 hC (lv_sub hl [] rfl)
  ·
    replace hf := (if_neg c1).symm.trans hf
    refine lv_iload_n hx hb dX11_program_4 rfl (lv_at hl 1 rfl) ?_
    refine lv_iconst (v := 3) hx hb dX11_program_5 (by decide) ?_
    refine lv_icmp_le (tgt := 11) hx hb dX11_program_6 (by decide) (fun c2 => ?_) (fun c2 => ?_)
    ·
      replace hf := (if_pos c2).symm.trans hf
      refine lv_aload_n hx hb dX11_program_11 rfl (lv_at hl 0 rfl) ?_
      refine cG_7 (v := (σ.i 7)) hx hb hts i_X11_program_X11 hown hK hC (hts (.fieldLink RX11 94 "StatementRules2" "hasProgram" "Z") k_X11_program_fieldLink_RX11_94_SR_hasProgram_Z) (fun _ q9 => q9) dX11_program_12 rfl ?_
      refine lv_if_ne (tgt := 21) hx hb dX11_program_15 (by decide) (fun c3 => ?_) (fun c3 => ?_)
      ·
        replace hf := (if_neg c3).symm.trans hf
        refine lv_iload_n hx hb dX11_program_21 rfl (lv_at hl 1 rfl) ?_
        by_cases c4 : x1 = 0
        ·
          replace hf := (if_pos c4).symm.trans hf
          refine lv_tableIn (off := 26) (tgt := 48) hx hb dX11_program_22 (by rw [c4]; decide) (by rw [c4]; decide) (by rw [c4]; decide) (by decide) ?_
          refine lv_aload_n hx hb dX11_program_48 rfl (lv_at hl 0 rfl) ?_
          refine cG_2 hx hb hts i_X11_program_X11 hown hK hC (hts (.fieldLink RX11 23 "StatementRules2" "code" "LStatementRules2$Code;") k_X11_program_fieldLink_RX11_23_SR_code_LSR_Code) (fun _ q9 => q9) dX11_program_49 ?_
          refine cGN_24 (v := (σ.i 24)) hx hb hts i_X11_program_X0 hown hK hC (va_Nw.use rfl (hZ.1 (.fieldLinkNest RX11 97 "StatementRules2$Code" "statements" "I" "StatementRules2") (by decide +kernel))) (fun _ q9 => q9) dX11_program_52 rfl ?_
          obtain rfl := Option.some.inj hf
          exact W.iret (v := (σ.i 24)) hx hb hr (fun t ht hW => ⟨⟨(σ.i 24), (), rfl, rfl, ⟨by rw [ht]; exact hC.1, va_K.moved hW.alike hK, hC.2.1⟩, by rw [ht]; exact hC.2.2.2⟩, hC.2.2.1.F ht⟩) hC.2.2.1.2.2 dX11_program_55
        replace hf := (if_neg c4).symm.trans hf
        by_cases c5 : x1 = 1
        ·
          replace hf := (if_pos c5).symm.trans hf
          refine lv_tableIn (off := 34) (tgt := 56) hx hb dX11_program_22 (by rw [c5]; decide) (by rw [c5]; decide) (by rw [c5]; decide) (by decide) ?_
          refine lv_aload_n hx hb dX11_program_56 rfl (lv_at hl 0 rfl) ?_
          refine cG_2 hx hb hts i_X11_program_X11 hown hK hC (hts (.fieldLink RX11 23 "StatementRules2" "code" "LStatementRules2$Code;") k_X11_program_fieldLink_RX11_23_SR_code_LSR_Code) (fun _ q9 => q9) dX11_program_57 ?_
          refine cGN_27 (v := (σ.i 27)) hx hb hts i_X11_program_X0 hown hK hC (va_Nw.use rfl (hZ.1 (.fieldLinkNest RX11 103 "StatementRules2$Code" "endReached" "Z" "StatementRules2") (by decide +kernel))) (fun _ q9 => q9) dX11_program_60 rfl ?_
          refine lv_if_eq (tgt := 70) hx hb dX11_program_63 (by decide) (fun c6 => ?_) (fun c6 => ?_)
          ·
            replace hf := (if_pos c6).symm.trans hf
            refine lv_iconst (v := 0) hx hb dX11_program_70 (by decide) ?_
            obtain rfl := Option.some.inj hf
            exact W.iret (v := 0) hx hb hr (fun t ht hW => ⟨⟨0, (), rfl, rfl, ⟨by rw [ht]; exact hC.1, va_K.moved hW.alike hK, hC.2.1⟩, by rw [ht]; exact hC.2.2.2⟩, hC.2.2.1.F ht⟩) hC.2.2.1.2.2 dX11_program_71
          ·
            replace hf := (if_neg c6).symm.trans hf
            refine lv_iconst (v := 1) hx hb dX11_program_66 (by decide) ?_
            refine lv_goto (tgt := 71) hx hb dX11_program_67 (by decide) ?_
            obtain rfl := Option.some.inj hf
            exact W.iret (v := 1) hx hb hr (fun t ht hW => ⟨⟨1, (), rfl, rfl, ⟨by rw [ht]; exact hC.1, va_K.moved hW.alike hK, hC.2.1⟩, by rw [ht]; exact hC.2.2.2⟩, hC.2.2.1.F ht⟩) hC.2.2.1.2.2 dX11_program_71
        replace hf := (if_neg c5).symm.trans hf
        by_cases c7 : x1 = 2
        ·
          replace hf := (if_pos c7).symm.trans hf
          refine lv_tableIn (off := 50) (tgt := 72) hx hb dX11_program_22 (by rw [c7]; decide) (by rw [c7]; decide) (by rw [c7]; decide) (by decide) ?_
          refine lv_aload_n hx hb dX11_program_72 rfl (lv_at hl 0 rfl) ?_
          refine cG_2 hx hb hts i_X11_program_X11 hown hK hC (hts (.fieldLink RX11 23 "StatementRules2" "code" "LStatementRules2$Code;") k_X11_program_fieldLink_RX11_23_SR_code_LSR_Code) (fun _ q9 => q9) dX11_program_73 ?_
          refine cGN_25 (v := (σ.i 25)) hx hb hts i_X11_program_X0 hown hK hC (va_Nw.use rfl (hZ.1 (.fieldLinkNest RX11 106 "StatementRules2$Code" "toldNames" "I" "StatementRules2") (by decide +kernel))) (fun _ q9 => q9) dX11_program_76 rfl ?_
          obtain rfl := Option.some.inj hf
          exact W.iret (v := (σ.i 25)) hx hb hr (fun t ht hW => ⟨⟨(σ.i 25), (), rfl, rfl, ⟨by rw [ht]; exact hC.1, va_K.moved hW.alike hK, hC.2.1⟩, by rw [ht]; exact hC.2.2.2⟩, hC.2.2.1.F ht⟩) hC.2.2.1.2.2 dX11_program_79
        replace hf := (if_neg c7).symm.trans hf
        refine lv_tableOut (tgt := 80) hx hb dX11_program_22 (by have := z_ton (a := 0) c4 (by decide); have := z_ton (a := 1) c5 (by decide); have := z_ton (a := 2) c7 (by decide); omega) (by decide) ?_
        refine lv_aload_n hx hb dX11_program_80 rfl (lv_at hl 0 rfl) ?_
        refine cG_2 hx hb hts i_X11_program_X11 hown hK hC (hts (.fieldLink RX11 23 "StatementRules2" "code" "LStatementRules2$Code;") k_X11_program_fieldLink_RX11_23_SR_code_LSR_Code) (fun _ q9 => q9) dX11_program_81 ?_
        refine cGN_26 (v := (σ.i 26)) hx hb hts i_X11_program_X0 hown hK hC (va_Nw.use rfl (hZ.1 (.fieldLinkNest RX11 109 "StatementRules2$Code" "jumps" "I" "StatementRules2") (by decide +kernel))) (fun _ q9 => q9) dX11_program_84 rfl ?_
        obtain rfl := Option.some.inj hf
        exact W.iret (v := (σ.i 26)) hx hb hr (fun t ht hW => ⟨⟨(σ.i 26), (), rfl, rfl, ⟨by rw [ht]; exact hC.1, va_K.moved hW.alike hK, hC.2.1⟩, by rw [ht]; exact hC.2.2.2⟩, hC.2.2.1.F ht⟩) hC.2.2.1.2.2 dX11_program_87
      ·
        replace hf := (if_pos c3).symm.trans hf
        refine lv_bipush (v := (-3)) hx hb dX11_program_18 (by decide) ?_
        obtain rfl := Option.some.inj hf
        exact W.iret (v := (-3)) hx hb hr (fun t ht hW => ⟨⟨(-3), (), rfl, rfl, ⟨by rw [ht]; exact hC.1, va_K.moved hW.alike hK, hC.2.1⟩, by rw [ht]; exact hC.2.2.2⟩, hC.2.2.1.F ht⟩) hC.2.2.1.2.2 dX11_program_20
    ·
      replace hf := (if_neg c2).symm.trans hf
      exact j_X11_program_9 l dC dI Q N (CS.hs σ) R hx hb hr hml hown hts hlocks hZ hA hK σ _ _ _ hf h0 hC (lv_sub hl [] rfl)
theorem k_X11_run_fieldLink_RX11_94_SR_hasProgram_Z : Cond.fieldLink RX11 94 "StatementRules2" "hasProgram" "Z" ∈ wzX11_run := List.mem_cons_of_mem _ (List.mem_append_left _ (List.mem_of_getElem? (i := 0) rfl))
theorem i_X11_run_X11 : ∀ w ∈ wsX110, w ∈ wzX11_run := fun _ h => List.mem_cons_of_mem _ (List.mem_append_right _ (List.mem_append_left _ (h)))
theorem k_X11_run_fieldLink_RX11_85_SR_hasRun_Z : Cond.fieldLink RX11 85 "StatementRules2" "hasRun" "Z" ∈ wzX11_run := List.mem_cons_of_mem _ (List.mem_append_left _ (List.mem_of_getElem? (i := 1) rfl))
theorem k_X11_run_fieldLink_RX11_46_SR_machine_LSR_Machine : Cond.fieldLink RX11 46 "StatementRules2" "machine" "LStatementRules2$Machine;" ∈ wzX11_run := List.mem_cons_of_mem _ (List.mem_append_left _ (List.mem_of_getElem? (i := 2) rfl))
set_option maxHeartbeats 4000000 in
set_option maxRecDepth 100000 in
theorem c_X11_run (l : Launch) (dC : Nat → ClassId) (dI : Nat → Nat → Nat) (Q : CQ) (N : Nat) (σ : CS) (x1 : Int32) (x2 : Int32) (R : Int32 × CS) (hf : f_X11_run N σ x1 x2 = some R) : Met l yX11_run wzX11_run ({ frames := 8, cells := CS.hs R.2 - CS.hs σ, slots := 17 * (CS.hs R.2 - CS.hs σ), locals := 60 * 8 }) (va_Pc [.ref (Q.o 0), .int x1, .int x2] (zPre dC dI (CS.hs σ) (cW Q σ) (cT Q))) (va_Qi (fun (r : Int32) (_ : Unit) => r = R.1) (fun (_ : Unit) (t : State) => zPost dC dI (va_A (cW Q σ) (CS.hs σ)) (cW Q R.2) (cT Q) t ∧ t.heap.size = CS.hs R.2) (va_A (cW Q σ) (CS.hs σ))) (CS.hs R.2 - CS.hs σ) (17 * (CS.hs R.2 - CS.hs σ)) (va_A (cW Q σ) (CS.hs σ)) := by
  refine Met.ofW (cc := cX11_run) (maxL := 3) (ret := (some .int)) (by decide) rfl ?_
  intro p e s m args below meth c s₁ B hml hv
  obtain ⟨rfl, hsz, hZ, hP, hK, hD0⟩ := hv
  have hx := B.exec
  have hb := B.bytes
  have hr := B.returns
  have hts := atoms_spec (ws := wzX11_run) B.pre
  have hown : s.vm.findClass RX11 = some m.cls := findClass_of_methodNamed B.named
  have hlocks := B.notSynchronized
  have hD := hD0.self (sz := CS.hs σ)
  generalize hAe : va_A (cW Q σ) (CS.hs σ) = A at hD ⊢
  have hA : ∀ q : Nat, s.heap.size ≤ q → A q := fun q h => by rw [← hAe]; exact Or.inr (hsz ▸ h)
  have hC : CP dC dI Q A s.heap σ s.heap [] := ⟨hP, hD, va_S.rf, hsz⟩
  have h0 : CS.hs σ ≤ CS.hs σ := Nat.le_refl _
  have hl := lv_entry ([.ref (Q.o 0), .int x1, .int x2]) (n := 3) (Nat.le_of_ble_eq_true rfl)
  rw [lg_entry_eq]
  generalize (lg_sl ([.ref (Q.o 0), .int x1, .int x2]) ++ List.replicate (3 - (lg_sl ([.ref (Q.o 0), .int x1, .int x2])).length) Slot.unset).toArray = ls at hl ⊢
  have hl : lv_has ls 3 [(0, .ref (Q.o 0)), (1, .int x1), (2, .int x2)] := hl
  unfold f_X11_run at hf
  refine W.widen (k := CS.hs σ - CS.hs σ) (n := 17 * (CS.hs σ - CS.hs σ)) (Nat.zero_le _) (Nat.zero_le _) ?_
  refine lv_aload_n hx hb dX11_run_0 rfl (lv_at hl 0 rfl) ?_
  refine cG_7 (v := (σ.i 7)) hx hb hts i_X11_run_X11 hown hK hC (hts (.fieldLink RX11 94 "StatementRules2" "hasProgram" "Z") k_X11_run_fieldLink_RX11_94_SR_hasProgram_Z) (fun _ q9 => q9) dX11_run_1 rfl ?_
  refine lv_if_ne (tgt := 10) hx hb dX11_run_4 (by decide) (fun c1 => ?_) (fun c1 => ?_)
  ·
    replace hf := (if_neg c1).symm.trans hf
    refine lv_aload_n hx hb dX11_run_10 rfl (lv_at hl 0 rfl) ?_
    refine lv_iconst (v := 1) hx hb dX11_run_11 (by decide) ?_
    refine cP_8 (v := 1) hx hb hts i_X11_run_X11 hown hK hC (hts (.fieldLink RX11 85 "StatementRules2" "hasRun" "Z") k_X11_run_fieldLink_RX11_85_SR_hasRun_Z) (fun _ q9 => q9) dX11_run_12 (by decide) (fun H locs hC => ?_)
    refine lv_aload_n hx hb dX11_run_15 rfl (lv_at hl 0 rfl) ?_
    refine cG_4 hx hb hts i_X11_run_X11 hown hK hC (hts (.fieldLink RX11 46 "StatementRules2" "machine" "LStatementRules2$Machine;") k_X11_run_fieldLink_RX11_46_SR_machine_LSR_Machine) (fun _ q9 => q9) dX11_run_16 ?_
    refine lv_iload_n hx hb dX11_run_19 rfl (lv_at hl 1 rfl) ?_
    refine lv_iload_n hx hb dX11_run_20 rfl (lv_at hl 2 rfl) ?_
    obtain ⟨p2, hcp2, hf⟩ := hf_bind hf
    have mo3 : CS.hs σ ≤ CS.hs p2.2 := Mono.go hcp2 (m_X3_perform N (CS.setI σ 8 1) x1 x2)
    have hr9 : CS.hs p2.2 ≤ CS.hs R.2 := Mono.go hf (mono_some (Nat.le_refl _))
    have hFc := cFree hC hA
    refine va_calli (va_runV (As := [.int x1, .int x2]) (rest := []) ⟨hx, hb, hml, hown, hts⟩ (c_X3_perform l dC dI Q N (CS.setI σ 8 1) x1 x2 p2 hcp2) (cwV 2 hts hX11_run_X3_perform_v112 rfl rfl rfl (by decide +kernel) ⟨(show 7 + 1 ≤ 8 by omega), (show 8 + (4 + 11) + 60 * 7 ≤ 60 * 8 by omega)⟩) ⟨zPre.blind, va_recv hK hC.1 (ci := 2) (q0 := 7) rfl rfl, cPre_go hZ hK hC⟩ rfl rfl hl.1 rfl (lv_room (Nat.le_of_ble_eq_true rfl)) dX11_run_21 (cAcc h0 mo3 hr9)) hC.2.2.1 (fun q _ h => hFc q h) hFc (fun r4 u9 t9 H1 locs ht hvm hw hB hz1 hk1 hS => ?_)
    obtain ⟨⟨hP, hK1, hD1⟩, hsz1⟩ := hB
    rw [ht] at hP hsz1
    have hC : CP dC dI Q A s.heap p2.2 H1 locs := ⟨hP, hD1.weaken (fun _ _ _ h => hFc _ h), hS, hsz1⟩
    generalize H1 = H at hC ⊢
    have h5 : (CS.hs σ) ≤ CS.hs p2.2 := Nat.le_trans h0 mo3
    refine W.widen (k := CS.hs p2.2 - (CS.hs σ)) (n := 17 * (CS.hs p2.2 - (CS.hs σ))) (cAcc2 h0 mo3) (cAcc3 h0 mo3) ?_
    obtain rfl : r4 = p2.1 := hw
    obtain rfl := Option.some.inj hf
    exact W.iret (v := p2.1) hx hb hr (fun t ht hW => ⟨⟨p2.1, (), rfl, rfl, ⟨by rw [ht]; exact hC.1, va_K.moved hW.alike hK, hC.2.1⟩, by rw [ht]; exact hC.2.2.2⟩, hC.2.2.1.F ht⟩) hC.2.2.1.2.2 dX11_run_24
  ·
    replace hf := (if_pos c1).symm.trans hf
    refine lv_bipush (v := (-3)) hx hb dX11_run_7 (by decide) ?_
    obtain rfl := Option.some.inj hf
    exact W.iret (v := (-3)) hx hb hr (fun t ht hW => ⟨⟨(-3), (), rfl, rfl, ⟨by rw [ht]; exact hC.1, va_K.moved hW.alike hK, hC.2.1⟩, by rw [ht]; exact hC.2.2.2⟩, hC.2.2.1.F ht⟩) hC.2.2.1.2.2 dX11_run_9
theorem k_X11_ran_fieldLink_RX11_85_SR_hasRun_Z : Cond.fieldLink RX11 85 "StatementRules2" "hasRun" "Z" ∈ wzX11_ran := List.mem_cons_of_mem _ (List.mem_append_left _ (List.mem_of_getElem? (i := 0) rfl))
theorem i_X11_ran_X11 : ∀ w ∈ wsX110, w ∈ wzX11_ran := fun _ h => List.mem_cons_of_mem _ (List.mem_append_right _ (List.mem_append_left _ (h)))
theorem k_X11_ran_fieldLink_RX11_46_SR_machine_LSR_Machine : Cond.fieldLink RX11 46 "StatementRules2" "machine" "LStatementRules2$Machine;" ∈ wzX11_ran := List.mem_cons_of_mem _ (List.mem_append_left _ (List.mem_of_getElem? (i := 1) rfl))
set_option maxHeartbeats 4000000 in
set_option maxRecDepth 100000 in
theorem j_X11_ran_10 {p : Program} {e : Env} {s : State} {m : MethodId} {args : Array Value} {below : List Frame} {meth : Method} {c : Code} {A : Nat → Prop} (l : Launch) (dC : Nat → ClassId) (dI : Nat → Nat → Nat) (Q : CQ) (N : Nat) (z9h : Nat) (R : Int32 × CS) (hx : p.tables.exec = Jvm.exec) (hb : c.code = cX11_ran) (hr : meth.sig.returnType = (some .int)) (hml : c.maxLocals = 2) (hown : s.vm.findClass RX11 = some m.cls) (hts : ∀ w ∈ wzX11_ran, w.before args s = true) (hlocks : meth.locks = false) (hZ : zAMB s) (hA : ∀ q : Nat, s.heap.size ≤ q → A q) (hK : va_K (dC, dI) vwCl (cT Q) s) : ∀ (σ : CS) (H : Heap) (locs : List Loc) (ls : Array Slot), f_X11_ran_10 N σ = some R → z9h ≤ CS.hs σ → CP dC dI Q A s.heap σ H locs → lv_has ls 2 [] → W p l e ({ frames := 3, cells := CS.hs R.2 - z9h, slots := 17 * (CS.hs R.2 - z9h), locals := 60 * 3 }) s m args below meth c H locs (CS.hs σ - z9h) (17 * (CS.hs σ - z9h)) (MQ below (va_Qi (fun (r : Int32) (_ : Unit) => r = R.1) (fun (_ : Unit) (t : State) => zPost dC dI A (cW Q R.2) (cT Q) t ∧ t.heap.size = CS.hs R.2) A) args s (CS.hs R.2 - z9h) (17 * (CS.hs R.2 - z9h)) A) (F0 m 10 ls []) := by
  intro σ  H locs ls hf h0 hC hl
  unfold f_X11_ran_10 at hf
  refine lv_iconst (v := (-1)) hx hb dX11_ran_10 (by decide) ?_
  obtain rfl := Option.some.inj hf
  exact W.iret (v := (-1)) hx hb hr (fun t ht hW => ⟨⟨(-1), (), rfl, rfl, ⟨by rw [ht]; exact hC.1, va_K.moved hW.alike hK, hC.2.1⟩, by rw [ht]; exact hC.2.2.2⟩, hC.2.2.1.F ht⟩) hC.2.2.1.2.2 dX11_ran_11
set_option maxHeartbeats 4000000 in
set_option maxRecDepth 100000 in
theorem c_X11_ran (l : Launch) (dC : Nat → ClassId) (dI : Nat → Nat → Nat) (Q : CQ) (N : Nat) (σ : CS) (x1 : Int32) (R : Int32 × CS) (hf : f_X11_ran N σ x1 = some R) : Met l yX11_ran wzX11_ran ({ frames := 3, cells := CS.hs R.2 - CS.hs σ, slots := 17 * (CS.hs R.2 - CS.hs σ), locals := 60 * 3 }) (va_Pc [.ref (Q.o 0), .int x1] (zPre dC dI (CS.hs σ) (cW Q σ) (cT Q))) (va_Qi (fun (r : Int32) (_ : Unit) => r = R.1) (fun (_ : Unit) (t : State) => zPost dC dI (va_A (cW Q σ) (CS.hs σ)) (cW Q R.2) (cT Q) t ∧ t.heap.size = CS.hs R.2) (va_A (cW Q σ) (CS.hs σ))) (CS.hs R.2 - CS.hs σ) (17 * (CS.hs R.2 - CS.hs σ)) (va_A (cW Q σ) (CS.hs σ)) := by
  refine Met.ofW (cc := cX11_ran) (maxL := 2) (ret := (some .int)) (by decide) rfl ?_
  intro p e s m args below meth c s₁ B hml hv
  obtain ⟨rfl, hsz, hZ, hP, hK, hD0⟩ := hv
  have hx := B.exec
  have hb := B.bytes
  have hr := B.returns
  have hts := atoms_spec (ws := wzX11_ran) B.pre
  have hown : s.vm.findClass RX11 = some m.cls := findClass_of_methodNamed B.named
  have hlocks := B.notSynchronized
  have hD := hD0.self (sz := CS.hs σ)
  generalize hAe : va_A (cW Q σ) (CS.hs σ) = A at hD ⊢
  have hA : ∀ q : Nat, s.heap.size ≤ q → A q := fun q h => by rw [← hAe]; exact Or.inr (hsz ▸ h)
  have hC : CP dC dI Q A s.heap σ s.heap [] := ⟨hP, hD, va_S.rf, hsz⟩
  have h0 : CS.hs σ ≤ CS.hs σ := Nat.le_refl _
  have hl := lv_entry ([.ref (Q.o 0), .int x1]) (n := 2) (Nat.le_of_ble_eq_true rfl)
  rw [lg_entry_eq]
  generalize (lg_sl ([.ref (Q.o 0), .int x1]) ++ List.replicate (2 - (lg_sl ([.ref (Q.o 0), .int x1])).length) Slot.unset).toArray = ls at hl ⊢
  have hl : lv_has ls 2 [(0, .ref (Q.o 0)), (1, .int x1)] := hl
  unfold f_X11_ran at hf
  refine W.widen (k := CS.hs σ - CS.hs σ) (n := 17 * (CS.hs σ - CS.hs σ)) (Nat.zero_le _) (Nat.zero_le _) ?_
  refine lv_iload_n hx hb dX11_ran_0 rfl (lv_at hl 1 rfl) ?_
  refine lv_if_lt (tgt := 10) hx hb dX11_ran_1 (by decide) (fun c1 => ?_) (fun c1 => ?_)
  ·
    replace hf := (if_pos c1).symm.trans hf
    exact j_X11_ran_10 l dC dI Q N (CS.hs σ) R hx hb hr hml hown hts hlocks hZ hA hK σ _ _ _ hf h0 hC (lv_sub hl [] rfl)
  ·
    replace hf := (if_neg c1).symm.trans hf
    refine lv_iload_n hx hb dX11_ran_4 rfl (lv_at hl 1 rfl) ?_
    refine lv_bipush (v := 6) hx hb dX11_ran_5 (by decide) ?_
    refine lv_icmp_le (tgt := 12) hx hb dX11_ran_7 (by decide) (fun c2 => ?_) (fun c2 => ?_)
    ·
      replace hf := (if_pos c2).symm.trans hf
      refine lv_aload_n hx hb dX11_ran_12 rfl (lv_at hl 0 rfl) ?_
      refine cG_8 (v := (σ.i 8)) hx hb hts i_X11_ran_X11 hown hK hC (hts (.fieldLink RX11 85 "StatementRules2" "hasRun" "Z") k_X11_ran_fieldLink_RX11_85_SR_hasRun_Z) (fun _ q9 => q9) dX11_ran_13 rfl ?_
      refine lv_if_eq (tgt := 30) hx hb dX11_ran_16 (by decide) (fun c3 => ?_) (fun c3 => ?_)
      ·
        replace hf := (if_pos c3).symm.trans hf
        refine lv_bipush (v := (-3)) hx hb dX11_ran_30 (by decide) ?_
        obtain rfl := Option.some.inj hf
        exact W.iret (v := (-3)) hx hb hr (fun t ht hW => ⟨⟨(-3), (), rfl, rfl, ⟨by rw [ht]; exact hC.1, va_K.moved hW.alike hK, hC.2.1⟩, by rw [ht]; exact hC.2.2.2⟩, hC.2.2.1.F ht⟩) hC.2.2.1.2.2 dX11_ran_32
      ·
        replace hf := (if_neg c3).symm.trans hf
        refine lv_aload_n hx hb dX11_ran_19 rfl (lv_at hl 0 rfl) ?_
        refine cG_4 hx hb hts i_X11_ran_X11 hown hK hC (hts (.fieldLink RX11 46 "StatementRules2" "machine" "LStatementRules2$Machine;") k_X11_ran_fieldLink_RX11_46_SR_machine_LSR_Machine) (fun _ q9 => q9) dX11_ran_20 ?_
        refine lv_iload_n hx hb dX11_ran_23 rfl (lv_at hl 1 rfl) ?_
        obtain ⟨p4, hcp4, hf⟩ := hf_bind hf
        have mo5 : CS.hs σ ≤ CS.hs p4.2 := Mono.go hcp4 (m_X3_answer N σ x1)
        have hr9 : CS.hs p4.2 ≤ CS.hs R.2 := Mono.go hf (mono_some (Nat.le_refl _))
        have hFc := cFree hC hA
        refine va_calli (va_runV (As := [.int x1]) (rest := []) ⟨hx, hb, hml, hown, hts⟩ (c_X3_answer l dC dI Q N σ x1 p4 hcp4) (cwV 1 hts hX11_ran_X3_answer_v116 rfl rfl rfl (by decide +kernel) ⟨(show 2 + 1 ≤ 3 by omega), (show 8 + (3 + 11) + 60 * 2 ≤ 60 * 3 by omega)⟩) ⟨zPre.blind, va_recv hK hC.1 (ci := 2) (q0 := 7) rfl rfl, cPre_go hZ hK hC⟩ rfl rfl hl.1 rfl (lv_room (Nat.le_of_ble_eq_true rfl)) dX11_ran_24 (cAcc h0 mo5 hr9)) hC.2.2.1 (fun q _ h => hFc q h) hFc (fun r6 u9 t9 H1 locs ht hvm hw hB hz1 hk1 hS => ?_)
        obtain ⟨⟨hP, hK1, hD1⟩, hsz1⟩ := hB
        rw [ht] at hP hsz1
        have hC : CP dC dI Q A s.heap p4.2 H1 locs := ⟨hP, hD1.weaken (fun _ _ _ h => hFc _ h), hS, hsz1⟩
        generalize H1 = H at hC ⊢
        have h7 : (CS.hs σ) ≤ CS.hs p4.2 := Nat.le_trans h0 mo5
        refine W.widen (k := CS.hs p4.2 - (CS.hs σ)) (n := 17 * (CS.hs p4.2 - (CS.hs σ))) (cAcc2 h0 mo5) (cAcc3 h0 mo5) ?_
        obtain rfl : r6 = p4.1 := hw
        refine lv_goto (tgt := 32) hx hb dX11_ran_27 (by decide) ?_
        obtain rfl := Option.some.inj hf
        exact W.iret (v := p4.1) hx hb hr (fun t ht hW => ⟨⟨p4.1, (), rfl, rfl, ⟨by rw [ht]; exact hC.1, va_K.moved hW.alike hK, hC.2.1⟩, by rw [ht]; exact hC.2.2.2⟩, hC.2.2.1.F ht⟩) hC.2.2.1.2.2 dX11_ran_32
    ·
      replace hf := (if_neg c2).symm.trans hf
      exact j_X11_ran_10 l dC dI Q N (CS.hs σ) R hx hb hr hml hown hts hlocks hZ hA hK σ _ _ _ hf h0 hC (lv_sub hl [] rfl)
