theorem k_X3_leaveOne_fieldLink_RX3_60_SR_Machine_depth_I : Cond.fieldLink RX3 60 "StatementRules2$Machine" "depth" "I" ∈ wzX3_leaveOne := List.mem_cons_of_mem _ (List.mem_append_left _ (List.mem_of_getElem? (i := 0) rfl))
theorem i_X3_leaveOne_X3 : ∀ w ∈ wsX30, w ∈ wzX3_leaveOne := fun _ h => List.mem_cons_of_mem _ (List.mem_append_right _ (List.mem_append_left _ (h)))
theorem k_X3_leaveOne_fieldLink_RX3_235_SR_Machine_wayTarget_I : Cond.fieldLink RX3 235 "StatementRules2$Machine" "wayTarget" "I" ∈ wzX3_leaveOne := List.mem_cons_of_mem _ (List.mem_append_left _ (List.mem_of_getElem? (i := 1) rfl))
theorem i_X3_leaveOne_X2 : ∀ w ∈ wsX20, w ∈ wzX3_leaveOne := fun _ h => List.mem_cons_of_mem _ (List.mem_append_right _ (List.mem_append_right _ (List.mem_append_left _ (h))))
theorem k_X3_leaveOne_fieldLink_RX3_72_SR_Machine_taken_I : Cond.fieldLink RX3 72 "StatementRules2$Machine" "taken" "I" ∈ wzX3_leaveOne := List.mem_cons_of_mem _ (List.mem_append_left _ (List.mem_of_getElem? (i := 2) rfl))
theorem k_X3_leaveOne_fieldLink_RX3_40_SR_Machine_code_LSR_Code : Cond.fieldLink RX3 40 "StatementRules2$Machine" "code" "LStatementRules2$Code;" ∈ wzX3_leaveOne := List.mem_cons_of_mem _ (List.mem_append_left _ (List.mem_of_getElem? (i := 3) rfl))
theorem i_X3_leaveOne_X0 : ∀ w ∈ wsX00, w ∈ wzX3_leaveOne := fun _ h => List.mem_cons_of_mem _ (List.mem_append_right _ (List.mem_append_right _ (List.mem_append_right _ (List.mem_append_left _ (h)))))
theorem k_X3_leaveOne_initialized_RX11 : Cond.initialized RX11 ∈ wzX3_leaveOne := List.mem_cons_of_mem _ (List.mem_append_left _ (List.mem_of_getElem? (i := 4) rfl))
theorem k_X3_leaveOne_static_yX11_at : Cond.static yX11_at ∈ wzX3_leaveOne := List.mem_cons_of_mem _ (List.mem_append_left _ (List.mem_of_getElem? (i := 5) rfl))
set_option maxHeartbeats 4000000 in
set_option maxRecDepth 100000 in
theorem j_X3_leaveOne_29 {p : Program} {e : Env} {s : State} {m : MethodId} {args : Array Value} {below : List Frame} {meth : Method} {c : Code} {A : Nat → Prop} (l : Launch) (dC : Nat → ClassId) (dI : Nat → Nat → Nat) (Q : CQ) (N : Nat) (z9h : Nat) (R : Unit × CS) (hx : p.tables.exec = Jvm.exec) (hb : c.code = cX3_leaveOne) (hr : meth.sig.returnType = none) (hml : c.maxLocals = 2) (hown : s.vm.findClass RX3 = some m.cls) (hts : ∀ w ∈ wzX3_leaveOne, w.before args s = true) (hlocks : meth.locks = false) (hZ : zAMB s) (hA : ∀ q : Nat, s.heap.size ≤ q → A q) (hK : va_K (dC, dI) vwCl (cT Q) s) : ∀ (σ : CS) (H : Heap) (locs : List Loc) (ls : Array Slot), f_X3_leaveOne_29 N σ = some R → z9h ≤ CS.hs σ → CP dC dI Q A s.heap σ H locs → lv_has ls 2 [(0, .ref (Q.o 7))] → W p l e ({ frames := 6, cells := CS.hs R.2 - z9h, slots := 17 * (CS.hs R.2 - z9h), locals := 60 * 6 }) s m args below meth c H locs (CS.hs σ - z9h) (17 * (CS.hs σ - z9h)) (MQ below (va_Qv (fun (_ : Unit) => True) (fun (_ : Unit) (t : State) => zPost dC dI A (cW Q R.2) (cT Q) t ∧ t.heap.size = CS.hs R.2) A) args s (CS.hs R.2 - z9h) (17 * (CS.hs R.2 - z9h)) A) (F0 m 29 ls []) := by
  intro σ  H locs ls hf h0 hC hl
  unfold f_X3_leaveOne_29 at hf
  refine lv_aload_n hx hb dX3_leaveOne_29 rfl (lv_at hl 0 rfl) ?_
  obtain ⟨p7, hcp7, hf⟩ := hf_bind hf
  have hm8 : CS.hs σ ≤ CS.hs p7.2 := Mono.go hcp7 (m_X3_arrive N σ)
  have hr9 : CS.hs p7.2 ≤ CS.hs R.2 := Mono.go hf (mono_some (Nat.le_refl _))
  have hFc := cFree hC hA
  refine va_callv (va_runV (As := []) (rest := []) ⟨hx, hb, hml, hown, hts⟩ (c_X3_arrive l dC dI Q N σ p7 hcp7) (cwV 0 hts hX3_leaveOne_X3_arrive_v249 rfl rfl rfl (by decide +kernel) ⟨(show 3 + 1 ≤ 6 by omega), (show 8 + (1 + 11) + 60 * 3 ≤ 60 * 6 by omega)⟩) ⟨zPre.blind, va_recv hK hC.1 (ci := 2) (q0 := 7) rfl rfl, cPre_go hZ hK hC⟩ rfl rfl hl.1 rfl (lv_room (Nat.le_of_ble_eq_true rfl)) dX3_leaveOne_30 (cAcc h0 hm8 hr9)) hC.2.2.1 (fun q _ h => hFc q h) hFc (fun u9 t9 H1 locs ht hvm hw hB hz1 hk1 hS => ?_)
  obtain ⟨⟨hP, hK1, hD1⟩, hsz1⟩ := hB
  rw [ht] at hP hsz1
  have hC : CP dC dI Q A s.heap p7.2 H1 locs := ⟨hP, hD1.weaken (fun _ _ _ h => hFc _ h), hS, hsz1⟩
  generalize H1 = H at hC ⊢
  have h10 : z9h ≤ CS.hs p7.2 := Nat.le_trans h0 hm8
  refine W.widen (k := CS.hs p7.2 - z9h) (n := 17 * (CS.hs p7.2 - z9h)) (cAcc2 h0 hm8) (cAcc3 h0 hm8) ?_
  refine lv_goto (tgt := 123) hx hb dX3_leaveOne_33 (by decide) ?_
  obtain rfl := Option.some.inj hf
  exact W.vret hx hb hr (fun t ht hW => ⟨⟨(), rfl, trivial, ⟨by rw [ht]; exact hC.1, va_K.moved hW.alike hK, hC.2.1⟩, by rw [ht]; exact hC.2.2.2⟩, hC.2.2.1.F ht⟩) hC.2.2.1.2.2 dX3_leaveOne_123
set_option maxHeartbeats 4000000 in
set_option maxRecDepth 100000 in
theorem j_X3_leaveOne_113 {p : Program} {e : Env} {s : State} {m : MethodId} {args : Array Value} {below : List Frame} {meth : Method} {c : Code} {A : Nat → Prop} (l : Launch) (dC : Nat → ClassId) (dI : Nat → Nat → Nat) (Q : CQ) (N : Nat) (z9h : Nat) (R : Unit × CS) (hx : p.tables.exec = Jvm.exec) (hb : c.code = cX3_leaveOne) (hr : meth.sig.returnType = none) (hml : c.maxLocals = 2) (hown : s.vm.findClass RX3 = some m.cls) (hts : ∀ w ∈ wzX3_leaveOne, w.before args s = true) (hlocks : meth.locks = false) (hZ : zAMB s) (hA : ∀ q : Nat, s.heap.size ≤ q → A q) (hK : va_K (dC, dI) vwCl (cT Q) s) : ∀ (σ : CS) (H : Heap) (locs : List Loc) (ls : Array Slot), f_X3_leaveOne_113 N σ = some R → z9h ≤ CS.hs σ → CP dC dI Q A s.heap σ H locs → lv_has ls 2 [(0, .ref (Q.o 7))] → W p l e ({ frames := 6, cells := CS.hs R.2 - z9h, slots := 17 * (CS.hs R.2 - z9h), locals := 60 * 6 }) s m args below meth c H locs (CS.hs σ - z9h) (17 * (CS.hs σ - z9h)) (MQ below (va_Qv (fun (_ : Unit) => True) (fun (_ : Unit) (t : State) => zPost dC dI A (cW Q R.2) (cT Q) t ∧ t.heap.size = CS.hs R.2) A) args s (CS.hs R.2 - z9h) (17 * (CS.hs R.2 - z9h)) A) (F0 m 113 ls []) := by
  intro σ  H locs ls hf h0 hC hl
  unfold f_X3_leaveOne_113 at hf
  refine lv_aload_n hx hb dX3_leaveOne_113 rfl (lv_at hl 0 rfl) ?_
  refine lv_dup hx hb dX3_leaveOne_114 rfl ?_
  refine cG_67 (v := (σ.i 67)) hx hb hts i_X3_leaveOne_X3 hown hK hC (hts (.fieldLink RX3 60 "StatementRules2$Machine" "depth" "I") k_X3_leaveOne_fieldLink_RX3_60_SR_Machine_depth_I) (fun _ q9 => q9) dX3_leaveOne_115 rfl ?_
  refine lv_iconst (v := 1) hx hb dX3_leaveOne_118 (by decide) ?_
  refine lv_isub hx hb dX3_leaveOne_119 ?_
  refine cP_67 (v := ((σ.i 67) - 1)) hx hb hts i_X3_leaveOne_X3 hown hK hC (hts (.fieldLink RX3 60 "StatementRules2$Machine" "depth" "I") k_X3_leaveOne_fieldLink_RX3_60_SR_Machine_depth_I) (fun _ q9 => q9) dX3_leaveOne_120 (fun H locs hC => ?_)
  obtain rfl := Option.some.inj hf
  exact W.vret hx hb hr (fun t ht hW => ⟨⟨(), rfl, trivial, ⟨by rw [ht]; exact hC.1, va_K.moved hW.alike hK, hC.2.1⟩, by rw [ht]; exact hC.2.2.2⟩, hC.2.2.1.F ht⟩) hC.2.2.1.2.2 dX3_leaveOne_123
set_option maxHeartbeats 4000000 in
set_option maxRecDepth 100000 in
theorem j_X3_leaveOne_87 {p : Program} {e : Env} {s : State} {m : MethodId} {args : Array Value} {below : List Frame} {meth : Method} {c : Code} {A : Nat → Prop} (l : Launch) (dC : Nat → ClassId) (dI : Nat → Nat → Nat) (Q : CQ) (N : Nat) (z9h : Nat) (R : Unit × CS) (hx : p.tables.exec = Jvm.exec) (hb : c.code = cX3_leaveOne) (hr : meth.sig.returnType = none) (hml : c.maxLocals = 2) (hown : s.vm.findClass RX3 = some m.cls) (hts : ∀ w ∈ wzX3_leaveOne, w.before args s = true) (hlocks : meth.locks = false) (hZ : zAMB s) (hA : ∀ q : Nat, s.heap.size ≤ q → A q) (hK : va_K (dC, dI) vwCl (cT Q) s) : ∀ (σ : CS) (x1 : Nat) (H : Heap) (locs : List Loc) (ls : Array Slot), f_X3_leaveOne_87 N σ x1 = some R → z9h ≤ CS.hs σ → CP dC dI Q A s.heap σ H locs → lv_has ls 2 [(0, .ref (Q.o 7)), (1, .ref x1)] → W p l e ({ frames := 6, cells := CS.hs R.2 - z9h, slots := 17 * (CS.hs R.2 - z9h), locals := 60 * 6 }) s m args below meth c H locs (CS.hs σ - z9h) (17 * (CS.hs σ - z9h)) (MQ below (va_Qv (fun (_ : Unit) => True) (fun (_ : Unit) (t : State) => zPost dC dI A (cW Q R.2) (cT Q) t ∧ t.heap.size = CS.hs R.2) A) args s (CS.hs R.2 - z9h) (17 * (CS.hs R.2 - z9h)) A) (F0 m 87 ls []) := by
  intro σ x1 H locs ls hf h0 hC hl
  unfold f_X3_leaveOne_87 at hf
  refine lv_aload_n hx hb dX3_leaveOne_87 rfl (lv_at hl 1 rfl) ?_
  obtain ⟨b15, hf⟩ := hf_ite hf
  refine pGN_X2_0 (v := (CS.o σ x1 0)) hx hb hts i_X3_leaveOne_X2 hown hK hC (va_Nw.use rfl (hZ.1 (.fieldLinkNest RX3 194 "StatementRules2$Frame" "phase" "I" "StatementRules2") (by decide +kernel))) (fun _ q9 => q9) dX3_leaveOne_88 b15 rfl ?_
  refine lv_if_ne (tgt := 113) hx hb dX3_leaveOne_91 (by decide) (fun c16 => ?_) (fun c16 => ?_)
  ·
    replace hf := (if_neg c16).symm.trans hf
    exact j_X3_leaveOne_113 l dC dI Q N z9h R hx hb hr hml hown hts hlocks hZ hA hK σ _ _ _ hf h0 hC (lv_sub hl [0] rfl)
  ·
    replace hf := (if_pos c16).symm.trans hf
    refine lv_aload_n hx hb dX3_leaveOne_94 rfl (lv_at hl 0 rfl) ?_
    refine lv_dup hx hb dX3_leaveOne_95 rfl ?_
    refine cG_71 (v := (σ.i 71)) hx hb hts i_X3_leaveOne_X3 hown hK hC (hts (.fieldLink RX3 72 "StatementRules2$Machine" "taken" "I") k_X3_leaveOne_fieldLink_RX3_72_SR_Machine_taken_I) (fun _ q9 => q9) dX3_leaveOne_96 rfl ?_
    refine lv_iconst (v := 1) hx hb dX3_leaveOne_99 (by decide) ?_
    refine lv_isub hx hb dX3_leaveOne_100 ?_
    refine cP_71 (v := ((σ.i 71) - 1)) hx hb hts i_X3_leaveOne_X3 hown hK hC (hts (.fieldLink RX3 72 "StatementRules2$Machine" "taken" "I") k_X3_leaveOne_fieldLink_RX3_72_SR_Machine_taken_I) (fun _ q9 => q9) dX3_leaveOne_101 (fun H locs hC => ?_)
    refine lv_aload_n hx hb dX3_leaveOne_104 rfl (lv_at hl 0 rfl) ?_
    refine lv_iconst (v := 4) hx hb dX3_leaveOne_105 (by decide) ?_
    refine lv_aload_n hx hb dX3_leaveOne_106 rfl (lv_at hl 1 rfl) ?_
    refine pGN_X2_1 (v := (CS.o (CS.setI σ 71 ((σ.i 71) - 1)) x1 1)) hx hb hts i_X3_leaveOne_X2 hown hK hC (va_Nw.use rfl (hZ.1 (.fieldLinkNest RX3 197 "StatementRules2$Frame" "argument" "I" "StatementRules2") (by decide +kernel))) (fun _ q9 => q9) dX3_leaveOne_107 b15 rfl ?_
    obtain ⟨p17, hcp17, hf⟩ := hf_bind hf
    have hm18 : CS.hs σ ≤ CS.hs p17.2 := Mono.go hcp17 (m_X3_note N (CS.setI σ 71 ((σ.i 71) - 1)) 4 (CS.o (CS.setI σ 71 ((σ.i 71) - 1)) x1 1))
    have hr9 : CS.hs p17.2 ≤ CS.hs R.2 := Mono.go hf (m_X3_leaveOne_113 N p17.2)
    have hFc := cFree hC hA
    refine va_callv (va_runV (As := [.int 4, .int (CS.o (CS.setI σ 71 ((σ.i 71) - 1)) x1 1)]) (rest := []) ⟨hx, hb, hml, hown, hts⟩ (c_X3_note l dC dI Q N (CS.setI σ 71 ((σ.i 71) - 1)) 4 (CS.o (CS.setI σ 71 ((σ.i 71) - 1)) x1 1) p17 hcp17) (cwV 2 hts hX3_leaveOne_X3_note_v178 rfl rfl rfl (by decide +kernel) ⟨(show 2 + 1 ≤ 6 by omega), (show 8 + (3 + 11) + 60 * 2 ≤ 60 * 6 by omega)⟩) ⟨zPre.blind, va_recv hK hC.1 (ci := 2) (q0 := 7) rfl rfl, cPre_go hZ hK hC⟩ rfl rfl hl.1 rfl (lv_room (Nat.le_of_ble_eq_true rfl)) dX3_leaveOne_110 (cAcc h0 hm18 hr9)) hC.2.2.1 (fun q _ h => hFc q h) hFc (fun u9 t9 H1 locs ht hvm hw hB hz1 hk1 hS => ?_)
    obtain ⟨⟨hP, hK1, hD1⟩, hsz1⟩ := hB
    rw [ht] at hP hsz1
    have hC : CP dC dI Q A s.heap p17.2 H1 locs := ⟨hP, hD1.weaken (fun _ _ _ h => hFc _ h), hS, hsz1⟩
    generalize H1 = H at hC ⊢
    have h20 : z9h ≤ CS.hs p17.2 := Nat.le_trans h0 hm18
    refine W.widen (k := CS.hs p17.2 - z9h) (n := 17 * (CS.hs p17.2 - z9h)) (cAcc2 h0 hm18) (cAcc3 h0 hm18) ?_
    exact j_X3_leaveOne_113 l dC dI Q N z9h R hx hb hr hml hown hts hlocks hZ hA hK p17.2 _ _ _ hf h20 hC (lv_sub hl [0] rfl)
set_option maxHeartbeats 4000000 in
set_option maxRecDepth 100000 in
theorem c_X3_leaveOne (l : Launch) (dC : Nat → ClassId) (dI : Nat → Nat → Nat) (Q : CQ) (N : Nat) (σ : CS) (R : Unit × CS) (hf : f_X3_leaveOne N σ = some R) : Met l yX3_leaveOne wzX3_leaveOne ({ frames := 6, cells := CS.hs R.2 - CS.hs σ, slots := 17 * (CS.hs R.2 - CS.hs σ), locals := 60 * 6 }) (va_Pc [.ref (Q.o 7)] (zPre dC dI (CS.hs σ) (cW Q σ) (cT Q))) (va_Qv (fun (_ : Unit) => True) (fun (_ : Unit) (t : State) => zPost dC dI (va_A (cW Q σ) (CS.hs σ)) (cW Q R.2) (cT Q) t ∧ t.heap.size = CS.hs R.2) (va_A (cW Q σ) (CS.hs σ))) (CS.hs R.2 - CS.hs σ) (17 * (CS.hs R.2 - CS.hs σ)) (va_A (cW Q σ) (CS.hs σ)) := by
  refine Met.ofW (cc := cX3_leaveOne) (maxL := 2) (ret := none) (by decide) rfl ?_
  intro p e s m args below meth c s₁ B hml hv
  obtain ⟨rfl, hsz, hZ, hP, hK, hD0⟩ := hv
  have hx := B.exec
  have hb := B.bytes
  have hr := B.returns
  have hts := atoms_spec (ws := wzX3_leaveOne) B.pre
  have hown : s.vm.findClass RX3 = some m.cls := findClass_of_methodNamed B.named
  have hlocks := B.notSynchronized
  have hD := hD0.self (sz := CS.hs σ)
  generalize hAe : va_A (cW Q σ) (CS.hs σ) = A at hD ⊢
  have hA : ∀ q : Nat, s.heap.size ≤ q → A q := fun q h => by rw [← hAe]; exact Or.inr (hsz ▸ h)
  have hC : CP dC dI Q A s.heap σ s.heap [] := ⟨hP, hD, va_S.rf, hsz⟩
  have h0 : CS.hs σ ≤ CS.hs σ := Nat.le_refl _
  have hl := lv_entry ([.ref (Q.o 7)]) (n := 2) (Nat.le_of_ble_eq_true rfl)
  rw [lg_entry_eq]
  generalize (lg_sl ([.ref (Q.o 7)]) ++ List.replicate (2 - (lg_sl ([.ref (Q.o 7)])).length) Slot.unset).toArray = ls at hl ⊢
  have hl : lv_has ls 2 [(0, .ref (Q.o 7))] := hl
  unfold f_X3_leaveOne at hf
  refine W.widen (k := CS.hs σ - CS.hs σ) (n := 17 * (CS.hs σ - CS.hs σ)) (Nat.zero_le _) (Nat.zero_le _) ?_
  refine lv_aload_n hx hb dX3_leaveOne_0 rfl (lv_at hl 0 rfl) ?_
  refine lv_aload_n hx hb dX3_leaveOne_1 rfl (lv_at hl 0 rfl) ?_
  refine cG_67 (v := (σ.i 67)) hx hb hts i_X3_leaveOne_X3 hown hK hC (hts (.fieldLink RX3 60 "StatementRules2$Machine" "depth" "I") k_X3_leaveOne_fieldLink_RX3_60_SR_Machine_depth_I) (fun _ q9 => q9) dX3_leaveOne_2 rfl ?_
  refine lv_iconst (v := 1) hx hb dX3_leaveOne_5 (by decide) ?_
  refine lv_isub hx hb dX3_leaveOne_6 ?_
  obtain ⟨p1, hcp1, hf⟩ := hf_bind hf
  have hm2 : CS.hs σ ≤ CS.hs p1.2 := Mono.go hcp1 (m_X3_frame N σ ((σ.i 67) - 1))
  have hr9 : CS.hs p1.2 ≤ CS.hs R.2 := Mono.go hf (mono_oc (m_X3_leaveOne_29 N p1.2) (fun a6 => (mono_ite (mono_ite (mono_ite (mono_bind (m_X3_leaveBody N p1.2 a6) (fun p27 => (mono_some (Nat.le_refl _)))) (mono_ite (mono_ite (m_X3_leaveOne_87 N p1.2 a6) (mono_bind (m_X3_enterFinally N p1.2 a6) (fun p23 => (mono_some (Nat.le_refl _))))) (m_X3_leaveOne_87 N p1.2 a6))) mono_none) (m_X3_leaveOne_29 N p1.2))))
  have hFc := cFree hC hA
  refine va_callq (va_runV (As := [.int ((σ.i 67) - 1)]) (rest := []) ⟨hx, hb, hml, hown, hts⟩ (c_X3_frame l dC dI Q N σ ((σ.i 67) - 1) p1 hcp1) (cwV 1 hts hX3_leaveOne_X3_frame_v216 rfl rfl rfl (by decide +kernel) ⟨(show 1 + 1 ≤ 6 by omega), (show 8 + (2 + 11) + 60 * 1 ≤ 60 * 6 by omega)⟩) ⟨zPre.blind, va_recv hK hC.1 (ci := 2) (q0 := 7) rfl rfl, cPre_go hZ hK hC⟩ rfl rfl hl.1 rfl (lv_room (Nat.le_of_ble_eq_true rfl)) dX3_leaveOne_7 (cAcc h0 hm2 hr9)) hC.2.2.1 (fun q _ h => hFc q h) hFc (fun r3 u9 t9 H1 locs ht hvm hw hB hz1 hk1 hS => ?_)
  obtain ⟨⟨hP, hK1, hD1⟩, hsz1⟩ := hB
  rw [ht] at hP hsz1
  have hC : CP dC dI Q A s.heap p1.2 H1 locs := ⟨hP, hD1.weaken (fun _ _ _ h => hFc _ h), hS, hsz1⟩
  generalize H1 = H at hC ⊢
  have h4 : (CS.hs σ) ≤ CS.hs p1.2 := Nat.le_trans h0 hm2
  refine W.widen (k := CS.hs p1.2 - (CS.hs σ)) (n := 17 * (CS.hs p1.2 - (CS.hs σ))) (cAcc2 h0 hm2) (cAcc3 h0 hm2) ?_
  obtain rfl : r3 = p1.1 := hw
  rcases hf_oc hf with ⟨q5, hf⟩ | ⟨a6, q5, hf⟩
  ·
    refine W.eq (congrArg (fun v9 => F0 m 10 ls (va_rf v9 :: [])) q5) ?_
    refine W.eq (g2 := F0 m 10 ls (.null :: [])) rfl ?_
    refine lv_astore_nN (lv' := [(1, .null), (0, .ref (Q.o 7))]) hx hb dX3_leaveOne_10 rfl hl (by decide) rfl (fun ls hl => ?_)
    refine lv_aload_nN hx hb dX3_leaveOne_11 rfl (lv_at hl 0 rfl) ?_
    refine lv_ifnullN (tgt := 29) hx hb dX3_leaveOne_12 (by decide) ?_
    exact j_X3_leaveOne_29 l dC dI Q N (CS.hs σ) R hx hb hr hml hown hts hlocks hZ hA hK p1.2 _ _ _ hf h4 hC (lv_sub hl [1] rfl)
  ·
    refine W.eq (congrArg (fun v9 => F0 m 10 ls (va_rf v9 :: [])) q5) ?_
    refine W.eq (g2 := F0 m 10 ls (.ref a6 :: [])) rfl ?_
    refine lv_astore_n (lv' := [(1, .ref a6), (0, .ref (Q.o 7))]) hx hb dX3_leaveOne_10 rfl hl (by decide) rfl (fun ls hl => ?_)
    refine lv_aload_n hx hb dX3_leaveOne_11 rfl (lv_at hl 0 rfl) ?_
    refine lv_ifnull hx hb dX3_leaveOne_12 ?_
    refine lv_aload_n hx hb dX3_leaveOne_15 rfl (lv_at hl 1 rfl) ?_
    refine cG_67 (v := (p1.2.i 67)) hx hb hts i_X3_leaveOne_X3 hown hK hC (hts (.fieldLink RX3 60 "StatementRules2$Machine" "depth" "I") k_X3_leaveOne_fieldLink_RX3_60_SR_Machine_depth_I) (fun _ q9 => q9) dX3_leaveOne_16 rfl ?_
    refine lv_aload_n hx hb dX3_leaveOne_19 rfl (lv_at hl 1 rfl) ?_
    refine cG_75 (v := (p1.2.i 75)) hx hb hts i_X3_leaveOne_X3 hown hK hC (hts (.fieldLink RX3 235 "StatementRules2$Machine" "wayTarget" "I") k_X3_leaveOne_fieldLink_RX3_235_SR_Machine_wayTarget_I) (fun _ q9 => q9) dX3_leaveOne_20 rfl ?_
    refine lv_bipush (v := 32) hx hb dX3_leaveOne_23 (by decide) ?_
    refine lv_irem hx hb dX3_leaveOne_25 (by decide) ?_
    refine lv_icmp_gt (tgt := 36) hx hb dX3_leaveOne_26 (by decide) (fun c11 => ?_) (fun c11 => ?_)
    ·
      replace hf := (if_pos c11).symm.trans hf
      refine lv_aload_n hx hb dX3_leaveOne_36 rfl (lv_at hl 0 rfl) ?_
      obtain ⟨b12, hf⟩ := hf_ite hf
      refine pGN_X2_0 (v := (CS.o p1.2 a6 0)) hx hb hts i_X3_leaveOne_X2 hown hK hC (va_Nw.use rfl (hZ.1 (.fieldLinkNest RX3 194 "StatementRules2$Frame" "phase" "I" "StatementRules2") (by decide +kernel))) (fun _ q9 => q9) dX3_leaveOne_37 b12 rfl ?_
      refine lv_iconst (v := 1) hx hb dX3_leaveOne_40 (by decide) ?_
      refine lv_icmp_ne (tgt := 52) hx hb dX3_leaveOne_41 (by decide) (fun c13 => ?_) (fun c13 => ?_)
      ·
        replace hf := (if_neg c13).symm.trans hf
        refine lv_aload_n hx hb dX3_leaveOne_52 rfl (lv_at hl 0 rfl) ?_
        refine pGN_X2_0 (v := (CS.o p1.2 a6 0)) hx hb hts i_X3_leaveOne_X2 hown hK hC (va_Nw.use rfl (hZ.1 (.fieldLinkNest RX3 194 "StatementRules2$Frame" "phase" "I" "StatementRules2") (by decide +kernel))) (fun _ q9 => q9) dX3_leaveOne_53 b12 rfl ?_
        refine lv_iconst (v := 2) hx hb dX3_leaveOne_56 (by decide) ?_
        refine lv_icmp_ne (tgt := 87) hx hb dX3_leaveOne_57 (by decide) (fun c14 => ?_) (fun c14 => ?_)
        ·
          replace hf := (if_neg c14).symm.trans hf
          exact j_X3_leaveOne_87 l dC dI Q N (CS.hs σ) R hx hb hr hml hown hts hlocks hZ hA hK p1.2 a6 _ _ _ hf h4 hC (lv_sub hl [1, 0] rfl)
        ·
          replace hf := (if_pos c14).symm.trans hf
          refine lv_aload_n hx hb dX3_leaveOne_60 rfl (lv_at hl 1 rfl) ?_
          refine cG_58 hx hb hts i_X3_leaveOne_X3 hown hK hC (hts (.fieldLink RX3 40 "StatementRules2$Machine" "code" "LStatementRules2$Code;") k_X3_leaveOne_fieldLink_RX3_40_SR_Machine_code_LSR_Code) (fun _ q9 => q9) dX3_leaveOne_61 ?_
          refine cGN_17 hx hb hts i_X3_leaveOne_X0 hown hK hC (va_Nw.use rfl (hZ.1 (.fieldLinkNest RX3 153 "StatementRules2$Code" "targets" "[I" "StatementRules2") (by decide +kernel))) (fun _ q9 => q9) dX3_leaveOne_64 ?_
          refine lv_aload_n hx hb dX3_leaveOne_67 rfl (lv_at hl 0 rfl) ?_
          refine pGN_X2_1 (v := (CS.o p1.2 a6 1)) hx hb hts i_X3_leaveOne_X2 hown hK hC (va_Nw.use rfl (hZ.1 (.fieldLinkNest RX3 197 "StatementRules2$Frame" "argument" "I" "StatementRules2") (by decide +kernel))) (fun _ q9 => q9) dX3_leaveOne_68 b12 rfl ?_
          refine lv_iconst (v := 1) hx hb dX3_leaveOne_71 (by decide) ?_
          refine lv_iadd hx hb dX3_leaveOne_72 ?_
          have he9 := (show (cW Q p1.2)[15]? = some (Q.q 17, .inl (Q.c 0, 1024, .inl (p1.2.a 17))) from rfl)
          have hFc := cFree1 hC hA he9
          have hr9 : CS.hs p1.2 ≤ CS.hs R.2 := Mono.go hf (mono_ite (m_X3_leaveOne_87 N p1.2 a6) (mono_bind (m_X3_enterFinally N p1.2 a6) (fun p23 => (mono_some (Nat.le_refl _)))))
          refine va_calli (va_runSN (As := [.ref (Q.q 17), .int ((CS.o p1.2 a6 1) + 1)]) (rest := []) ⟨hx, hb, hml, hown, hts⟩ (c_X11_at l dC dI _ (Q.q 17) (Q.c 0) 1024 (p1.2.a 17) ((CS.o p1.2 a6 1) + 1) (by decide)) ⟨va_cnB 2 hts hX3_leaveOne_X11_at_n111 rfl rfl rfl (hZ.1 (.methodLinkNest RX3 111 yX11_at "StatementRules2") (by decide +kernel)) (hts (.initialized RX11) k_X3_leaveOne_initialized_RX11) (by decide +kernel) ⟨(show 1 + 1 ≤ 6 by omega), (show 8 + (2 + 11) + 60 * 1 ≤ 60 * 6 by omega)⟩, (hts (.static yX11_at) k_X3_leaveOne_static_yX11_at), trivial⟩ ⟨zPre.blind, zPre.go hZ (cOne hC.1 he9) (hK.sub (tys' := [(Q.c 0, .int)]) [0] rfl) (cOneD hC.2.1 he9)⟩ rfl rfl hl.1 rfl (lv_room (Nat.le_of_ble_eq_true rfl)) dX3_leaveOne_73 ⟨cAcc4 h4 hr9, cAcc5 h4 hr9⟩) hC.2.2.1 (fun q _ h => hFc q h) hFc (fun r21 u9 t9 H1 locs ht hvm hw hB hz1 hk1 hS => ?_)
          obtain ⟨⟨hP1, hK1, hD1⟩, hsz1⟩ := hB
          rw [ht] at hP1 hsz1
          have hC := cBack (σ' := p1.2) hC he9 (cSelf he9) rfl hk1 hP1 hsz1 hS
          generalize H1 = H at hC ⊢
          obtain rfl : r21 = (gAt (p1.2.a 17) 1024 ((CS.o p1.2 a6 1) + 1)) := hw
          refine lv_if_lt (tgt := 87) hx hb dX3_leaveOne_76 (by decide) (fun c22 => ?_) (fun c22 => ?_)
          ·
            replace hf := (if_pos c22).symm.trans hf
            exact j_X3_leaveOne_87 l dC dI Q N (CS.hs σ) R hx hb hr hml hown hts hlocks hZ hA hK p1.2 a6 _ _ _ hf h4 hC (lv_sub hl [1, 0] rfl)
          ·
            replace hf := (if_neg c22).symm.trans hf
            refine lv_aload_n hx hb dX3_leaveOne_79 rfl (lv_at hl 1 rfl) ?_
            refine lv_aload_n hx hb dX3_leaveOne_80 rfl (lv_at hl 0 rfl) ?_
            obtain ⟨p23, hcp23, hf⟩ := hf_bind hf
            have hm24 : CS.hs p1.2 ≤ CS.hs p23.2 := Mono.go hcp23 (m_X3_enterFinally N p1.2 a6)
            have hr9 : CS.hs p23.2 ≤ CS.hs R.2 := Mono.go hf (mono_some (Nat.le_refl _))
            have hFc := cFree hC hA
            refine va_callv (va_runV (As := [.ref a6]) (rest := []) ⟨hx, hb, hml, hown, hts⟩ (c_X3_enterFinally l dC dI Q N p1.2 a6 p23 hcp23) (cwV 1 hts hX3_leaveOne_X3_enterFinally_v255 rfl rfl rfl (by decide +kernel) ⟨(show 3 + 1 ≤ 6 by omega), (show 8 + (2 + 11) + 60 * 3 ≤ 60 * 6 by omega)⟩) ⟨zPre.blind, va_recv hK hC.1 (ci := 2) (q0 := 7) rfl rfl, cPre_go hZ hK hC⟩ rfl rfl hl.1 rfl (lv_room (Nat.le_of_ble_eq_true rfl)) dX3_leaveOne_81 (cAcc h4 hm24 hr9)) hC.2.2.1 (fun q _ h => hFc q h) hFc (fun u9 t9 H1 locs ht hvm hw hB hz1 hk1 hS => ?_)
            obtain ⟨⟨hP, hK1, hD1⟩, hsz1⟩ := hB
            rw [ht] at hP hsz1
            have hC : CP dC dI Q A s.heap p23.2 H1 locs := ⟨hP, hD1.weaken (fun _ _ _ h => hFc _ h), hS, hsz1⟩
            generalize H1 = H at hC ⊢
            have h26 : (CS.hs σ) ≤ CS.hs p23.2 := Nat.le_trans h4 hm24
            refine W.widen (k := CS.hs p23.2 - (CS.hs σ)) (n := 17 * (CS.hs p23.2 - (CS.hs σ))) (cAcc2 h4 hm24) (cAcc3 h4 hm24) ?_
            refine lv_goto (tgt := 123) hx hb dX3_leaveOne_84 (by decide) ?_
            obtain rfl := Option.some.inj hf
            exact W.vret hx hb hr (fun t ht hW => ⟨⟨(), rfl, trivial, ⟨by rw [ht]; exact hC.1, va_K.moved hW.alike hK, hC.2.1⟩, by rw [ht]; exact hC.2.2.2⟩, hC.2.2.1.F ht⟩) hC.2.2.1.2.2 dX3_leaveOne_123
      ·
        replace hf := (if_pos c13).symm.trans hf
        refine lv_aload_n hx hb dX3_leaveOne_44 rfl (lv_at hl 1 rfl) ?_
        refine lv_aload_n hx hb dX3_leaveOne_45 rfl (lv_at hl 0 rfl) ?_
        obtain ⟨p27, hcp27, hf⟩ := hf_bind hf
        have hm28 : CS.hs p1.2 ≤ CS.hs p27.2 := Mono.go hcp27 (m_X3_leaveBody N p1.2 a6)
        have hr9 : CS.hs p27.2 ≤ CS.hs R.2 := Mono.go hf (mono_some (Nat.le_refl _))
        have hFc := cFree hC hA
        refine va_callv (va_runV (As := [.ref a6]) (rest := []) ⟨hx, hb, hml, hown, hts⟩ (c_X3_leaveBody l dC dI Q N p1.2 a6 p27 hcp27) (cwV 1 hts hX3_leaveOne_X3_leaveBody_v252 rfl rfl rfl (by decide +kernel) ⟨(show 5 + 1 ≤ 6 by omega), (show 8 + (3 + 11) + 60 * 5 ≤ 60 * 6 by omega)⟩) ⟨zPre.blind, va_recv hK hC.1 (ci := 2) (q0 := 7) rfl rfl, cPre_go hZ hK hC⟩ rfl rfl hl.1 rfl (lv_room (Nat.le_of_ble_eq_true rfl)) dX3_leaveOne_46 (cAcc h4 hm28 hr9)) hC.2.2.1 (fun q _ h => hFc q h) hFc (fun u9 t9 H1 locs ht hvm hw hB hz1 hk1 hS => ?_)
        obtain ⟨⟨hP, hK1, hD1⟩, hsz1⟩ := hB
        rw [ht] at hP hsz1
        have hC : CP dC dI Q A s.heap p27.2 H1 locs := ⟨hP, hD1.weaken (fun _ _ _ h => hFc _ h), hS, hsz1⟩
        generalize H1 = H at hC ⊢
        have h30 : (CS.hs σ) ≤ CS.hs p27.2 := Nat.le_trans h4 hm28
        refine W.widen (k := CS.hs p27.2 - (CS.hs σ)) (n := 17 * (CS.hs p27.2 - (CS.hs σ))) (cAcc2 h4 hm28) (cAcc3 h4 hm28) ?_
        refine lv_goto (tgt := 123) hx hb dX3_leaveOne_49 (by decide) ?_
        obtain rfl := Option.some.inj hf
        exact W.vret hx hb hr (fun t ht hW => ⟨⟨(), rfl, trivial, ⟨by rw [ht]; exact hC.1, va_K.moved hW.alike hK, hC.2.1⟩, by rw [ht]; exact hC.2.2.2⟩, hC.2.2.1.F ht⟩) hC.2.2.1.2.2 dX3_leaveOne_123
    ·
      replace hf := (if_neg c11).symm.trans hf
      exact j_X3_leaveOne_29 l dC dI Q N (CS.hs σ) R hx hb hr hml hown hts hlocks hZ hA hK p1.2 _ _ _ hf h4 hC (lv_sub hl [1] rfl)
theorem k_X3_perform_fieldLink_RX3_40_SR_Machine_code_LSR_Code : Cond.fieldLink RX3 40 "StatementRules2$Machine" "code" "LStatementRules2$Code;" ∈ wzX3_perform := List.mem_cons_of_mem _ (List.mem_append_left _ (List.mem_of_getElem? (i := 0) rfl))
theorem i_X3_perform_X3 : ∀ w ∈ wsX30, w ∈ wzX3_perform := fun _ h => List.mem_cons_of_mem _ (List.mem_append_right _ (List.mem_append_left _ (h)))
theorem i_X3_perform_X0 : ∀ w ∈ wsX00, w ∈ wzX3_perform := fun _ h => List.mem_cons_of_mem _ (List.mem_append_right _ (List.mem_append_right _ (List.mem_append_left _ (h))))
theorem k_X3_perform_fieldLink_RX3_9_SR_Machine_cells_I : Cond.fieldLink RX3 9 "StatementRules2$Machine" "cells" "[I" ∈ wzX3_perform := List.mem_cons_of_mem _ (List.mem_append_left _ (List.mem_of_getElem? (i := 1) rfl))
theorem k_X3_perform_initialized_RX11 : Cond.initialized RX11 ∈ wzX3_perform := List.mem_cons_of_mem _ (List.mem_append_left _ (List.mem_of_getElem? (i := 2) rfl))
theorem k_X3_perform_static_yX11_put : Cond.static yX11_put ∈ wzX3_perform := List.mem_cons_of_mem _ (List.mem_append_left _ (List.mem_of_getElem? (i := 3) rfl))
theorem k_X3_perform_fieldLink_RX3_54_SR_Machine_height_I : Cond.fieldLink RX3 54 "StatementRules2$Machine" "height" "I" ∈ wzX3_perform := List.mem_cons_of_mem _ (List.mem_append_left _ (List.mem_of_getElem? (i := 4) rfl))
theorem k_X3_perform_fieldLink_RX3_57_SR_Machine_place_I : Cond.fieldLink RX3 57 "StatementRules2$Machine" "place" "I" ∈ wzX3_perform := List.mem_cons_of_mem _ (List.mem_append_left _ (List.mem_of_getElem? (i := 5) rfl))
theorem k_X3_perform_fieldLink_RX3_60_SR_Machine_depth_I : Cond.fieldLink RX3 60 "StatementRules2$Machine" "depth" "I" ∈ wzX3_perform := List.mem_cons_of_mem _ (List.mem_append_left _ (List.mem_of_getElem? (i := 6) rfl))
theorem k_X3_perform_fieldLink_RX3_63_SR_Machine_openedCount_I : Cond.fieldLink RX3 63 "StatementRules2$Machine" "openedCount" "I" ∈ wzX3_perform := List.mem_cons_of_mem _ (List.mem_append_left _ (List.mem_of_getElem? (i := 7) rfl))
theorem k_X3_perform_fieldLink_RX3_66_SR_Machine_rowCount_I : Cond.fieldLink RX3 66 "StatementRules2$Machine" "rowCount" "I" ∈ wzX3_perform := List.mem_cons_of_mem _ (List.mem_append_left _ (List.mem_of_getElem? (i := 8) rfl))
theorem k_X3_perform_fieldLink_RX3_69_SR_Machine_steps_I : Cond.fieldLink RX3 69 "StatementRules2$Machine" "steps" "I" ∈ wzX3_perform := List.mem_cons_of_mem _ (List.mem_append_left _ (List.mem_of_getElem? (i := 9) rfl))
theorem k_X3_perform_fieldLink_RX3_72_SR_Machine_taken_I : Cond.fieldLink RX3 72 "StatementRules2$Machine" "taken" "I" ∈ wzX3_perform := List.mem_cons_of_mem _ (List.mem_append_left _ (List.mem_of_getElem? (i := 10) rfl))
theorem k_X3_perform_fieldLink_RX3_75_SR_Machine_way_I : Cond.fieldLink RX3 75 "StatementRules2$Machine" "way" "I" ∈ wzX3_perform := List.mem_cons_of_mem _ (List.mem_append_left _ (List.mem_of_getElem? (i := 11) rfl))
theorem k_X3_perform_fieldLink_RX3_78_SR_Machine_wayValue_I : Cond.fieldLink RX3 78 "StatementRules2$Machine" "wayValue" "I" ∈ wzX3_perform := List.mem_cons_of_mem _ (List.mem_append_left _ (List.mem_of_getElem? (i := 12) rfl))
theorem k_X3_perform_fieldLink_RX3_81_SR_Machine_wayThrown_LSR_Thrown : Cond.fieldLink RX3 81 "StatementRules2$Machine" "wayThrown" "LStatementRules2$Thrown;" ∈ wzX3_perform := List.mem_cons_of_mem _ (List.mem_append_left _ (List.mem_of_getElem? (i := 13) rfl))
theorem k_X3_perform_fieldLink_RX3_85_SR_Machine_outcome_I : Cond.fieldLink RX3 85 "StatementRules2$Machine" "outcome" "I" ∈ wzX3_perform := List.mem_cons_of_mem _ (List.mem_append_left _ (List.mem_of_getElem? (i := 14) rfl))
theorem k_X3_perform_constant_RX3_88_4000000 : Cond.constant RX3 88 (4000000) ∈ wzX3_perform := List.mem_cons_of_mem _ (List.mem_append_left _ (List.mem_of_getElem? (i := 15) rfl))
set_option maxHeartbeats 4000000 in
set_option maxRecDepth 100000 in
theorem j_X3_perform_148 {p : Program} {e : Env} {s : State} {m : MethodId} {args : Array Value} {below : List Frame} {meth : Method} {c : Code} {A : Nat → Prop} (l : Launch) (dC : Nat → ClassId) (dI : Nat → Nat → Nat) (Q : CQ) (N : Nat) (z9h : Nat) (R : Int32 × CS) (hx : p.tables.exec = Jvm.exec) (hb : c.code = cX3_perform) (hr : meth.sig.returnType = (some .int)) (hml : c.maxLocals = 4) (hown : s.vm.findClass RX3 = some m.cls) (hts : ∀ w ∈ wzX3_perform, w.before args s = true) (hlocks : meth.locks = false) (hZ : zAMB s) (hA : ∀ q : Nat, s.heap.size ≤ q → A q) (hK : va_K (dC, dI) vwCl (cT Q) s) : ∀ (σ : CS) (H : Heap) (locs : List Loc) (ls : Array Slot), f_X3_perform_148 N σ = some R → z9h ≤ CS.hs σ → CP dC dI Q A s.heap σ H locs → lv_has ls 4 [(0, .ref (Q.o 7))] → W p l e ({ frames := 7, cells := CS.hs R.2 - z9h, slots := 17 * (CS.hs R.2 - z9h), locals := 60 * 7 }) s m args below meth c H locs (CS.hs σ - z9h) (17 * (CS.hs σ - z9h)) (MQ below (va_Qi (fun (r : Int32) (_ : Unit) => r = R.1) (fun (_ : Unit) (t : State) => zPost dC dI A (cW Q R.2) (cT Q) t ∧ t.heap.size = CS.hs R.2) A) args s (CS.hs R.2 - z9h) (17 * (CS.hs R.2 - z9h)) A) (F0 m 148 ls []) := by
  intro σ  H locs ls hf h0 hC hl
  unfold f_X3_perform_148 at hf
  refine lv_aload_n hx hb dX3_perform_148 rfl (lv_at hl 0 rfl) ?_
  refine cG_72 (v := (σ.i 72)) hx hb hts i_X3_perform_X3 hown hK hC (hts (.fieldLink RX3 85 "StatementRules2$Machine" "outcome" "I") k_X3_perform_fieldLink_RX3_85_SR_Machine_outcome_I) (fun _ q9 => q9) dX3_perform_149 rfl ?_
  obtain rfl := Option.some.inj hf
  exact W.iret (v := (σ.i 72)) hx hb hr (fun t ht hW => ⟨⟨(σ.i 72), (), rfl, rfl, ⟨by rw [ht]; exact hC.1, va_K.moved hW.alike hK, hC.2.1⟩, by rw [ht]; exact hC.2.2.2⟩, hC.2.2.1.F ht⟩) hC.2.2.1.2.2 dX3_perform_152
set_option maxHeartbeats 4000000 in
set_option maxRecDepth 100000 in
theorem j_X3_perform_110 {p : Program} {e : Env} {s : State} {m : MethodId} {args : Array Value} {below : List Frame} {meth : Method} {c : Code} {A : Nat → Prop} (l : Launch) (dC : Nat → ClassId) (dI : Nat → Nat → Nat) (Q : CQ) (N : Nat) (z9h : Nat) (R : Int32 × CS) (hx : p.tables.exec = Jvm.exec) (hb : c.code = cX3_perform) (hr : meth.sig.returnType = (some .int)) (hml : c.maxLocals = 4) (hown : s.vm.findClass RX3 = some m.cls) (hts : ∀ w ∈ wzX3_perform, w.before args s = true) (hlocks : meth.locks = false) (hZ : zAMB s) (hA : ∀ q : Nat, s.heap.size ≤ q → A q) (hK : va_K (dC, dI) vwCl (cT Q) s) : ∀ (n9 : Nat), ∀ (σ : CS) (x3 : Int32) (H : Heap) (locs : List Loc) (ls : Array Slot), f_X3_perform_110 N n9 σ x3 = some R → z9h ≤ CS.hs σ → CP dC dI Q A s.heap σ H locs → lv_has ls 4 [(0, .ref (Q.o 7)), (3, .int x3)] → W p l e ({ frames := 7, cells := CS.hs R.2 - z9h, slots := 17 * (CS.hs R.2 - z9h), locals := 60 * 7 }) s m args below meth c H locs (CS.hs σ - z9h) (17 * (CS.hs σ - z9h)) (MQ below (va_Qi (fun (r : Int32) (_ : Unit) => r = R.1) (fun (_ : Unit) (t : State) => zPost dC dI A (cW Q R.2) (cT Q) t ∧ t.heap.size = CS.hs R.2) A) args s (CS.hs R.2 - z9h) (17 * (CS.hs R.2 - z9h)) A) (F0 m 110 ls []) := by
  intro n9
  induction n9 with
  | zero => intro σ x3 H locs ls hf; exact absurd hf (by intro q9; cases q9)
  | succ n9 ih =>
    intro σ x3 H locs ls hf h0 hC hl
    replace hf : b_X3_perform_110 N (f_X3_perform_110 N n9) σ x3 = some R := hf
    unfold b_X3_perform_110 at hf
    have hMK := fun (σ : CS) (x3 : Int32) => m_X3_perform_110 N n9 σ x3
    refine lv_iload_n hx hb dX3_perform_110 rfl (lv_at hl 1 rfl) ?_
    refine lv_ldc (v := 4000000) hx hb hown (hts (.constant RX3 88 (4000000)) k_X3_perform_constant_RX3_88_4000000) dX3_perform_111 ?_
    refine lv_icmp_ge (tgt := 148) hx hb dX3_perform_113 (by decide) (fun c2 => ?_) (fun c2 => ?_)
    ·
      replace hf := (if_pos c2).symm.trans hf
      exact j_X3_perform_148 l dC dI Q N z9h R hx hb hr hml hown hts hlocks hZ hA hK σ _ _ _ hf h0 hC (lv_sub hl [0] rfl)
    ·
      replace hf := (if_neg c2).symm.trans hf
      refine lv_aload_n hx hb dX3_perform_116 rfl (lv_at hl 0 rfl) ?_
      refine cG_72 (v := (σ.i 72)) hx hb hts i_X3_perform_X3 hown hK hC (hts (.fieldLink RX3 85 "StatementRules2$Machine" "outcome" "I") k_X3_perform_fieldLink_RX3_85_SR_Machine_outcome_I) (fun _ q9 => q9) dX3_perform_117 rfl ?_
      refine lv_iconst (v := (-1)) hx hb dX3_perform_120 (by decide) ?_
      refine lv_icmp_ne (tgt := 148) hx hb dX3_perform_121 (by decide) (fun c3 => ?_) (fun c3 => ?_)
      ·
        replace hf := (if_neg c3).symm.trans hf
        exact j_X3_perform_148 l dC dI Q N z9h R hx hb hr hml hown hts hlocks hZ hA hK σ _ _ _ hf h0 hC (lv_sub hl [0] rfl)
      ·
        replace hf := (if_pos c3).symm.trans hf
        refine lv_aload_n hx hb dX3_perform_124 rfl (lv_at hl 0 rfl) ?_
        refine cG_73 (v := (σ.i 73)) hx hb hts i_X3_perform_X3 hown hK hC (hts (.fieldLink RX3 75 "StatementRules2$Machine" "way" "I") k_X3_perform_fieldLink_RX3_75_SR_Machine_way_I) (fun _ q9 => q9) dX3_perform_125 rfl ?_
        refine lv_if_ne (tgt := 138) hx hb dX3_perform_128 (by decide) (fun c4 => ?_) (fun c4 => ?_)
        ·
          replace hf := (if_neg c4).symm.trans hf
          refine lv_aload_n hx hb dX3_perform_138 rfl (lv_at hl 0 rfl) ?_
          obtain ⟨p5, hcp5, hf⟩ := hf_bind hf
          have hm6 : CS.hs σ ≤ CS.hs p5.2 := Mono.go hcp5 (m_X3_leaveOne N σ)
          have hr9 : CS.hs p5.2 ≤ CS.hs R.2 := Mono.go hf (hMK p5.2 (x3 + 1))
          have hFc := cFree hC hA
          refine va_callv (va_runV (As := []) (rest := []) ⟨hx, hb, hml, hown, hts⟩ (c_X3_leaveOne l dC dI Q N σ p5 hcp5) (cwV 0 hts hX3_perform_X3_leaveOne_v92 rfl rfl rfl (by decide +kernel) ⟨(show 6 + 1 ≤ 7 by omega), (show 8 + (2 + 11) + 60 * 6 ≤ 60 * 7 by omega)⟩) ⟨zPre.blind, va_recv hK hC.1 (ci := 2) (q0 := 7) rfl rfl, cPre_go hZ hK hC⟩ rfl rfl hl.1 rfl (lv_room (Nat.le_of_ble_eq_true rfl)) dX3_perform_139 (cAcc h0 hm6 hr9)) hC.2.2.1 (fun q _ h => hFc q h) hFc (fun u9 t9 H1 locs ht hvm hw hB hz1 hk1 hS => ?_)
          obtain ⟨⟨hP, hK1, hD1⟩, hsz1⟩ := hB
          rw [ht] at hP hsz1
          have hC : CP dC dI Q A s.heap p5.2 H1 locs := ⟨hP, hD1.weaken (fun _ _ _ h => hFc _ h), hS, hsz1⟩
          generalize H1 = H at hC ⊢
          have h8 : z9h ≤ CS.hs p5.2 := Nat.le_trans h0 hm6
          refine W.widen (k := CS.hs p5.2 - z9h) (n := 17 * (CS.hs p5.2 - z9h)) (cAcc2 h0 hm6) (cAcc3 h0 hm6) ?_
          refine lv_iinc (v := (x3 + 1)) (lv' := [(3, .int (x3 + 1)), (0, .ref (Q.o 7))]) hx hb dX3_perform_142 hl (k := 1) rfl rfl (by decide) rfl (fun ls hl => ?_)
          refine lv_goto (tgt := 110) hx hb dX3_perform_145 (by decide) ?_
          exact ih p5.2 (x3 + 1) _ _ _ hf h8 hC (lv_sub hl [1, 0] rfl)
        ·
          replace hf := (if_pos c4).symm.trans hf
          refine lv_aload_n hx hb dX3_perform_131 rfl (lv_at hl 0 rfl) ?_
          obtain ⟨p9, hcp9, hf⟩ := hf_bind hf
          have hm10 : CS.hs σ ≤ CS.hs p9.2 := Mono.go hcp9 (m_X3_instruction N σ)
          have hr9 : CS.hs p9.2 ≤ CS.hs R.2 := Mono.go hf (hMK p9.2 (x3 + 1))
          have hFc := cFree hC hA
          refine va_callv (va_runV (As := []) (rest := []) ⟨hx, hb, hml, hown, hts⟩ (c_X3_instruction l dC dI Q N σ p9 hcp9) (cwV 0 hts hX3_perform_X3_instruction_v89 rfl rfl rfl (by decide +kernel) ⟨(show 6 + 1 ≤ 7 by omega), (show 8 + (3 + 11) + 60 * 6 ≤ 60 * 7 by omega)⟩) ⟨zPre.blind, va_recv hK hC.1 (ci := 2) (q0 := 7) rfl rfl, cPre_go hZ hK hC⟩ rfl rfl hl.1 rfl (lv_room (Nat.le_of_ble_eq_true rfl)) dX3_perform_132 (cAcc h0 hm10 hr9)) hC.2.2.1 (fun q _ h => hFc q h) hFc (fun u9 t9 H1 locs ht hvm hw hB hz1 hk1 hS => ?_)
          obtain ⟨⟨hP, hK1, hD1⟩, hsz1⟩ := hB
          rw [ht] at hP hsz1
          have hC : CP dC dI Q A s.heap p9.2 H1 locs := ⟨hP, hD1.weaken (fun _ _ _ h => hFc _ h), hS, hsz1⟩
          generalize H1 = H at hC ⊢
          have h12 : z9h ≤ CS.hs p9.2 := Nat.le_trans h0 hm10
          refine W.widen (k := CS.hs p9.2 - z9h) (n := 17 * (CS.hs p9.2 - z9h)) (cAcc2 h0 hm10) (cAcc3 h0 hm10) ?_
          refine lv_goto (tgt := 142) hx hb dX3_perform_135 (by decide) ?_
          refine lv_iinc (v := (x3 + 1)) (lv' := [(3, .int (x3 + 1)), (0, .ref (Q.o 7))]) hx hb dX3_perform_142 hl (k := 1) rfl rfl (by decide) rfl (fun ls hl => ?_)
          refine lv_goto (tgt := 110) hx hb dX3_perform_145 (by decide) ?_
          exact ih p9.2 (x3 + 1) _ _ _ hf h12 hC (lv_sub hl [1, 0] rfl)
set_option maxHeartbeats 4000000 in
set_option maxRecDepth 100000 in
theorem j_X3_perform_35 {p : Program} {e : Env} {s : State} {m : MethodId} {args : Array Value} {below : List Frame} {meth : Method} {c : Code} {A : Nat → Prop} (l : Launch) (dC : Nat → ClassId) (dI : Nat → Nat → Nat) (Q : CQ) (N : Nat) (z9h : Nat) (R : Int32 × CS) (hx : p.tables.exec = Jvm.exec) (hb : c.code = cX3_perform) (hr : meth.sig.returnType = (some .int)) (hml : c.maxLocals = 4) (hown : s.vm.findClass RX3 = some m.cls) (hts : ∀ w ∈ wzX3_perform, w.before args s = true) (hlocks : meth.locks = false) (hZ : zAMB s) (hA : ∀ q : Nat, s.heap.size ≤ q → A q) (hK : va_K (dC, dI) vwCl (cT Q) s) : ∀ (σ : CS) (x1 : Int32) (x2 : Int32) (H : Heap) (locs : List Loc) (ls : Array Slot), f_X3_perform_35 N σ x1 x2 = some R → z9h ≤ CS.hs σ → CP dC dI Q A s.heap σ H locs → lv_has ls 4 [(0, .ref (Q.o 7)), (1, .int x1), (2, .int x2)] → W p l e ({ frames := 7, cells := CS.hs R.2 - z9h, slots := 17 * (CS.hs R.2 - z9h), locals := 60 * 7 }) s m args below meth c H locs (CS.hs σ - z9h) (17 * (CS.hs σ - z9h)) (MQ below (va_Qi (fun (r : Int32) (_ : Unit) => r = R.1) (fun (_ : Unit) (t : State) => zPost dC dI A (cW Q R.2) (cT Q) t ∧ t.heap.size = CS.hs R.2) A) args s (CS.hs R.2 - z9h) (17 * (CS.hs R.2 - z9h)) A) (F0 m 35 ls []) := by
  intro σ x1 x2 H locs ls hf h0 hC hl
  unfold f_X3_perform_35 at hf
  refine lv_aload_n hx hb dX3_perform_35 rfl (lv_at hl 0 rfl) ?_
  refine cG_59 hx hb hts i_X3_perform_X3 hown hK hC (hts (.fieldLink RX3 9 "StatementRules2$Machine" "cells" "[I") k_X3_perform_fieldLink_RX3_9_SR_Machine_cells_I) (fun _ q9 => q9) dX3_perform_36 ?_
  refine lv_iconst (v := 0) hx hb dX3_perform_39 (by decide) ?_
  refine lv_iload_n hx hb dX3_perform_40 rfl (lv_at hl 1 rfl) ?_
  have he9 := (show (cW Q σ)[24]? = some (Q.q 59, .inl (Q.c 0, 720, .inl (σ.a 59))) from rfl)
  have hFc := cFree1 hC hA he9
  have hr9 : CS.hs σ ≤ CS.hs R.2 := Mono.go hf (m_X3_perform_110 N N (CS.setI (CS.setW (CS.setI (CS.setI (CS.setI (CS.setI (CS.setI (CS.setI (CS.setI (CS.setI (CS.setI (CS.putA (CS.putA σ 59 (gPut (σ.a 59) 720 0 x1)) 59 (gPut (CS.a (CS.putA σ 59 (gPut (σ.a 59) 720 0 x1)) 59) 720 1 x2)) 65 0) 66 0) 67 0) 68 0) 69 0) 70 0) 71 0) 73 0) 74 0) none) 72 (-1)) 0)
  refine va_callv (va_runSN (As := [.ref (Q.q 59), .int 0, .int x1]) (rest := []) ⟨hx, hb, hml, hown, hts⟩ (c_X11_put l dC dI _ (Q.q 59) (Q.c 0) 720 (σ.a 59) 0 x1 (by decide)) ⟨va_cnB 3 hts hX3_perform_X11_put_n50 rfl rfl rfl (hZ.1 (.methodLinkNest RX3 50 yX11_put "StatementRules2") (by decide +kernel)) (hts (.initialized RX11) k_X3_perform_initialized_RX11) (by decide +kernel) ⟨(show 1 + 1 ≤ 7 by omega), (show 8 + (3 + 11) + 60 * 1 ≤ 60 * 7 by omega)⟩, (hts (.static yX11_put) k_X3_perform_static_yX11_put), trivial⟩ ⟨zPre.blind, zPre.go hZ (cOne hC.1 he9) (hK.sub (tys' := [(Q.c 0, .int)]) [0] rfl) (cOneD hC.2.1 he9)⟩ rfl rfl hl.1 rfl (lv_room (Nat.le_of_ble_eq_true rfl)) dX3_perform_41 ⟨cAcc4 h0 hr9, cAcc5 h0 hr9⟩) hC.2.2.1 (fun q _ h => hFc q h) hFc (fun u9 t9 H1 locs ht hvm hw hB hz1 hk1 hS => ?_)
  obtain ⟨⟨hP1, hK1, hD1⟩, hsz1⟩ := hB
  rw [ht] at hP1 hsz1
  have hC := cBack (σ' := CS.putA σ 59 (gPut (σ.a 59) 720 0 x1)) hC he9 rfl rfl hk1 hP1 hsz1 hS
  generalize H1 = H at hC ⊢
  refine lv_aload_n hx hb dX3_perform_44 rfl (lv_at hl 0 rfl) ?_
  refine cG_59 hx hb hts i_X3_perform_X3 hown hK hC (hts (.fieldLink RX3 9 "StatementRules2$Machine" "cells" "[I") k_X3_perform_fieldLink_RX3_9_SR_Machine_cells_I) (fun _ q9 => q9) dX3_perform_45 ?_
  refine lv_iconst (v := 1) hx hb dX3_perform_48 (by decide) ?_
  refine lv_iload_n hx hb dX3_perform_49 rfl (lv_at hl 2 rfl) ?_
  have he9 := (show (cW Q (CS.putA σ 59 (gPut (σ.a 59) 720 0 x1)))[24]? = some (Q.q 59, .inl (Q.c 0, 720, .inl (CS.a (CS.putA σ 59 (gPut (σ.a 59) 720 0 x1)) 59))) from rfl)
  have hFc := cFree1 hC hA he9
  have hr9 : CS.hs σ ≤ CS.hs R.2 := Mono.go hf (m_X3_perform_110 N N (CS.setI (CS.setW (CS.setI (CS.setI (CS.setI (CS.setI (CS.setI (CS.setI (CS.setI (CS.setI (CS.setI (CS.putA (CS.putA σ 59 (gPut (σ.a 59) 720 0 x1)) 59 (gPut (CS.a (CS.putA σ 59 (gPut (σ.a 59) 720 0 x1)) 59) 720 1 x2)) 65 0) 66 0) 67 0) 68 0) 69 0) 70 0) 71 0) 73 0) 74 0) none) 72 (-1)) 0)
  refine va_callv (va_runSN (As := [.ref (Q.q 59), .int 1, .int x2]) (rest := []) ⟨hx, hb, hml, hown, hts⟩ (c_X11_put l dC dI _ (Q.q 59) (Q.c 0) 720 (CS.a (CS.putA σ 59 (gPut (σ.a 59) 720 0 x1)) 59) 1 x2 (by decide)) ⟨va_cnB 3 hts hX3_perform_X11_put_n50 rfl rfl rfl (hZ.1 (.methodLinkNest RX3 50 yX11_put "StatementRules2") (by decide +kernel)) (hts (.initialized RX11) k_X3_perform_initialized_RX11) (by decide +kernel) ⟨(show 1 + 1 ≤ 7 by omega), (show 8 + (3 + 11) + 60 * 1 ≤ 60 * 7 by omega)⟩, (hts (.static yX11_put) k_X3_perform_static_yX11_put), trivial⟩ ⟨zPre.blind, zPre.go hZ (cOne hC.1 he9) (hK.sub (tys' := [(Q.c 0, .int)]) [0] rfl) (cOneD hC.2.1 he9)⟩ rfl rfl hl.1 rfl (lv_room (Nat.le_of_ble_eq_true rfl)) dX3_perform_50 ⟨cAcc4 h0 hr9, cAcc5 h0 hr9⟩) hC.2.2.1 (fun q _ h => hFc q h) hFc (fun u9 t9 H1 locs ht hvm hw hB hz1 hk1 hS => ?_)
  obtain ⟨⟨hP1, hK1, hD1⟩, hsz1⟩ := hB
  rw [ht] at hP1 hsz1
  have hC := cBack (σ' := CS.putA (CS.putA σ 59 (gPut (σ.a 59) 720 0 x1)) 59 (gPut (CS.a (CS.putA σ 59 (gPut (σ.a 59) 720 0 x1)) 59) 720 1 x2)) hC he9 rfl rfl hk1 hP1 hsz1 hS
  generalize H1 = H at hC ⊢
  refine lv_aload_n hx hb dX3_perform_53 rfl (lv_at hl 0 rfl) ?_
  refine lv_iconst (v := 0) hx hb dX3_perform_54 (by decide) ?_
  refine cP_65 (v := 0) hx hb hts i_X3_perform_X3 hown hK hC (hts (.fieldLink RX3 54 "StatementRules2$Machine" "height" "I") k_X3_perform_fieldLink_RX3_54_SR_Machine_height_I) (fun _ q9 => q9) dX3_perform_55 (fun H locs hC => ?_)
  refine lv_aload_n hx hb dX3_perform_58 rfl (lv_at hl 0 rfl) ?_
  refine lv_iconst (v := 0) hx hb dX3_perform_59 (by decide) ?_
  refine cP_66 (v := 0) hx hb hts i_X3_perform_X3 hown hK hC (hts (.fieldLink RX3 57 "StatementRules2$Machine" "place" "I") k_X3_perform_fieldLink_RX3_57_SR_Machine_place_I) (fun _ q9 => q9) dX3_perform_60 (fun H locs hC => ?_)
  refine lv_aload_n hx hb dX3_perform_63 rfl (lv_at hl 0 rfl) ?_
  refine lv_iconst (v := 0) hx hb dX3_perform_64 (by decide) ?_
  refine cP_67 (v := 0) hx hb hts i_X3_perform_X3 hown hK hC (hts (.fieldLink RX3 60 "StatementRules2$Machine" "depth" "I") k_X3_perform_fieldLink_RX3_60_SR_Machine_depth_I) (fun _ q9 => q9) dX3_perform_65 (fun H locs hC => ?_)
  refine lv_aload_n hx hb dX3_perform_68 rfl (lv_at hl 0 rfl) ?_
  refine lv_iconst (v := 0) hx hb dX3_perform_69 (by decide) ?_
  refine cP_68 (v := 0) hx hb hts i_X3_perform_X3 hown hK hC (hts (.fieldLink RX3 63 "StatementRules2$Machine" "openedCount" "I") k_X3_perform_fieldLink_RX3_63_SR_Machine_openedCount_I) (fun _ q9 => q9) dX3_perform_70 (fun H locs hC => ?_)
  refine lv_aload_n hx hb dX3_perform_73 rfl (lv_at hl 0 rfl) ?_
  refine lv_iconst (v := 0) hx hb dX3_perform_74 (by decide) ?_
  refine cP_69 (v := 0) hx hb hts i_X3_perform_X3 hown hK hC (hts (.fieldLink RX3 66 "StatementRules2$Machine" "rowCount" "I") k_X3_perform_fieldLink_RX3_66_SR_Machine_rowCount_I) (fun _ q9 => q9) dX3_perform_75 (fun H locs hC => ?_)
  refine lv_aload_n hx hb dX3_perform_78 rfl (lv_at hl 0 rfl) ?_
  refine lv_iconst (v := 0) hx hb dX3_perform_79 (by decide) ?_
  refine cP_70 (v := 0) hx hb hts i_X3_perform_X3 hown hK hC (hts (.fieldLink RX3 69 "StatementRules2$Machine" "steps" "I") k_X3_perform_fieldLink_RX3_69_SR_Machine_steps_I) (fun _ q9 => q9) dX3_perform_80 (fun H locs hC => ?_)
  refine lv_aload_n hx hb dX3_perform_83 rfl (lv_at hl 0 rfl) ?_
  refine lv_iconst (v := 0) hx hb dX3_perform_84 (by decide) ?_
  refine cP_71 (v := 0) hx hb hts i_X3_perform_X3 hown hK hC (hts (.fieldLink RX3 72 "StatementRules2$Machine" "taken" "I") k_X3_perform_fieldLink_RX3_72_SR_Machine_taken_I) (fun _ q9 => q9) dX3_perform_85 (fun H locs hC => ?_)
  refine lv_aload_n hx hb dX3_perform_88 rfl (lv_at hl 0 rfl) ?_
  refine lv_iconst (v := 0) hx hb dX3_perform_89 (by decide) ?_
  refine cP_73 (v := 0) hx hb hts i_X3_perform_X3 hown hK hC (hts (.fieldLink RX3 75 "StatementRules2$Machine" "way" "I") k_X3_perform_fieldLink_RX3_75_SR_Machine_way_I) (fun _ q9 => q9) dX3_perform_90 (fun H locs hC => ?_)
  refine lv_aload_n hx hb dX3_perform_93 rfl (lv_at hl 0 rfl) ?_
  refine lv_iconst (v := 0) hx hb dX3_perform_94 (by decide) ?_
  refine cP_74 (v := 0) hx hb hts i_X3_perform_X3 hown hK hC (hts (.fieldLink RX3 78 "StatementRules2$Machine" "wayValue" "I") k_X3_perform_fieldLink_RX3_78_SR_Machine_wayValue_I) (fun _ q9 => q9) dX3_perform_95 (fun H locs hC => ?_)
  refine lv_aload_n hx hb dX3_perform_98 rfl (lv_at hl 0 rfl) ?_
  refine lv_null hx hb dX3_perform_99 ?_
  refine cP_76 (v := none) hx hb hts i_X3_perform_X3 hown hK hC (hts (.fieldLink RX3 81 "StatementRules2$Machine" "wayThrown" "LStatementRules2$Thrown;") k_X3_perform_fieldLink_RX3_81_SR_Machine_wayThrown_LSR_Thrown) (fun _ q9 => q9) dX3_perform_100 (fun H locs hC => ?_)
  refine lv_aload_n hx hb dX3_perform_103 rfl (lv_at hl 0 rfl) ?_
  refine lv_iconst (v := (-1)) hx hb dX3_perform_104 (by decide) ?_
  refine cP_72 (v := (-1)) hx hb hts i_X3_perform_X3 hown hK hC (hts (.fieldLink RX3 85 "StatementRules2$Machine" "outcome" "I") k_X3_perform_fieldLink_RX3_85_SR_Machine_outcome_I) (fun _ q9 => q9) dX3_perform_105 (fun H locs hC => ?_)
  refine lv_iconst (v := 0) hx hb dX3_perform_108 (by decide) ?_
  refine lv_istore_n (lv' := [(3, .int 0), (0, .ref (Q.o 7)), (1, .int x1), (2, .int x2)]) hx hb dX3_perform_109 rfl hl (by decide) rfl (fun ls hl => ?_)
  exact j_X3_perform_110 l dC dI Q N z9h R hx hb hr hml hown hts hlocks hZ hA hK N (CS.setI (CS.setW (CS.setI (CS.setI (CS.setI (CS.setI (CS.setI (CS.setI (CS.setI (CS.setI (CS.setI (CS.putA (CS.putA σ 59 (gPut (σ.a 59) 720 0 x1)) 59 (gPut (CS.a (CS.putA σ 59 (gPut (σ.a 59) 720 0 x1)) 59) 720 1 x2)) 65 0) 66 0) 67 0) 68 0) 69 0) 70 0) 71 0) 73 0) 74 0) none) 72 (-1)) 0 _ _ _ hf h0 hC (lv_sub hl [1, 0] rfl)
set_option maxHeartbeats 4000000 in
set_option maxRecDepth 100000 in
theorem j_X3_perform_2 {p : Program} {e : Env} {s : State} {m : MethodId} {args : Array Value} {below : List Frame} {meth : Method} {c : Code} {A : Nat → Prop} (l : Launch) (dC : Nat → ClassId) (dI : Nat → Nat → Nat) (Q : CQ) (N : Nat) (z9h : Nat) (R : Int32 × CS) (hx : p.tables.exec = Jvm.exec) (hb : c.code = cX3_perform) (hr : meth.sig.returnType = (some .int)) (hml : c.maxLocals = 4) (hown : s.vm.findClass RX3 = some m.cls) (hts : ∀ w ∈ wzX3_perform, w.before args s = true) (hlocks : meth.locks = false) (hZ : zAMB s) (hA : ∀ q : Nat, s.heap.size ≤ q → A q) (hK : va_K (dC, dI) vwCl (cT Q) s) : ∀ (n9 : Nat), ∀ (σ : CS) (x1 : Int32) (x2 : Int32) (x3 : Int32) (H : Heap) (locs : List Loc) (ls : Array Slot), f_X3_perform_2 N n9 σ x1 x2 x3 = some R → z9h ≤ CS.hs σ → CP dC dI Q A s.heap σ H locs → lv_has ls 4 [(0, .ref (Q.o 7)), (1, .int x1), (2, .int x2), (3, .int x3)] → W p l e ({ frames := 7, cells := CS.hs R.2 - z9h, slots := 17 * (CS.hs R.2 - z9h), locals := 60 * 7 }) s m args below meth c H locs (CS.hs σ - z9h) (17 * (CS.hs σ - z9h)) (MQ below (va_Qi (fun (r : Int32) (_ : Unit) => r = R.1) (fun (_ : Unit) (t : State) => zPost dC dI A (cW Q R.2) (cT Q) t ∧ t.heap.size = CS.hs R.2) A) args s (CS.hs R.2 - z9h) (17 * (CS.hs R.2 - z9h)) A) (F0 m 2 ls []) := by
  intro n9
  induction n9 with
  | zero => intro σ x1 x2 x3 H locs ls hf; exact absurd hf (by intro q9; cases q9)
  | succ n9 ih =>
    intro σ x1 x2 x3 H locs ls hf h0 hC hl
    replace hf : b_X3_perform_2 N (f_X3_perform_2 N n9) σ x1 x2 x3 = some R := hf
    unfold b_X3_perform_2 at hf
    have hMK := fun (σ : CS) (x1 : Int32) (x2 : Int32) (x3 : Int32) => m_X3_perform_2 N n9 σ x1 x2 x3
    refine lv_iload_n hx hb dX3_perform_2 rfl (lv_at hl 3 rfl) ?_
    refine lv_aload_n hx hb dX3_perform_3 rfl (lv_at hl 0 rfl) ?_
    refine cG_58 hx hb hts i_X3_perform_X3 hown hK hC (hts (.fieldLink RX3 40 "StatementRules2$Machine" "code" "LStatementRules2$Code;") k_X3_perform_fieldLink_RX3_40_SR_Machine_code_LSR_Code) (fun _ q9 => q9) dX3_perform_4 ?_
    refine cGN_23 (v := (σ.i 23)) hx hb hts i_X3_perform_X0 hown hK hC (va_Nw.use rfl (hZ.1 (.fieldLinkNest RX3 44 "StatementRules2$Code" "cellCount" "I" "StatementRules2") (by decide +kernel))) (fun _ q9 => q9) dX3_perform_7 rfl ?_
    refine lv_icmp_ge (tgt := 35) hx hb dX3_perform_10 (by decide) (fun c1 => ?_) (fun c1 => ?_)
    ·
      replace hf := (if_pos c1).symm.trans hf
      exact j_X3_perform_35 l dC dI Q N z9h R hx hb hr hml hown hts hlocks hZ hA hK σ x1 x2 _ _ _ hf h0 hC (lv_sub hl [0, 1, 2] rfl)
    ·
      replace hf := (if_neg c1).symm.trans hf
      refine lv_iload_n hx hb dX3_perform_13 rfl (lv_at hl 3 rfl) ?_
      refine lv_aload_n hx hb dX3_perform_14 rfl (lv_at hl 0 rfl) ?_
      refine cG_59 hx hb hts i_X3_perform_X3 hown hK hC (hts (.fieldLink RX3 9 "StatementRules2$Machine" "cells" "[I") k_X3_perform_fieldLink_RX3_9_SR_Machine_cells_I) (fun _ q9 => q9) dX3_perform_15 ?_
      refine va_alen (v := 720) hx hb hK hC.1 24 0 rfl rfl rfl dX3_perform_18 ?_
      refine lv_icmp_ge (tgt := 35) hx hb dX3_perform_19 (by decide) (fun c13 => ?_) (fun c13 => ?_)
      ·
        replace hf := (if_pos c13).symm.trans hf
        exact j_X3_perform_35 l dC dI Q N z9h R hx hb hr hml hown hts hlocks hZ hA hK σ x1 x2 _ _ _ hf h0 hC (lv_sub hl [0, 1, 2] rfl)
      ·
        replace hf := (if_neg c13).symm.trans hf
        refine lv_aload_n hx hb dX3_perform_22 rfl (lv_at hl 0 rfl) ?_
        refine cG_59 hx hb hts i_X3_perform_X3 hown hK hC (hts (.fieldLink RX3 9 "StatementRules2$Machine" "cells" "[I") k_X3_perform_fieldLink_RX3_9_SR_Machine_cells_I) (fun _ q9 => q9) dX3_perform_23 ?_
        refine lv_iload_n hx hb dX3_perform_26 rfl (lv_at hl 3 rfl) ?_
        refine lv_iconst (v := 0) hx hb dX3_perform_27 (by decide) ?_
        obtain ⟨b14, hf⟩ := hf_ite hf
        refine cS_59 hx hb hK hC b14 dX3_perform_28 (fun H locs hC => ?_)
        refine lv_iinc (v := (x3 + 1)) (lv' := [(3, .int (x3 + 1)), (0, .ref (Q.o 7)), (1, .int x1), (2, .int x2)]) hx hb dX3_perform_29 hl (k := 3) rfl rfl (by decide) rfl (fun ls hl => ?_)
        refine lv_goto (tgt := 2) hx hb dX3_perform_32 (by decide) ?_
        exact ih (CS.setA σ 59 ((x3 : Int32).toNatClampNeg) 0) x1 x2 (x3 + 1) _ _ _ hf h0 hC (lv_sub hl [1, 2, 3, 0] rfl)
set_option maxHeartbeats 4000000 in
set_option maxRecDepth 100000 in
theorem c_X3_perform (l : Launch) (dC : Nat → ClassId) (dI : Nat → Nat → Nat) (Q : CQ) (N : Nat) (σ : CS) (x1 : Int32) (x2 : Int32) (R : Int32 × CS) (hf : f_X3_perform N σ x1 x2 = some R) : Met l yX3_perform wzX3_perform ({ frames := 7, cells := CS.hs R.2 - CS.hs σ, slots := 17 * (CS.hs R.2 - CS.hs σ), locals := 60 * 7 }) (va_Pc [.ref (Q.o 7), .int x1, .int x2] (zPre dC dI (CS.hs σ) (cW Q σ) (cT Q))) (va_Qi (fun (r : Int32) (_ : Unit) => r = R.1) (fun (_ : Unit) (t : State) => zPost dC dI (va_A (cW Q σ) (CS.hs σ)) (cW Q R.2) (cT Q) t ∧ t.heap.size = CS.hs R.2) (va_A (cW Q σ) (CS.hs σ))) (CS.hs R.2 - CS.hs σ) (17 * (CS.hs R.2 - CS.hs σ)) (va_A (cW Q σ) (CS.hs σ)) := by
  refine Met.ofW (cc := cX3_perform) (maxL := 4) (ret := (some .int)) (by decide) rfl ?_
  intro p e s m args below meth c s₁ B hml hv
  obtain ⟨rfl, hsz, hZ, hP, hK, hD0⟩ := hv
  have hx := B.exec
  have hb := B.bytes
  have hr := B.returns
  have hts := atoms_spec (ws := wzX3_perform) B.pre
  have hown : s.vm.findClass RX3 = some m.cls := findClass_of_methodNamed B.named
  have hlocks := B.notSynchronized
  have hD := hD0.self (sz := CS.hs σ)
  generalize hAe : va_A (cW Q σ) (CS.hs σ) = A at hD ⊢
  have hA : ∀ q : Nat, s.heap.size ≤ q → A q := fun q h => by rw [← hAe]; exact Or.inr (hsz ▸ h)
  have hC : CP dC dI Q A s.heap σ s.heap [] := ⟨hP, hD, va_S.rf, hsz⟩
  have h0 : CS.hs σ ≤ CS.hs σ := Nat.le_refl _
  have hl := lv_entry ([.ref (Q.o 7), .int x1, .int x2]) (n := 4) (Nat.le_of_ble_eq_true rfl)
  rw [lg_entry_eq]
  generalize (lg_sl ([.ref (Q.o 7), .int x1, .int x2]) ++ List.replicate (4 - (lg_sl ([.ref (Q.o 7), .int x1, .int x2])).length) Slot.unset).toArray = ls at hl ⊢
  have hl : lv_has ls 4 [(0, .ref (Q.o 7)), (1, .int x1), (2, .int x2)] := hl
  unfold f_X3_perform at hf
  refine W.widen (k := CS.hs σ - CS.hs σ) (n := 17 * (CS.hs σ - CS.hs σ)) (Nat.zero_le _) (Nat.zero_le _) ?_
  refine lv_iconst (v := 0) hx hb dX3_perform_0 (by decide) ?_
  refine lv_istore_n (lv' := [(3, .int 0), (0, .ref (Q.o 7)), (1, .int x1), (2, .int x2)]) hx hb dX3_perform_1 rfl hl (by decide) rfl (fun ls hl => ?_)
  exact j_X3_perform_2 l dC dI Q N (CS.hs σ) R hx hb hr hml hown hts hlocks hZ hA hK N σ x1 x2 0 _ _ _ hf h0 hC (lv_sub hl [1, 2, 3, 0] rfl)
theorem k_X3_lastThrown_fieldLink_RX3_85_SR_Machine_outcome_I : Cond.fieldLink RX3 85 "StatementRules2$Machine" "outcome" "I" ∈ wzX3_lastThrown := List.mem_cons_of_mem _ (List.mem_append_left _ (List.mem_of_getElem? (i := 0) rfl))
theorem i_X3_lastThrown_X3 : ∀ w ∈ wsX30, w ∈ wzX3_lastThrown := fun _ h => List.mem_cons_of_mem _ (List.mem_append_right _ (List.mem_append_left _ (h)))
theorem k_X3_lastThrown_fieldLink_RX3_81_SR_Machine_wayThrown_LSR_Thrown : Cond.fieldLink RX3 81 "StatementRules2$Machine" "wayThrown" "LStatementRules2$Thrown;" ∈ wzX3_lastThrown := List.mem_cons_of_mem _ (List.mem_append_left _ (List.mem_of_getElem? (i := 1) rfl))
set_option maxHeartbeats 4000000 in
set_option maxRecDepth 100000 in
theorem c_X3_lastThrown (l : Launch) (dC : Nat → ClassId) (dI : Nat → Nat → Nat) (Q : CQ) (N : Nat) (σ : CS) (R : Option Nat × CS) (hf : f_X3_lastThrown N σ = some R) : Met l yX3_lastThrown wzX3_lastThrown ({ frames := 1, cells := CS.hs R.2 - CS.hs σ, slots := 17 * (CS.hs R.2 - CS.hs σ), locals := 60 * 1 }) (va_Pc [.ref (Q.o 7)] (zPre dC dI (CS.hs σ) (cW Q σ) (cT Q))) (va_Qq (fun (r : Option Nat) (_ : Unit) => r = R.1) (fun (_ : Unit) (t : State) => zPost dC dI (va_A (cW Q σ) (CS.hs σ)) (cW Q R.2) (cT Q) t ∧ t.heap.size = CS.hs R.2) (va_A (cW Q σ) (CS.hs σ))) (CS.hs R.2 - CS.hs σ) (17 * (CS.hs R.2 - CS.hs σ)) (va_A (cW Q σ) (CS.hs σ)) := by
  refine Met.ofW (cc := cX3_lastThrown) (maxL := 1) (ret := (some (.object "StatementRules2$Thrown"))) (by decide) rfl ?_
  intro p e s m args below meth c s₁ B hml hv
  obtain ⟨rfl, hsz, hZ, hP, hK, hD0⟩ := hv
  have hx := B.exec
  have hb := B.bytes
  have hr := B.returns
  have hts := atoms_spec (ws := wzX3_lastThrown) B.pre
  have hown : s.vm.findClass RX3 = some m.cls := findClass_of_methodNamed B.named
  have hlocks := B.notSynchronized
  have hD := hD0.self (sz := CS.hs σ)
  generalize hAe : va_A (cW Q σ) (CS.hs σ) = A at hD ⊢
  have hA : ∀ q : Nat, s.heap.size ≤ q → A q := fun q h => by rw [← hAe]; exact Or.inr (hsz ▸ h)
  have hC : CP dC dI Q A s.heap σ s.heap [] := ⟨hP, hD, va_S.rf, hsz⟩
  have h0 : CS.hs σ ≤ CS.hs σ := Nat.le_refl _
  have hl := lv_entry ([.ref (Q.o 7)]) (n := 1) (Nat.le_of_ble_eq_true rfl)
  rw [lg_entry_eq]
  generalize (lg_sl ([.ref (Q.o 7)]) ++ List.replicate (1 - (lg_sl ([.ref (Q.o 7)])).length) Slot.unset).toArray = ls at hl ⊢
  have hl : lv_has ls 1 [(0, .ref (Q.o 7))] := hl
  unfold f_X3_lastThrown at hf
  refine W.widen (k := CS.hs σ - CS.hs σ) (n := 17 * (CS.hs σ - CS.hs σ)) (Nat.zero_le _) (Nat.zero_le _) ?_
  refine lv_aload_n hx hb dX3_lastThrown_0 rfl (lv_at hl 0 rfl) ?_
  refine cG_72 (v := (σ.i 72)) hx hb hts i_X3_lastThrown_X3 hown hK hC (hts (.fieldLink RX3 85 "StatementRules2$Machine" "outcome" "I") k_X3_lastThrown_fieldLink_RX3_85_SR_Machine_outcome_I) (fun _ q9 => q9) dX3_lastThrown_1 rfl ?_
  refine lv_iconst (v := 2) hx hb dX3_lastThrown_4 (by decide) ?_
  refine lv_icmp_ne (tgt := 15) hx hb dX3_lastThrown_5 (by decide) (fun c1 => ?_) (fun c1 => ?_)
  ·
    replace hf := (if_neg c1).symm.trans hf
    refine lv_null hx hb dX3_lastThrown_15 ?_
    obtain rfl := Option.some.inj hf
    exact W.aret (v := .null) hx hb hr (Or.inl ⟨_, rfl⟩) (Or.inl rfl) (fun t ht hW => ⟨⟨none, (), rfl, rfl, ⟨by rw [ht]; exact hC.1, va_K.moved hW.alike hK, hC.2.1⟩, by rw [ht]; exact hC.2.2.2⟩, hC.2.2.1.F ht⟩) hC.2.2.1.2.2 dX3_lastThrown_16
  ·
    replace hf := (if_pos c1).symm.trans hf
    refine lv_aload_n hx hb dX3_lastThrown_8 rfl (lv_at hl 0 rfl) ?_
    refine cG_76 (v := (CS.w σ)) hx hb hts i_X3_lastThrown_X3 hown hK hC (hts (.fieldLink RX3 81 "StatementRules2$Machine" "wayThrown" "LStatementRules2$Thrown;") k_X3_lastThrown_fieldLink_RX3_81_SR_Machine_wayThrown_LSR_Thrown) (fun _ q9 => q9) dX3_lastThrown_9 rfl ?_
    rcases hf_oc hf with ⟨q2, hf⟩ | ⟨a3, q2, hf⟩
    ·
      refine W.eq (congrArg (fun v9 => F0 m 12 ls (va_rf v9 :: [])) q2) ?_
      refine W.eq (g2 := F0 m 12 ls (.null :: [])) rfl ?_
      refine lv_goto (tgt := 16) hx hb dX3_lastThrown_12 (by decide) ?_
      obtain rfl := Option.some.inj hf
      exact W.aret (v := .null) hx hb hr (Or.inl ⟨_, rfl⟩) (Or.inl rfl) (fun t ht hW => ⟨⟨none, (), rfl, rfl, ⟨by rw [ht]; exact hC.1, va_K.moved hW.alike hK, hC.2.1⟩, by rw [ht]; exact hC.2.2.2⟩, hC.2.2.1.F ht⟩) hC.2.2.1.2.2 dX3_lastThrown_16
    ·
      refine W.eq (congrArg (fun v9 => F0 m 12 ls (va_rf v9 :: [])) q2) ?_
      refine W.eq (g2 := F0 m 12 ls (.ref a3 :: [])) rfl ?_
      refine lv_goto (tgt := 16) hx hb dX3_lastThrown_12 (by decide) ?_
      obtain rfl := Option.some.inj hf
      exact W.aret (v := .ref a3) hx hb hr (Or.inl ⟨_, rfl⟩) (Or.inr ⟨_, rfl⟩) (fun t ht hW => ⟨⟨(some a3), (), rfl, rfl, ⟨by rw [ht]; exact hC.1, va_K.moved hW.alike hK, hC.2.1⟩, by rw [ht]; exact hC.2.2.2⟩, hC.2.2.1.F ht⟩) hC.2.2.1.2.2 dX3_lastThrown_16
theorem k_X3_answer_fieldLink_RX3_69_SR_Machine_steps_I : Cond.fieldLink RX3 69 "StatementRules2$Machine" "steps" "I" ∈ wzX3_answer := List.mem_cons_of_mem _ (List.mem_append_left _ (List.mem_of_getElem? (i := 0) rfl))
theorem i_X3_answer_X3 : ∀ w ∈ wsX30, w ∈ wzX3_answer := fun _ h => List.mem_cons_of_mem _ (List.mem_append_right _ (List.mem_append_left _ (h)))
theorem k_X3_answer_fieldLink_RX3_66_SR_Machine_rowCount_I : Cond.fieldLink RX3 66 "StatementRules2$Machine" "rowCount" "I" ∈ wzX3_answer := List.mem_cons_of_mem _ (List.mem_append_left _ (List.mem_of_getElem? (i := 1) rfl))
theorem k_X3_answer_fieldLink_RX3_85_SR_Machine_outcome_I : Cond.fieldLink RX3 85 "StatementRules2$Machine" "outcome" "I" ∈ wzX3_answer := List.mem_cons_of_mem _ (List.mem_append_left _ (List.mem_of_getElem? (i := 2) rfl))
theorem k_X3_answer_fieldLink_RX3_78_SR_Machine_wayValue_I : Cond.fieldLink RX3 78 "StatementRules2$Machine" "wayValue" "I" ∈ wzX3_answer := List.mem_cons_of_mem _ (List.mem_append_left _ (List.mem_of_getElem? (i := 3) rfl))
theorem k_X3_answer_fieldLink_RX3_72_SR_Machine_taken_I : Cond.fieldLink RX3 72 "StatementRules2$Machine" "taken" "I" ∈ wzX3_answer := List.mem_cons_of_mem _ (List.mem_append_left _ (List.mem_of_getElem? (i := 4) rfl))
theorem i_X3_answer_X8 : ∀ w ∈ wsX80, w ∈ wzX3_answer := fun _ h => List.mem_cons_of_mem _ (List.mem_append_right _ (List.mem_append_right _ (List.mem_append_left _ (h))))
set_option maxHeartbeats 4000000 in
set_option maxRecDepth 100000 in
theorem c_X3_answer (l : Launch) (dC : Nat → ClassId) (dI : Nat → Nat → Nat) (Q : CQ) (N : Nat) (σ : CS) (x1 : Int32) (R : Int32 × CS) (hf : f_X3_answer N σ x1 = some R) : Met l yX3_answer wzX3_answer ({ frames := 2, cells := CS.hs R.2 - CS.hs σ, slots := 17 * (CS.hs R.2 - CS.hs σ), locals := 60 * 2 }) (va_Pc [.ref (Q.o 7), .int x1] (zPre dC dI (CS.hs σ) (cW Q σ) (cT Q))) (va_Qi (fun (r : Int32) (_ : Unit) => r = R.1) (fun (_ : Unit) (t : State) => zPost dC dI (va_A (cW Q σ) (CS.hs σ)) (cW Q R.2) (cT Q) t ∧ t.heap.size = CS.hs R.2) (va_A (cW Q σ) (CS.hs σ))) (CS.hs R.2 - CS.hs σ) (17 * (CS.hs R.2 - CS.hs σ)) (va_A (cW Q σ) (CS.hs σ)) := by
  refine Met.ofW (cc := cX3_answer) (maxL := 3) (ret := (some .int)) (by decide) rfl ?_
  intro p e s m args below meth c s₁ B hml hv
  obtain ⟨rfl, hsz, hZ, hP, hK, hD0⟩ := hv
  have hx := B.exec
  have hb := B.bytes
  have hr := B.returns
  have hts := atoms_spec (ws := wzX3_answer) B.pre
  have hown : s.vm.findClass RX3 = some m.cls := findClass_of_methodNamed B.named
  have hlocks := B.notSynchronized
  have hD := hD0.self (sz := CS.hs σ)
  generalize hAe : va_A (cW Q σ) (CS.hs σ) = A at hD ⊢
  have hA : ∀ q : Nat, s.heap.size ≤ q → A q := fun q h => by rw [← hAe]; exact Or.inr (hsz ▸ h)
  have hC : CP dC dI Q A s.heap σ s.heap [] := ⟨hP, hD, va_S.rf, hsz⟩
  have h0 : CS.hs σ ≤ CS.hs σ := Nat.le_refl _
  have hl := lv_entry ([.ref (Q.o 7), .int x1]) (n := 3) (Nat.le_of_ble_eq_true rfl)
  rw [lg_entry_eq]
  generalize (lg_sl ([.ref (Q.o 7), .int x1]) ++ List.replicate (3 - (lg_sl ([.ref (Q.o 7), .int x1])).length) Slot.unset).toArray = ls at hl ⊢
  have hl : lv_has ls 3 [(0, .ref (Q.o 7)), (1, .int x1)] := hl
  unfold f_X3_answer at hf
  refine W.widen (k := CS.hs σ - CS.hs σ) (n := 17 * (CS.hs σ - CS.hs σ)) (Nat.zero_le _) (Nat.zero_le _) ?_
  refine lv_aload_n hx hb dX3_answer_0 rfl (lv_at hl 0 rfl) ?_
  obtain ⟨p1, hcp1, hf⟩ := hf_bind hf
  have hm2 : CS.hs σ ≤ CS.hs p1.2 := Mono.go hcp1 (m_X3_lastThrown N σ)
  have hr9 : CS.hs p1.2 ≤ CS.hs R.2 := Mono.go hf (mono_oc (mono_ite (mono_some (Nat.le_refl _)) (mono_ite (mono_some (Nat.le_refl _)) (mono_ite (mono_ite (mono_some (Nat.le_refl _)) (mono_some (Nat.le_refl _))) (mono_ite (mono_some (Nat.le_refl _)) (mono_ite (mono_some (Nat.le_refl _)) (mono_ite (mono_some (Nat.le_refl _)) (mono_some (Nat.le_refl _)))))))) (fun a6 => (mono_ite (mono_some (Nat.le_refl _)) (mono_ite (mono_some (Nat.le_refl _)) (mono_ite (mono_ite (mono_some (Nat.le_refl _)) (mono_some (Nat.le_refl _))) (mono_ite (mono_ite (mono_some (Nat.le_refl _)) mono_none) (mono_ite (mono_ite (mono_some (Nat.le_refl _)) mono_none) (mono_ite (mono_ite (mono_some (Nat.le_refl _)) mono_none) (mono_some (Nat.le_refl _))))))))))
  have hFc := cFree hC hA
  refine va_callq (va_runV (As := []) (rest := []) ⟨hx, hb, hml, hown, hts⟩ (c_X3_lastThrown l dC dI Q N σ p1 hcp1) (cwV 0 hts hX3_answer_X3_lastThrown_v95 rfl rfl rfl (by decide +kernel) ⟨(show 1 + 1 ≤ 2 by omega), (show 8 + (1 + 11) + 60 * 1 ≤ 60 * 2 by omega)⟩) ⟨zPre.blind, va_recv hK hC.1 (ci := 2) (q0 := 7) rfl rfl, cPre_go hZ hK hC⟩ rfl rfl hl.1 rfl (lv_room (Nat.le_of_ble_eq_true rfl)) dX3_answer_1 (cAcc h0 hm2 hr9)) hC.2.2.1 (fun q _ h => hFc q h) hFc (fun r3 u9 t9 H1 locs ht hvm hw hB hz1 hk1 hS => ?_)
  obtain ⟨⟨hP, hK1, hD1⟩, hsz1⟩ := hB
  rw [ht] at hP hsz1
  have hC : CP dC dI Q A s.heap p1.2 H1 locs := ⟨hP, hD1.weaken (fun _ _ _ h => hFc _ h), hS, hsz1⟩
  generalize H1 = H at hC ⊢
  have h4 : (CS.hs σ) ≤ CS.hs p1.2 := Nat.le_trans h0 hm2
  refine W.widen (k := CS.hs p1.2 - (CS.hs σ)) (n := 17 * (CS.hs p1.2 - (CS.hs σ))) (cAcc2 h0 hm2) (cAcc3 h0 hm2) ?_
  obtain rfl : r3 = p1.1 := hw
  rcases hf_oc hf with ⟨q5, hf⟩ | ⟨a6, q5, hf⟩
  ·
    refine W.eq (congrArg (fun v9 => F0 m 4 ls (va_rf v9 :: [])) q5) ?_
    refine W.eq (g2 := F0 m 4 ls (.null :: [])) rfl ?_
    refine lv_astore_nN (lv' := [(2, .null), (0, .ref (Q.o 7)), (1, .int x1)]) hx hb dX3_answer_4 rfl hl (by decide) rfl (fun ls hl => ?_)
    refine lv_iload_n hx hb dX3_answer_5 rfl (lv_at hl 2 rfl) ?_
    by_cases c7 : x1 = 0
    ·
      replace hf := (if_pos c7).symm.trans hf
      refine lv_tableIn (off := 38) (tgt := 44) hx hb dX3_answer_6 (by rw [c7]; decide) (by rw [c7]; decide) (by rw [c7]; decide) (by decide) ?_
      refine lv_aload_n hx hb dX3_answer_44 rfl (lv_at hl 1 rfl) ?_
      refine cG_70 (v := (p1.2.i 70)) hx hb hts i_X3_answer_X3 hown hK hC (hts (.fieldLink RX3 69 "StatementRules2$Machine" "steps" "I") k_X3_answer_fieldLink_RX3_69_SR_Machine_steps_I) (fun _ q9 => q9) dX3_answer_45 rfl ?_
      obtain rfl := Option.some.inj hf
      exact W.iret (v := (p1.2.i 70)) hx hb hr (fun t ht hW => ⟨⟨(p1.2.i 70), (), rfl, rfl, ⟨by rw [ht]; exact hC.1, va_K.moved hW.alike hK, hC.2.1⟩, by rw [ht]; exact hC.2.2.2⟩, hC.2.2.1.F ht⟩) hC.2.2.1.2.2 dX3_answer_48
    replace hf := (if_neg c7).symm.trans hf
    by_cases c8 : x1 = 1
    ·
      replace hf := (if_pos c8).symm.trans hf
      refine lv_tableIn (off := 43) (tgt := 49) hx hb dX3_answer_6 (by rw [c8]; decide) (by rw [c8]; decide) (by rw [c8]; decide) (by decide) ?_
      refine lv_aload_n hx hb dX3_answer_49 rfl (lv_at hl 1 rfl) ?_
      refine cG_69 (v := (p1.2.i 69)) hx hb hts i_X3_answer_X3 hown hK hC (hts (.fieldLink RX3 66 "StatementRules2$Machine" "rowCount" "I") k_X3_answer_fieldLink_RX3_66_SR_Machine_rowCount_I) (fun _ q9 => q9) dX3_answer_50 rfl ?_
      obtain rfl := Option.some.inj hf
      exact W.iret (v := (p1.2.i 69)) hx hb hr (fun t ht hW => ⟨⟨(p1.2.i 69), (), rfl, rfl, ⟨by rw [ht]; exact hC.1, va_K.moved hW.alike hK, hC.2.1⟩, by rw [ht]; exact hC.2.2.2⟩, hC.2.2.1.F ht⟩) hC.2.2.1.2.2 dX3_answer_53
    replace hf := (if_neg c8).symm.trans hf
    by_cases c9 : x1 = 2
    ·
      replace hf := (if_pos c9).symm.trans hf
      refine lv_tableIn (off := 48) (tgt := 54) hx hb dX3_answer_6 (by rw [c9]; decide) (by rw [c9]; decide) (by rw [c9]; decide) (by decide) ?_
      refine lv_aload_n hx hb dX3_answer_54 rfl (lv_at hl 1 rfl) ?_
      refine cG_72 (v := (p1.2.i 72)) hx hb hts i_X3_answer_X3 hown hK hC (hts (.fieldLink RX3 85 "StatementRules2$Machine" "outcome" "I") k_X3_answer_fieldLink_RX3_85_SR_Machine_outcome_I) (fun _ q9 => q9) dX3_answer_55 rfl ?_
      refine lv_iconst (v := 1) hx hb dX3_answer_58 (by decide) ?_
      refine lv_icmp_ne (tgt := 69) hx hb dX3_answer_59 (by decide) (fun c10 => ?_) (fun c10 => ?_)
      ·
        replace hf := (if_neg c10).symm.trans hf
        refine lv_iconst (v := 0) hx hb dX3_answer_69 (by decide) ?_
        obtain rfl := Option.some.inj hf
        exact W.iret (v := 0) hx hb hr (fun t ht hW => ⟨⟨0, (), rfl, rfl, ⟨by rw [ht]; exact hC.1, va_K.moved hW.alike hK, hC.2.1⟩, by rw [ht]; exact hC.2.2.2⟩, hC.2.2.1.F ht⟩) hC.2.2.1.2.2 dX3_answer_70
      ·
        replace hf := (if_pos c10).symm.trans hf
        refine lv_aload_n hx hb dX3_answer_62 rfl (lv_at hl 1 rfl) ?_
        refine cG_74 (v := (p1.2.i 74)) hx hb hts i_X3_answer_X3 hown hK hC (hts (.fieldLink RX3 78 "StatementRules2$Machine" "wayValue" "I") k_X3_answer_fieldLink_RX3_78_SR_Machine_wayValue_I) (fun _ q9 => q9) dX3_answer_63 rfl ?_
        refine lv_goto (tgt := 70) hx hb dX3_answer_66 (by decide) ?_
        obtain rfl := Option.some.inj hf
        exact W.iret (v := (p1.2.i 74)) hx hb hr (fun t ht hW => ⟨⟨(p1.2.i 74), (), rfl, rfl, ⟨by rw [ht]; exact hC.1, va_K.moved hW.alike hK, hC.2.1⟩, by rw [ht]; exact hC.2.2.2⟩, hC.2.2.1.F ht⟩) hC.2.2.1.2.2 dX3_answer_70
    replace hf := (if_neg c9).symm.trans hf
    by_cases c11 : x1 = 3
    ·
      replace hf := (if_pos c11).symm.trans hf
      refine lv_tableIn (off := 65) (tgt := 71) hx hb dX3_answer_6 (by rw [c11]; decide) (by rw [c11]; decide) (by rw [c11]; decide) (by decide) ?_
      refine lv_aload_nN hx hb dX3_answer_71 rfl (lv_at hl 0 rfl) ?_
      refine lv_ifnonnullN hx hb dX3_answer_72 ?_
      refine lv_iconst (v := (-1)) hx hb dX3_answer_75 (by decide) ?_
      refine lv_goto (tgt := 83) hx hb dX3_answer_76 (by decide) ?_
      obtain rfl := Option.some.inj hf
      exact W.iret (v := (-1)) hx hb hr (fun t ht hW => ⟨⟨(-1), (), rfl, rfl, ⟨by rw [ht]; exact hC.1, va_K.moved hW.alike hK, hC.2.1⟩, by rw [ht]; exact hC.2.2.2⟩, hC.2.2.1.F ht⟩) hC.2.2.1.2.2 dX3_answer_83
    replace hf := (if_neg c11).symm.trans hf
    by_cases c12 : x1 = 4
    ·
      replace hf := (if_pos c12).symm.trans hf
      refine lv_tableIn (off := 78) (tgt := 84) hx hb dX3_answer_6 (by rw [c12]; decide) (by rw [c12]; decide) (by rw [c12]; decide) (by decide) ?_
      refine lv_aload_nN hx hb dX3_answer_84 rfl (lv_at hl 0 rfl) ?_
      refine lv_ifnonnullN hx hb dX3_answer_85 ?_
      refine lv_iconst (v := 0) hx hb dX3_answer_88 (by decide) ?_
      refine lv_goto (tgt := 96) hx hb dX3_answer_89 (by decide) ?_
      obtain rfl := Option.some.inj hf
      exact W.iret (v := 0) hx hb hr (fun t ht hW => ⟨⟨0, (), rfl, rfl, ⟨by rw [ht]; exact hC.1, va_K.moved hW.alike hK, hC.2.1⟩, by rw [ht]; exact hC.2.2.2⟩, hC.2.2.1.F ht⟩) hC.2.2.1.2.2 dX3_answer_96
    replace hf := (if_neg c12).symm.trans hf
    by_cases c13 : x1 = 5
    ·
      replace hf := (if_pos c13).symm.trans hf
      refine lv_tableIn (off := 91) (tgt := 97) hx hb dX3_answer_6 (by rw [c13]; decide) (by rw [c13]; decide) (by rw [c13]; decide) (by decide) ?_
      refine lv_aload_nN hx hb dX3_answer_97 rfl (lv_at hl 0 rfl) ?_
      refine lv_ifnonnullN hx hb dX3_answer_98 ?_
      refine lv_iconst (v := 0) hx hb dX3_answer_101 (by decide) ?_
      refine lv_goto (tgt := 109) hx hb dX3_answer_102 (by decide) ?_
      obtain rfl := Option.some.inj hf
      exact W.iret (v := 0) hx hb hr (fun t ht hW => ⟨⟨0, (), rfl, rfl, ⟨by rw [ht]; exact hC.1, va_K.moved hW.alike hK, hC.2.1⟩, by rw [ht]; exact hC.2.2.2⟩, hC.2.2.1.F ht⟩) hC.2.2.1.2.2 dX3_answer_109
    replace hf := (if_neg c13).symm.trans hf
    refine lv_tableOut (tgt := 110) hx hb dX3_answer_6 (by have := z_ton (a := 0) c7 (by decide); have := z_ton (a := 1) c8 (by decide); have := z_ton (a := 2) c9 (by decide); have := z_ton (a := 3) c11 (by decide); have := z_ton (a := 4) c12 (by decide); have := z_ton (a := 5) c13 (by decide); omega) (by decide) ?_
    refine lv_aload_n hx hb dX3_answer_110 rfl (lv_at hl 1 rfl) ?_
    refine cG_71 (v := (p1.2.i 71)) hx hb hts i_X3_answer_X3 hown hK hC (hts (.fieldLink RX3 72 "StatementRules2$Machine" "taken" "I") k_X3_answer_fieldLink_RX3_72_SR_Machine_taken_I) (fun _ q9 => q9) dX3_answer_111 rfl ?_
    obtain rfl := Option.some.inj hf
    exact W.iret (v := (p1.2.i 71)) hx hb hr (fun t ht hW => ⟨⟨(p1.2.i 71), (), rfl, rfl, ⟨by rw [ht]; exact hC.1, va_K.moved hW.alike hK, hC.2.1⟩, by rw [ht]; exact hC.2.2.2⟩, hC.2.2.1.F ht⟩) hC.2.2.1.2.2 dX3_answer_114
  ·
    refine W.eq (congrArg (fun v9 => F0 m 4 ls (va_rf v9 :: [])) q5) ?_
    refine W.eq (g2 := F0 m 4 ls (.ref a6 :: [])) rfl ?_
    refine lv_astore_n (lv' := [(2, .ref a6), (0, .ref (Q.o 7)), (1, .int x1)]) hx hb dX3_answer_4 rfl hl (by decide) rfl (fun ls hl => ?_)
    refine lv_iload_n hx hb dX3_answer_5 rfl (lv_at hl 2 rfl) ?_
    by_cases c14 : x1 = 0
    ·
      replace hf := (if_pos c14).symm.trans hf
      refine lv_tableIn (off := 38) (tgt := 44) hx hb dX3_answer_6 (by rw [c14]; decide) (by rw [c14]; decide) (by rw [c14]; decide) (by decide) ?_
      refine lv_aload_n hx hb dX3_answer_44 rfl (lv_at hl 1 rfl) ?_
      refine cG_70 (v := (p1.2.i 70)) hx hb hts i_X3_answer_X3 hown hK hC (hts (.fieldLink RX3 69 "StatementRules2$Machine" "steps" "I") k_X3_answer_fieldLink_RX3_69_SR_Machine_steps_I) (fun _ q9 => q9) dX3_answer_45 rfl ?_
      obtain rfl := Option.some.inj hf
      exact W.iret (v := (p1.2.i 70)) hx hb hr (fun t ht hW => ⟨⟨(p1.2.i 70), (), rfl, rfl, ⟨by rw [ht]; exact hC.1, va_K.moved hW.alike hK, hC.2.1⟩, by rw [ht]; exact hC.2.2.2⟩, hC.2.2.1.F ht⟩) hC.2.2.1.2.2 dX3_answer_48
    replace hf := (if_neg c14).symm.trans hf
    by_cases c15 : x1 = 1
    ·
      replace hf := (if_pos c15).symm.trans hf
      refine lv_tableIn (off := 43) (tgt := 49) hx hb dX3_answer_6 (by rw [c15]; decide) (by rw [c15]; decide) (by rw [c15]; decide) (by decide) ?_
      refine lv_aload_n hx hb dX3_answer_49 rfl (lv_at hl 1 rfl) ?_
      refine cG_69 (v := (p1.2.i 69)) hx hb hts i_X3_answer_X3 hown hK hC (hts (.fieldLink RX3 66 "StatementRules2$Machine" "rowCount" "I") k_X3_answer_fieldLink_RX3_66_SR_Machine_rowCount_I) (fun _ q9 => q9) dX3_answer_50 rfl ?_
      obtain rfl := Option.some.inj hf
      exact W.iret (v := (p1.2.i 69)) hx hb hr (fun t ht hW => ⟨⟨(p1.2.i 69), (), rfl, rfl, ⟨by rw [ht]; exact hC.1, va_K.moved hW.alike hK, hC.2.1⟩, by rw [ht]; exact hC.2.2.2⟩, hC.2.2.1.F ht⟩) hC.2.2.1.2.2 dX3_answer_53
    replace hf := (if_neg c15).symm.trans hf
    by_cases c16 : x1 = 2
    ·
      replace hf := (if_pos c16).symm.trans hf
      refine lv_tableIn (off := 48) (tgt := 54) hx hb dX3_answer_6 (by rw [c16]; decide) (by rw [c16]; decide) (by rw [c16]; decide) (by decide) ?_
      refine lv_aload_n hx hb dX3_answer_54 rfl (lv_at hl 1 rfl) ?_
      refine cG_72 (v := (p1.2.i 72)) hx hb hts i_X3_answer_X3 hown hK hC (hts (.fieldLink RX3 85 "StatementRules2$Machine" "outcome" "I") k_X3_answer_fieldLink_RX3_85_SR_Machine_outcome_I) (fun _ q9 => q9) dX3_answer_55 rfl ?_
      refine lv_iconst (v := 1) hx hb dX3_answer_58 (by decide) ?_
      refine lv_icmp_ne (tgt := 69) hx hb dX3_answer_59 (by decide) (fun c17 => ?_) (fun c17 => ?_)
      ·
        replace hf := (if_neg c17).symm.trans hf
        refine lv_iconst (v := 0) hx hb dX3_answer_69 (by decide) ?_
        obtain rfl := Option.some.inj hf
        exact W.iret (v := 0) hx hb hr (fun t ht hW => ⟨⟨0, (), rfl, rfl, ⟨by rw [ht]; exact hC.1, va_K.moved hW.alike hK, hC.2.1⟩, by rw [ht]; exact hC.2.2.2⟩, hC.2.2.1.F ht⟩) hC.2.2.1.2.2 dX3_answer_70
      ·
        replace hf := (if_pos c17).symm.trans hf
        refine lv_aload_n hx hb dX3_answer_62 rfl (lv_at hl 1 rfl) ?_
        refine cG_74 (v := (p1.2.i 74)) hx hb hts i_X3_answer_X3 hown hK hC (hts (.fieldLink RX3 78 "StatementRules2$Machine" "wayValue" "I") k_X3_answer_fieldLink_RX3_78_SR_Machine_wayValue_I) (fun _ q9 => q9) dX3_answer_63 rfl ?_
        refine lv_goto (tgt := 70) hx hb dX3_answer_66 (by decide) ?_
        obtain rfl := Option.some.inj hf
        exact W.iret (v := (p1.2.i 74)) hx hb hr (fun t ht hW => ⟨⟨(p1.2.i 74), (), rfl, rfl, ⟨by rw [ht]; exact hC.1, va_K.moved hW.alike hK, hC.2.1⟩, by rw [ht]; exact hC.2.2.2⟩, hC.2.2.1.F ht⟩) hC.2.2.1.2.2 dX3_answer_70
    replace hf := (if_neg c16).symm.trans hf
    by_cases c18 : x1 = 3
    ·
      replace hf := (if_pos c18).symm.trans hf
      refine lv_tableIn (off := 65) (tgt := 71) hx hb dX3_answer_6 (by rw [c18]; decide) (by rw [c18]; decide) (by rw [c18]; decide) (by decide) ?_
      refine lv_aload_n hx hb dX3_answer_71 rfl (lv_at hl 0 rfl) ?_
      refine lv_ifnonnull (tgt := 79) hx hb dX3_answer_72 (by decide) ?_
      refine lv_aload_n hx hb dX3_answer_79 rfl (lv_at hl 0 rfl) ?_
      obtain ⟨b19, hf⟩ := hf_ite hf
      refine pGN_X8_2 (v := (CS.o p1.2 a6 2)) hx hb hts i_X3_answer_X8 hown hK hC (va_Nw.use rfl (hZ.1 (.fieldLinkNest RX3 99 "StatementRules2$Thrown" "sort" "I" "StatementRules2") (by decide +kernel))) (fun _ q9 => q9) dX3_answer_80 b19 rfl ?_
      obtain rfl := Option.some.inj hf
      exact W.iret (v := (CS.o p1.2 a6 2)) hx hb hr (fun t ht hW => ⟨⟨(CS.o p1.2 a6 2), (), rfl, rfl, ⟨by rw [ht]; exact hC.1, va_K.moved hW.alike hK, hC.2.1⟩, by rw [ht]; exact hC.2.2.2⟩, hC.2.2.1.F ht⟩) hC.2.2.1.2.2 dX3_answer_83
    replace hf := (if_neg c18).symm.trans hf
    by_cases c20 : x1 = 4
    ·
      replace hf := (if_pos c20).symm.trans hf
      refine lv_tableIn (off := 78) (tgt := 84) hx hb dX3_answer_6 (by rw [c20]; decide) (by rw [c20]; decide) (by rw [c20]; decide) (by decide) ?_
      refine lv_aload_n hx hb dX3_answer_84 rfl (lv_at hl 0 rfl) ?_
      refine lv_ifnonnull (tgt := 92) hx hb dX3_answer_85 (by decide) ?_
      refine lv_aload_n hx hb dX3_answer_92 rfl (lv_at hl 0 rfl) ?_
      obtain ⟨b21, hf⟩ := hf_ite hf
      refine pGN_X8_3 (v := (CS.o p1.2 a6 3)) hx hb hts i_X3_answer_X8 hown hK hC (va_Nw.use rfl (hZ.1 (.fieldLinkNest RX3 102 "StatementRules2$Thrown" "number" "I" "StatementRules2") (by decide +kernel))) (fun _ q9 => q9) dX3_answer_93 b21 rfl ?_
      obtain rfl := Option.some.inj hf
      exact W.iret (v := (CS.o p1.2 a6 3)) hx hb hr (fun t ht hW => ⟨⟨(CS.o p1.2 a6 3), (), rfl, rfl, ⟨by rw [ht]; exact hC.1, va_K.moved hW.alike hK, hC.2.1⟩, by rw [ht]; exact hC.2.2.2⟩, hC.2.2.1.F ht⟩) hC.2.2.1.2.2 dX3_answer_96
    replace hf := (if_neg c20).symm.trans hf
    by_cases c22 : x1 = 5
    ·
      replace hf := (if_pos c22).symm.trans hf
      refine lv_tableIn (off := 91) (tgt := 97) hx hb dX3_answer_6 (by rw [c22]; decide) (by rw [c22]; decide) (by rw [c22]; decide) (by decide) ?_
      refine lv_aload_n hx hb dX3_answer_97 rfl (lv_at hl 0 rfl) ?_
      refine lv_ifnonnull (tgt := 105) hx hb dX3_answer_98 (by decide) ?_
      refine lv_aload_n hx hb dX3_answer_105 rfl (lv_at hl 0 rfl) ?_
      obtain ⟨b23, hf⟩ := hf_ite hf
      refine pGN_X8_4 (v := (CS.o p1.2 a6 4)) hx hb hts i_X3_answer_X8 hown hK hC (va_Nw.use rfl (hZ.1 (.fieldLinkNest RX3 105 "StatementRules2$Thrown" "count" "I" "StatementRules2") (by decide +kernel))) (fun _ q9 => q9) dX3_answer_106 b23 rfl ?_
      obtain rfl := Option.some.inj hf
      exact W.iret (v := (CS.o p1.2 a6 4)) hx hb hr (fun t ht hW => ⟨⟨(CS.o p1.2 a6 4), (), rfl, rfl, ⟨by rw [ht]; exact hC.1, va_K.moved hW.alike hK, hC.2.1⟩, by rw [ht]; exact hC.2.2.2⟩, hC.2.2.1.F ht⟩) hC.2.2.1.2.2 dX3_answer_109
    replace hf := (if_neg c22).symm.trans hf
    refine lv_tableOut (tgt := 110) hx hb dX3_answer_6 (by have := z_ton (a := 0) c14 (by decide); have := z_ton (a := 1) c15 (by decide); have := z_ton (a := 2) c16 (by decide); have := z_ton (a := 3) c18 (by decide); have := z_ton (a := 4) c20 (by decide); have := z_ton (a := 5) c22 (by decide); omega) (by decide) ?_
    refine lv_aload_n hx hb dX3_answer_110 rfl (lv_at hl 1 rfl) ?_
    refine cG_71 (v := (p1.2.i 71)) hx hb hts i_X3_answer_X3 hown hK hC (hts (.fieldLink RX3 72 "StatementRules2$Machine" "taken" "I") k_X3_answer_fieldLink_RX3_72_SR_Machine_taken_I) (fun _ q9 => q9) dX3_answer_111 rfl ?_
    obtain rfl := Option.some.inj hf
    exact W.iret (v := (p1.2.i 71)) hx hb hr (fun t ht hW => ⟨⟨(p1.2.i 71), (), rfl, rfl, ⟨by rw [ht]; exact hC.1, va_K.moved hW.alike hK, hC.2.1⟩, by rw [ht]; exact hC.2.2.2⟩, hC.2.2.1.F ht⟩) hC.2.2.1.2.2 dX3_answer_114
theorem k_X4_add_fieldLink_RX4_20_SR_Names_count_I : Cond.fieldLink RX4 20 "StatementRules2$Names" "count" "I" ∈ wzX4_add := List.mem_cons_of_mem _ (List.mem_append_left _ (List.mem_of_getElem? (i := 0) rfl))
theorem i_X4_add_X4 : ∀ w ∈ wsX40, w ∈ wzX4_add := fun _ h => List.mem_cons_of_mem _ (List.mem_append_right _ (List.mem_append_left _ (h)))
theorem k_X4_add_fieldLink_RX4_7_SR_Names_names_J : Cond.fieldLink RX4 7 "StatementRules2$Names" "names" "[J" ∈ wzX4_add := List.mem_cons_of_mem _ (List.mem_append_left _ (List.mem_of_getElem? (i := 1) rfl))
theorem k_X4_add_fieldLink_RX4_13_SR_Names_cells_I : Cond.fieldLink RX4 13 "StatementRules2$Names" "cells" "[I" ∈ wzX4_add := List.mem_cons_of_mem _ (List.mem_append_left _ (List.mem_of_getElem? (i := 2) rfl))
theorem k_X4_add_fieldLink_RX4_17_SR_Names_frames_I : Cond.fieldLink RX4 17 "StatementRules2$Names" "frames" "[I" ∈ wzX4_add := List.mem_cons_of_mem _ (List.mem_append_left _ (List.mem_of_getElem? (i := 3) rfl))
set_option maxHeartbeats 4000000 in
set_option maxRecDepth 100000 in
theorem c_X4_add (l : Launch) (dC : Nat → ClassId) (dI : Nat → Nat → Nat) (Q : CQ) (N : Nat) (σ : CS) (x1 : Int64) (x3 : Int32) (x4 : Int32) (R : Unit × CS) (hf : f_X4_add N σ x1 x3 x4 = some R) : Met l yX4_add wzX4_add ({ frames := 1, cells := CS.hs R.2 - CS.hs σ, slots := 17 * (CS.hs R.2 - CS.hs σ), locals := 60 * 1 }) (va_Pc [.ref (Q.o 5), .long x1, .int x3, .int x4] (zPre dC dI (CS.hs σ) (cW Q σ) (cT Q))) (va_Qv (fun (_ : Unit) => True) (fun (_ : Unit) (t : State) => zPost dC dI (va_A (cW Q σ) (CS.hs σ)) (cW Q R.2) (cT Q) t ∧ t.heap.size = CS.hs R.2) (va_A (cW Q σ) (CS.hs σ))) (CS.hs R.2 - CS.hs σ) (17 * (CS.hs R.2 - CS.hs σ)) (va_A (cW Q σ) (CS.hs σ)) := by
  refine Met.ofW (cc := cX4_add) (maxL := 5) (ret := none) (by decide) rfl ?_
  intro p e s m args below meth c s₁ B hml hv
  obtain ⟨rfl, hsz, hZ, hP, hK, hD0⟩ := hv
  have hx := B.exec
  have hb := B.bytes
  have hr := B.returns
  have hts := atoms_spec (ws := wzX4_add) B.pre
  have hown : s.vm.findClass RX4 = some m.cls := findClass_of_methodNamed B.named
  have hlocks := B.notSynchronized
  have hD := hD0.self (sz := CS.hs σ)
  generalize hAe : va_A (cW Q σ) (CS.hs σ) = A at hD ⊢
  have hA : ∀ q : Nat, s.heap.size ≤ q → A q := fun q h => by rw [← hAe]; exact Or.inr (hsz ▸ h)
  have hC : CP dC dI Q A s.heap σ s.heap [] := ⟨hP, hD, va_S.rf, hsz⟩
  have h0 : CS.hs σ ≤ CS.hs σ := Nat.le_refl _
  have hl := lv_entry ([.ref (Q.o 5), .long x1, .int x3, .int x4]) (n := 5) (Nat.le_of_ble_eq_true rfl)
  rw [lg_entry_eq]
  generalize (lg_sl ([.ref (Q.o 5), .long x1, .int x3, .int x4]) ++ List.replicate (5 - (lg_sl ([.ref (Q.o 5), .long x1, .int x3, .int x4])).length) Slot.unset).toArray = ls at hl ⊢
  have hl : lv_has ls 5 [(0, .ref (Q.o 5)), (1, .long x1), (3, .int x3), (4, .int x4)] := hl
  unfold f_X4_add at hf
  refine W.widen (k := CS.hs σ - CS.hs σ) (n := 17 * (CS.hs σ - CS.hs σ)) (Nat.zero_le _) (Nat.zero_le _) ?_
  refine lv_aload_n hx hb dX4_add_0 rfl (lv_at hl 0 rfl) ?_
  refine cG_50 (v := (σ.i 50)) hx hb hts i_X4_add_X4 hown hK hC (hts (.fieldLink RX4 20 "StatementRules2$Names" "count" "I") k_X4_add_fieldLink_RX4_20_SR_Names_count_I) (fun _ q9 => q9) dX4_add_1 rfl ?_
  refine lv_aload_n hx hb dX4_add_4 rfl (lv_at hl 0 rfl) ?_
  refine cG_47 hx hb hts i_X4_add_X4 hown hK hC (hts (.fieldLink RX4 7 "StatementRules2$Names" "names" "[J") k_X4_add_fieldLink_RX4_7_SR_Names_names_J) (fun _ q9 => q9) dX4_add_5 ?_
  refine va_alen (v := 128) hx hb hK hC.1 19 1 rfl rfl rfl dX4_add_8 ?_
  refine lv_icmp_ge (tgt := 53) hx hb dX4_add_9 (by decide) (fun c1 => ?_) (fun c1 => ?_)
  ·
    replace hf := (if_pos c1).symm.trans hf
    obtain rfl := Option.some.inj hf
    exact W.vret hx hb hr (fun t ht hW => ⟨⟨(), rfl, trivial, ⟨by rw [ht]; exact hC.1, va_K.moved hW.alike hK, hC.2.1⟩, by rw [ht]; exact hC.2.2.2⟩, hC.2.2.1.F ht⟩) hC.2.2.1.2.2 dX4_add_53
  ·
    replace hf := (if_neg c1).symm.trans hf
    refine lv_aload_n hx hb dX4_add_12 rfl (lv_at hl 0 rfl) ?_
    refine cG_47 hx hb hts i_X4_add_X4 hown hK hC (hts (.fieldLink RX4 7 "StatementRules2$Names" "names" "[J") k_X4_add_fieldLink_RX4_7_SR_Names_names_J) (fun _ q9 => q9) dX4_add_13 ?_
    refine lv_aload_n hx hb dX4_add_16 rfl (lv_at hl 0 rfl) ?_
    refine cG_50 (v := (σ.i 50)) hx hb hts i_X4_add_X4 hown hK hC (hts (.fieldLink RX4 20 "StatementRules2$Names" "count" "I") k_X4_add_fieldLink_RX4_20_SR_Names_count_I) (fun _ q9 => q9) dX4_add_17 rfl ?_
    refine lv_lload_n hx hb dX4_add_20 rfl (lv_at hl 1 rfl) ?_
    obtain ⟨b2, hf⟩ := hf_ite hf
    refine cS_47 hx hb hK hC b2 dX4_add_21 (fun H locs hC => ?_)
    refine lv_aload_n hx hb dX4_add_22 rfl (lv_at hl 0 rfl) ?_
    refine cG_48 hx hb hts i_X4_add_X4 hown hK hC (hts (.fieldLink RX4 13 "StatementRules2$Names" "cells" "[I") k_X4_add_fieldLink_RX4_13_SR_Names_cells_I) (fun _ q9 => q9) dX4_add_23 ?_
    refine lv_aload_n hx hb dX4_add_26 rfl (lv_at hl 0 rfl) ?_
    refine cG_50 (v := (σ.i 50)) hx hb hts i_X4_add_X4 hown hK hC (hts (.fieldLink RX4 20 "StatementRules2$Names" "count" "I") k_X4_add_fieldLink_RX4_20_SR_Names_count_I) (fun _ q9 => q9) dX4_add_27 rfl ?_
    refine lv_iload_n hx hb dX4_add_30 rfl (lv_at hl 2 rfl) ?_
    refine cS_48 hx hb hK hC b2 dX4_add_31 (fun H locs hC => ?_)
    refine lv_aload_n hx hb dX4_add_32 rfl (lv_at hl 0 rfl) ?_
    refine cG_49 hx hb hts i_X4_add_X4 hown hK hC (hts (.fieldLink RX4 17 "StatementRules2$Names" "frames" "[I") k_X4_add_fieldLink_RX4_17_SR_Names_frames_I) (fun _ q9 => q9) dX4_add_33 ?_
    refine lv_aload_n hx hb dX4_add_36 rfl (lv_at hl 0 rfl) ?_
    refine cG_50 (v := (σ.i 50)) hx hb hts i_X4_add_X4 hown hK hC (hts (.fieldLink RX4 20 "StatementRules2$Names" "count" "I") k_X4_add_fieldLink_RX4_20_SR_Names_count_I) (fun _ q9 => q9) dX4_add_37 rfl ?_
    refine lv_iload hx hb dX4_add_40 (lv_at hl 3 rfl) ?_
    refine cS_49 hx hb hK hC b2 dX4_add_42 (fun H locs hC => ?_)
    refine lv_aload_n hx hb dX4_add_43 rfl (lv_at hl 0 rfl) ?_
    refine lv_dup hx hb dX4_add_44 rfl ?_
    refine cG_50 (v := (σ.i 50)) hx hb hts i_X4_add_X4 hown hK hC (hts (.fieldLink RX4 20 "StatementRules2$Names" "count" "I") k_X4_add_fieldLink_RX4_20_SR_Names_count_I) (fun _ q9 => q9) dX4_add_45 rfl ?_
    refine lv_iconst (v := 1) hx hb dX4_add_48 (by decide) ?_
    refine lv_iadd hx hb dX4_add_49 ?_
    refine cP_50 (v := ((σ.i 50) + 1)) hx hb hts i_X4_add_X4 hown hK hC (hts (.fieldLink RX4 20 "StatementRules2$Names" "count" "I") k_X4_add_fieldLink_RX4_20_SR_Names_count_I) (fun _ q9 => q9) dX4_add_50 (fun H locs hC => ?_)
    obtain rfl := Option.some.inj hf
    exact W.vret hx hb hr (fun t ht hW => ⟨⟨(), rfl, trivial, ⟨by rw [ht]; exact hC.1, va_K.moved hW.alike hK, hC.2.1⟩, by rw [ht]; exact hC.2.2.2⟩, hC.2.2.1.F ht⟩) hC.2.2.1.2.2 dX4_add_53
theorem k_X4_frameOf_fieldLink_RX4_17_SR_Names_frames_I : Cond.fieldLink RX4 17 "StatementRules2$Names" "frames" "[I" ∈ wzX4_frameOf := List.mem_cons_of_mem _ (List.mem_append_left _ (List.mem_of_getElem? (i := 0) rfl))
theorem i_X4_frameOf_X4 : ∀ w ∈ wsX40, w ∈ wzX4_frameOf := fun _ h => List.mem_cons_of_mem _ (List.mem_append_right _ (List.mem_append_left _ (h)))
theorem k_X4_frameOf_initialized_RX11 : Cond.initialized RX11 ∈ wzX4_frameOf := List.mem_cons_of_mem _ (List.mem_append_left _ (List.mem_of_getElem? (i := 1) rfl))
theorem k_X4_frameOf_static_yX11_at : Cond.static yX11_at ∈ wzX4_frameOf := List.mem_cons_of_mem _ (List.mem_append_left _ (List.mem_of_getElem? (i := 2) rfl))
set_option maxHeartbeats 4000000 in
set_option maxRecDepth 100000 in
theorem c_X4_frameOf (l : Launch) (dC : Nat → ClassId) (dI : Nat → Nat → Nat) (Q : CQ) (N : Nat) (σ : CS) (x1 : Int32) (R : Int32 × CS) (hf : f_X4_frameOf N σ x1 = some R) : Met l yX4_frameOf wzX4_frameOf ({ frames := 2, cells := CS.hs R.2 - CS.hs σ, slots := 17 * (CS.hs R.2 - CS.hs σ), locals := 60 * 2 }) (va_Pc [.ref (Q.o 5), .int x1] (zPre dC dI (CS.hs σ) (cW Q σ) (cT Q))) (va_Qi (fun (r : Int32) (_ : Unit) => r = R.1) (fun (_ : Unit) (t : State) => zPost dC dI (va_A (cW Q σ) (CS.hs σ)) (cW Q R.2) (cT Q) t ∧ t.heap.size = CS.hs R.2) (va_A (cW Q σ) (CS.hs σ))) (CS.hs R.2 - CS.hs σ) (17 * (CS.hs R.2 - CS.hs σ)) (va_A (cW Q σ) (CS.hs σ)) := by
  refine Met.ofW (cc := cX4_frameOf) (maxL := 2) (ret := (some .int)) (by decide) rfl ?_
  intro p e s m args below meth c s₁ B hml hv
  obtain ⟨rfl, hsz, hZ, hP, hK, hD0⟩ := hv
  have hx := B.exec
  have hb := B.bytes
  have hr := B.returns
  have hts := atoms_spec (ws := wzX4_frameOf) B.pre
  have hown : s.vm.findClass RX4 = some m.cls := findClass_of_methodNamed B.named
  have hlocks := B.notSynchronized
  have hD := hD0.self (sz := CS.hs σ)
  generalize hAe : va_A (cW Q σ) (CS.hs σ) = A at hD ⊢
  have hA : ∀ q : Nat, s.heap.size ≤ q → A q := fun q h => by rw [← hAe]; exact Or.inr (hsz ▸ h)
  have hC : CP dC dI Q A s.heap σ s.heap [] := ⟨hP, hD, va_S.rf, hsz⟩
  have h0 : CS.hs σ ≤ CS.hs σ := Nat.le_refl _
  have hl := lv_entry ([.ref (Q.o 5), .int x1]) (n := 2) (Nat.le_of_ble_eq_true rfl)
  rw [lg_entry_eq]
  generalize (lg_sl ([.ref (Q.o 5), .int x1]) ++ List.replicate (2 - (lg_sl ([.ref (Q.o 5), .int x1])).length) Slot.unset).toArray = ls at hl ⊢
  have hl : lv_has ls 2 [(0, .ref (Q.o 5)), (1, .int x1)] := hl
  unfold f_X4_frameOf at hf
  refine W.widen (k := CS.hs σ - CS.hs σ) (n := 17 * (CS.hs σ - CS.hs σ)) (Nat.zero_le _) (Nat.zero_le _) ?_
  refine lv_aload_n hx hb dX4_frameOf_0 rfl (lv_at hl 0 rfl) ?_
  refine cG_49 hx hb hts i_X4_frameOf_X4 hown hK hC (hts (.fieldLink RX4 17 "StatementRules2$Names" "frames" "[I") k_X4_frameOf_fieldLink_RX4_17_SR_Names_frames_I) (fun _ q9 => q9) dX4_frameOf_1 ?_
  refine lv_iload_n hx hb dX4_frameOf_4 rfl (lv_at hl 1 rfl) ?_
  have he9 := (show (cW Q σ)[21]? = some (Q.q 49, .inl (Q.c 0, 128, .inl (σ.a 49))) from rfl)
  have hFc := cFree1 hC hA he9
  have hr9 : CS.hs σ ≤ CS.hs R.2 := Mono.go hf (mono_some (Nat.le_refl _))
  refine va_calli (va_runSN (As := [.ref (Q.q 49), .int x1]) (rest := []) ⟨hx, hb, hml, hown, hts⟩ (c_X11_at l dC dI _ (Q.q 49) (Q.c 0) 128 (σ.a 49) x1 (by decide)) ⟨va_cnB 2 hts hX4_frameOf_X11_at_n24 rfl rfl rfl (hZ.1 (.methodLinkNest RX4 24 yX11_at "StatementRules2") (by decide +kernel)) (hts (.initialized RX11) k_X4_frameOf_initialized_RX11) (by decide +kernel) ⟨(show 1 + 1 ≤ 2 by omega), (show 8 + (2 + 11) + 60 * 1 ≤ 60 * 2 by omega)⟩, (hts (.static yX11_at) k_X4_frameOf_static_yX11_at), trivial⟩ ⟨zPre.blind, zPre.go hZ (cOne hC.1 he9) (hK.sub (tys' := [(Q.c 0, .int)]) [0] rfl) (cOneD hC.2.1 he9)⟩ rfl rfl hl.1 rfl (lv_room (Nat.le_of_ble_eq_true rfl)) dX4_frameOf_5 ⟨cAcc4 h0 hr9, cAcc5 h0 hr9⟩) hC.2.2.1 (fun q _ h => hFc q h) hFc (fun r1 u9 t9 H1 locs ht hvm hw hB hz1 hk1 hS => ?_)
  obtain ⟨⟨hP1, hK1, hD1⟩, hsz1⟩ := hB
  rw [ht] at hP1 hsz1
  have hC := cBack (σ' := σ) hC he9 (cSelf he9) rfl hk1 hP1 hsz1 hS
  generalize H1 = H at hC ⊢
  obtain rfl : r1 = (gAt (σ.a 49) 128 x1) := hw
  obtain rfl := Option.some.inj hf
  exact W.iret (v := (gAt (σ.a 49) 128 x1)) hx hb hr (fun t ht hW => ⟨⟨(gAt (σ.a 49) 128 x1), (), rfl, rfl, ⟨by rw [ht]; exact hC.1, va_K.moved hW.alike hK, hC.2.1⟩, by rw [ht]; exact hC.2.2.2⟩, hC.2.2.1.F ht⟩) hC.2.2.1.2.2 dX4_frameOf_8
theorem k_X4_isCaught_fieldLink_RX4_17_SR_Names_frames_I : Cond.fieldLink RX4 17 "StatementRules2$Names" "frames" "[I" ∈ wzX4_isCaught := List.mem_cons_of_mem _ (List.mem_append_left _ (List.mem_of_getElem? (i := 0) rfl))
theorem i_X4_isCaught_X4 : ∀ w ∈ wsX40, w ∈ wzX4_isCaught := fun _ h => List.mem_cons_of_mem _ (List.mem_append_right _ (List.mem_append_left _ (h)))
theorem k_X4_isCaught_initialized_RX11 : Cond.initialized RX11 ∈ wzX4_isCaught := List.mem_cons_of_mem _ (List.mem_append_left _ (List.mem_of_getElem? (i := 1) rfl))
theorem k_X4_isCaught_static_yX11_at : Cond.static yX11_at ∈ wzX4_isCaught := List.mem_cons_of_mem _ (List.mem_append_left _ (List.mem_of_getElem? (i := 2) rfl))
set_option maxHeartbeats 4000000 in
set_option maxRecDepth 100000 in
theorem c_X4_isCaught (l : Launch) (dC : Nat → ClassId) (dI : Nat → Nat → Nat) (Q : CQ) (N : Nat) (σ : CS) (x1 : Int32) (R : Int32 × CS) (hf : f_X4_isCaught N σ x1 = some R) : Met l yX4_isCaught wzX4_isCaught ({ frames := 2, cells := CS.hs R.2 - CS.hs σ, slots := 17 * (CS.hs R.2 - CS.hs σ), locals := 60 * 2 }) (va_Pc [.ref (Q.o 5), .int x1] (zPre dC dI (CS.hs σ) (cW Q σ) (cT Q))) (va_Qi (fun (r : Int32) (_ : Unit) => r = R.1) (fun (_ : Unit) (t : State) => zPost dC dI (va_A (cW Q σ) (CS.hs σ)) (cW Q R.2) (cT Q) t ∧ t.heap.size = CS.hs R.2) (va_A (cW Q σ) (CS.hs σ))) (CS.hs R.2 - CS.hs σ) (17 * (CS.hs R.2 - CS.hs σ)) (va_A (cW Q σ) (CS.hs σ)) := by
  refine Met.ofW (cc := cX4_isCaught) (maxL := 2) (ret := (some .boolean)) (by decide) rfl ?_
  intro p e s m args below meth c s₁ B hml hv
  obtain ⟨rfl, hsz, hZ, hP, hK, hD0⟩ := hv
  have hx := B.exec
  have hb := B.bytes
  have hr := B.returns
  have hts := atoms_spec (ws := wzX4_isCaught) B.pre
  have hown : s.vm.findClass RX4 = some m.cls := findClass_of_methodNamed B.named
  have hlocks := B.notSynchronized
  have hD := hD0.self (sz := CS.hs σ)
  generalize hAe : va_A (cW Q σ) (CS.hs σ) = A at hD ⊢
  have hA : ∀ q : Nat, s.heap.size ≤ q → A q := fun q h => by rw [← hAe]; exact Or.inr (hsz ▸ h)
  have hC : CP dC dI Q A s.heap σ s.heap [] := ⟨hP, hD, va_S.rf, hsz⟩
  have h0 : CS.hs σ ≤ CS.hs σ := Nat.le_refl _
  have hl := lv_entry ([.ref (Q.o 5), .int x1]) (n := 2) (Nat.le_of_ble_eq_true rfl)
  rw [lg_entry_eq]
  generalize (lg_sl ([.ref (Q.o 5), .int x1]) ++ List.replicate (2 - (lg_sl ([.ref (Q.o 5), .int x1])).length) Slot.unset).toArray = ls at hl ⊢
  have hl : lv_has ls 2 [(0, .ref (Q.o 5)), (1, .int x1)] := hl
  unfold f_X4_isCaught at hf
  refine W.widen (k := CS.hs σ - CS.hs σ) (n := 17 * (CS.hs σ - CS.hs σ)) (Nat.zero_le _) (Nat.zero_le _) ?_
  refine lv_aload_n hx hb dX4_isCaught_0 rfl (lv_at hl 0 rfl) ?_
  refine cG_49 hx hb hts i_X4_isCaught_X4 hown hK hC (hts (.fieldLink RX4 17 "StatementRules2$Names" "frames" "[I") k_X4_isCaught_fieldLink_RX4_17_SR_Names_frames_I) (fun _ q9 => q9) dX4_isCaught_1 ?_
  refine lv_iload_n hx hb dX4_isCaught_4 rfl (lv_at hl 1 rfl) ?_
  have he9 := (show (cW Q σ)[21]? = some (Q.q 49, .inl (Q.c 0, 128, .inl (σ.a 49))) from rfl)
  have hFc := cFree1 hC hA he9
  have hr9 : CS.hs σ ≤ CS.hs R.2 := Mono.go hf (mono_ite (mono_some (Nat.le_refl _)) (mono_some (Nat.le_refl _)))
  refine va_calli (va_runSN (As := [.ref (Q.q 49), .int x1]) (rest := []) ⟨hx, hb, hml, hown, hts⟩ (c_X11_at l dC dI _ (Q.q 49) (Q.c 0) 128 (σ.a 49) x1 (by decide)) ⟨va_cnB 2 hts hX4_isCaught_X11_at_n24 rfl rfl rfl (hZ.1 (.methodLinkNest RX4 24 yX11_at "StatementRules2") (by decide +kernel)) (hts (.initialized RX11) k_X4_isCaught_initialized_RX11) (by decide +kernel) ⟨(show 1 + 1 ≤ 2 by omega), (show 8 + (2 + 11) + 60 * 1 ≤ 60 * 2 by omega)⟩, (hts (.static yX11_at) k_X4_isCaught_static_yX11_at), trivial⟩ ⟨zPre.blind, zPre.go hZ (cOne hC.1 he9) (hK.sub (tys' := [(Q.c 0, .int)]) [0] rfl) (cOneD hC.2.1 he9)⟩ rfl rfl hl.1 rfl (lv_room (Nat.le_of_ble_eq_true rfl)) dX4_isCaught_5 ⟨cAcc4 h0 hr9, cAcc5 h0 hr9⟩) hC.2.2.1 (fun q _ h => hFc q h) hFc (fun r1 u9 t9 H1 locs ht hvm hw hB hz1 hk1 hS => ?_)
  obtain ⟨⟨hP1, hK1, hD1⟩, hsz1⟩ := hB
  rw [ht] at hP1 hsz1
  have hC := cBack (σ' := σ) hC he9 (cSelf he9) rfl hk1 hP1 hsz1 hS
  generalize H1 = H at hC ⊢
  obtain rfl : r1 = (gAt (σ.a 49) 128 x1) := hw
  refine lv_if_lt (tgt := 15) hx hb dX4_isCaught_8 (by decide) (fun c2 => ?_) (fun c2 => ?_)
  ·
    replace hf := (if_pos c2).symm.trans hf
    refine lv_iconst (v := 0) hx hb dX4_isCaught_15 (by decide) ?_
    obtain rfl := Option.some.inj hf
    exact W.zret (v := 0) hx hb hr (rfl) (fun t ht hW => ⟨⟨0, (), rfl, rfl, ⟨by rw [ht]; exact hC.1, va_K.moved hW.alike hK, hC.2.1⟩, by rw [ht]; exact hC.2.2.2⟩, hC.2.2.1.F ht⟩) hC.2.2.1.2.2 dX4_isCaught_16
  ·
    replace hf := (if_neg c2).symm.trans hf
    refine lv_iconst (v := 1) hx hb dX4_isCaught_11 (by decide) ?_
    refine lv_goto (tgt := 16) hx hb dX4_isCaught_12 (by decide) ?_
    obtain rfl := Option.some.inj hf
    exact W.zret (v := 1) hx hb hr (rfl) (fun t ht hW => ⟨⟨1, (), rfl, rfl, ⟨by rw [ht]; exact hC.1, va_K.moved hW.alike hK, hC.2.1⟩, by rw [ht]; exact hC.2.2.2⟩, hC.2.2.1.F ht⟩) hC.2.2.1.2.2 dX4_isCaught_16
