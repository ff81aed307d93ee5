section
theorem k_X11_trace_fieldLink_RX11_85_SR_hasRun_Z : Cond.fieldLink RX11 85 "StatementRules2" "hasRun" "Z" ∈ wzX11_trace := List.mem_cons_of_mem _ (List.mem_append_left _ (List.mem_of_getElem? (i := 0) rfl))
theorem i_X11_trace_X11 : ∀ w ∈ wsX110, w ∈ wzX11_trace := fun _ h => List.mem_cons_of_mem _ (List.mem_append_right _ (List.mem_append_left _ (h)))
theorem k_X11_trace_fieldLink_RX11_46_SR_machine_LSR_Machine : Cond.fieldLink RX11 46 "StatementRules2" "machine" "LStatementRules2$Machine;" ∈ wzX11_trace := List.mem_cons_of_mem _ (List.mem_append_left _ (List.mem_of_getElem? (i := 1) rfl))
theorem i_X11_trace_X3 : ∀ w ∈ wsX30, w ∈ wzX11_trace := fun _ h => List.mem_cons_of_mem _ (List.mem_append_right _ (List.mem_append_right _ (List.mem_append_left _ (h))))
set_option maxHeartbeats 4000000 in
set_option maxRecDepth 100000 in
theorem j_X11_trace_31 {p : Program} {e : Env} {s : State} {m : MethodId} {args : Array Value} {below : List Frame} {meth : Method} {c : Code} {A : Nat → Prop} (l : Launch) (dC : Nat → ClassId) (dI : Nat → Nat → Nat) (Q : CQ) (N : Nat) (z9h : Nat) (R : Int32 × CS) (hx : p.tables.exec = Jvm.exec) (hb : c.code = cX11_trace) (hr : meth.sig.returnType = (some .int)) (hml : c.maxLocals = 3) (hown : s.vm.findClass RX11 = some m.cls) (hts : ∀ w ∈ wzX11_trace, w.before args s = true) (hlocks : meth.locks = false) (hZ : zAMB s) (hA : ∀ q : Nat, s.heap.size ≤ q → A q) (hK : va_K (dC, dI) vwCl (cT Q) s) : ∀ (σ : CS) (H : Heap) (locs : List Loc) (ls : Array Slot), f_X11_trace_31 N σ = some R → z9h ≤ CS.hs σ → CP dC dI Q A s.heap σ H locs → lv_has ls 3 [] → W p l e ({ frames := 2, cells := CS.hs R.2 - z9h, slots := 17 * (CS.hs R.2 - z9h), locals := 60 * 2 }) s m args below meth c H locs (CS.hs σ - z9h) (17 * (CS.hs σ - z9h)) (MQ below (va_Qi (fun (r : Int32) (_ : Unit) => r = R.1) (fun (_ : Unit) (t : State) => zPost dC dI A (cW Q R.2) (cT Q) t ∧ t.heap.size = CS.hs R.2) A) args s (CS.hs R.2 - z9h) (17 * (CS.hs R.2 - z9h)) A) (F0 m 31 ls []) := by
  intro σ  H locs ls hf h0 hC hl
  unfold f_X11_trace_31 at hf
  refine lv_iconst (v := (-1)) hx hb dX11_trace_31 (by decide) ?_
  obtain rfl := Option.some.inj hf
  exact W.iret (v := (-1)) hx hb hr (fun t ht hW => ⟨⟨(-1), (), rfl, rfl, ⟨by rw [ht]; exact hC.1, va_K.moved hW.alike hK, hC.2.1⟩, by rw [ht]; exact hC.2.2.2⟩, hC.2.2.1.F ht⟩) hC.2.2.1.2.2 dX11_trace_32
set_option maxHeartbeats 4000000 in
set_option maxRecDepth 100000 in
theorem c_X11_trace (l : Launch) (dC : Nat → ClassId) (dI : Nat → Nat → Nat) (Q : CQ) (N : Nat) (σ : CS) (x1 : Int32) (x2 : Int32) (R : Int32 × CS) (hf : f_X11_trace N σ x1 x2 = some R) : Met l yX11_trace wzX11_trace ({ frames := 2, cells := CS.hs R.2 - CS.hs σ, slots := 17 * (CS.hs R.2 - CS.hs σ), locals := 60 * 2 }) (va_Pc [.ref (Q.o 0), .int x1, .int x2] (zPre dC dI (CS.hs σ) (cW Q σ) (cT Q))) (va_Qi (fun (r : Int32) (_ : Unit) => r = R.1) (fun (_ : Unit) (t : State) => zPost dC dI (va_A (cW Q σ) (CS.hs σ)) (cW Q R.2) (cT Q) t ∧ t.heap.size = CS.hs R.2) (va_A (cW Q σ) (CS.hs σ))) (CS.hs R.2 - CS.hs σ) (17 * (CS.hs R.2 - CS.hs σ)) (va_A (cW Q σ) (CS.hs σ)) := by
  refine Met.ofW (cc := cX11_trace) (maxL := 3) (ret := (some .int)) (by decide) rfl ?_
  intro p e s m args below meth c s₁ B hml hv
  obtain ⟨rfl, hsz, hZ, hP, hK, hD0⟩ := hv
  have hx := B.exec
  have hb := B.bytes
  have hr := B.returns
  have hts := atoms_spec (ws := wzX11_trace) B.pre
  have hown : s.vm.findClass RX11 = some m.cls := findClass_of_methodNamed B.named
  have hlocks := B.notSynchronized
  have hD := hD0.self (sz := CS.hs σ)
  generalize hAe : va_A (cW Q σ) (CS.hs σ) = A at hD ⊢
  have hA : ∀ q : Nat, s.heap.size ≤ q → A q := fun q h => by rw [← hAe]; exact Or.inr (hsz ▸ h)
  have hC : CP dC dI Q A s.heap σ s.heap [] := ⟨hP, hD, va_S.rf, hsz⟩
  have h0 : CS.hs σ ≤ CS.hs σ := Nat.le_refl _
  have hl := lv_entry ([.ref (Q.o 0), .int x1, .int x2]) (n := 3) (Nat.le_of_ble_eq_true rfl)
  rw [lg_entry_eq]
  generalize (lg_sl ([.ref (Q.o 0), .int x1, .int x2]) ++ List.replicate (3 - (lg_sl ([.ref (Q.o 0), .int x1, .int x2])).length) Slot.unset).toArray = ls at hl ⊢
  have hl : lv_has ls 3 [(0, .ref (Q.o 0)), (1, .int x1), (2, .int x2)] := hl
  unfold f_X11_trace at hf
  refine W.widen (k := CS.hs σ - CS.hs σ) (n := 17 * (CS.hs σ - CS.hs σ)) (Nat.zero_le _) (Nat.zero_le _) ?_
  refine lv_aload_n hx hb dX11_trace_0 rfl (lv_at hl 0 rfl) ?_
  refine cG_8 (v := (σ.i 8)) hx hb hts i_X11_trace_X11 hown hK hC (hts (.fieldLink RX11 85 "StatementRules2" "hasRun" "Z") k_X11_trace_fieldLink_RX11_85_SR_hasRun_Z) (fun _ q9 => q9) dX11_trace_1 rfl ?_
  refine lv_if_eq (tgt := 31) hx hb dX11_trace_4 (by decide) (fun c1 => ?_) (fun c1 => ?_)
  ·
    replace hf := (if_pos c1).symm.trans hf
    exact j_X11_trace_31 l dC dI Q N (CS.hs σ) R hx hb hr hml hown hts hlocks hZ hA hK σ _ _ _ hf h0 hC (lv_sub hl [] rfl)
  ·
    replace hf := (if_neg c1).symm.trans hf
    refine lv_iload_n hx hb dX11_trace_7 rfl (lv_at hl 1 rfl) ?_
    refine lv_if_lt (tgt := 31) hx hb dX11_trace_8 (by decide) (fun c2 => ?_) (fun c2 => ?_)
    ·
      replace hf := (if_pos c2).symm.trans hf
      exact j_X11_trace_31 l dC dI Q N (CS.hs σ) R hx hb hr hml hown hts hlocks hZ hA hK σ _ _ _ hf h0 hC (lv_sub hl [] rfl)
    ·
      replace hf := (if_neg c2).symm.trans hf
      refine lv_iload_n hx hb dX11_trace_11 rfl (lv_at hl 1 rfl) ?_
      refine lv_aload_n hx hb dX11_trace_12 rfl (lv_at hl 0 rfl) ?_
      refine cG_4 hx hb hts i_X11_trace_X11 hown hK hC (hts (.fieldLink RX11 46 "StatementRules2" "machine" "LStatementRules2$Machine;") k_X11_trace_fieldLink_RX11_46_SR_machine_LSR_Machine) (fun _ q9 => q9) dX11_trace_13 ?_
      refine cGN_69 (v := (σ.i 69)) hx hb hts i_X11_trace_X3 hown hK hC (va_Nw.use rfl (hZ.1 (.fieldLinkNest RX11 119 "StatementRules2$Machine" "rowCount" "I" "StatementRules2") (by decide +kernel))) (fun _ q9 => q9) dX11_trace_16 rfl ?_
      refine lv_icmp_ge (tgt := 31) hx hb dX11_trace_19 (by decide) (fun c3 => ?_) (fun c3 => ?_)
      ·
        replace hf := (if_pos c3).symm.trans hf
        exact j_X11_trace_31 l dC dI Q N (CS.hs σ) R hx hb hr hml hown hts hlocks hZ hA hK σ _ _ _ hf h0 hC (lv_sub hl [] rfl)
      ·
        replace hf := (if_neg c3).symm.trans hf
        refine lv_iload_n hx hb dX11_trace_22 rfl (lv_at hl 2 rfl) ?_
        refine lv_if_lt (tgt := 31) hx hb dX11_trace_23 (by decide) (fun c4 => ?_) (fun c4 => ?_)
        ·
          replace hf := (if_pos c4).symm.trans hf
          exact j_X11_trace_31 l dC dI Q N (CS.hs σ) R hx hb hr hml hown hts hlocks hZ hA hK σ _ _ _ hf h0 hC (lv_sub hl [] rfl)
        ·
          replace hf := (if_neg c4).symm.trans hf
          refine lv_iload_n hx hb dX11_trace_26 rfl (lv_at hl 2 rfl) ?_
          refine lv_iconst (v := 1) hx hb dX11_trace_27 (by decide) ?_
          refine lv_icmp_le (tgt := 33) hx hb dX11_trace_28 (by decide) (fun c5 => ?_) (fun c5 => ?_)
          ·
            replace hf := (if_pos c5).symm.trans hf
            refine lv_aload_n hx hb dX11_trace_33 rfl (lv_at hl 0 rfl) ?_
            refine cG_4 hx hb hts i_X11_trace_X11 hown hK hC (hts (.fieldLink RX11 46 "StatementRules2" "machine" "LStatementRules2$Machine;") k_X11_trace_fieldLink_RX11_46_SR_machine_LSR_Machine) (fun _ q9 => q9) dX11_trace_34 ?_
            refine cGN_64 hx hb hts i_X11_trace_X3 hown hK hC (va_Nw.use rfl (hZ.1 (.fieldLinkNest RX11 122 "StatementRules2$Machine" "rows" "[I" "StatementRules2") (by decide +kernel))) (fun _ q9 => q9) dX11_trace_37 ?_
            refine lv_iconst (v := 2) hx hb dX11_trace_40 (by decide) ?_
            refine lv_iload_n hx hb dX11_trace_41 rfl (lv_at hl 1 rfl) ?_
            refine lv_imul hx hb dX11_trace_42 ?_
            refine lv_iload_n hx hb dX11_trace_43 rfl (lv_at hl 2 rfl) ?_
            refine lv_iadd hx hb dX11_trace_44 ?_
            have he9 := (cArr_64 (Q := Q) (σ := σ))
            have hFc := cFree1 hC hA he9
            have hr9 : CS.hs σ ≤ CS.hs R.2 := Mono.go hf (mono_some (Nat.le_refl _))
            refine va_calli (va_runS (As := [.ref (Q.q 64), .int ((2 * x1) + x2)]) (rest := []) ⟨hx, hb, hml, hown, hts⟩ (c_X11_at l dC dI _ (Q.q 64) (Q.c 0) 400 (σ.a 64) ((2 * x1) + x2) (by decide)) (va_cwS 2 hts hX11_trace_X11_at_s125 rfl rfl rfl (by decide +kernel) ⟨(show 1 + 1 ≤ 2 by omega), (show 8 + (2 + 11) + 60 * 1 ≤ 60 * 2 by omega)⟩) ⟨zPre.blind, zPre.go hZ (cOne hC.1 he9) (hK.sub (tys' := [(Q.c 0, .int)]) [0] rfl) (cOneD hC.2.1 he9)⟩ rfl rfl hl.1 rfl (lv_room (Nat.le_of_ble_eq_true rfl)) dX11_trace_45 ⟨cAcc4 h0 hr9, cAcc5 h0 hr9⟩) hC.2.2.1 (fun q _ h => hFc q h) hFc (fun r6 u9 t9 H1 locs ht hvm hw hB hz1 hk1 hS => ?_)
            obtain ⟨⟨hP1, hK1, hD1⟩, hsz1⟩ := hB
            rw [ht] at hP1 hsz1
            have hC := cBack (σ' := σ) hC he9 (cSelf he9) (Eq.refl (CS.hs σ)) hk1 hP1 hsz1 hS
            generalize H1 = H at hC ⊢
            obtain rfl : r6 = (gAt (σ.a 64) 400 ((2 * x1) + x2)) := hw
            obtain rfl := Option.some.inj hf
            exact W.iret (v := (gAt (σ.a 64) 400 ((2 * x1) + x2))) hx hb hr (fun t ht hW => ⟨⟨(gAt (σ.a 64) 400 ((2 * x1) + x2)), (), rfl, rfl, ⟨by rw [ht]; exact hC.1, va_K.moved hW.alike hK, hC.2.1⟩, by rw [ht]; exact hC.2.2.2⟩, hC.2.2.1.F ht⟩) hC.2.2.1.2.2 dX11_trace_48
          ·
            replace hf := (if_neg c5).symm.trans hf
            exact j_X11_trace_31 l dC dI Q N (CS.hs σ) R hx hb hr hml hown hts hlocks hZ hA hK σ _ _ _ hf h0 hC (lv_sub hl [] rfl)
theorem k_X11_suppressed_fieldLink_RX11_85_SR_hasRun_Z : Cond.fieldLink RX11 85 "StatementRules2" "hasRun" "Z" ∈ wzX11_suppressed := List.mem_cons_of_mem _ (List.mem_append_left _ (List.mem_of_getElem? (i := 0) rfl))
theorem i_X11_suppressed_X11 : ∀ w ∈ wsX110, w ∈ wzX11_suppressed := fun _ h => List.mem_cons_of_mem _ (List.mem_append_right _ (List.mem_append_left _ (h)))
theorem i_X11_suppressed_X8 : ∀ w ∈ wsX80, w ∈ wzX11_suppressed := fun _ h => List.mem_cons_of_mem _ (List.mem_append_right _ (List.mem_append_right _ (List.mem_append_left _ (h))))
theorem k_X11_suppressed_fieldLink_RX11_46_SR_machine_LSR_Machine : Cond.fieldLink RX11 46 "StatementRules2" "machine" "LStatementRules2$Machine;" ∈ wzX11_suppressed := List.mem_cons_of_mem _ (List.mem_append_left _ (List.mem_of_getElem? (i := 1) rfl))
set_option maxHeartbeats 4000000 in
set_option maxRecDepth 100000 in
theorem j_X11_suppressed_44 {p : Program} {e : Env} {s : State} {m : MethodId} {args : Array Value} {below : List Frame} {meth : Method} {c : Code} {A : Nat → Prop} (l : Launch) (dC : Nat → ClassId) (dI : Nat → Nat → Nat) (Q : CQ) (N : Nat) (z9h : Nat) (R : Int32 × CS) (hx : p.tables.exec = Jvm.exec) (hb : c.code = cX11_suppressed) (hr : meth.sig.returnType = (some .int)) (hml : c.maxLocals = 4) (hown : s.vm.findClass RX11 = some m.cls) (hts : ∀ w ∈ wzX11_suppressed, w.before args s = true) (hlocks : meth.locks = false) (hZ : zAMB s) (hA : ∀ q : Nat, s.heap.size ≤ q → A q) (hK : va_K (dC, dI) vwCl (cT Q) s) : ∀ (σ : CS) (H : Heap) (locs : List Loc) (ls : Array Slot), f_X11_suppressed_44 N σ = some R → z9h ≤ CS.hs σ → CP dC dI Q A s.heap σ H locs → lv_has ls 4 [] → W p l e ({ frames := 2, cells := CS.hs R.2 - z9h, slots := 17 * (CS.hs R.2 - z9h), locals := 60 * 2 }) s m args below meth c H locs (CS.hs σ - z9h) (17 * (CS.hs σ - z9h)) (MQ below (va_Qi (fun (r : Int32) (_ : Unit) => r = R.1) (fun (_ : Unit) (t : State) => zPost dC dI A (cW Q R.2) (cT Q) t ∧ t.heap.size = CS.hs R.2) A) args s (CS.hs R.2 - z9h) (17 * (CS.hs R.2 - z9h)) A) (F0 m 44 ls []) := by
  intro σ  H locs ls hf h0 hC hl
  unfold f_X11_suppressed_44 at hf
  refine lv_iconst (v := (-1)) hx hb dX11_suppressed_44 (by decide) ?_
  obtain rfl := Option.some.inj hf
  exact W.iret (v := (-1)) hx hb hr (fun t ht hW => ⟨⟨(-1), (), rfl, rfl, ⟨by rw [ht]; exact hC.1, va_K.moved hW.alike hK, hC.2.1⟩, by rw [ht]; exact hC.2.2.2⟩, hC.2.2.1.F ht⟩) hC.2.2.1.2.2 dX11_suppressed_45
set_option maxHeartbeats 4000000 in
set_option maxRecDepth 100000 in
theorem j_X11_suppressed_19 {p : Program} {e : Env} {s : State} {m : MethodId} {args : Array Value} {below : List Frame} {meth : Method} {c : Code} {A : Nat → Prop} (l : Launch) (dC : Nat → ClassId) (dI : Nat → Nat → Nat) (Q : CQ) (N : Nat) (z9h : Nat) (R : Int32 × CS) (hx : p.tables.exec = Jvm.exec) (hb : c.code = cX11_suppressed) (hr : meth.sig.returnType = (some .int)) (hml : c.maxLocals = 4) (hown : s.vm.findClass RX11 = some m.cls) (hts : ∀ w ∈ wzX11_suppressed, w.before args s = true) (hlocks : meth.locks = false) (hZ : zAMB s) (hA : ∀ q : Nat, s.heap.size ≤ q → A q) (hK : va_K (dC, dI) vwCl (cT Q) s) : ∀ (σ : CS) (x1 : Int32) (x2 : Int32) (x3 : Option Nat) (H : Heap) (locs : List Loc) (ls : Array Slot), f_X11_suppressed_19 N σ x1 x2 x3 = some R → z9h ≤ CS.hs σ → CP dC dI Q A s.heap σ H locs → lv_has ls 4 [(1, .int x1), (2, .int x2), (3, va_rf x3)] → W p l e ({ frames := 2, cells := CS.hs R.2 - z9h, slots := 17 * (CS.hs R.2 - z9h), locals := 60 * 2 }) s m args below meth c H locs (CS.hs σ - z9h) (17 * (CS.hs σ - z9h)) (MQ below (va_Qi (fun (r : Int32) (_ : Unit) => r = R.1) (fun (_ : Unit) (t : State) => zPost dC dI A (cW Q R.2) (cT Q) t ∧ t.heap.size = CS.hs R.2) A) args s (CS.hs R.2 - z9h) (17 * (CS.hs R.2 - z9h)) A) (F0 m 19 ls []) := by
  intro σ x1 x2 x3 H locs ls hf h0 hC hl
  unfold f_X11_suppressed_19 at hf
  rcases hf_oc hf with ⟨q2, hf⟩ | ⟨a3, q2, hf⟩
  ·
    subst q2
    have hl : lv_has ls 4 [(1, .int x1), (2, .int x2), (3, .null)] := hl
    refine lv_aload_nN hx hb dX11_suppressed_19 rfl (lv_at hl 2 rfl) ?_
    refine lv_ifnullN (tgt := 44) hx hb dX11_suppressed_20 (by decide) ?_
    exact j_X11_suppressed_44 l dC dI Q N z9h R hx hb hr hml hown hts hlocks hZ hA hK σ _ _ _ hf h0 hC (lv_sub hl [] rfl)
  ·
    subst q2
    have hl : lv_has ls 4 [(1, .int x1), (2, .int x2), (3, .ref a3)] := hl
    refine lv_aload_n hx hb dX11_suppressed_19 rfl (lv_at hl 2 rfl) ?_
    refine lv_ifnull hx hb dX11_suppressed_20 ?_
    refine lv_iload_n hx hb dX11_suppressed_23 rfl (lv_at hl 0 rfl) ?_
    refine lv_if_lt (tgt := 44) hx hb dX11_suppressed_24 (by decide) (fun c4 => ?_) (fun c4 => ?_)
    ·
      replace hf := (if_pos c4).symm.trans hf
      exact j_X11_suppressed_44 l dC dI Q N z9h R hx hb hr hml hown hts hlocks hZ hA hK σ _ _ _ hf h0 hC (lv_sub hl [] rfl)
    ·
      replace hf := (if_neg c4).symm.trans hf
      refine lv_iload_n hx hb dX11_suppressed_27 rfl (lv_at hl 0 rfl) ?_
      refine lv_aload_n hx hb dX11_suppressed_28 rfl (lv_at hl 2 rfl) ?_
      obtain ⟨b5, hf⟩ := hf_ite hf
      refine pGN_X8_4 (v := (CS.o σ a3 4)) hx hb hts i_X11_suppressed_X8 hown hK hC (va_Nw.use rfl (hZ.1 (.fieldLinkNest RX11 133 "StatementRules2$Thrown" "count" "I" "StatementRules2") (by decide +kernel))) (fun _ q9 => q9) dX11_suppressed_29 b5 rfl ?_
      refine lv_icmp_ge (tgt := 44) hx hb dX11_suppressed_32 (by decide) (fun c6 => ?_) (fun c6 => ?_)
      ·
        replace hf := (if_pos c6).symm.trans hf
        exact j_X11_suppressed_44 l dC dI Q N z9h R hx hb hr hml hown hts hlocks hZ hA hK σ _ _ _ hf h0 hC (lv_sub hl [] rfl)
      ·
        replace hf := (if_neg c6).symm.trans hf
        refine lv_iload_n hx hb dX11_suppressed_35 rfl (lv_at hl 1 rfl) ?_
        refine lv_if_lt (tgt := 44) hx hb dX11_suppressed_36 (by decide) (fun c7 => ?_) (fun c7 => ?_)
        ·
          replace hf := (if_pos c7).symm.trans hf
          exact j_X11_suppressed_44 l dC dI Q N z9h R hx hb hr hml hown hts hlocks hZ hA hK σ _ _ _ hf h0 hC (lv_sub hl [] rfl)
        ·
          replace hf := (if_neg c7).symm.trans hf
          refine lv_iload_n hx hb dX11_suppressed_39 rfl (lv_at hl 1 rfl) ?_
          refine lv_iconst (v := 1) hx hb dX11_suppressed_40 (by decide) ?_
          refine lv_icmp_le (tgt := 46) hx hb dX11_suppressed_41 (by decide) (fun c8 => ?_) (fun c8 => ?_)
          ·
            replace hf := (if_pos c8).symm.trans hf
            refine lv_iload_n hx hb dX11_suppressed_46 rfl (lv_at hl 1 rfl) ?_
            refine lv_if_ne (tgt := 57) hx hb dX11_suppressed_47 (by decide) (fun c9 => ?_) (fun c9 => ?_)
            ·
              replace hf := (if_neg c9).symm.trans hf
              refine lv_aload_n hx hb dX11_suppressed_57 rfl (lv_at hl 2 rfl) ?_
              refine pGN_X8_1 hx hb hts i_X11_suppressed_X8 hown hK hC (va_Nw.use rfl (hZ.1 (.fieldLinkNest RX11 141 "StatementRules2$Thrown" "numbers" "[I" "StatementRules2") (by decide +kernel))) (fun _ q9 => q9) dX11_suppressed_58 b5 ?_
              refine lv_iload_n hx hb dX11_suppressed_61 rfl (lv_at hl 0 rfl) ?_
              obtain ⟨b10, hf⟩ := hf_ite hf
              obtain ⟨k11, hk11⟩ := cPl (Q := Q) (s := σ) (a := (a3 + 2)) b10.1
              have hqk11 := hk11
              rw [cE3 (show CS.k σ (a3 + 2) = 3 from b10.2)] at hk11
              have he9 := hk11
              have hFc := cFree1 hC hA he9
              have hr9 : CS.hs σ ≤ CS.hs R.2 := Mono.go hf (mono_some (Nat.le_refl _))
              refine va_calli (va_runS (As := [.ref (a3 + 2), .int x1]) (rest := []) ⟨hx, hb, hml, hown, hts⟩ (c_X11_at l dC dI _ (a3 + 2) (Q.c 0) 8 (CS.oa σ (a3 + 2)) x1 (by decide)) (va_cwS 2 hts hX11_suppressed_X11_at_s125 rfl rfl rfl (by decide +kernel) ⟨(show 1 + 1 ≤ 2 by omega), (show 8 + (2 + 11) + 60 * 1 ≤ 60 * 2 by omega)⟩) ⟨zPre.blind, zPre.go hZ (cOne hC.1 he9) (hK.sub (tys' := [(Q.c 0, .int)]) [0] rfl) (cOneD hC.2.1 he9)⟩ rfl rfl hl.1 rfl (lv_room (Nat.le_of_ble_eq_true rfl)) dX11_suppressed_62 ⟨cAcc4 h0 hr9, cAcc5 h0 hr9⟩) hC.2.2.1 (fun q _ h => hFc q h) hFc (fun r12 u9 t9 H1 locs ht hvm hw hB hz1 hk1 hS => ?_)
              obtain ⟨⟨hP1, hK1, hD1⟩, hsz1⟩ := hB
              rw [ht] at hP1 hsz1
              have hC := cBack (σ' := σ) hC he9 (cSelf he9) (Eq.refl (CS.hs σ)) hk1 hP1 hsz1 hS
              generalize H1 = H at hC ⊢
              obtain rfl : r12 = (gAt (CS.oa σ (a3 + 2)) 8 x1) := hw
              obtain rfl := Option.some.inj hf
              exact W.iret (v := (gAt (CS.oa σ (a3 + 2)) 8 x1)) hx hb hr (fun t ht hW => ⟨⟨(gAt (CS.oa σ (a3 + 2)) 8 x1), (), rfl, rfl, ⟨by rw [ht]; exact hC.1, va_K.moved hW.alike hK, hC.2.1⟩, by rw [ht]; exact hC.2.2.2⟩, hC.2.2.1.F ht⟩) hC.2.2.1.2.2 dX11_suppressed_65
            ·
              replace hf := (if_pos c9).symm.trans hf
              refine lv_aload_n hx hb dX11_suppressed_50 rfl (lv_at hl 2 rfl) ?_
              refine pGN_X8_0 hx hb hts i_X11_suppressed_X8 hown hK hC (va_Nw.use rfl (hZ.1 (.fieldLinkNest RX11 138 "StatementRules2$Thrown" "kinds" "[I" "StatementRules2") (by decide +kernel))) (fun _ q9 => q9) dX11_suppressed_51 b5 ?_
              refine lv_goto (tgt := 61) hx hb dX11_suppressed_54 (by decide) ?_
              refine lv_iload_n hx hb dX11_suppressed_61 rfl (lv_at hl 0 rfl) ?_
              obtain ⟨b13, hf⟩ := hf_ite hf
              obtain ⟨k14, hk14⟩ := cPl (Q := Q) (s := σ) (a := (a3 + 1)) b13.1
              have hqk14 := hk14
              rw [cE3 (show CS.k σ (a3 + 1) = 3 from b13.2)] at hk14
              have he9 := hk14
              have hFc := cFree1 hC hA he9
              have hr9 : CS.hs σ ≤ CS.hs R.2 := Mono.go hf (mono_some (Nat.le_refl _))
              refine va_calli (va_runS (As := [.ref (a3 + 1), .int x1]) (rest := []) ⟨hx, hb, hml, hown, hts⟩ (c_X11_at l dC dI _ (a3 + 1) (Q.c 0) 8 (CS.oa σ (a3 + 1)) x1 (by decide)) (va_cwS 2 hts hX11_suppressed_X11_at_s125 rfl rfl rfl (by decide +kernel) ⟨(show 1 + 1 ≤ 2 by omega), (show 8 + (2 + 11) + 60 * 1 ≤ 60 * 2 by omega)⟩) ⟨zPre.blind, zPre.go hZ (cOne hC.1 he9) (hK.sub (tys' := [(Q.c 0, .int)]) [0] rfl) (cOneD hC.2.1 he9)⟩ rfl rfl hl.1 rfl (lv_room (Nat.le_of_ble_eq_true rfl)) dX11_suppressed_62 ⟨cAcc4 h0 hr9, cAcc5 h0 hr9⟩) hC.2.2.1 (fun q _ h => hFc q h) hFc (fun r15 u9 t9 H1 locs ht hvm hw hB hz1 hk1 hS => ?_)
              obtain ⟨⟨hP1, hK1, hD1⟩, hsz1⟩ := hB
              rw [ht] at hP1 hsz1
              have hC := cBack (σ' := σ) hC he9 (cSelf he9) (Eq.refl (CS.hs σ)) hk1 hP1 hsz1 hS
              generalize H1 = H at hC ⊢
              obtain rfl : r15 = (gAt (CS.oa σ (a3 + 1)) 8 x1) := hw
              obtain rfl := Option.some.inj hf
              exact W.iret (v := (gAt (CS.oa σ (a3 + 1)) 8 x1)) hx hb hr (fun t ht hW => ⟨⟨(gAt (CS.oa σ (a3 + 1)) 8 x1), (), rfl, rfl, ⟨by rw [ht]; exact hC.1, va_K.moved hW.alike hK, hC.2.1⟩, by rw [ht]; exact hC.2.2.2⟩, hC.2.2.1.F ht⟩) hC.2.2.1.2.2 dX11_suppressed_65
          ·
            replace hf := (if_neg c8).symm.trans hf
            exact j_X11_suppressed_44 l dC dI Q N z9h R hx hb hr hml hown hts hlocks hZ hA hK σ _ _ _ hf h0 hC (lv_sub hl [] rfl)
set_option maxHeartbeats 4000000 in
set_option maxRecDepth 100000 in
theorem c_X11_suppressed (l : Launch) (dC : Nat → ClassId) (dI : Nat → Nat → Nat) (Q : CQ) (N : Nat) (σ : CS) (x1 : Int32) (x2 : Int32) (R : Int32 × CS) (hf : f_X11_suppressed N σ x1 x2 = some R) : Met l yX11_suppressed wzX11_suppressed ({ frames := 2, cells := CS.hs R.2 - CS.hs σ, slots := 17 * (CS.hs R.2 - CS.hs σ), locals := 60 * 2 }) (va_Pc [.ref (Q.o 0), .int x1, .int x2] (zPre dC dI (CS.hs σ) (cW Q σ) (cT Q))) (va_Qi (fun (r : Int32) (_ : Unit) => r = R.1) (fun (_ : Unit) (t : State) => zPost dC dI (va_A (cW Q σ) (CS.hs σ)) (cW Q R.2) (cT Q) t ∧ t.heap.size = CS.hs R.2) (va_A (cW Q σ) (CS.hs σ))) (CS.hs R.2 - CS.hs σ) (17 * (CS.hs R.2 - CS.hs σ)) (va_A (cW Q σ) (CS.hs σ)) := by
  refine Met.ofW (cc := cX11_suppressed) (maxL := 4) (ret := (some .int)) (by decide) rfl ?_
  intro p e s m args below meth c s₁ B hml hv
  obtain ⟨rfl, hsz, hZ, hP, hK, hD0⟩ := hv
  have hx := B.exec
  have hb := B.bytes
  have hr := B.returns
  have hts := atoms_spec (ws := wzX11_suppressed) B.pre
  have hown : s.vm.findClass RX11 = some m.cls := findClass_of_methodNamed B.named
  have hlocks := B.notSynchronized
  have hD := hD0.self (sz := CS.hs σ)
  generalize hAe : va_A (cW Q σ) (CS.hs σ) = A at hD ⊢
  have hA : ∀ q : Nat, s.heap.size ≤ q → A q := fun q h => by rw [← hAe]; exact Or.inr (hsz ▸ h)
  have hC : CP dC dI Q A s.heap σ s.heap [] := ⟨hP, hD, va_S.rf, hsz⟩
  have h0 : CS.hs σ ≤ CS.hs σ := Nat.le_refl _
  have hl := lv_entry ([.ref (Q.o 0), .int x1, .int x2]) (n := 4) (Nat.le_of_ble_eq_true rfl)
  rw [lg_entry_eq]
  generalize (lg_sl ([.ref (Q.o 0), .int x1, .int x2]) ++ List.replicate (4 - (lg_sl ([.ref (Q.o 0), .int x1, .int x2])).length) Slot.unset).toArray = ls at hl ⊢
  have hl : lv_has ls 4 [(0, .ref (Q.o 0)), (1, .int x1), (2, .int x2)] := hl
  unfold f_X11_suppressed at hf
  refine W.widen (k := CS.hs σ - CS.hs σ) (n := 17 * (CS.hs σ - CS.hs σ)) (Nat.zero_le _) (Nat.zero_le _) ?_
  refine lv_aload_n hx hb dX11_suppressed_0 rfl (lv_at hl 0 rfl) ?_
  refine cG_8 (v := (σ.i 8)) hx hb hts i_X11_suppressed_X11 hown hK hC (hts (.fieldLink RX11 85 "StatementRules2" "hasRun" "Z") k_X11_suppressed_fieldLink_RX11_85_SR_hasRun_Z) (fun _ q9 => q9) dX11_suppressed_1 rfl ?_
  refine lv_if_eq (tgt := 17) hx hb dX11_suppressed_4 (by decide) (fun c1 => ?_) (fun c1 => ?_)
  ·
    replace hf := (if_pos c1).symm.trans hf
    refine lv_null hx hb dX11_suppressed_17 ?_
    refine lv_astore_nN (lv' := [(3, .null), (0, .ref (Q.o 0)), (1, .int x1), (2, .int x2)]) hx hb dX11_suppressed_18 rfl hl (by decide) rfl (fun ls hl => ?_)
    exact j_X11_suppressed_19 l dC dI Q N (CS.hs σ) R hx hb hr hml hown hts hlocks hZ hA hK σ x1 x2 none _ _ _ hf h0 hC (lv_sub hl [2, 3, 0] rfl)
  ·
    replace hf := (if_neg c1).symm.trans hf
    refine lv_aload_n hx hb dX11_suppressed_7 rfl (lv_at hl 0 rfl) ?_
    refine cG_4 hx hb hts i_X11_suppressed_X11 hown hK hC (hts (.fieldLink RX11 46 "StatementRules2" "machine" "LStatementRules2$Machine;") k_X11_suppressed_fieldLink_RX11_46_SR_machine_LSR_Machine) (fun _ q9 => q9) dX11_suppressed_8 ?_
    obtain ⟨p16, hcp16, hf⟩ := hf_bind hf
    have mo17 : CS.hs σ ≤ CS.hs p16.2 := Mono.go hcp16 (m_X3_lastThrown N σ)
    have hr9 : CS.hs p16.2 ≤ CS.hs R.2 := Mono.go hf (mono_oc (m_X11_suppressed_19 N p16.2 x1 x2 none) (fun a21 => (m_X11_suppressed_19 N p16.2 x1 x2 (some a21))))
    have hFc := cFree hC hA
    refine va_callq (va_runV (As := []) (rest := []) ⟨hx, hb, hml, hown, hts⟩ (c_X3_lastThrown l dC dI Q N σ p16 hcp16) (cwV 0 hts hX11_suppressed_X3_lastThrown_v129 rfl rfl rfl (by decide +kernel) ⟨(show 1 + 1 ≤ 2 by omega), (show 8 + (1 + 11) + 60 * 1 ≤ 60 * 2 by omega)⟩) ⟨zPre.blind, va_recv hK hC.1 (ci := 2) (q0 := 7) rfl rfl, cPre_go hZ hK hC⟩ rfl rfl hl.1 rfl (lv_room (Nat.le_of_ble_eq_true rfl)) dX11_suppressed_11 (cAcc h0 mo17 hr9)) hC.2.2.1 (fun q _ h => hFc q h) hFc (fun r18 u9 t9 H1 locs ht hvm hw hB hz1 hk1 hS => ?_)
    obtain ⟨⟨hP, hK1, hD1⟩, hsz1⟩ := hB
    rw [ht] at hP hsz1
    have hC : CP dC dI Q A s.heap p16.2 H1 locs := ⟨hP, hD1.weaken (fun _ _ _ h => hFc _ h), hS, hsz1⟩
    generalize H1 = H at hC ⊢
    have h19 : (CS.hs σ) ≤ CS.hs p16.2 := Nat.le_trans h0 mo17
    refine W.widen (k := CS.hs p16.2 - (CS.hs σ)) (n := 17 * (CS.hs p16.2 - (CS.hs σ))) (cAcc2 h0 mo17) (cAcc3 h0 mo17) ?_
    obtain rfl : r18 = p16.1 := hw
    rcases hf_oc hf with ⟨q20, hf⟩ | ⟨a21, q20, hf⟩
    ·
      refine W.eq (congrArg (fun v9 => F0 m 14 ls (va_rf v9 :: [])) q20) ?_
      refine W.eq (g2 := F0 m 14 ls (.null :: [])) rfl ?_
      refine lv_goto (tgt := 18) hx hb dX11_suppressed_14 (by decide) ?_
      refine lv_astore_nN (lv' := [(3, .null), (0, .ref (Q.o 0)), (1, .int x1), (2, .int x2)]) hx hb dX11_suppressed_18 rfl hl (by decide) rfl (fun ls hl => ?_)
      exact j_X11_suppressed_19 l dC dI Q N (CS.hs σ) R hx hb hr hml hown hts hlocks hZ hA hK p16.2 x1 x2 none _ _ _ hf h19 hC (lv_sub hl [2, 3, 0] rfl)
    ·
      refine W.eq (congrArg (fun v9 => F0 m 14 ls (va_rf v9 :: [])) q20) ?_
      refine W.eq (g2 := F0 m 14 ls (.ref a21 :: [])) rfl ?_
      refine lv_goto (tgt := 18) hx hb dX11_suppressed_14 (by decide) ?_
      refine lv_astore_n (lv' := [(3, .ref a21), (0, .ref (Q.o 0)), (1, .int x1), (2, .int x2)]) hx hb dX11_suppressed_18 rfl hl (by decide) rfl (fun ls hl => ?_)
      exact j_X11_suppressed_19 l dC dI Q N (CS.hs σ) R hx hb hr hml hown hts hlocks hZ hA hK p16.2 x1 x2 (some a21) _ _ _ hf h19 hC (lv_sub hl [2, 3, 0] rfl)
theorem k_X11_under_fieldLink_RX11_16_SR_told_LSR_Told : Cond.fieldLink RX11 16 "StatementRules2" "told" "LStatementRules2$Told;" ∈ wzX11_under := List.mem_cons_of_mem _ (List.mem_append_left _ (List.mem_of_getElem? (i := 0) rfl))
theorem i_X11_under_X11 : ∀ w ∈ wsX110, w ∈ wzX11_under := fun _ h => List.mem_cons_of_mem _ (List.mem_append_right _ (List.mem_append_left _ (h)))
set_option maxHeartbeats 4000000 in
set_option maxRecDepth 100000 in
theorem j_X11_under_22 {p : Program} {e : Env} {s : State} {m : MethodId} {args : Array Value} {below : List Frame} {meth : Method} {c : Code} {A : Nat → Prop} (l : Launch) (dC : Nat → ClassId) (dI : Nat → Nat → Nat) (Q : CQ) (N : Nat) (z9h : Nat) (R : Int32 × CS) (hx : p.tables.exec = Jvm.exec) (hb : c.code = cX11_under) (hr : meth.sig.returnType = (some .int)) (hml : c.maxLocals = 3) (hown : s.vm.findClass RX11 = some m.cls) (hts : ∀ w ∈ wzX11_under, w.before args s = true) (hlocks : meth.locks = false) (hZ : zAMB s) (hA : ∀ q : Nat, s.heap.size ≤ q → A q) (hK : va_K (dC, dI) vwCl (cT Q) s) : ∀ (σ : CS) (H : Heap) (locs : List Loc) (ls : Array Slot), f_X11_under_22 N σ = some R → z9h ≤ CS.hs σ → CP dC dI Q A s.heap σ H locs → lv_has ls 3 [] → W p l e ({ frames := 3, cells := CS.hs R.2 - z9h, slots := 17 * (CS.hs R.2 - z9h), locals := 60 * 3 }) s m args below meth c H locs (CS.hs σ - z9h) (17 * (CS.hs σ - z9h)) (MQ below (va_Qi (fun (r : Int32) (_ : Unit) => r = R.1) (fun (_ : Unit) (t : State) => zPost dC dI A (cW Q R.2) (cT Q) t ∧ t.heap.size = CS.hs R.2) A) args s (CS.hs R.2 - z9h) (17 * (CS.hs R.2 - z9h)) A) (F0 m 22 ls []) := by
  intro σ  H locs ls hf h0 hC hl
  unfold f_X11_under_22 at hf
  refine lv_iconst (v := (-1)) hx hb dX11_under_22 (by decide) ?_
  obtain rfl := Option.some.inj hf
  exact W.iret (v := (-1)) hx hb hr (fun t ht hW => ⟨⟨(-1), (), rfl, rfl, ⟨by rw [ht]; exact hC.1, va_K.moved hW.alike hK, hC.2.1⟩, by rw [ht]; exact hC.2.2.2⟩, hC.2.2.1.F ht⟩) hC.2.2.1.2.2 dX11_under_23
set_option maxHeartbeats 4000000 in
set_option maxRecDepth 100000 in
theorem c_X11_under (l : Launch) (dC : Nat → ClassId) (dI : Nat → Nat → Nat) (Q : CQ) (N : Nat) (σ : CS) (x1 : Int32) (x2 : Int32) (R : Int32 × CS) (hf : f_X11_under N σ x1 x2 = some R) : Met l yX11_under wzX11_under ({ frames := 3, cells := CS.hs R.2 - CS.hs σ, slots := 17 * (CS.hs R.2 - CS.hs σ), locals := 60 * 3 }) (va_Pc [.ref (Q.o 0), .int x1, .int x2] (zPre dC dI (CS.hs σ) (cW Q σ) (cT Q))) (va_Qi (fun (r : Int32) (_ : Unit) => r = R.1) (fun (_ : Unit) (t : State) => zPost dC dI (va_A (cW Q σ) (CS.hs σ)) (cW Q R.2) (cT Q) t ∧ t.heap.size = CS.hs R.2) (va_A (cW Q σ) (CS.hs σ))) (CS.hs R.2 - CS.hs σ) (17 * (CS.hs R.2 - CS.hs σ)) (va_A (cW Q σ) (CS.hs σ)) := by
  refine Met.ofW (cc := cX11_under) (maxL := 3) (ret := (some .int)) (by decide) rfl ?_
  intro p e s m args below meth c s₁ B hml hv
  obtain ⟨rfl, hsz, hZ, hP, hK, hD0⟩ := hv
  have hx := B.exec
  have hb := B.bytes
  have hr := B.returns
  have hts := atoms_spec (ws := wzX11_under) B.pre
  have hown : s.vm.findClass RX11 = some m.cls := findClass_of_methodNamed B.named
  have hlocks := B.notSynchronized
  have hD := hD0.self (sz := CS.hs σ)
  generalize hAe : va_A (cW Q σ) (CS.hs σ) = A at hD ⊢
  have hA : ∀ q : Nat, s.heap.size ≤ q → A q := fun q h => by rw [← hAe]; exact Or.inr (hsz ▸ h)
  have hC : CP dC dI Q A s.heap σ s.heap [] := ⟨hP, hD, va_S.rf, hsz⟩
  have h0 : CS.hs σ ≤ CS.hs σ := Nat.le_refl _
  have hl := lv_entry ([.ref (Q.o 0), .int x1, .int x2]) (n := 3) (Nat.le_of_ble_eq_true rfl)
  rw [lg_entry_eq]
  generalize (lg_sl ([.ref (Q.o 0), .int x1, .int x2]) ++ List.replicate (3 - (lg_sl ([.ref (Q.o 0), .int x1, .int x2])).length) Slot.unset).toArray = ls at hl ⊢
  have hl : lv_has ls 3 [(0, .ref (Q.o 0)), (1, .int x1), (2, .int x2)] := hl
  unfold f_X11_under at hf
  refine W.widen (k := CS.hs σ - CS.hs σ) (n := 17 * (CS.hs σ - CS.hs σ)) (Nat.zero_le _) (Nat.zero_le _) ?_
  refine lv_aload_n hx hb dX11_under_0 rfl (lv_at hl 0 rfl) ?_
  refine cG_1 hx hb hts i_X11_under_X11 hown hK hC (hts (.fieldLink RX11 16 "StatementRules2" "told" "LStatementRules2$Told;") k_X11_under_fieldLink_RX11_16_SR_told_LSR_Told) (fun _ q9 => q9) dX11_under_1 ?_
  refine lv_iload_n hx hb dX11_under_4 rfl (lv_at hl 1 rfl) ?_
  obtain ⟨p1, hcp1, hf⟩ := hf_bind hf
  have mo2 : CS.hs σ ≤ CS.hs p1.2 := Mono.go hcp1 (m_X10_isKind N σ x1)
  have hr9 : CS.hs p1.2 ≤ CS.hs R.2 := Mono.go hf (mono_ite (m_X11_under_22 N p1.2) (mono_bind (m_X10_isKind N p1.2 x2) (fun p6 => (mono_ite (m_X11_under_22 N p6.2) (mono_bind (m_X10_isUnder N p6.2 x1 x2) (fun p11 => (mono_ite (mono_some (Nat.le_refl _)) (mono_some (Nat.le_refl _)))))))))
  have hFc := cFree hC hA
  refine va_calli (va_runV (As := [.int x1]) (rest := []) ⟨hx, hb, hml, hown, hts⟩ (c_X10_isKind l dC dI Q N σ x1 p1 hcp1) (cwV 1 hts hX11_under_X10_isKind_v62 rfl rfl rfl (by decide +kernel) ⟨(show 1 + 1 ≤ 3 by omega), (show 8 + (2 + 11) + 60 * 1 ≤ 60 * 3 by omega)⟩) ⟨zPre.blind, va_recv hK hC.1 (ci := 9) (q0 := 1) rfl rfl, cPre_go hZ hK hC⟩ rfl rfl hl.1 rfl (lv_room (Nat.le_of_ble_eq_true rfl)) dX11_under_5 (cAcc h0 mo2 hr9)) hC.2.2.1 (fun q _ h => hFc q h) hFc (fun r3 u9 t9 H1 locs ht hvm hw hB hz1 hk1 hS => ?_)
  obtain ⟨⟨hP, hK1, hD1⟩, hsz1⟩ := hB
  rw [ht] at hP hsz1
  have hC : CP dC dI Q A s.heap p1.2 H1 locs := ⟨hP, hD1.weaken (fun _ _ _ h => hFc _ h), hS, hsz1⟩
  generalize H1 = H at hC ⊢
  have h4 : (CS.hs σ) ≤ CS.hs p1.2 := Nat.le_trans h0 mo2
  refine W.widen (k := CS.hs p1.2 - (CS.hs σ)) (n := 17 * (CS.hs p1.2 - (CS.hs σ))) (cAcc2 h0 mo2) (cAcc3 h0 mo2) ?_
  obtain rfl : r3 = p1.1 := hw
  refine lv_if_eq (tgt := 22) hx hb dX11_under_8 (by decide) (fun c5 => ?_) (fun c5 => ?_)
  ·
    replace hf := (if_pos c5).symm.trans hf
    exact j_X11_under_22 l dC dI Q N (CS.hs σ) R hx hb hr hml hown hts hlocks hZ hA hK p1.2 _ _ _ hf h4 hC (lv_sub hl [] rfl)
  ·
    replace hf := (if_neg c5).symm.trans hf
    refine lv_aload_n hx hb dX11_under_11 rfl (lv_at hl 0 rfl) ?_
    refine cG_1 hx hb hts i_X11_under_X11 hown hK hC (hts (.fieldLink RX11 16 "StatementRules2" "told" "LStatementRules2$Told;") k_X11_under_fieldLink_RX11_16_SR_told_LSR_Told) (fun _ q9 => q9) dX11_under_12 ?_
    refine lv_iload_n hx hb dX11_under_15 rfl (lv_at hl 2 rfl) ?_
    obtain ⟨p6, hcp6, hf⟩ := hf_bind hf
    have mo7 : CS.hs p1.2 ≤ CS.hs p6.2 := Mono.go hcp6 (m_X10_isKind N p1.2 x2)
    have hr9 : CS.hs p6.2 ≤ CS.hs R.2 := Mono.go hf (mono_ite (m_X11_under_22 N p6.2) (mono_bind (m_X10_isUnder N p6.2 x1 x2) (fun p11 => (mono_ite (mono_some (Nat.le_refl _)) (mono_some (Nat.le_refl _))))))
    have hFc := cFree hC hA
    refine va_calli (va_runV (As := [.int x2]) (rest := []) ⟨hx, hb, hml, hown, hts⟩ (c_X10_isKind l dC dI Q N p1.2 x2 p6 hcp6) (cwV 1 hts hX11_under_X10_isKind_v62 rfl rfl rfl (by decide +kernel) ⟨(show 1 + 1 ≤ 3 by omega), (show 8 + (2 + 11) + 60 * 1 ≤ 60 * 3 by omega)⟩) ⟨zPre.blind, va_recv hK hC.1 (ci := 9) (q0 := 1) rfl rfl, cPre_go hZ hK hC⟩ rfl rfl hl.1 rfl (lv_room (Nat.le_of_ble_eq_true rfl)) dX11_under_16 (cAcc h4 mo7 hr9)) hC.2.2.1 (fun q _ h => hFc q h) hFc (fun r8 u9 t9 H1 locs ht hvm hw hB hz1 hk1 hS => ?_)
    obtain ⟨⟨hP, hK1, hD1⟩, hsz1⟩ := hB
    rw [ht] at hP hsz1
    have hC : CP dC dI Q A s.heap p6.2 H1 locs := ⟨hP, hD1.weaken (fun _ _ _ h => hFc _ h), hS, hsz1⟩
    generalize H1 = H at hC ⊢
    have h9 : (CS.hs σ) ≤ CS.hs p6.2 := Nat.le_trans h4 mo7
    refine W.widen (k := CS.hs p6.2 - (CS.hs σ)) (n := 17 * (CS.hs p6.2 - (CS.hs σ))) (cAcc2 h4 mo7) (cAcc3 h4 mo7) ?_
    obtain rfl : r8 = p6.1 := hw
    refine lv_if_ne (tgt := 24) hx hb dX11_under_19 (by decide) (fun c10 => ?_) (fun c10 => ?_)
    ·
      replace hf := (if_neg c10).symm.trans hf
      refine lv_aload_n hx hb dX11_under_24 rfl (lv_at hl 0 rfl) ?_
      refine cG_1 hx hb hts i_X11_under_X11 hown hK hC (hts (.fieldLink RX11 16 "StatementRules2" "told" "LStatementRules2$Told;") k_X11_under_fieldLink_RX11_16_SR_told_LSR_Told) (fun _ q9 => q9) dX11_under_25 ?_
      refine lv_iload_n hx hb dX11_under_28 rfl (lv_at hl 1 rfl) ?_
      refine lv_iload_n hx hb dX11_under_29 rfl (lv_at hl 2 rfl) ?_
      obtain ⟨p11, hcp11, hf⟩ := hf_bind hf
      have mo12 : CS.hs p6.2 ≤ CS.hs p11.2 := Mono.go hcp11 (m_X10_isUnder N p6.2 x1 x2)
      have hr9 : CS.hs p11.2 ≤ CS.hs R.2 := Mono.go hf (mono_ite (mono_some (Nat.le_refl _)) (mono_some (Nat.le_refl _)))
      have hFc := cFree hC hA
      refine va_calli (va_runV (As := [.int x1, .int x2]) (rest := []) ⟨hx, hb, hml, hown, hts⟩ (c_X10_isUnder l dC dI Q N p6.2 x1 x2 p11 hcp11) (cwV 2 hts hX11_under_X10_isUnder_v144 rfl rfl rfl (by decide +kernel) ⟨(show 2 + 1 ≤ 3 by omega), (show 8 + (5 + 11) + 60 * 2 ≤ 60 * 3 by omega)⟩) ⟨zPre.blind, va_recv hK hC.1 (ci := 9) (q0 := 1) rfl rfl, cPre_go hZ hK hC⟩ rfl rfl hl.1 rfl (lv_room (Nat.le_of_ble_eq_true rfl)) dX11_under_30 (cAcc h9 mo12 hr9)) hC.2.2.1 (fun q _ h => hFc q h) hFc (fun r13 u9 t9 H1 locs ht hvm hw hB hz1 hk1 hS => ?_)
      obtain ⟨⟨hP, hK1, hD1⟩, hsz1⟩ := hB
      rw [ht] at hP hsz1
      have hC : CP dC dI Q A s.heap p11.2 H1 locs := ⟨hP, hD1.weaken (fun _ _ _ h => hFc _ h), hS, hsz1⟩
      generalize H1 = H at hC ⊢
      have h14 : (CS.hs σ) ≤ CS.hs p11.2 := Nat.le_trans h9 mo12
      refine W.widen (k := CS.hs p11.2 - (CS.hs σ)) (n := 17 * (CS.hs p11.2 - (CS.hs σ))) (cAcc2 h9 mo12) (cAcc3 h9 mo12) ?_
      obtain rfl : r13 = p11.1 := hw
      refine lv_if_eq (tgt := 40) hx hb dX11_under_33 (by decide) (fun c15 => ?_) (fun c15 => ?_)
      ·
        replace hf := (if_pos c15).symm.trans hf
        refine lv_iconst (v := 0) hx hb dX11_under_40 (by decide) ?_
        obtain rfl := Option.some.inj hf
        exact W.iret (v := 0) hx hb hr (fun t ht hW => ⟨⟨0, (), rfl, rfl, ⟨by rw [ht]; exact hC.1, va_K.moved hW.alike hK, hC.2.1⟩, by rw [ht]; exact hC.2.2.2⟩, hC.2.2.1.F ht⟩) hC.2.2.1.2.2 dX11_under_41
      ·
        replace hf := (if_neg c15).symm.trans hf
        refine lv_iconst (v := 1) hx hb dX11_under_36 (by decide) ?_
        refine lv_goto (tgt := 41) hx hb dX11_under_37 (by decide) ?_
        obtain rfl := Option.some.inj hf
        exact W.iret (v := 1) hx hb hr (fun t ht hW => ⟨⟨1, (), rfl, rfl, ⟨by rw [ht]; exact hC.1, va_K.moved hW.alike hK, hC.2.1⟩, by rw [ht]; exact hC.2.2.2⟩, hC.2.2.1.F ht⟩) hC.2.2.1.2.2 dX11_under_41
    ·
      replace hf := (if_pos c10).symm.trans hf
      exact j_X11_under_22 l dC dI Q N (CS.hs σ) R hx hb hr hml hown hts hlocks hZ hA hK p6.2 _ _ _ hf h9 hC (lv_sub hl [] rfl)
end
section
noncomputable def fEE (N : Nat) : Nat → (CS → Option (Unit × CS)) × (CS → Option (Int32 × CS))
  | 0 => (fun _ => none, fun _ => none)
  | d+1 => (f_X1_factor N (fEE N d).1 (fEE N d).2, f_X1_one N (fEE N d).1 (fEE N d).2)
theorem mEE (N : Nat) : ∀ d : Nat, (∀ σ, Mono (CS.hs σ) ((fEE N d).1 σ)) ∧ (∀ σ, Mono (CS.hs σ) ((fEE N d).2 σ))
  | 0 => ⟨fun _ => mono_none, fun _ => mono_none⟩
  | d+1 => ⟨fun σ => m_X1_factor N _ _ (mEE N d).1 (mEE N d).2 σ, fun σ => m_X1_one N _ _ (mEE N d).1 (mEE N d).2 σ⟩
theorem cEE (l : Launch) (dC : Nat → ClassId) (dI : Nat → Nat → Nat) (Q : CQ) (N : Nat) : ∀ d : Nat, cMF l dC dI Q d (fEE N d).1 ∧ cMO l dC dI Q d (fEE N d).2
  | 0 => ⟨fun _ _ h => (by cases h), fun _ _ h => (by cases h)⟩
  | d+1 => by
    have ih := cEE l dC dI Q N d
    have hm := mEE N d
    have he : (10 + 40 * (d + 1)) = 50 + 40 * d := by omega
    refine ⟨fun σ R hf => ?_, fun σ R hf => ?_⟩
    · rw [he]
      exact c_X1_factor l dC dI Q N d _ _ ih.1 ih.2 hm.1 hm.2 σ R hf
    · rw [he]
      exact c_X1_one l dC dI Q N d _ _ ih.1 ih.2 hm.1 hm.2 σ R hf
end
section
/-! a function answers, and its answer is so -/
def ok {α : Type} (t : Option α) (P : α → Prop) : Prop := ∃ r, t = some r ∧ P r
theorem ok_some {α : Type} {r : α} {P : α → Prop} (h : P r) : ok (some r) P := ⟨r, rfl, h⟩
theorem ok_ite {α : Type} {c : Prop} [Decidable c] {x y : Option α} {P : α → Prop} (h1 : c → ok x P) (h2 : ¬ c → ok y P) : ok (if c then x else y) P := by
  by_cases h : c
  · rw [if_pos h]; exact h1 h
  · rw [if_neg h]; exact h2 h
theorem ok_chk {α : Type} {c : Prop} [Decidable c] {x : Option α} {P : α → Prop} (h : c) (h1 : ok x P) : ok (if c then x else none) P := by rw [if_pos h]; exact h1
theorem ok_chn {α : Type} {c : Prop} [Decidable c] {x : Option α} {P : α → Prop} (h : ¬ c) (h1 : ok x P) : ok (if c then none else x) P := by rw [if_neg h]; exact h1
theorem ok_bind {α β : Type} {x : Option α} {k : α → Option β} {Q : α → Prop} {P : β → Prop} (h1 : ok x Q) (h2 : ∀ p, Q p → ok (k p) P) : ok (x.bind k) P := by
  obtain ⟨p, rfl, hp⟩ := h1
  exact h2 p hp
theorem ok_imp {α : Type} {t : Option α} {P Q : α → Prop} (h : ok t P) (hi : ∀ r, P r → Q r) : ok t Q := by
  obtain ⟨r, h1, h2⟩ := h
  exact ⟨r, h1, hi r h2⟩
theorem ib_of {x m : Int32} {n : Nat} (hm : m.toInt = (n : Int)) (h1 : 0 ≤ x) (h2 : x < m) : ib x n := by
  have a := Int32.le_iff_toInt_le.mp h1
  have b := Int32.lt_iff_toInt_lt.mp h2
  rw [z_t0] at a
  exact ⟨a, by omega⟩
theorem t_grind1 (x y : Int32) (h1 : 0 ≤ x) (h2 : x < 900) (h : y = x + 1) : ¬ y ≤ x := by
  grind
theorem t_grind2 (x k : Int32) (h1 : 0 ≤ x) (h2 : x + 20 ≤ 900) (h3 : x ≤ 900) (h4 : 0 ≤ k) (h5 : k < 20) : 0 ≤ x + k ∧ x + k < 900 := by
  grind
theorem toInt_add {x y : Int32} (h1 : -2147483648 ≤ x.toInt + y.toInt) (h2 : x.toInt + y.toInt < 2147483648) : (x + y).toInt = x.toInt + y.toInt := by
  rw [Int32.toInt_add, Int.bmod_eq_of_le (by omega) (by omega)]
theorem toInt_sub {x y : Int32} (h1 : -2147483648 ≤ x.toInt - y.toInt) (h2 : x.toInt - y.toInt < 2147483648) : (x - y).toInt = x.toInt - y.toInt := by
  rw [Int32.toInt_sub, Int.bmod_eq_of_le (by omega) (by omega)]
theorem ri_setI (s : RS) (k j : Nat) (v : Int32) : (s.setI k v).i j = if j = k then v else s.i j := rfl
theorem ra_setI (s : RS) (k : Nat) (v : Int32) : (s.setI k v).a = s.a := rfl
theorem rb_setI (s : RS) (k : Nat) (v : Int32) : (s.setI k v).b = s.b := rfl
theorem rl_setI (s : RS) (k : Nat) (v : Int32) : (s.setI k v).l = s.l := rfl
theorem ri_setL (s : RS) (v : Int64) : (s.setL v).i = s.i := rfl
theorem ra_setL (s : RS) (v : Int64) : (s.setL v).a = s.a := rfl
theorem rb_setL (s : RS) (v : Int64) : (s.setL v).b = s.b := rfl
theorem rl_setL (s : RS) (v : Int64) : (s.setL v).l = v := rfl
theorem ri_setA (s : RS) (k j : Nat) (v : Int32) : (s.setA k j v).i = s.i := rfl
theorem ra_setA (s : RS) (k j m : Nat) (v : Int32) : (s.setA k j v).a m = if m = k then upd (s.a k) j v else s.a m := rfl
theorem rb_setA (s : RS) (k j : Nat) (v : Int32) : (s.setA k j v).b = s.b := rfl
theorem rl_setA (s : RS) (k j : Nat) (v : Int32) : (s.setA k j v).l = s.l := rfl
theorem ri_setB (s : RS) (k j : Nat) (v : Int64) : (s.setB k j v).i = s.i := rfl
theorem ra_setB (s : RS) (k j : Nat) (v : Int64) : (s.setB k j v).a = s.a := rfl
theorem rl_setB (s : RS) (k j : Nat) (v : Int64) : (s.setB k j v).l = s.l := rfl
end
section
/-- what stands of the reference at every call: the tape's fill, the kinds -/
def RB (s : RS) : Prop := (0 ≤ s.i 2 ∧ s.i 2 ≤ 900) ∧ (4 ≤ s.i 3 ∧ s.i 3 ≤ 12) ∧ (∀ k : Nat, 0 < k → (k : Int) < (s.i 3).toInt → 0 ≤ (s.a 4 k).toInt ∧ (s.a 4 k).toInt < k) ∧ (∀ r : Nat, r < 8 → 0 ≤ s.a 6 r ∧ s.a 6 r ≤ s.i 3) ∧ (∀ r : Nat, r < 8 → 0 ≤ s.a 7 r ∧ s.a 7 r ≤ s.i 3)
theorem RB.of {s t : RS} (h2 : t.i 2 = s.i 2) (h3 : t.i 3 = s.i 3) (h4 : t.a 4 = s.a 4) (h6 : t.a 6 = s.a 6) (h7 : t.a 7 = s.a 7) (h : RB s) : RB t := by
  unfold RB at *
  rw [h2, h3, h4, h6, h7]
  exact h
/-- what the plain calls leave as it is -/
def RK (s t : RS) : Prop := (∀ j : Nat, j ≠ 0 → j ≠ 2 → j ≠ 3 → j ≠ 8 → t.i j = s.i j) ∧ (∀ k : Nat, k ≠ 1 → k ≠ 4 → k ≠ 5 → k ≠ 6 → k ≠ 7 → t.a k = s.a k) ∧ t.b = s.b ∧ t.l = s.l ∧ s.i 3 ≤ t.i 3
theorem RK.rf (s : RS) : RK s s := ⟨fun _ _ _ _ _ => rfl, fun _ _ _ _ _ _ => rfl, rfl, rfl, Int32.le_refl _⟩
theorem RK.tr {s t u : RS} (h1 : RK s t) (h2 : RK t u) : RK s u := ⟨fun j a b c d => (h2.1 j a b c d).trans (h1.1 j a b c d), fun k a b c d e => (h2.2.1 k a b c d e).trans (h1.2.1 k a b c d e), h2.2.2.1.trans h1.2.2.1, h2.2.2.2.1.trans h1.2.2.2.1, Int32.le_trans h1.2.2.2.2 h2.2.2.2.2⟩
theorem RK.i0 (s : RS) (v : Int32) : RK s (s.setI 0 v) := ⟨fun j a _ _ _ => if_neg a, fun _ _ _ _ _ _ => rfl, rfl, rfl, Int32.le_refl _⟩
theorem RK.i2 (s : RS) (v : Int32) : RK s (s.setI 2 v) := ⟨fun j _ a _ _ => if_neg a, fun _ _ _ _ _ _ => rfl, rfl, rfl, Int32.le_refl _⟩
theorem RK.i8 (s : RS) (v : Int32) : RK s (s.setI 8 v) := ⟨fun j _ _ _ a => if_neg a, fun _ _ _ _ _ _ => rfl, rfl, rfl, Int32.le_refl _⟩
theorem RK.i3 (s : RS) (v : Int32) (h : s.i 3 ≤ v) : RK s (s.setI 3 v) := ⟨fun j _ _ a _ => if_neg a, fun _ _ _ _ _ _ => rfl, rfl, rfl, h⟩
theorem RK.a1 (s : RS) (j : Nat) (v : Int32) : RK s (s.setA 1 j v) := ⟨fun _ _ _ _ _ => rfl, fun k a _ _ _ _ => if_neg a, rfl, rfl, Int32.le_refl _⟩
theorem RK.a4 (s : RS) (j : Nat) (v : Int32) : RK s (s.setA 4 j v) := ⟨fun _ _ _ _ _ => rfl, fun k _ a _ _ _ => if_neg a, rfl, rfl, Int32.le_refl _⟩
theorem RK.a5 (s : RS) (j : Nat) (v : Int32) : RK s (s.setA 5 j v) := ⟨fun _ _ _ _ _ => rfl, fun k _ _ a _ _ => if_neg a, rfl, rfl, Int32.le_refl _⟩
theorem RK.a6 (s : RS) (j : Nat) (v : Int32) : RK s (s.setA 6 j v) := ⟨fun _ _ _ _ _ => rfl, fun k _ _ _ a _ => if_neg a, rfl, rfl, Int32.le_refl _⟩
theorem RK.a7 (s : RS) (j : Nat) (v : Int32) : RK s (s.setA 7 j v) := ⟨fun _ _ _ _ _ => rfl, fun k _ _ _ _ a => if_neg a, rfl, rfl, Int32.le_refl _⟩
theorem RB.i0 {s : RS} (v : Int32) (h : RB s) : RB (s.setI 0 v) := RB.of rfl rfl rfl rfl rfl h
/-- nI-like: the place of a number that is not below 0 -/
theorem clampI {k : Int32} (h : 0 ≤ k.toInt) : ((k.toNatClampNeg : Nat) : Int) = k.toInt := by
  show ((k.toInt.toNat : Nat) : Int) = k.toInt
  exact Int.toNat_of_nonneg h
theorem le_int {x y : Int32} (h : x ≤ y) : x.toInt ≤ y.toInt := Int32.le_iff_toInt_le.mp h
theorem lt_int {x y : Int32} (h : x < y) : x.toInt < y.toInt := Int32.lt_iff_toInt_lt.mp h
theorem p_in (N : Nat) (σ : RS) (x0 x1 x2 : Int32) : ok (f_X12_in N σ x0 x1 x2) (fun R => R.2 = σ ∧ (R.1 = 0 ∨ (R.1 = 1 ∧ x1 ≤ x0 ∧ x0 ≤ x2))) := by
  unfold f_X12_in f_X12_in_14
  refine ok_ite (fun h => ok_some ⟨rfl, Or.inl rfl⟩) (fun h => ok_ite (fun h2 => ok_some ⟨rfl, Or.inl rfl⟩) (fun h2 => ok_some ⟨rfl, Or.inr ⟨rfl, Int32.not_lt.mp h, Int32.not_lt.mp h2⟩⟩))
theorem p_cut (N : Nat) (σ : RS) (x1 : Int32) (h : RB σ) : ok (f_X12_cut N σ x1) (fun R => RB R.2 ∧ RK σ R.2) := by
  unfold f_X12_cut
  refine ok_bind (p_in N _ _ _ _) (fun p hp => ?_)
  obtain ⟨p1, p2⟩ := p
  obtain ⟨h1, h2⟩ := hp
  simp only at h1 h2
  subst h1
  refine ok_ite (fun c => ok_some ⟨h.i0 _, RK.i0 _ _⟩) (fun c => ?_)
  rcases h2 with h2 | ⟨h2, h3, h4⟩
  · exact absurd h2 c
  · exact ok_some ⟨⟨⟨h3, Int32.le_trans h4 h.1.2⟩, h.2⟩, (RK.i0 _ _).tr (RK.i2 _ _)⟩
theorem p_isUnder_loop (N : Nat) : ∀ (n : Nat) (σ : RS) (b k : Int32), RB σ → k < σ.i 3 → k.toInt < n → ok (f_X12_isUnder_2 N (n + 1) σ b k) (fun R => R.2 = σ)
  | n, σ, b, k, h, hk, hn => by
    show ok (b_X12_isUnder_2 N (f_X12_isUnder_2 N n) σ b k) _
    unfold b_X12_isUnder_2 f_X12_isUnder_21
    refine ok_ite (fun c => ok_ite (fun _ => ok_some rfl) (fun _ => ok_some rfl)) (fun c => ok_ite (fun c2 => ok_ite (fun _ => ok_some rfl) (fun _ => ok_some rfl)) (fun c2 => ?_))
    have hp : 0 < k := by grind
    have h12 : k < 12 := by have := h.2.1.2; grind
    have hib : ib k 12 := ib_of (m := 12) (by decide) (by grind) h12
    refine ok_chk hib ?_
    have e := clampI hib.1
    have hk3 := lt_int hk
    have hpos := lt_int hp
    rw [z_t0] at hpos
    obtain ⟨h1, h2⟩ := h.2.2.1 k.toNatClampNeg (by omega) (by omega)
    cases n with
    | zero => omega
    | succ n =>
      refine p_isUnder_loop N n σ b _ h ?_ ?_
      · rw [Int32.lt_iff_toInt_lt]; omega
      · omega
theorem p_isUnder {N : Nat} (hN : 100 ≤ N) (σ : RS) (a b : Int32) (h : RB σ) (ha : a < σ.i 3) : ok (f_X12_isUnder N σ a b) (fun R => R.2 = σ) := by
  unfold f_X12_isUnder
  obtain ⟨m, rfl⟩ : ∃ m, N = m + 1 := ⟨N - 1, by omega⟩
  refine p_isUnder_loop _ m σ b a h ha ?_
  have h1 := lt_int ha
  have h2 := le_int h.2.1.2
  have e : (12 : Int32).toInt = 12 := by decide
  omega
theorem p_under {N : Nat} (hN : 100 ≤ N) (σ : RS) (x1 x2 : Int32) (h : RB σ) : ok (f_X12_under N σ x1 x2) (fun R => RB R.2 ∧ RK σ R.2) := by
  unfold f_X12_under f_X12_under_33
  refine ok_bind (p_in N _ _ _ _) (fun p hp => ?_)
  obtain ⟨p1, p2⟩ := p
  obtain ⟨h1, h2⟩ := hp
  simp only at h1 h2
  subst h1
  refine ok_ite (fun c => ok_some ⟨h.i0 _, RK.i0 _ _⟩) (fun c => ?_)
  refine ok_bind (p_in N _ _ _ _) (fun p hp => ?_)
  obtain ⟨q1, q2⟩ := p
  obtain ⟨h3, h4⟩ := hp
  simp only at h3 h4
  subst h3
  refine ok_ite (fun c => ok_some ⟨h.i0 _, RK.i0 _ _⟩) (fun c2 => ?_)
  have hx : x1 < (σ.setI 0 0).i 3 := by
    show x1 < σ.i 3
    rcases h2 with h2 | ⟨-, h5, h6⟩
    · exact absurd h2 c
    · have := h.2.1; grind
  refine ok_bind (p_isUnder hN _ _ _ (h.i0 _) hx) (fun p hp => ?_)
  obtain ⟨r1, r2⟩ := p
  simp only at hp
  subst hp
  exact ok_ite (fun _ => ok_some ⟨h.i0 _, RK.i0 _ _⟩) (fun _ => ok_some ⟨h.i0 _, RK.i0 _ _⟩)
theorem p_kind (N : Nat) (σ : RS) (x1 : Int32) (h : RB σ) : ok (f_X12_kind N σ x1) (fun R => RB R.2 ∧ RK σ R.2) := by
  unfold f_X12_kind
  refine ok_bind (p_in N _ _ _ _) (fun p hp => ?_)
  obtain ⟨p1, p2⟩ := p
  obtain ⟨h1, h2⟩ := hp
  simp only at h1 h2
  subst h1
  refine ok_ite (fun c => ok_some ⟨h.i0 _, RK.i0 _ _⟩) (fun c => ok_ite (fun c2 => ok_some ⟨h.i0 _, RK.i0 _ _⟩) (fun c2 => ?_))
  rcases h2 with h2 | ⟨-, h3, h4⟩
  · exact absurd h2 c
  · obtain ⟨hT, ⟨hk1, hk2⟩, hab, hop, hcl⟩ := h
    have c3 : ¬ σ.i 3 = 12 := c2
    have h5 : x1 ≤ σ.i 3 - 1 := h4
    have hk : σ.i 3 < 12 := by grind
    have hib : ib (σ.i 3) 12 := ib_of (m := 12) (by decide) (by grind) hk
    refine ok_chk hib (ok_some ⟨?_, ((RK.i0 _ _).tr (RK.a4 _ _ _)).tr (RK.i3 _ _ (by show σ.i 3 ≤ σ.i 3 + 1; grind))⟩)
    have e1 : (1 : Int32).toInt = 1 := by decide
    have e12 : (12 : Int32).toInt = 12 := by decide
    have hl := lt_int hk
    have ha : (σ.i 3 + 1).toInt = (σ.i 3).toInt + 1 := by rw [toInt_add] <;> rw [e1] <;> omega
    have ec := clampI hib.1
    refine ⟨hT, ⟨?_, ?_⟩, ?_, ?_, ?_⟩
    · show 4 ≤ σ.i 3 + 1; grind
    · show σ.i 3 + 1 ≤ 12; grind
    · intro k h0 hk9
      show 0 ≤ (upd (σ.a 4) (σ.i 3).toNatClampNeg x1 k).toInt ∧ (upd (σ.a 4) (σ.i 3).toNatClampNeg x1 k).toInt < k
      have hk9 : (k : Int) < (σ.i 3 + 1).toInt := hk9
      unfold upd
      by_cases hq : k = (σ.i 3).toNatClampNeg
      · rw [if_pos hq]
        have h6 := le_int h3
        rw [z_t0] at h6
        have h7 := le_int h5
        have es : (σ.i 3 - 1).toInt = (σ.i 3).toInt - 1 := by rw [toInt_sub] <;> rw [e1] <;> omega
        omega
      · rw [if_neg hq]
        exact hab k h0 (by omega)
    · intro r hr
      have := hop r hr
      show 0 ≤ σ.a 6 r ∧ σ.a 6 r ≤ σ.i 3 + 1
      grind
    · intro r hr
      have := hcl r hr
      show 0 ≤ σ.a 7 r ∧ σ.a 7 r ≤ σ.i 3 + 1
      grind
theorem p_resource_71 (N : Nat) (σ : RS) (x1 x3 x4 : Int32) (h : RB σ) (hx : ib x1 8) (h3 : -1 ≤ x3 ∧ x3 ≤ σ.i 3 - 1) (h4 : -1 ≤ x4 ∧ x4 ≤ σ.i 3 - 1) : ok (f_X12_resource_71 N σ x1 x3 x4) (fun R => RB R.2 ∧ RK σ R.2) := by
  unfold f_X12_resource_71
  obtain ⟨hT, ⟨hk1, hk2⟩, hab, hop, hcl⟩ := h
  refine ok_chk hx (ok_some ⟨⟨hT, ⟨hk1, hk2⟩, hab, ?_, ?_⟩, (RK.a6 _ _ _).tr (RK.a7 _ _ _)⟩)
  · intro r hr
    show 0 ≤ upd (σ.a 6) x1.toNatClampNeg (x3 + 1) r ∧ upd (σ.a 6) x1.toNatClampNeg (x3 + 1) r ≤ σ.i 3
    unfold upd
    by_cases hq : r = x1.toNatClampNeg
    · rw [if_pos hq]; grind
    · rw [if_neg hq]; exact hop r hr
  · intro r hr
    show 0 ≤ upd (σ.a 7) x1.toNatClampNeg (x4 + 1) r ∧ upd (σ.a 7) x1.toNatClampNeg (x4 + 1) r ≤ σ.i 3
    unfold upd
    by_cases hq : r = x1.toNatClampNeg
    · rw [if_pos hq]; grind
    · rw [if_neg hq]; exact hcl r hr
theorem p_resource (N : Nat) (σ : RS) (x1 x2 x3 x4 : Int32) (h : RB σ) : ok (f_X12_resource N σ x1 x2 x3 x4) (fun R => RB R.2 ∧ RK σ R.2) := by
  unfold f_X12_resource f_X12_resource_53
  have hz : RB (σ.setI 0 0) ∧ RK σ (σ.setI 0 0) := ⟨h.i0 _, RK.i0 _ _⟩
  refine ok_bind (p_in N _ _ _ _) (fun p hp => ?_)
  obtain ⟨p1, p2⟩ := p
  obtain ⟨h1, h2⟩ := hp
  simp only at h1 h2
  subst h1
  refine ok_ite (fun c => ok_some hz) (fun c1 => ?_)
  refine ok_bind (p_in N _ _ _ _) (fun p hp => ?_)
  obtain ⟨q1, q2⟩ := p
  obtain ⟨h3, h4⟩ := hp
  simp only at h3 h4
  subst h3
  refine ok_ite (fun c => ok_some hz) (fun c2 => ?_)
  refine ok_bind (p_in N _ _ _ _) (fun p hp => ?_)
  obtain ⟨r1, r2⟩ := p
  obtain ⟨h5, h6⟩ := hp
  simp only at h5 h6
  subst h5
  refine ok_ite (fun c => ok_some hz) (fun c3 => ?_)
  refine ok_bind (p_in N _ _ _ _) (fun p hp => ?_)
  obtain ⟨s1, s2⟩ := p
  obtain ⟨h7, h8⟩ := hp
  simp only at h7 h8
  subst h7
  refine ok_ite (fun c => ok_some hz) (fun c4 => ?_)
  rcases h2 with h2 | ⟨-, a1, a2⟩
  · exact absurd h2 c1
  rcases h6 with h6 | ⟨-, b1, b2⟩
  · exact absurd h6 c3
  rcases h8 with h8 | ⟨-, d1, d2⟩
  · exact absurd h8 c4
  have hx : ib x1 8 := ib_of (m := 8) (by decide) a1 (by grind)
  have fin : ∀ v : Int32, ok (f_X12_resource_71 N ((σ.setI 0 0).setA 5 x1.toNatClampNeg v) x1 x3 x4) (fun R => RB R.2 ∧ RK σ R.2) := fun v =>
    ok_imp (p_resource_71 N _ x1 x3 x4 (RB.of rfl rfl rfl rfl rfl h) hx ⟨b1, b2⟩ ⟨d1, d2⟩) (fun R hR => ⟨hR.1, ((RK.i0 _ _).tr (RK.a5 _ _ _)).tr hR.2⟩)
  exact ok_ite (fun _ => ok_chk hx (fin 1)) (fun _ => ok_chk hx (fin 0))
theorem p_asserts (N : Nat) (σ : RS) (x1 : Int32) (h : RB σ) (hx : x1 = 0 ∨ x1 = 1) : ok (f_X12_asserts N σ x1) (fun R => RB R.2 ∧ RK σ R.2) := by
  unfold f_X12_asserts f_X12_asserts_18
  exact ok_ite (fun _ => ok_chk hx (ok_some ⟨RB.of rfl rfl rfl rfl rfl h, (RK.i0 _ _).tr (RK.i8 _ _)⟩)) (fun _ => ok_chk hx (ok_some ⟨RB.of rfl rfl rfl rfl rfl h, (RK.i0 _ _).tr (RK.i8 _ _)⟩))
theorem p_fault (N : Nat) (σ : RS) (h : RB σ) : ok (f_X12_fault N σ) (fun R => RB R.2 ∧ RK σ R.2) := ok_some ⟨h.i0 _, RK.i0 _ _⟩
theorem p_program (N : Nat) (σ : RS) (x1 : Int32) (h : RB σ) : ok (f_X12_program N σ x1) (fun R => RB R.2 ∧ RK σ R.2) := by
  unfold f_X12_program
  have hz : RB (σ.setI 0 0) ∧ RK σ (σ.setI 0 0) := ⟨h.i0 _, RK.i0 _ _⟩
  refine ok_bind (p_in N _ _ _ _) (fun p hp => ?_)
  obtain ⟨p1, p2⟩ := p
  obtain ⟨h1, h2⟩ := hp
  simp only at h1 h2
  subst h1
  exact ok_ite (fun _ => ok_some hz) (fun _ => ok_ite (fun _ => ok_some hz) (fun _ => ok_ite (fun _ => ok_some hz) (fun _ => ok_ite (fun _ => ok_ite (fun _ => ok_some hz) (fun _ => ok_some hz)) (fun _ => ok_ite (fun _ => ok_some hz) (fun _ => ok_some hz)))))
theorem p_feed_loop (N : Nat) (x1 x2 x3 x4 x5 : Int32) : ∀ (n : Nat) (σ : RS) (k : Int32), RB σ → σ.i 2 + 20 ≤ 900 → 0 ≤ k → k ≤ 20 → 20 - k.toInt < n → ok (f_X12_feed_24 N n σ x1 x2 x3 x4 x5 k) (fun R => RB R.2 ∧ RK σ R.2)
  | 0, σ, k, h, ht, h0, h20, hn => by
    have := le_int h20
    have e : (20 : Int32).toInt = 20 := by decide
    omega
  | n+1, σ, k, h, ht, h0, h20, hn => by
    show ok (b_X12_feed_24 N (f_X12_feed_24 N n) σ x1 x2 x3 x4 x5 k) _
    unfold b_X12_feed_24
    have h2 := h.1
    refine ok_ite (fun c => ok_some ⟨?_, RK.i2 _ _⟩) (fun c => ?_)
    · refine ⟨⟨?_, ht⟩, h.2⟩
      show 0 ≤ σ.i 2 + 20
      grind
    · have hb : 0 ≤ σ.i 2 + k ∧ σ.i 2 + k < 900 := by grind
      have hib : ib (σ.i 2 + k) 900 := ib_of (m := 900) (by decide) hb.1 hb.2
      have hk : k < 20 := by grind
      have e1 : (1 : Int32).toInt = 1 := by decide
      have e20 : (20 : Int32).toInt = 20 := by decide
      have hl := lt_int hk
      have h0' := le_int h0
      rw [z_t0] at h0'
      have ha : (k + 1).toInt = k.toInt + 1 := by rw [toInt_add] <;> rw [e1] <;> omega
      have fin : ∀ v : Int32, ok (f_X12_feed_24 N n (σ.setA 1 (σ.i 2 + k).toNatClampNeg v) x1 x2 x3 x4 x5 (k + 1)) (fun R => RB R.2 ∧ RK σ R.2) := fun v =>
        ok_imp (p_feed_loop N x1 x2 x3 x4 x5 n _ (k + 1) (RB.of rfl rfl rfl rfl rfl h) ht (by grind) (by grind) (by omega)) (fun R hR => ⟨hR.1, (RK.a1 _ _ _).tr hR.2⟩)
      exact ok_ite (fun _ => ok_ite (fun _ => ok_ite (fun _ => ok_ite (fun _ => ok_chk hib (fin _)) (fun _ => ok_chk hib (fin _))) (fun _ => ok_chk hib (fin _))) (fun _ => ok_chk hib (fin _))) (fun _ => ok_chk hib (fin _))
theorem p_feed {N : Nat} (hN : 100 ≤ N) (σ : RS) (x1 x2 x3 x4 x5 : Int32) (h : RB σ) : ok (f_X12_feed N σ x1 x2 x3 x4 x5) (fun R => RB R.2 ∧ RK σ R.2) := by
  unfold f_X12_feed
  refine ok_ite (fun c => ?_) (fun c => ok_some ⟨h.i0 _, RK.i0 _ _⟩)
  refine ok_imp (p_feed_loop N x1 x2 x3 x4 x5 N _ 0 (h.i0 0) c (by decide) (by decide) ?_) (fun R hR => ⟨hR.1, (RK.i0 _ _).tr hR.2⟩)
  rw [z_t0]
  omega
end
section
/-! the reference's tokens -/
def bt (s : RS) (x : Int32) : Int32 := if s.i 2 ≤ x then 0 else s.a 1 x.toNatClampNeg
theorem e_at {N : Nat} {σ : RS} {x : Int32} (h0 : 0 ≤ x) (h9 : σ.i 2 ≤ 900) : f_X12_at N σ x = some (bt σ x, σ) := by
  unfold f_X12_at bt
  by_cases c : σ.i 2 ≤ x
  · rw [if_pos c, if_pos c]
  · rw [if_neg c, if_neg c, if_pos (ib_of (m := 900) (by decide) h0 (by grind))]
theorem e_isDigit {N : Nat} {σ : RS} {c : Int32} : f_X12_isDigit N σ c = some (if 48 ≤ c ∧ c ≤ 57 then 1 else 0, σ) := by
  unfold f_X12_isDigit f_X12_isDigit_16
  by_cases h1 : c < 48
  · rw [if_pos h1, if_neg (by grind)]
  · rw [if_neg h1]
    by_cases h2 : 57 < c
    · rw [if_pos h2, if_neg (by grind)]
    · rw [if_neg h2, if_pos (by grind)]
theorem e_isLetter {N : Nat} {σ : RS} {c : Int32} : f_X12_isLetter N σ c = some (if 97 ≤ c ∧ c ≤ 122 then 1 else 0, σ) := by
  unfold f_X12_isLetter f_X12_isLetter_16
  by_cases h1 : c < 97
  · rw [if_pos h1, if_neg (by grind)]
  · rw [if_neg h1]
    by_cases h2 : 122 < c
    · rw [if_pos h2, if_neg (by grind)]
    · rw [if_neg h2, if_pos (by grind)]
theorem e_in {N : Nat} {σ : RS} {x a b : Int32} : f_X12_in N σ x a b = some (if a ≤ x ∧ x ≤ b then 1 else 0, σ) := by
  unfold f_X12_in f_X12_in_14
  by_cases h1 : x < a
  · rw [if_pos h1, if_neg (by grind)]
  · rw [if_neg h1]
    by_cases h2 : b < x
    · rw [if_pos h2, if_neg (by grind)]
    · rw [if_neg h2, if_pos (by grind)]
/-- only the token's numbers may differ -/
def TU (s t : RS) : Prop := (∀ j : Nat, j ≠ 10 → j ≠ 11 → j ≠ 12 → j ≠ 14 → t.i j = s.i j) ∧ t.a = s.a ∧ t.b = s.b
theorem TU.rf (s : RS) : TU s s := ⟨fun _ _ _ _ _ => rfl, rfl, rfl⟩
theorem TU.tr {s t u : RS} (h1 : TU s t) (h2 : TU t u) : TU s u := ⟨fun j a b c d => (h2.1 j a b c d).trans (h1.1 j a b c d), h2.2.1.trans h1.2.1, h2.2.2.trans h1.2.2⟩
theorem TU.i10 (s : RS) (v : Int32) : TU s (s.setI 10 v) := ⟨fun j a _ _ _ => if_neg a, rfl, rfl⟩
theorem TU.i11 (s : RS) (v : Int32) : TU s (s.setI 11 v) := ⟨fun j _ a _ _ => if_neg a, rfl, rfl⟩
theorem TU.i12 (s : RS) (v : Int32) : TU s (s.setI 12 v) := ⟨fun j _ _ a _ => if_neg a, rfl, rfl⟩
theorem TU.i14 (s : RS) (v : Int32) : TU s (s.setI 14 v) := ⟨fun j _ _ _ a => if_neg a, rfl, rfl⟩
theorem TU.l (s : RS) (v : Int64) : TU s (s.setL v) := ⟨fun _ _ _ _ _ => rfl, rfl, rfl⟩
theorem TU.taped {s t : RS} (h : TU s t) : t.i 2 = s.i 2 := h.1 2 (by decide) (by decide) (by decide) (by decide)
/-- what stands of a token: from, to, and its number -/
def TP (s t : RS) : Prop := TU s t ∧ 0 ≤ t.i 11 ∧ t.i 11 ≤ t.i 12 ∧ t.i 12 ≤ t.i 2 ∧ (t.i 10 = 0 ∧ t.i 11 = t.i 2 ∨ t.i 10 ≠ 0 ∧ t.i 11 < t.i 12) ∧ (t.i 10 = 3 ∨ t.i 10 = 4 → 0 ≤ t.i 14 ∧ t.i 14 ≤ 7) ∧ (t.i 10 = 5 → 0 ≤ t.i 14 ∧ t.i 14 ≤ 11) ∧ (410 ≤ t.i 10 → t.i 11 + 2 ≤ t.i 12) ∧ t.i 10 ≤ 434 ∧ (t.i 10 = 5 → t.i 11 + 2 ≤ t.i 12)
def TQ (s t : RS) : Prop := TP s t ∧ t.i 11 = s.i 11
def WD (s : RS) : Prop := ∀ k : Nat, k < 25 → 256 ≤ s.b 9 k
theorem lg_cmp_0 {x y : Int64} (h : lg_cmp x y = 0) : x = y := by
  unfold lg_cmp at h
  by_cases h1 : y < x
  · rw [if_pos h1] at h; exact absurd h (by decide)
  · rw [if_neg h1] at h
    by_cases h2 : x = y
    · exact h2
    · rw [if_neg h2] at h; exact absurd h (by decide)
/-- the words: the token stays NAME, or is a word, and then the name is one of them -/
theorem p_rn260 (N : Nat) : ∀ (n : Nat) (σ : RS) (k : Int32), 0 ≤ k → k ≤ 25 → 25 - k.toInt < n → σ.i 10 = 2 ∨ (410 ≤ σ.i 10 ∧ σ.i 10 ≤ 434 ∧ ∃ j : Nat, j < 25 ∧ σ.b 9 j = σ.l) →
    ok (f_X12_readName_260 N n σ k) (fun R => TU σ R ∧ R.i 11 = σ.i 11 ∧ R.i 12 = σ.i 12 ∧ R.i 14 = σ.i 14 ∧ (R.i 10 = 2 ∨ (410 ≤ R.i 10 ∧ R.i 10 ≤ 434 ∧ ∃ j : Nat, j < 25 ∧ σ.b 9 j = σ.l)))
  | 0, σ, k, h0, h25, hn, ht => by
    have := le_int h25
    have e : (25 : Int32).toInt = 25 := by decide
    omega
  | n+1, σ, k, h0, h25, hn, ht => by
    show ok (b_X12_readName_260 N (f_X12_readName_260 N n) σ k) _
    unfold b_X12_readName_260
    refine ok_ite (fun c => ok_some ⟨TU.rf _, rfl, rfl, rfl, ht⟩) (fun c => ?_)
    have hk : k < 25 := by grind
    have hib : ib k 25 := ib_of (m := 25) (by decide) h0 hk
    refine ok_chk hib ?_
    have e1 : (1 : Int32).toInt = 1 := by decide
    have e25 : (25 : Int32).toInt = 25 := by decide
    have hl := lt_int hk
    have h0' := le_int h0
    rw [z_t0] at h0'
    have ha : (k + 1).toInt = k.toInt + 1 := by rw [toInt_add] <;> rw [e1] <;> omega
    have ec := clampI hib.1
    refine ok_ite (fun c2 => ?_) (fun c2 => ?_)
    · have hw := lg_cmp_0 c2
      refine ok_imp (p_rn260 N n _ (k + 1) (by grind) (by grind) (by omega) (Or.inr ⟨?_, ?_, k.toNatClampNeg, by omega, hw⟩)) (fun R hR => ⟨(TU.i10 _ _).tr hR.1, hR.2⟩)
      · show 410 ≤ 410 + k; grind
      · show 410 + k ≤ 434; grind
    · exact ok_imp (p_rn260 N n _ (k + 1) (by grind) (by grind) (by omega) ht) (fun R hR => ⟨(TU.i10 _ _).tr hR.1, hR.2⟩)
/-- behind the name's letters -/
def NP (σ R : RS) : Prop := TU σ R ∧ R.i 11 = σ.i 11 ∧ R.i 12 = σ.i 12 ∧ R.i 10 ≠ 0 ∧ R.i 10 ≤ 434 ∧ (R.i 10 = 3 ∨ R.i 10 = 4 → 0 ≤ R.i 14 ∧ R.i 14 ≤ 7) ∧ (R.i 10 = 5 → 0 ≤ R.i 14 ∧ R.i 14 ≤ 11) ∧ (410 ≤ R.i 10 → ∃ j : Nat, j < 25 ∧ σ.b 9 j = σ.l)
def NZ (z : Int32) (σ R : RS) : Prop := NP σ R ∧ (R.i 10 = 5 → z = 2 ∨ z = 3)
theorem p_rn257 {N : Nat} (hN : 100 ≤ N) (σ : RS) (h : σ.i 10 = 2) (z : Int32) : ok (f_X12_readName_257 N σ) (NZ z σ) := by
  unfold f_X12_readName_257
  refine ok_imp (p_rn260 N N σ 0 (by decide) (by decide) (by rw [z_t0]; omega) (Or.inl h)) (fun R hR => ?_)
  obtain ⟨h1, h2, h3, h4, h5⟩ := hR
  refine ⟨⟨h1, h2, h3, ?_, ?_, ?_, ?_, ?_⟩, ?_⟩ <;> grind
theorem NP.of {σ τ R : RS} (h : NP τ R) (hu : TU σ τ) (h1 : τ.i 11 = σ.i 11) (h2 : τ.i 12 = σ.i 12) (hl : τ.l = σ.l) : NP σ R := by
  obtain ⟨a1, a2, a3, a4, a5, a6, a7, a8⟩ := h
  refine ⟨hu.tr a1, a2.trans h1, a3.trans h2, a4, a5, a6, a7, fun q => ?_⟩
  obtain ⟨j, hj, he⟩ := a8 q
  exact ⟨j, hj, by rw [← hu.2.2, ← hl]; exact he⟩
theorem k_58 {y : Int32} (h1 : 0 ≤ y - 48) (h2 : y - 48 ≤ 1) : 0 ≤ 10 + y - 48 ∧ 10 + y - 48 ≤ 11 := by
  have e : 10 + y - 48 = (y - 48) + 10 := by grind
  rw [e]
  generalize y - 48 = z at h1 h2
  grind
theorem p_rn220 {N : Nat} (σ : RS) (x1 x3 : Int32) (h : x1 = 2 ∧ 0 ≤ x3 ∧ x3 ≤ 9 ∨ ¬ x1 = 2 ∧ 0 ≤ bt σ (σ.i 11 + 2) - 48 ∧ bt σ (σ.i 11 + 2) - 48 ≤ 1) (h0 : 0 ≤ σ.i 11) (h9 : σ.i 11 ≤ 900) (ht : σ.i 2 ≤ 900) (hz : x1 = 2 ∨ x1 = 3) : ok (f_X12_readName_220 N σ x1 x3) (NZ x1 σ) := by
  unfold f_X12_readName_220 f_X12_readName_254
  refine ok_ite (fun c => ?_) (fun c => ?_)
  · refine ok_some ⟨⟨(TU.i10 _ _).tr (TU.i14 _ _), rfl, rfl, ?_, ?_, ?_, ?_, ?_⟩, fun _ => hz⟩
    · show (5 : Int32) ≠ 0; decide
    · show (5 : Int32) ≤ 434; decide
    · intro q; have q : (5 : Int32) = 3 ∨ (5 : Int32) = 4 := q; exact absurd q (by decide)
    · intro _; show 0 ≤ x3 ∧ x3 ≤ 11; grind
    · intro q; have q : (410 : Int32) ≤ 5 := q; exact absurd q (by decide)
  · rw [e_at (σ := σ.setI 10 5) (by show 0 ≤ σ.i 11 + 2; grind) ht]
    refine ok_some ⟨⟨(TU.i10 _ _).tr (TU.i14 _ _), rfl, rfl, ?_, ?_, ?_, ?_, ?_⟩, fun _ => hz⟩
    · show (5 : Int32) ≠ 0; decide
    · show (5 : Int32) ≤ 434; decide
    · intro q; have q : (5 : Int32) = 3 ∨ (5 : Int32) = 4 := q; exact absurd q (by decide)
    · intro _
      show 0 ≤ 10 + bt σ (σ.i 11 + 2) - 48 ∧ 10 + bt σ (σ.i 11 + 2) - 48 ≤ 11
      rcases h with h | h
      · exact absurd h.1 c
      · exact k_58 h.2.1 h.2.2
    · intro q; have q : (410 : Int32) ≤ 5 := q; exact absurd q (by decide)
theorem p_rn189 {N : Nat} (hN : 100 ≤ N) (σ : RS) (x1 x3 : Int32) (h : σ.i 10 = 2) (h0 : 0 ≤ σ.i 11) (h9 : σ.i 11 ≤ 900) (ht : σ.i 2 ≤ 900) : ok (f_X12_readName_189 N σ x1 x3) (NZ x1 σ) := by
  unfold f_X12_readName_189
  refine ok_ite (fun c => ok_ite (fun c2 => ?_) (fun c2 => p_rn257 hN σ h x1)) (fun c => p_rn257 hN σ h x1)
  rw [e_at (by grind) ht]
  show ok ((f_X12_in N σ (bt σ (σ.i 11 + 2) - 48) 0 1).bind _) _
  rw [e_in]
  refine ok_ite (fun c3 => p_rn257 hN σ h x1) (fun c3 => p_rn220 σ x1 x3 (Or.inr ?_) h0 h9 ht (Or.inr c))
  have c3 : ¬ (if 0 ≤ bt σ (σ.i 11 + 2) - 48 ∧ bt σ (σ.i 11 + 2) - 48 ≤ 1 then (1 : Int32) else 0) = 0 := c3
  by_cases hq : 0 ≤ bt σ (σ.i 11 + 2) - 48 ∧ bt σ (σ.i 11 + 2) - 48 ≤ 1
  · exact ⟨by rw [c]; decide, hq⟩
  · rw [if_neg hq] at c3; exact absurd rfl c3
theorem p_rn168 {N : Nat} (hN : 100 ≤ N) (σ : RS) (x1 x2 x3 : Int32) (h : σ.i 10 = 2) (h0 : 0 ≤ σ.i 11) (h9 : σ.i 11 ≤ 900) (ht : σ.i 2 ≤ 900) : ok (f_X12_readName_168 N σ x1 x2 x3) (NZ x1 σ) := by
  unfold f_X12_readName_168
  refine ok_ite (fun c => ok_ite (fun c2 => ?_) (fun c2 => p_rn189 hN σ x1 x3 h h0 h9 ht)) (fun c => p_rn257 hN σ h x1)
  rw [e_in]
  refine ok_ite (fun c3 => p_rn189 hN σ x1 x3 h h0 h9 ht) (fun c3 => p_rn220 σ x1 x3 (Or.inl ?_) h0 h9 ht (Or.inl c2))
  have c3 : ¬ (if 0 ≤ x3 ∧ x3 ≤ 9 then (1 : Int32) else 0) = 0 := c3
  by_cases hq : 0 ≤ x3 ∧ x3 ≤ 9
  · exact ⟨c2, hq⟩
  · rw [if_neg hq] at c3; exact absurd rfl c3
theorem p_rn135 {N : Nat} (hN : 100 ≤ N) (σ : RS) (x1 x2 x3 : Int32) (h : σ.i 10 = 2) (h0 : 0 ≤ σ.i 11) (h9 : σ.i 11 ≤ 900) (ht : σ.i 2 ≤ 900) : ok (f_X12_readName_135 N σ x1 x2 x3) (NZ x1 σ) := by
  unfold f_X12_readName_135 f_X12_readName_160
  rw [e_in]
  refine ok_ite (fun c3 => p_rn168 hN σ x1 x2 x3 h h0 h9 ht) (fun c3 => ?_)
  have c3 : ¬ (if 0 ≤ x3 ∧ x3 ≤ 7 then (1 : Int32) else 0) = 0 := c3
  have hq : 0 ≤ x3 ∧ x3 ≤ 7 := by
    by_cases hq : 0 ≤ x3 ∧ x3 ≤ 7
    · exact hq
    · rw [if_neg hq] at c3; exact absurd rfl c3
  refine ok_ite (fun _ => ok_some ⟨⟨(TU.i10 _ _).tr (TU.i14 _ _), rfl, rfl, ?_, ?_, fun _ => hq, ?_, ?_⟩, ?_⟩) (fun _ => ok_some ⟨⟨(TU.i10 _ _).tr (TU.i14 _ _), rfl, rfl, ?_, ?_, fun _ => hq, ?_, ?_⟩, ?_⟩)
  · show (3 : Int32) ≠ 0; decide
  · show (3 : Int32) ≤ 434; decide
  · intro q; have q : (3 : Int32) = 5 := q; exact absurd q (by decide)
  · intro q; have q : (410 : Int32) ≤ 3 := q; exact absurd q (by decide)
  · intro q; have q : (3 : Int32) = 5 := q; exact absurd q (by decide)
  · show (4 : Int32) ≠ 0; decide
  · show (4 : Int32) ≤ 434; decide
  · intro q; have q : (4 : Int32) = 5 := q; exact absurd q (by decide)
  · intro q; have q : (410 : Int32) ≤ 4 := q; exact absurd q (by decide)
  · intro q; have q : (4 : Int32) = 5 := q; exact absurd q (by decide)
theorem ift {c : Prop} [Decidable c] (h : ¬ (if c then (1 : Int32) else 0) = 0) : c := by
  by_cases hc : c
  · exact hc
  · rw [if_neg hc] at h; exact absurd rfl h
theorem iff0 {c : Prop} [Decidable c] (h : (if c then (1 : Int32) else 0) = 0) : ¬ c := by
  intro hc
  rw [if_pos hc] at h
  exact absurd h (by decide)
theorem bt_in {σ : RS} {x : Int32} (h : bt σ x ≠ 0) : x < σ.i 2 := by
  unfold bt at h
  by_cases c : σ.i 2 ≤ x
  · rw [if_pos c] at h; exact absurd rfl h
  · grind
theorem or_1 {c : Int32} (h1 : 0 ≤ c) (h2 : c ≤ 122) : ((0 : Int64) <<< ((8 : Int32).toInt64 &&& 63)) ||| c.toInt64 < 256 := by
  have e : ((0 : Int64) <<< ((8 : Int32).toInt64 &&& 63)) = 0 := by decide
  rw [e, Int64.zero_or, Int64.lt_iff_toInt_lt]
  have e1 : (256 : Int64).toInt = 256 := by decide
  have e2 : (122 : Int32).toInt = 122 := by decide
  have h := le_int h2
  rw [Int32.toInt_toInt64, e1]
  omega
/-- the name's letters, one by one -/
def NI (σ : RS) : Prop := 0 ≤ σ.i 11 ∧ σ.i 11 ≤ σ.i 12 ∧ σ.i 12 ≤ σ.i 2 ∧ σ.i 2 ≤ 900 ∧ (σ.i 12 = σ.i 11 ∧ σ.l = 0 ∧ 97 ≤ bt σ (σ.i 11) ∧ bt σ (σ.i 11) ≤ 122 ∨ σ.i 12 = σ.i 11 + 1 ∧ σ.l < 256 ∨ σ.i 11 + 2 ≤ σ.i 12)
theorem TP.np {σ R : RS} (h : NP σ R) (hi : NI σ) (hc : σ.i 11 < σ.i 12) (hw : WD σ) (h5 : R.i 10 = 5 → σ.i 11 + 2 ≤ σ.i 12) : TP σ R := by
  obtain ⟨a1, a2, a3, a4, a5, a6, a7, a8⟩ := h
  obtain ⟨b1, b2, b3, b4, b5⟩ := hi
  have ht := a1.taped
  refine ⟨a1, by rw [a2]; exact b1, by rw [a2, a3]; exact b2, by rw [a3, ht]; exact b3, Or.inr ⟨a4, by rw [a2, a3]; exact hc⟩, a6, a7, fun q => ?_, a5, by rw [a2, a3]; exact h5⟩
  rw [a2, a3]
  obtain ⟨j, hj, he⟩ := a8 q
  have h256 := hw j hj
  rw [he] at h256
  rcases b5 with ⟨q1, -, -⟩ | ⟨-, q2⟩ | q3
  · rw [q1] at hc; exact absurd hc (by grind)
  · exact absurd h256 (Int64.not_le.mpr q2)
  · exact q3
theorem p_rn5 {N : Nat} (hN : 100 ≤ N) : ∀ (n : Nat) (σ : RS), NI σ → WD σ → (σ.i 2).toInt - (σ.i 12).toInt < n → ok (f_X12_readName_5 N n σ) (TQ σ)
  | 0, σ, h, hw, hn => by
    have := le_int h.2.2.1
    omega
  | n+1, σ, h, hw, hn => by
    show ok (b_X12_readName_5 N (f_X12_readName_5 N n) σ) _
    unfold b_X12_readName_5
    have hi := h
    obtain ⟨b1, b2, b3, b4, b5⟩ := h
    have h12 : 0 ≤ σ.i 12 := Int32.le_trans b1 b2
    have more : bt σ (σ.i 12) ≠ 0 → 0 ≤ bt σ (σ.i 12) ∧ bt σ (σ.i 12) ≤ 122 → ok (f_X12_readName_5 N n ((σ.setL ((σ.l <<< ((8 : Int32).toInt64 &&& 63)) ||| (bt σ (σ.i 12)).toInt64)).setI 12 (σ.i 12 + 1))) (TQ σ) := by
      intro hne hr
      have hlt := bt_in hne
      have e1 : (1 : Int32).toInt = 1 := by decide
      have e9 : (900 : Int32).toInt = 900 := by decide
      have q1 := lt_int hlt
      have q2 := le_int b4
      have q3 := le_int h12
      rw [z_t0] at q3
      have ha : (σ.i 12 + 1).toInt = (σ.i 12).toInt + 1 := by rw [toInt_add] <;> rw [e1] <;> omega
      refine ok_imp (p_rn5 hN n _ ?_ hw ?_) (fun R hR => ?_)
      · refine ⟨b1, ?_, ?_, b4, ?_⟩
        · show σ.i 11 ≤ σ.i 12 + 1; grind
        · show σ.i 12 + 1 ≤ σ.i 2; grind
        · rcases b5 with ⟨r1, r2, r3, r4⟩ | ⟨r1, r2⟩ | r3
          · refine Or.inr (Or.inl ⟨?_, ?_⟩)
            · show σ.i 12 + 1 = σ.i 11 + 1; rw [r1]
            · show (σ.l <<< ((8 : Int32).toInt64 &&& 63)) ||| (bt σ (σ.i 12)).toInt64 < 256
              rw [r2]
              exact or_1 hr.1 hr.2
          · refine Or.inr (Or.inr ?_)
            show σ.i 11 + 2 ≤ σ.i 12 + 1
            grind
          · refine Or.inr (Or.inr ?_)
            show σ.i 11 + 2 ≤ σ.i 12 + 1
            grind
      · show (σ.i 2).toInt - (σ.i 12 + 1).toInt < n
        omega
      · exact ⟨⟨((TU.l _ _).tr (TU.i12 _ _)).tr hR.1.1, hR.1.2⟩, hR.2⟩
    rw [e_at h12 b4]
    show ok ((f_X12_isLetter N σ (bt σ (σ.i 12))).bind _) _
    rw [e_isLetter]
    refine ok_ite (fun c => ?_) (fun c => ?_)
    · show ok ((f_X12_at N σ (σ.i 12)).bind _) _
      rw [e_at h12 b4]
      show ok ((f_X12_isDigit N σ (bt σ (σ.i 12))).bind _) _
      rw [e_isDigit]
      refine ok_ite (fun c2 => ?_) (fun c2 => ?_)
      · have hne : σ.i 11 < σ.i 12 := by
          rcases b5 with ⟨r1, r2, r3, r4⟩ | ⟨r1, r2⟩ | r3
          · have := iff0 c
            rw [← r1] at r3 r4
            exact absurd ⟨r3, r4⟩ this
          · grind
          · grind
        have hz9 : σ.i 11 ≤ 900 := by grind
        refine ok_ite (fun c3 => ?_) (fun c3 => ?_)
        · show ok ((f_X12_at N σ (σ.i 11)).bind _) _
          rw [e_at b1 b4]
          show ok ((f_X12_at N σ (σ.i 11 + 1)).bind _) _
          rw [e_at (by grind) b4]
          have lift : ∀ {R : RS}, NZ (σ.i 12 - σ.i 11) (σ.setI 10 2) R → TQ σ R := fun hR => ⟨TP.np (hR.1.of (TU.i10 _ _) rfl rfl rfl) hi hne hw (fun q => by have := hR.2 q; grind), hR.1.2.1⟩
          refine ok_ite (fun c4 => ok_ite (fun _ => ok_imp (p_rn135 hN _ _ _ _ rfl b1 hz9 b4) (fun R hR => lift hR)) (fun _ => ok_ite (fun _ => ok_imp (p_rn135 hN _ _ _ _ rfl b1 hz9 b4) (fun R hR => lift hR)) (fun _ => ok_imp (p_rn168 hN _ _ _ _ rfl b1 hz9 b4) (fun R hR => lift hR)))) (fun c4 => ok_imp (p_rn168 hN _ _ _ _ rfl b1 hz9 b4) (fun R hR => lift hR))
        · refine ok_some ⟨⟨TU.i10 _ _, b1, b2, b3, Or.inr ⟨?_, hne⟩, ?_, ?_, ?_, ?_, ?_⟩, rfl⟩
          · show (6 : Int32) ≠ 0; decide
          · intro q; have q : (6 : Int32) = 3 ∨ (6 : Int32) = 4 := q; exact absurd q (by decide)
          · intro q; have q : (6 : Int32) = 5 := q; exact absurd q (by decide)
          · intro q; have q : (410 : Int32) ≤ 6 := q; exact absurd q (by decide)
          · show (6 : Int32) ≤ 434; decide
          · intro q; have q : (6 : Int32) = 5 := q; exact absurd q (by decide)
      · have hd := ift c2
        show ok ((f_X12_at N σ (σ.i 12)).bind _) _
        rw [e_at h12 b4]
        exact more (by grind) (by grind)
    · have hd := ift c
      show ok ((f_X12_at N σ (σ.i 12)).bind _) _
      rw [e_at h12 b4]
      exact more (by grind) (by grind)
theorem p_readSign {N : Nat} (σ : RS) (x1 : Int32) (b1 : 0 ≤ σ.i 11) (b2 : σ.i 12 = σ.i 11) (b3 : σ.i 12 < σ.i 2) (b4 : σ.i 2 ≤ 900) : ok (f_X12_readSign N σ x1) (TQ σ) := by
  have base : ∀ (v : Int32) (w : Int32), v ≠ 0 → v ≠ 3 → v ≠ 4 → v ≠ 5 → v < 410 → σ.i 12 + 1 ≤ w → w ≤ σ.i 2 → TQ σ ((σ.setI 12 w).setI 10 v) := by
    intro v w h0 h3 h4 h5 h410 hw1 hw2
    refine ⟨⟨(TU.i12 _ _).tr (TU.i10 _ _), b1, ?_, hw2, Or.inr ⟨h0, ?_⟩, ?_, ?_, ?_, ?_, fun q => absurd q h5⟩, rfl⟩
    · show σ.i 11 ≤ w; grind
    · show σ.i 11 < w; grind
    · intro q; rcases q with q | q
      · exact absurd q h3
      · exact absurd q h4
    · intro q; exact absurd q h5
    · intro q; have q : 410 ≤ v := q; exact absurd q (by grind)
    · show v ≤ 434; grind
  have e : ∀ (v : Int32), v ≠ 0 → v ≠ 3 → v ≠ 4 → v ≠ 5 → v < 410 → TQ σ ((σ.setI 12 (σ.i 12 + 1)).setI 10 v) := fun v h0 h3 h4 h5 h6 => base v _ h0 h3 h4 h5 h6 (Int32.le_refl _) (by grind)
  have s299 : x1 ≠ 0 → x1 ≠ 3 → x1 ≠ 4 → x1 ≠ 5 → x1 < 410 → ok (f_X12_readSign_299 N (σ.setI 12 (σ.i 12 + 1)) x1) (TQ σ) := fun h0 h3 h4 h5 h6 => ok_some (e x1 h0 h3 h4 h5 h6)
  have s165 : ∀ x3 : Int32, (x3 ≤ 0 ∨ (bt (σ.setI 12 (σ.i 12 + 1)) (σ.i 12 + 1) ≠ 0 ∧ 300 ≤ x3 ∧ x3 ≤ 307)) → ok (f_X12_readSign_165 N (σ.setI 12 (σ.i 12 + 1)) x1 x3) (TQ σ) := by
    intro x3 h3
    unfold f_X12_readSign_165
    refine ok_ite (fun c => ?_) (fun c => ?_)
    · have t : ∀ v : Int32, v ≠ 0 → v ≠ 3 → v ≠ 4 → v ≠ 5 → v < 410 → x1 = v → ok (f_X12_readSign_299 N (σ.setI 12 (σ.i 12 + 1)) x1) (TQ σ) := fun v h0 h3 h4 h5 h6 q => s299 (q ▸ h0) (q ▸ h3) (q ▸ h4) (q ▸ h5) (q ▸ h6)
      refine ok_ite (t _ (by decide) (by decide) (by decide) (by decide) (by decide)) (fun _ => ?_)
      refine ok_ite (t _ (by decide) (by decide) (by decide) (by decide) (by decide)) (fun _ => ?_)
      refine ok_ite (t _ (by decide) (by decide) (by decide) (by decide) (by decide)) (fun _ => ?_)
      refine ok_ite (t _ (by decide) (by decide) (by decide) (by decide) (by decide)) (fun _ => ?_)
      refine ok_ite (t _ (by decide) (by decide) (by decide) (by decide) (by decide)) (fun _ => ?_)
      refine ok_ite (t _ (by decide) (by decide) (by decide) (by decide) (by decide)) (fun _ => ?_)
      refine ok_ite (t _ (by decide) (by decide) (by decide) (by decide) (by decide)) (fun _ => ?_)
      refine ok_ite (t _ (by decide) (by decide) (by decide) (by decide) (by decide)) (fun _ => ?_)
      refine ok_ite (t _ (by decide) (by decide) (by decide) (by decide) (by decide)) (fun _ => ?_)
      refine ok_ite (t _ (by decide) (by decide) (by decide) (by decide) (by decide)) (fun _ => ?_)
      refine ok_ite (t _ (by decide) (by decide) (by decide) (by decide) (by decide)) (fun _ => ?_)
      refine ok_ite (t _ (by decide) (by decide) (by decide) (by decide) (by decide)) (fun _ => ?_)
      refine ok_ite (t _ (by decide) (by decide) (by decide) (by decide) (by decide)) (fun _ => ?_)
      refine ok_ite (t _ (by decide) (by decide) (by decide) (by decide) (by decide)) (fun _ => ?_)
      refine ok_ite (t _ (by decide) (by decide) (by decide) (by decide) (by decide)) (fun _ => ?_)
      refine ok_ite (t _ (by decide) (by decide) (by decide) (by decide) (by decide)) (fun _ => ?_)
      refine ok_ite (t _ (by decide) (by decide) (by decide) (by decide) (by decide)) (fun _ => ?_)
      refine ok_ite (t _ (by decide) (by decide) (by decide) (by decide) (by decide)) (fun _ => ?_)
      refine ok_ite (t _ (by decide) (by decide) (by decide) (by decide) (by decide)) (fun _ => ?_)
      exact ok_some (e 6 (by decide) (by decide) (by decide) (by decide) (by decide))
    · rcases h3 with h3 | ⟨h3, h4, h5⟩
      · exact absurd h3 c
      · have hlt : σ.i 12 + 1 < σ.i 2 := bt_in h3
        refine ok_some ?_
        have := base x3 (σ.i 12 + 1 + 1) (by grind) (by grind) (by grind) (by grind) (by grind) (by grind) (by grind)
        obtain ⟨⟨⟨a1, a2, a3⟩, a4⟩, a5⟩ := this
        refine ⟨⟨⟨?_, a2, a3⟩, a4⟩, a5⟩
        intro j d1 d2 d3 d4
        show (if j = 10 then x3 else if j = 12 then σ.i 12 + 1 + 1 else if j = 12 then σ.i 12 + 1 else σ.i j) = σ.i j
        rw [if_neg d1, if_neg d3, if_neg d3]
  have z : ∀ v : Int32, bt (σ.setI 12 (σ.i 12 + 1)) (σ.i 12 + 1) = v → v ≠ 0 → bt (σ.setI 12 (σ.i 12 + 1)) (σ.i 12 + 1) ≠ 0 := fun v q h => q ▸ h
  unfold f_X12_readSign
  rw [e_at (σ := σ.setI 12 (σ.i 12 + 1)) (by grind) b4]
  have lo : ok (f_X12_readSign_165 N (σ.setI 12 (σ.i 12 + 1)) x1 0) (TQ σ) := s165 0 (Or.inl (Int32.le_refl _))
  have st : ∀ (b : Int32) (x3 : Int32), b ≠ 0 → 300 ≤ x3 → x3 ≤ 307 → bt (σ.setI 12 (σ.i 12 + 1)) (σ.i 12 + 1) = b → ok (f_X12_readSign_165 N (σ.setI 12 (σ.i 12 + 1)) x1 x3) (TQ σ) := fun b x3 hb h1 h2 q => s165 x3 (Or.inr ⟨z b q hb, h1, h2⟩)
  have r145 : ok (f_X12_readSign_145 N (σ.setI 12 (σ.i 12 + 1)) x1 (bt (σ.setI 12 (σ.i 12 + 1)) (σ.i 12 + 1))) (TQ σ) := ok_ite (fun _ => ok_ite (fun q => st _ _ (by decide) (by decide) (by decide) q) (fun _ => lo)) (fun _ => lo)
  have r127 : ok (f_X12_readSign_127 N (σ.setI 12 (σ.i 12 + 1)) x1 (bt (σ.setI 12 (σ.i 12 + 1)) (σ.i 12 + 1))) (TQ σ) := ok_ite (fun _ => ok_ite (fun q => st _ _ (by decide) (by decide) (by decide) q) (fun _ => r145)) (fun _ => r145)
  have r109 : ok (f_X12_readSign_109 N (σ.setI 12 (σ.i 12 + 1)) x1 (bt (σ.setI 12 (σ.i 12 + 1)) (σ.i 12 + 1))) (TQ σ) := ok_ite (fun _ => ok_ite (fun q => st _ _ (by decide) (by decide) (by decide) q) (fun _ => r127)) (fun _ => r127)
  have r91 : ok (f_X12_readSign_91 N (σ.setI 12 (σ.i 12 + 1)) x1 (bt (σ.setI 12 (σ.i 12 + 1)) (σ.i 12 + 1))) (TQ σ) := ok_ite (fun _ => ok_ite (fun q => st _ _ (by decide) (by decide) (by decide) q) (fun _ => r109)) (fun _ => r109)
  have r73 : ok (f_X12_readSign_73 N (σ.setI 12 (σ.i 12 + 1)) x1 (bt (σ.setI 12 (σ.i 12 + 1)) (σ.i 12 + 1))) (TQ σ) := ok_ite (fun _ => ok_ite (fun q => st _ _ (by decide) (by decide) (by decide) q) (fun _ => r91)) (fun _ => r91)
  have r55 : ok (f_X12_readSign_55 N (σ.setI 12 (σ.i 12 + 1)) x1 (bt (σ.setI 12 (σ.i 12 + 1)) (σ.i 12 + 1))) (TQ σ) := ok_ite (fun _ => ok_ite (fun q => st _ _ (by decide) (by decide) (by decide) q) (fun _ => r73)) (fun _ => r73)
  have r37 : ok (f_X12_readSign_37 N (σ.setI 12 (σ.i 12 + 1)) x1 (bt (σ.setI 12 (σ.i 12 + 1)) (σ.i 12 + 1))) (TQ σ) := ok_ite (fun _ => ok_ite (fun q => st _ _ (by decide) (by decide) (by decide) q) (fun _ => r55)) (fun _ => r55)
  exact ok_ite (fun _ => ok_ite (fun q => st _ _ (by decide) (by decide) (by decide) q) (fun _ => r37)) (fun _ => r37)
/-- the digits -/
theorem p_n116 {N : Nat} : ∀ (n : Nat) (σ : RS), 0 ≤ σ.i 11 → σ.i 11 ≤ σ.i 12 → σ.i 12 ≤ σ.i 2 → σ.i 2 ≤ 900 → (σ.i 11 < σ.i 12 ∨ 48 ≤ bt σ (σ.i 12) ∧ bt σ (σ.i 12) ≤ 57) → (σ.i 2).toInt - (σ.i 12).toInt < n → ok (f_X12_next_116 N n σ) (TQ σ)
  | 0, σ, b1, b2, b3, b4, b5, hn => by
    have := le_int b3
    omega
  | n+1, σ, b1, b2, b3, b4, b5, hn => by
    show ok (b_X12_next_116 N (f_X12_next_116 N n) σ) _
    unfold b_X12_next_116 f_X12_next_211
    have h12 : 0 ≤ σ.i 12 := Int32.le_trans b1 b2
    rw [e_at h12 b4]
    show ok ((f_X12_isDigit N σ (bt σ (σ.i 12))).bind _) _
    rw [e_isDigit]
    refine ok_ite (fun c => ?_) (fun c => ?_)
    · have hne : σ.i 11 < σ.i 12 := by
        rcases b5 with b5 | b5
        · exact b5
        · exact absurd b5 (iff0 c)
      have fin : ∀ v : Int32, v = 1 ∨ v = 6 → TQ σ (σ.setI 10 v) := by
        intro v hv
        refine ⟨⟨TU.i10 _ _, b1, b2, b3, Or.inr ⟨?_, hne⟩, ?_, ?_, ?_, ?_, fun q => by have q : v = 5 := q; rcases hv with rfl | rfl <;> exact absurd q (by decide)⟩, rfl⟩
        · show v ≠ 0; rcases hv with rfl | rfl <;> decide
        · intro q; have q : v = 3 ∨ v = 4 := q; rcases hv with rfl | rfl <;> exact absurd q (by decide)
        · intro q; have q : v = 5 := q; rcases hv with rfl | rfl <;> exact absurd q (by decide)
        · intro q; have q : 410 ≤ v := q; rcases hv with rfl | rfl <;> exact absurd q (by decide)
        · show v ≤ 434; rcases hv with rfl | rfl <;> decide
      exact ok_ite (fun _ => ok_some (fin 1 (Or.inl rfl))) (fun _ => ok_some (fin 6 (Or.inr rfl)))
    · have hd := ift c
      have hlt : σ.i 12 < σ.i 2 := bt_in (by grind)
      have e1 : (1 : Int32).toInt = 1 := by decide
      have e9 : (900 : Int32).toInt = 900 := by decide
      have q1 := lt_int hlt
      have q2 := le_int b4
      have q3 := le_int h12
      rw [z_t0] at q3
      have ha : (σ.i 12 + 1).toInt = (σ.i 12).toInt + 1 := by rw [toInt_add] <;> rw [e1] <;> omega
      have go : ∀ v : Int32, ok (f_X12_next_116 N n ((σ.setI 14 v).setI 12 (σ.i 12 + 1))) (TQ σ) := by
        intro v
        refine ok_imp (p_n116 n _ b1 ?_ ?_ b4 (Or.inl ?_) ?_) (fun R hR => ⟨⟨((TU.i14 _ _).tr (TU.i12 _ _)).tr hR.1.1, hR.1.2⟩, hR.2⟩)
        · show σ.i 11 ≤ σ.i 12 + 1; grind
        · show σ.i 12 + 1 ≤ σ.i 2; grind
        · show σ.i 11 < σ.i 12 + 1; grind
        · show (σ.i 2).toInt - (σ.i 12 + 1).toInt < n; omega
      refine ok_ite (fun _ => go _) (fun _ => ?_)
      show ok ((f_X12_at N σ (σ.i 12)).bind _) _
      rw [e_at h12 b4]
      exact go _
theorem p_n68 {N : Nat} (hN : 1000 ≤ N) (σ : RS) (h12 : 0 ≤ σ.i 12) (b3 : σ.i 12 ≤ σ.i 2) (b4 : σ.i 2 ≤ 900) (hw : WD σ) : ok (f_X12_next_68 N σ) (fun R => TP σ R ∧ R.i 11 = σ.i 12) := by
  unfold f_X12_next_68
  have e9 : (900 : Int32).toInt = 900 := by decide
  have q2 := le_int b4
  have q3 := le_int h12
  rw [z_t0] at q3
  rw [e_at (σ := σ.setI 11 (σ.i 12)) h12 b4]
  refine ok_ite (fun c => ok_some ?_) (fun c => ?_)
  · have c : σ.i 12 = σ.i 2 := c
    refine ⟨⟨(TU.i11 _ _).tr (TU.i10 _ _), h12, Int32.le_refl _, b3, Or.inl ⟨rfl, c⟩, ?_, ?_, ?_, ?_, fun q => by have q : (0 : Int32) = 5 := q; exact absurd q (by decide)⟩, rfl⟩
    · intro q; have q : (0 : Int32) = 3 ∨ (0 : Int32) = 4 := q; exact absurd q (by decide)
    · intro q; have q : (0 : Int32) = 5 := q; exact absurd q (by decide)
    · intro q; have q : (410 : Int32) ≤ 0 := q; exact absurd q (by decide)
    · show (0 : Int32) ≤ 434; decide
  · have c : ¬ σ.i 12 = σ.i 2 := c
    have hlt : σ.i 12 < σ.i 2 := by grind
    have tr : ∀ {R : RS}, TQ (σ.setI 11 (σ.i 12)) R → TP σ R ∧ R.i 11 = σ.i 12 := fun hR => ⟨⟨(TU.i11 _ _).tr hR.1.1, hR.1.2⟩, hR.2⟩
    show ok ((f_X12_isDigit N (σ.setI 11 (σ.i 12)) (bt (σ.setI 11 (σ.i 12)) (σ.i 12))).bind _) _
    rw [e_isDigit]
    refine ok_ite (fun c2 => ?_) (fun c2 => ?_)
    · show ok ((f_X12_isLetter N (σ.setI 11 (σ.i 12)) (bt (σ.setI 11 (σ.i 12)) (σ.i 12))).bind _) _
      rw [e_isLetter]
      refine ok_ite (fun c3 => ?_) (fun c3 => ?_)
      · exact ok_bind (p_readSign (N := N) (σ.setI 11 (σ.i 12)) _ h12 rfl hlt b4) (fun R hR => ok_some (tr hR))
      · have hd := ift c3
        refine ok_bind (Q := TQ (σ.setI 11 (σ.i 12))) ?_ (fun R hR => ok_some (tr hR))
        unfold f_X12_readName
        refine ok_imp (p_rn5 (by omega) N ((σ.setI 11 (σ.i 12)).setL 0) ⟨h12, Int32.le_refl _, b3, b4, Or.inl ⟨rfl, rfl, hd.1, hd.2⟩⟩ hw ?_) (fun R hR => ⟨⟨(TU.l _ _).tr hR.1.1, hR.1.2⟩, hR.2⟩)
        show (σ.i 2).toInt - (σ.i 12).toInt < N
        omega
    · have hd := ift c2
      refine ok_imp (p_n116 N ((σ.setI 11 (σ.i 12)).setI 14 0) h12 (Int32.le_refl _) b3 b4 (Or.inr hd) ?_) (fun R hR => tr ⟨⟨(TU.i14 _ _).tr hR.1.1, hR.1.2⟩, hR.2⟩)
      show (σ.i 2).toInt - (σ.i 12).toInt < N
      omega
theorem p_n18 {N : Nat} (hN : 1000 ≤ N) : ∀ (n : Nat) (σ : RS), 0 ≤ σ.i 12 → σ.i 12 ≤ σ.i 2 → σ.i 2 ≤ 900 → WD σ → (σ.i 2).toInt - (σ.i 12).toInt < n → ok (f_X12_next_18 N n σ) (fun R => TP σ R ∧ σ.i 12 ≤ R.i 11)
  | 0, σ, h12, b3, b4, hw, hn => by
    have := le_int b3
    omega
  | n+1, σ, h12, b3, b4, hw, hn => by
    show ok (b_X12_next_18 N (f_X12_next_18 N n) σ) _
    unfold b_X12_next_18
    have fin : ok (f_X12_next_68 N σ) (fun R => TP σ R ∧ σ.i 12 ≤ R.i 11) := by
      exact ok_imp (p_n68 hN σ h12 b3 b4 hw) (fun R hR => ⟨hR.1, by rw [hR.2]; exact Int32.le_refl _⟩)
    refine ok_ite (fun c => fin) (fun c => ?_)
    have hlt : σ.i 12 < σ.i 2 := by grind
    have e1 : (1 : Int32).toInt = 1 := by decide
    have e9 : (900 : Int32).toInt = 900 := by decide
    have q1 := lt_int hlt
    have q2 := le_int b4
    have q3 := le_int h12
    rw [z_t0] at q3
    have ha : (σ.i 12 + 1).toInt = (σ.i 12).toInt + 1 := by rw [toInt_add] <;> rw [e1] <;> omega
    have go : ok (f_X12_next_18 N n (σ.setI 12 (σ.i 12 + 1))) (fun R => TP σ R ∧ σ.i 12 ≤ R.i 11) := by
      refine ok_imp (p_n18 hN n _ ?_ ?_ b4 hw ?_) (fun R hR => ⟨⟨(TU.i12 _ _).tr hR.1.1, hR.1.2⟩, ?_⟩)
      · show 0 ≤ σ.i 12 + 1; grind
      · show σ.i 12 + 1 ≤ σ.i 2; grind
      · show (σ.i 2).toInt - (σ.i 12 + 1).toInt < n; omega
      · have : σ.i 12 + 1 ≤ R.i 11 := hR.2
        grind
    rw [e_at h12 b4]
    refine ok_ite (fun c => go) (fun c => ?_)
    show ok ((f_X12_at N σ (σ.i 12)).bind _) _
    rw [e_at h12 b4]
    exact ok_ite (fun c => go) (fun c => fin)
/-- next: with a fault nothing; else a token, at or behind the old place -/
theorem p_next {N : Nat} (hN : 1000 ≤ N) (σ : RS) (h12 : 0 ≤ σ.i 12) (b3 : σ.i 12 ≤ σ.i 2) (b4 : σ.i 2 ≤ 900) (hw : WD σ) : ok (f_X12_next N σ) (fun R => (¬ σ.i 15 = 0 ∧ R = σ) ∨ (σ.i 15 = 0 ∧ TP (σ.setI 17 (σ.i 17 + 1)) R ∧ σ.i 12 ≤ R.i 11)) := by
  unfold f_X12_next
  refine ok_ite (fun c => ?_) (fun c => ok_some (Or.inl ⟨c, rfl⟩))
  have e9 : (900 : Int32).toInt = 900 := by decide
  have q2 := le_int b4
  have q3 := le_int h12
  rw [z_t0] at q3
  refine ok_imp (p_n18 hN N (σ.setI 17 (σ.i 17 + 1)) h12 b3 b4 hw ?_) (fun R hR => Or.inr ⟨c, hR.1, hR.2⟩)
  show (σ.i 2).toInt - (σ.i 12).toInt < N
  omega
end
section
/-! the reader's small methods -/
theorem e_fail {N : Nat} {σ : RS} {x y : Int32} : f_X12_fail N σ x y = some (if σ.i 15 = 0 then (σ.setI 15 x).setI 16 y else σ) := by
  unfold f_X12_fail
  by_cases c : σ.i 15 = 0
  · rw [if_pos c, if_pos c]
  · rw [if_neg c, if_neg c]
theorem e_note {N : Nat} {σ : RS} {x : Int32} : f_X12_note N σ x = some (if σ.i 15 = 0 ∧ ¬ 0 ≤ σ.i 18 then σ.setI 18 x else σ) := by
  unfold f_X12_note
  by_cases c : σ.i 15 = 0
  · rw [if_pos c]
    by_cases d : 0 ≤ σ.i 18
    · rw [if_pos d, if_neg (fun h => h.2 d)]
    · rw [if_neg d, if_pos ⟨c, d⟩]
  · rw [if_neg c, if_neg (fun h => c h.1)]
/-- a fault is there: number not 0, its place -/
def FLT (s : RS) (x : Int32) : RS := (s.setI 15 x).setI 16 (s.i 11)
theorem e_can {N : Nat} {σ : RS} {x : Int32} : f_X12_can N σ x = some (if ¬ σ.i 15 = 0 then (0, σ) else if x = 0 ∨ σ.i 10 = 6 then (0, FLT σ (if σ.i 10 = 6 then 1 else 2)) else (1, σ)) := by
  unfold f_X12_can f_X12_can_20 f_X12_can_42
  by_cases c : σ.i 15 = 0
  · have h1 : ∀ v : Int32, v ≠ 0 → (f_X12_fail N σ v (σ.i 11)).bind (fun p => if p.i 15 = 0 then some ((1 : Int32), p) else some (0, p)) = some (0, FLT σ v) := by
      intro v hv
      rw [e_fail, if_pos c]
      show (if ((σ.setI 15 v).setI 16 (σ.i 11)).i 15 = 0 then some ((1 : Int32), _) else some (0, _)) = _
      exact if_neg hv
    by_cases d : x = 0 <;> by_cases g : σ.i 10 = 6
    · rw [if_pos c, if_pos d, if_pos g, h1 1 (by decide)]; simp [c, d, g]
    · rw [if_pos c, if_pos d, if_neg g, h1 2 (by decide)]; simp [c, d, g]
    · rw [if_pos c, if_neg d, if_pos g, if_pos g, h1 1 (by decide)]; simp [c, d, g]
    · rw [if_pos c, if_neg d, if_neg g, if_pos c]; simp [c, d, g]
  · rw [if_neg c, if_neg c]; simp [c]
theorem e_emit {N : Nat} {σ : RS} {o x : Int32} (h0 : 0 ≤ σ.i 20) (h3 : σ.i 20 < 3000) : f_X12_emit N σ o x = some (σ.i 20, (((σ.setA 21 (σ.i 20).toNatClampNeg o).setA 22 (σ.i 20).toNatClampNeg x).setA 23 (σ.i 20).toNatClampNeg 0).setI 20 (σ.i 20 + 1)) := by
  unfold f_X12_emit f_X12_emit_21
  rw [if_neg (by grind), if_pos (ib_of (m := 3000) (by decide) h0 h3)]
end
section
/-! the typing of the reference's code -/
/-- a record that is expected: sort, what it names, phase (or how many), height, opens, level -/
def Rec : Type := Nat × Nat × Nat × Nat × Nat × Nat × Bool × Bool
def Rec.k (r : Rec) : Nat := r.1
def Rec.a (r : Rec) : Nat := r.2.1
def Rec.p (r : Rec) : Nat := r.2.2.1
def Rec.h (r : Rec) : Nat := r.2.2.2.1
def Rec.o (r : Rec) : Nat := r.2.2.2.2.1
def Rec.v (r : Rec) : Nat := r.2.2.2.2.2.1
/-- a try's: whether its finally can end; whether its end is reached -/
def Rec.ps (r : Rec) : Bool := r.2.2.2.2.2.2.1
def Rec.ek (r : Rec) : Bool := r.2.2.2.2.2.2.2
/-- a try's record in another phase -/
def Rec.ph (r : Rec) (p : Nat) : Rec := (r.k, r.a, p, r.h, r.o, r.v, r.ps, r.ek)
/-- what is expected at a place: height, opens (at most), level, whether 1 lies on top, records -/
def Ctx : Type := Nat × Nat × Nat × Bool × List Rec
def Ctx.h (c : Ctx) : Nat := c.1
def Ctx.o (c : Ctx) : Nat := c.2.1
def Ctx.v (c : Ctx) : Nat := c.2.2.1
def Ctx.one (c : Ctx) : Bool := c.2.2.2.1
def Ctx.rs (c : Ctx) : List Rec := c.2.2.2.2
/-- what waits: the rows' values -/
def wv : List Rec → Nat
  | [] => 0
  | r :: rs => (if r.k = 2 then r.p else 0) + wv rs
/-- how many are begun at most: outside a try's body as many as at the record's making -/
def oOK : Nat → List Rec → Prop
  | o, [] => o = 0
  | o, r :: rs => (r.k = 4 ∧ r.p = 0 ∨ o = r.o) ∧ oOK r.o rs
def gv (σ : RS) (k i : Nat) : Int := (σ.a k i).toInt
def cdI (σ : RS) : Int := (σ.i 20).toInt
/-- ghosts: the typing; which slots are caught names' -/
def Gh : Type := (Nat → Ctx → Prop) × (Nat → Bool)
def Gh.T (g : Gh) : Nat → Ctx → Prop := g.1
def Gh.isC (g : Gh) : Nat → Bool := g.2
/-- x is a place where this is expected, at a lower level than v, or not before kk -/
def FL (σ : RS) (g : Gh) (v : Nat) (kk x : Int) (h o : Nat) (rs : List Rec) : Prop := 0 ≤ x ∧ x ≤ cdI σ ∧ (x < cdI σ → ∃ c, g.T x.toNat c ∧ c.h = h ∧ o ≤ c.o ∧ c.one = false ∧ c.rs = rs ∧ (c.v < v ∨ c.v ≤ v ∧ kk ≤ x))
/-- the same behind a step: any level -/
def FS (σ : RS) (g : Gh) (x : Int) (h o : Nat) (rs : List Rec) : Prop := 0 ≤ x ∧ x ≤ cdI σ ∧ (x < cdI σ → ∃ c, g.T x.toNat c ∧ c.h = h ∧ o ≤ c.o ∧ c.one = false ∧ c.rs = rs)
/-- behind a push of y: one may be known -/
def FP (σ : RS) (g : Gh) (k v : Nat) (y : Int) (h o : Nat) (rs : List Rec) : Prop := (k : Int) + 1 ≤ cdI σ ∧ ((k : Int) + 1 < cdI σ → ∃ c, g.T (k + 1) c ∧ c.h = h ∧ o ≤ c.o ∧ (c.one = true → y = 1) ∧ c.rs = rs ∧ c.v ≤ v)
/-- whether what leaves to depth d gets through all finallys on its way -/
def arr (σ : RS) (g : Gh) (d : Nat) : List Rec → Prop
  | [] => True
  | r :: rs => rs.length + 1 ≤ d ∨ ((r.k = 4 → r.p < 2 → 0 ≤ gv σ 31 r.a → r.ps = true) ∧ arr σ g d rs)
def oA (d : Nat) (o : Nat) : List Rec → Nat
  | [] => o
  | r :: rs => if rs.length + 1 ≤ d then o else oA d r.o rs
def dA (d : Nat) : List Rec → List Rec
  | [] => []
  | r :: rs => if rs.length + 1 ≤ d then r :: rs else dA d rs
/-- what is left on the way to depth d: no arms; tries at the height h; the target x at level v' comes behind each try's end, or lies lower -/
def lvA (σ : RS) (d h v' : Nat) (x : Int) : List Rec → Prop
  | [] => True
  | r :: rs => rs.length + 1 ≤ d ∨ (r.k ≠ 3 ∧ (r.k = 4 → r.h = h ∧ (v' < r.v ∨ v' ≤ r.v ∧ gv σ 32 r.a ≤ x)) ∧ lvA σ d h v' x rs)
/-- a jump that leaves: to x, depth d; its target lies lower than level v, or at kk or behind -/
def JMP (σ : RS) (g : Gh) (v : Nat) (kk x : Int) (d h o : Nat) (rs : List Rec) : Prop := d ≤ rs.length ∧ ∃ v' : Nat, (v' < v ∨ v' ≤ v ∧ kk ≤ x) ∧ lvA σ d h v' x rs ∧ (arr σ g d rs → 0 ≤ x ∧ x ≤ cdI σ ∧ (x < cdI σ → ∃ c, g.T x.toNat c ∧ c.h = h ∧ oA d o rs ≤ c.o ∧ c.one = false ∧ c.rs = dA d rs ∧ c.v = v'))
/-- a yield to depth d finds its arms there -/
def YOK (d : Int) (rs : List Rec) : Prop := 1 ≤ d ∧ ∃ (r : Rec) (q : List Rec), dA d.toNat rs = r :: q ∧ r.k = 3 ∧ d.toNat = q.length + 1
/-- the chain of a try's catches -/
def catchIn (σ : RS) (j : Nat) : Nat → Int → Prop
  | 0, _ => False
  | n+1, k => 0 ≤ k ∧ (k = (j : Int) ∨ catchIn σ j n (gv σ 37 k.toNat))
/-- a record stands as it should at place k, level v: where a throw, a yield, an end goes from it -/
def recOK (σ : RS) (g : Gh) (k v : Nat) (r : Rec) (rs : List Rec) : Prop :=
  r.h ≤ 1300 ∧ r.o ≤ 450 ∧
  (r.k = 1 ∧ r.a < 8 ∨
   r.k = 2 ∨
   r.k = 3 ∧ (r.a : Int) < cdI σ ∧ FL σ g v ((k : Int) + 1) (gv σ 23 r.a) (r.h + 1) r.o rs ∨
   r.k = 4 ∧ (r.a : Int) < (σ.i 29).toInt ∧ r.p ≤ 2 ∧ r.v ≤ v ∧ (k : Int) < gv σ 32 r.a ∧
    (r.p = 0 → ∀ j : Nat, catchIn σ j 400 (gv σ 30 r.a) → 0 ≤ gv σ 36 j ∧ gv σ 36 j < 460 ∧ g.isC (gv σ 36 j).toNat = true ∧ FL σ g v ((k : Int) + 1) (gv σ 35 j) r.h r.o (r.ph 1 :: rs)) ∧
    (r.p < 2 → 0 ≤ gv σ 31 r.a → FL σ g v ((k : Int) + 1) (gv σ 31 r.a) r.h r.o (r.ph 2 :: rs)))
def recsOK (σ : RS) (g : Gh) (k v : Nat) : List Rec → Prop
  | [] => True
  | r :: rs => recOK σ g k v r rs ∧ recsOK σ g k v rs
/-- the end of a try's body or catch: its finally, or behind it -/
def endT (σ : RS) (g : Gh) (k v : Nat) (r : Rec) (rs : List Rec) : Prop := (0 ≤ gv σ 31 r.a → r.ps = true → r.ek = true) ∧ (¬ 0 ≤ gv σ 31 r.a → FL σ g v ((k : Int) + 1) (gv σ 32 r.a) r.h r.o rs)
/-- the chain of a switch's entries -/
def entryIn (σ : RS) (j : Nat) : Nat → Int → Prop
  | 0, _ => False
  | n+1, k => 0 ≤ k ∧ (k = (j : Int) ∨ entryIn σ j n (gv σ 27 k.toNat))
def slotOK (x : Int) : Prop := 0 ≤ x ∧ x < 460
/-- an instruction is as it should be where it is expected with c -/
def OKI (σ : RS) (g : Gh) (k : Nat) (c : Ctx) : Prop :=
  let x := gv σ 22 k
  let y := gv σ 23 k
  let F := fun (z : Int) (h : Nat) => FL σ g c.v ((k : Int) + 1) z h c.o c.rs
  let n := fun (h : Nat) => FL σ g c.v ((k : Int) + 1) ((k : Int) + 1) h c.o c.rs
  let N := fun (h o : Nat) (rs : List Rec) => FL σ g c.v ((k : Int) + 1) ((k : Int) + 1) h o rs
  match (gv σ 21 k).toNat with
  | 1 => FS σ g ((k : Int) + 1) c.h c.o c.rs
  | 2 => FP σ g k c.v x (c.h + 1) c.o c.rs
  | 3 => slotOK x ∧ n (c.h + 1)
  | 4 => slotOK x ∧ g.isC x.toNat = true ∧ n (c.h + 1)
  | 5 => slotOK x ∧ g.isC x.toNat = false ∧ 1 ≤ c.h ∧ n (c.h - 1)
  | 6 => slotOK x ∧ g.isC x.toNat = false ∧ n c.h
  | 7 => 1 ≤ c.h ∧ n c.h
  | 8 => 2 ≤ c.h ∧ n (c.h - 1)
  | 9 => 2 ≤ c.h ∧ n (c.h - 1)
  | 10 => 1 ≤ c.h ∧ n c.h
  | 11 => 1 ≤ c.h ∧ F x c.h ∧ n (c.h - 1)
  | 12 => 1 ≤ c.h ∧ F x c.h ∧ n (c.h - 1)
  | 13 => 1 ≤ c.h ∧ (c.one = false → F x (c.h - 1)) ∧ n (c.h - 1)
  | 14 => 1 ≤ c.h ∧ F x (c.h - 1) ∧ (c.one = false → n (c.h - 1))
  | 15 => F x c.h
  | 16 => 1 ≤ c.h ∧ n (c.h - 1)
  | 17 => 1 ≤ c.h
  | 18 => 1 ≤ c.h ∧ YOK y c.rs
  | 19 => 1 ≤ c.h ∧ x < (σ.i 3).toInt
  | 20 => x < (σ.i 3).toInt
  | 21 => slotOK x ∧ g.isC x.toNat = true
  | 22 => F x c.h ∧ n c.h
  | 23 => 1 ≤ x ∧ x ≤ c.h ∧ (wv c.rs : Int) + x ≤ 450 ∧ N (c.h - x.toNat) c.o ((2, 0, x.toNat, c.h - x.toNat, c.o, c.v, false, false) :: c.rs)
  | 24 => slotOK y ∧ g.isC y.toNat = false ∧ F x c.h ∧ FS σ g ((k : Int) + 1) c.h c.o c.rs ∧ ∃ (r : Rec) (rs : List Rec), c.rs = r :: rs ∧ r.k = 2
  | 25 => ∃ (r : Rec) (rs : List Rec), c.rs = r :: rs ∧ r.k = 2 ∧ N c.h c.o rs
  | 26 => 0 ≤ x ∧ x < 8 ∧ N c.h c.o ((1, x.toNat, 0, c.h, c.o, c.v, false, false) :: c.rs)
  | 27 => ∃ (r : Rec) (rs : List Rec), c.rs = r :: rs ∧ r.k = 1 ∧ N c.h c.o rs
  | 28 => 1 ≤ c.h ∧ x < (σ.i 24).toInt ∧ (∀ j : Nat, entryIn σ j 500 x → F (gv σ 26 j) (c.h - 1)) ∧ (¬ (∃ j : Nat, entryIn σ j 500 x ∧ ¬ gv σ 28 j = 0) → F y (c.h - 1))
  | 29 => 1 ≤ c.h ∧ x < (σ.i 24).toInt ∧ (∀ j : Nat, entryIn σ j 500 x → FL σ g c.v ((k : Int) + 1) (gv σ 26 j) (c.h - 1) c.o ((3, k, 0, c.h - 1, c.o, c.v, false, false) :: c.rs)) ∧ ∃ j : Nat, entryIn σ j 500 x ∧ ¬ gv σ 28 j = 0
  | 30 => ∃ (r : Rec) (rs : List Rec), c.rs = r :: rs ∧ r.k = 3 ∧ c.h = r.h + 1
  | 31 => 0 ≤ x ∧ x < (σ.i 29).toInt ∧ ∃ ps ek : Bool, N c.h c.o ((4, x.toNat, 0, c.h, c.o, c.v, ps, ek) :: c.rs)
  | 32 => 0 ≤ x ∧ x < 8 ∧ N c.h (c.o + 1) c.rs
  | 33 => ∃ (r : Rec) (rs : List Rec), c.rs = r :: rs ∧ r.k = 4 ∧ r.p = 0 ∧ c.h = r.h ∧ endT σ g k c.v r rs
  | 34 => ∃ (r : Rec) (rs : List Rec), c.rs = r :: rs ∧ r.k = 4 ∧ r.p = 1 ∧ c.h = r.h ∧ endT σ g k c.v r rs
  | 35 => ∃ (r : Rec) (rs : List Rec), c.rs = r :: rs ∧ r.k = 4 ∧ r.p = 2 ∧ c.h = r.h ∧ c.v = r.v ∧ r.ps = true ∧ (r.ek = true → N r.h r.o rs)
  | 36 => 0 ≤ y ∧ JMP σ g c.v ((k : Int) + 1) x y.toNat c.h c.o c.rs
  | _ => False
/-- the code is as expected everywhere -/
def WT (σ : RS) (g : Gh) : Prop := (0 ≤ cdI σ ∧ cdI σ ≤ 2999) ∧ (0 ≤ (σ.i 29).toInt ∧ (σ.i 29).toInt ≤ 200) ∧ (0 ≤ (σ.i 33).toInt ∧ (σ.i 33).toInt ≤ 400) ∧ (0 ≤ (σ.i 24).toInt ∧ (σ.i 24).toInt ≤ 500) ∧
  (∀ k : Nat, (k : Int) < (σ.i 33).toInt → gv σ 37 k < 0 ∨ (k : Int) < gv σ 37 k ∧ gv σ 37 k < (σ.i 33).toInt) ∧ (∀ k : Nat, (k : Int) < (σ.i 29).toInt → gv σ 30 k < (σ.i 33).toInt) ∧
  (∀ k : Nat, (k : Int) < (σ.i 24).toInt → gv σ 27 k < 0 ∨ (k : Int) < gv σ 27 k ∧ gv σ 27 k < (σ.i 24).toInt) ∧
  (0 < cdI σ → ∃ c, g.T 0 c ∧ c.h = 0 ∧ c.one = false ∧ c.rs = []) ∧
  (∀ (k : Nat) (c : Ctx), (k : Int) < cdI σ → g.T k c → OKI σ g k c ∧ recsOK σ g k c.v c.rs ∧ c.h ≤ 1300 ∧ wv c.rs ≤ 450 ∧ oOK c.o c.rs ∧ c.o ≤ 450 ∧ c.rs.length ≤ 250 ∧ c.v ≤ 3000 ∧ (c.one = true → 1 ≤ c.h)) ∧ g.isC 0 = false ∧ g.isC 1 = false
/-! what stands while it runs; s is the state at the run's start: the code there -/
/-- how a finally goes on behind its end -/
def PEND (s σ : RS) (g : Gh) (i : Nat) (r : Rec) (rs : List Rec) : Prop := 0 ≤ gv σ 105 i ∧ gv σ 105 i ≤ 4 ∧ (r.ps = true → (gv σ 105 i = 0 → r.ek = true) ∧ (gv σ 105 i = 1 → 0 ≤ gv σ 107 i ∧ JMP s g r.v (gv s 32 r.a) (gv σ 106 i) (gv σ 107 i).toNat r.h r.o rs) ∧ (gv σ 105 i = 3 → 0 ≤ gv σ 109 i ∧ gv σ 109 i < 3200) ∧ (gv σ 105 i = 4 → YOK (gv σ 107 i) rs))
def RM1 (s σ : RS) (g : Gh) (i : Nat) (r : Rec) (rs : List Rec) : Prop := gv σ 100 i = r.k ∧ gv σ 104 i = r.h ∧ (r.k = 1 → gv σ 101 i = r.a) ∧ (r.k = 2 → gv σ 101 i = wv rs ∧ (wv rs : Int) ≤ gv σ 102 i ∧ gv σ 102 i ≤ gv σ 103 i ∧ gv σ 103 i = wv rs + r.p) ∧ (r.k = 3 → gv σ 101 i = r.a) ∧ (r.k = 4 → gv σ 101 i = r.a ∧ gv σ 102 i = r.p ∧ 0 ≤ gv σ 103 i ∧ gv σ 103 i ≤ r.o ∧ (r.p = 2 → PEND s σ g i r rs))
def RM (s σ : RS) (g : Gh) : List Rec → Prop
  | [] => True
  | r :: rs => RM1 s σ g rs.length r rs ∧ RM s σ g rs
/-- numbers that stay in their ranges all along a run -/
def RD (σ : RS) (g : Gh) : Prop := (∀ j : Nat, j < 460 → (j : Int) < (σ.i 95).toInt → 0 ≤ gv σ 96 j ∧ gv σ 96 j < 8) ∧ (∀ x : Nat, x < 460 → g.isC x = true → 0 ≤ gv σ 84 x ∧ gv σ 84 x < 3200) ∧ (0 ≤ σ.i 81 ∧ σ.i 81 ≤ 200) ∧ (0 ≤ σ.i 85 ∧ σ.i 85 ≤ 3200) ∧ (0 ≤ σ.i 80 ∧ σ.i 80 ≤ 1000) ∧ (∀ t : Nat, t < 3200 → 0 ≤ gv σ 88 t ∧ gv σ 88 t ≤ 8) ∧ (∀ t : Nat, t < 3200 → gv σ 86 t < (σ.i 3).toInt)
/-- the machine is where c is expected -/
def DY (s σ : RS) (g : Gh) (c : Ctx) : Prop := (σ.i 93).toInt = c.h ∧ (σ.i 97).toInt = wv c.rs ∧ 0 ≤ (σ.i 95).toInt ∧ (σ.i 95).toInt ≤ c.o ∧ (σ.i 99).toInt = c.rs.length ∧ RM s σ g c.rs ∧ (c.one = true → gv σ 94 (c.h - 1) = 1)
/-- where a step may come to, from a place before kk at level v -/
def OUT (s σ : RS) (g : Gh) (v : Nat) (kk : Int) : Prop := (σ.i 92).toInt < 0 ∨ cdI s ≤ (σ.i 92).toInt ∨ ∃ c, 0 ≤ (σ.i 92).toInt ∧ g.T (σ.i 92).toInt.toNat c ∧ DY s σ g c ∧ (c.v < v ∨ c.v ≤ v ∧ kk ≤ (σ.i 92).toInt)
end
section
/-- what running leaves as it is: everything but its own numbers -/
def RX (s t : RS) : Prop := t.l = s.l ∧ t.b = s.b ∧ (∀ j : Nat, j < 80 → t.i j = s.i j) ∧ (∀ k : Nat, k < 82 → t.a k = s.a k)
theorem RX.rf (s : RS) : RX s s := ⟨rfl, rfl, fun _ _ => rfl, fun _ _ => rfl⟩
theorem RX.tr {s t u : RS} (h1 : RX s t) (h2 : RX t u) : RX s u := ⟨h2.1.trans h1.1, h2.2.1.trans h1.2.1, fun j h => (h2.2.2.1 j h).trans (h1.2.2.1 j h), fun k h => (h2.2.2.2 k h).trans (h1.2.2.2 k h)⟩
theorem RX.i (s : RS) (k : Nat) (v : Int32) (hk : 80 ≤ k) : RX s (s.setI k v) := ⟨rfl, rfl, fun j h => if_neg (by omega), fun _ _ => rfl⟩
theorem RX.a (s : RS) (k j : Nat) (v : Int32) (hk : 82 ≤ k) : RX s (s.setA k j v) := ⟨rfl, rfl, fun _ _ => rfl, fun m h => if_neg (by omega)⟩
theorem p_row (N : Nat) (σ : RS) (x y : Int32) (h0 : 0 ≤ σ.i 81) (h1 : σ.i 81 ≤ 200) : ok (f_X12_row N σ x y) (fun R => RX σ R ∧ 0 ≤ R.i 81 ∧ R.i 81 ≤ 200 ∧ (∀ j : Nat, j ≠ 81 → R.i j = σ.i j) ∧ (∀ k : Nat, k ≠ 82 → k ≠ 83 → R.a k = σ.a k)) := by
  unfold f_X12_row
  refine ok_ite (fun c => ok_some ⟨RX.rf _, h0, h1, fun _ _ => rfl, fun _ _ _ => rfl⟩) (fun c => ?_)
  have hlt : σ.i 81 < 200 := by grind
  refine ok_chk (ib_of (m := 200) (by decide) h0 hlt) (ok_some ⟨((RX.a _ _ _ _ (by decide)).tr (RX.a _ _ _ _ (by decide))).tr (RX.i _ _ _ (by decide)), ?_, ?_, ?_, ?_⟩)
  · show 0 ≤ σ.i 81 + 1; grind
  · show σ.i 81 + 1 ≤ 200; grind
  · intro j hj; exact if_neg hj
  · intro k h2 h3
    show (if k = 83 then _ else if k = 82 then _ else σ.a k) = σ.a k
    rw [if_neg h3, if_neg h2]
theorem p_put (N : Nat) (σ : RS) (x : Int32) (h0 : 0 ≤ (σ.i 93).toInt) (h1 : (σ.i 93).toInt ≤ 1300) : ok (f_X12_put N σ x) (fun R => RX σ R ∧ (R.i 93).toInt = (σ.i 93).toInt + 1 ∧ (∀ j : Nat, j ≠ 93 → R.i j = σ.i j) ∧ (∀ k : Nat, k ≠ 94 → R.a k = σ.a k) ∧ R.a 94 = upd (σ.a 94) (σ.i 93).toNatClampNeg x) := by
  unfold f_X12_put
  refine ok_chk ⟨h0, by omega⟩ (ok_some ⟨(RX.a _ _ _ _ (by decide)).tr (RX.i _ _ _ (by decide)), ?_, fun j hj => if_neg hj, fun k hk => if_neg hk, rfl⟩)
  have e1 : (1 : Int32).toInt = 1 := by decide
  show (σ.i 93 + 1).toInt = _
  rw [toInt_add] <;> rw [e1] <;> omega
theorem p_take (N : Nat) (σ : RS) (h0 : 1 ≤ (σ.i 93).toInt) (h1 : (σ.i 93).toInt ≤ 1301) : ok (f_X12_take N σ) (fun R => RX σ R.2 ∧ (R.2.i 93).toInt = (σ.i 93).toInt - 1 ∧ (∀ j : Nat, j ≠ 93 → R.2.i j = σ.i j) ∧ R.2.a = σ.a ∧ R.1 = σ.a 94 ((σ.i 93).toInt - 1).toNat) := by
  unfold f_X12_take
  have e1 : (1 : Int32).toInt = 1 := by decide
  have es : (σ.i 93 - 1).toInt = (σ.i 93).toInt - 1 := by rw [toInt_sub] <;> rw [e1] <;> omega
  refine ok_chk ⟨by omega, by omega⟩ (ok_some ⟨RX.i _ _ _ (by decide), es, fun j hj => if_neg hj, rfl, ?_⟩)
  show σ.a 94 ((σ.i 93 - 1).toInt.toNat) = _
  rw [es]
theorem p_step (N : Nat) (σ : RS) (h0 : 0 ≤ σ.i 80) (h1 : σ.i 80 ≤ 1000) : ok (f_X12_step N σ) (fun R => RX σ R ∧ R.a = σ.a ∧ ((R.i 92 = -1 ∧ R.i 80 = σ.i 80 ∧ R.i 115 = 5 ∧ (∀ j : Nat, j ≠ 92 → j ≠ 115 → R.i j = σ.i j)) ∨ ((R.i 80).toInt = (σ.i 80).toInt + 1 ∧ 0 ≤ R.i 80 ∧ R.i 80 ≤ 1000 ∧ (∀ j : Nat, j ≠ 80 → R.i j = σ.i j)))) := by
  unfold f_X12_step
  refine ok_ite (fun c => ok_some ⟨(RX.i _ _ _ (by decide)).tr (RX.i _ _ _ (by decide)), rfl, Or.inl ⟨rfl, rfl, rfl, ?_⟩⟩) (fun c => ok_some ⟨RX.i _ _ _ (by decide), rfl, Or.inr ⟨?_, ?_, ?_, fun j hj => if_neg hj⟩⟩)
  · intro j h2 h3
    show (if j = 92 then _ else if j = 115 then _ else σ.i j) = σ.i j
    rw [if_neg h2, if_neg h3]
  · have e1 : (1 : Int32).toInt = 1 := by decide
    have e9 : (1000 : Int32).toInt = 1000 := by decide
    have a := le_int h0
    have b := le_int h1
    rw [z_t0] at a
    show (σ.i 80 + 1).toInt = _
    rw [toInt_add] <;> rw [e1] <;> omega
  · show 0 ≤ σ.i 80 + 1; grind
  · show σ.i 80 + 1 ≤ 1000; grind
/-- raise: a new thing, in range -/
theorem p_raise (N : Nat) (σ : RS) (x y : Int32) (h0 : 0 ≤ σ.i 85) (h1 : σ.i 85 ≤ 3200) : ok (f_X12_raise N σ x y) (fun R => RX σ R ∧ R.i 110 = 3 ∧ 0 ≤ (R.i 114).toInt ∧ (R.i 114).toInt < 3200 ∧ 0 ≤ R.i 85 ∧ R.i 85 ≤ 3200 ∧ (∀ j : Nat, j ≠ 85 → j ≠ 110 → j ≠ 114 → R.i j = σ.i j) ∧ (∀ k : Nat, k ≠ 86 → k ≠ 87 → k ≠ 88 → R.a k = σ.a k) ∧ R.a 86 = upd (σ.a 86) (R.i 114).toNatClampNeg x ∧ R.a 88 = upd (σ.a 88) (R.i 114).toNatClampNeg 0) := by
  have key : ∀ t : Int32, 0 ≤ t → t < 3200 → ok (f_X12_raise_24 N (σ.setI 114 t) x y) (fun R => RX σ R ∧ R.i 110 = 3 ∧ 0 ≤ (R.i 114).toInt ∧ (R.i 114).toInt < 3200 ∧ 0 ≤ R.i 85 ∧ R.i 85 ≤ 3200 ∧ (∀ j : Nat, j ≠ 85 → j ≠ 110 → j ≠ 114 → R.i j = σ.i j) ∧ (∀ k : Nat, k ≠ 86 → k ≠ 87 → k ≠ 88 → R.a k = σ.a k) ∧ R.a 86 = upd (σ.a 86) (R.i 114).toNatClampNeg x ∧ R.a 88 = upd (σ.a 88) (R.i 114).toNatClampNeg 0) := by
    intro t ht0 ht1
    unfold f_X12_raise_24
    have hib : ib t 3200 := ib_of (m := 3200) (by decide) ht0 ht1
    refine ok_chk hib (ok_some ⟨?_, rfl, hib.1, hib.2, ?_, ?_, ?_, ?_, rfl, rfl⟩)
    · exact (((((RX.i _ _ _ (by decide)).tr (RX.i _ _ _ (by decide))).tr (RX.a _ _ _ _ (by decide))).tr (RX.a _ _ _ _ (by decide))).tr (RX.a _ _ _ _ (by decide))).tr (RX.i _ _ _ (by decide))
    · show 0 ≤ t + 1; grind
    · show t + 1 ≤ 3200; grind
    · intro j h2 h3 h4
      show (if j = 110 then _ else if j = 85 then _ else if j = 114 then _ else σ.i j) = σ.i j
      rw [if_neg h3, if_neg h2, if_neg h4]
    · intro k h2 h3 h4
      show (if k = 88 then _ else if k = 87 then _ else if k = 86 then _ else σ.a k) = σ.a k
      rw [if_neg h4, if_neg h3, if_neg h2]
  unfold f_X12_raise
  exact ok_ite (fun c => key 3199 (by decide) (by decide)) (fun c => key (σ.i 85) h0 (by grind))
end
section
theorem gv_of {σ τ : RS} {k : Nat} (h : τ.a k = σ.a k) (i : Nat) : gv τ k i = gv σ k i := by unfold gv; rw [h]
theorem gv_upd {σ : RS} {k i : Nat} {f : Nat → Int32} {j : Nat} {v : Int32} (h : σ.a k = upd f j v) : gv σ k i = if i = j then v.toInt else (f i).toInt := by
  unfold gv
  rw [h]
  unfold upd
  by_cases c : i = j
  · rw [if_pos c, if_pos c]
  · rw [if_neg c, if_neg c]
/-- closeAll: all that the try has begun is closed; how stays or is THROWN -/
def CA (σ R : RS) (g : Gh) (r : Nat) : Prop := RX σ R ∧ RD R g ∧ (∀ j : Nat, j ≠ 81 → j ≠ 85 → j ≠ 95 → j ≠ 110 → j ≠ 114 → R.i j = σ.i j) ∧ (∀ k : Nat, k < 82 ∨ k = 84 ∨ 91 ≤ k → R.a k = σ.a k) ∧ 0 ≤ (R.i 95).toInt ∧ (R.i 95).toInt ≤ gv σ 103 r ∧ (R.i 110 = σ.i 110 ∨ R.i 110 = 3) ∧ (R.i 110 = 3 → 0 ≤ (R.i 114).toInt ∧ (R.i 114).toInt < 3200)
theorem p_closeAll (N : Nat) (g : Gh) (x1 : Int32) (hx : ib x1 300) : ∀ (n : Nat) (σ : RS), RB σ → RD σ g → 0 ≤ gv σ 103 x1.toNatClampNeg → 0 ≤ (σ.i 95).toInt → (σ.i 95).toInt ≤ 450 → (σ.i 110 = 3 → 0 ≤ (σ.i 114).toInt ∧ (σ.i 114).toInt < 3200) → (σ.i 95).toInt < n → ok (f_X12_closeAll_0 N n σ x1) (fun R => CA σ R g x1.toNatClampNeg)
  | 0, σ, hB, hD, hc, h0, h1, ht, hn => by omega
  | n+1, σ, hB, hD, hc, h0, h1, ht, hn => by
    show ok (b_X12_closeAll_0 N (f_X12_closeAll_0 N n) σ x1) _
    unfold b_X12_closeAll_0
    refine ok_chk hx (ok_ite (fun c => ok_some ⟨RX.rf _, hD, fun _ _ _ _ _ _ => rfl, fun _ _ => rfl, h0, ?_, Or.inl rfl, ht⟩) (fun c => ?_))
    · exact le_int c
    · have c1 : gv σ 103 x1.toNatClampNeg < (σ.i 95).toInt := by
        have := Int32.not_le.mp c
        exact lt_int this
      have e1 : (1 : Int32).toInt = 1 := by decide
      have es : (σ.i 95 - 1).toInt = (σ.i 95).toInt - 1 := by rw [toInt_sub] <;> rw [e1] <;> omega
      have hib : ib (σ.i 95 - 1) 460 := ⟨by omega, by omega⟩
      refine ok_chk hib ?_
      have ec := clampI hib.1
      obtain ⟨D1, D2, D3, D4, D5, D6, D7⟩ := hD
      have hop := D1 (σ.i 95 - 1).toNatClampNeg (by omega) (by omega)
      generalize hxe : σ.a 96 (σ.i 95 - 1).toNatClampNeg = xx at *
      have hxx : ib xx 8 := by
        have : gv σ 96 (σ.i 95 - 1).toNatClampNeg = xx.toInt := by unfold gv; rw [hxe]
        rw [this] at hop
        exact hop
      refine ok_bind (p_row N (σ.setI 95 (σ.i 95 - 1)) 2 xx D3.1 D3.2) (fun p hp => ?_)
      obtain ⟨r1, r2, r3, r4, r5⟩ := hp
      refine ok_chk hxx ?_
      have hp95 : (p.i 95).toInt = (σ.i 95).toInt - 1 := by rw [r4 95 (by decide)]; exact es
      have hX : RX σ p := (RX.i _ _ _ (by decide)).tr r1
      have hp3 : p.i 3 = σ.i 3 := hX.2.2.1 3 (by decide)
      have hp7 : p.a 7 = σ.a 7 := hX.2.2.2 7 (by decide)
      have hBp : RB p := RB.of (hX.2.2.1 2 (by decide)) hp3 (hX.2.2.2 4 (by decide)) (hX.2.2.2 6 (by decide)) hp7 hB
      have hi : ∀ j : Nat, j ≠ 81 → j ≠ 95 → p.i j = σ.i j := fun j h2 h3 => (r4 j h2).trans (if_neg h3)
      have ha : ∀ k : Nat, k ≠ 82 → k ≠ 83 → p.a k = σ.a k := fun k h2 h3 => r5 k h2 h3
      have hDp : RD p g := by
        refine ⟨fun j h2 h3 => ?_, fun y h2 h3 => ?_, ⟨r2, r3⟩, ?_, ?_, fun t h2 => ?_, fun t h2 => ?_⟩
        · rw [gv_of (ha 96 (by decide) (by decide))]; exact D1 j h2 (by omega)
        · rw [gv_of (ha 84 (by decide) (by decide))]; exact D2 y h2 h3
        · rw [hi 85 (by decide) (by decide)]; exact D4
        · rw [hi 80 (by decide) (by decide)]; exact D5
        · rw [gv_of (ha 88 (by decide) (by decide))]; exact D6 t h2
        · rw [gv_of (ha 86 (by decide) (by decide)), hp3]; exact D7 t h2
      have hcp : gv p 103 x1.toNatClampNeg = gv σ 103 x1.toNatClampNeg := gv_of (ha 103 (by decide) (by decide)) _
      have htp : p.i 110 = 3 → 0 ≤ (p.i 114).toInt ∧ (p.i 114).toInt < 3200 := by
        rw [hi 110 (by decide) (by decide), hi 114 (by decide) (by decide)]; exact ht
      -- what a later state gives back
      have back : ∀ q : RS, RX p q → RB q → RD q g → (∀ j : Nat, j ≠ 85 → j ≠ 110 → j ≠ 114 → q.i j = p.i j) → (∀ k : Nat, k < 82 ∨ k = 84 ∨ 91 ≤ k → q.a k = p.a k) → (q.i 110 = p.i 110 ∨ q.i 110 = 3) → (q.i 110 = 3 → 0 ≤ (q.i 114).toInt ∧ (q.i 114).toInt < 3200) → ok (f_X12_closeAll_0 N n q x1) (fun R => CA σ R g x1.toNatClampNeg) := by
        intro q a1 a2 a3 a4 a5 a6 a7
        have hq95 : (q.i 95).toInt = (σ.i 95).toInt - 1 := by rw [a4 95 (by decide) (by decide) (by decide)]; exact hp95
        have hq103 : gv q 103 x1.toNatClampNeg = gv σ 103 x1.toNatClampNeg := (gv_of (a5 103 (Or.inr (Or.inr (by decide)))) _).trans hcp
        refine ok_imp (p_closeAll N g x1 hx n q a2 a3 (by rw [hq103]; exact hc) (by omega) (by omega) a7 (by omega)) (fun R hR => ?_)
        obtain ⟨b1, b2, b3, b4, b5, b6, b7, b8⟩ := hR
        refine ⟨(hX.tr a1).tr b1, b2, fun j d1 d2 d3 d4 d5 => ?_, fun k d1 => ?_, b5, by rw [← hq103]; exact b6, ?_, b8⟩
        · rw [b3 j d1 d2 d3 d4 d5, a4 j d2 d4 d5, hi j d1 d3]
        · rw [b4 k d1, a5 k d1]
          rcases d1 with d1 | d1 | d1
          · exact hX.2.2.2 k d1
          · subst d1; exact ha 84 (by decide) (by decide)
          · exact ha k (by omega) (by omega)
        · rcases b7 with b7 | b7
          · rcases a6 with a6 | a6
            · exact Or.inl (by rw [b7, a6, hi 110 (by decide) (by decide)])
            · exact Or.inr (b7.trans a6)
          · exact Or.inr b7
      have stay : ok (f_X12_closeAll_0 N n p x1) (fun R => CA σ R g x1.toNatClampNeg) := back p (RX.rf _) hBp hDp (fun _ _ _ _ => rfl) (fun _ _ => rfl) (Or.inl rfl) htp
      have hcl := hBp.2.2.2.2 xx.toNatClampNeg (by have := clampI hxx.1; have := hxx.2; omega)
      refine ok_ite (fun c2 => stay) (fun c2 => ok_ite (fun c3 => ?_) (fun c3 => ?_))
      · obtain ⟨t0, t1⟩ := htp c3
        have hit : ib (p.i 114) 3200 := ⟨t0, t1⟩
        refine ok_chk hit (ok_ite (fun c4 => stay) (fun c4 => ?_))
        have et := clampI t0
        have hs := hDp.2.2.2.2.2.1 (p.i 114).toNatClampNeg (by omega)
        have hs8 : gv p 88 (p.i 114).toNatClampNeg < 8 := by
          have := lt_int (Int32.not_le.mp c4)
          have e8 : (8 : Int32).toInt = 8 := by decide
          unfold gv; omega
        have e8 : (8 : Int32).toInt = 8 := by decide
        have em : (8 * p.i 114).toInt = 8 * (p.i 114).toInt := by
          rw [Int32.toInt_mul, e8, Int.bmod_eq_of_le (by omega) (by omega)]
        have ea : (8 * p.i 114 + p.a 88 (p.i 114).toNatClampNeg).toInt = 8 * (p.i 114).toInt + gv p 88 (p.i 114).toNatClampNeg := by
          rw [toInt_add] <;> rw [em] <;> unfold gv at * <;> omega
        refine ok_chk ⟨by omega, by omega⟩ ?_
        refine back _ (((RX.a _ _ _ _ (by decide)).tr (RX.a _ _ _ _ (by decide))).tr (RX.a _ _ _ _ (by decide))) (RB.of rfl rfl rfl rfl rfl hBp) ?_ (fun _ _ _ _ => rfl) (fun k hk => ?_) (Or.inl rfl) htp
        · obtain ⟨E1, E2, E3, E4, E5, E6, E7⟩ := hDp
          refine ⟨E1, E2, E3, E4, E5, fun t h2 => ?_, E7⟩
          have : gv (((p.setA 89 (8 * p.i 114 + p.a 88 (p.i 114).toNatClampNeg).toNatClampNeg (p.a 7 xx.toNatClampNeg - 1)).setA 90 (8 * p.i 114 + p.a 88 (p.i 114).toNatClampNeg).toNatClampNeg xx).setA 88 (p.i 114).toNatClampNeg (p.a 88 (p.i 114).toNatClampNeg + 1)) 88 t = if t = (p.i 114).toNatClampNeg then (p.a 88 (p.i 114).toNatClampNeg + 1).toInt else (p.a 88 t).toInt := gv_upd rfl
          rw [this]
          by_cases q : t = (p.i 114).toNatClampNeg
          · rw [if_pos q]
            have : (p.a 88 (p.i 114).toNatClampNeg + 1).toInt = gv p 88 (p.i 114).toNatClampNeg + 1 := by
              rw [toInt_add] <;> rw [e1] <;> unfold gv at * <;> omega
            omega
          · rw [if_neg q]; exact E6 t h2
        · show (if k = 88 then _ else if k = 90 then _ else if k = 89 then _ else p.a k) = p.a k
          rw [if_neg (by omega), if_neg (by omega), if_neg (by omega)]
      · refine ok_bind (p_raise N p _ xx hDp.2.2.2.1.1 hDp.2.2.2.1.2) (fun q hq => ?_)
        obtain ⟨a1, a2, a3, a4, a5, a6, a7, a8, a9, a10⟩ := hq
        have hq3 : q.i 3 = p.i 3 := a7 3 (by decide) (by decide) (by decide)
        refine back q a1 (RB.of (a1.2.2.1 2 (by decide)) hq3 (a1.2.2.2 4 (by decide)) (a1.2.2.2 6 (by decide)) (a1.2.2.2 7 (by decide)) hBp) ?_ (fun j d1 d2 d3 => a7 j d1 d2 d3) (fun k hk => a8 k (by omega) (by omega) (by omega)) (Or.inr a2) (fun _ => ⟨a3, a4⟩)
        obtain ⟨E1, E2, E3, E4, E5, E6, E7⟩ := hDp
        refine ⟨fun j h2 h3 => ?_, fun y h2 h3 => ?_, ?_, ⟨a5, a6⟩, ?_, fun t h2 => ?_, fun t h2 => ?_⟩
        · rw [gv_of (a8 96 (by decide) (by decide) (by decide))]
          rw [a7 95 (by decide) (by decide) (by decide)] at h3
          exact E1 j h2 h3
        · rw [gv_of (a8 84 (by decide) (by decide) (by decide))]; exact E2 y h2 h3
        · rw [a7 81 (by decide) (by decide) (by decide)]; exact E3
        · rw [a7 80 (by decide) (by decide) (by decide)]; exact E5
        · rw [gv_upd a10]
          by_cases w : t = (q.i 114).toNatClampNeg
          · rw [if_pos w, z_t0]; decide
          · rw [if_neg w]; exact E6 t h2
        · rw [gv_upd a9, hq3]
          by_cases w : t = (q.i 114).toNatClampNeg
          · rw [if_pos w]
            have g1 := le_int hcl.1
            have g2 := le_int hcl.2
            rw [z_t0] at g1
            have g3 := le_int hBp.2.1.2
            have e12 : (12 : Int32).toInt = 12 := by decide
            have : (p.a 7 xx.toNatClampNeg - 1).toInt = (p.a 7 xx.toNatClampNeg).toInt - 1 := by rw [toInt_sub] <;> rw [e1] <;> omega
            rw [this]; omega
          · rw [if_neg w]; exact E7 t h2
end
section
theorem RM.of {s σ τ : RS} {g : Gh} : ∀ {rs : List Rec}, (∀ i : Nat, i < rs.length → ∀ k : Nat, 100 ≤ k → k ≤ 109 → gv τ k i = gv σ k i) → RM s σ g rs → RM s τ g rs
  | [], _, _ => trivial
  | r :: rs, h, hr => by
    have e := fun (k : Nat) (h1 : 100 ≤ k) (h2 : k ≤ 109) => h rs.length (Nat.lt_succ_self _) k h1 h2
    refine ⟨?_, RM.of (fun i hi => h i (Nat.lt_succ_of_lt hi)) hr.2⟩
    have h1 := hr.1
    unfold RM1 PEND at *
    rw [e 100 (by decide) (by decide), e 101 (by decide) (by decide), e 102 (by decide) (by decide), e 103 (by decide) (by decide), e 104 (by decide) (by decide), e 105 (by decide) (by decide), e 106 (by decide) (by decide), e 107 (by decide) (by decide), e 109 (by decide) (by decide)]
    exact h1
theorem JMP.pop {s : RS} {g : Gh} {v : Nat} {kk x : Int} {d h o : Nat} {r : Rec} {rs : List Rec} (hj : JMP s g v kk x d h o (r :: rs)) (hd : ¬ rs.length + 1 ≤ d) (hc : r.k = 4 → r.p < 2 → 0 ≤ gv s 31 r.a → r.ps = true) : JMP s g v kk x d h r.o rs := by
  obtain ⟨h1, v', h2, h3, h4⟩ := hj
  refine ⟨by omega, v', h2, ?_, fun ha => ?_⟩
  · rcases h3 with h3 | h3
    · exact absurd h3 hd
    · exact h3.2.2
  · have := h4 (Or.inr ⟨hc, ha⟩)
    have eo : oA d o (r :: rs) = oA d r.o rs := if_neg hd
    have ed : dA d (r :: rs) = dA d rs := if_neg hd
    rw [eo, ed] at this
    exact this
theorem JMP.pend {s : RS} {g : Gh} {v : Nat} {kk x : Int} {d h o : Nat} {r : Rec} {rs : List Rec} (hj : JMP s g v kk x d h o (r :: rs)) (hd : ¬ rs.length + 1 ≤ d) (hk : r.k = 4) (hp : r.ps = true) : JMP s g r.v (gv s 32 r.a) x d r.h r.o rs := by
  obtain ⟨h1, v', h2, h3, h4⟩ := hj
  rcases h3 with h3 | ⟨-, h5, h6⟩
  · exact absurd h3 hd
  · obtain ⟨e, h7⟩ := h5 hk
    rw [e]
    refine ⟨by omega, v', h7, h6, fun ha => ?_⟩
    have := h4 (Or.inr ⟨fun _ _ _ => hp, ha⟩)
    have eo : oA d o (r :: rs) = oA d r.o rs := if_neg hd
    have ed : dA d (r :: rs) = dA d rs := if_neg hd
    rw [eo, ed] at this
    exact this
theorem YOK.pop {d : Int} {r : Rec} {rs : List Rec} (h : YOK d (r :: rs)) (hd : ¬ rs.length + 1 ≤ d.toNat) : YOK d rs := by
  obtain ⟨h1, q, qs, h2, h3, h4⟩ := h
  have ed : dA d.toNat (r :: rs) = dA d.toNat rs := if_neg hd
  rw [ed] at h2
  exact ⟨h1, q, qs, h2, h3, h4⟩
/-- how what leaves stands, with these records -/
def TR (s σ : RS) (g : Gh) (k v h o : Nat) (rs : List Rec) : Prop := (σ.i 110 = 1 ∧ 0 ≤ (σ.i 112).toInt ∧ (σ.i 93).toInt = h ∧ JMP s g v ((k : Int) + 1) (σ.i 111).toInt (σ.i 112).toInt.toNat h o rs) ∨ σ.i 110 = 2 ∨ (σ.i 110 = 3 ∧ 0 ≤ (σ.i 114).toInt ∧ (σ.i 114).toInt < 3200) ∨ (σ.i 110 = 4 ∧ YOK (σ.i 112).toInt rs)
def LV (s σ : RS) (g : Gh) (k v h o : Nat) (rs : List Rec) : Prop := RX s σ ∧ RB σ ∧ RD σ g ∧ (σ.i 99).toInt = rs.length ∧ rs.length ≤ 250 ∧ RM s σ g rs ∧ recsOK s g k v rs ∧ (σ.i 97).toInt = wv rs ∧ 0 ≤ (σ.i 95).toInt ∧ (σ.i 95).toInt ≤ o ∧ o ≤ 450 ∧ oOK o rs ∧ TR s σ g k v h o rs
/-- what leave gives -/
def LO (s σ R : RS) (g : Gh) (k v : Nat) : Prop := RX s R ∧ RB R ∧ RD R g ∧ R.i 80 = σ.i 80 ∧ OUT s R g v ((k : Int) + 1) ∧ (R.i 115 = σ.i 115 ∨ ((R.i 92).toInt < 0 ∧ (R.i 115 = 3 → 0 ≤ (R.i 114).toInt ∧ (R.i 114).toInt < 3200)))
theorem catch_loop {N : Nat} (hN : 1000 ≤ N) {s σ : RS} {g : Gh} (hX : RX s σ) (hW : WT s g) (hB : RB σ) (hD : RD σ g) {x1 : Int32} (hx : ib x1 300) (t0 : 0 ≤ (σ.i 114).toInt) (t1 : (σ.i 114).toInt < 3200) {k0 : Int} (hsl : ∀ j : Nat, catchIn s j 400 k0 → 0 ≤ gv s 36 j ∧ gv s 36 j < 460) :
    ∀ (n m : Nat) (k : Int32), k.toInt < (s.i 33).toInt → (∀ j : Nat, catchIn s j m k.toInt → catchIn s j 400 k0) → (0 ≤ k.toInt → 400 - k.toInt ≤ m) → 1 ≤ n → (0 ≤ k.toInt → (s.i 33).toInt - k.toInt < n) → ok (f_X12_isCaught_12 N n σ x1 k) (fun R => (R.1 = 0 ∧ R.2 = σ) ∨ (¬ R.1 = 0 ∧ ∃ j : Nat, catchIn s j 400 k0 ∧ R.2 = ((((σ.setA 84 (σ.a 36 j).toNatClampNeg (σ.i 114)).setA 102 x1.toNatClampNeg 1).setI 93 (σ.a 104 x1.toNatClampNeg)).setI 92 (σ.a 35 j))))
  | 0, _, _, _, _, _, h1, _ => by omega
  | n+1, m, k, hk, hm, hm4, hn1, hn => by
    show ok (b_X12_isCaught_12 N (f_X12_isCaught_12 N n) σ x1 k) _
    unfold b_X12_isCaught_12
    have hW0 := hW
    obtain ⟨-, -, w3, -, w5, -, -, -, -, -, -⟩ := hW
    refine ok_ite (fun c => ok_some (Or.inl ⟨rfl, rfl⟩)) (fun c => ?_)
    have hk0 : 0 ≤ k.toInt := by have := le_int (Int32.not_lt.mp c); rw [z_t0] at this; exact this
    have hn := hn hk0
    have hm4 := hm4 hk0
    refine ok_chk ⟨t0, t1⟩ (ok_chk ⟨hk0, by omega⟩ ?_)
    have ec := clampI hk0
    have et := clampI t0
    have hkind : σ.a 86 (σ.i 114).toNatClampNeg < σ.i 3 := by
      rw [Int32.lt_iff_toInt_lt]
      exact hD.2.2.2.2.2.2 (σ.i 114).toNatClampNeg (by omega)
    obtain ⟨m', rfl⟩ : ∃ m', m = m' + 1 := ⟨m - 1, by omega⟩
    have hself : catchIn s k.toNatClampNeg 400 k0 := hm _ ⟨hk0, Or.inl ec.symm⟩
    refine ok_bind (p_isUnder (by omega) σ _ _ hB hkind) (fun p hp => ?_)
    obtain ⟨p1, p2⟩ := p
    simp only at hp
    subst hp
    refine ok_ite (fun c2 => ?_) (fun c2 => ?_)
    · have e37 : (p2.a 37 k.toNatClampNeg).toInt = gv s 37 k.toNatClampNeg := gv_of (hX.2.2.2 37 (by decide)) _
      have hnx := w5 k.toNatClampNeg (by omega)
      refine catch_loop hN hX hW0 hB hD hx t0 t1 hsl n m' _ (by rw [e37]; omega) (fun j hj => hm j ⟨hk0, Or.inr ?_⟩) (fun h0 => by rw [e37] at h0 ⊢; omega) (by omega) (fun h0 => by rw [e37] at h0 ⊢; omega)
      rw [e37] at hj
      exact hj
    · have hs := hsl _ hself
      have e36 : (p2.a 36 k.toNatClampNeg).toInt = gv s 36 k.toNatClampNeg := gv_of (hX.2.2.2 36 (by decide)) _
      refine ok_chk ⟨by rw [e36]; exact hs.1, by rw [e36]; exact hs.2⟩ (ok_chk hx (ok_some (Or.inr ⟨(show ¬ (1 : Int32) = 0 by decide), k.toNatClampNeg, hself, rfl⟩)))
theorem p_isCaught {N : Nat} (hN : 1000 ≤ N) {s σ : RS} {g : Gh} (hX : RX s σ) (hW : WT s g) (hB : RB σ) (hD : RD σ g) {x1 : Int32} (hx : ib x1 300) (t0 : 0 ≤ (σ.i 114).toInt) (t1 : (σ.i 114).toInt < 3200) {r : Rec} (hra : gv σ 101 x1.toNatClampNeg = r.a) (hat : (r.a : Int) < (s.i 29).toInt) (hsl : ∀ j : Nat, catchIn s j 400 (gv s 30 r.a) → 0 ≤ gv s 36 j ∧ gv s 36 j < 460) :
    ok (f_X12_isCaught N σ x1) (fun R => (R.1 = 0 ∧ R.2 = σ) ∨ (¬ R.1 = 0 ∧ ∃ j : Nat, catchIn s j 400 (gv s 30 r.a) ∧ R.2 = ((((σ.setA 84 (σ.a 36 j).toNatClampNeg (σ.i 114)).setA 102 x1.toNatClampNeg 1).setI 93 (σ.a 104 x1.toNatClampNeg)).setI 92 (σ.a 35 j)))) := by
  unfold f_X12_isCaught
  have hw := hW
  obtain ⟨-, w2, w3, -, w5, w6, -, -, -, -, -⟩ := hW
  have hr : (σ.a 101 x1.toNatClampNeg).toInt = r.a := hra
  have ea : (σ.a 101 x1.toNatClampNeg).toNatClampNeg = r.a := by
    show (σ.a 101 x1.toNatClampNeg).toInt.toNat = r.a
    rw [hr]; exact Int.toNat_natCast _
  refine ok_chk hx (ok_chk ⟨by rw [hr]; omega, by rw [hr]; omega⟩ ?_)
  rw [ea]
  have e30 : (σ.a 30 r.a).toInt = gv s 30 r.a := gv_of (hX.2.2.2 30 (by decide)) _
  have h6 := w6 r.a hat
  refine catch_loop hN hX hw hB hD hx t0 t1 hsl N 400 _ (by rw [e30]; exact h6) (fun j hj => by rw [e30] at hj; exact hj) (fun h0 => by rw [e30] at h0 ⊢; omega) (by omega) (fun h0 => by rw [e30] at h0 ⊢; omega)

/-- into a finally: how it goes on is kept in the record -/
def FIN (σ : RS) (i : Nat) (w : Int32) : RS := RS.setI (RS.setI (RS.setA (RS.setA (RS.setA (RS.setA (RS.setA (RS.setA σ 105 i (σ.i 110)) 106 i (σ.i 111)) 107 i (σ.i 112)) 108 i (σ.i 113)) 109 i (σ.i 114)) 102 i 2) 93 (σ.a 104 i)) 92 w
theorem e_finals {N : Nat} {σ : RS} {x1 : Int32} {a : Nat} (hx : ib x1 300) (hra : gv σ 101 x1.toNatClampNeg = a) (ha : a < 200) : f_X12_finals N σ x1 = some (if 0 ≤ gv σ 31 a then (1, FIN σ x1.toNatClampNeg (σ.a 31 a)) else (0, σ)) := by
  unfold f_X12_finals
  have hr : (σ.a 101 x1.toNatClampNeg).toInt = a := hra
  have ea : (σ.a 101 x1.toNatClampNeg).toNatClampNeg = a := by
    show (σ.a 101 x1.toNatClampNeg).toInt.toNat = a
    rw [hr]; exact Int.toNat_natCast _
  rw [if_pos hx, if_pos (show ib (σ.a 101 x1.toNatClampNeg) 200 from ⟨by rw [hr]; omega, by rw [hr]; omega⟩), ea]
  have e0 : (0 ≤ σ.a 31 a) ↔ 0 ≤ gv σ 31 a := by
    rw [Int32.le_iff_toInt_le, z_t0]; exact Iff.rfl
  by_cases c : 0 ≤ σ.a 31 a
  · rw [if_pos c, if_pos (e0.mp c)]; rfl
  · rw [if_neg c, if_neg (fun h => c (e0.mpr h))]
def popB (N : Nat) (K : RS → Option RS) (σ : RS) : Option RS :=
  (if (σ.a 100 ((((σ.i 99) - 1) : Int32).toNatClampNeg)) = 1 then (f_X12_row N σ 4 (σ.a 101 ((((σ.i 99) - 1) : Int32).toNatClampNeg))).bind fun p27 => if ib (p27.a 101 ((((σ.i 99) - 1) : Int32).toNatClampNeg)) 8 then K (RS.setI (RS.setA p27 91 (((p27.a 101 ((((σ.i 99) - 1) : Int32).toNatClampNeg)) : Int32).toNatClampNeg) ((p27.a 91 (((p27.a 101 ((((σ.i 99) - 1) : Int32).toNatClampNeg)) : Int32).toNatClampNeg)) - 1)) 99 ((p27.i 99) - 1)) else none else (if (σ.a 100 ((((σ.i 99) - 1) : Int32).toNatClampNeg)) = 2 then K (RS.setI (RS.setI σ 97 (σ.a 101 ((((σ.i 99) - 1) : Int32).toNatClampNeg))) 99 ((σ.i 99) - 1)) else (if (σ.a 100 ((((σ.i 99) - 1) : Int32).toNatClampNeg)) = 4 then (if (σ.a 102 ((((σ.i 99) - 1) : Int32).toNatClampNeg)) = 0 then (f_X12_closeAll N σ ((σ.i 99) - 1)).bind fun p13 => (if (p13.i 110) = 3 then (f_X12_isCaught N p13 ((σ.i 99) - 1)).bind fun p20 => (if p20.1 = 0 then (if 2 ≤ (p20.2.a 102 ((((σ.i 99) - 1) : Int32).toNatClampNeg)) then K (RS.setI p20.2 99 ((p20.2.i 99) - 1)) else (f_X12_finals N p20.2 ((σ.i 99) - 1)).bind fun p24 => (if p24.1 = 0 then K (RS.setI p24.2 99 ((p24.2.i 99) - 1)) else some p24.2)) else some p20.2) else (if 2 ≤ (p13.a 102 ((((σ.i 99) - 1) : Int32).toNatClampNeg)) then K (RS.setI p13 99 ((p13.i 99) - 1)) else (f_X12_finals N p13 ((σ.i 99) - 1)).bind fun p17 => (if p17.1 = 0 then K (RS.setI p17.2 99 ((p17.2.i 99) - 1)) else some p17.2))) else (if 2 ≤ (σ.a 102 ((((σ.i 99) - 1) : Int32).toNatClampNeg)) then K (RS.setI σ 99 ((σ.i 99) - 1)) else (f_X12_finals N σ ((σ.i 99) - 1)).bind fun p10 => (if p10.1 = 0 then K (RS.setI p10.2 99 ((p10.2.i 99) - 1)) else some p10.2))) else K (RS.setI σ 99 ((σ.i 99) - 1)))))
theorem FIN_gv {σ : RS} {i : Nat} {w : Int32} {k j : Nat} (hj : j ≠ i) : gv (FIN σ i w) k j = gv σ k j := by
  unfold gv FIN
  simp only [ra_setI, ra_setA]
  by_cases h2 : k = 102
  · subst h2; simp [upd, hj]
  · by_cases h9 : k = 109
    · subst h9; simp [upd, hj]
    · by_cases h8 : k = 108
      · subst h8; simp [upd, hj]
      · by_cases h7 : k = 107
        · subst h7; simp [upd, hj]
        · by_cases h6 : k = 106
          · subst h6; simp [upd, hj]
          · by_cases h5 : k = 105
            · subst h5; simp [upd, hj]
            · simp [h2, h5, h6, h7, h8, h9]
theorem FIN_X {s σ : RS} {i : Nat} {w : Int32} (h : RX s σ) : RX s (FIN σ i w) :=
  h.tr ((((((((RX.a _ _ _ _ (by decide)).tr (RX.a _ _ _ _ (by decide))).tr (RX.a _ _ _ _ (by decide))).tr (RX.a _ _ _ _ (by decide))).tr (RX.a _ _ _ _ (by decide))).tr (RX.a _ _ _ _ (by decide))).tr (RX.i _ _ _ (by decide))).tr (RX.i _ _ _ (by decide)))
theorem RD.of {σ τ : RS} {g : Gh} (h : RD σ g) (h95 : τ.i 95 = σ.i 95) (h96 : τ.a 96 = σ.a 96) (h84 : τ.a 84 = σ.a 84) (h81 : τ.i 81 = σ.i 81) (h85 : τ.i 85 = σ.i 85) (h80 : τ.i 80 = σ.i 80) (h88 : τ.a 88 = σ.a 88) (h86 : τ.a 86 = σ.a 86) (h3 : τ.i 3 = σ.i 3) : RD τ g := by
  unfold RD gv at *
  rw [h95, h96, h84, h81, h85, h80, h88, h86, h3]
  exact h
theorem RX.B {s σ : RS} (hX : RX s σ) (hB : RB s) : RB σ := RB.of (hX.2.2.1 2 (by decide)) (hX.2.2.1 3 (by decide)) (hX.2.2.2 4 (by decide)) (hX.2.2.2 6 (by decide)) (hX.2.2.2 7 (by decide)) hB
/-- a finally is taken: the place there is as expected -/
theorem fin_out {s σ : RS} {g : Gh} {k v h o : Nat} {r : Rec} {rs : List Rec} {x1 : Int32} (hx1 : x1.toNatClampNeg = rs.length) (hB : RB s) (hX : RX s σ) (hD : RD σ g) (hR : (σ.i 99).toInt = rs.length + 1) (hM : RM s σ g (r :: rs)) (hO : recOK s g k v r rs) (hw : (σ.i 97).toInt = wv (r :: rs)) (h95 : 0 ≤ (σ.i 95).toInt) (h95r : (σ.i 95).toInt ≤ r.o) (hk : r.k = 4) (hp : r.p < 2) (hf : 0 ≤ gv s 31 r.a)
    (hpd : (σ.i 110 = 0 ∧ (r.ps = true → r.ek = true)) ∨ (TR s σ g k v h o (r :: rs) ∧ (σ.i 110 = 1 ∨ σ.i 110 = 4 → ¬ (rs.length : Int) + 1 ≤ (σ.i 112).toInt))) : OUT s (FIN σ x1.toNatClampNeg (σ.a 31 r.a)) g v ((k : Int) + 1) := by
  rw [hx1]
  obtain ⟨o1, o2, o3⟩ := hO
  have o4 : r.k = 4 ∧ (r.a : Int) < (s.i 29).toInt ∧ r.p ≤ 2 ∧ r.v ≤ v ∧ (k : Int) < gv s 32 r.a ∧ (r.p = 0 → ∀ j : Nat, catchIn s j 400 (gv s 30 r.a) → 0 ≤ gv s 36 j ∧ gv s 36 j < 460 ∧ g.isC (gv s 36 j).toNat = true ∧ FL s g v ((k : Int) + 1) (gv s 35 j) r.h r.o (r.ph 1 :: rs)) ∧ (r.p < 2 → 0 ≤ gv s 31 r.a → FL s g v ((k : Int) + 1) (gv s 31 r.a) r.h r.o (r.ph 2 :: rs)) := by
    rcases o3 with q | q | q | q
    · rw [hk] at q; exact absurd q.1 (by decide)
    · rw [hk] at q; exact absurd q (by decide)
    · rw [hk] at q; exact absurd q.1 (by decide)
    · exact q
  have hFL := o4.2.2.2.2.2.2 hp hf
  have e31 : (σ.a 31 r.a).toInt = gv s 31 r.a := gv_of (hX.2.2.2 31 (by decide)) _
  obtain ⟨f1, f2, f3⟩ := hFL
  have epc : ((FIN σ rs.length (σ.a 31 r.a)).i 92).toInt = gv s 31 r.a := e31
  by_cases hc : gv s 31 r.a < cdI s
  · obtain ⟨c, c1, c2, c3, c4, c5, c6⟩ := f3 hc
    refine Or.inr (Or.inr ⟨c, by rw [epc]; exact f1, by rw [epc]; exact c1, ?_, by rw [epc]; exact c6⟩)
    obtain ⟨m1, m2⟩ := hM
    obtain ⟨n1, n2, -, -, -, n6⟩ := m1
    obtain ⟨q1, q2, q3, q4, q5⟩ := n6 hk
    refine ⟨?_, ?_, h95, ?_, ?_, ?_, ?_⟩
    · rw [c2]; exact n2
    · rw [c5]
      show (σ.i 97).toInt = _
      rw [hw]
      unfold wv
      rw [if_neg (by rw [hk]; decide), if_neg (show ¬ (r.ph 2).k = 2 by show ¬ r.k = 2; rw [hk]; decide)]
    · show (σ.i 95).toInt ≤ _
      omega
    · rw [c5]; show (σ.i 99).toInt = _; rw [hR]; rfl
    · rw [c5]
      refine ⟨?_, RM.of (fun i hi k9 _ _ => FIN_gv (by omega)) m2⟩
      have g102 : gv (FIN σ rs.length (σ.a 31 r.a)) 102 rs.length = 2 := by unfold gv FIN; simp only [ra_setI, ra_setA]; simp [upd]
      have g105 : gv (FIN σ rs.length (σ.a 31 r.a)) 105 rs.length = (σ.i 110).toInt := by unfold gv FIN; simp only [ra_setI, ra_setA]; simp [upd]
      have g106 : gv (FIN σ rs.length (σ.a 31 r.a)) 106 rs.length = (σ.i 111).toInt := by unfold gv FIN; simp only [ra_setI, ra_setA]; simp [upd]
      have g107 : gv (FIN σ rs.length (σ.a 31 r.a)) 107 rs.length = (σ.i 112).toInt := by unfold gv FIN; simp only [ra_setI, ra_setA]; simp [upd]
      have g109 : gv (FIN σ rs.length (σ.a 31 r.a)) 109 rs.length = (σ.i 114).toInt := by unfold gv FIN; simp only [ra_setI, ra_setA]; simp [upd]
      have e1 : (1 : Int32).toInt = 1 := by decide
      have e2 : (2 : Int32).toInt = 2 := by decide
      have e3 : (3 : Int32).toInt = 3 := by decide
      have e4 : (4 : Int32).toInt = 4 := by decide
      refine ⟨n1, n2, fun q => absurd q (by show ¬ r.k = 1; rw [hk]; decide), fun q => absurd q (by show ¬ r.k = 2; rw [hk]; decide), fun q => absurd q (by show ¬ r.k = 3; rw [hk]; decide), fun _ => ⟨q1, g102, q3, q4, fun _ => ?_⟩⟩
      unfold PEND
      rw [g105, g106, g107, g109]
      rcases hpd with ⟨d1, d2⟩ | ⟨d1, d2⟩
      · rw [d1, z_t0]
        exact ⟨by decide, by decide, fun hp => ⟨fun _ => d2 hp, fun q => absurd q (by decide), fun q => absurd q (by decide), fun q => absurd q (by decide)⟩⟩
      · rcases d1 with ⟨d3, d4, d5, d6⟩ | d3 | ⟨d3, d4⟩ | ⟨d3, d4⟩
        · rw [d3, e1]
          have hd := d2 (Or.inl d3)
          exact ⟨by decide, by decide, fun hp => ⟨fun q => absurd q (by decide), fun _ => ⟨d4, d6.pend (by omega) hk hp⟩, fun q => absurd q (by decide), fun q => absurd q (by decide)⟩⟩
        · rw [d3, e2]
          exact ⟨by decide, by decide, fun hp => ⟨fun q => absurd q (by decide), fun q => absurd q (by decide), fun q => absurd q (by decide), fun q => absurd q (by decide)⟩⟩
        · rw [d3, e3]
          exact ⟨by decide, by decide, fun hp => ⟨fun q => absurd q (by decide), fun q => absurd q (by decide), fun _ => d4, fun q => absurd q (by decide)⟩⟩
        · rw [d3, e4]
          have hd := d2 (Or.inr d3)
          exact ⟨by decide, by decide, fun hp => ⟨fun q => absurd q (by decide), fun q => absurd q (by decide), fun q => absurd q (by decide), fun _ => d4.pop (by omega)⟩⟩
    · intro q; rw [c4] at q; cases q
  · refine Or.inr (Or.inl ?_)
    rw [epc]; omega
end
section
theorem eqI {x m : Int32} {n : Int} (h : x.toInt = n) (hm : m.toInt = n) : x = m := Int32.toInt_inj.mp (h.trans hm.symm)
theorem neI {x m : Int32} {n c : Int} (h : x.toInt = n) (hm : m.toInt = c) (hne : n ≠ c) : ¬ x = m := fun q => hne (by rw [← h, ← hm, q])
theorem TR.pop {s σ τ : RS} {g : Gh} {k v h o : Nat} {r : Rec} {rs : List Rec} (ht : TR s σ g k v h o (r :: rs)) (hd : σ.i 110 = 1 ∨ σ.i 110 = 4 → ¬ (rs.length : Int) + 1 ≤ (σ.i 112).toInt) (hc : r.k = 4 → r.p < 2 → 0 ≤ gv s 31 r.a → r.ps = true) (e0 : τ.i 110 = σ.i 110) (e1 : τ.i 111 = σ.i 111) (e2 : τ.i 112 = σ.i 112) (e3 : τ.i 93 = σ.i 93) (e4 : τ.i 114 = σ.i 114) : TR s τ g k v h r.o rs := by
  unfold TR at *
  rw [e0, e1, e2, e3, e4]
  rcases ht with ⟨d3, d4, d5, d6⟩ | d3 | ⟨d3, d4⟩ | ⟨d3, d4⟩
  · have := hd (Or.inl d3)
    exact Or.inl ⟨d3, d4, d5, d6.pop (by omega) hc⟩
  · exact Or.inr (Or.inl d3)
  · exact Or.inr (Or.inr (Or.inl ⟨d3, d4⟩))
  · have := hd (Or.inr d3)
    exact Or.inr (Or.inr (Or.inr ⟨d3, d4.pop (by omega)⟩))
theorem sub1 {x : Int32} {n : Nat} (h : x.toInt = (n : Int) + 1) (hn : n ≤ 1000) : (x - 1).toInt = n := by
  have e1 : (1 : Int32).toInt = 1 := by decide
  rw [toInt_sub] <;> rw [e1] <;> omega
theorem recOK.four {s : RS} {g : Gh} {k v : Nat} {r : Rec} {rs : List Rec} (h : recOK s g k v r rs) (hk : r.k = 4) : (r.a : Int) < (s.i 29).toInt ∧ r.p ≤ 2 ∧ (r.p = 0 → ∀ j : Nat, catchIn s j 400 (gv s 30 r.a) → 0 ≤ gv s 36 j ∧ gv s 36 j < 460 ∧ g.isC (gv s 36 j).toNat = true ∧ FL s g v ((k : Int) + 1) (gv s 35 j) r.h r.o (r.ph 1 :: rs)) := by
  rcases h.2.2 with q | q | q | q
  · rw [hk] at q; exact absurd q.1 (by decide)
  · rw [hk] at q; exact absurd q (by decide)
  · rw [hk] at q; exact absurd q.1 (by decide)
  · exact ⟨q.2.1, q.2.2.1, q.2.2.2.2.2.1⟩
/-- behind what is closed and not caught: a finally, or the record goes -/
theorem p_tail {N : Nat} {s σ0 τ : RS} {g : Gh} {k v h o : Nat} {r : Rec} {rs : List Rec} {K : RS → Option RS} {x1 : Int32} (hW : WT s g) (hB : RB s) (hx : x1.toInt = rs.length) (hx1 : x1.toNatClampNeg = rs.length) (hX : RX s τ) (hD : RD τ g) (hR : (τ.i 99).toInt = rs.length + 1) (hl : rs.length + 1 ≤ 250) (hM : RM s τ g (r :: rs)) (hO : recOK s g k v r rs) (hOs : recsOK s g k v rs) (hw : (τ.i 97).toInt = wv (r :: rs)) (h95 : 0 ≤ (τ.i 95).toInt) (h95r : (τ.i 95).toInt ≤ r.o) (hoo : oOK r.o rs) (hk : r.k = 4) (ht : TR s τ g k v h o (r :: rs)) (hd : τ.i 110 = 1 ∨ τ.i 110 = 4 → ¬ (rs.length : Int) + 1 ≤ (τ.i 112).toInt) (h80 : τ.i 80 = σ0.i 80) (h115 : τ.i 115 = σ0.i 115)
    (hK : ∀ (q : RS), LV s q g k v h r.o rs → q.i 80 = σ0.i 80 → q.i 115 = σ0.i 115 → ok (K q) (fun R => LO s σ0 R g k v)) :
    ok (if 2 ≤ τ.a 102 x1.toNatClampNeg then K (τ.setI 99 (τ.i 99 - 1)) else (f_X12_finals N τ x1).bind fun p => (if p.1 = 0 then K (p.2.setI 99 (p.2.i 99 - 1)) else some p.2)) (fun R => LO s σ0 R g k v) := by
  have f4 := hO.four hk
  have hM1 := hM.1
  obtain ⟨n1, n2, -, -, -, n6⟩ := hM1
  obtain ⟨q1, q2, q3, q4, q5⟩ := n6 hk
  have w2 := hW.2.1
  have pop : (r.p < 2 → ¬ 0 ≤ gv s 31 r.a) → ok (K (τ.setI 99 (τ.i 99 - 1))) (fun R => LO s σ0 R g k v) := by
    intro hnf
    refine hK _ ⟨hX.tr (RX.i _ _ _ (by decide)), (hX.tr (RX.i _ _ _ (by decide))).B hB, RD.of hD rfl rfl rfl rfl rfl rfl rfl rfl rfl, sub1 hR (by omega), by omega, RM.of (σ := τ) (fun _ _ _ _ _ => rfl) hM.2, hOs, ?_, h95, h95r, hO.2.1, hoo, ht.pop hd (fun _ hp hf => absurd hf (hnf hp)) rfl rfl rfl rfl rfl⟩ h80 h115
    show (τ.i 97).toInt = _
    rw [hw]; unfold wv; rw [if_neg (by rw [hk]; decide), Nat.zero_add]
    cases rs <;> rfl
  have e102 : (τ.a 102 x1.toNatClampNeg).toInt = r.p := by rw [hx1]; exact q2
  have e2 : (2 : Int32).toInt = 2 := by decide
  refine ok_ite (fun c => pop (fun hp => ?_)) (fun c => ?_)
  · have := le_int c
    rw [e2, e102] at this
    omega
  · have hp2 : r.p < 2 := by
      have := lt_int (Int32.not_le.mp c)
      rw [e2, e102] at this
      omega
    rw [e_finals (a := r.a) (show ib x1 300 from ⟨by omega, by omega⟩) (by rw [hx1]; exact q1) (by omega)]
    have e31 : gv τ 31 r.a = gv s 31 r.a := gv_of (hX.2.2.2 31 (by decide)) _
    by_cases hf : 0 ≤ gv τ 31 r.a
    · rw [if_pos hf]
      show ok (if (1 : Int32) = 0 then K ((FIN τ x1.toNatClampNeg (τ.a 31 r.a)).setI 99 ((FIN τ x1.toNatClampNeg (τ.a 31 r.a)).i 99 - 1)) else some (FIN τ x1.toNatClampNeg (τ.a 31 r.a))) _
      refine ok_ite (fun q => absurd q (show ¬ (1 : Int32) = 0 by decide)) (fun _ => ok_some ?_)
      refine ⟨FIN_X hX, (FIN_X hX).B hB, RD.of hD rfl rfl rfl rfl rfl rfl rfl rfl rfl, h80, ?_, Or.inl h115⟩
      exact fin_out (h := h) (o := o) hx1 hB hX hD hR hM hO hw h95 h95r hk hp2 (by rw [← e31]; exact hf) (Or.inr ⟨ht, hd⟩)
    · rw [if_neg hf]
      show ok (if (0 : Int32) = 0 then K (τ.setI 99 (τ.i 99 - 1)) else some τ) _
      exact ok_ite (fun _ => pop (fun _ => by rw [← e31]; exact hf)) (fun q => absurd rfl q)
/-- a catch takes it -/
theorem catch_out {s τ : RS} {g : Gh} {k v : Nat} {r : Rec} {rs : List Rec} {x1 : Int32} (hx1 : x1.toNatClampNeg = rs.length) (hX : RX s τ) (hR : (τ.i 99).toInt = rs.length + 1) (hM : RM s τ g (r :: rs)) (hO : recOK s g k v r rs) (hw : (τ.i 97).toInt = wv (r :: rs)) (h95 : 0 ≤ (τ.i 95).toInt) (h95r : (τ.i 95).toInt ≤ r.o) (hk : r.k = 4) (hp : r.p = 0) {j : Nat} (hj : catchIn s j 400 (gv s 30 r.a)) : OUT s ((((τ.setA 84 (τ.a 36 j).toNatClampNeg (τ.i 114)).setA 102 x1.toNatClampNeg 1).setI 93 (τ.a 104 x1.toNatClampNeg)).setI 92 (τ.a 35 j)) g v ((k : Int) + 1) := by
  rw [hx1]
  obtain ⟨-, -, f1, f2, f3⟩ := (hO.four hk).2.2 hp j hj
  have e35 : (τ.a 35 j).toInt = gv s 35 j := gv_of (hX.2.2.2 35 (by decide)) _
  by_cases hc : gv s 35 j < cdI s
  · obtain ⟨c, c1, c2, c3, c4, c5, c6⟩ := f3.2 hc
    refine Or.inr (Or.inr ⟨c, ?_, ?_, ?_, ?_⟩)
    · show 0 ≤ (τ.a 35 j).toInt; rw [e35]; exact f2
    · show g.T (τ.a 35 j).toInt.toNat _; rw [e35]; exact c1
    · obtain ⟨m1, m2⟩ := hM
      obtain ⟨n1, n2, -, -, -, n6⟩ := m1
      obtain ⟨q1, q2, q3, q4, q5⟩ := n6 hk
      have other : ∀ (i : Nat), i < rs.length → ∀ k9 : Nat, 100 ≤ k9 → k9 ≤ 109 → gv ((((τ.setA 84 (τ.a 36 j).toNatClampNeg (τ.i 114)).setA 102 rs.length 1).setI 93 (τ.a 104 rs.length)).setI 92 (τ.a 35 j)) k9 i = gv τ k9 i := by
        intro i hi k9 h1 h2
        unfold gv
        simp only [ra_setI, ra_setA]
        by_cases h3 : k9 = 102
        · subst h3; simp [upd, Nat.ne_of_lt hi]
        · simp [h3, show ¬ k9 = 84 by omega]
      refine ⟨?_, ?_, h95, ?_, ?_, ?_, ?_⟩
      · rw [c2]; exact n2
      · rw [c5]
        show (τ.i 97).toInt = _
        rw [hw]
        unfold wv
        rw [if_neg (by rw [hk]; decide), if_neg (show ¬ (r.ph 1).k = 2 by show ¬ r.k = 2; rw [hk]; decide)]
      · show (τ.i 95).toInt ≤ _; omega
      · rw [c5]; show (τ.i 99).toInt = _; rw [hR]; rfl
      · rw [c5]
        refine ⟨⟨n1, n2, fun q => absurd q (by show ¬ r.k = 1; rw [hk]; decide), fun q => absurd q (by show ¬ r.k = 2; rw [hk]; decide), fun q => absurd q (by show ¬ r.k = 3; rw [hk]; decide), fun _ => ⟨q1, ?_, q3, q4, fun q => absurd q (by show ¬ (1 : Nat) = 2; decide)⟩⟩, RM.of other m2⟩
        unfold gv; simp only [ra_setI, ra_setA]; simp [upd]; rfl
      · intro q; rw [c4] at q; cases q
    · show c.v < v ∨ c.v ≤ v ∧ (k : Int) + 1 ≤ (τ.a 35 j).toInt; rw [e35]; exact c6
  · refine Or.inr (Or.inl ?_)
    show cdI s ≤ (τ.a 35 j).toInt
    rw [e35]; omega
theorem CA.of {σ R s : RS} {g : Gh} {i : Nat} (h : CA σ R g i) (hX : RX s σ) : RX s R := hX.tr h.1
/-- one record goes, or what leaves stops at it -/
theorem p_pop {N : Nat} (hN : 1000 ≤ N) {s σ : RS} {g : Gh} {k v h o : Nat} {r : Rec} {rs : List Rec} {K : RS → Option RS} (hW : WT s g) (hB : RB s) (hL : LV s σ g k v h o (r :: rs)) (hd : σ.i 110 = 1 ∨ σ.i 110 = 4 → ¬ (rs.length : Int) + 1 ≤ (σ.i 112).toInt)
    (hK : ∀ (q : RS), LV s q g k v h r.o rs → q.i 80 = σ.i 80 → q.i 115 = σ.i 115 → ok (K q) (fun R => LO s σ R g k v)) : ok (popB N K σ) (fun R => LO s σ R g k v) := by
  obtain ⟨hX, hBσ, hD, hR, hl, hM, hOs, hw, h95, h95o, ho, hoo, ht⟩ := hL
  have hR : (σ.i 99).toInt = (rs.length : Int) + 1 := hR
  have hl : rs.length + 1 ≤ 250 := hl
  have hx : (σ.i 99 - 1).toInt = rs.length := sub1 hR (by omega)
  have hx1 : (σ.i 99 - 1).toNatClampNeg = rs.length := by
    show (σ.i 99 - 1).toInt.toNat = rs.length
    rw [hx]; exact Int.toNat_natCast _
  have hib : ib (σ.i 99 - 1) 300 := ⟨by omega, by omega⟩
  have e1 : (1 : Int32).toInt = 1 := by decide
  have e2 : (2 : Int32).toInt = 2 := by decide
  have e4 : (4 : Int32).toInt = 4 := by decide
  obtain ⟨n1, n2, n3, n4, n5, n6⟩ := hM.1
  have hO := hOs.1
  have n1' : (σ.a 100 (σ.i 99 - 1).toNatClampNeg).toInt = r.k := by rw [hx1]; exact n1
  have opop : r.k ≠ 4 → (σ.i 95).toInt ≤ r.o := by
    intro hk
    rcases hoo.1 with q | q
    · exact absurd q.1 hk
    · omega
  have wpop : r.k ≠ 2 → (σ.i 97).toInt = wv rs := by
    intro hk
    rw [hw]; unfold wv; rw [if_neg hk, Nat.zero_add]
    cases rs <;> rfl
  unfold popB
  refine ok_ite (fun c => ?_) (fun c => ok_ite (fun c2 => ?_) (fun c2 => ok_ite (fun c3 => ?_) (fun c3 => ?_)))
  · have hk : r.k = 1 := by rw [c, e1] at n1'; omega
    refine ok_bind (p_row N σ 4 _ hD.2.2.1.1 hD.2.2.1.2) (fun p hp => ?_)
    obtain ⟨r1, r2, r3, r4, r5⟩ := hp
    have ha : (p.a 101 (σ.i 99 - 1).toNatClampNeg).toInt = r.a := by rw [r5 101 (by decide) (by decide), hx1]; exact n3 hk
    have h8 : r.a < 8 := by
      rcases hO.2.2 with q | q | q | q
      · exact q.2
      · rw [hk] at q; exact absurd q (by decide)
      · rw [hk] at q; exact absurd q.1 (by decide)
      · rw [hk] at q; exact absurd q.1 (by decide)
    refine ok_chk ⟨by rw [ha]; omega, by rw [ha]; omega⟩ ?_
    have hXp : RX s p := hX.tr r1
    have hXq := (hXp.tr (RX.a p 91 (p.a 101 (σ.i 99 - 1).toNatClampNeg).toNatClampNeg (p.a 91 (p.a 101 (σ.i 99 - 1).toNatClampNeg).toNatClampNeg - 1) (by decide))).tr (RX.i _ 99 (p.i 99 - 1) (by decide))
    have r99 : p.i 99 = σ.i 99 := r4 99 (by decide)
    refine hK _ ⟨hXq, hXq.B hB, ?_, ?_, by omega, ?_, hOs.2, ?_, ?_, ?_, hO.2.1, hoo.2, ht.pop hd (fun q => absurd q (by rw [hk]; decide)) (r4 110 (by decide)) (r4 111 (by decide)) (r4 112 (by decide)) (r4 93 (by decide)) (r4 114 (by decide))⟩ (r4 80 (by decide)) (r4 115 (by decide))
    · obtain ⟨E1, E2, E3, E4, E5, E6, E7⟩ := hD
      refine ⟨fun j h2 h3 => ?_, fun y h2 h3 => ?_, ⟨r2, r3⟩, ?_, ?_, fun t h2 => ?_, fun t h2 => ?_⟩
      · have h3 : (j : Int) < (p.i 95).toInt := h3
        rw [r4 95 (by decide)] at h3
        show 0 ≤ gv p 96 j ∧ gv p 96 j < 8
        rw [gv_of (r5 96 (by decide) (by decide))]; exact E1 j h2 h3
      · show 0 ≤ gv p 84 y ∧ gv p 84 y < 3200
        rw [gv_of (r5 84 (by decide) (by decide))]; exact E2 y h2 h3
      · show 0 ≤ p.i 85 ∧ p.i 85 ≤ 3200
        rw [r4 85 (by decide)]; exact E4
      · show 0 ≤ p.i 80 ∧ p.i 80 ≤ 1000
        rw [r4 80 (by decide)]; exact E5
      · show 0 ≤ gv p 88 t ∧ gv p 88 t ≤ 8
        rw [gv_of (r5 88 (by decide) (by decide))]; exact E6 t h2
      · show gv p 86 t < (p.i 3).toInt
        rw [gv_of (r5 86 (by decide) (by decide)), r4 3 (by decide)]; exact E7 t h2
    · show (p.i 99 - 1).toInt = _
      rw [r99]; exact hx
    · refine RM.of (σ := σ) (fun i hi k9 h1 h2 => ?_) hM.2
      have : gv ((p.setA 91 (p.a 101 (σ.i 99 - 1).toNatClampNeg).toNatClampNeg (p.a 91 (p.a 101 (σ.i 99 - 1).toNatClampNeg).toNatClampNeg - 1)).setI 99 (p.i 99 - 1)) k9 i = gv p k9 i := by
        unfold gv; simp only [ra_setI, ra_setA]; rw [if_neg (by omega)]
      rw [this]
      exact gv_of (r5 k9 (by omega) (by omega)) i
    · show (p.i 97).toInt = _
      rw [r4 97 (by decide)]; exact wpop (by rw [hk]; decide)
    · show 0 ≤ (p.i 95).toInt
      rw [r4 95 (by decide)]; exact h95
    · show (p.i 95).toInt ≤ _
      rw [r4 95 (by decide)]; exact opop (by rw [hk]; decide)
  · have hk : r.k = 2 := by rw [c2, e2] at n1'; omega
    have hXq := (hX.tr (RX.i σ 97 (σ.a 101 (σ.i 99 - 1).toNatClampNeg) (by decide))).tr (RX.i _ 99 (σ.i 99 - 1) (by decide))
    refine hK _ ⟨hXq, hXq.B hB, RD.of hD rfl rfl rfl rfl rfl rfl rfl rfl rfl, hx, by omega, RM.of (σ := σ) (fun _ _ _ _ _ => rfl) hM.2, hOs.2, ?_, h95, opop (by rw [hk]; decide), hO.2.1, hoo.2, ht.pop hd (fun q => absurd q (by rw [hk]; decide)) rfl rfl rfl rfl rfl⟩ rfl rfl
    show (σ.a 101 (σ.i 99 - 1).toNatClampNeg).toInt = _
    rw [hx1]; exact (n4 hk).1
  · have hk : r.k = 4 := by rw [c3, e4] at n1'; omega
    obtain ⟨q1, q2, q3, q4, q5⟩ := n6 hk
    have f4 := hO.four hk
    have e102 : (σ.a 102 (σ.i 99 - 1).toNatClampNeg).toInt = r.p := by rw [hx1]; exact q2
    refine ok_ite (fun c4 => ?_) (fun c4 => ?_)
    · have hp : r.p = 0 := by rw [c4, z_t0] at e102; omega
      have h103 : gv σ 103 (σ.i 99 - 1).toNatClampNeg = gv σ 103 rs.length := by rw [hx1]
      unfold f_X12_closeAll
      refine ok_bind (p_closeAll N g (σ.i 99 - 1) hib N σ hBσ hD (by rw [h103]; exact q3) h95 (by omega) ?_ (by omega)) (fun p hp9 => ?_)
      · intro q
        rcases ht with ⟨d3, -⟩ | d3 | ⟨d3, d4⟩ | ⟨d3, -⟩
        · rw [d3] at q; exact absurd q (by decide)
        · rw [d3] at q; exact absurd q (by decide)
        · exact d4
        · rw [d3] at q; exact absurd q (by decide)
      obtain ⟨b1, b2, b3, b4, b5, b6, b7, b8⟩ := hp9
      have hXp : RX s p := hX.tr b1
      have hMp : RM s p g (r :: rs) := RM.of (σ := σ) (fun i _ k9 h1 _ => gv_of (b4 k9 (by omega)) i) hM
      have h99 : p.i 99 = σ.i 99 := b3 99 (by decide) (by decide) (by decide) (by decide) (by decide)
      have hRp : (p.i 99).toInt = (rs.length : Int) + 1 := by rw [h99]; exact hR
      have h97 : p.i 97 = σ.i 97 := b3 97 (by decide) (by decide) (by decide) (by decide) (by decide)
      have hwp : (p.i 97).toInt = wv (r :: rs) := by rw [h97]; exact hw
      have h95p : (p.i 95).toInt ≤ r.o := by rw [h103] at b6; omega
      have h80 : p.i 80 = σ.i 80 := b3 80 (by decide) (by decide) (by decide) (by decide) (by decide)
      have h115 : p.i 115 = σ.i 115 := b3 115 (by decide) (by decide) (by decide) (by decide) (by decide)
      have h112 : p.i 112 = σ.i 112 := b3 112 (by decide) (by decide) (by decide) (by decide) (by decide)
      have htp : TR s p g k v h o (r :: rs) ∧ (p.i 110 = 1 ∨ p.i 110 = 4 → ¬ (rs.length : Int) + 1 ≤ (p.i 112).toInt) := by
        by_cases h3 : p.i 110 = 3
        · exact ⟨Or.inr (Or.inr (Or.inl ⟨h3, b8 h3⟩)), fun q => by rw [h3] at q; exact absurd q (by decide)⟩
        · have h110 : p.i 110 = σ.i 110 := by
            rcases b7 with b7 | b7
            · exact b7
            · exact absurd b7 h3
          refine ⟨?_, by rw [h110, h112]; exact hd⟩
          unfold TR at *
          rw [h110, h112, b3 111 (by decide) (by decide) (by decide) (by decide) (by decide), b3 93 (by decide) (by decide) (by decide) (by decide) (by decide)]
          rcases ht with d | d | ⟨d3, d4⟩ | d
          · exact Or.inl d
          · exact Or.inr (Or.inl d)
          · exact absurd (h110.trans d3) h3
          · exact Or.inr (Or.inr (Or.inr d))
      refine ok_ite (fun c5 => ?_) (fun c5 => ?_)
      · obtain ⟨t0, t1⟩ := b8 c5
        refine ok_bind (p_isCaught hN hXp hW (hXp.B hB) b2 hib t0 t1 (r := r) (by rw [hx1]; exact (hMp.1.2.2.2.2.2 hk).1) f4.1 (fun j hj => ⟨(f4.2.2 hp j hj).1, (f4.2.2 hp j hj).2.1⟩)) (fun z hz => ?_)
        rcases hz with ⟨z1, z2⟩ | ⟨z1, j, hj, z2⟩
        · obtain ⟨zz1, zz2⟩ := z
          simp only at z1 z2
          subst z2
          refine ok_ite (fun _ => ?_) (fun q => absurd z1 q)
          exact p_tail (N := N) (h := h) (o := o) hW hB hx hx1 hXp b2 hRp hl hMp hO hOs.2 hwp b5 h95p hoo.2 hk htp.1 htp.2 h80 h115 hK
        · refine ok_ite (fun q => absurd q z1) (fun _ => ok_some ?_)
          rw [z2]
          have hXq : RX s ((((p.setA 84 (p.a 36 j).toNatClampNeg (p.i 114)).setA 102 (σ.i 99 - 1).toNatClampNeg 1).setI 93 (p.a 104 (σ.i 99 - 1).toNatClampNeg)).setI 92 (p.a 35 j)) := hXp.tr ((((RX.a _ _ _ _ (by decide)).tr (RX.a _ _ _ _ (by decide))).tr (RX.i _ _ _ (by decide))).tr (RX.i _ _ _ (by decide)))
          refine ⟨hXq, hXq.B hB, ?_, h80, catch_out hx1 hXp hRp hMp hO hwp b5 h95p hk hp hj, Or.inl h115⟩
          obtain ⟨E1, E2, E3, E4, E5, E6, E7⟩ := b2
          refine ⟨E1, fun y h2 h3 => ?_, E3, E4, E5, E6, E7⟩
          have : gv ((((p.setA 84 (p.a 36 j).toNatClampNeg (p.i 114)).setA 102 (σ.i 99 - 1).toNatClampNeg 1).setI 93 (p.a 104 (σ.i 99 - 1).toNatClampNeg)).setI 92 (p.a 35 j)) 84 y = if y = (p.a 36 j).toNatClampNeg then (p.i 114).toInt else (p.a 84 y).toInt := gv_upd rfl
          rw [this]
          by_cases w : y = (p.a 36 j).toNatClampNeg
          · rw [if_pos w]; exact ⟨t0, t1⟩
          · rw [if_neg w]; exact E2 y h2 h3
      · exact p_tail (N := N) (h := h) (o := o) hW hB hx hx1 hXp b2 hRp hl hMp hO hOs.2 hwp b5 h95p hoo.2 hk htp.1 htp.2 h80 h115 hK
    · have hp : r.p ≠ 0 := by
        intro q
        exact c4 (eqI (by rw [e102, q]; rfl) z_t0)
      have h95r : (σ.i 95).toInt ≤ r.o := by
        rcases hoo.1 with q | q
        · exact absurd q.2 hp
        · omega
      exact p_tail (N := N) (h := h) (o := o) hW hB hx hx1 hX hD hR hl hM hO hOs.2 hw h95 h95r hoo.2 hk ht hd rfl rfl hK
  · have hk : r.k = 3 := by
      have k1 : r.k ≠ 1 := fun q => c (eqI (by rw [n1', q]; rfl) e1)
      have k2 : r.k ≠ 2 := fun q => c2 (eqI (by rw [n1', q]; rfl) e2)
      have k4 : r.k ≠ 4 := fun q => c3 (eqI (by rw [n1', q]; rfl) e4)
      rcases hO.2.2 with q | q | q | q
      · exact absurd q.1 k1
      · exact absurd q k2
      · exact q.1
      · exact absurd q.1 k4
    have hXq := hX.tr (RX.i σ 99 (σ.i 99 - 1) (by decide))
    exact hK _ ⟨hXq, hXq.B hB, RD.of hD rfl rfl rfl rfl rfl rfl rfl rfl rfl, hx, by omega, RM.of (σ := σ) (fun _ _ _ _ _ => rfl) hM.2, hOs.2, wpop (by rw [hk]; decide), h95, opop (by rw [hk]; decide), hO.2.1, hoo.2, ht.pop hd (fun q => absurd q (by rw [hk]; decide)) rfl rfl rfl rfl rfl⟩ rfl rfl
end
section
theorem b_leave_eq (N : Nat) (K : RS → Option RS) (σ : RS) : b_X12_leave_0 N K σ = (if σ.i 110 = 1 then (if σ.i 99 ≤ σ.i 112 then some (σ.setI 92 (σ.i 111)) else if ib (σ.i 99 - 1) 300 then popB N K σ else none) else (if σ.i 110 = 4 then (if σ.i 99 ≤ σ.i 112 then (if ib (σ.i 99 - 1) 300 then (f_X12_put N ((σ.setI 99 (σ.i 99 - 1)).setI 93 (σ.a 104 (σ.i 99 - 1).toNatClampNeg)) (σ.i 113)).bind fun p => if ib (p.i 99) 300 then if ib (p.a 101 (p.i 99).toNatClampNeg) 3000 then some (p.setI 92 (p.a 23 (p.a 101 (p.i 99).toNatClampNeg).toNatClampNeg)) else none else none else none) else if ib (σ.i 99 - 1) 300 then popB N K σ else none) else (if σ.i 99 ≤ 0 then some ((σ.setI 115 (σ.i 110)).setI 92 (-1)) else if ib (σ.i 99 - 1) 300 then popB N K σ else none))) := rfl
theorem LO.of {s σ q R : RS} {g : Gh} {k v : Nat} (h : LO s q R g k v) (h80 : q.i 80 = σ.i 80) (h115 : q.i 115 = σ.i 115) : LO s σ R g k v := by
  obtain ⟨a1, a2, a3, a4, a5, a6⟩ := h
  exact ⟨a1, a2, a3, a4.trans h80, a5, by rw [← h115]; exact a6⟩
theorem p_leave {N : Nat} (hN : 1000 ≤ N) {s : RS} {g : Gh} {k v h : Nat} (hW : WT s g) (hB : RB s) : ∀ (n : Nat) (σ : RS) (o : Nat) (rs : List Rec), LV s σ g k v h o rs → rs.length < n → ok (f_X12_leave_0 N n σ) (fun R => LO s σ R g k v)
  | 0, _, _, _, _, hn => by omega
  | n+1, σ, o, rs, hL, hn => by
    show ok (b_X12_leave_0 N (f_X12_leave_0 N n) σ) _
    rw [b_leave_eq]
    have e1 : (1 : Int32).toInt = 1 := by decide
    -- the road on: one record less
    have more : (∀ (r : Rec) (q : List Rec), rs = r :: q → (σ.i 110 = 1 ∨ σ.i 110 = 4 → ¬ (q.length : Int) + 1 ≤ (σ.i 112).toInt) → ok (if ib (σ.i 99 - 1) 300 then popB N (f_X12_leave_0 N n) σ else none) (fun R => LO s σ R g k v)) := by
      intro r q hrs hd
      subst hrs
      have hR : (σ.i 99).toInt = (q.length : Int) + 1 := hL.2.2.2.1
      have hl : q.length + 1 ≤ 250 := hL.2.2.2.2.1
      have hx := sub1 hR (by omega)
      refine ok_chk ⟨by omega, by omega⟩ (p_pop hN hW hB hL hd (fun z hz h80 h115 => ?_))
      exact ok_imp (p_leave hN hW hB n z r.o q hz (by have : (r :: q).length < n + 1 := hn; simp only [List.length_cons] at this; omega)) (fun R hR => hR.of h80 h115)
    obtain ⟨hX, hBσ, hD, hR, hl, hM, hOs, hw, h95, h95o, ho, hoo, ht⟩ := hL
    refine ok_ite (fun c1 => ok_ite (fun c2 => ?_) (fun c2 => ?_)) (fun c1 => ok_ite (fun c4 => ok_ite (fun c2 => ?_) (fun c2 => ?_)) (fun c4 => ok_ite (fun c2 => ?_) (fun c2 => ?_)))
    · have c2 := le_int c2
      have tj : 0 ≤ (σ.i 112).toInt ∧ (σ.i 93).toInt = h ∧ JMP s g v ((k : Int) + 1) (σ.i 111).toInt (σ.i 112).toInt.toNat h o rs := by
        rcases ht with ⟨-, d⟩ | d | ⟨d, -⟩ | ⟨d, -⟩
        · exact d
        · rw [c1] at d; exact absurd d (by decide)
        · rw [c1] at d; exact absurd d (by decide)
        · rw [c1] at d; exact absurd d (by decide)
      obtain ⟨j0, j1, j2, v', j3, j4, j5⟩ := tj
      have hd : rs.length ≤ (σ.i 112).toInt.toNat := by omega
      have ha : arr s g (σ.i 112).toInt.toNat rs := by
        cases rs with
        | nil => trivial
        | cons r q => exact Or.inl hd
      have eo : oA (σ.i 112).toInt.toNat o rs = o := by
        cases rs with
        | nil => rfl
        | cons r q => exact if_pos hd
      have ed : dA (σ.i 112).toInt.toNat rs = rs := by
        cases rs with
        | nil => rfl
        | cons r q => exact if_pos hd
      obtain ⟨k0, k1, k2⟩ := j5 ha
      have hXq := hX.tr (RX.i σ 92 (σ.i 111) (by decide))
      refine ok_some ⟨hXq, hXq.B hB, RD.of hD rfl rfl rfl rfl rfl rfl rfl rfl rfl, rfl, ?_, Or.inl rfl⟩
      by_cases hc : (σ.i 111).toInt < cdI s
      · obtain ⟨c, d1, d2, d3, d4, d5, d6⟩ := k2 hc
        rw [eo] at d3
        rw [ed] at d5
        refine Or.inr (Or.inr ⟨c, k0, d1, ⟨?_, ?_, h95, ?_, ?_, ?_, ?_⟩, ?_⟩)
        · rw [d2]; exact j1
        · rw [d5]; exact hw
        · show (σ.i 95).toInt ≤ _; omega
        · rw [d5]; exact hR
        · rw [d5]; exact RM.of (σ := σ) (fun _ _ _ _ _ => rfl) hM
        · intro q; rw [d4] at q; cases q
        · rw [d6]; exact j3
      · refine Or.inr (Or.inl ?_)
        show cdI s ≤ (σ.i 111).toInt
        omega
    · have c2 := lt_int (Int32.not_le.mp c2)
      rw [hR] at c2
      cases rs with
      | nil =>
        rcases ht with ⟨-, d, -⟩ | d | ⟨d, -⟩ | ⟨d, -⟩
        · have : (σ.i 112).toInt < 0 := c2
          omega
        · rw [c1] at d; exact absurd d (by decide)
        · rw [c1] at d; exact absurd d (by decide)
        · rw [c1] at d; exact absurd d (by decide)
      | cons r q =>
        refine more r q rfl (fun _ => ?_)
        have : (σ.i 112).toInt < ((r :: q).length : Nat) := c2
        simp only [List.length_cons] at this
        omega
    · have c2 := le_int c2
      have ty : YOK (σ.i 112).toInt rs := by
        rcases ht with ⟨d, -⟩ | d | ⟨d, -⟩ | ⟨-, d⟩
        · rw [c4] at d; exact absurd d (by decide)
        · rw [c4] at d; exact absurd d (by decide)
        · rw [c4] at d; exact absurd d (by decide)
        · exact d
      obtain ⟨y1, r, q, y2, y3, y4⟩ := ty
      have hd : rs.length ≤ (σ.i 112).toInt.toNat := by omega
      have ed : dA (σ.i 112).toInt.toNat rs = rs := by
        cases rs with
        | nil => rfl
        | cons r q => exact if_pos hd
      rw [ed] at y2
      subst y2
      have hR : (σ.i 99).toInt = (q.length : Int) + 1 := hR
      have hl : q.length + 1 ≤ 250 := hl
      have hx := sub1 hR (by omega)
      have hx1 : (σ.i 99 - 1).toNatClampNeg = q.length := by
        show (σ.i 99 - 1).toInt.toNat = q.length
        rw [hx]; exact Int.toNat_natCast _
      obtain ⟨n1, n2, n3, n4, n5, n6⟩ := hM.1
      have hO := hOs.1
      have o3 : (r.a : Int) < cdI s ∧ FL s g v ((k : Int) + 1) (gv s 23 r.a) (r.h + 1) r.o q := by
        rcases hO.2.2 with z | z | z | z
        · rw [y3] at z; exact absurd z.1 (by decide)
        · rw [y3] at z; exact absurd z (by decide)
        · exact z.2
        · rw [y3] at z; exact absurd z.1 (by decide)
      have e104 : (σ.a 104 (σ.i 99 - 1).toNatClampNeg).toInt = r.h := by rw [hx1]; exact n2
      refine ok_chk ⟨by omega, by omega⟩ ?_
      refine ok_bind (p_put N ((σ.setI 99 (σ.i 99 - 1)).setI 93 (σ.a 104 (σ.i 99 - 1).toNatClampNeg)) (σ.i 113) (by show 0 ≤ (σ.a 104 (σ.i 99 - 1).toNatClampNeg).toInt; omega) (by show (σ.a 104 (σ.i 99 - 1).toNatClampNeg).toInt ≤ 1300; rw [e104]; have := hO.1; omega)) (fun p hp => ?_)
      obtain ⟨p1, p2, p3, p4, p5⟩ := hp
      have h99 : (p.i 99).toInt = q.length := by rw [p3 99 (by decide)]; exact hx
      have h99n : (p.i 99).toNatClampNeg = q.length := by
        show (p.i 99).toInt.toNat = q.length
        rw [h99]; exact Int.toNat_natCast _
      have ha : (p.a 101 (p.i 99).toNatClampNeg).toInt = r.a := by
        rw [h99n, p4 101 (by decide)]; exact n5 y3
      have han : (p.a 101 (p.i 99).toNatClampNeg).toNatClampNeg = r.a := by
        show (p.a 101 (p.i 99).toNatClampNeg).toInt.toNat = r.a
        rw [ha]; exact Int.toNat_natCast _
      have hcd := hW.1
      refine ok_chk ⟨by omega, by omega⟩ (ok_chk ⟨by rw [ha]; omega, by rw [ha]; omega⟩ (ok_some ?_))
      rw [han]
      have hXp : RX s p := hX.tr (((RX.i σ 99 _ (by decide)).tr (RX.i _ 93 _ (by decide))).tr p1)
      have hXq := hXp.tr (RX.i p 92 (p.a 23 r.a) (by decide))
      have e23 : (p.a 23 r.a).toInt = gv s 23 r.a := gv_of (hXp.2.2.2 23 (by decide)) _
      have i95 : p.i 95 = σ.i 95 := p3 95 (by decide)
      refine ⟨hXq, hXq.B hB, RD.of hD i95 (p4 96 (by decide)) (p4 84 (by decide)) (p3 81 (by decide)) (p3 85 (by decide)) (p3 80 (by decide)) (p4 88 (by decide)) (p4 86 (by decide)) (p3 3 (by decide)), p3 80 (by decide), ?_, Or.inl (p3 115 (by decide))⟩
      obtain ⟨f1, f2, f3⟩ := o3.2
      by_cases hc : gv s 23 r.a < cdI s
      · obtain ⟨c, d1, d2, d3, d4, d5, d6⟩ := f3 hc
        refine Or.inr (Or.inr ⟨c, ?_, ?_, ⟨?_, ?_, ?_, ?_, ?_, ?_, ?_⟩, ?_⟩)
        · show 0 ≤ (p.a 23 r.a).toInt; rw [e23]; exact f1
        · show g.T (p.a 23 r.a).toInt.toNat _; rw [e23]; exact d1
        · show (p.i 93).toInt = _
          have p2' : (p.i 93).toInt = (σ.a 104 (σ.i 99 - 1).toNatClampNeg).toInt + 1 := p2
          rw [p2', e104, d2]; rfl
        · show (p.i 97).toInt = _
          rw [p3 97 (by decide), d5]
          show (σ.i 97).toInt = _
          rw [hw]; unfold wv; rw [if_neg (by rw [y3]; decide), Nat.zero_add]
          cases q <;> rfl
        · show 0 ≤ (p.i 95).toInt; rw [i95]; exact h95
        · show (p.i 95).toInt ≤ _
          rw [i95]
          rcases hoo.1 with z | z
          · rw [y3] at z; exact absurd z.1 (by decide)
          · omega
        · rw [d5]; exact h99
        · rw [d5]; exact RM.of (σ := σ) (fun i _ k9 h1 _ => gv_of (p4 k9 (by omega)) i) hM.2
        · intro z; rw [d4] at z; cases z
        · show c.v < v ∨ c.v ≤ v ∧ (k : Int) + 1 ≤ (p.a 23 r.a).toInt; rw [e23]; exact d6
      · refine Or.inr (Or.inl ?_)
        show cdI s ≤ (p.a 23 r.a).toInt
        rw [e23]; omega
    · have c2 := lt_int (Int32.not_le.mp c2)
      rw [hR] at c2
      cases rs with
      | nil =>
        rcases ht with ⟨d, -⟩ | d | ⟨d, -⟩ | ⟨-, d⟩
        · rw [c4] at d; exact absurd d (by decide)
        · rw [c4] at d; exact absurd d (by decide)
        · rw [c4] at d; exact absurd d (by decide)
        · have := d.1
          have : (σ.i 112).toInt < 0 := c2
          omega
      | cons r q =>
        refine more r q rfl (fun _ => ?_)
        have : (σ.i 112).toInt < ((r :: q).length : Nat) := c2
        simp only [List.length_cons] at this
        omega
    · have hXq := (hX.tr (RX.i σ 115 (σ.i 110) (by decide))).tr (RX.i _ 92 (-1) (by decide))
      refine ok_some ⟨hXq, hXq.B hB, RD.of hD rfl rfl rfl rfl rfl rfl rfl rfl rfl, rfl, Or.inl ?_, Or.inr ⟨by show (-1 : Int32).toInt < 0; decide, ?_⟩⟩
      · show (-1 : Int32).toInt < 0; decide
      · intro z
        have z : σ.i 110 = 3 := z
        rcases ht with ⟨d, -⟩ | d | ⟨-, d⟩ | ⟨d, -⟩
        · rw [z] at d; exact absurd d (by decide)
        · rw [z] at d; exact absurd d (by decide)
        · exact d
        · rw [z] at d; exact absurd d (by decide)
    · have c2 := lt_int (Int32.not_le.mp c2)
      rw [hR, z_t0] at c2
      cases rs with
      | nil => exact absurd c2 (by decide)
      | cons r q =>
        refine more r q rfl (fun z => ?_)
        rcases z with z | z
        · exact absurd z c1
        · exact absurd z c4
end
section
/-- what one instruction gives -/
def OUTA (s R : RS) (g : Gh) : Prop := (R.i 92).toInt < 0 ∨ cdI s ≤ (R.i 92).toInt ∨ ∃ c, 0 ≤ (R.i 92).toInt ∧ g.T (R.i 92).toInt.toNat c ∧ DY s R g c
def ACT (s σ R : RS) (g : Gh) (k v : Nat) : Prop := RX s R ∧ RB R ∧ RD R g ∧ ((R.i 80 = σ.i 80 ∧ OUT s R g v ((k : Int) + 1)) ∨ ((R.i 80).toInt = (σ.i 80).toInt + 1 ∧ OUTA s R g)) ∧ (R.i 115 = σ.i 115 ∨ ((R.i 92).toInt < 0 ∧ (R.i 115 = 3 → 0 ≤ (R.i 114).toInt ∧ (R.i 114).toInt < 3200)))
def ST (s R : RS) (g : Gh) (h o : Nat) (rs : List Rec) : Prop := (R.i 93).toInt = h ∧ (R.i 97).toInt = wv rs ∧ 0 ≤ (R.i 95).toInt ∧ (R.i 95).toInt ≤ o ∧ (R.i 99).toInt = rs.length ∧ RM s R g rs
def BS (s σ R : RS) (g : Gh) : Prop := RX s R ∧ RD R g ∧ R.i 80 = σ.i 80 ∧ R.i 115 = σ.i 115
theorem LO.act {s σ R : RS} {g : Gh} {k v : Nat} (h : LO s σ R g k v) : ACT s σ R g k v := ⟨h.1, h.2.1, h.2.2.1, Or.inl ⟨h.2.2.2.1, h.2.2.2.2.1⟩, h.2.2.2.2.2⟩
theorem out_FL {s R : RS} {g : Gh} {v : Nat} {kk x : Int} {h o : Nat} {rs : List Rec} (hf : FL s g v kk x h o rs) (hx : (R.i 92).toInt = x) (hs : ST s R g h o rs) : OUT s R g v kk := by
  obtain ⟨f1, f2, f3⟩ := hf
  obtain ⟨a1, a2, a3, a4, a5, a6⟩ := hs
  by_cases hc : x < cdI s
  · obtain ⟨c, d1, d2, d3, d4, d5, d6⟩ := f3 hc
    refine Or.inr (Or.inr ⟨c, by rw [hx]; exact f1, by rw [hx]; exact d1, ⟨by rw [d2]; exact a1, by rw [d5]; exact a2, a3, by omega, by rw [d5]; exact a5, by rw [d5]; exact a6, fun q => by rw [d4] at q; cases q⟩, by rw [hx]; exact d6⟩)
  · exact Or.inr (Or.inl (by rw [hx]; omega))
theorem out_FS {s R : RS} {g : Gh} {x : Int} {h o : Nat} {rs : List Rec} (hf : FS s g x h o rs) (hx : (R.i 92).toInt = x) (hs : ST s R g h o rs) : OUTA s R g := by
  obtain ⟨f1, f2, f3⟩ := hf
  obtain ⟨a1, a2, a3, a4, a5, a6⟩ := hs
  by_cases hc : x < cdI s
  · obtain ⟨c, d1, d2, d3, d4, d5⟩ := f3 hc
    exact Or.inr (Or.inr ⟨c, by rw [hx]; exact f1, by rw [hx]; exact d1, ⟨by rw [d2]; exact a1, by rw [d5]; exact a2, a3, by omega, by rw [d5]; exact a5, by rw [d5]; exact a6, fun q => by rw [d4] at q; cases q⟩⟩)
  · exact Or.inr (Or.inl (by rw [hx]; omega))
theorem act_FL {s σ R : RS} {g : Gh} {k v : Nat} {x : Int} {h o : Nat} {rs : List Rec} (hB : RB s) (hb : BS s σ R g) (hf : FL s g v ((k : Int) + 1) x h o rs) (hx : (R.i 92).toInt = x) (hs : ST s R g h o rs) : ACT s σ R g k v := ⟨hb.1, hb.1.B hB, hb.2.1, Or.inl ⟨hb.2.2.1, out_FL hf hx hs⟩, Or.inl hb.2.2.2⟩
theorem ST.of {s σ R : RS} {g : Gh} {h h' o : Nat} {rs : List Rec} (hs : ST s σ g h o rs) (e93 : (R.i 93).toInt = h') (e97 : R.i 97 = σ.i 97) (e95 : R.i 95 = σ.i 95) (e99 : R.i 99 = σ.i 99) (ea : ∀ k9 : Nat, 100 ≤ k9 → k9 ≤ 109 → R.a k9 = σ.a k9) : ST s R g h' o rs := by
  obtain ⟨a1, a2, a3, a4, a5, a6⟩ := hs
  exact ⟨e93, by rw [e97]; exact a2, by rw [e95]; exact a3, by rw [e95]; exact a4, by rw [e99]; exact a5, RM.of (σ := σ) (fun i _ k9 h1 h2 => gv_of (ea k9 h1 h2) i) a6⟩
theorem BS.of {s σ τ R : RS} {g : Gh} (hb : BS s σ τ g) (hX : RX τ R) (h95 : R.i 95 = τ.i 95) (h96 : R.a 96 = τ.a 96) (h84 : R.a 84 = τ.a 84) (h81 : R.i 81 = τ.i 81) (h85 : R.i 85 = τ.i 85) (h80 : R.i 80 = τ.i 80) (h88 : R.a 88 = τ.a 88) (h86 : R.a 86 = τ.a 86) (h115 : R.i 115 = τ.i 115) : BS s σ R g := ⟨hb.1.tr hX, RD.of hb.2.1 h95 h96 h84 h81 h85 h80 h88 h86 (hX.2.2.1 3 (by decide)), h80.trans hb.2.2.1, h115.trans hb.2.2.2⟩
/-- put: the numbers that matter stay -/
theorem BS.put {s σ τ R : RS} {g : Gh} (hb : BS s σ τ g) (hX : RX τ R) (hi : ∀ j : Nat, j ≠ 93 → R.i j = τ.i j) (ha : ∀ k : Nat, k ≠ 94 → R.a k = τ.a k) : BS s σ R g := hb.of hX (hi 95 (by decide)) (ha 96 (by decide)) (ha 84 (by decide)) (hi 81 (by decide)) (hi 85 (by decide)) (hi 80 (by decide)) (ha 88 (by decide)) (ha 86 (by decide)) (hi 115 (by decide))
theorem ST.put {s σ R : RS} {g : Gh} {h h' o : Nat} {rs : List Rec} (hs : ST s σ g h o rs) (e93 : (R.i 93).toInt = h') (hi : ∀ j : Nat, j ≠ 93 → R.i j = σ.i j) (ha : ∀ k : Nat, k ≠ 94 → R.a k = σ.a k) : ST s R g h' o rs := hs.of e93 (hi 97 (by decide)) (hi 95 (by decide)) (hi 99 (by decide)) (fun k9 h1 _ => ha k9 (by omega))
theorem okI_1 {s : RS} {g : Gh} {k : Nat} {c : Ctx} (h : OKI s g k c) (hop : gv s 21 k = 1) : (let x := gv s 22 k; let y := gv s 23 k; let F := fun (z : Int) (h : Nat) => FL s g c.v ((k : Int) + 1) z h c.o c.rs; let n := fun (h : Nat) => FL s g c.v ((k : Int) + 1) ((k : Int) + 1) h c.o c.rs; let N := fun (h o : Nat) (rs : List Rec) => FL s g c.v ((k : Int) + 1) ((k : Int) + 1) h o rs; FS s g ((k : Int) + 1) c.h c.o c.rs) := by
  unfold OKI at h
  rw [hop] at h
  exact h
theorem okI_2 {s : RS} {g : Gh} {k : Nat} {c : Ctx} (h : OKI s g k c) (hop : gv s 21 k = 2) : (let x := gv s 22 k; let y := gv s 23 k; let F := fun (z : Int) (h : Nat) => FL s g c.v ((k : Int) + 1) z h c.o c.rs; let n := fun (h : Nat) => FL s g c.v ((k : Int) + 1) ((k : Int) + 1) h c.o c.rs; let N := fun (h o : Nat) (rs : List Rec) => FL s g c.v ((k : Int) + 1) ((k : Int) + 1) h o rs; FP s g k c.v x (c.h + 1) c.o c.rs) := by
  unfold OKI at h
  rw [hop] at h
  exact h
theorem okI_3 {s : RS} {g : Gh} {k : Nat} {c : Ctx} (h : OKI s g k c) (hop : gv s 21 k = 3) : (let x := gv s 22 k; let y := gv s 23 k; let F := fun (z : Int) (h : Nat) => FL s g c.v ((k : Int) + 1) z h c.o c.rs; let n := fun (h : Nat) => FL s g c.v ((k : Int) + 1) ((k : Int) + 1) h c.o c.rs; let N := fun (h o : Nat) (rs : List Rec) => FL s g c.v ((k : Int) + 1) ((k : Int) + 1) h o rs; slotOK x ∧ n (c.h + 1)) := by
  unfold OKI at h
  rw [hop] at h
  exact h
theorem okI_4 {s : RS} {g : Gh} {k : Nat} {c : Ctx} (h : OKI s g k c) (hop : gv s 21 k = 4) : (let x := gv s 22 k; let y := gv s 23 k; let F := fun (z : Int) (h : Nat) => FL s g c.v ((k : Int) + 1) z h c.o c.rs; let n := fun (h : Nat) => FL s g c.v ((k : Int) + 1) ((k : Int) + 1) h c.o c.rs; let N := fun (h o : Nat) (rs : List Rec) => FL s g c.v ((k : Int) + 1) ((k : Int) + 1) h o rs; slotOK x ∧ g.isC x.toNat = true ∧ n (c.h + 1)) := by
  unfold OKI at h
  rw [hop] at h
  exact h
theorem okI_5 {s : RS} {g : Gh} {k : Nat} {c : Ctx} (h : OKI s g k c) (hop : gv s 21 k = 5) : (let x := gv s 22 k; let y := gv s 23 k; let F := fun (z : Int) (h : Nat) => FL s g c.v ((k : Int) + 1) z h c.o c.rs; let n := fun (h : Nat) => FL s g c.v ((k : Int) + 1) ((k : Int) + 1) h c.o c.rs; let N := fun (h o : Nat) (rs : List Rec) => FL s g c.v ((k : Int) + 1) ((k : Int) + 1) h o rs; slotOK x ∧ g.isC x.toNat = false ∧ 1 ≤ c.h ∧ n (c.h - 1)) := by
  unfold OKI at h
  rw [hop] at h
  exact h
theorem okI_6 {s : RS} {g : Gh} {k : Nat} {c : Ctx} (h : OKI s g k c) (hop : gv s 21 k = 6) : (let x := gv s 22 k; let y := gv s 23 k; let F := fun (z : Int) (h : Nat) => FL s g c.v ((k : Int) + 1) z h c.o c.rs; let n := fun (h : Nat) => FL s g c.v ((k : Int) + 1) ((k : Int) + 1) h c.o c.rs; let N := fun (h o : Nat) (rs : List Rec) => FL s g c.v ((k : Int) + 1) ((k : Int) + 1) h o rs; slotOK x ∧ g.isC x.toNat = false ∧ n c.h) := by
  unfold OKI at h
  rw [hop] at h
  exact h
theorem okI_7 {s : RS} {g : Gh} {k : Nat} {c : Ctx} (h : OKI s g k c) (hop : gv s 21 k = 7) : (let x := gv s 22 k; let y := gv s 23 k; let F := fun (z : Int) (h : Nat) => FL s g c.v ((k : Int) + 1) z h c.o c.rs; let n := fun (h : Nat) => FL s g c.v ((k : Int) + 1) ((k : Int) + 1) h c.o c.rs; let N := fun (h o : Nat) (rs : List Rec) => FL s g c.v ((k : Int) + 1) ((k : Int) + 1) h o rs; 1 ≤ c.h ∧ n c.h) := by
  unfold OKI at h
  rw [hop] at h
  exact h
theorem okI_8 {s : RS} {g : Gh} {k : Nat} {c : Ctx} (h : OKI s g k c) (hop : gv s 21 k = 8) : (let x := gv s 22 k; let y := gv s 23 k; let F := fun (z : Int) (h : Nat) => FL s g c.v ((k : Int) + 1) z h c.o c.rs; let n := fun (h : Nat) => FL s g c.v ((k : Int) + 1) ((k : Int) + 1) h c.o c.rs; let N := fun (h o : Nat) (rs : List Rec) => FL s g c.v ((k : Int) + 1) ((k : Int) + 1) h o rs; 2 ≤ c.h ∧ n (c.h - 1)) := by
  unfold OKI at h
  rw [hop] at h
  exact h
theorem okI_9 {s : RS} {g : Gh} {k : Nat} {c : Ctx} (h : OKI s g k c) (hop : gv s 21 k = 9) : (let x := gv s 22 k; let y := gv s 23 k; let F := fun (z : Int) (h : Nat) => FL s g c.v ((k : Int) + 1) z h c.o c.rs; let n := fun (h : Nat) => FL s g c.v ((k : Int) + 1) ((k : Int) + 1) h c.o c.rs; let N := fun (h o : Nat) (rs : List Rec) => FL s g c.v ((k : Int) + 1) ((k : Int) + 1) h o rs; 2 ≤ c.h ∧ n (c.h - 1)) := by
  unfold OKI at h
  rw [hop] at h
  exact h
theorem okI_10 {s : RS} {g : Gh} {k : Nat} {c : Ctx} (h : OKI s g k c) (hop : gv s 21 k = 10) : (let x := gv s 22 k; let y := gv s 23 k; let F := fun (z : Int) (h : Nat) => FL s g c.v ((k : Int) + 1) z h c.o c.rs; let n := fun (h : Nat) => FL s g c.v ((k : Int) + 1) ((k : Int) + 1) h c.o c.rs; let N := fun (h o : Nat) (rs : List Rec) => FL s g c.v ((k : Int) + 1) ((k : Int) + 1) h o rs; 1 ≤ c.h ∧ n c.h) := by
  unfold OKI at h
  rw [hop] at h
  exact h
theorem okI_11 {s : RS} {g : Gh} {k : Nat} {c : Ctx} (h : OKI s g k c) (hop : gv s 21 k = 11) : (let x := gv s 22 k; let y := gv s 23 k; let F := fun (z : Int) (h : Nat) => FL s g c.v ((k : Int) + 1) z h c.o c.rs; let n := fun (h : Nat) => FL s g c.v ((k : Int) + 1) ((k : Int) + 1) h c.o c.rs; let N := fun (h o : Nat) (rs : List Rec) => FL s g c.v ((k : Int) + 1) ((k : Int) + 1) h o rs; 1 ≤ c.h ∧ F x c.h ∧ n (c.h - 1)) := by
  unfold OKI at h
  rw [hop] at h
  exact h
theorem okI_12 {s : RS} {g : Gh} {k : Nat} {c : Ctx} (h : OKI s g k c) (hop : gv s 21 k = 12) : (let x := gv s 22 k; let y := gv s 23 k; let F := fun (z : Int) (h : Nat) => FL s g c.v ((k : Int) + 1) z h c.o c.rs; let n := fun (h : Nat) => FL s g c.v ((k : Int) + 1) ((k : Int) + 1) h c.o c.rs; let N := fun (h o : Nat) (rs : List Rec) => FL s g c.v ((k : Int) + 1) ((k : Int) + 1) h o rs; 1 ≤ c.h ∧ F x c.h ∧ n (c.h - 1)) := by
  unfold OKI at h
  rw [hop] at h
  exact h
theorem okI_13 {s : RS} {g : Gh} {k : Nat} {c : Ctx} (h : OKI s g k c) (hop : gv s 21 k = 13) : (let x := gv s 22 k; let y := gv s 23 k; let F := fun (z : Int) (h : Nat) => FL s g c.v ((k : Int) + 1) z h c.o c.rs; let n := fun (h : Nat) => FL s g c.v ((k : Int) + 1) ((k : Int) + 1) h c.o c.rs; let N := fun (h o : Nat) (rs : List Rec) => FL s g c.v ((k : Int) + 1) ((k : Int) + 1) h o rs; 1 ≤ c.h ∧ (c.one = false → F x (c.h - 1)) ∧ n (c.h - 1)) := by
  unfold OKI at h
  rw [hop] at h
  exact h
theorem okI_14 {s : RS} {g : Gh} {k : Nat} {c : Ctx} (h : OKI s g k c) (hop : gv s 21 k = 14) : (let x := gv s 22 k; let y := gv s 23 k; let F := fun (z : Int) (h : Nat) => FL s g c.v ((k : Int) + 1) z h c.o c.rs; let n := fun (h : Nat) => FL s g c.v ((k : Int) + 1) ((k : Int) + 1) h c.o c.rs; let N := fun (h o : Nat) (rs : List Rec) => FL s g c.v ((k : Int) + 1) ((k : Int) + 1) h o rs; 1 ≤ c.h ∧ F x (c.h - 1) ∧ (c.one = false → n (c.h - 1))) := by
  unfold OKI at h
  rw [hop] at h
  exact h
theorem okI_15 {s : RS} {g : Gh} {k : Nat} {c : Ctx} (h : OKI s g k c) (hop : gv s 21 k = 15) : (let x := gv s 22 k; let y := gv s 23 k; let F := fun (z : Int) (h : Nat) => FL s g c.v ((k : Int) + 1) z h c.o c.rs; let n := fun (h : Nat) => FL s g c.v ((k : Int) + 1) ((k : Int) + 1) h c.o c.rs; let N := fun (h o : Nat) (rs : List Rec) => FL s g c.v ((k : Int) + 1) ((k : Int) + 1) h o rs; F x c.h) := by
  unfold OKI at h
  rw [hop] at h
  exact h
theorem okI_16 {s : RS} {g : Gh} {k : Nat} {c : Ctx} (h : OKI s g k c) (hop : gv s 21 k = 16) : (let x := gv s 22 k; let y := gv s 23 k; let F := fun (z : Int) (h : Nat) => FL s g c.v ((k : Int) + 1) z h c.o c.rs; let n := fun (h : Nat) => FL s g c.v ((k : Int) + 1) ((k : Int) + 1) h c.o c.rs; let N := fun (h o : Nat) (rs : List Rec) => FL s g c.v ((k : Int) + 1) ((k : Int) + 1) h o rs; 1 ≤ c.h ∧ n (c.h - 1)) := by
  unfold OKI at h
  rw [hop] at h
  exact h
theorem okI_17 {s : RS} {g : Gh} {k : Nat} {c : Ctx} (h : OKI s g k c) (hop : gv s 21 k = 17) : (let x := gv s 22 k; let y := gv s 23 k; let F := fun (z : Int) (h : Nat) => FL s g c.v ((k : Int) + 1) z h c.o c.rs; let n := fun (h : Nat) => FL s g c.v ((k : Int) + 1) ((k : Int) + 1) h c.o c.rs; let N := fun (h o : Nat) (rs : List Rec) => FL s g c.v ((k : Int) + 1) ((k : Int) + 1) h o rs; 1 ≤ c.h) := by
  unfold OKI at h
  rw [hop] at h
  exact h
theorem okI_18 {s : RS} {g : Gh} {k : Nat} {c : Ctx} (h : OKI s g k c) (hop : gv s 21 k = 18) : (let x := gv s 22 k; let y := gv s 23 k; let F := fun (z : Int) (h : Nat) => FL s g c.v ((k : Int) + 1) z h c.o c.rs; let n := fun (h : Nat) => FL s g c.v ((k : Int) + 1) ((k : Int) + 1) h c.o c.rs; let N := fun (h o : Nat) (rs : List Rec) => FL s g c.v ((k : Int) + 1) ((k : Int) + 1) h o rs; 1 ≤ c.h ∧ YOK y c.rs) := by
  unfold OKI at h
  rw [hop] at h
  exact h
theorem okI_19 {s : RS} {g : Gh} {k : Nat} {c : Ctx} (h : OKI s g k c) (hop : gv s 21 k = 19) : (let x := gv s 22 k; let y := gv s 23 k; let F := fun (z : Int) (h : Nat) => FL s g c.v ((k : Int) + 1) z h c.o c.rs; let n := fun (h : Nat) => FL s g c.v ((k : Int) + 1) ((k : Int) + 1) h c.o c.rs; let N := fun (h o : Nat) (rs : List Rec) => FL s g c.v ((k : Int) + 1) ((k : Int) + 1) h o rs; 1 ≤ c.h ∧ x < (s.i 3).toInt) := by
  unfold OKI at h
  rw [hop] at h
  exact h
theorem okI_20 {s : RS} {g : Gh} {k : Nat} {c : Ctx} (h : OKI s g k c) (hop : gv s 21 k = 20) : (let x := gv s 22 k; let y := gv s 23 k; let F := fun (z : Int) (h : Nat) => FL s g c.v ((k : Int) + 1) z h c.o c.rs; let n := fun (h : Nat) => FL s g c.v ((k : Int) + 1) ((k : Int) + 1) h c.o c.rs; let N := fun (h o : Nat) (rs : List Rec) => FL s g c.v ((k : Int) + 1) ((k : Int) + 1) h o rs; x < (s.i 3).toInt) := by
  unfold OKI at h
  rw [hop] at h
  exact h
theorem okI_21 {s : RS} {g : Gh} {k : Nat} {c : Ctx} (h : OKI s g k c) (hop : gv s 21 k = 21) : (let x := gv s 22 k; let y := gv s 23 k; let F := fun (z : Int) (h : Nat) => FL s g c.v ((k : Int) + 1) z h c.o c.rs; let n := fun (h : Nat) => FL s g c.v ((k : Int) + 1) ((k : Int) + 1) h c.o c.rs; let N := fun (h o : Nat) (rs : List Rec) => FL s g c.v ((k : Int) + 1) ((k : Int) + 1) h o rs; slotOK x ∧ g.isC x.toNat = true) := by
  unfold OKI at h
  rw [hop] at h
  exact h
theorem okI_22 {s : RS} {g : Gh} {k : Nat} {c : Ctx} (h : OKI s g k c) (hop : gv s 21 k = 22) : (let x := gv s 22 k; let y := gv s 23 k; let F := fun (z : Int) (h : Nat) => FL s g c.v ((k : Int) + 1) z h c.o c.rs; let n := fun (h : Nat) => FL s g c.v ((k : Int) + 1) ((k : Int) + 1) h c.o c.rs; let N := fun (h o : Nat) (rs : List Rec) => FL s g c.v ((k : Int) + 1) ((k : Int) + 1) h o rs; F x c.h ∧ n c.h) := by
  unfold OKI at h
  rw [hop] at h
  exact h
theorem okI_23 {s : RS} {g : Gh} {k : Nat} {c : Ctx} (h : OKI s g k c) (hop : gv s 21 k = 23) : (let x := gv s 22 k; let y := gv s 23 k; let F := fun (z : Int) (h : Nat) => FL s g c.v ((k : Int) + 1) z h c.o c.rs; let n := fun (h : Nat) => FL s g c.v ((k : Int) + 1) ((k : Int) + 1) h c.o c.rs; let N := fun (h o : Nat) (rs : List Rec) => FL s g c.v ((k : Int) + 1) ((k : Int) + 1) h o rs; 1 ≤ x ∧ x ≤ c.h ∧ (wv c.rs : Int) + x ≤ 450 ∧ N (c.h - x.toNat) c.o ((2, 0, x.toNat, c.h - x.toNat, c.o, c.v, false, false) :: c.rs)) := by
  unfold OKI at h
  rw [hop] at h
  exact h
theorem okI_24 {s : RS} {g : Gh} {k : Nat} {c : Ctx} (h : OKI s g k c) (hop : gv s 21 k = 24) : (let x := gv s 22 k; let y := gv s 23 k; let F := fun (z : Int) (h : Nat) => FL s g c.v ((k : Int) + 1) z h c.o c.rs; let n := fun (h : Nat) => FL s g c.v ((k : Int) + 1) ((k : Int) + 1) h c.o c.rs; let N := fun (h o : Nat) (rs : List Rec) => FL s g c.v ((k : Int) + 1) ((k : Int) + 1) h o rs; slotOK y ∧ g.isC y.toNat = false ∧ F x c.h ∧ FS s g ((k : Int) + 1) c.h c.o c.rs ∧ ∃ (r : Rec) (rs : List Rec), c.rs = r :: rs ∧ r.k = 2) := by
  unfold OKI at h
  rw [hop] at h
  exact h
theorem okI_25 {s : RS} {g : Gh} {k : Nat} {c : Ctx} (h : OKI s g k c) (hop : gv s 21 k = 25) : (let x := gv s 22 k; let y := gv s 23 k; let F := fun (z : Int) (h : Nat) => FL s g c.v ((k : Int) + 1) z h c.o c.rs; let n := fun (h : Nat) => FL s g c.v ((k : Int) + 1) ((k : Int) + 1) h c.o c.rs; let N := fun (h o : Nat) (rs : List Rec) => FL s g c.v ((k : Int) + 1) ((k : Int) + 1) h o rs; ∃ (r : Rec) (rs : List Rec), c.rs = r :: rs ∧ r.k = 2 ∧ N c.h c.o rs) := by
  unfold OKI at h
  rw [hop] at h
  exact h
theorem okI_26 {s : RS} {g : Gh} {k : Nat} {c : Ctx} (h : OKI s g k c) (hop : gv s 21 k = 26) : (let x := gv s 22 k; let y := gv s 23 k; let F := fun (z : Int) (h : Nat) => FL s g c.v ((k : Int) + 1) z h c.o c.rs; let n := fun (h : Nat) => FL s g c.v ((k : Int) + 1) ((k : Int) + 1) h c.o c.rs; let N := fun (h o : Nat) (rs : List Rec) => FL s g c.v ((k : Int) + 1) ((k : Int) + 1) h o rs; 0 ≤ x ∧ x < 8 ∧ N c.h c.o ((1, x.toNat, 0, c.h, c.o, c.v, false, false) :: c.rs)) := by
  unfold OKI at h
  rw [hop] at h
  exact h
theorem okI_27 {s : RS} {g : Gh} {k : Nat} {c : Ctx} (h : OKI s g k c) (hop : gv s 21 k = 27) : (let x := gv s 22 k; let y := gv s 23 k; let F := fun (z : Int) (h : Nat) => FL s g c.v ((k : Int) + 1) z h c.o c.rs; let n := fun (h : Nat) => FL s g c.v ((k : Int) + 1) ((k : Int) + 1) h c.o c.rs; let N := fun (h o : Nat) (rs : List Rec) => FL s g c.v ((k : Int) + 1) ((k : Int) + 1) h o rs; ∃ (r : Rec) (rs : List Rec), c.rs = r :: rs ∧ r.k = 1 ∧ N c.h c.o rs) := by
  unfold OKI at h
  rw [hop] at h
  exact h
theorem okI_28 {s : RS} {g : Gh} {k : Nat} {c : Ctx} (h : OKI s g k c) (hop : gv s 21 k = 28) : (let x := gv s 22 k; let y := gv s 23 k; let F := fun (z : Int) (h : Nat) => FL s g c.v ((k : Int) + 1) z h c.o c.rs; let n := fun (h : Nat) => FL s g c.v ((k : Int) + 1) ((k : Int) + 1) h c.o c.rs; let N := fun (h o : Nat) (rs : List Rec) => FL s g c.v ((k : Int) + 1) ((k : Int) + 1) h o rs; 1 ≤ c.h ∧ x < (s.i 24).toInt ∧ (∀ j : Nat, entryIn s j 500 x → F (gv s 26 j) (c.h - 1)) ∧ (¬ (∃ j : Nat, entryIn s j 500 x ∧ ¬ gv s 28 j = 0) → F y (c.h - 1))) := by
  unfold OKI at h
  rw [hop] at h
  exact h
theorem okI_29 {s : RS} {g : Gh} {k : Nat} {c : Ctx} (h : OKI s g k c) (hop : gv s 21 k = 29) : (let x := gv s 22 k; let y := gv s 23 k; let F := fun (z : Int) (h : Nat) => FL s g c.v ((k : Int) + 1) z h c.o c.rs; let n := fun (h : Nat) => FL s g c.v ((k : Int) + 1) ((k : Int) + 1) h c.o c.rs; let N := fun (h o : Nat) (rs : List Rec) => FL s g c.v ((k : Int) + 1) ((k : Int) + 1) h o rs; 1 ≤ c.h ∧ x < (s.i 24).toInt ∧ (∀ j : Nat, entryIn s j 500 x → FL s g c.v ((k : Int) + 1) (gv s 26 j) (c.h - 1) c.o ((3, k, 0, c.h - 1, c.o, c.v, false, false) :: c.rs)) ∧ ∃ j : Nat, entryIn s j 500 x ∧ ¬ gv s 28 j = 0) := by
  unfold OKI at h
  rw [hop] at h
  exact h
theorem okI_30 {s : RS} {g : Gh} {k : Nat} {c : Ctx} (h : OKI s g k c) (hop : gv s 21 k = 30) : (let x := gv s 22 k; let y := gv s 23 k; let F := fun (z : Int) (h : Nat) => FL s g c.v ((k : Int) + 1) z h c.o c.rs; let n := fun (h : Nat) => FL s g c.v ((k : Int) + 1) ((k : Int) + 1) h c.o c.rs; let N := fun (h o : Nat) (rs : List Rec) => FL s g c.v ((k : Int) + 1) ((k : Int) + 1) h o rs; ∃ (r : Rec) (rs : List Rec), c.rs = r :: rs ∧ r.k = 3 ∧ c.h = r.h + 1) := by
  unfold OKI at h
  rw [hop] at h
  exact h
theorem okI_31 {s : RS} {g : Gh} {k : Nat} {c : Ctx} (h : OKI s g k c) (hop : gv s 21 k = 31) : (let x := gv s 22 k; let y := gv s 23 k; let F := fun (z : Int) (h : Nat) => FL s g c.v ((k : Int) + 1) z h c.o c.rs; let n := fun (h : Nat) => FL s g c.v ((k : Int) + 1) ((k : Int) + 1) h c.o c.rs; let N := fun (h o : Nat) (rs : List Rec) => FL s g c.v ((k : Int) + 1) ((k : Int) + 1) h o rs; 0 ≤ x ∧ x < (s.i 29).toInt ∧ ∃ ps ek : Bool, N c.h c.o ((4, x.toNat, 0, c.h, c.o, c.v, ps, ek) :: c.rs)) := by
  unfold OKI at h
  rw [hop] at h
  exact h
theorem okI_32 {s : RS} {g : Gh} {k : Nat} {c : Ctx} (h : OKI s g k c) (hop : gv s 21 k = 32) : (let x := gv s 22 k; let y := gv s 23 k; let F := fun (z : Int) (h : Nat) => FL s g c.v ((k : Int) + 1) z h c.o c.rs; let n := fun (h : Nat) => FL s g c.v ((k : Int) + 1) ((k : Int) + 1) h c.o c.rs; let N := fun (h o : Nat) (rs : List Rec) => FL s g c.v ((k : Int) + 1) ((k : Int) + 1) h o rs; 0 ≤ x ∧ x < 8 ∧ N c.h (c.o + 1) c.rs) := by
  unfold OKI at h
  rw [hop] at h
  exact h
theorem okI_33 {s : RS} {g : Gh} {k : Nat} {c : Ctx} (h : OKI s g k c) (hop : gv s 21 k = 33) : (let x := gv s 22 k; let y := gv s 23 k; let F := fun (z : Int) (h : Nat) => FL s g c.v ((k : Int) + 1) z h c.o c.rs; let n := fun (h : Nat) => FL s g c.v ((k : Int) + 1) ((k : Int) + 1) h c.o c.rs; let N := fun (h o : Nat) (rs : List Rec) => FL s g c.v ((k : Int) + 1) ((k : Int) + 1) h o rs; ∃ (r : Rec) (rs : List Rec), c.rs = r :: rs ∧ r.k = 4 ∧ r.p = 0 ∧ c.h = r.h ∧ endT s g k c.v r rs) := by
  unfold OKI at h
  rw [hop] at h
  exact h
theorem okI_34 {s : RS} {g : Gh} {k : Nat} {c : Ctx} (h : OKI s g k c) (hop : gv s 21 k = 34) : (let x := gv s 22 k; let y := gv s 23 k; let F := fun (z : Int) (h : Nat) => FL s g c.v ((k : Int) + 1) z h c.o c.rs; let n := fun (h : Nat) => FL s g c.v ((k : Int) + 1) ((k : Int) + 1) h c.o c.rs; let N := fun (h o : Nat) (rs : List Rec) => FL s g c.v ((k : Int) + 1) ((k : Int) + 1) h o rs; ∃ (r : Rec) (rs : List Rec), c.rs = r :: rs ∧ r.k = 4 ∧ r.p = 1 ∧ c.h = r.h ∧ endT s g k c.v r rs) := by
  unfold OKI at h
  rw [hop] at h
  exact h
theorem okI_35 {s : RS} {g : Gh} {k : Nat} {c : Ctx} (h : OKI s g k c) (hop : gv s 21 k = 35) : (let x := gv s 22 k; let y := gv s 23 k; let F := fun (z : Int) (h : Nat) => FL s g c.v ((k : Int) + 1) z h c.o c.rs; let n := fun (h : Nat) => FL s g c.v ((k : Int) + 1) ((k : Int) + 1) h c.o c.rs; let N := fun (h o : Nat) (rs : List Rec) => FL s g c.v ((k : Int) + 1) ((k : Int) + 1) h o rs; ∃ (r : Rec) (rs : List Rec), c.rs = r :: rs ∧ r.k = 4 ∧ r.p = 2 ∧ c.h = r.h ∧ c.v = r.v ∧ r.ps = true ∧ (r.ek = true → N r.h r.o rs)) := by
  unfold OKI at h
  rw [hop] at h
  exact h
theorem okI_36 {s : RS} {g : Gh} {k : Nat} {c : Ctx} (h : OKI s g k c) (hop : gv s 21 k = 36) : (let x := gv s 22 k; let y := gv s 23 k; let F := fun (z : Int) (h : Nat) => FL s g c.v ((k : Int) + 1) z h c.o c.rs; let n := fun (h : Nat) => FL s g c.v ((k : Int) + 1) ((k : Int) + 1) h c.o c.rs; let N := fun (h o : Nat) (rs : List Rec) => FL s g c.v ((k : Int) + 1) ((k : Int) + 1) h o rs; 0 ≤ y ∧ JMP s g c.v ((k : Int) + 1) x y.toNat c.h c.o c.rs) := by
  unfold OKI at h
  rw [hop] at h
  exact h
end
section
theorem okI_range {s : RS} {g : Gh} {k : Nat} {c : Ctx} (h : OKI s g k c) : ∃ m : Nat, 1 ≤ m ∧ m ≤ 36 ∧ gv s 21 k = (m : Int) := by
  by_cases q : 1 ≤ (gv s 21 k).toNat ∧ (gv s 21 k).toNat ≤ 36
  · exact ⟨(gv s 21 k).toNat, q.1, q.2, by omega⟩
  · exfalso
    unfold OKI at h
    generalize (gv s 21 k).toNat = m at h q
    match m, q, h with
    | 0, _, h => exact h
    | n + 37, _, h => exact h
    | 1, q, _ => exact q (by decide)
    | 2, q, _ => exact q (by decide)
    | 3, q, _ => exact q (by decide)
    | 4, q, _ => exact q (by decide)
    | 5, q, _ => exact q (by decide)
    | 6, q, _ => exact q (by decide)
    | 7, q, _ => exact q (by decide)
    | 8, q, _ => exact q (by decide)
    | 9, q, _ => exact q (by decide)
    | 10, q, _ => exact q (by decide)
    | 11, q, _ => exact q (by decide)
    | 12, q, _ => exact q (by decide)
    | 13, q, _ => exact q (by decide)
    | 14, q, _ => exact q (by decide)
    | 15, q, _ => exact q (by decide)
    | 16, q, _ => exact q (by decide)
    | 17, q, _ => exact q (by decide)
    | 18, q, _ => exact q (by decide)
    | 19, q, _ => exact q (by decide)
    | 20, q, _ => exact q (by decide)
    | 21, q, _ => exact q (by decide)
    | 22, q, _ => exact q (by decide)
    | 23, q, _ => exact q (by decide)
    | 24, q, _ => exact q (by decide)
    | 25, q, _ => exact q (by decide)
    | 26, q, _ => exact q (by decide)
    | 27, q, _ => exact q (by decide)
    | 28, q, _ => exact q (by decide)
    | 29, q, _ => exact q (by decide)
    | 30, q, _ => exact q (by decide)
    | 31, q, _ => exact q (by decide)
    | 32, q, _ => exact q (by decide)
    | 33, q, _ => exact q (by decide)
    | 34, q, _ => exact q (by decide)
    | 35, q, _ => exact q (by decide)
    | 36, q, _ => exact q (by decide)
/-- at an instruction -/
def PRE (s σ τ : RS) (g : Gh) (k : Nat) (c : Ctx) (x1 : Int32) : Prop := WT s g ∧ RB s ∧ (k : Int) < cdI s ∧ g.T k c ∧ BS s σ τ g ∧ ST s τ g c.h c.o c.rs ∧ (τ.i 92).toInt = (k : Int) + 1 ∧ x1.toInt = k ∧ (c.one = true → gv τ 94 (c.h - 1) = 1)
theorem PRE.fact {s σ τ : RS} {g : Gh} {k : Nat} {c : Ctx} {x1 : Int32} (h : PRE s σ τ g k c x1) : OKI s g k c ∧ recsOK s g k c.v c.rs ∧ c.h ≤ 1300 ∧ wv c.rs ≤ 450 ∧ oOK c.o c.rs ∧ c.o ≤ 450 ∧ c.rs.length ≤ 250 ∧ c.v ≤ 3000 ∧ (c.one = true → 1 ≤ c.h) := by
  obtain ⟨hW, -, hk, hT, -⟩ := h
  obtain ⟨-, -, -, -, -, -, -, -, w9, -, -⟩ := hW
  exact w9 k c hk hT
theorem PRE.n {s σ τ : RS} {g : Gh} {k : Nat} {c : Ctx} {x1 : Int32} (h : PRE s σ τ g k c x1) : x1.toNatClampNeg = k := by
  obtain ⟨-, -, -, -, -, -, -, e, -⟩ := h
  show x1.toInt.toNat = k
  rw [e]; exact Int.toNat_natCast _
theorem PRE.inb {s σ τ : RS} {g : Gh} {k : Nat} {c : Ctx} {x1 : Int32} (h : PRE s σ τ g k c x1) : ib x1 3000 := by
  obtain ⟨hW, -, hk, -, -, -, -, e, -⟩ := h
  have := hW.1
  exact ⟨by omega, by omega⟩
theorem PRE.g {s σ τ : RS} {g : Gh} {k : Nat} {c : Ctx} {x1 : Int32} (h : PRE s σ τ g k c x1) (a : Nat) (ha : a < 82) : (τ.a a x1.toNatClampNeg).toInt = gv s a k := by
  rw [h.n]
  obtain ⟨-, -, -, -, hb, -⟩ := h
  exact gv_of (hb.1.2.2.2 a ha) k
/-- leave, from here -/
theorem PRE.leave {N : Nat} (hN : 1000 ≤ N) {s σ τ τ' : RS} {g : Gh} {k h h' : Nat} {c : Ctx} {x1 : Int32} (hp : PRE s σ τ g k c x1) (hb : BS s σ τ' g) (hs : ST s τ' g h' c.o c.rs) (ht : TR s τ' g k c.v h c.o c.rs) : ok ((f_X12_leave N τ').bind fun p => some p) (fun R => ACT s σ R g k c.v) := by
  obtain ⟨k1, k2, k3, k4, k5, k6, k7, k8, k9⟩ := hp.fact
  obtain ⟨hW, hB, -⟩ := hp
  obtain ⟨a1, a2, a3, a4, a5, a6⟩ := hs
  unfold f_X12_leave
  refine ok_bind (p_leave hN hW hB N τ' c.o c.rs ⟨hb.1, hb.1.B hB, hb.2.1, a5, k7, a6, k2, a2, a3, a4, k6, k5, ht⟩ (by omega)) (fun R hR => ok_some ?_)
  exact LO.act (hR.of hb.2.2.1 hb.2.2.2)
theorem p_record (N : Nat) (σ : RS) (x1 x2 x3 x4 : Int32) (h0 : 0 ≤ (σ.i 99).toInt) (h1 : (σ.i 99).toInt ≤ 250) : ok (f_X12_record N σ x1 x2 x3 x4) (fun R => RX σ R.2 ∧ (R.2.i 99).toInt = (σ.i 99).toInt + 1 ∧ (∀ j : Nat, j ≠ 99 → R.2.i j = σ.i j) ∧ (∀ k : Nat, k < 100 ∨ 105 ≤ k → R.2.a k = σ.a k) ∧ R.2.a 100 = upd (σ.a 100) (σ.i 99).toNatClampNeg x1 ∧ R.2.a 101 = upd (σ.a 101) (σ.i 99).toNatClampNeg x2 ∧ R.2.a 102 = upd (σ.a 102) (σ.i 99).toNatClampNeg x3 ∧ R.2.a 103 = upd (σ.a 103) (σ.i 99).toNatClampNeg x4 ∧ R.2.a 104 = upd (σ.a 104) (σ.i 99).toNatClampNeg (σ.i 93)) := by
  unfold f_X12_record
  have e1 : (1 : Int32).toInt = 1 := by decide
  refine ok_chk ⟨h0, by omega⟩ (ok_some ⟨?_, ?_, fun j hj => if_neg hj, fun k hk => ?_, rfl, rfl, rfl, rfl, rfl⟩)
  · exact (((((RX.a _ _ _ _ (by decide)).tr (RX.a _ _ _ _ (by decide))).tr (RX.a _ _ _ _ (by decide))).tr (RX.a _ _ _ _ (by decide))).tr (RX.a _ _ _ _ (by decide))).tr (RX.i _ _ _ (by decide))
  · show (σ.i 99 + 1).toInt = _
    rw [toInt_add] <;> rw [e1] <;> omega
  · show (if k = 104 then _ else if k = 103 then _ else if k = 102 then _ else if k = 101 then _ else if k = 100 then _ else σ.a k) = σ.a k
    rw [if_neg (by omega), if_neg (by omega), if_neg (by omega), if_neg (by omega), if_neg (by omega)]
/-- a record more -/
theorem ST.rec {s σ τ R : RS} {g : Gh} {h o : Nat} {rs : List Rec} {r : Rec} (hs : ST s τ g h o rs) (hw : wv (r :: rs) = wv rs) (hk : r.k = 1 ∨ r.k = 3 ∨ r.k = 4 ∧ r.p = 0) (hh : r.h = h) {x1 x2 x3 x4 : Int32} (e1 : x1.toInt = r.k) (e2 : x2.toInt = r.a) (e3 : r.k = 4 → x3.toInt = 0) (e4 : r.k = 4 → 0 ≤ x4.toInt ∧ x4.toInt ≤ r.o)
    (r2 : (R.i 99).toInt = (τ.i 99).toInt + 1) (r3 : ∀ j : Nat, j ≠ 99 → R.i j = τ.i j) (r4 : ∀ k : Nat, k < 100 ∨ 105 ≤ k → R.a k = τ.a k) (a0 : R.a 100 = upd (τ.a 100) (τ.i 99).toNatClampNeg x1) (a1 : R.a 101 = upd (τ.a 101) (τ.i 99).toNatClampNeg x2) (a2 : R.a 102 = upd (τ.a 102) (τ.i 99).toNatClampNeg x3) (a3 : R.a 103 = upd (τ.a 103) (τ.i 99).toNatClampNeg x4) (a4 : R.a 104 = upd (τ.a 104) (τ.i 99).toNatClampNeg (τ.i 93)) : ST s R g h o (r :: rs) := by
  obtain ⟨b1, b2, b3, b4, b5, b6⟩ := hs
  have en : (τ.i 99).toNatClampNeg = rs.length := by
    show (τ.i 99).toInt.toNat = rs.length
    rw [b5]; exact Int.toNat_natCast _
  rw [en] at a0 a1 a2 a3 a4
  have other : ∀ i : Nat, i < rs.length → ∀ k9 : Nat, 100 ≤ k9 → k9 ≤ 109 → gv R k9 i = gv τ k9 i := by
    intro i hi k9 h1 h2
    have hne : ¬ i = rs.length := by omega
    by_cases c : 105 ≤ k9
    · exact gv_of (r4 k9 (Or.inr c)) i
    · rcases (show k9 = 100 ∨ k9 = 101 ∨ k9 = 102 ∨ k9 = 103 ∨ k9 = 104 by omega) with rfl | rfl | rfl | rfl | rfl
      · rw [gv_upd a0, if_neg hne]; rfl
      · rw [gv_upd a1, if_neg hne]; rfl
      · rw [gv_upd a2, if_neg hne]; rfl
      · rw [gv_upd a3, if_neg hne]; rfl
      · rw [gv_upd a4, if_neg hne]; rfl
  refine ⟨by rw [r3 93 (by decide)]; exact b1, by rw [r3 97 (by decide), hw]; exact b2, by rw [r3 95 (by decide)]; exact b3, by rw [r3 95 (by decide)]; exact b4, by rw [r2, b5]; rfl, ⟨?_, ?_, ?_, ?_, ?_, ?_⟩, RM.of (σ := τ) other b6⟩
  · rw [gv_upd a0, if_pos rfl]; exact e1
  · rw [gv_upd a4, if_pos rfl, b1, hh]
  · intro _; rw [gv_upd a1, if_pos rfl]; exact e2
  · intro q; rcases hk with h9 | h9 | h9
    · rw [h9] at q; exact absurd q (by decide)
    · rw [h9] at q; exact absurd q (by decide)
    · rw [h9.1] at q; exact absurd q (by decide)
  · intro _; rw [gv_upd a1, if_pos rfl]; exact e2
  · intro q
    have hp : r.p = 0 := by
      rcases hk with h9 | h9 | h9
      · rw [h9] at q; exact absurd q (by decide)
      · rw [h9] at q; exact absurd q (by decide)
      · exact h9.2
    refine ⟨by rw [gv_upd a1, if_pos rfl]; exact e2, by rw [gv_upd a2, if_pos rfl, e3 q, hp]; rfl, ?_, ?_, fun z => by rw [hp] at z; exact absurd z (by decide)⟩
    · rw [gv_upd a3, if_pos rfl]; exact (e4 q).1
    · rw [gv_upd a3, if_pos rfl]; exact (e4 q).2
theorem BS.rec {s σ τ R : RS} {g : Gh} (hb : BS s σ τ g) (hX : RX τ R) (r3 : ∀ j : Nat, j ≠ 99 → R.i j = τ.i j) (r4 : ∀ k : Nat, k < 100 ∨ 105 ≤ k → R.a k = τ.a k) : BS s σ R g := hb.of hX (r3 95 (by decide)) (r4 96 (by omega)) (r4 84 (by omega)) (r3 81 (by decide)) (r3 85 (by decide)) (r3 80 (by decide)) (r4 88 (by omega)) (r4 86 (by omega)) (r3 115 (by decide))
theorem BS.row {s σ τ R : RS} {g : Gh} (hb : BS s σ τ g) (hX : RX τ R) (h0 : 0 ≤ R.i 81) (h1 : R.i 81 ≤ 200) (r3 : ∀ j : Nat, j ≠ 81 → R.i j = τ.i j) (r4 : ∀ k : Nat, k ≠ 82 → k ≠ 83 → R.a k = τ.a k) : BS s σ R g := by
  obtain ⟨b1, b2, b3, b4⟩ := hb
  obtain ⟨E1, E2, E3, E4, E5, E6, E7⟩ := b2
  refine ⟨b1.tr hX, ⟨fun j h2 h3 => ?_, fun y h2 h3 => ?_, ⟨h0, h1⟩, ?_, ?_, fun t h2 => ?_, fun t h2 => ?_⟩, (r3 80 (by decide)).trans b3, (r3 115 (by decide)).trans b4⟩
  · rw [gv_of (r4 96 (by decide) (by decide))]; rw [r3 95 (by decide)] at h3; exact E1 j h2 h3
  · rw [gv_of (r4 84 (by decide) (by decide))]; exact E2 y h2 h3
  · rw [r3 85 (by decide)]; exact E4
  · rw [r3 80 (by decide)]; exact E5
  · rw [gv_of (r4 88 (by decide) (by decide))]; exact E6 t h2
  · rw [gv_of (r4 86 (by decide) (by decide)), r3 3 (by decide)]; exact E7 t h2
theorem ST.row {s σ R : RS} {g : Gh} {h o : Nat} {rs : List Rec} (hs : ST s σ g h o rs) (r3 : ∀ j : Nat, j ≠ 81 → R.i j = σ.i j) (r4 : ∀ k : Nat, k ≠ 82 → k ≠ 83 → R.a k = σ.a k) : ST s R g h o rs := hs.of (by rw [r3 93 (by decide)]; exact hs.1) (r3 97 (by decide)) (r3 95 (by decide)) (r3 99 (by decide)) (fun k9 h1 _ => r4 k9 (by omega) (by omega))
/-- raise, then leave -/
theorem PRE.raise {N : Nat} (hN : 1000 ≤ N) {s σ τ τ' : RS} {g : Gh} {k h' : Nat} {c : Ctx} {x1 : Int32} (hp : PRE s σ τ g k c x1) (hb : BS s σ τ' g) (hs : ST s τ' g h' c.o c.rs) {x y : Int32} (hx : x.toInt < (s.i 3).toInt) : ok ((f_X12_raise N τ' x y).bind fun p => (f_X12_leave N p).bind fun q => some q) (fun R => ACT s σ R g k c.v) := by
  obtain ⟨b1, b2, b3, b4⟩ := hb
  obtain ⟨E1, E2, E3, E4, E5, E6, E7⟩ := b2
  refine ok_bind (p_raise N τ' x y E4.1 E4.2) (fun q hq => ?_)
  obtain ⟨a1, a2, a3, a4, a5, a6, a7, a8, a9, a10⟩ := hq
  have hq3 : q.i 3 = τ'.i 3 := a7 3 (by decide) (by decide) (by decide)
  have h3s : τ'.i 3 = s.i 3 := b1.2.2.1 3 (by decide)
  refine hp.leave hN (h := 0) (h' := h') ⟨b1.tr a1, ⟨fun j h2 h3 => ?_, fun y h2 h3 => ?_, ?_, ⟨a5, a6⟩, ?_, fun t h2 => ?_, fun t h2 => ?_⟩, (a7 80 (by decide) (by decide) (by decide)).trans b3, (a7 115 (by decide) (by decide) (by decide)).trans b4⟩ (hs.of (by rw [a7 93 (by decide) (by decide) (by decide)]; exact hs.1) (a7 97 (by decide) (by decide) (by decide)) (a7 95 (by decide) (by decide) (by decide)) (a7 99 (by decide) (by decide) (by decide)) (fun k9 h1 _ => a8 k9 (by omega) (by omega) (by omega))) (Or.inr (Or.inr (Or.inl ⟨a2, a3, a4⟩)))
  · rw [gv_of (a8 96 (by decide) (by decide) (by decide))]
    rw [a7 95 (by decide) (by decide) (by decide)] at h3
    exact E1 j h2 h3
  · rw [gv_of (a8 84 (by decide) (by decide) (by decide))]; exact E2 y h2 h3
  · rw [a7 81 (by decide) (by decide) (by decide)]; exact E3
  · rw [a7 80 (by decide) (by decide) (by decide)]; exact E5
  · rw [gv_upd a10]
    by_cases w : t = (q.i 114).toNatClampNeg
    · rw [if_pos w, z_t0]; decide
    · rw [if_neg w]; exact E6 t h2
  · rw [gv_upd a9, hq3]
    by_cases w : t = (q.i 114).toNatClampNeg
    · rw [if_pos w, h3s]; exact hx
    · rw [if_neg w]; exact E7 t h2
end
section
theorem ok_neg {α : Type} {c : Prop} [Decidable c] {x y : Option α} {P : α → Prop} (h : ¬ c) (h1 : ok y P) : ok (if c then x else y) P := by rw [if_neg h]; exact h1
theorem ok_pos {α : Type} {c : Prop} [Decidable c] {x y : Option α} {P : α → Prop} (h : c) (h1 : ok x P) : ok (if c then x else y) P := by rw [if_pos h]; exact h1
/-- the op is m: other tests fail -/
theorem PRE.ne {s σ τ : RS} {g : Gh} {k : Nat} {c : Ctx} {x1 : Int32} (h : PRE s σ τ g k c x1) {m : Int} (hm : gv s 21 k = m) {n : Int32} {z : Int} (hn : n.toInt = z) (hz : m ≠ z) : ¬ τ.a 21 x1.toNatClampNeg = n := neI ((h.g 21 (by decide)).trans hm) hn hz
theorem PRE.eq {s σ τ : RS} {g : Gh} {k : Nat} {c : Ctx} {x1 : Int32} (h : PRE s σ τ g k c x1) {m : Int} (hm : gv s 21 k = m) {n : Int32} (hn : n.toInt = m) : τ.a 21 x1.toNatClampNeg = n := eqI ((h.g 21 (by decide)).trans hm) hn
/-- the row's values move -/
theorem p_o85 (N : Nat) {τ0 : RS} {x2 x4 : Int32} {rs : List Rec} {h : Nat} (hx1 : 1 ≤ x2.toInt) (hxh : x2.toInt ≤ h) (hh : h ≤ 1300) (hw : (wv rs : Int) + x2.toInt ≤ 450) (hl : rs.length ≤ 250) {P : RS → Prop}
    (fin : ∀ R : RS, RX τ0 R → (∀ j : Nat, j ≠ 93 → j ≠ 97 → j ≠ 99 → R.i j = τ0.i j) → (R.i 93).toInt = h - x2.toInt → (R.i 97).toInt = wv rs + x2.toInt → (R.i 99).toInt = (τ0.i 99).toInt + 1 → (∀ k : Nat, k ≠ 98 → k < 100 ∨ 105 ≤ k → R.a k = τ0.a k) → R.a 100 = upd (τ0.a 100) (τ0.i 99).toNatClampNeg 2 → R.a 101 = upd (τ0.a 101) (τ0.i 99).toNatClampNeg x4 → R.a 102 = upd (τ0.a 102) (τ0.i 99).toNatClampNeg x4 → (∃ y : Int32, y.toInt = wv rs + x2.toInt ∧ R.a 103 = upd (τ0.a 103) (τ0.i 99).toNatClampNeg y) → (∃ y : Int32, y.toInt = h - x2.toInt ∧ R.a 104 = upd (τ0.a 104) (τ0.i 99).toNatClampNeg y) → P R)
    (h93 : (τ0.i 93).toInt = h) (h99 : (τ0.i 99).toInt = rs.length) :
    ∀ (n : Nat) (τ : RS) (i : Int32), 0 ≤ i.toInt → i.toInt ≤ x2.toInt → RX τ0 τ → (∀ j : Nat, j ≠ 97 → τ.i j = τ0.i j) → (∀ k : Nat, k ≠ 98 → τ.a k = τ0.a k) → (τ.i 97).toInt = wv rs + i.toInt → x2.toInt - i.toInt < n → ok (f_X12_others_85 N n τ x2 x4 i) P
  | 0, τ, i, h0, h1, _, _, _, _, hn => by omega
  | n+1, τ, i, h0, h1, hX, hi, ha, h97, hn => by
    show ok (b_X12_others_85 N (f_X12_others_85 N n) τ x2 x4 i) P
    unfold b_X12_others_85
    have e1 : (1 : Int32).toInt = 1 := by decide
    have t93 : (τ.i 93).toInt = h := by rw [hi 93 (by decide)]; exact h93
    have t99 : τ.i 99 = τ0.i 99 := hi 99 (by decide)
    have es : (τ.i 93 - x2).toInt = h - x2.toInt := by rw [toInt_sub] <;> omega
    refine ok_ite (fun c => ?_) (fun c => ?_)
    · have hix : i.toInt = x2.toInt := by have := le_int c; omega
      refine ok_bind (p_record N (τ.setI 93 (τ.i 93 - x2)) 2 x4 x4 (τ.i 97) (by show 0 ≤ (τ.i 99).toInt; rw [t99]; omega) (by show (τ.i 99).toInt ≤ 250; rw [t99]; omega)) (fun p hp => ok_some ?_)
      obtain ⟨r1, r2, r3, r4, a0, a1, a2, a3, a4⟩ := hp
      have u99 : (τ.setI 93 (τ.i 93 - x2)).i 99 = τ0.i 99 := t99
      rw [u99] at r2 a0 a1 a2 a3 a4
      have ua : ∀ k : Nat, k ≠ 98 → (τ.setI 93 (τ.i 93 - x2)).a k = τ0.a k := ha
      rw [ua 100 (by decide)] at a0
      rw [ua 101 (by decide)] at a1
      rw [ua 102 (by decide)] at a2
      rw [ua 103 (by decide)] at a3
      rw [ua 104 (by decide)] at a4
      refine fin p.2 ((hX.tr (RX.i _ _ _ (by decide))).tr r1) (fun j d1 d2 d3 => ?_) ?_ ?_ r2 (fun k d1 d2 => (r4 k d2).trans (ua k d1)) a0 a1 a2 ⟨τ.i 97, by rw [h97, hix], a3⟩ ⟨τ.i 93 - x2, es, a4⟩
      · rw [r3 j d3]
        show (if j = 93 then _ else τ.i j) = _
        rw [if_neg d1]; exact hi j d2
      · rw [r3 93 (by decide)]; exact es
      · rw [r3 97 (by decide)]
        show (τ.i 97).toInt = _
        rw [h97, hix]
    · have hlt := lt_int (Int32.not_le.mp c)
      have ea : (τ.i 93 - x2 + i).toInt = h - x2.toInt + i.toInt := by rw [toInt_add] <;> rw [es] <;> omega
      have ei : (i + 1).toInt = i.toInt + 1 := by rw [toInt_add] <;> rw [e1] <;> omega
      have e97 : (τ.i 97 + 1).toInt = (τ.i 97).toInt + 1 := by rw [toInt_add] <;> rw [e1] <;> omega
      refine ok_chk ⟨by omega, by omega⟩ (ok_chk ⟨by omega, by omega⟩ ?_)
      refine p_o85 N hx1 hxh hh hw hl fin h93 h99 n _ (i + 1) (by omega) (by omega) ((hX.tr (RX.a _ _ _ _ (by decide))).tr (RX.i _ _ _ (by decide))) (fun j d1 => (if_neg d1).trans (hi j d1)) (fun k d1 => (if_neg d1).trans (ha k d1)) ?_ (by omega)
      show (τ.i 97 + 1).toInt = _
      omega
theorem p_o23 {N : Nat} (hN : 1000 ≤ N) {s σ τ : RS} {g : Gh} {k : Nat} {c : Ctx} {x1 x2 : Int32} (hp : PRE s σ τ g k c x1) (hx2 : x2.toInt = gv s 22 k) (hm : gv s 21 k = 23) : ok (f_X12_others N τ x1 x2) (fun R => ACT s σ R g k c.v) := by
  obtain ⟨k1, k2, k3, k4, k5, k6, k7, k8, k9⟩ := hp.fact
  obtain ⟨q1, q2, q3, q4⟩ := okI_23 k1 hm
  have hp0 := hp
  obtain ⟨hW, hB, hk, hT, hb, hs, hpc, hx1, hone⟩ := hp
  obtain ⟨s1, s2, s3, s4, s5, s6⟩ := hs
  unfold f_X12_others
  refine ok_chk hp0.inb (ok_ite (fun _ => ?_) (fun q => absurd (hp0.eq hm (by decide)) q))
  rw [← hx2] at q1 q2 q3 q4
  have en : (τ.i 99).toNatClampNeg = c.rs.length := by
    show (τ.i 99).toInt.toNat = c.rs.length
    rw [s5]; exact Int.toNat_natCast _
  have e2 : (2 : Int32).toInt = 2 := by decide
  refine p_o85 N (τ0 := τ) (rs := c.rs) (h := c.h) q1 q2 k3 q3 k7 (fun R b1 b2 b3 b4 b5 b6 a0 a1 a2 a3 a4 => ?_) s1 s5 N τ 0 (by rw [z_t0]; omega) (by rw [z_t0]; omega) (RX.rf _) (fun _ _ => rfl) (fun _ _ => rfl) (by rw [z_t0, s2]; omega) (by rw [z_t0]; omega)
  obtain ⟨y3, y3e, a3⟩ := a3
  obtain ⟨y4, y4e, a4⟩ := a4
  rw [en] at a0 a1 a2 a3 a4
  have hbR : BS s σ R g := hb.of b1 (b2 95 (by decide) (by decide) (by decide)) (b6 96 (by decide) (by omega)) (b6 84 (by decide) (by omega)) (b2 81 (by decide) (by decide) (by decide)) (b2 85 (by decide) (by decide) (by decide)) (b2 80 (by decide) (by decide) (by decide)) (b6 88 (by decide) (by omega)) (b6 86 (by decide) (by omega)) (b2 115 (by decide) (by decide) (by decide))
  refine act_FL hB hbR q4 (by rw [b2 92 (by decide) (by decide) (by decide)]; exact hpc) ?_
  have other : ∀ i : Nat, i < c.rs.length → ∀ k9 : Nat, 100 ≤ k9 → k9 ≤ 109 → gv R k9 i = gv τ k9 i := by
    intro i hi k9 h1 h2
    have hne : ¬ i = c.rs.length := by omega
    by_cases cc : 105 ≤ k9
    · exact gv_of (b6 k9 (by omega) (Or.inr cc)) i
    · rcases (show k9 = 100 ∨ k9 = 101 ∨ k9 = 102 ∨ k9 = 103 ∨ k9 = 104 by omega) with rfl | rfl | rfl | rfl | rfl
      · rw [gv_upd a0, if_neg hne]; rfl
      · rw [gv_upd a1, if_neg hne]; rfl
      · rw [gv_upd a2, if_neg hne]; rfl
      · rw [gv_upd a3, if_neg hne]; rfl
      · rw [gv_upd a4, if_neg hne]; rfl
  have hwv : wv ((2, 0, x2.toInt.toNat, c.h - x2.toInt.toNat, c.o, c.v, false, false) :: c.rs) = x2.toInt.toNat + wv c.rs := by
    unfold wv
    rw [if_pos (show Rec.k (2, 0, x2.toInt.toNat, c.h - x2.toInt.toNat, c.o, c.v, false, false) = 2 from rfl)]
    congr 1
    cases c.rs <;> rfl
  refine ⟨by rw [b3]; omega, by rw [b4, hwv]; omega, by rw [b2 95 (by decide) (by decide) (by decide)]; exact s3, by rw [b2 95 (by decide) (by decide) (by decide)]; exact s4, by rw [b5, s5]; rfl, ⟨?_, ?_, ?_, ?_, ?_, ?_⟩, RM.of (σ := τ) other s6⟩
  · rw [gv_upd a0, if_pos rfl]; exact e2
  · rw [gv_upd a4, if_pos rfl, y4e]
    show _ = ((c.h - x2.toInt.toNat : Nat) : Int)
    omega
  · intro q; exact absurd q (by show ¬ (2 : Nat) = 1; decide)
  · intro _
    refine ⟨by rw [gv_upd a1, if_pos rfl]; exact s2, by rw [gv_upd a2, if_pos rfl, s2]; exact Int.le_refl _, ?_, ?_⟩
    · rw [gv_upd a2, if_pos rfl, gv_upd a3, if_pos rfl, y3e, s2]; omega
    · rw [gv_upd a3, if_pos rfl, y3e]
      show _ = (wv c.rs : Int) + (x2.toInt.toNat : Nat)
      omega
  · intro q; exact absurd q (by show ¬ (2 : Nat) = 3; decide)
  · intro q; exact absurd q (by show ¬ (2 : Nat) = 4; decide)
theorem p_o24 {N : Nat} {s σ τ : RS} {g : Gh} {k : Nat} {c : Ctx} {x1 x2 : Int32} (hp : PRE s σ τ g k c x1) (hx2 : x2.toInt = gv s 22 k) (hm : gv s 21 k = 24) : ok (f_X12_others N τ x1 x2) (fun R => ACT s σ R g k c.v) := by
  obtain ⟨k1, k2, k3, k4, k5, k6, k7, k8, k9⟩ := hp.fact
  obtain ⟨q1, q2, q3, q4, r, rs, q5, q6⟩ := okI_24 k1 hm
  have hp0 := hp
  obtain ⟨hW, hB, hk, hT, hb, hs, hpc, hx1, hone⟩ := hp
  have hs0 := hs
  obtain ⟨s1, s2, s3, s4, s5, s6⟩ := hs
  rw [q5] at s5 s6 k7 s2
  have k4' := k4
  rw [q5] at k4'
  have s5 : (τ.i 99).toInt = (rs.length : Int) + 1 := s5
  have k7 : rs.length + 1 ≤ 250 := k7
  have hx := sub1 s5 (by omega)
  have en : (τ.i 99 - 1).toNatClampNeg = rs.length := by
    show (τ.i 99 - 1).toInt.toNat = rs.length
    rw [hx]; exact Int.toNat_natCast _
  obtain ⟨n1, n2, n3, n4, n5, n6⟩ := s6.1
  obtain ⟨w1, w2, w3, w4⟩ := n4 q6
  have hwv : wv (r :: rs) = r.p + wv rs := by
    unfold wv; rw [if_pos q6]; congr 1; cases rs <;> rfl
  unfold f_X12_others
  refine ok_chk hp0.inb (ok_ite (fun q => absurd q (hp0.ne hm (z := 23) (by decide) (by decide))) (fun _ => ok_ite (fun _ => ?_) (fun q => absurd (hp0.eq hm (by decide)) q)))
  refine ok_chk ⟨by omega, by omega⟩ (ok_ite (fun cc => ok_some ?_) (fun cc => ?_))
  · refine act_FL hB (hb.of (RX.i _ _ _ (by decide)) rfl rfl rfl rfl rfl rfl rfl rfl rfl) q3 (show x2.toInt = _ from hx2) (hs0.of s1 rfl rfl rfl (fun _ _ _ => rfl))
  · have hne : gv τ 102 rs.length ≠ gv τ 103 rs.length := by
      intro q
      refine cc (Int32.toInt_inj.mp ?_)
      rw [en]; exact q
    have hD := hb.2.1
    refine ok_bind (p_step N τ hD.2.2.2.2.1.1 hD.2.2.2.2.1.2) (fun p hp9 => ?_)
    obtain ⟨a1, a2, a3⟩ := hp9
    have ey : (p.a 23 x1.toNatClampNeg).toInt = gv s 23 k := by rw [a2]; exact hp0.g 23 (by decide)
    have e102 : (p.a 102 (τ.i 99 - 1).toNatClampNeg).toInt = gv τ 102 rs.length := by rw [a2, en]; rfl
    refine ok_chk ⟨by rw [e102]; omega, by rw [e102]; omega⟩ (ok_chk ⟨by rw [ey]; exact q1.1, by rw [ey]; exact q1.2⟩ (ok_some ?_))
    have hXp : RX s p := hb.1.tr a1
    -- the state that comes out
    generalize hR : (p.setA 84 (p.a 23 x1.toNatClampNeg).toNatClampNeg (p.a 98 (p.a 102 (τ.i 99 - 1).toNatClampNeg).toNatClampNeg)).setA 102 (τ.i 99 - 1).toNatClampNeg (p.a 102 (τ.i 99 - 1).toNatClampNeg + 1) = R
    have hi : ∀ j : Nat, R.i j = p.i j := fun j => by rw [← hR]; rfl
    have ha : ∀ j : Nat, j ≠ 84 → j ≠ 102 → R.a j = τ.a j := fun j d1 d2 => by
      rw [← hR, ← a2]
      show (if j = 102 then _ else if j = 84 then _ else p.a j) = p.a j
      rw [if_neg d2, if_neg d1]
    have h84 : R.a 84 = upd (τ.a 84) (p.a 23 x1.toNatClampNeg).toNatClampNeg (p.a 98 (p.a 102 (τ.i 99 - 1).toNatClampNeg).toNatClampNeg) := by rw [← hR, ← a2]; rfl
    have h102 : R.a 102 = upd (τ.a 102) rs.length (p.a 102 (τ.i 99 - 1).toNatClampNeg + 1) := by rw [← hR, ← a2, ← en]; rfl
    have hXR : RX s R := by rw [← hR]; exact hXp.tr ((RX.a _ _ _ _ (by decide)).tr (RX.a _ _ _ _ (by decide)))
    have eyn : (p.a 23 x1.toNatClampNeg).toNatClampNeg = (gv s 23 k).toNat := by
      show (p.a 23 x1.toNatClampNeg).toInt.toNat = _
      rw [ey]
    have e1 : (1 : Int32).toInt = 1 := by decide
    have e1' : (p.a 102 (τ.i 99 - 1).toNatClampNeg + 1).toInt = gv τ 102 rs.length + 1 := by rw [toInt_add] <;> rw [e102, e1] <;> omega
    have hRM : RM s R g (r :: rs) := by
      refine ⟨⟨by rw [gv_of (ha 100 (by decide) (by decide))]; exact n1, by rw [gv_of (ha 104 (by decide) (by decide))]; exact n2, fun z => absurd z (by rw [q6]; decide), fun _ => ⟨by rw [gv_of (ha 101 (by decide) (by decide))]; exact w1, ?_, ?_, by rw [gv_of (ha 103 (by decide) (by decide))]; exact w4⟩, fun z => absurd z (by rw [q6]; decide), fun z => absurd z (by rw [q6]; decide)⟩, RM.of (σ := τ) (fun i hi9 k9 d1 d2 => ?_) s6.2⟩
      · rw [gv_upd h102, if_pos rfl, e1']; omega
      · rw [gv_upd h102, if_pos rfl, e1', gv_of (ha 103 (by decide) (by decide))]; omega
      · by_cases z : k9 = 102
        · subst z; rw [gv_upd h102, if_neg (by omega)]; rfl
        · exact gv_of (ha k9 (by omega) z) i
    have hRD : 0 ≤ R.i 80 ∧ R.i 80 ≤ 1000 → (∀ j : Nat, j ≠ 80 → j ≠ 92 → j ≠ 115 → R.i j = τ.i j) → RD R g := by
      intro g80 gi
      obtain ⟨E1, E2, E3, E4, E5, E6, E7⟩ := hD
      refine ⟨fun j h2 h3 => ?_, fun y h2 h3 => ?_, ?_, ?_, g80, fun t h2 => ?_, fun t h2 => ?_⟩
      · rw [gv_of (ha 96 (by decide) (by decide))]; rw [gi 95 (by decide) (by decide) (by decide)] at h3; exact E1 j h2 h3
      · rw [gv_upd h84]
        by_cases w : y = (p.a 23 x1.toNatClampNeg).toNatClampNeg
        · rw [eyn] at w
          rw [w] at h3
          exact absurd (h3.symm.trans q2) (by decide)
        · rw [if_neg w]; exact E2 y h2 h3
      · rw [gi 81 (by decide) (by decide) (by decide)]; exact E3
      · rw [gi 85 (by decide) (by decide) (by decide)]; exact E4
      · rw [gv_of (ha 88 (by decide) (by decide))]; exact E6 t h2
      · rw [gv_of (ha 86 (by decide) (by decide)), gi 3 (by decide) (by decide) (by decide)]; exact E7 t h2
    rcases a3 with ⟨b1, b2, b3, b4⟩ | ⟨b1, b2, b3, b4⟩
    · have gi : ∀ j : Nat, j ≠ 80 → j ≠ 92 → j ≠ 115 → R.i j = τ.i j := fun j _ d2 d3 => (hi j).trans (b4 j d2 d3)
      have h80 : R.i 80 = τ.i 80 := (hi 80).trans b2
      refine ⟨hXR, hXR.B hB, hRD (by rw [h80]; exact hD.2.2.2.2.1) gi, Or.inl ⟨h80.trans hb.2.2.1, Or.inl ?_⟩, Or.inr ⟨by rw [hi 92, b1]; decide, fun z => ?_⟩⟩
      · rw [hi 92, b1]; decide
      · rw [hi 115, b3] at z; exact absurd z (by decide)
    · have gi : ∀ j : Nat, j ≠ 80 → j ≠ 92 → j ≠ 115 → R.i j = τ.i j := fun j d1 _ _ => (hi j).trans (b4 j d1)
      refine ⟨hXR, hXR.B hB, hRD (by rw [hi 80]; exact ⟨b2, b3⟩) gi, Or.inr ⟨?_, ?_⟩, Or.inl ?_⟩
      · rw [hi 80, b1, hb.2.2.1]
      · refine out_FS q4 (by rw [hi 92, b4 92 (by decide)]; exact hpc) ?_
        refine ⟨by rw [gi 93 (by decide) (by decide) (by decide)]; exact s1, by rw [gi 97 (by decide) (by decide) (by decide), q5]; exact s2, by rw [gi 95 (by decide) (by decide) (by decide)]; exact s3, by rw [gi 95 (by decide) (by decide) (by decide)]; exact s4, by rw [gi 99 (by decide) (by decide) (by decide), q5]; exact s5, by rw [q5]; exact hRM⟩
      · rw [hi 115, b4 115 (by decide)]; exact hb.2.2.2
theorem p_o25 {N : Nat} {s σ τ : RS} {g : Gh} {k : Nat} {c : Ctx} {x1 x2 : Int32} (hp : PRE s σ τ g k c x1) (hm : gv s 21 k = 25) : ok (f_X12_others N τ x1 x2) (fun R => ACT s σ R g k c.v) := by
  obtain ⟨k1, k2, k3, k4, k5, k6, k7, k8, k9⟩ := hp.fact
  obtain ⟨r, rs, q5, q6, q7⟩ := okI_25 k1 hm
  have hp0 := hp
  obtain ⟨hW, hB, hk, hT, hb, hs, hpc, hx1, hone⟩ := hp
  obtain ⟨s1, s2, s3, s4, s5, s6⟩ := hs
  rw [q5] at s5 s6 k7
  have s5 : (τ.i 99).toInt = (rs.length : Int) + 1 := s5
  have k7 : rs.length + 1 ≤ 250 := k7
  have hx := sub1 s5 (by omega)
  have en : (τ.i 99 - 1).toNatClampNeg = rs.length := by
    show (τ.i 99 - 1).toInt.toNat = rs.length
    rw [hx]; exact Int.toNat_natCast _
  unfold f_X12_others
  refine ok_chk hp0.inb (ok_ite (fun q => absurd q (hp0.ne hm (z := 23) (by decide) (by decide))) (fun _ => ok_ite (fun q => absurd q (hp0.ne hm (z := 24) (by decide) (by decide))) (fun _ => ok_ite (fun _ => ?_) (fun q => absurd (hp0.eq hm (by decide)) q))))
  refine ok_chk ⟨by omega, by omega⟩ (ok_some ?_)
  refine act_FL hB (hb.of ((RX.i _ _ _ (by decide)).tr (RX.i _ _ _ (by decide))) rfl rfl rfl rfl rfl rfl rfl rfl rfl) q7 hpc ⟨s1, ?_, s3, s4, hx, RM.of (σ := τ) (fun _ _ _ _ _ => rfl) s6.2⟩
  show (τ.a 101 (τ.i 99 - 1).toNatClampNeg).toInt = _
  rw [en]; exact (s6.1.2.2.2.1 q6).1
theorem p_o31 {N : Nat} {s σ τ : RS} {g : Gh} {k : Nat} {c : Ctx} {x1 x2 : Int32} (hp : PRE s σ τ g k c x1) (hx2 : x2.toInt = gv s 22 k) (hm : gv s 21 k = 31) : ok (f_X12_others N τ x1 x2) (fun R => ACT s σ R g k c.v) := by
  obtain ⟨k1, k2, k3, k4, k5, k6, k7, k8, k9⟩ := hp.fact
  obtain ⟨q1, q2, ps, ek, q3⟩ := okI_31 k1 hm
  have hp0 := hp
  obtain ⟨hW, hB, hk, hT, hb, hs, hpc, hx1, hone⟩ := hp
  unfold f_X12_others
  refine ok_chk hp0.inb ?_
  refine ok_ite (fun q => absurd q (hp0.ne hm (z := 23) (by decide) (by decide))) (fun _ => ok_ite (fun q => absurd q (hp0.ne hm (z := 24) (by decide) (by decide))) (fun _ => ok_ite (fun q => absurd q (hp0.ne hm (z := 25) (by decide) (by decide))) (fun _ => ok_ite (fun q => absurd q (hp0.ne hm (z := 26) (by decide) (by decide))) (fun _ => ok_ite (fun q => absurd q (hp0.ne hm (z := 27) (by decide) (by decide))) (fun _ => ok_ite (fun q => absurd q (hp0.ne hm (z := 28) (by decide) (by decide))) (fun _ => ok_ite (fun q => absurd q (hp0.ne hm (z := 29) (by decide) (by decide))) (fun _ => ok_ite (fun q => absurd q (hp0.ne hm (z := 30) (by decide) (by decide))) (fun _ => ok_ite (fun _ => ?_) (fun q => absurd (hp0.eq hm (by decide)) q)))))))))
  have s5 := hs.2.2.2.2.1
  refine ok_bind (p_record N τ 4 x2 0 (τ.i 95) (by omega) (by omega)) (fun p hp9 => ok_some ?_)
  obtain ⟨r1, r2, r3, r4, a0, a1, a2, a3, a4⟩ := hp9
  refine act_FL hB (hb.rec r1 r3 r4) q3 (by rw [r3 92 (by decide)]; exact hpc) ?_
  refine hs.rec (σ := σ) (r := (4, (gv s 22 k).toNat, 0, c.h, c.o, c.v, ps, ek)) ?_ (Or.inr (Or.inr ⟨rfl, rfl⟩)) rfl (x1 := 4) (x2 := x2) (x3 := 0) (x4 := τ.i 95) (show (4 : Int32).toInt = ((4 : Nat) : Int) by decide) ?_ (fun _ => z_t0) (fun _ => ⟨hs.2.2.1, hs.2.2.2.1⟩) r2 r3 r4 a0 a1 a2 a3 a4
  · unfold wv
    rw [if_neg (show ¬ Rec.k (4, (gv s 22 k).toNat, 0, c.h, c.o, c.v, ps, ek) = 2 by show ¬ (4 : Nat) = 2; decide), Nat.zero_add]
    cases c.rs <;> rfl
  · rw [hx2]
    show _ = (((gv s 22 k).toNat : Nat) : Int)
    omega
theorem p_o32 {N : Nat} (hN : 1000 ≤ N) {s σ τ : RS} {g : Gh} {k : Nat} {c : Ctx} {x1 x2 : Int32} (hp : PRE s σ τ g k c x1) (hx2 : x2.toInt = gv s 22 k) (hm : gv s 21 k = 32) : ok (f_X12_others N τ x1 x2) (fun R => ACT s σ R g k c.v) := by
  obtain ⟨k1, k2, k3, k4, k5, k6, k7, k8, k9⟩ := hp.fact
  obtain ⟨q1, q2, q3⟩ := okI_32 k1 hm
  have hp0 := hp
  obtain ⟨hW, hB, hk, hT, hb, hs, hpc, hx1, hone⟩ := hp
  unfold f_X12_others
  refine ok_chk hp0.inb ?_
  refine ok_ite (fun q => absurd q (hp0.ne hm (z := 23) (by decide) (by decide))) (fun _ => ok_ite (fun q => absurd q (hp0.ne hm (z := 24) (by decide) (by decide))) (fun _ => ok_ite (fun q => absurd q (hp0.ne hm (z := 25) (by decide) (by decide))) (fun _ => ok_ite (fun q => absurd q (hp0.ne hm (z := 26) (by decide) (by decide))) (fun _ => ok_ite (fun q => absurd q (hp0.ne hm (z := 27) (by decide) (by decide))) (fun _ => ok_ite (fun q => absurd q (hp0.ne hm (z := 28) (by decide) (by decide))) (fun _ => ok_ite (fun q => absurd q (hp0.ne hm (z := 29) (by decide) (by decide))) (fun _ => ok_ite (fun q => absurd q (hp0.ne hm (z := 30) (by decide) (by decide))) (fun _ => ok_ite (fun q => absurd q (hp0.ne hm (z := 31) (by decide) (by decide))) (fun _ => ok_ite (fun _ => ?_) (fun q => absurd (hp0.eq hm (by decide)) q))))))))))
  have hx8 : ib x2 8 := ⟨by omega, by omega⟩
  have e8 := clampI hx8.1
  have hD := hb.2.1
  have hs0 := hs
  obtain ⟨s1, s2, s3, s4, s5, s6⟩ := hs
  obtain ⟨f1, f2, f3⟩ := q3
  have e1 : (1 : Int32).toInt = 1 := by decide
  refine ok_chk hx8 (ok_ite (fun c1 => ok_ite (fun c2 => ?_) (fun c2 => ok_some ?_)) (fun c1 => ?_))
  · refine ok_bind (p_row N τ 1 x2 hD.2.2.1.1 hD.2.2.1.2) (fun p hp9 => ?_)
    obtain ⟨r1, r2, r3, r4, r5⟩ := hp9
    have h95 : p.i 95 = τ.i 95 := r4 95 (by decide)
    have hib : ib (p.i 95) 460 := by rw [h95]; exact ⟨s3, by omega⟩
    refine ok_chk hib (ok_some ?_)
    have hbp := hb.row r1 r2 r3 r4 r5
    have e95 : (p.i 95 + 1).toInt = (τ.i 95).toInt + 1 := by rw [toInt_add] <;> rw [h95, e1] <;> omega
    have en95 := clampI hib.1
    have hX2 : RX p ((p.setA 96 (p.i 95).toNatClampNeg x2).setI 95 (p.i 95 + 1)) := (RX.a _ _ _ _ (by decide)).tr (RX.i _ _ _ (by decide))
    refine act_FL (o := c.o + 1) hB ⟨hbp.1.tr hX2, ?_, hbp.2.2.1, hbp.2.2.2⟩ ⟨f1, f2, f3⟩ (by show (p.i 92).toInt = _; rw [r4 92 (by decide)]; exact hpc) ⟨by show (p.i 93).toInt = _; rw [r4 93 (by decide)]; exact s1, by show (p.i 97).toInt = _; rw [r4 97 (by decide)]; exact s2, by show 0 ≤ (p.i 95 + 1).toInt; omega, by show (p.i 95 + 1).toInt ≤ _; omega, by show (p.i 99).toInt = _; rw [r4 99 (by decide)]; exact s5, ?_⟩
    · obtain ⟨E1, E2, E3, E4, E5, E6, E7⟩ := hbp.2.1
      refine ⟨fun j h2 h3 => ?_, E2, E3, E4, E5, E6, E7⟩
      have h3 : (j : Int) < (p.i 95 + 1).toInt := h3
      have : gv ((p.setA 96 (p.i 95).toNatClampNeg x2).setI 95 (p.i 95 + 1)) 96 j = if j = (p.i 95).toNatClampNeg then x2.toInt else (p.a 96 j).toInt := gv_upd rfl
      rw [this]
      by_cases w : j = (p.i 95).toNatClampNeg
      · rw [if_pos w]; exact ⟨by omega, by omega⟩
      · rw [if_neg w]; exact E1 j h2 (by have h9 : (p.i 95).toInt = (τ.i 95).toInt := (by rw [h95]); omega)
    · refine RM.of (σ := τ) (fun i _ k9 d1 d2 => ?_) s6
      have : gv ((p.setA 96 (p.i 95).toNatClampNeg x2).setI 95 (p.i 95 + 1)) k9 i = gv p k9 i := by
        unfold gv; simp only [ra_setI, ra_setA]; rw [if_neg (by omega)]
      rw [this]; exact gv_of (r5 k9 (by omega) (by omega)) i
  · refine act_FL (o := c.o + 1) hB hb ⟨f1, f2, f3⟩ hpc ⟨s1, s2, s3, by omega, s5, s6⟩
  · have hop := hb.1.B hB
    have h6 := hop.2.2.2.1 x2.toNatClampNeg (by omega)
    have g2 := le_int h6.2
    have g1 := le_int h6.1
    have g3 := le_int hop.2.1.2
    have e12 : (12 : Int32).toInt = 12 := by decide
    rw [z_t0] at g1
    refine hp0.raise hN hb hs0 ?_
    have : (τ.a 6 x2.toNatClampNeg - 1).toInt = (τ.a 6 x2.toNatClampNeg).toInt - 1 := by rw [toInt_sub] <;> rw [e1] <;> omega
    rw [this]
    have h3 : τ.i 3 = s.i 3 := hb.1.2.2.1 3 (by decide)
    rw [h3] at g2
    omega
/-- goOn: the finally, or behind the try -/
theorem p_goOn {N : Nat} {s σ τ : RS} {g : Gh} {k v : Nat} {r : Rec} {rs : List Rec} {x1 : Int32} (hW : WT s g) (hB : RB s) (hb : BS s σ τ g) (hx : x1.toInt = rs.length) (hR : (τ.i 99).toInt = (rs.length : Int) + 1) (hl : rs.length + 1 ≤ 250) (hM : RM s τ g (r :: rs)) (hO : recOK s g k v r rs) (hw : (τ.i 97).toInt = wv (r :: rs)) (h95 : 0 ≤ (τ.i 95).toInt) (h95r : (τ.i 95).toInt ≤ r.o) (hk : r.k = 4) (hp : r.p < 2) (hh : (τ.i 93).toInt = r.h) (h0 : τ.i 110 = 0) (he : endT s g k v r rs) : ok (f_X12_goOn N τ x1) (fun R => ACT s σ R g k v) := by
  have hx1 : x1.toNatClampNeg = rs.length := by
    show x1.toInt.toNat = rs.length
    rw [hx]; exact Int.toNat_natCast _
  have hM1 := hM.1
  obtain ⟨n1, n2, -, -, -, n6⟩ := hM1
  obtain ⟨q1, q2, q3, q4, q5⟩ := n6 hk
  have f4 := hO.four hk
  have w2 := hW.2.1
  have hX := hb.1
  unfold f_X12_goOn
  rw [e_finals (a := r.a) (show ib x1 300 from ⟨by omega, by omega⟩) (by rw [hx1]; exact q1) (by omega)]
  have e31' : gv τ 31 r.a = gv s 31 r.a := gv_of (hX.2.2.2 31 (by decide)) _
  by_cases hf : 0 ≤ gv τ 31 r.a
  · rw [if_pos hf]
    show ok (some (FIN τ x1.toNatClampNeg (τ.a 31 r.a))) _
    refine ok_some ?_
    have hf' : 0 ≤ gv s 31 r.a := by rw [← e31']; exact hf
    refine ⟨FIN_X hX, (FIN_X hX).B hB, RD.of hb.2.1 rfl rfl rfl rfl rfl rfl rfl rfl rfl, Or.inl ⟨hb.2.2.1, ?_⟩, Or.inl hb.2.2.2⟩
    exact fin_out (h := 0) (o := 0) hx1 hB hX hb.2.1 hR hM hO hw h95 h95r hk hp hf' (Or.inl ⟨h0, he.1 hf'⟩)
  · rw [if_neg hf]
    show ok (if (0 : Int32) = 0 then (if ib x1 300 then (if ib (τ.a 101 x1.toNatClampNeg) 200 then some ((τ.setI 99 (τ.i 99 - 1)).setI 92 (τ.a 32 (τ.a 101 x1.toNatClampNeg).toNatClampNeg)) else none) else none) else some τ) _
    refine ok_ite (fun _ => ?_) (fun q => absurd rfl q)
    have hr : (τ.a 101 x1.toNatClampNeg).toInt = r.a := by rw [hx1]; exact q1
    have ea : (τ.a 101 x1.toNatClampNeg).toNatClampNeg = r.a := by
      show (τ.a 101 x1.toNatClampNeg).toInt.toNat = r.a
      rw [hr]; exact Int.toNat_natCast _
    refine ok_chk ⟨by omega, by omega⟩ (ok_chk ⟨by rw [hr]; omega, by rw [hr]; omega⟩ (ok_some ?_))
    rw [ea]
    have e32 : (τ.a 32 r.a).toInt = gv s 32 r.a := gv_of (hX.2.2.2 32 (by decide)) _
    refine act_FL (o := r.o) hB (hb.of ((RX.i _ _ _ (by decide)).tr (RX.i _ _ _ (by decide))) rfl rfl rfl rfl rfl rfl rfl rfl rfl) (he.2 (by rw [← e31']; exact hf)) e32 ⟨hh, ?_, h95, h95r, sub1 hR (by omega), RM.of (σ := τ) (fun _ _ _ _ _ => rfl) hM.2⟩
    show (τ.i 97).toInt = _
    rw [hw]; unfold wv; rw [if_neg (by rw [hk]; decide), Nat.zero_add]
    cases rs <;> rfl
theorem p_o34 {N : Nat} {s σ τ : RS} {g : Gh} {k : Nat} {c : Ctx} {x1 x2 : Int32} (hp : PRE s σ τ g k c x1) (hm : gv s 21 k = 34) : ok (f_X12_others N τ x1 x2) (fun R => ACT s σ R g k c.v) := by
  obtain ⟨k1, k2, k3, k4, k5, k6, k7, k8, k9⟩ := hp.fact
  obtain ⟨r, rs, q5, q6, q7, q8, q9⟩ := okI_34 k1 hm
  have hp0 := hp
  obtain ⟨hW, hB, hk, hT, hb, hs, hpc, hx1, hone⟩ := hp
  obtain ⟨s1, s2, s3, s4, s5, s6⟩ := hs
  rw [q5] at s5 s6 k7 s2 k2 k5
  have s5 : (τ.i 99).toInt = (rs.length : Int) + 1 := s5
  have k7 : rs.length + 1 ≤ 250 := k7
  unfold f_X12_others
  refine ok_chk hp0.inb ?_
  refine ok_ite (fun q => absurd q (hp0.ne hm (z := 23) (by decide) (by decide))) (fun _ => ok_ite (fun q => absurd q (hp0.ne hm (z := 24) (by decide) (by decide))) (fun _ => ok_ite (fun q => absurd q (hp0.ne hm (z := 25) (by decide) (by decide))) (fun _ => ok_ite (fun q => absurd q (hp0.ne hm (z := 26) (by decide) (by decide))) (fun _ => ok_ite (fun q => absurd q (hp0.ne hm (z := 27) (by decide) (by decide))) (fun _ => ok_ite (fun q => absurd q (hp0.ne hm (z := 28) (by decide) (by decide))) (fun _ => ok_ite (fun q => absurd q (hp0.ne hm (z := 29) (by decide) (by decide))) (fun _ => ok_ite (fun q => absurd q (hp0.ne hm (z := 30) (by decide) (by decide))) (fun _ => ok_ite (fun q => absurd q (hp0.ne hm (z := 31) (by decide) (by decide))) (fun _ => ok_ite (fun q => absurd q (hp0.ne hm (z := 32) (by decide) (by decide))) (fun _ => ok_ite (fun q => absurd q (hp0.ne hm (z := 33) (by decide) (by decide))) (fun _ => ok_ite (fun _ => ?_) (fun q => absurd (hp0.eq hm (by decide)) q))))))))))))
  have ho : (τ.i 95).toInt ≤ r.o := by
    rcases k5.1 with z | z
    · rw [q7] at z; exact absurd z.2 (by decide)
    · omega
  refine ok_bind (p_goOn (N := N) hW hB (hb.of (RX.i _ 110 0 (by decide)) rfl rfl rfl rfl rfl rfl rfl rfl rfl) (sub1 s5 (by omega)) s5 k7 (RM.of (σ := τ) (fun _ _ _ _ _ => rfl) s6) k2.1 s2 s3 ho q6 (by omega) (by show (τ.i 93).toInt = _; rw [s1, q8]) rfl q9) (fun R hR => ok_some hR)
theorem p_o33 {N : Nat} (hN : 1000 ≤ N) {s σ τ : RS} {g : Gh} {k : Nat} {c : Ctx} {x1 x2 : Int32} (hp : PRE s σ τ g k c x1) (hm : gv s 21 k = 33) : ok (f_X12_others N τ x1 x2) (fun R => ACT s σ R g k c.v) := by
  obtain ⟨k1, k2, k3, k4, k5, k6, k7, k8, k9⟩ := hp.fact
  obtain ⟨r, rs, q5, q6, q7, q8, q9⟩ := okI_33 k1 hm
  have hp0 := hp
  obtain ⟨hW, hB, hk, hT, hb, hs, hpc, hx1, hone⟩ := hp
  have hs0 := hs
  obtain ⟨s1, s2, s3, s4, s5, s6⟩ := hs
  rw [q5] at s5 s6 k7 s2 k2 k5
  have s5 : (τ.i 99).toInt = (rs.length : Int) + 1 := s5
  have k7 : rs.length + 1 ≤ 250 := k7
  have hx := sub1 s5 (by omega)
  have en : (τ.i 99 - 1).toNatClampNeg = rs.length := by
    show (τ.i 99 - 1).toInt.toNat = rs.length
    rw [hx]; exact Int.toNat_natCast _
  obtain ⟨n1, n2, -, -, -, n6⟩ := s6.1
  obtain ⟨z1, z2, z3, z4, z5⟩ := n6 q6
  unfold f_X12_others
  refine ok_chk hp0.inb (ok_neg (hp0.ne hm (z := 23) (by decide) (by decide)) (ok_neg (hp0.ne hm (z := 24) (by decide) (by decide)) (ok_neg (hp0.ne hm (z := 25) (by decide) (by decide)) (ok_neg (hp0.ne hm (z := 26) (by decide) (by decide)) (ok_neg (hp0.ne hm (z := 27) (by decide) (by decide)) (ok_neg (hp0.ne hm (z := 28) (by decide) (by decide)) (ok_neg (hp0.ne hm (z := 29) (by decide) (by decide)) (ok_neg (hp0.ne hm (z := 30) (by decide) (by decide)) (ok_neg (hp0.ne hm (z := 31) (by decide) (by decide)) (ok_neg (hp0.ne hm (z := 32) (by decide) (by decide)) (ok_pos (hp0.eq hm (by decide)) ?_)))))))))))
  have hb1 : BS s σ (τ.setI 110 0) g := hb.of (RX.i _ 110 0 (by decide)) rfl rfl rfl rfl rfl rfl rfl rfl rfl
  unfold f_X12_closeAll
  refine ok_bind (p_closeAll N g (τ.i 99 - 1) ⟨by omega, by omega⟩ N (τ.setI 110 0) (hb1.1.B hB) hb1.2.1 (by rw [en]; exact z3) s3 (by show (τ.i 95).toInt ≤ 450; omega) (fun q => absurd q (show ¬ (0 : Int32) = 3 by decide)) (by show (τ.i 95).toInt < _; omega)) (fun p hp9 => ?_)
  obtain ⟨b1, b2, b3, b4, b5, b6, b7, b8⟩ := hp9
  have i0 : ∀ j : Nat, j ≠ 81 → j ≠ 85 → j ≠ 95 → j ≠ 110 → j ≠ 114 → p.i j = τ.i j := fun j d1 d2 d3 d4 d5 => (b3 j d1 d2 d3 d4 d5).trans (if_neg d4)
  have hMp : RM s p g (r :: rs) := RM.of (σ := τ) (fun i _ k9 h1 _ => gv_of (b4 k9 (by omega)) i) s6
  have hbp : BS s σ p g := ⟨hb1.1.tr b1, b2, (i0 80 (by decide) (by decide) (by decide) (by decide) (by decide)).trans hb.2.2.1, (i0 115 (by decide) (by decide) (by decide) (by decide) (by decide)).trans hb.2.2.2⟩
  have h99 : p.i 99 = τ.i 99 := i0 99 (by decide) (by decide) (by decide) (by decide) (by decide)
  have h97 : p.i 97 = τ.i 97 := i0 97 (by decide) (by decide) (by decide) (by decide) (by decide)
  have h93 : p.i 93 = τ.i 93 := i0 93 (by decide) (by decide) (by decide) (by decide) (by decide)
  have h103 : gv (τ.setI 110 0) 103 (τ.i 99 - 1).toNatClampNeg = gv τ 103 rs.length := by rw [en]; rfl
  have hor : (p.i 95).toInt ≤ r.o := by rw [h103] at b6; omega
  refine ok_ite (fun c3 => ?_) (fun c3 => ?_)
  · have ho2 : (p.i 95).toInt ≤ c.o ∨ True := Or.inr trivial
    -- the body's end throws: leave from here
    have hst : ST s p g c.h r.o c.rs := by
      refine ⟨by rw [h93]; exact s1, by rw [h97, q5]; exact s2, b5, hor, by rw [h99, q5]; exact s5, by rw [q5]; exact hMp⟩
    have hoo : oOK r.o c.rs := by rw [q5]; exact ⟨Or.inl ⟨q6, q7⟩, k5.2⟩
    obtain ⟨kk1, kk2, kk3, kk4, kk5, kk6, kk7, kk8, kk9⟩ := hp0.fact
    obtain ⟨a1, a2, a3, a4, a5, a6⟩ := hst
    unfold f_X12_leave
    refine ok_bind (p_leave hN (h := 0) hW hB N p r.o c.rs ⟨hbp.1, hbp.1.B hB, hbp.2.1, a5, kk7, a6, kk2, a2, a3, a4, k2.1.2.1, hoo, Or.inr (Or.inr (Or.inl ⟨c3, b8 c3⟩))⟩ (by omega)) (fun R hR => ok_some ?_)
    exact LO.act (hR.of hbp.2.2.1 hbp.2.2.2)
  · have h110 : p.i 110 = 0 := by
      rcases b7 with b7 | b7
      · exact b7
      · exact absurd b7 c3
    refine ok_bind (p_goOn (N := N) hW hB hbp hx (by rw [h99]; exact s5) k7 hMp k2.1 (by rw [h97]; exact s2) b5 hor q6 (by omega) (by rw [h93, s1, q8]) h110 q9) (fun R hR => ok_some hR)
theorem hOs_four {s : RS} {g : Gh} {k v : Nat} {r : Rec} {rs : List Rec} (h : recOK s g k v r rs) (hk : r.k = 4) : r.v ≤ v ∧ (k : Int) < gv s 32 r.a := by
  rcases h.2.2 with q | q | q | q
  · rw [hk] at q; exact absurd q.1 (by decide)
  · rw [hk] at q; exact absurd q (by decide)
  · rw [hk] at q; exact absurd q.1 (by decide)
  · exact ⟨q.2.2.2.1, q.2.2.2.2.1⟩
theorem p_o35 {N : Nat} (hN : 1000 ≤ N) {s σ τ : RS} {g : Gh} {k : Nat} {c : Ctx} {x1 x2 : Int32} (hp : PRE s σ τ g k c x1) (hm : gv s 21 k = 35) : ok (f_X12_others N τ x1 x2) (fun R => ACT s σ R g k c.v) := by
  obtain ⟨k1, k2, k3, k4, k5, k6, k7, k8, k9⟩ := hp.fact
  obtain ⟨r, rs, q5, q6, q7, q8, q9, q10, q11⟩ := okI_35 k1 hm
  have hp0 := hp
  obtain ⟨hW, hB, hk, hT, hb, hs, hpc, hx1, hone⟩ := hp
  obtain ⟨s1, s2, s3, s4, s5, s6⟩ := hs
  rw [q5] at s5 s6 k7 s2 k2 k5 k4
  have s5 : (τ.i 99).toInt = (rs.length : Int) + 1 := s5
  have k7 : rs.length + 1 ≤ 250 := k7
  have hx := sub1 s5 (by omega)
  have en : (τ.i 99 - 1).toNatClampNeg = rs.length := by
    show (τ.i 99 - 1).toInt.toNat = rs.length
    rw [hx]; exact Int.toNat_natCast _
  obtain ⟨n1, n2, -, -, -, n6⟩ := s6.1
  obtain ⟨z1, z2, z3, z4, z5⟩ := n6 q6
  obtain ⟨y1, y2, y3⟩ := z5 q7
  obtain ⟨d0, d1, d3, d4⟩ := y3 q10
  have ho : (τ.i 95).toInt ≤ r.o := by
    rcases k5.1 with z | z
    · rw [q7] at z; exact absurd z.2 (by decide)
    · omega
  have hwv : wv (r :: rs) = wv rs := by
    unfold wv; rw [if_neg (by rw [q6]; decide), Nat.zero_add]; cases rs <;> rfl
  unfold f_X12_others
  refine ok_chk hp0.inb (ok_neg (hp0.ne hm (z := 23) (by decide) (by decide)) (ok_neg (hp0.ne hm (z := 24) (by decide) (by decide)) (ok_neg (hp0.ne hm (z := 25) (by decide) (by decide)) (ok_neg (hp0.ne hm (z := 26) (by decide) (by decide)) (ok_neg (hp0.ne hm (z := 27) (by decide) (by decide)) (ok_neg (hp0.ne hm (z := 28) (by decide) (by decide)) (ok_neg (hp0.ne hm (z := 29) (by decide) (by decide)) (ok_neg (hp0.ne hm (z := 30) (by decide) (by decide)) (ok_neg (hp0.ne hm (z := 31) (by decide) (by decide)) (ok_neg (hp0.ne hm (z := 32) (by decide) (by decide)) (ok_neg (hp0.ne hm (z := 33) (by decide) (by decide)) (ok_neg (hp0.ne hm (z := 34) (by decide) (by decide)) (ok_chk ⟨by omega, by omega⟩ ?_)))))))))))))
  generalize hR0 : (RS.setI (RS.setI (RS.setI (RS.setI (RS.setI (RS.setI τ 110 (τ.a 105 (τ.i 99 - 1).toNatClampNeg)) 111 (τ.a 106 (τ.i 99 - 1).toNatClampNeg)) 112 (τ.a 107 (τ.i 99 - 1).toNatClampNeg)) 113 (τ.a 108 (τ.i 99 - 1).toNatClampNeg)) 114 (τ.a 109 (τ.i 99 - 1).toNatClampNeg)) 99 (τ.i 99 - 1)) = R
  have e110 : (R.i 110).toInt = gv τ 105 rs.length := by rw [← hR0, ← en]; rfl
  have e111 : (R.i 111).toInt = gv τ 106 rs.length := by rw [← hR0, ← en]; rfl
  have e112 : (R.i 112).toInt = gv τ 107 rs.length := by rw [← hR0, ← en]; rfl
  have e114 : (R.i 114).toInt = gv τ 109 rs.length := by rw [← hR0, ← en]; rfl
  have e105 : (τ.a 105 (τ.i 99 - 1).toNatClampNeg).toInt = gv τ 105 rs.length := by rw [en]; rfl
  have hbR : BS s σ R g := by
    rw [← hR0]
    exact hb.of ((((((RX.i _ _ _ (by decide)).tr (RX.i _ _ _ (by decide))).tr (RX.i _ _ _ (by decide))).tr (RX.i _ _ _ (by decide))).tr (RX.i _ _ _ (by decide))).tr (RX.i _ _ _ (by decide))) rfl rfl rfl rfl rfl rfl rfl rfl rfl
  have hst : ST s R g r.h r.o rs := by
    rw [← hR0]
    exact ⟨by show (τ.i 93).toInt = _; rw [s1, q8], by show (τ.i 97).toInt = _; rw [s2, hwv], s3, ho, hx, RM.of (σ := τ) (fun _ _ _ _ _ => rfl) s6.2⟩
  have hpcR : (R.i 92).toInt = (k : Int) + 1 := by rw [← hR0]; exact hpc
  refine ok_ite (fun c0 => ok_some ?_) (fun c0 => ?_)
  · have : gv τ 105 rs.length = 0 := by rw [← e105, c0]; exact z_t0
    exact act_FL hB hbR (q11 (d0 this)) hpcR hst
  · have hne : gv τ 105 rs.length ≠ 0 := fun q => c0 (eqI (e105.trans q) z_t0)
    have f4 := (hOs_four k2.1 q6)
    have htr : TR s R g k c.v r.h r.o rs := by
      rcases (show gv τ 105 rs.length = 1 ∨ gv τ 105 rs.length = 2 ∨ gv τ 105 rs.length = 3 ∨ gv τ 105 rs.length = 4 by omega) with z | z | z | z
      · obtain ⟨j1, j2, v', j3, j4, j5⟩ := d1 z
        refine Or.inl ⟨eqI (e110.trans z) (by decide), by rw [e112]; exact j1, hst.1, ?_⟩
        rw [e111, e112]
        refine ⟨j2, v', ?_, j4, j5⟩
        rw [q9]
        rcases j3 with j3 | j3
        · exact Or.inl j3
        · exact Or.inr ⟨j3.1, by omega⟩
      · exact Or.inr (Or.inl (eqI (e110.trans z) (by decide)))
      · exact Or.inr (Or.inr (Or.inl ⟨eqI (e110.trans z) (by decide), by rw [e114]; exact d3 z⟩))
      · exact Or.inr (Or.inr (Or.inr ⟨eqI (e110.trans z) (by decide), by rw [e112]; exact d4 z⟩))
    obtain ⟨a1, a2, a3, a4, a5, a6⟩ := hst
    unfold f_X12_leave
    refine ok_bind (p_leave hN (k := k) (v := c.v) hW hB N R r.o rs ⟨hbR.1, hbR.1.B hB, hbR.2.1, a5, by omega, a6, k2.2, a2, a3, a4, k2.1.2.1, k5.2, htr⟩ (by omega)) (fun R hR => ok_some ?_)
    exact LO.act (hR.of hbR.2.2.1 hbR.2.2.2)
end
