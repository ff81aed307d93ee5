theorem k_X11_trace_fieldLink_RX11_85_SR_hasRun_Z : Cond.fieldLink RX11 85 "StatementRules2" "hasRun" "Z" ∈ wzX11_trace := List.mem_cons_of_mem _ (List.mem_append_left _ (List.mem_of_getElem? (i := 0) rfl))
theorem i_X11_trace_X11 : ∀ w ∈ wsX110, w ∈ wzX11_trace := fun _ h => List.mem_cons_of_mem _ (List.mem_append_right _ (List.mem_append_left _ (h)))
theorem k_X11_trace_fieldLink_RX11_46_SR_machine_LSR_Machine : Cond.fieldLink RX11 46 "StatementRules2" "machine" "LStatementRules2$Machine;" ∈ wzX11_trace := List.mem_cons_of_mem _ (List.mem_append_left _ (List.mem_of_getElem? (i := 1) rfl))
theorem i_X11_trace_X3 : ∀ w ∈ wsX30, w ∈ wzX11_trace := fun _ h => List.mem_cons_of_mem _ (List.mem_append_right _ (List.mem_append_right _ (List.mem_append_left _ (h))))
set_option maxHeartbeats 4000000 in
set_option maxRecDepth 100000 in
theorem j_X11_trace_31 {p : Program} {e : Env} {s : State} {m : MethodId} {args : Array Value} {below : List Frame} {meth : Method} {c : Code} {A : Nat → Prop} (l : Launch) (dC : Nat → ClassId) (dI : Nat → Nat → Nat) (Q : CQ) (N : Nat) (z9h : Nat) (R : Int32 × CS) (hx : p.tables.exec = Jvm.exec) (hb : c.code = cX11_trace) (hr : meth.sig.returnType = (some .int)) (hml : c.maxLocals = 3) (hown : s.vm.findClass RX11 = some m.cls) (hts : ∀ w ∈ wzX11_trace, w.before args s = true) (hlocks : meth.locks = false) (hZ : zAMB s) (hA : ∀ q : Nat, s.heap.size ≤ q → A q) (hK : va_K (dC, dI) vwCl (cT Q) s) : ∀ (σ : CS) (H : Heap) (locs : List Loc) (ls : Array Slot), f_X11_trace_31 N σ = some R → z9h ≤ CS.hs σ → CP dC dI Q A s.heap σ H locs → lv_has ls 3 [] → W p l e ({ frames := 2, cells := CS.hs R.2 - z9h, slots := 17 * (CS.hs R.2 - z9h), locals := 60 * 2 }) s m args below meth c H locs (CS.hs σ - z9h) (17 * (CS.hs σ - z9h)) (MQ below (va_Qi (fun (r : Int32) (_ : Unit) => r = R.1) (fun (_ : Unit) (t : State) => zPost dC dI A (cW Q R.2) (cT Q) t ∧ t.heap.size = CS.hs R.2) A) args s (CS.hs R.2 - z9h) (17 * (CS.hs R.2 - z9h)) A) (F0 m 31 ls []) := by
  intro σ  H locs ls hf h0 hC hl
  unfold f_X11_trace_31 at hf
  refine lv_iconst (v := (-1)) hx hb dX11_trace_31 (by decide) ?_
  obtain rfl := Option.some.inj hf
  exact W.iret (v := (-1)) hx hb hr (fun t ht hW => ⟨⟨(-1), (), rfl, rfl, ⟨by rw [ht]; exact hC.1, va_K.moved hW.alike hK, hC.2.1⟩, by rw [ht]; exact hC.2.2.2⟩, hC.2.2.1.F ht⟩) hC.2.2.1.2.2 dX11_trace_32
set_option maxHeartbeats 4000000 in
set_option maxRecDepth 100000 in
theorem c_X11_trace (l : Launch) (dC : Nat → ClassId) (dI : Nat → Nat → Nat) (Q : CQ) (N : Nat) (σ : CS) (x1 : Int32) (x2 : Int32) (R : Int32 × CS) (hf : f_X11_trace N σ x1 x2 = some R) : Met l yX11_trace wzX11_trace ({ frames := 2, cells := CS.hs R.2 - CS.hs σ, slots := 17 * (CS.hs R.2 - CS.hs σ), locals := 60 * 2 }) (va_Pc [.ref (Q.o 0), .int x1, .int x2] (zPre dC dI (CS.hs σ) (cW Q σ) (cT Q))) (va_Qi (fun (r : Int32) (_ : Unit) => r = R.1) (fun (_ : Unit) (t : State) => zPost dC dI (va_A (cW Q σ) (CS.hs σ)) (cW Q R.2) (cT Q) t ∧ t.heap.size = CS.hs R.2) (va_A (cW Q σ) (CS.hs σ))) (CS.hs R.2 - CS.hs σ) (17 * (CS.hs R.2 - CS.hs σ)) (va_A (cW Q σ) (CS.hs σ)) := by
  refine Met.ofW (cc := cX11_trace) (maxL := 3) (ret := (some .int)) (by decide) rfl ?_
  intro p e s m args below meth c s₁ B hml hv
  obtain ⟨rfl, hsz, hZ, hP, hK, hD0⟩ := hv
  have hx := B.exec
  have hb := B.bytes
  have hr := B.returns
  have hts := atoms_spec (ws := wzX11_trace) B.pre
  have hown : s.vm.findClass RX11 = some m.cls := findClass_of_methodNamed B.named
  have hlocks := B.notSynchronized
  have hD := hD0.self (sz := CS.hs σ)
  generalize hAe : va_A (cW Q σ) (CS.hs σ) = A at hD ⊢
  have hA : ∀ q : Nat, s.heap.size ≤ q → A q := fun q h => by rw [← hAe]; exact Or.inr (hsz ▸ h)
  have hC : CP dC dI Q A s.heap σ s.heap [] := ⟨hP, hD, va_S.rf, hsz⟩
  have h0 : CS.hs σ ≤ CS.hs σ := Nat.le_refl _
  have hl := lv_entry ([.ref (Q.o 0), .int x1, .int x2]) (n := 3) (Nat.le_of_ble_eq_true rfl)
  rw [lg_entry_eq]
  generalize (lg_sl ([.ref (Q.o 0), .int x1, .int x2]) ++ List.replicate (3 - (lg_sl ([.ref (Q.o 0), .int x1, .int x2])).length) Slot.unset).toArray = ls at hl ⊢
  have hl : lv_has ls 3 [(0, .ref (Q.o 0)), (1, .int x1), (2, .int x2)] := hl
  unfold f_X11_trace at hf
  refine W.widen (k := CS.hs σ - CS.hs σ) (n := 17 * (CS.hs σ - CS.hs σ)) (Nat.zero_le _) (Nat.zero_le _) ?_
  refine lv_aload_n hx hb dX11_trace_0 rfl (lv_at hl 0 rfl) ?_
  refine cG_8 (v := (σ.i 8)) hx hb hts i_X11_trace_X11 hown hK hC (hts (.fieldLink RX11 85 "StatementRules2" "hasRun" "Z") k_X11_trace_fieldLink_RX11_85_SR_hasRun_Z) (fun _ q9 => q9) dX11_trace_1 rfl ?_
  refine lv_if_eq (tgt := 31) hx hb dX11_trace_4 (by decide) (fun c1 => ?_) (fun c1 => ?_)
  ·
    replace hf := (if_pos c1).symm.trans hf
    exact j_X11_trace_31 l dC dI Q N (CS.hs σ) R hx hb hr hml hown hts hlocks hZ hA hK σ _ _ _ hf h0 hC (lv_sub hl [] rfl)
  ·
    replace hf := (if_neg c1).symm.trans hf
    refine lv_iload_n hx hb dX11_trace_7 rfl (lv_at hl 1 rfl) ?_
    refine lv_if_lt (tgt := 31) hx hb dX11_trace_8 (by decide) (fun c2 => ?_) (fun c2 => ?_)
    ·
      replace hf := (if_pos c2).symm.trans hf
      exact j_X11_trace_31 l dC dI Q N (CS.hs σ) R hx hb hr hml hown hts hlocks hZ hA hK σ _ _ _ hf h0 hC (lv_sub hl [] rfl)
    ·
      replace hf := (if_neg c2).symm.trans hf
      refine lv_iload_n hx hb dX11_trace_11 rfl (lv_at hl 1 rfl) ?_
      refine lv_aload_n hx hb dX11_trace_12 rfl (lv_at hl 0 rfl) ?_
      refine cG_4 hx hb hts i_X11_trace_X11 hown hK hC (hts (.fieldLink RX11 46 "StatementRules2" "machine" "LStatementRules2$Machine;") k_X11_trace_fieldLink_RX11_46_SR_machine_LSR_Machine) (fun _ q9 => q9) dX11_trace_13 ?_
      refine cGN_69 (v := (σ.i 69)) hx hb hts i_X11_trace_X3 hown hK hC (va_Nw.use rfl (hZ.1 (.fieldLinkNest RX11 119 "StatementRules2$Machine" "rowCount" "I" "StatementRules2") (by decide +kernel))) (fun _ q9 => q9) dX11_trace_16 rfl ?_
      refine lv_icmp_ge (tgt := 31) hx hb dX11_trace_19 (by decide) (fun c3 => ?_) (fun c3 => ?_)
      ·
        replace hf := (if_pos c3).symm.trans hf
        exact j_X11_trace_31 l dC dI Q N (CS.hs σ) R hx hb hr hml hown hts hlocks hZ hA hK σ _ _ _ hf h0 hC (lv_sub hl [] rfl)
      ·
        replace hf := (if_neg c3).symm.trans hf
        refine lv_iload_n hx hb dX11_trace_22 rfl (lv_at hl 2 rfl) ?_
        refine lv_if_lt (tgt := 31) hx hb dX11_trace_23 (by decide) (fun c4 => ?_) (fun c4 => ?_)
        ·
          replace hf := (if_pos c4).symm.trans hf
          exact j_X11_trace_31 l dC dI Q N (CS.hs σ) R hx hb hr hml hown hts hlocks hZ hA hK σ _ _ _ hf h0 hC (lv_sub hl [] rfl)
        ·
          replace hf := (if_neg c4).symm.trans hf
          refine lv_iload_n hx hb dX11_trace_26 rfl (lv_at hl 2 rfl) ?_
          refine lv_iconst (v := 1) hx hb dX11_trace_27 (by decide) ?_
          refine lv_icmp_le (tgt := 33) hx hb dX11_trace_28 (by decide) (fun c5 => ?_) (fun c5 => ?_)
          ·
            replace hf := (if_pos c5).symm.trans hf
            refine lv_aload_n hx hb dX11_trace_33 rfl (lv_at hl 0 rfl) ?_
            refine cG_4 hx hb hts i_X11_trace_X11 hown hK hC (hts (.fieldLink RX11 46 "StatementRules2" "machine" "LStatementRules2$Machine;") k_X11_trace_fieldLink_RX11_46_SR_machine_LSR_Machine) (fun _ q9 => q9) dX11_trace_34 ?_
            refine cGN_64 hx hb hts i_X11_trace_X3 hown hK hC (va_Nw.use rfl (hZ.1 (.fieldLinkNest RX11 122 "StatementRules2$Machine" "rows" "[I" "StatementRules2") (by decide +kernel))) (fun _ q9 => q9) dX11_trace_37 ?_
            refine lv_iconst (v := 2) hx hb dX11_trace_40 (by decide) ?_
            refine lv_iload_n hx hb dX11_trace_41 rfl (lv_at hl 1 rfl) ?_
            refine lv_imul hx hb dX11_trace_42 ?_
            refine lv_iload_n hx hb dX11_trace_43 rfl (lv_at hl 2 rfl) ?_
            refine lv_iadd hx hb dX11_trace_44 ?_
            have he9 := (cArr_64 (Q := Q) (σ := σ))
            have hFc := cFree1 hC hA he9
            have hr9 : CS.hs σ ≤ CS.hs R.2 := Mono.go hf (mono_some (Nat.le_refl _))
            refine va_calli (va_runS (As := [.ref (Q.q 64), .int ((2 * x1) + x2)]) (rest := []) ⟨hx, hb, hml, hown, hts⟩ (c_X11_at l dC dI _ (Q.q 64) (Q.c 0) 400 (σ.a 64) ((2 * x1) + x2) (by decide)) (va_cwS 2 hts hX11_trace_X11_at_s125 rfl rfl rfl (by decide +kernel) ⟨(show 1 + 1 ≤ 2 by omega), (show 8 + (2 + 11) + 60 * 1 ≤ 60 * 2 by omega)⟩) ⟨zPre.blind, zPre.go hZ (cOne hC.1 he9) (hK.sub (tys' := [(Q.c 0, .int)]) [0] rfl) (cOneD hC.2.1 he9)⟩ rfl rfl hl.1 rfl (lv_room (Nat.le_of_ble_eq_true rfl)) dX11_trace_45 ⟨cAcc4 h0 hr9, cAcc5 h0 hr9⟩) hC.2.2.1 (fun q _ h => hFc q h) hFc (fun r6 u9 t9 H1 locs ht hvm hw hB hz1 hk1 hS => ?_)
            obtain ⟨⟨hP1, hK1, hD1⟩, hsz1⟩ := hB
            rw [ht] at hP1 hsz1
            have hC := cBack (σ' := σ) hC he9 (cSelf he9) (Eq.refl (CS.hs σ)) hk1 hP1 hsz1 hS
            generalize H1 = H at hC ⊢
            obtain rfl : r6 = (gAt (σ.a 64) 400 ((2 * x1) + x2)) := hw
            obtain rfl := Option.some.inj hf
            exact W.iret (v := (gAt (σ.a 64) 400 ((2 * x1) + x2))) hx hb hr (fun t ht hW => ⟨⟨(gAt (σ.a 64) 400 ((2 * x1) + x2)), (), rfl, rfl, ⟨by rw [ht]; exact hC.1, va_K.moved hW.alike hK, hC.2.1⟩, by rw [ht]; exact hC.2.2.2⟩, hC.2.2.1.F ht⟩) hC.2.2.1.2.2 dX11_trace_48
          ·
            replace hf := (if_neg c5).symm.trans hf
            exact j_X11_trace_31 l dC dI Q N (CS.hs σ) R hx hb hr hml hown hts hlocks hZ hA hK σ _ _ _ hf h0 hC (lv_sub hl [] rfl)
theorem k_X11_suppressed_fieldLink_RX11_85_SR_hasRun_Z : Cond.fieldLink RX11 85 "StatementRules2" "hasRun" "Z" ∈ wzX11_suppressed := List.mem_cons_of_mem _ (List.mem_append_left _ (List.mem_of_getElem? (i := 0) rfl))
theorem i_X11_suppressed_X11 : ∀ w ∈ wsX110, w ∈ wzX11_suppressed := fun _ h => List.mem_cons_of_mem _ (List.mem_append_right _ (List.mem_append_left _ (h)))
theorem i_X11_suppressed_X8 : ∀ w ∈ wsX80, w ∈ wzX11_suppressed := fun _ h => List.mem_cons_of_mem _ (List.mem_append_right _ (List.mem_append_right _ (List.mem_append_left _ (h))))
theorem k_X11_suppressed_fieldLink_RX11_46_SR_machine_LSR_Machine : Cond.fieldLink RX11 46 "StatementRules2" "machine" "LStatementRules2$Machine;" ∈ wzX11_suppressed := List.mem_cons_of_mem _ (List.mem_append_left _ (List.mem_of_getElem? (i := 1) rfl))
set_option maxHeartbeats 4000000 in
set_option maxRecDepth 100000 in
theorem j_X11_suppressed_44 {p : Program} {e : Env} {s : State} {m : MethodId} {args : Array Value} {below : List Frame} {meth : Method} {c : Code} {A : Nat → Prop} (l : Launch) (dC : Nat → ClassId) (dI : Nat → Nat → Nat) (Q : CQ) (N : Nat) (z9h : Nat) (R : Int32 × CS) (hx : p.tables.exec = Jvm.exec) (hb : c.code = cX11_suppressed) (hr : meth.sig.returnType = (some .int)) (hml : c.maxLocals = 4) (hown : s.vm.findClass RX11 = some m.cls) (hts : ∀ w ∈ wzX11_suppressed, w.before args s = true) (hlocks : meth.locks = false) (hZ : zAMB s) (hA : ∀ q : Nat, s.heap.size ≤ q → A q) (hK : va_K (dC, dI) vwCl (cT Q) s) : ∀ (σ : CS) (H : Heap) (locs : List Loc) (ls : Array Slot), f_X11_suppressed_44 N σ = some R → z9h ≤ CS.hs σ → CP dC dI Q A s.heap σ H locs → lv_has ls 4 [] → W p l e ({ frames := 2, cells := CS.hs R.2 - z9h, slots := 17 * (CS.hs R.2 - z9h), locals := 60 * 2 }) s m args below meth c H locs (CS.hs σ - z9h) (17 * (CS.hs σ - z9h)) (MQ below (va_Qi (fun (r : Int32) (_ : Unit) => r = R.1) (fun (_ : Unit) (t : State) => zPost dC dI A (cW Q R.2) (cT Q) t ∧ t.heap.size = CS.hs R.2) A) args s (CS.hs R.2 - z9h) (17 * (CS.hs R.2 - z9h)) A) (F0 m 44 ls []) := by
  intro σ  H locs ls hf h0 hC hl
  unfold f_X11_suppressed_44 at hf
  refine lv_iconst (v := (-1)) hx hb dX11_suppressed_44 (by decide) ?_
  obtain rfl := Option.some.inj hf
  exact W.iret (v := (-1)) hx hb hr (fun t ht hW => ⟨⟨(-1), (), rfl, rfl, ⟨by rw [ht]; exact hC.1, va_K.moved hW.alike hK, hC.2.1⟩, by rw [ht]; exact hC.2.2.2⟩, hC.2.2.1.F ht⟩) hC.2.2.1.2.2 dX11_suppressed_45
set_option maxHeartbeats 4000000 in
set_option maxRecDepth 100000 in
theorem j_X11_suppressed_19 {p : Program} {e : Env} {s : State} {m : MethodId} {args : Array Value} {below : List Frame} {meth : Method} {c : Code} {A : Nat → Prop} (l : Launch) (dC : Nat → ClassId) (dI : Nat → Nat → Nat) (Q : CQ) (N : Nat) (z9h : Nat) (R : Int32 × CS) (hx : p.tables.exec = Jvm.exec) (hb : c.code = cX11_suppressed) (hr : meth.sig.returnType = (some .int)) (hml : c.maxLocals = 4) (hown : s.vm.findClass RX11 = some m.cls) (hts : ∀ w ∈ wzX11_suppressed, w.before args s = true) (hlocks : meth.locks = false) (hZ : zAMB s) (hA : ∀ q : Nat, s.heap.size ≤ q → A q) (hK : va_K (dC, dI) vwCl (cT Q) s) : ∀ (σ : CS) (x1 : Int32) (x2 : Int32) (x3 : Option Nat) (H : Heap) (locs : List Loc) (ls : Array Slot), f_X11_suppressed_19 N σ x1 x2 x3 = some R → z9h ≤ CS.hs σ → CP dC dI Q A s.heap σ H locs → lv_has ls 4 [(1, .int x1), (2, .int x2), (3, va_rf x3)] → W p l e ({ frames := 2, cells := CS.hs R.2 - z9h, slots := 17 * (CS.hs R.2 - z9h), locals := 60 * 2 }) s m args below meth c H locs (CS.hs σ - z9h) (17 * (CS.hs σ - z9h)) (MQ below (va_Qi (fun (r : Int32) (_ : Unit) => r = R.1) (fun (_ : Unit) (t : State) => zPost dC dI A (cW Q R.2) (cT Q) t ∧ t.heap.size = CS.hs R.2) A) args s (CS.hs R.2 - z9h) (17 * (CS.hs R.2 - z9h)) A) (F0 m 19 ls []) := by
  intro σ x1 x2 x3 H locs ls hf h0 hC hl
  unfold f_X11_suppressed_19 at hf
  rcases hf_oc hf with ⟨q2, hf⟩ | ⟨a3, q2, hf⟩
  ·
    subst q2
    have hl : lv_has ls 4 [(1, .int x1), (2, .int x2), (3, .null)] := hl
    refine lv_aload_nN hx hb dX11_suppressed_19 rfl (lv_at hl 2 rfl) ?_
    refine lv_ifnullN (tgt := 44) hx hb dX11_suppressed_20 (by decide) ?_
    exact j_X11_suppressed_44 l dC dI Q N z9h R hx hb hr hml hown hts hlocks hZ hA hK σ _ _ _ hf h0 hC (lv_sub hl [] rfl)
  ·
    subst q2
    have hl : lv_has ls 4 [(1, .int x1), (2, .int x2), (3, .ref a3)] := hl
    refine lv_aload_n hx hb dX11_suppressed_19 rfl (lv_at hl 2 rfl) ?_
    refine lv_ifnull hx hb dX11_suppressed_20 ?_
    refine lv_iload_n hx hb dX11_suppressed_23 rfl (lv_at hl 0 rfl) ?_
    refine lv_if_lt (tgt := 44) hx hb dX11_suppressed_24 (by decide) (fun c4 => ?_) (fun c4 => ?_)
    ·
      replace hf := (if_pos c4).symm.trans hf
      exact j_X11_suppressed_44 l dC dI Q N z9h R hx hb hr hml hown hts hlocks hZ hA hK σ _ _ _ hf h0 hC (lv_sub hl [] rfl)
    ·
      replace hf := (if_neg c4).symm.trans hf
      refine lv_iload_n hx hb dX11_suppressed_27 rfl (lv_at hl 0 rfl) ?_
      refine lv_aload_n hx hb dX11_suppressed_28 rfl (lv_at hl 2 rfl) ?_
      obtain ⟨b5, hf⟩ := hf_ite hf
      refine pGN_X8_4 (v := (CS.o σ a3 4)) hx hb hts i_X11_suppressed_X8 hown hK hC (va_Nw.use rfl (hZ.1 (.fieldLinkNest RX11 133 "StatementRules2$Thrown" "count" "I" "StatementRules2") (by decide +kernel))) (fun _ q9 => q9) dX11_suppressed_29 b5 rfl ?_
      refine lv_icmp_ge (tgt := 44) hx hb dX11_suppressed_32 (by decide) (fun c6 => ?_) (fun c6 => ?_)
      ·
        replace hf := (if_pos c6).symm.trans hf
        exact j_X11_suppressed_44 l dC dI Q N z9h R hx hb hr hml hown hts hlocks hZ hA hK σ _ _ _ hf h0 hC (lv_sub hl [] rfl)
      ·
        replace hf := (if_neg c6).symm.trans hf
        refine lv_iload_n hx hb dX11_suppressed_35 rfl (lv_at hl 1 rfl) ?_
        refine lv_if_lt (tgt := 44) hx hb dX11_suppressed_36 (by decide) (fun c7 => ?_) (fun c7 => ?_)
        ·
          replace hf := (if_pos c7).symm.trans hf
          exact j_X11_suppressed_44 l dC dI Q N z9h R hx hb hr hml hown hts hlocks hZ hA hK σ _ _ _ hf h0 hC (lv_sub hl [] rfl)
        ·
          replace hf := (if_neg c7).symm.trans hf
          refine lv_iload_n hx hb dX11_suppressed_39 rfl (lv_at hl 1 rfl) ?_
          refine lv_iconst (v := 1) hx hb dX11_suppressed_40 (by decide) ?_
          refine lv_icmp_le (tgt := 46) hx hb dX11_suppressed_41 (by decide) (fun c8 => ?_) (fun c8 => ?_)
          ·
            replace hf := (if_pos c8).symm.trans hf
            refine lv_iload_n hx hb dX11_suppressed_46 rfl (lv_at hl 1 rfl) ?_
            refine lv_if_ne (tgt := 57) hx hb dX11_suppressed_47 (by decide) (fun c9 => ?_) (fun c9 => ?_)
            ·
              replace hf := (if_neg c9).symm.trans hf
              refine lv_aload_n hx hb dX11_suppressed_57 rfl (lv_at hl 2 rfl) ?_
              refine pGN_X8_1 hx hb hts i_X11_suppressed_X8 hown hK hC (va_Nw.use rfl (hZ.1 (.fieldLinkNest RX11 141 "StatementRules2$Thrown" "numbers" "[I" "StatementRules2") (by decide +kernel))) (fun _ q9 => q9) dX11_suppressed_58 b5 ?_
              refine lv_iload_n hx hb dX11_suppressed_61 rfl (lv_at hl 0 rfl) ?_
              obtain ⟨b10, hf⟩ := hf_ite hf
              obtain ⟨k11, hk11⟩ := cPl (Q := Q) (s := σ) (a := (a3 + 2)) b10.1
              have hqk11 := hk11
              rw [cE3 (show CS.k σ (a3 + 2) = 3 from b10.2)] at hk11
              have he9 := hk11
              have hFc := cFree1 hC hA he9
              have hr9 : CS.hs σ ≤ CS.hs R.2 := Mono.go hf (mono_some (Nat.le_refl _))
              refine va_calli (va_runS (As := [.ref (a3 + 2), .int x1]) (rest := []) ⟨hx, hb, hml, hown, hts⟩ (c_X11_at l dC dI _ (a3 + 2) (Q.c 0) 8 (CS.oa σ (a3 + 2)) x1 (by decide)) (va_cwS 2 hts hX11_suppressed_X11_at_s125 rfl rfl rfl (by decide +kernel) ⟨(show 1 + 1 ≤ 2 by omega), (show 8 + (2 + 11) + 60 * 1 ≤ 60 * 2 by omega)⟩) ⟨zPre.blind, zPre.go hZ (cOne hC.1 he9) (hK.sub (tys' := [(Q.c 0, .int)]) [0] rfl) (cOneD hC.2.1 he9)⟩ rfl rfl hl.1 rfl (lv_room (Nat.le_of_ble_eq_true rfl)) dX11_suppressed_62 ⟨cAcc4 h0 hr9, cAcc5 h0 hr9⟩) hC.2.2.1 (fun q _ h => hFc q h) hFc (fun r12 u9 t9 H1 locs ht hvm hw hB hz1 hk1 hS => ?_)
              obtain ⟨⟨hP1, hK1, hD1⟩, hsz1⟩ := hB
              rw [ht] at hP1 hsz1
              have hC := cBack (σ' := σ) hC he9 (cSelf he9) (Eq.refl (CS.hs σ)) hk1 hP1 hsz1 hS
              generalize H1 = H at hC ⊢
              obtain rfl : r12 = (gAt (CS.oa σ (a3 + 2)) 8 x1) := hw
              obtain rfl := Option.some.inj hf
              exact W.iret (v := (gAt (CS.oa σ (a3 + 2)) 8 x1)) hx hb hr (fun t ht hW => ⟨⟨(gAt (CS.oa σ (a3 + 2)) 8 x1), (), rfl, rfl, ⟨by rw [ht]; exact hC.1, va_K.moved hW.alike hK, hC.2.1⟩, by rw [ht]; exact hC.2.2.2⟩, hC.2.2.1.F ht⟩) hC.2.2.1.2.2 dX11_suppressed_65
            ·
              replace hf := (if_pos c9).symm.trans hf
              refine lv_aload_n hx hb dX11_suppressed_50 rfl (lv_at hl 2 rfl) ?_
              refine pGN_X8_0 hx hb hts i_X11_suppressed_X8 hown hK hC (va_Nw.use rfl (hZ.1 (.fieldLinkNest RX11 138 "StatementRules2$Thrown" "kinds" "[I" "StatementRules2") (by decide +kernel))) (fun _ q9 => q9) dX11_suppressed_51 b5 ?_
              refine lv_goto (tgt := 61) hx hb dX11_suppressed_54 (by decide) ?_
              refine lv_iload_n hx hb dX11_suppressed_61 rfl (lv_at hl 0 rfl) ?_
              obtain ⟨b13, hf⟩ := hf_ite hf
              obtain ⟨k14, hk14⟩ := cPl (Q := Q) (s := σ) (a := (a3 + 1)) b13.1
              have hqk14 := hk14
              rw [cE3 (show CS.k σ (a3 + 1) = 3 from b13.2)] at hk14
              have he9 := hk14
              have hFc := cFree1 hC hA he9
              have hr9 : CS.hs σ ≤ CS.hs R.2 := Mono.go hf (mono_some (Nat.le_refl _))
              refine va_calli (va_runS (As := [.ref (a3 + 1), .int x1]) (rest := []) ⟨hx, hb, hml, hown, hts⟩ (c_X11_at l dC dI _ (a3 + 1) (Q.c 0) 8 (CS.oa σ (a3 + 1)) x1 (by decide)) (va_cwS 2 hts hX11_suppressed_X11_at_s125 rfl rfl rfl (by decide +kernel) ⟨(show 1 + 1 ≤ 2 by omega), (show 8 + (2 + 11) + 60 * 1 ≤ 60 * 2 by omega)⟩) ⟨zPre.blind, zPre.go hZ (cOne hC.1 he9) (hK.sub (tys' := [(Q.c 0, .int)]) [0] rfl) (cOneD hC.2.1 he9)⟩ rfl rfl hl.1 rfl (lv_room (Nat.le_of_ble_eq_true rfl)) dX11_suppressed_62 ⟨cAcc4 h0 hr9, cAcc5 h0 hr9⟩) hC.2.2.1 (fun q _ h => hFc q h) hFc (fun r15 u9 t9 H1 locs ht hvm hw hB hz1 hk1 hS => ?_)
              obtain ⟨⟨hP1, hK1, hD1⟩, hsz1⟩ := hB
              rw [ht] at hP1 hsz1
              have hC := cBack (σ' := σ) hC he9 (cSelf he9) (Eq.refl (CS.hs σ)) hk1 hP1 hsz1 hS
              generalize H1 = H at hC ⊢
              obtain rfl : r15 = (gAt (CS.oa σ (a3 + 1)) 8 x1) := hw
              obtain rfl := Option.some.inj hf
              exact W.iret (v := (gAt (CS.oa σ (a3 + 1)) 8 x1)) hx hb hr (fun t ht hW => ⟨⟨(gAt (CS.oa σ (a3 + 1)) 8 x1), (), rfl, rfl, ⟨by rw [ht]; exact hC.1, va_K.moved hW.alike hK, hC.2.1⟩, by rw [ht]; exact hC.2.2.2⟩, hC.2.2.1.F ht⟩) hC.2.2.1.2.2 dX11_suppressed_65
          ·
            replace hf := (if_neg c8).symm.trans hf
            exact j_X11_suppressed_44 l dC dI Q N z9h R hx hb hr hml hown hts hlocks hZ hA hK σ _ _ _ hf h0 hC (lv_sub hl [] rfl)
set_option maxHeartbeats 4000000 in
set_option maxRecDepth 100000 in
theorem c_X11_suppressed (l : Launch) (dC : Nat → ClassId) (dI : Nat → Nat → Nat) (Q : CQ) (N : Nat) (σ : CS) (x1 : Int32) (x2 : Int32) (R : Int32 × CS) (hf : f_X11_suppressed N σ x1 x2 = some R) : Met l yX11_suppressed wzX11_suppressed ({ frames := 2, cells := CS.hs R.2 - CS.hs σ, slots := 17 * (CS.hs R.2 - CS.hs σ), locals := 60 * 2 }) (va_Pc [.ref (Q.o 0), .int x1, .int x2] (zPre dC dI (CS.hs σ) (cW Q σ) (cT Q))) (va_Qi (fun (r : Int32) (_ : Unit) => r = R.1) (fun (_ : Unit) (t : State) => zPost dC dI (va_A (cW Q σ) (CS.hs σ)) (cW Q R.2) (cT Q) t ∧ t.heap.size = CS.hs R.2) (va_A (cW Q σ) (CS.hs σ))) (CS.hs R.2 - CS.hs σ) (17 * (CS.hs R.2 - CS.hs σ)) (va_A (cW Q σ) (CS.hs σ)) := by
  refine Met.ofW (cc := cX11_suppressed) (maxL := 4) (ret := (some .int)) (by decide) rfl ?_
  intro p e s m args below meth c s₁ B hml hv
  obtain ⟨rfl, hsz, hZ, hP, hK, hD0⟩ := hv
  have hx := B.exec
  have hb := B.bytes
  have hr := B.returns
  have hts := atoms_spec (ws := wzX11_suppressed) B.pre
  have hown : s.vm.findClass RX11 = some m.cls := findClass_of_methodNamed B.named
  have hlocks := B.notSynchronized
  have hD := hD0.self (sz := CS.hs σ)
  generalize hAe : va_A (cW Q σ) (CS.hs σ) = A at hD ⊢
  have hA : ∀ q : Nat, s.heap.size ≤ q → A q := fun q h => by rw [← hAe]; exact Or.inr (hsz ▸ h)
  have hC : CP dC dI Q A s.heap σ s.heap [] := ⟨hP, hD, va_S.rf, hsz⟩
  have h0 : CS.hs σ ≤ CS.hs σ := Nat.le_refl _
  have hl := lv_entry ([.ref (Q.o 0), .int x1, .int x2]) (n := 4) (Nat.le_of_ble_eq_true rfl)
  rw [lg_entry_eq]
  generalize (lg_sl ([.ref (Q.o 0), .int x1, .int x2]) ++ List.replicate (4 - (lg_sl ([.ref (Q.o 0), .int x1, .int x2])).length) Slot.unset).toArray = ls at hl ⊢
  have hl : lv_has ls 4 [(0, .ref (Q.o 0)), (1, .int x1), (2, .int x2)] := hl
  unfold f_X11_suppressed at hf
  refine W.widen (k := CS.hs σ - CS.hs σ) (n := 17 * (CS.hs σ - CS.hs σ)) (Nat.zero_le _) (Nat.zero_le _) ?_
  refine lv_aload_n hx hb dX11_suppressed_0 rfl (lv_at hl 0 rfl) ?_
  refine cG_8 (v := (σ.i 8)) hx hb hts i_X11_suppressed_X11 hown hK hC (hts (.fieldLink RX11 85 "StatementRules2" "hasRun" "Z") k_X11_suppressed_fieldLink_RX11_85_SR_hasRun_Z) (fun _ q9 => q9) dX11_suppressed_1 rfl ?_
  refine lv_if_eq (tgt := 17) hx hb dX11_suppressed_4 (by decide) (fun c1 => ?_) (fun c1 => ?_)
  ·
    replace hf := (if_pos c1).symm.trans hf
    refine lv_null hx hb dX11_suppressed_17 ?_
    refine lv_astore_nN (lv' := [(3, .null), (0, .ref (Q.o 0)), (1, .int x1), (2, .int x2)]) hx hb dX11_suppressed_18 rfl hl (by decide) rfl (fun ls hl => ?_)
    exact j_X11_suppressed_19 l dC dI Q N (CS.hs σ) R hx hb hr hml hown hts hlocks hZ hA hK σ x1 x2 none _ _ _ hf h0 hC (lv_sub hl [2, 3, 0] rfl)
  ·
    replace hf := (if_neg c1).symm.trans hf
    refine lv_aload_n hx hb dX11_suppressed_7 rfl (lv_at hl 0 rfl) ?_
    refine cG_4 hx hb hts i_X11_suppressed_X11 hown hK hC (hts (.fieldLink RX11 46 "StatementRules2" "machine" "LStatementRules2$Machine;") k_X11_suppressed_fieldLink_RX11_46_SR_machine_LSR_Machine) (fun _ q9 => q9) dX11_suppressed_8 ?_
    obtain ⟨p16, hcp16, hf⟩ := hf_bind hf
    have mo17 : CS.hs σ ≤ CS.hs p16.2 := Mono.go hcp16 (m_X3_lastThrown N σ)
    have hr9 : CS.hs p16.2 ≤ CS.hs R.2 := Mono.go hf (mono_oc (m_X11_suppressed_19 N p16.2 x1 x2 none) (fun a21 => (m_X11_suppressed_19 N p16.2 x1 x2 (some a21))))
    have hFc := cFree hC hA
    refine va_callq (va_runV (As := []) (rest := []) ⟨hx, hb, hml, hown, hts⟩ (c_X3_lastThrown l dC dI Q N σ p16 hcp16) (cwV 0 hts hX11_suppressed_X3_lastThrown_v129 rfl rfl rfl (by decide +kernel) ⟨(show 1 + 1 ≤ 2 by omega), (show 8 + (1 + 11) + 60 * 1 ≤ 60 * 2 by omega)⟩) ⟨zPre.blind, va_recv hK hC.1 (ci := 2) (q0 := 7) rfl rfl, cPre_go hZ hK hC⟩ rfl rfl hl.1 rfl (lv_room (Nat.le_of_ble_eq_true rfl)) dX11_suppressed_11 (cAcc h0 mo17 hr9)) hC.2.2.1 (fun q _ h => hFc q h) hFc (fun r18 u9 t9 H1 locs ht hvm hw hB hz1 hk1 hS => ?_)
    obtain ⟨⟨hP, hK1, hD1⟩, hsz1⟩ := hB
    rw [ht] at hP hsz1
    have hC : CP dC dI Q A s.heap p16.2 H1 locs := ⟨hP, hD1.weaken (fun _ _ _ h => hFc _ h), hS, hsz1⟩
    generalize H1 = H at hC ⊢
    have h19 : (CS.hs σ) ≤ CS.hs p16.2 := Nat.le_trans h0 mo17
    refine W.widen (k := CS.hs p16.2 - (CS.hs σ)) (n := 17 * (CS.hs p16.2 - (CS.hs σ))) (cAcc2 h0 mo17) (cAcc3 h0 mo17) ?_
    obtain rfl : r18 = p16.1 := hw
    rcases hf_oc hf with ⟨q20, hf⟩ | ⟨a21, q20, hf⟩
    ·
      refine W.eq (congrArg (fun v9 => F0 m 14 ls (va_rf v9 :: [])) q20) ?_
      refine W.eq (g2 := F0 m 14 ls (.null :: [])) rfl ?_
      refine lv_goto (tgt := 18) hx hb dX11_suppressed_14 (by decide) ?_
      refine lv_astore_nN (lv' := [(3, .null), (0, .ref (Q.o 0)), (1, .int x1), (2, .int x2)]) hx hb dX11_suppressed_18 rfl hl (by decide) rfl (fun ls hl => ?_)
      exact j_X11_suppressed_19 l dC dI Q N (CS.hs σ) R hx hb hr hml hown hts hlocks hZ hA hK p16.2 x1 x2 none _ _ _ hf h19 hC (lv_sub hl [2, 3, 0] rfl)
    ·
      refine W.eq (congrArg (fun v9 => F0 m 14 ls (va_rf v9 :: [])) q20) ?_
      refine W.eq (g2 := F0 m 14 ls (.ref a21 :: [])) rfl ?_
      refine lv_goto (tgt := 18) hx hb dX11_suppressed_14 (by decide) ?_
      refine lv_astore_n (lv' := [(3, .ref a21), (0, .ref (Q.o 0)), (1, .int x1), (2, .int x2)]) hx hb dX11_suppressed_18 rfl hl (by decide) rfl (fun ls hl => ?_)
      exact j_X11_suppressed_19 l dC dI Q N (CS.hs σ) R hx hb hr hml hown hts hlocks hZ hA hK p16.2 x1 x2 (some a21) _ _ _ hf h19 hC (lv_sub hl [2, 3, 0] rfl)
theorem k_X11_under_fieldLink_RX11_16_SR_told_LSR_Told : Cond.fieldLink RX11 16 "StatementRules2" "told" "LStatementRules2$Told;" ∈ wzX11_under := List.mem_cons_of_mem _ (List.mem_append_left _ (List.mem_of_getElem? (i := 0) rfl))
theorem i_X11_under_X11 : ∀ w ∈ wsX110, w ∈ wzX11_under := fun _ h => List.mem_cons_of_mem _ (List.mem_append_right _ (List.mem_append_left _ (h)))
set_option maxHeartbeats 4000000 in
set_option maxRecDepth 100000 in
theorem j_X11_under_22 {p : Program} {e : Env} {s : State} {m : MethodId} {args : Array Value} {below : List Frame} {meth : Method} {c : Code} {A : Nat → Prop} (l : Launch) (dC : Nat → ClassId) (dI : Nat → Nat → Nat) (Q : CQ) (N : Nat) (z9h : Nat) (R : Int32 × CS) (hx : p.tables.exec = Jvm.exec) (hb : c.code = cX11_under) (hr : meth.sig.returnType = (some .int)) (hml : c.maxLocals = 3) (hown : s.vm.findClass RX11 = some m.cls) (hts : ∀ w ∈ wzX11_under, w.before args s = true) (hlocks : meth.locks = false) (hZ : zAMB s) (hA : ∀ q : Nat, s.heap.size ≤ q → A q) (hK : va_K (dC, dI) vwCl (cT Q) s) : ∀ (σ : CS) (H : Heap) (locs : List Loc) (ls : Array Slot), f_X11_under_22 N σ = some R → z9h ≤ CS.hs σ → CP dC dI Q A s.heap σ H locs → lv_has ls 3 [] → W p l e ({ frames := 3, cells := CS.hs R.2 - z9h, slots := 17 * (CS.hs R.2 - z9h), locals := 60 * 3 }) s m args below meth c H locs (CS.hs σ - z9h) (17 * (CS.hs σ - z9h)) (MQ below (va_Qi (fun (r : Int32) (_ : Unit) => r = R.1) (fun (_ : Unit) (t : State) => zPost dC dI A (cW Q R.2) (cT Q) t ∧ t.heap.size = CS.hs R.2) A) args s (CS.hs R.2 - z9h) (17 * (CS.hs R.2 - z9h)) A) (F0 m 22 ls []) := by
  intro σ  H locs ls hf h0 hC hl
  unfold f_X11_under_22 at hf
  refine lv_iconst (v := (-1)) hx hb dX11_under_22 (by decide) ?_
  obtain rfl := Option.some.inj hf
  exact W.iret (v := (-1)) hx hb hr (fun t ht hW => ⟨⟨(-1), (), rfl, rfl, ⟨by rw [ht]; exact hC.1, va_K.moved hW.alike hK, hC.2.1⟩, by rw [ht]; exact hC.2.2.2⟩, hC.2.2.1.F ht⟩) hC.2.2.1.2.2 dX11_under_23
set_option maxHeartbeats 4000000 in
set_option maxRecDepth 100000 in
theorem c_X11_under (l : Launch) (dC : Nat → ClassId) (dI : Nat → Nat → Nat) (Q : CQ) (N : Nat) (σ : CS) (x1 : Int32) (x2 : Int32) (R : Int32 × CS) (hf : f_X11_under N σ x1 x2 = some R) : Met l yX11_under wzX11_under ({ frames := 3, cells := CS.hs R.2 - CS.hs σ, slots := 17 * (CS.hs R.2 - CS.hs σ), locals := 60 * 3 }) (va_Pc [.ref (Q.o 0), .int x1, .int x2] (zPre dC dI (CS.hs σ) (cW Q σ) (cT Q))) (va_Qi (fun (r : Int32) (_ : Unit) => r = R.1) (fun (_ : Unit) (t : State) => zPost dC dI (va_A (cW Q σ) (CS.hs σ)) (cW Q R.2) (cT Q) t ∧ t.heap.size = CS.hs R.2) (va_A (cW Q σ) (CS.hs σ))) (CS.hs R.2 - CS.hs σ) (17 * (CS.hs R.2 - CS.hs σ)) (va_A (cW Q σ) (CS.hs σ)) := by
  refine Met.ofW (cc := cX11_under) (maxL := 3) (ret := (some .int)) (by decide) rfl ?_
  intro p e s m args below meth c s₁ B hml hv
  obtain ⟨rfl, hsz, hZ, hP, hK, hD0⟩ := hv
  have hx := B.exec
  have hb := B.bytes
  have hr := B.returns
  have hts := atoms_spec (ws := wzX11_under) B.pre
  have hown : s.vm.findClass RX11 = some m.cls := findClass_of_methodNamed B.named
  have hlocks := B.notSynchronized
  have hD := hD0.self (sz := CS.hs σ)
  generalize hAe : va_A (cW Q σ) (CS.hs σ) = A at hD ⊢
  have hA : ∀ q : Nat, s.heap.size ≤ q → A q := fun q h => by rw [← hAe]; exact Or.inr (hsz ▸ h)
  have hC : CP dC dI Q A s.heap σ s.heap [] := ⟨hP, hD, va_S.rf, hsz⟩
  have h0 : CS.hs σ ≤ CS.hs σ := Nat.le_refl _
  have hl := lv_entry ([.ref (Q.o 0), .int x1, .int x2]) (n := 3) (Nat.le_of_ble_eq_true rfl)
  rw [lg_entry_eq]
  generalize (lg_sl ([.ref (Q.o 0), .int x1, .int x2]) ++ List.replicate (3 - (lg_sl ([.ref (Q.o 0), .int x1, .int x2])).length) Slot.unset).toArray = ls at hl ⊢
  have hl : lv_has ls 3 [(0, .ref (Q.o 0)), (1, .int x1), (2, .int x2)] := hl
  unfold f_X11_under at hf
  refine W.widen (k := CS.hs σ - CS.hs σ) (n := 17 * (CS.hs σ - CS.hs σ)) (Nat.zero_le _) (Nat.zero_le _) ?_
  refine lv_aload_n hx hb dX11_under_0 rfl (lv_at hl 0 rfl) ?_
  refine cG_1 hx hb hts i_X11_under_X11 hown hK hC (hts (.fieldLink RX11 16 "StatementRules2" "told" "LStatementRules2$Told;") k_X11_under_fieldLink_RX11_16_SR_told_LSR_Told) (fun _ q9 => q9) dX11_under_1 ?_
  refine lv_iload_n hx hb dX11_under_4 rfl (lv_at hl 1 rfl) ?_
  obtain ⟨p1, hcp1, hf⟩ := hf_bind hf
  have mo2 : CS.hs σ ≤ CS.hs p1.2 := Mono.go hcp1 (m_X10_isKind N σ x1)
  have hr9 : CS.hs p1.2 ≤ CS.hs R.2 := Mono.go hf (mono_ite (m_X11_under_22 N p1.2) (mono_bind (m_X10_isKind N p1.2 x2) (fun p6 => (mono_ite (m_X11_under_22 N p6.2) (mono_bind (m_X10_isUnder N p6.2 x1 x2) (fun p11 => (mono_ite (mono_some (Nat.le_refl _)) (mono_some (Nat.le_refl _)))))))))
  have hFc := cFree hC hA
  refine va_calli (va_runV (As := [.int x1]) (rest := []) ⟨hx, hb, hml, hown, hts⟩ (c_X10_isKind l dC dI Q N σ x1 p1 hcp1) (cwV 1 hts hX11_under_X10_isKind_v62 rfl rfl rfl (by decide +kernel) ⟨(show 1 + 1 ≤ 3 by omega), (show 8 + (2 + 11) + 60 * 1 ≤ 60 * 3 by omega)⟩) ⟨zPre.blind, va_recv hK hC.1 (ci := 9) (q0 := 1) rfl rfl, cPre_go hZ hK hC⟩ rfl rfl hl.1 rfl (lv_room (Nat.le_of_ble_eq_true rfl)) dX11_under_5 (cAcc h0 mo2 hr9)) hC.2.2.1 (fun q _ h => hFc q h) hFc (fun r3 u9 t9 H1 locs ht hvm hw hB hz1 hk1 hS => ?_)
  obtain ⟨⟨hP, hK1, hD1⟩, hsz1⟩ := hB
  rw [ht] at hP hsz1
  have hC : CP dC dI Q A s.heap p1.2 H1 locs := ⟨hP, hD1.weaken (fun _ _ _ h => hFc _ h), hS, hsz1⟩
  generalize H1 = H at hC ⊢
  have h4 : (CS.hs σ) ≤ CS.hs p1.2 := Nat.le_trans h0 mo2
  refine W.widen (k := CS.hs p1.2 - (CS.hs σ)) (n := 17 * (CS.hs p1.2 - (CS.hs σ))) (cAcc2 h0 mo2) (cAcc3 h0 mo2) ?_
  obtain rfl : r3 = p1.1 := hw
  refine lv_if_eq (tgt := 22) hx hb dX11_under_8 (by decide) (fun c5 => ?_) (fun c5 => ?_)
  ·
    replace hf := (if_pos c5).symm.trans hf
    exact j_X11_under_22 l dC dI Q N (CS.hs σ) R hx hb hr hml hown hts hlocks hZ hA hK p1.2 _ _ _ hf h4 hC (lv_sub hl [] rfl)
  ·
    replace hf := (if_neg c5).symm.trans hf
    refine lv_aload_n hx hb dX11_under_11 rfl (lv_at hl 0 rfl) ?_
    refine cG_1 hx hb hts i_X11_under_X11 hown hK hC (hts (.fieldLink RX11 16 "StatementRules2" "told" "LStatementRules2$Told;") k_X11_under_fieldLink_RX11_16_SR_told_LSR_Told) (fun _ q9 => q9) dX11_under_12 ?_
    refine lv_iload_n hx hb dX11_under_15 rfl (lv_at hl 2 rfl) ?_
    obtain ⟨p6, hcp6, hf⟩ := hf_bind hf
    have mo7 : CS.hs p1.2 ≤ CS.hs p6.2 := Mono.go hcp6 (m_X10_isKind N p1.2 x2)
    have hr9 : CS.hs p6.2 ≤ CS.hs R.2 := Mono.go hf (mono_ite (m_X11_under_22 N p6.2) (mono_bind (m_X10_isUnder N p6.2 x1 x2) (fun p11 => (mono_ite (mono_some (Nat.le_refl _)) (mono_some (Nat.le_refl _))))))
    have hFc := cFree hC hA
    refine va_calli (va_runV (As := [.int x2]) (rest := []) ⟨hx, hb, hml, hown, hts⟩ (c_X10_isKind l dC dI Q N p1.2 x2 p6 hcp6) (cwV 1 hts hX11_under_X10_isKind_v62 rfl rfl rfl (by decide +kernel) ⟨(show 1 + 1 ≤ 3 by omega), (show 8 + (2 + 11) + 60 * 1 ≤ 60 * 3 by omega)⟩) ⟨zPre.blind, va_recv hK hC.1 (ci := 9) (q0 := 1) rfl rfl, cPre_go hZ hK hC⟩ rfl rfl hl.1 rfl (lv_room (Nat.le_of_ble_eq_true rfl)) dX11_under_16 (cAcc h4 mo7 hr9)) hC.2.2.1 (fun q _ h => hFc q h) hFc (fun r8 u9 t9 H1 locs ht hvm hw hB hz1 hk1 hS => ?_)
    obtain ⟨⟨hP, hK1, hD1⟩, hsz1⟩ := hB
    rw [ht] at hP hsz1
    have hC : CP dC dI Q A s.heap p6.2 H1 locs := ⟨hP, hD1.weaken (fun _ _ _ h => hFc _ h), hS, hsz1⟩
    generalize H1 = H at hC ⊢
    have h9 : (CS.hs σ) ≤ CS.hs p6.2 := Nat.le_trans h4 mo7
    refine W.widen (k := CS.hs p6.2 - (CS.hs σ)) (n := 17 * (CS.hs p6.2 - (CS.hs σ))) (cAcc2 h4 mo7) (cAcc3 h4 mo7) ?_
    obtain rfl : r8 = p6.1 := hw
    refine lv_if_ne (tgt := 24) hx hb dX11_under_19 (by decide) (fun c10 => ?_) (fun c10 => ?_)
    ·
      replace hf := (if_neg c10).symm.trans hf
      refine lv_aload_n hx hb dX11_under_24 rfl (lv_at hl 0 rfl) ?_
      refine cG_1 hx hb hts i_X11_under_X11 hown hK hC (hts (.fieldLink RX11 16 "StatementRules2" "told" "LStatementRules2$Told;") k_X11_under_fieldLink_RX11_16_SR_told_LSR_Told) (fun _ q9 => q9) dX11_under_25 ?_
      refine lv_iload_n hx hb dX11_under_28 rfl (lv_at hl 1 rfl) ?_
      refine lv_iload_n hx hb dX11_under_29 rfl (lv_at hl 2 rfl) ?_
      obtain ⟨p11, hcp11, hf⟩ := hf_bind hf
      have mo12 : CS.hs p6.2 ≤ CS.hs p11.2 := Mono.go hcp11 (m_X10_isUnder N p6.2 x1 x2)
      have hr9 : CS.hs p11.2 ≤ CS.hs R.2 := Mono.go hf (mono_ite (mono_some (Nat.le_refl _)) (mono_some (Nat.le_refl _)))
      have hFc := cFree hC hA
      refine va_calli (va_runV (As := [.int x1, .int x2]) (rest := []) ⟨hx, hb, hml, hown, hts⟩ (c_X10_isUnder l dC dI Q N p6.2 x1 x2 p11 hcp11) (cwV 2 hts hX11_under_X10_isUnder_v144 rfl rfl rfl (by decide +kernel) ⟨(show 2 + 1 ≤ 3 by omega), (show 8 + (5 + 11) + 60 * 2 ≤ 60 * 3 by omega)⟩) ⟨zPre.blind, va_recv hK hC.1 (ci := 9) (q0 := 1) rfl rfl, cPre_go hZ hK hC⟩ rfl rfl hl.1 rfl (lv_room (Nat.le_of_ble_eq_true rfl)) dX11_under_30 (cAcc h9 mo12 hr9)) hC.2.2.1 (fun q _ h => hFc q h) hFc (fun r13 u9 t9 H1 locs ht hvm hw hB hz1 hk1 hS => ?_)
      obtain ⟨⟨hP, hK1, hD1⟩, hsz1⟩ := hB
      rw [ht] at hP hsz1
      have hC : CP dC dI Q A s.heap p11.2 H1 locs := ⟨hP, hD1.weaken (fun _ _ _ h => hFc _ h), hS, hsz1⟩
      generalize H1 = H at hC ⊢
      have h14 : (CS.hs σ) ≤ CS.hs p11.2 := Nat.le_trans h9 mo12
      refine W.widen (k := CS.hs p11.2 - (CS.hs σ)) (n := 17 * (CS.hs p11.2 - (CS.hs σ))) (cAcc2 h9 mo12) (cAcc3 h9 mo12) ?_
      obtain rfl : r13 = p11.1 := hw
      refine lv_if_eq (tgt := 40) hx hb dX11_under_33 (by decide) (fun c15 => ?_) (fun c15 => ?_)
      ·
        replace hf := (if_pos c15).symm.trans hf
        refine lv_iconst (v := 0) hx hb dX11_under_40 (by decide) ?_
        obtain rfl := Option.some.inj hf
        exact W.iret (v := 0) hx hb hr (fun t ht hW => ⟨⟨0, (), rfl, rfl, ⟨by rw [ht]; exact hC.1, va_K.moved hW.alike hK, hC.2.1⟩, by rw [ht]; exact hC.2.2.2⟩, hC.2.2.1.F ht⟩) hC.2.2.1.2.2 dX11_under_41
      ·
        replace hf := (if_neg c15).symm.trans hf
        refine lv_iconst (v := 1) hx hb dX11_under_36 (by decide) ?_
        refine lv_goto (tgt := 41) hx hb dX11_under_37 (by decide) ?_
        obtain rfl := Option.some.inj hf
        exact W.iret (v := 1) hx hb hr (fun t ht hW => ⟨⟨1, (), rfl, rfl, ⟨by rw [ht]; exact hC.1, va_K.moved hW.alike hK, hC.2.1⟩, by rw [ht]; exact hC.2.2.2⟩, hC.2.2.1.F ht⟩) hC.2.2.1.2.2 dX11_under_41
    ·
      replace hf := (if_pos c10).symm.trans hf
      exact j_X11_under_22 l dC dI Q N (CS.hs σ) R hx hb hr hml hown hts hlocks hZ hA hK p6.2 _ _ _ hf h9 hC (lv_sub hl [] rfl)
