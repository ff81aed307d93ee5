theorem k_X3_note_fieldLink_RX3_66_SR_Machine_rowCount_I : Cond.fieldLink RX3 66 "StatementRules2$Machine" "rowCount" "I" ∈ wzX3_note := List.mem_cons_of_mem _ (List.mem_append_left _ (List.mem_of_getElem? (i := 0) rfl))
theorem i_X3_note_X3 : ∀ w ∈ wsX30, w ∈ wzX3_note := fun _ h => List.mem_cons_of_mem _ (List.mem_append_right _ (List.mem_append_left _ (h)))
theorem k_X3_note_fieldLink_RX3_33_SR_Machine_rows_I : Cond.fieldLink RX3 33 "StatementRules2$Machine" "rows" "[I" ∈ wzX3_note := List.mem_cons_of_mem _ (List.mem_append_left _ (List.mem_of_getElem? (i := 1) rfl))
theorem k_X3_note_initialized_RX11 : Cond.initialized RX11 ∈ wzX3_note := List.mem_cons_of_mem _ (List.mem_append_left _ (List.mem_of_getElem? (i := 2) rfl))
theorem k_X3_note_static_yX11_put : Cond.static yX11_put ∈ wzX3_note := List.mem_cons_of_mem _ (List.mem_append_left _ (List.mem_of_getElem? (i := 3) rfl))
set_option maxHeartbeats 4000000 in
set_option maxRecDepth 100000 in
theorem c_X3_note (l : Launch) (dC : Nat → ClassId) (dI : Nat → Nat → Nat) (Q : CQ) (N : Nat) (σ : CS) (x1 : Int32) (x2 : Int32) (R : Unit × CS) (hf : f_X3_note N σ x1 x2 = some R) : Met l yX3_note wzX3_note ({ frames := 2, cells := CS.hs R.2 - CS.hs σ, slots := 17 * (CS.hs R.2 - CS.hs σ), locals := 60 * 2 }) (va_Pc [.ref (Q.o 7), .int x1, .int x2] (zPre dC dI (CS.hs σ) (cW Q σ) (cT Q))) (va_Qv (fun (_ : Unit) => True) (fun (_ : Unit) (t : State) => zPost dC dI (va_A (cW Q σ) (CS.hs σ)) (cW Q R.2) (cT Q) t ∧ t.heap.size = CS.hs R.2) (va_A (cW Q σ) (CS.hs σ))) (CS.hs R.2 - CS.hs σ) (17 * (CS.hs R.2 - CS.hs σ)) (va_A (cW Q σ) (CS.hs σ)) := by
  refine Met.ofW (cc := cX3_note) (maxL := 3) (ret := none) (by decide) rfl ?_
  intro p e s m args below meth c s₁ B hml hv
  obtain ⟨rfl, hsz, hZ, hP, hK, hD0⟩ := hv
  have hx := B.exec
  have hb := B.bytes
  have hr := B.returns
  have hts := atoms_spec (ws := wzX3_note) B.pre
  have hown : s.vm.findClass RX3 = some m.cls := findClass_of_methodNamed B.named
  have hlocks := B.notSynchronized
  have hD := hD0.self (sz := CS.hs σ)
  generalize hAe : va_A (cW Q σ) (CS.hs σ) = A at hD ⊢
  have hA : ∀ q : Nat, s.heap.size ≤ q → A q := fun q h => by rw [← hAe]; exact Or.inr (hsz ▸ h)
  have hC : CP dC dI Q A s.heap σ s.heap [] := ⟨hP, hD, va_S.rf, hsz⟩
  have h0 : CS.hs σ ≤ CS.hs σ := Nat.le_refl _
  have hl := lv_entry ([.ref (Q.o 7), .int x1, .int x2]) (n := 3) (Nat.le_of_ble_eq_true rfl)
  rw [lg_entry_eq]
  generalize (lg_sl ([.ref (Q.o 7), .int x1, .int x2]) ++ List.replicate (3 - (lg_sl ([.ref (Q.o 7), .int x1, .int x2])).length) Slot.unset).toArray = ls at hl ⊢
  have hl : lv_has ls 3 [(0, .ref (Q.o 7)), (1, .int x1), (2, .int x2)] := hl
  unfold f_X3_note at hf
  refine W.widen (k := CS.hs σ - CS.hs σ) (n := 17 * (CS.hs σ - CS.hs σ)) (Nat.zero_le _) (Nat.zero_le _) ?_
  refine lv_aload_n hx hb dX3_note_0 rfl (lv_at hl 0 rfl) ?_
  refine cG_69 (v := (σ.i 69)) hx hb hts i_X3_note_X3 hown hK hC (hts (.fieldLink RX3 66 "StatementRules2$Machine" "rowCount" "I") k_X3_note_fieldLink_RX3_66_SR_Machine_rowCount_I) (fun _ q9 => q9) dX3_note_1 rfl ?_
  refine lv_sipush (v := 200) hx hb dX3_note_4 (by decide) ?_
  refine lv_icmp_ge (tgt := 50) hx hb dX3_note_7 (by decide) (fun c1 => ?_) (fun c1 => ?_)
  ·
    replace hf := (if_pos c1).symm.trans hf
    obtain rfl := Option.some.inj hf
    exact W.vret hx hb hr (fun t ht hW => ⟨⟨(), rfl, trivial, ⟨by rw [ht]; exact hC.1, va_K.moved hW.alike hK, hC.2.1⟩, by rw [ht]; exact hC.2.2.2⟩, hC.2.2.1.F ht⟩) hC.2.2.1.2.2 dX3_note_50
  ·
    replace hf := (if_neg c1).symm.trans hf
    refine lv_aload_n hx hb dX3_note_10 rfl (lv_at hl 0 rfl) ?_
    refine cG_64 hx hb hts i_X3_note_X3 hown hK hC (hts (.fieldLink RX3 33 "StatementRules2$Machine" "rows" "[I") k_X3_note_fieldLink_RX3_33_SR_Machine_rows_I) (fun _ q9 => q9) dX3_note_11 ?_
    refine lv_iconst (v := 2) hx hb dX3_note_14 (by decide) ?_
    refine lv_aload_n hx hb dX3_note_15 rfl (lv_at hl 0 rfl) ?_
    refine cG_69 (v := (σ.i 69)) hx hb hts i_X3_note_X3 hown hK hC (hts (.fieldLink RX3 66 "StatementRules2$Machine" "rowCount" "I") k_X3_note_fieldLink_RX3_66_SR_Machine_rowCount_I) (fun _ q9 => q9) dX3_note_16 rfl ?_
    refine lv_imul hx hb dX3_note_19 ?_
    refine lv_iload_n hx hb dX3_note_20 rfl (lv_at hl 1 rfl) ?_
    have he9 := (cArr_64 (Q := Q) (σ := σ))
    have hFc := cFree1 hC hA he9
    have hr9 : CS.hs σ ≤ CS.hs R.2 := Mono.go hf (mono_some (Nat.le_refl _))
    refine va_callv (va_runSN (As := [.ref (Q.q 64), .int (2 * (σ.i 69)), .int x1]) (rest := []) ⟨hx, hb, hml, hown, hts⟩ (c_X11_put l dC dI _ (Q.q 64) (Q.c 0) 400 (σ.a 64) (2 * (σ.i 69)) x1 (by decide)) ⟨va_cnB 3 hts hX3_note_X11_put_n50 rfl rfl rfl (hZ.1 (.methodLinkNest RX3 50 yX11_put "StatementRules2") (by decide +kernel)) (hts (.initialized RX11) k_X3_note_initialized_RX11) (by decide +kernel) ⟨(show 1 + 1 ≤ 2 by omega), (show 8 + (3 + 11) + 60 * 1 ≤ 60 * 2 by omega)⟩, (hts (.static yX11_put) k_X3_note_static_yX11_put), trivial⟩ ⟨zPre.blind, zPre.go hZ (cOne hC.1 he9) (hK.sub (tys' := [(Q.c 0, .int)]) [0] rfl) (cOneD hC.2.1 he9)⟩ rfl rfl hl.1 rfl (lv_room (Nat.le_of_ble_eq_true rfl)) dX3_note_21 ⟨cAcc4 h0 hr9, cAcc5 h0 hr9⟩) hC.2.2.1 (fun q _ h => hFc q h) hFc (fun u9 t9 H1 locs ht hvm hw hB hz1 hk1 hS => ?_)
    obtain ⟨⟨hP1, hK1, hD1⟩, hsz1⟩ := hB
    rw [ht] at hP1 hsz1
    have hC := cBack (σ' := CS.putA σ 64 (gPut (σ.a 64) 400 (2 * (σ.i 69)) x1)) hC he9 cPutA_64 (cPutA_h _ _ _) hk1 hP1 hsz1 hS
    generalize H1 = H at hC ⊢
    refine lv_aload_n hx hb dX3_note_24 rfl (lv_at hl 0 rfl) ?_
    refine cG_64 hx hb hts i_X3_note_X3 hown hK hC (hts (.fieldLink RX3 33 "StatementRules2$Machine" "rows" "[I") k_X3_note_fieldLink_RX3_33_SR_Machine_rows_I) (fun _ q9 => q9) dX3_note_25 ?_
    refine lv_iconst (v := 2) hx hb dX3_note_28 (by decide) ?_
    refine lv_aload_n hx hb dX3_note_29 rfl (lv_at hl 0 rfl) ?_
    refine cG_69 (v := (σ.i 69)) hx hb hts i_X3_note_X3 hown hK hC (hts (.fieldLink RX3 66 "StatementRules2$Machine" "rowCount" "I") k_X3_note_fieldLink_RX3_66_SR_Machine_rowCount_I) (fun _ q9 => q9) dX3_note_30 rfl ?_
    refine lv_imul hx hb dX3_note_33 ?_
    refine lv_iconst (v := 1) hx hb dX3_note_34 (by decide) ?_
    refine lv_iadd hx hb dX3_note_35 ?_
    refine lv_iload_n hx hb dX3_note_36 rfl (lv_at hl 2 rfl) ?_
    have he9 := (cArr_64 (Q := Q) (σ := CS.putA σ 64 (gPut (σ.a 64) 400 (2 * (σ.i 69)) x1)))
    have hFc := cFree1 hC hA he9
    have hr9 : CS.hs σ ≤ CS.hs R.2 := Mono.go hf (mono_some (Nat.le_refl _))
    refine va_callv (va_runSN (As := [.ref (Q.q 64), .int ((2 * (σ.i 69)) + 1), .int x2]) (rest := []) ⟨hx, hb, hml, hown, hts⟩ (c_X11_put l dC dI _ (Q.q 64) (Q.c 0) 400 (CS.a (CS.putA σ 64 (gPut (σ.a 64) 400 (2 * (σ.i 69)) x1)) 64) ((2 * (σ.i 69)) + 1) x2 (by decide)) ⟨va_cnB 3 hts hX3_note_X11_put_n50 rfl rfl rfl (hZ.1 (.methodLinkNest RX3 50 yX11_put "StatementRules2") (by decide +kernel)) (hts (.initialized RX11) k_X3_note_initialized_RX11) (by decide +kernel) ⟨(show 1 + 1 ≤ 2 by omega), (show 8 + (3 + 11) + 60 * 1 ≤ 60 * 2 by omega)⟩, (hts (.static yX11_put) k_X3_note_static_yX11_put), trivial⟩ ⟨zPre.blind, zPre.go hZ (cOne hC.1 he9) (hK.sub (tys' := [(Q.c 0, .int)]) [0] rfl) (cOneD hC.2.1 he9)⟩ rfl rfl hl.1 rfl (lv_room (Nat.le_of_ble_eq_true rfl)) dX3_note_37 ⟨cAcc4 h0 hr9, cAcc5 h0 hr9⟩) hC.2.2.1 (fun q _ h => hFc q h) hFc (fun u9 t9 H1 locs ht hvm hw hB hz1 hk1 hS => ?_)
    obtain ⟨⟨hP1, hK1, hD1⟩, hsz1⟩ := hB
    rw [ht] at hP1 hsz1
    have hC := cBack (σ' := CS.putA (CS.putA σ 64 (gPut (σ.a 64) 400 (2 * (σ.i 69)) x1)) 64 (gPut (CS.a (CS.putA σ 64 (gPut (σ.a 64) 400 (2 * (σ.i 69)) x1)) 64) 400 ((2 * (σ.i 69)) + 1) x2)) hC he9 cPutA_64 (cPutA_h _ _ _) hk1 hP1 hsz1 hS
    generalize H1 = H at hC ⊢
    refine lv_aload_n hx hb dX3_note_40 rfl (lv_at hl 0 rfl) ?_
    refine lv_dup hx hb dX3_note_41 rfl ?_
    refine cG_69 (v := (σ.i 69)) hx hb hts i_X3_note_X3 hown hK hC (hts (.fieldLink RX3 66 "StatementRules2$Machine" "rowCount" "I") k_X3_note_fieldLink_RX3_66_SR_Machine_rowCount_I) (fun _ q9 => q9) dX3_note_42 rfl ?_
    refine lv_iconst (v := 1) hx hb dX3_note_45 (by decide) ?_
    refine lv_iadd hx hb dX3_note_46 ?_
    refine cP_69 (v := ((σ.i 69) + 1)) hx hb hts i_X3_note_X3 hown hK hC (hts (.fieldLink RX3 66 "StatementRules2$Machine" "rowCount" "I") k_X3_note_fieldLink_RX3_66_SR_Machine_rowCount_I) (fun _ q9 => q9) dX3_note_47 (fun H locs hC => ?_)
    obtain rfl := Option.some.inj hf
    exact W.vret hx hb hr (fun t ht hW => ⟨⟨(), rfl, trivial, ⟨by rw [ht]; exact hC.1, va_K.moved hW.alike hK, hC.2.1⟩, by rw [ht]; exact hC.2.2.2⟩, hC.2.2.1.F ht⟩) hC.2.2.1.2.2 dX3_note_50
theorem k_X3_enter_fieldLink_RX3_60_SR_Machine_depth_I : Cond.fieldLink RX3 60 "StatementRules2$Machine" "depth" "I" ∈ wzX3_enter := List.mem_cons_of_mem _ (List.mem_append_left _ (List.mem_of_getElem? (i := 0) rfl))
theorem i_X3_enter_X3 : ∀ w ∈ wsX30, w ∈ wzX3_enter := fun _ h => List.mem_cons_of_mem _ (List.mem_append_right _ (List.mem_append_left _ (h)))
theorem k_X3_enter_fieldLink_RX3_20_SR_Machine_frames_LSR_Frame : Cond.fieldLink RX3 20 "StatementRules2$Machine" "frames" "[LStatementRules2$Frame;" ∈ wzX3_enter := List.mem_cons_of_mem _ (List.mem_append_left _ (List.mem_of_getElem? (i := 1) rfl))
theorem k_X3_enter_methodLink_RX3_187_yJ9_min_7cf53 : Cond.methodLink RX3 187 yJ9_min_7cf53 ∈ wzX3_enter := List.mem_cons_of_mem _ (List.mem_append_left _ (List.mem_of_getElem? (i := 2) rfl))
theorem k_X3_enter_static_yJ9_min_7cf53 : Cond.static yJ9_min_7cf53 ∈ wzX3_enter := List.mem_cons_of_mem _ (List.mem_append_left _ (List.mem_of_getElem? (i := 3) rfl))
theorem k_X3_enter_initialized_RJ9 : Cond.initialized RJ9 ∈ wzX3_enter := List.mem_cons_of_mem _ (List.mem_append_left _ (List.mem_of_getElem? (i := 4) rfl))
theorem k_X3_enter_code_yJ9_min_7cf53_cJ9_min_7cf53_2_some_int : Cond.code yJ9_min_7cf53 cJ9_min_7cf53 2 (some .int) ∈ wzX3_enter := List.mem_cons_of_mem _ (List.mem_append_left _ (List.mem_of_getElem? (i := 5) rfl))
theorem i_X3_enter_X2 : ∀ w ∈ wsX20, w ∈ wzX3_enter := fun _ h => List.mem_cons_of_mem _ (List.mem_append_right _ (List.mem_append_right _ (List.mem_append_left _ (h))))
theorem k_X3_enter_classLink_RX3_18_RX2 : Cond.classLink RX3 18 RX2 ∈ wzX3_enter := List.mem_cons_of_mem _ (List.mem_append_left _ (List.mem_of_getElem? (i := 6) rfl))
theorem k_X3_enter_instantiable_RX2_8 : Cond.instantiable RX2 8 ∈ wzX3_enter := List.mem_cons_of_mem _ (List.mem_append_left _ (List.mem_of_getElem? (i := 7) rfl))
theorem k_X3_enter_initialized_RX2 : Cond.initialized RX2 ∈ wzX3_enter := List.mem_cons_of_mem _ (List.mem_append_left _ (List.mem_of_getElem? (i := 8) rfl))
theorem k_X3_enter_instanceMethod_yX2_init : Cond.instanceMethod yX2_init ∈ wzX3_enter := List.mem_cons_of_mem _ (List.mem_append_left _ (List.mem_of_getElem? (i := 9) rfl))
theorem k_X3_enter_fieldLink_RX3_54_SR_Machine_height_I : Cond.fieldLink RX3 54 "StatementRules2$Machine" "height" "I" ∈ wzX3_enter := List.mem_cons_of_mem _ (List.mem_append_left _ (List.mem_of_getElem? (i := 10) rfl))
theorem k_X3_enter_fieldLink_RX3_63_SR_Machine_openedCount_I : Cond.fieldLink RX3 63 "StatementRules2$Machine" "openedCount" "I" ∈ wzX3_enter := List.mem_cons_of_mem _ (List.mem_append_left _ (List.mem_of_getElem? (i := 11) rfl))
set_option maxHeartbeats 4000000 in
set_option maxRecDepth 100000 in
theorem j_X3_enter_45 {p : Program} {e : Env} {s : State} {m : MethodId} {args : Array Value} {below : List Frame} {meth : Method} {c : Code} {A : Nat → Prop} (l : Launch) (dC : Nat → ClassId) (dI : Nat → Nat → Nat) (Q : CQ) (N : Nat) (z9h : Nat) (R : Unit × CS) (hx : p.tables.exec = Jvm.exec) (hb : c.code = cX3_enter) (hr : meth.sig.returnType = none) (hml : c.maxLocals = 5) (hown : s.vm.findClass RX3 = some m.cls) (hts : ∀ w ∈ wzX3_enter, w.before args s = true) (hlocks : meth.locks = false) (hZ : zAMB s) (hA : ∀ q : Nat, s.heap.size ≤ q → A q) (hK : va_K (dC, dI) vwCl (cT Q) s) : ∀ (σ : CS) (x1 : Int32) (x2 : Int32) (x3 : Int32) (x4 : Nat) (H : Heap) (locs : List Loc) (ls : Array Slot), f_X3_enter_45 N σ x1 x2 x3 x4 = some R → z9h ≤ CS.hs σ → CP dC dI Q A s.heap σ H locs → lv_has ls 5 [(0, .ref (Q.o 7)), (1, .int x1), (2, .int x2), (3, .int x3), (4, .ref x4)] → W p l e ({ frames := 2, cells := CS.hs R.2 - z9h, slots := 17 * (CS.hs R.2 - z9h), locals := 60 * 2 }) s m args below meth c H locs (CS.hs σ - z9h) (17 * (CS.hs σ - z9h)) (MQ below (va_Qv (fun (_ : Unit) => True) (fun (_ : Unit) (t : State) => zPost dC dI A (cW Q R.2) (cT Q) t ∧ t.heap.size = CS.hs R.2) A) args s (CS.hs R.2 - z9h) (17 * (CS.hs R.2 - z9h)) A) (F0 m 45 ls []) := by
  intro σ x1 x2 x3 x4 H locs ls hf h0 hC hl
  unfold f_X3_enter_45 at hf
  refine lv_aload hx hb dX3_enter_45 (lv_at hl 4 rfl) ?_
  refine lv_iload_n hx hb dX3_enter_47 rfl (lv_at hl 1 rfl) ?_
  obtain ⟨b11, hf⟩ := hf_ite hf
  refine pPN_X2_0 (v := x1) hx hb hts i_X3_enter_X2 hown hK hC (va_Nw.use rfl (hZ.1 (.fieldLinkNest RX3 194 "StatementRules2$Frame" "phase" "I" "StatementRules2") (by decide +kernel))) (fun _ q9 => q9) dX3_enter_48 b11 (fun H locs hC => ?_)
  refine lv_aload hx hb dX3_enter_51 (lv_at hl 4 rfl) ?_
  refine lv_iload_n hx hb dX3_enter_53 rfl (lv_at hl 2 rfl) ?_
  refine pPN_X2_1 (v := x2) hx hb hts i_X3_enter_X2 hown hK hC (va_Nw.use rfl (hZ.1 (.fieldLinkNest RX3 197 "StatementRules2$Frame" "argument" "I" "StatementRules2") (by decide +kernel))) (fun _ q9 => q9) dX3_enter_54 b11 (fun H locs hC => ?_)
  refine lv_aload hx hb dX3_enter_57 (lv_at hl 4 rfl) ?_
  refine lv_aload_n hx hb dX3_enter_59 rfl (lv_at hl 0 rfl) ?_
  refine cG_65 (v := (σ.i 65)) hx hb hts i_X3_enter_X3 hown hK hC (hts (.fieldLink RX3 54 "StatementRules2$Machine" "height" "I") k_X3_enter_fieldLink_RX3_54_SR_Machine_height_I) (fun _ q9 => q9) dX3_enter_60 rfl ?_
  refine pPN_X2_2 (v := (σ.i 65)) hx hb hts i_X3_enter_X2 hown hK hC (va_Nw.use rfl (hZ.1 (.fieldLinkNest RX3 200 "StatementRules2$Frame" "height" "I" "StatementRules2") (by decide +kernel))) (fun _ q9 => q9) dX3_enter_63 b11 (fun H locs hC => ?_)
  refine lv_aload hx hb dX3_enter_66 (lv_at hl 4 rfl) ?_
  refine lv_aload_n hx hb dX3_enter_68 rfl (lv_at hl 0 rfl) ?_
  refine cG_68 (v := (σ.i 68)) hx hb hts i_X3_enter_X3 hown hK hC (hts (.fieldLink RX3 63 "StatementRules2$Machine" "openedCount" "I") k_X3_enter_fieldLink_RX3_63_SR_Machine_openedCount_I) (fun _ q9 => q9) dX3_enter_69 rfl ?_
  refine pPN_X2_3 (v := (σ.i 68)) hx hb hts i_X3_enter_X2 hown hK hC (va_Nw.use rfl (hZ.1 (.fieldLinkNest RX3 201 "StatementRules2$Frame" "openedBefore" "I" "StatementRules2") (by decide +kernel))) (fun _ q9 => q9) dX3_enter_72 b11 (fun H locs hC => ?_)
  refine lv_aload hx hb dX3_enter_75 (lv_at hl 4 rfl) ?_
  refine lv_null hx hb dX3_enter_77 ?_
  refine pPN_X2_4 (v := none) hx hb hts i_X3_enter_X2 hown hK hC (va_Nw.use rfl (hZ.1 (.fieldLinkNest RX3 204 "StatementRules2$Frame" "thrown" "LStatementRules2$Thrown;" "StatementRules2") (by decide +kernel))) (fun _ q9 => q9) dX3_enter_78 b11 (fun H locs hC => ?_)
  refine lv_aload_n hx hb dX3_enter_81 rfl (lv_at hl 0 rfl) ?_
  refine lv_iload_n hx hb dX3_enter_82 rfl (lv_at hl 3 rfl) ?_
  refine lv_iconst (v := 1) hx hb dX3_enter_83 (by decide) ?_
  refine lv_iadd hx hb dX3_enter_84 ?_
  refine cP_67 (v := (x3 + 1)) hx hb hts i_X3_enter_X3 hown hK hC (hts (.fieldLink RX3 60 "StatementRules2$Machine" "depth" "I") k_X3_enter_fieldLink_RX3_60_SR_Machine_depth_I) (fun _ q9 => q9) dX3_enter_85 (fun H locs hC => ?_)
  obtain rfl := Option.some.inj hf
  exact W.vret hx hb hr (fun t ht hW => ⟨⟨(), rfl, trivial, ⟨by rw [ht]; exact hC.1, va_K.moved hW.alike hK, hC.2.1⟩, by rw [ht]; exact hC.2.2.2⟩, hC.2.2.1.F ht⟩) hC.2.2.1.2.2 dX3_enter_88
set_option maxHeartbeats 4000000 in
set_option maxRecDepth 100000 in
theorem c_X3_enter (l : Launch) (dC : Nat → ClassId) (dI : Nat → Nat → Nat) (Q : CQ) (N : Nat) (σ : CS) (x1 : Int32) (x2 : Int32) (R : Unit × CS) (hf : f_X3_enter N σ x1 x2 = some R) : Met l yX3_enter wzX3_enter ({ frames := 2, cells := CS.hs R.2 - CS.hs σ, slots := 17 * (CS.hs R.2 - CS.hs σ), locals := 60 * 2 }) (va_Pc [.ref (Q.o 7), .int x1, .int x2] (zPre dC dI (CS.hs σ) (cW Q σ) (cT Q))) (va_Qv (fun (_ : Unit) => True) (fun (_ : Unit) (t : State) => zPost dC dI (va_A (cW Q σ) (CS.hs σ)) (cW Q R.2) (cT Q) t ∧ t.heap.size = CS.hs R.2) (va_A (cW Q σ) (CS.hs σ))) (CS.hs R.2 - CS.hs σ) (17 * (CS.hs R.2 - CS.hs σ)) (va_A (cW Q σ) (CS.hs σ)) := by
  refine Met.ofW (cc := cX3_enter) (maxL := 5) (ret := none) (by decide) rfl ?_
  intro p e s m args below meth c s₁ B hml hv
  obtain ⟨rfl, hsz, hZ, hP, hK, hD0⟩ := hv
  have hx := B.exec
  have hb := B.bytes
  have hr := B.returns
  have hts := atoms_spec (ws := wzX3_enter) B.pre
  have hown : s.vm.findClass RX3 = some m.cls := findClass_of_methodNamed B.named
  have hlocks := B.notSynchronized
  have hD := hD0.self (sz := CS.hs σ)
  generalize hAe : va_A (cW Q σ) (CS.hs σ) = A at hD ⊢
  have hA : ∀ q : Nat, s.heap.size ≤ q → A q := fun q h => by rw [← hAe]; exact Or.inr (hsz ▸ h)
  have hC : CP dC dI Q A s.heap σ s.heap [] := ⟨hP, hD, va_S.rf, hsz⟩
  have h0 : CS.hs σ ≤ CS.hs σ := Nat.le_refl _
  have hl := lv_entry ([.ref (Q.o 7), .int x1, .int x2]) (n := 5) (Nat.le_of_ble_eq_true rfl)
  rw [lg_entry_eq]
  generalize (lg_sl ([.ref (Q.o 7), .int x1, .int x2]) ++ List.replicate (5 - (lg_sl ([.ref (Q.o 7), .int x1, .int x2])).length) Slot.unset).toArray = ls at hl ⊢
  have hl : lv_has ls 5 [(0, .ref (Q.o 7)), (1, .int x1), (2, .int x2)] := hl
  unfold f_X3_enter at hf
  refine W.widen (k := CS.hs σ - CS.hs σ) (n := 17 * (CS.hs σ - CS.hs σ)) (Nat.zero_le _) (Nat.zero_le _) ?_
  refine lv_aload_n hx hb dX3_enter_0 rfl (lv_at hl 0 rfl) ?_
  refine cG_67 (v := (σ.i 67)) hx hb hts i_X3_enter_X3 hown hK hC (hts (.fieldLink RX3 60 "StatementRules2$Machine" "depth" "I") k_X3_enter_fieldLink_RX3_60_SR_Machine_depth_I) (fun _ q9 => q9) dX3_enter_1 rfl ?_
  refine lv_aload_n hx hb dX3_enter_4 rfl (lv_at hl 0 rfl) ?_
  refine cG_61 hx hb hts i_X3_enter_X3 hown hK hC (hts (.fieldLink RX3 20 "StatementRules2$Machine" "frames" "[LStatementRules2$Frame;") k_X3_enter_fieldLink_RX3_20_SR_Machine_frames_LSR_Frame) (fun _ q9 => q9) dX3_enter_5 ?_
  refine va_alen (v := 24) hx hb hK hC.1 26 3 rfl rfl rfl dX3_enter_8 ?_
  refine lv_iconst (v := 1) hx hb dX3_enter_9 (by decide) ?_
  refine lv_isub hx hb dX3_enter_10 ?_
  refine lv_topi (fun z9 e9 => ?_)
  obtain rfl : z9 = 23 := e9.trans (by decide)
  have hr9 : CS.hs σ ≤ CS.hs R.2 := Mono.go hf (mono_ite (mono_oc (mono_le (Nat.le_succ _) (mono_bind (m_X2_init N (CS.new σ 1) (CS.hs σ)) (fun p5 => (mono_ite (mono_ite (m_X3_enter_45 N (CS.setR p5.2 61 (((if (23 : Int32) < (σ.i 67) then (23 : Int32) else (σ.i 67)) : Int32).toNatClampNeg) (some (CS.hs σ))) x1 x2 (if (23 : Int32) < (σ.i 67) then (23 : Int32) else (σ.i 67)) (CS.hs σ)) mono_none) mono_none)))) (fun a3 => (m_X3_enter_45 N σ x1 x2 (if (23 : Int32) < (σ.i 67) then (23 : Int32) else (σ.i 67)) a3))) mono_none)
  refine va_mmin hx hb (hml.trans hl.1.symm) hown (hts (.methodLink RX3 187 yJ9_min_7cf53) k_X3_enter_methodLink_RX3_187_yJ9_min_7cf53) (hts (.static yJ9_min_7cf53) k_X3_enter_static_yJ9_min_7cf53) (hts (.initialized RJ9) k_X3_enter_initialized_RJ9) (hts (.code yJ9_min_7cf53 cJ9_min_7cf53 2 (some .int)) k_X3_enter_code_yJ9_min_7cf53_cJ9_min_7cf53_2_some_int) (Nat.le_of_ble_eq_true rfl) (Nat.le_of_ble_eq_true rfl) (cAcc4 h0 hr9) (cAcc5 h0 hr9) dX3_enter_11 ?_
  refine lv_istore_n (lv' := [(3, .int (if (23 : Int32) < (σ.i 67) then (23 : Int32) else (σ.i 67))), (0, .ref (Q.o 7)), (1, .int x1), (2, .int x2)]) hx hb dX3_enter_14 rfl hl (by decide) rfl (fun ls hl => ?_)
  refine lv_aload_n hx hb dX3_enter_15 rfl (lv_at hl 1 rfl) ?_
  refine cG_61 hx hb hts i_X3_enter_X3 hown hK hC (hts (.fieldLink RX3 20 "StatementRules2$Machine" "frames" "[LStatementRules2$Frame;") k_X3_enter_fieldLink_RX3_20_SR_Machine_frames_LSR_Frame) (fun _ q9 => q9) dX3_enter_16 ?_
  refine lv_iload_n hx hb dX3_enter_19 rfl (lv_at hl 0 rfl) ?_
  obtain ⟨b1, hf⟩ := hf_ite hf
  refine cL_61 (v := (CS.r σ 61 (((if (23 : Int32) < (σ.i 67) then (23 : Int32) else (σ.i 67)) : Int32).toNatClampNeg))) hx hb hK hC b1 dX3_enter_20 rfl ?_
  rcases hf_oc hf with ⟨q2, hf⟩ | ⟨a3, q2, hf⟩
  ·
    refine W.eq (congrArg (fun v9 => F0 m 21 ls (va_rf v9 :: [])) q2) ?_
    refine W.eq (g2 := F0 m 21 ls (.null :: [])) rfl ?_
    refine lv_astoreN (lv' := [(4, .null), (3, .int (if (23 : Int32) < (σ.i 67) then (23 : Int32) else (σ.i 67))), (0, .ref (Q.o 7)), (1, .int x1), (2, .int x2)]) hx hb dX3_enter_21 hl (by decide) rfl (fun ls hl => ?_)
    refine lv_aloadN hx hb dX3_enter_23 (lv_at hl 0 rfl) ?_
    refine lv_ifnonnullN hx hb dX3_enter_25 ?_
    have hn9 : CS.hs σ + 1 ≤ CS.hs R.2 := Mono.go hf (mono_bind (m_X2_init N (CS.new σ 1) (CS.hs σ)) (fun p5 => (mono_ite (mono_ite (m_X3_enter_45 N (CS.setR p5.2 61 (((if (23 : Int32) < (σ.i 67) then (23 : Int32) else (σ.i 67)) : Int32).toNatClampNeg) (some (CS.hs σ))) x1 x2 (if (23 : Int32) < (σ.i 67) then (23 : Int32) else (σ.i 67)) (CS.hs σ)) mono_none) mono_none)))
    refine cNew_X2 hx hb hts i_X3_enter_X2 hown (hts (.classLink RX3 18 RX2) k_X3_enter_classLink_RX3_18_RX2) (hts (.instantiable RX2 8) k_X3_enter_instantiable_RX2_8) (hts (.initialized RX2) k_X3_enter_initialized_RX2) hK hC hA (cN1 h0 hn9) (cN2 (by decide) h0 hn9) dX3_enter_28 (fun H hC => ?_)
    have h4 : (CS.hs σ) ≤ CS.hs σ + 1 := Nat.le_succ_of_le h0
    refine W.widen (k := (CS.hs σ + 1) - (CS.hs σ)) (n := 17 * ((CS.hs σ + 1) - (CS.hs σ))) (cN3 h0) (cN4 (by decide) h0) ?_
    refine lv_dup hx hb dX3_enter_31 rfl ?_
    obtain ⟨p5, hcp5, hf⟩ := hf_bind hf
    have mo6 : (CS.hs σ + 1) ≤ CS.hs p5.2 := Mono.go hcp5 (m_X2_init N (CS.new σ 1) (CS.hs σ))
    have hr9 : CS.hs p5.2 ≤ CS.hs R.2 := Mono.go hf (mono_ite (mono_ite (m_X3_enter_45 N (CS.setR p5.2 61 (((if (23 : Int32) < (σ.i 67) then (23 : Int32) else (σ.i 67)) : Int32).toNatClampNeg) (some (CS.hs σ))) x1 x2 (if (23 : Int32) < (σ.i 67) then (23 : Int32) else (σ.i 67)) (CS.hs σ)) mono_none) mono_none)
    have hFc := cFree hC hA
    refine va_callv (va_runIN (As := []) (rest := [.ref (CS.hs σ)]) ⟨hx, hb, hml, hown, hts⟩ (c_X2_init l dC dI Q N (CS.new σ 1) (CS.hs σ) p5 hcp5) ⟨va_cnB 0 hts hX3_enter_X2_init_n193 rfl rfl rfl (hZ.1 (.methodLinkNest RX3 193 yX2_init "StatementRules2") (by decide +kernel)) (hts (.initialized RX2) k_X3_enter_initialized_RX2) (by decide +kernel) ⟨(show 1 + 1 ≤ 2 by omega), (show 8 + (1 + 11) + 60 * 1 ≤ 60 * 2 by omega)⟩, rfl, (hts (.instanceMethod yX2_init) k_X3_enter_instanceMethod_yX2_init)⟩ ⟨zPre.blind, cPre_go hZ hK hC⟩ rfl rfl hl.1 rfl (lv_room (Nat.le_of_ble_eq_true rfl)) dX3_enter_32 (cAcc h4 mo6 hr9)) hC.2.2.1 (fun q _ h => hFc q h) hFc (fun u9 t9 H1 locs ht hvm hw hB hz1 hk1 hS => ?_)
    obtain ⟨⟨hP, hK1, hD1⟩, hsz1⟩ := hB
    rw [ht] at hP hsz1
    have hC : CP dC dI Q A s.heap p5.2 H1 locs := ⟨hP, hD1.weaken (fun _ _ _ h => hFc _ h), hS, hsz1⟩
    generalize H1 = H at hC ⊢
    have h8 : (CS.hs σ) ≤ CS.hs p5.2 := Nat.le_trans h4 mo6
    refine W.widen (k := CS.hs p5.2 - (CS.hs σ)) (n := 17 * (CS.hs p5.2 - (CS.hs σ))) (cAcc2 h4 mo6) (cAcc3 h4 mo6) ?_
    refine lv_astore (lv' := [(4, .ref (CS.hs σ)), (3, .int (if (23 : Int32) < (σ.i 67) then (23 : Int32) else (σ.i 67))), (0, .ref (Q.o 7)), (1, .int x1), (2, .int x2)]) hx hb dX3_enter_35 hl (by decide) rfl (fun ls hl => ?_)
    refine lv_aload_n hx hb dX3_enter_37 rfl (lv_at hl 2 rfl) ?_
    refine cG_61 hx hb hts i_X3_enter_X3 hown hK hC (hts (.fieldLink RX3 20 "StatementRules2$Machine" "frames" "[LStatementRules2$Frame;") k_X3_enter_fieldLink_RX3_20_SR_Machine_frames_LSR_Frame) (fun _ q9 => q9) dX3_enter_38 ?_
    refine lv_iload_n hx hb dX3_enter_41 rfl (lv_at hl 1 rfl) ?_
    refine lv_aload hx hb dX3_enter_42 (lv_at hl 0 rfl) ?_
    obtain ⟨b9, hf⟩ := hf_ite hf
    obtain ⟨b10, hf⟩ := hf_ite hf
    refine cS_61 hx hb hK hC b9 dX3_enter_44 b10 (fun H locs hC => ?_)
    exact j_X3_enter_45 l dC dI Q N (CS.hs σ) R hx hb hr hml hown hts hlocks hZ hA hK (CS.setR p5.2 61 (((if (23 : Int32) < (σ.i 67) then (23 : Int32) else (σ.i 67)) : Int32).toNatClampNeg) (some (CS.hs σ))) x1 x2 (if (23 : Int32) < (σ.i 67) then (23 : Int32) else (σ.i 67)) (CS.hs σ) _ _ _ hf h8 hC (lv_sub hl [2, 3, 4, 1, 0] rfl)
  ·
    refine W.eq (congrArg (fun v9 => F0 m 21 ls (va_rf v9 :: [])) q2) ?_
    refine W.eq (g2 := F0 m 21 ls (.ref a3 :: [])) rfl ?_
    refine lv_astore (lv' := [(4, .ref a3), (3, .int (if (23 : Int32) < (σ.i 67) then (23 : Int32) else (σ.i 67))), (0, .ref (Q.o 7)), (1, .int x1), (2, .int x2)]) hx hb dX3_enter_21 hl (by decide) rfl (fun ls hl => ?_)
    refine lv_aload hx hb dX3_enter_23 (lv_at hl 0 rfl) ?_
    refine lv_ifnonnull (tgt := 45) hx hb dX3_enter_25 (by decide) ?_
    exact j_X3_enter_45 l dC dI Q N (CS.hs σ) R hx hb hr hml hown hts hlocks hZ hA hK σ x1 x2 (if (23 : Int32) < (σ.i 67) then (23 : Int32) else (σ.i 67)) a3 _ _ _ hf h0 hC (lv_sub hl [2, 3, 4, 1, 0] rfl)
theorem k_X3_openOne_fieldLink_RX3_36_SR_Machine_told_LSR_Told : Cond.fieldLink RX3 36 "StatementRules2$Machine" "told" "LStatementRules2$Told;" ∈ wzX3_openOne := List.mem_cons_of_mem _ (List.mem_append_left _ (List.mem_of_getElem? (i := 0) rfl))
theorem i_X3_openOne_X3 : ∀ w ∈ wsX30, w ∈ wzX3_openOne := fun _ h => List.mem_cons_of_mem _ (List.mem_append_right _ (List.mem_append_left _ (h)))
theorem i_X3_openOne_X10 : ∀ w ∈ wsX100, w ∈ wzX3_openOne := fun _ h => List.mem_cons_of_mem _ (List.mem_append_right _ (List.mem_append_right _ (List.mem_append_left _ (h))))
theorem k_X3_openOne_initialized_RX11 : Cond.initialized RX11 ∈ wzX3_openOne := List.mem_cons_of_mem _ (List.mem_append_left _ (List.mem_of_getElem? (i := 1) rfl))
theorem k_X3_openOne_static_yX11_at : Cond.static yX11_at ∈ wzX3_openOne := List.mem_cons_of_mem _ (List.mem_append_left _ (List.mem_of_getElem? (i := 2) rfl))
theorem k_X3_openOne_fieldLink_RX3_30_SR_Machine_opened_I : Cond.fieldLink RX3 30 "StatementRules2$Machine" "opened" "[I" ∈ wzX3_openOne := List.mem_cons_of_mem _ (List.mem_append_left _ (List.mem_of_getElem? (i := 3) rfl))
theorem k_X3_openOne_fieldLink_RX3_63_SR_Machine_openedCount_I : Cond.fieldLink RX3 63 "StatementRules2$Machine" "openedCount" "I" ∈ wzX3_openOne := List.mem_cons_of_mem _ (List.mem_append_left _ (List.mem_of_getElem? (i := 4) rfl))
theorem k_X3_openOne_static_yX11_put : Cond.static yX11_put ∈ wzX3_openOne := List.mem_cons_of_mem _ (List.mem_append_left _ (List.mem_of_getElem? (i := 5) rfl))
set_option maxHeartbeats 4000000 in
set_option maxRecDepth 100000 in
theorem c_X3_openOne (l : Launch) (dC : Nat → ClassId) (dI : Nat → Nat → Nat) (Q : CQ) (N : Nat) (σ : CS) (x1 : Int32) (R : Unit × CS) (hf : f_X3_openOne N σ x1 = some R) : Met l yX3_openOne wzX3_openOne ({ frames := 4, cells := CS.hs R.2 - CS.hs σ, slots := 17 * (CS.hs R.2 - CS.hs σ), locals := 60 * 4 }) (va_Pc [.ref (Q.o 7), .int x1] (zPre dC dI (CS.hs σ) (cW Q σ) (cT Q))) (va_Qv (fun (_ : Unit) => True) (fun (_ : Unit) (t : State) => zPost dC dI (va_A (cW Q σ) (CS.hs σ)) (cW Q R.2) (cT Q) t ∧ t.heap.size = CS.hs R.2) (va_A (cW Q σ) (CS.hs σ))) (CS.hs R.2 - CS.hs σ) (17 * (CS.hs R.2 - CS.hs σ)) (va_A (cW Q σ) (CS.hs σ)) := by
  refine Met.ofW (cc := cX3_openOne) (maxL := 2) (ret := none) (by decide) rfl ?_
  intro p e s m args below meth c s₁ B hml hv
  obtain ⟨rfl, hsz, hZ, hP, hK, hD0⟩ := hv
  have hx := B.exec
  have hb := B.bytes
  have hr := B.returns
  have hts := atoms_spec (ws := wzX3_openOne) B.pre
  have hown : s.vm.findClass RX3 = some m.cls := findClass_of_methodNamed B.named
  have hlocks := B.notSynchronized
  have hD := hD0.self (sz := CS.hs σ)
  generalize hAe : va_A (cW Q σ) (CS.hs σ) = A at hD ⊢
  have hA : ∀ q : Nat, s.heap.size ≤ q → A q := fun q h => by rw [← hAe]; exact Or.inr (hsz ▸ h)
  have hC : CP dC dI Q A s.heap σ s.heap [] := ⟨hP, hD, va_S.rf, hsz⟩
  have h0 : CS.hs σ ≤ CS.hs σ := Nat.le_refl _
  have hl := lv_entry ([.ref (Q.o 7), .int x1]) (n := 2) (Nat.le_of_ble_eq_true rfl)
  rw [lg_entry_eq]
  generalize (lg_sl ([.ref (Q.o 7), .int x1]) ++ List.replicate (2 - (lg_sl ([.ref (Q.o 7), .int x1])).length) Slot.unset).toArray = ls at hl ⊢
  have hl : lv_has ls 2 [(0, .ref (Q.o 7)), (1, .int x1)] := hl
  unfold f_X3_openOne at hf
  refine W.widen (k := CS.hs σ - CS.hs σ) (n := 17 * (CS.hs σ - CS.hs σ)) (Nat.zero_le _) (Nat.zero_le _) ?_
  refine lv_aload_n hx hb dX3_openOne_0 rfl (lv_at hl 0 rfl) ?_
  refine cG_57 hx hb hts i_X3_openOne_X3 hown hK hC (hts (.fieldLink RX3 36 "StatementRules2$Machine" "told" "LStatementRules2$Told;") k_X3_openOne_fieldLink_RX3_36_SR_Machine_told_LSR_Told) (fun _ q9 => q9) dX3_openOne_1 ?_
  refine cGN_11 hx hb hts i_X3_openOne_X10 hown hK hC (va_Nw.use rfl (hZ.1 (.fieldLinkNest RX3 207 "StatementRules2$Told" "opening" "[I" "StatementRules2") (by decide +kernel))) (fun _ q9 => q9) dX3_openOne_4 ?_
  refine lv_iload_n hx hb dX3_openOne_7 rfl (lv_at hl 1 rfl) ?_
  have he9 := (cArr_11 (Q := Q) (σ := σ))
  have hFc := cFree1 hC hA he9
  have hr9 : CS.hs σ ≤ CS.hs R.2 := Mono.go hf (mono_ite (mono_ite (mono_bind (m_X3_note N σ 1 x1) (fun p5 => (mono_some (Nat.le_refl _)))) (mono_some (Nat.le_refl _))) (mono_bind (m_X3_raise N σ (gAt (σ.a 11) 8 x1) x1) (fun p10 => (mono_some (Nat.le_refl _)))))
  refine va_calli (va_runSN (As := [.ref (Q.q 11), .int x1]) (rest := []) ⟨hx, hb, hml, hown, hts⟩ (c_X11_at l dC dI _ (Q.q 11) (Q.c 0) 8 (σ.a 11) x1 (by decide)) ⟨va_cnB 2 hts hX3_openOne_X11_at_n111 rfl rfl rfl (hZ.1 (.methodLinkNest RX3 111 yX11_at "StatementRules2") (by decide +kernel)) (hts (.initialized RX11) k_X3_openOne_initialized_RX11) (by decide +kernel) ⟨(show 1 + 1 ≤ 4 by omega), (show 8 + (2 + 11) + 60 * 1 ≤ 60 * 4 by omega)⟩, (hts (.static yX11_at) k_X3_openOne_static_yX11_at), trivial⟩ ⟨zPre.blind, zPre.go hZ (cOne hC.1 he9) (hK.sub (tys' := [(Q.c 0, .int)]) [0] rfl) (cOneD hC.2.1 he9)⟩ rfl rfl hl.1 rfl (lv_room (Nat.le_of_ble_eq_true rfl)) dX3_openOne_8 ⟨cAcc4 h0 hr9, cAcc5 h0 hr9⟩) hC.2.2.1 (fun q _ h => hFc q h) hFc (fun r1 u9 t9 H1 locs ht hvm hw hB hz1 hk1 hS => ?_)
  obtain ⟨⟨hP1, hK1, hD1⟩, hsz1⟩ := hB
  rw [ht] at hP1 hsz1
  have hC := cBack (σ' := σ) hC he9 (cSelf he9) (Eq.refl (CS.hs σ)) hk1 hP1 hsz1 hS
  generalize H1 = H at hC ⊢
  obtain rfl : r1 = (gAt (σ.a 11) 8 x1) := hw
  refine lv_if_lt (tgt := 33) hx hb dX3_openOne_11 (by decide) (fun c2 => ?_) (fun c2 => ?_)
  ·
    replace hf := (if_pos c2).symm.trans hf
    refine lv_aload_n hx hb dX3_openOne_33 rfl (lv_at hl 0 rfl) ?_
    refine cG_57 hx hb hts i_X3_openOne_X3 hown hK hC (hts (.fieldLink RX3 36 "StatementRules2$Machine" "told" "LStatementRules2$Told;") k_X3_openOne_fieldLink_RX3_36_SR_Machine_told_LSR_Told) (fun _ q9 => q9) dX3_openOne_34 ?_
    refine cGN_10 hx hb hts i_X3_openOne_X10 hown hK hC (va_Nw.use rfl (hZ.1 (.fieldLinkNest RX3 210 "StatementRules2$Told" "isNull" "[I" "StatementRules2") (by decide +kernel))) (fun _ q9 => q9) dX3_openOne_37 ?_
    refine lv_iload_n hx hb dX3_openOne_40 rfl (lv_at hl 1 rfl) ?_
    have he9 := (cArr_10 (Q := Q) (σ := σ))
    have hFc := cFree1 hC hA he9
    have hr9 : CS.hs σ ≤ CS.hs R.2 := Mono.go hf (mono_ite (mono_bind (m_X3_note N σ 1 x1) (fun p5 => (mono_some (Nat.le_refl _)))) (mono_some (Nat.le_refl _)))
    refine va_calli (va_runSN (As := [.ref (Q.q 10), .int x1]) (rest := []) ⟨hx, hb, hml, hown, hts⟩ (c_X11_at l dC dI _ (Q.q 10) (Q.c 0) 8 (σ.a 10) x1 (by decide)) ⟨va_cnB 2 hts hX3_openOne_X11_at_n111 rfl rfl rfl (hZ.1 (.methodLinkNest RX3 111 yX11_at "StatementRules2") (by decide +kernel)) (hts (.initialized RX11) k_X3_openOne_initialized_RX11) (by decide +kernel) ⟨(show 1 + 1 ≤ 4 by omega), (show 8 + (2 + 11) + 60 * 1 ≤ 60 * 4 by omega)⟩, (hts (.static yX11_at) k_X3_openOne_static_yX11_at), trivial⟩ ⟨zPre.blind, zPre.go hZ (cOne hC.1 he9) (hK.sub (tys' := [(Q.c 0, .int)]) [0] rfl) (cOneD hC.2.1 he9)⟩ rfl rfl hl.1 rfl (lv_room (Nat.le_of_ble_eq_true rfl)) dX3_openOne_41 ⟨cAcc4 h0 hr9, cAcc5 h0 hr9⟩) hC.2.2.1 (fun q _ h => hFc q h) hFc (fun r3 u9 t9 H1 locs ht hvm hw hB hz1 hk1 hS => ?_)
    obtain ⟨⟨hP1, hK1, hD1⟩, hsz1⟩ := hB
    rw [ht] at hP1 hsz1
    have hC := cBack (σ' := σ) hC he9 (cSelf he9) (Eq.refl (CS.hs σ)) hk1 hP1 hsz1 hS
    generalize H1 = H at hC ⊢
    obtain rfl : r3 = (gAt (σ.a 10) 8 x1) := hw
    refine lv_if_ne (tgt := 75) hx hb dX3_openOne_44 (by decide) (fun c4 => ?_) (fun c4 => ?_)
    ·
      replace hf := (if_neg c4).symm.trans hf
      obtain rfl := Option.some.inj hf
      exact W.vret hx hb hr (fun t ht hW => ⟨⟨(), rfl, trivial, ⟨by rw [ht]; exact hC.1, va_K.moved hW.alike hK, hC.2.1⟩, by rw [ht]; exact hC.2.2.2⟩, hC.2.2.1.F ht⟩) hC.2.2.1.2.2 dX3_openOne_75
    ·
      replace hf := (if_pos c4).symm.trans hf
      refine lv_aload_n hx hb dX3_openOne_47 rfl (lv_at hl 0 rfl) ?_
      refine lv_iconst (v := 1) hx hb dX3_openOne_48 (by decide) ?_
      refine lv_iload_n hx hb dX3_openOne_49 rfl (lv_at hl 1 rfl) ?_
      obtain ⟨p5, hcp5, hf⟩ := hf_bind hf
      have mo6 : CS.hs σ ≤ CS.hs p5.2 := Mono.go hcp5 (m_X3_note N σ 1 x1)
      have hr9 : CS.hs p5.2 ≤ CS.hs R.2 := Mono.go hf (mono_some (Nat.le_refl _))
      have hFc := cFree hC hA
      refine va_callv (va_runV (As := [.int 1, .int x1]) (rest := []) ⟨hx, hb, hml, hown, hts⟩ (c_X3_note l dC dI Q N σ 1 x1 p5 hcp5) (cwV 2 hts hX3_openOne_X3_note_v178 rfl rfl rfl (by decide +kernel) ⟨(show 2 + 1 ≤ 4 by omega), (show 8 + (3 + 11) + 60 * 2 ≤ 60 * 4 by omega)⟩) ⟨zPre.blind, va_recv hK hC.1 (ci := 2) (q0 := 7) rfl rfl, cPre_go hZ hK hC⟩ rfl rfl hl.1 rfl (lv_room (Nat.le_of_ble_eq_true rfl)) dX3_openOne_50 (cAcc h0 mo6 hr9)) hC.2.2.1 (fun q _ h => hFc q h) hFc (fun u9 t9 H1 locs ht hvm hw hB hz1 hk1 hS => ?_)
      obtain ⟨⟨hP, hK1, hD1⟩, hsz1⟩ := hB
      rw [ht] at hP hsz1
      have hC : CP dC dI Q A s.heap p5.2 H1 locs := ⟨hP, hD1.weaken (fun _ _ _ h => hFc _ h), hS, hsz1⟩
      generalize H1 = H at hC ⊢
      have h8 : (CS.hs σ) ≤ CS.hs p5.2 := Nat.le_trans h0 mo6
      refine W.widen (k := CS.hs p5.2 - (CS.hs σ)) (n := 17 * (CS.hs p5.2 - (CS.hs σ))) (cAcc2 h0 mo6) (cAcc3 h0 mo6) ?_
      refine lv_aload_n hx hb dX3_openOne_53 rfl (lv_at hl 0 rfl) ?_
      refine cG_63 hx hb hts i_X3_openOne_X3 hown hK hC (hts (.fieldLink RX3 30 "StatementRules2$Machine" "opened" "[I") k_X3_openOne_fieldLink_RX3_30_SR_Machine_opened_I) (fun _ q9 => q9) dX3_openOne_54 ?_
      refine lv_aload_n hx hb dX3_openOne_57 rfl (lv_at hl 0 rfl) ?_
      refine cG_68 (v := (p5.2.i 68)) hx hb hts i_X3_openOne_X3 hown hK hC (hts (.fieldLink RX3 63 "StatementRules2$Machine" "openedCount" "I") k_X3_openOne_fieldLink_RX3_63_SR_Machine_openedCount_I) (fun _ q9 => q9) dX3_openOne_58 rfl ?_
      refine lv_iload_n hx hb dX3_openOne_61 rfl (lv_at hl 1 rfl) ?_
      have he9 := (cArr_63 (Q := Q) (σ := p5.2))
      have hFc := cFree1 hC hA he9
      have hr9 : CS.hs p5.2 ≤ CS.hs R.2 := Mono.go hf (mono_some (Nat.le_refl _))
      refine va_callv (va_runSN (As := [.ref (Q.q 63), .int (p5.2.i 68), .int x1]) (rest := []) ⟨hx, hb, hml, hown, hts⟩ (c_X11_put l dC dI _ (Q.q 63) (Q.c 0) 320 (p5.2.a 63) (p5.2.i 68) x1 (by decide)) ⟨va_cnB 3 hts hX3_openOne_X11_put_n50 rfl rfl rfl (hZ.1 (.methodLinkNest RX3 50 yX11_put "StatementRules2") (by decide +kernel)) (hts (.initialized RX11) k_X3_openOne_initialized_RX11) (by decide +kernel) ⟨(show 1 + 1 ≤ 4 by omega), (show 8 + (3 + 11) + 60 * 1 ≤ 60 * 4 by omega)⟩, (hts (.static yX11_put) k_X3_openOne_static_yX11_put), trivial⟩ ⟨zPre.blind, zPre.go hZ (cOne hC.1 he9) (hK.sub (tys' := [(Q.c 0, .int)]) [0] rfl) (cOneD hC.2.1 he9)⟩ rfl rfl hl.1 rfl (lv_room (Nat.le_of_ble_eq_true rfl)) dX3_openOne_62 ⟨cAcc4 h8 hr9, cAcc5 h8 hr9⟩) hC.2.2.1 (fun q _ h => hFc q h) hFc (fun u9 t9 H1 locs ht hvm hw hB hz1 hk1 hS => ?_)
      obtain ⟨⟨hP1, hK1, hD1⟩, hsz1⟩ := hB
      rw [ht] at hP1 hsz1
      have hC := cBack (σ' := CS.putA p5.2 63 (gPut (p5.2.a 63) 320 (p5.2.i 68) x1)) hC he9 cPutA_63 (cPutA_h _ _ _) hk1 hP1 hsz1 hS
      generalize H1 = H at hC ⊢
      refine lv_aload_n hx hb dX3_openOne_65 rfl (lv_at hl 0 rfl) ?_
      refine lv_dup hx hb dX3_openOne_66 rfl ?_
      refine cG_68 (v := (p5.2.i 68)) hx hb hts i_X3_openOne_X3 hown hK hC (hts (.fieldLink RX3 63 "StatementRules2$Machine" "openedCount" "I") k_X3_openOne_fieldLink_RX3_63_SR_Machine_openedCount_I) (fun _ q9 => q9) dX3_openOne_67 rfl ?_
      refine lv_iconst (v := 1) hx hb dX3_openOne_70 (by decide) ?_
      refine lv_iadd hx hb dX3_openOne_71 ?_
      refine cP_68 (v := ((p5.2.i 68) + 1)) hx hb hts i_X3_openOne_X3 hown hK hC (hts (.fieldLink RX3 63 "StatementRules2$Machine" "openedCount" "I") k_X3_openOne_fieldLink_RX3_63_SR_Machine_openedCount_I) (fun _ q9 => q9) dX3_openOne_72 (fun H locs hC => ?_)
      obtain rfl := Option.some.inj hf
      exact W.vret hx hb hr (fun t ht hW => ⟨⟨(), rfl, trivial, ⟨by rw [ht]; exact hC.1, va_K.moved hW.alike hK, hC.2.1⟩, by rw [ht]; exact hC.2.2.2⟩, hC.2.2.1.F ht⟩) hC.2.2.1.2.2 dX3_openOne_75
  ·
    replace hf := (if_neg c2).symm.trans hf
    refine lv_aload_n hx hb dX3_openOne_14 rfl (lv_at hl 0 rfl) ?_
    refine lv_aload_n hx hb dX3_openOne_15 rfl (lv_at hl 0 rfl) ?_
    refine cG_57 hx hb hts i_X3_openOne_X3 hown hK hC (hts (.fieldLink RX3 36 "StatementRules2$Machine" "told" "LStatementRules2$Told;") k_X3_openOne_fieldLink_RX3_36_SR_Machine_told_LSR_Told) (fun _ q9 => q9) dX3_openOne_16 ?_
    refine cGN_11 hx hb hts i_X3_openOne_X10 hown hK hC (va_Nw.use rfl (hZ.1 (.fieldLinkNest RX3 207 "StatementRules2$Told" "opening" "[I" "StatementRules2") (by decide +kernel))) (fun _ q9 => q9) dX3_openOne_19 ?_
    refine lv_iload_n hx hb dX3_openOne_22 rfl (lv_at hl 1 rfl) ?_
    have he9 := (cArr_11 (Q := Q) (σ := σ))
    have hFc := cFree1 hC hA he9
    have hr9 : CS.hs σ ≤ CS.hs R.2 := Mono.go hf (mono_bind (m_X3_raise N σ (gAt (σ.a 11) 8 x1) x1) (fun p10 => (mono_some (Nat.le_refl _))))
    refine va_calli (va_runSN (As := [.ref (Q.q 11), .int x1]) (rest := [.ref (Q.o 7)]) ⟨hx, hb, hml, hown, hts⟩ (c_X11_at l dC dI _ (Q.q 11) (Q.c 0) 8 (σ.a 11) x1 (by decide)) ⟨va_cnB 2 hts hX3_openOne_X11_at_n111 rfl rfl rfl (hZ.1 (.methodLinkNest RX3 111 yX11_at "StatementRules2") (by decide +kernel)) (hts (.initialized RX11) k_X3_openOne_initialized_RX11) (by decide +kernel) ⟨(show 1 + 1 ≤ 4 by omega), (show 8 + (2 + 11) + 60 * 1 ≤ 60 * 4 by omega)⟩, (hts (.static yX11_at) k_X3_openOne_static_yX11_at), trivial⟩ ⟨zPre.blind, zPre.go hZ (cOne hC.1 he9) (hK.sub (tys' := [(Q.c 0, .int)]) [0] rfl) (cOneD hC.2.1 he9)⟩ rfl rfl hl.1 rfl (lv_room (Nat.le_of_ble_eq_true rfl)) dX3_openOne_23 ⟨cAcc4 h0 hr9, cAcc5 h0 hr9⟩) hC.2.2.1 (fun q _ h => hFc q h) hFc (fun r9 u9 t9 H1 locs ht hvm hw hB hz1 hk1 hS => ?_)
    obtain ⟨⟨hP1, hK1, hD1⟩, hsz1⟩ := hB
    rw [ht] at hP1 hsz1
    have hC := cBack (σ' := σ) hC he9 (cSelf he9) (Eq.refl (CS.hs σ)) hk1 hP1 hsz1 hS
    generalize H1 = H at hC ⊢
    obtain rfl : r9 = (gAt (σ.a 11) 8 x1) := hw
    refine lv_iload_n hx hb dX3_openOne_26 rfl (lv_at hl 1 rfl) ?_
    obtain ⟨p10, hcp10, hf⟩ := hf_bind hf
    have mo11 : CS.hs σ ≤ CS.hs p10.2 := Mono.go hcp10 (m_X3_raise N σ (gAt (σ.a 11) 8 x1) x1)
    have hr9 : CS.hs p10.2 ≤ CS.hs R.2 := Mono.go hf (mono_some (Nat.le_refl _))
    have hFc := cFree hC hA
    refine va_callv (va_runV (As := [.int (gAt (σ.a 11) 8 x1), .int x1]) (rest := []) ⟨hx, hb, hml, hown, hts⟩ (c_X3_raise l dC dI Q N σ (gAt (σ.a 11) 8 x1) x1 p10 hcp10) (cwV 2 hts hX3_openOne_X3_raise_v150 rfl rfl rfl (by decide +kernel) ⟨(show 3 + 1 ≤ 4 by omega), (show 8 + (3 + 11) + 60 * 3 ≤ 60 * 4 by omega)⟩) ⟨zPre.blind, va_recv hK hC.1 (ci := 2) (q0 := 7) rfl rfl, cPre_go hZ hK hC⟩ rfl rfl hl.1 rfl (lv_room (Nat.le_of_ble_eq_true rfl)) dX3_openOne_27 (cAcc h0 mo11 hr9)) hC.2.2.1 (fun q _ h => hFc q h) hFc (fun u9 t9 H1 locs ht hvm hw hB hz1 hk1 hS => ?_)
    obtain ⟨⟨hP, hK1, hD1⟩, hsz1⟩ := hB
    rw [ht] at hP hsz1
    have hC : CP dC dI Q A s.heap p10.2 H1 locs := ⟨hP, hD1.weaken (fun _ _ _ h => hFc _ h), hS, hsz1⟩
    generalize H1 = H at hC ⊢
    have h13 : (CS.hs σ) ≤ CS.hs p10.2 := Nat.le_trans h0 mo11
    refine W.widen (k := CS.hs p10.2 - (CS.hs σ)) (n := 17 * (CS.hs p10.2 - (CS.hs σ))) (cAcc2 h0 mo11) (cAcc3 h0 mo11) ?_
    refine lv_goto (tgt := 75) hx hb dX3_openOne_30 (by decide) ?_
    obtain rfl := Option.some.inj hf
    exact W.vret hx hb hr (fun t ht hW => ⟨⟨(), rfl, trivial, ⟨by rw [ht]; exact hC.1, va_K.moved hW.alike hK, hC.2.1⟩, by rw [ht]; exact hC.2.2.2⟩, hC.2.2.1.F ht⟩) hC.2.2.1.2.2 dX3_openOne_75
theorem k_X3_act_fieldLink_RX3_72_SR_Machine_taken_I : Cond.fieldLink RX3 72 "StatementRules2$Machine" "taken" "I" ∈ wzX3_act := List.mem_cons_of_mem _ (List.mem_append_left _ (List.mem_of_getElem? (i := 0) rfl))
theorem i_X3_act_X3 : ∀ w ∈ wsX30, w ∈ wzX3_act := fun _ h => List.mem_cons_of_mem _ (List.mem_append_right _ (List.mem_append_left _ (h)))
theorem k_X3_act_fieldLink_RX3_85_SR_Machine_outcome_I : Cond.fieldLink RX3 85 "StatementRules2$Machine" "outcome" "I" ∈ wzX3_act := List.mem_cons_of_mem _ (List.mem_append_left _ (List.mem_of_getElem? (i := 1) rfl))
set_option maxHeartbeats 4000000 in
set_option maxRecDepth 100000 in
theorem c_X3_act (l : Launch) (dC : Nat → ClassId) (dI : Nat → Nat → Nat) (Q : CQ) (N : Nat) (σ : CS) (x1 : Int32) (x2 : Int32) (R : Unit × CS) (hf : f_X3_act N σ x1 x2 = some R) : Met l yX3_act wzX3_act ({ frames := 5, cells := CS.hs R.2 - CS.hs σ, slots := 17 * (CS.hs R.2 - CS.hs σ), locals := 60 * 5 }) (va_Pc [.ref (Q.o 7), .int x1, .int x2] (zPre dC dI (CS.hs σ) (cW Q σ) (cT Q))) (va_Qv (fun (_ : Unit) => True) (fun (_ : Unit) (t : State) => zPost dC dI (va_A (cW Q σ) (CS.hs σ)) (cW Q R.2) (cT Q) t ∧ t.heap.size = CS.hs R.2) (va_A (cW Q σ) (CS.hs σ))) (CS.hs R.2 - CS.hs σ) (17 * (CS.hs R.2 - CS.hs σ)) (va_A (cW Q σ) (CS.hs σ)) := by
  refine Met.ofW (cc := cX3_act) (maxL := 3) (ret := none) (by decide) rfl ?_
  intro p e s m args below meth c s₁ B hml hv
  obtain ⟨rfl, hsz, hZ, hP, hK, hD0⟩ := hv
  have hx := B.exec
  have hb := B.bytes
  have hr := B.returns
  have hts := atoms_spec (ws := wzX3_act) B.pre
  have hown : s.vm.findClass RX3 = some m.cls := findClass_of_methodNamed B.named
  have hlocks := B.notSynchronized
  have hD := hD0.self (sz := CS.hs σ)
  generalize hAe : va_A (cW Q σ) (CS.hs σ) = A at hD ⊢
  have hA : ∀ q : Nat, s.heap.size ≤ q → A q := fun q h => by rw [← hAe]; exact Or.inr (hsz ▸ h)
  have hC : CP dC dI Q A s.heap σ s.heap [] := ⟨hP, hD, va_S.rf, hsz⟩
  have h0 : CS.hs σ ≤ CS.hs σ := Nat.le_refl _
  have hl := lv_entry ([.ref (Q.o 7), .int x1, .int x2]) (n := 3) (Nat.le_of_ble_eq_true rfl)
  rw [lg_entry_eq]
  generalize (lg_sl ([.ref (Q.o 7), .int x1, .int x2]) ++ List.replicate (3 - (lg_sl ([.ref (Q.o 7), .int x1, .int x2])).length) Slot.unset).toArray = ls at hl ⊢
  have hl : lv_has ls 3 [(0, .ref (Q.o 7)), (1, .int x1), (2, .int x2)] := hl
  unfold f_X3_act at hf
  refine W.widen (k := CS.hs σ - CS.hs σ) (n := 17 * (CS.hs σ - CS.hs σ)) (Nat.zero_le _) (Nat.zero_le _) ?_
  refine lv_iload_n hx hb dX3_act_0 rfl (lv_at hl 1 rfl) ?_
  by_cases c1 : x1 = 51
  ·
    replace hf := (if_pos c1).symm.trans hf
    refine lv_tableIn (off := 35) (tgt := 36) hx hb dX3_act_1 (by rw [c1]; decide) (by rw [c1]; decide) (by rw [c1]; decide) (by decide) ?_
    refine lv_aload_n hx hb dX3_act_36 rfl (lv_at hl 0 rfl) ?_
    obtain ⟨p2, hcp2, hf⟩ := hf_bind hf
    have mo3 : CS.hs σ ≤ CS.hs p2.2 := Mono.go hcp2 (m_X3_step N σ)
    have hr9 : CS.hs p2.2 ≤ CS.hs R.2 := Mono.go hf (mono_some (Nat.le_refl _))
    have hFc := cFree hC hA
    refine va_callv (va_runV (As := []) (rest := []) ⟨hx, hb, hml, hown, hts⟩ (c_X3_step l dC dI Q N σ p2 hcp2) (cwV 0 hts hX3_act_X3_step_v175 rfl rfl rfl (by decide +kernel) ⟨(show 1 + 1 ≤ 5 by omega), (show 8 + (1 + 11) + 60 * 1 ≤ 60 * 5 by omega)⟩) ⟨zPre.blind, va_recv hK hC.1 (ci := 2) (q0 := 7) rfl rfl, cPre_go hZ hK hC⟩ rfl rfl hl.1 rfl (lv_room (Nat.le_of_ble_eq_true rfl)) dX3_act_37 (cAcc h0 mo3 hr9)) hC.2.2.1 (fun q _ h => hFc q h) hFc (fun u9 t9 H1 locs ht hvm hw hB hz1 hk1 hS => ?_)
    obtain ⟨⟨hP, hK1, hD1⟩, hsz1⟩ := hB
    rw [ht] at hP hsz1
    have hC : CP dC dI Q A s.heap p2.2 H1 locs := ⟨hP, hD1.weaken (fun _ _ _ h => hFc _ h), hS, hsz1⟩
    generalize H1 = H at hC ⊢
    have h5 : (CS.hs σ) ≤ CS.hs p2.2 := Nat.le_trans h0 mo3
    refine W.widen (k := CS.hs p2.2 - (CS.hs σ)) (n := 17 * (CS.hs p2.2 - (CS.hs σ))) (cAcc2 h0 mo3) (cAcc3 h0 mo3) ?_
    refine lv_goto (tgt := 102) hx hb dX3_act_40 (by decide) ?_
    obtain rfl := Option.some.inj hf
    exact W.vret hx hb hr (fun t ht hW => ⟨⟨(), rfl, trivial, ⟨by rw [ht]; exact hC.1, va_K.moved hW.alike hK, hC.2.1⟩, by rw [ht]; exact hC.2.2.2⟩, hC.2.2.1.F ht⟩) hC.2.2.1.2.2 dX3_act_102
  replace hf := (if_neg c1).symm.trans hf
  by_cases c6 : x1 = 52
  ·
    replace hf := (if_pos c6).symm.trans hf
    refine lv_tableIn (off := 42) (tgt := 43) hx hb dX3_act_1 (by rw [c6]; decide) (by rw [c6]; decide) (by rw [c6]; decide) (by decide) ?_
    refine lv_aload_n hx hb dX3_act_43 rfl (lv_at hl 0 rfl) ?_
    refine lv_iconst (v := 0) hx hb dX3_act_44 (by decide) ?_
    refine lv_aload_n hx hb dX3_act_45 rfl (lv_at hl 0 rfl) ?_
    obtain ⟨p7, hcp7, hf⟩ := hf_bind hf
    have mo8 : CS.hs σ ≤ CS.hs p7.2 := Mono.go hcp7 (m_X3_pop N σ)
    have hr9 : CS.hs p7.2 ≤ CS.hs R.2 := Mono.go hf (mono_bind (m_X3_note N p7.2 0 p7.1) (fun p11 => (mono_some (Nat.le_refl _))))
    have hFc := cFree hC hA
    refine va_calli (va_runV (As := []) (rest := [.int 0, .ref (Q.o 7)]) ⟨hx, hb, hml, hown, hts⟩ (c_X3_pop l dC dI Q N σ p7 hcp7) (cwV 0 hts hX3_act_X3_pop_v138 rfl rfl rfl (by decide +kernel) ⟨(show 2 + 1 ≤ 5 by omega), (show 8 + (1 + 11) + 60 * 2 ≤ 60 * 5 by omega)⟩) ⟨zPre.blind, va_recv hK hC.1 (ci := 2) (q0 := 7) rfl rfl, cPre_go hZ hK hC⟩ rfl rfl hl.1 rfl (lv_room (Nat.le_of_ble_eq_true rfl)) dX3_act_46 (cAcc h0 mo8 hr9)) hC.2.2.1 (fun q _ h => hFc q h) hFc (fun r9 u9 t9 H1 locs ht hvm hw hB hz1 hk1 hS => ?_)
    obtain ⟨⟨hP, hK1, hD1⟩, hsz1⟩ := hB
    rw [ht] at hP hsz1
    have hC : CP dC dI Q A s.heap p7.2 H1 locs := ⟨hP, hD1.weaken (fun _ _ _ h => hFc _ h), hS, hsz1⟩
    generalize H1 = H at hC ⊢
    have h10 : (CS.hs σ) ≤ CS.hs p7.2 := Nat.le_trans h0 mo8
    refine W.widen (k := CS.hs p7.2 - (CS.hs σ)) (n := 17 * (CS.hs p7.2 - (CS.hs σ))) (cAcc2 h0 mo8) (cAcc3 h0 mo8) ?_
    obtain rfl : r9 = p7.1 := hw
    obtain ⟨p11, hcp11, hf⟩ := hf_bind hf
    have mo12 : CS.hs p7.2 ≤ CS.hs p11.2 := Mono.go hcp11 (m_X3_note N p7.2 0 p7.1)
    have hr9 : CS.hs p11.2 ≤ CS.hs R.2 := Mono.go hf (mono_some (Nat.le_refl _))
    have hFc := cFree hC hA
    refine va_callv (va_runV (As := [.int 0, .int p7.1]) (rest := []) ⟨hx, hb, hml, hown, hts⟩ (c_X3_note l dC dI Q N p7.2 0 p7.1 p11 hcp11) (cwV 2 hts hX3_act_X3_note_v178 rfl rfl rfl (by decide +kernel) ⟨(show 2 + 1 ≤ 5 by omega), (show 8 + (3 + 11) + 60 * 2 ≤ 60 * 5 by omega)⟩) ⟨zPre.blind, va_recv hK hC.1 (ci := 2) (q0 := 7) rfl rfl, cPre_go hZ hK hC⟩ rfl rfl hl.1 rfl (lv_room (Nat.le_of_ble_eq_true rfl)) dX3_act_49 (cAcc h10 mo12 hr9)) hC.2.2.1 (fun q _ h => hFc q h) hFc (fun u9 t9 H1 locs ht hvm hw hB hz1 hk1 hS => ?_)
    obtain ⟨⟨hP, hK1, hD1⟩, hsz1⟩ := hB
    rw [ht] at hP hsz1
    have hC : CP dC dI Q A s.heap p11.2 H1 locs := ⟨hP, hD1.weaken (fun _ _ _ h => hFc _ h), hS, hsz1⟩
    generalize H1 = H at hC ⊢
    have h14 : (CS.hs σ) ≤ CS.hs p11.2 := Nat.le_trans h10 mo12
    refine W.widen (k := CS.hs p11.2 - (CS.hs σ)) (n := 17 * (CS.hs p11.2 - (CS.hs σ))) (cAcc2 h10 mo12) (cAcc3 h10 mo12) ?_
    refine lv_goto (tgt := 102) hx hb dX3_act_52 (by decide) ?_
    obtain rfl := Option.some.inj hf
    exact W.vret hx hb hr (fun t ht hW => ⟨⟨(), rfl, trivial, ⟨by rw [ht]; exact hC.1, va_K.moved hW.alike hK, hC.2.1⟩, by rw [ht]; exact hC.2.2.2⟩, hC.2.2.1.F ht⟩) hC.2.2.1.2.2 dX3_act_102
  replace hf := (if_neg c6).symm.trans hf
  by_cases c15 : x1 = 53
  ·
    replace hf := (if_pos c15).symm.trans hf
    refine lv_tableIn (off := 54) (tgt := 55) hx hb dX3_act_1 (by rw [c15]; decide) (by rw [c15]; decide) (by rw [c15]; decide) (by decide) ?_
    refine lv_aload_n hx hb dX3_act_55 rfl (lv_at hl 0 rfl) ?_
    refine lv_iconst (v := 0) hx hb dX3_act_56 (by decide) ?_
    refine lv_iload_n hx hb dX3_act_57 rfl (lv_at hl 2 rfl) ?_
    obtain ⟨p16, hcp16, hf⟩ := hf_bind hf
    have mo17 : CS.hs σ ≤ CS.hs p16.2 := Mono.go hcp16 (m_X3_enter N σ 0 x2)
    have hr9 : CS.hs p16.2 ≤ CS.hs R.2 := Mono.go hf (mono_bind (m_X3_note N (CS.setI p16.2 71 ((p16.2.i 71) + 1)) 3 x2) (fun p20 => (mono_some (Nat.le_refl _))))
    have hFc := cFree hC hA
    refine va_callv (va_runV (As := [.int 0, .int x2]) (rest := []) ⟨hx, hb, hml, hown, hts⟩ (c_X3_enter l dC dI Q N σ 0 x2 p16 hcp16) (cwV 2 hts hX3_act_X3_enter_v181 rfl rfl rfl (by decide +kernel) ⟨(show 2 + 1 ≤ 5 by omega), (show 8 + (5 + 11) + 60 * 2 ≤ 60 * 5 by omega)⟩) ⟨zPre.blind, va_recv hK hC.1 (ci := 2) (q0 := 7) rfl rfl, cPre_go hZ hK hC⟩ rfl rfl hl.1 rfl (lv_room (Nat.le_of_ble_eq_true rfl)) dX3_act_58 (cAcc h0 mo17 hr9)) hC.2.2.1 (fun q _ h => hFc q h) hFc (fun u9 t9 H1 locs ht hvm hw hB hz1 hk1 hS => ?_)
    obtain ⟨⟨hP, hK1, hD1⟩, hsz1⟩ := hB
    rw [ht] at hP hsz1
    have hC : CP dC dI Q A s.heap p16.2 H1 locs := ⟨hP, hD1.weaken (fun _ _ _ h => hFc _ h), hS, hsz1⟩
    generalize H1 = H at hC ⊢
    have h19 : (CS.hs σ) ≤ CS.hs p16.2 := Nat.le_trans h0 mo17
    refine W.widen (k := CS.hs p16.2 - (CS.hs σ)) (n := 17 * (CS.hs p16.2 - (CS.hs σ))) (cAcc2 h0 mo17) (cAcc3 h0 mo17) ?_
    refine lv_aload_n hx hb dX3_act_61 rfl (lv_at hl 0 rfl) ?_
    refine lv_dup hx hb dX3_act_62 rfl ?_
    refine cG_71 (v := (p16.2.i 71)) hx hb hts i_X3_act_X3 hown hK hC (hts (.fieldLink RX3 72 "StatementRules2$Machine" "taken" "I") k_X3_act_fieldLink_RX3_72_SR_Machine_taken_I) (fun _ q9 => q9) dX3_act_63 rfl ?_
    refine lv_iconst (v := 1) hx hb dX3_act_66 (by decide) ?_
    refine lv_iadd hx hb dX3_act_67 ?_
    refine cP_71 (v := ((p16.2.i 71) + 1)) hx hb hts i_X3_act_X3 hown hK hC (hts (.fieldLink RX3 72 "StatementRules2$Machine" "taken" "I") k_X3_act_fieldLink_RX3_72_SR_Machine_taken_I) (fun _ q9 => q9) dX3_act_68 (fun H locs hC => ?_)
    refine lv_aload_n hx hb dX3_act_71 rfl (lv_at hl 0 rfl) ?_
    refine lv_iconst (v := 3) hx hb dX3_act_72 (by decide) ?_
    refine lv_iload_n hx hb dX3_act_73 rfl (lv_at hl 2 rfl) ?_
    obtain ⟨p20, hcp20, hf⟩ := hf_bind hf
    have mo21 : CS.hs p16.2 ≤ CS.hs p20.2 := Mono.go hcp20 (m_X3_note N (CS.setI p16.2 71 ((p16.2.i 71) + 1)) 3 x2)
    have hr9 : CS.hs p20.2 ≤ CS.hs R.2 := Mono.go hf (mono_some (Nat.le_refl _))
    have hFc := cFree hC hA
    refine va_callv (va_runV (As := [.int 3, .int x2]) (rest := []) ⟨hx, hb, hml, hown, hts⟩ (c_X3_note l dC dI Q N (CS.setI p16.2 71 ((p16.2.i 71) + 1)) 3 x2 p20 hcp20) (cwV 2 hts hX3_act_X3_note_v178 rfl rfl rfl (by decide +kernel) ⟨(show 2 + 1 ≤ 5 by omega), (show 8 + (3 + 11) + 60 * 2 ≤ 60 * 5 by omega)⟩) ⟨zPre.blind, va_recv hK hC.1 (ci := 2) (q0 := 7) rfl rfl, cPre_go hZ hK hC⟩ rfl rfl hl.1 rfl (lv_room (Nat.le_of_ble_eq_true rfl)) dX3_act_74 (cAcc h19 mo21 hr9)) hC.2.2.1 (fun q _ h => hFc q h) hFc (fun u9 t9 H1 locs ht hvm hw hB hz1 hk1 hS => ?_)
    obtain ⟨⟨hP, hK1, hD1⟩, hsz1⟩ := hB
    rw [ht] at hP hsz1
    have hC : CP dC dI Q A s.heap p20.2 H1 locs := ⟨hP, hD1.weaken (fun _ _ _ h => hFc _ h), hS, hsz1⟩
    generalize H1 = H at hC ⊢
    have h23 : (CS.hs σ) ≤ CS.hs p20.2 := Nat.le_trans h19 mo21
    refine W.widen (k := CS.hs p20.2 - (CS.hs σ)) (n := 17 * (CS.hs p20.2 - (CS.hs σ))) (cAcc2 h19 mo21) (cAcc3 h19 mo21) ?_
    refine lv_goto (tgt := 102) hx hb dX3_act_77 (by decide) ?_
    obtain rfl := Option.some.inj hf
    exact W.vret hx hb hr (fun t ht hW => ⟨⟨(), rfl, trivial, ⟨by rw [ht]; exact hC.1, va_K.moved hW.alike hK, hC.2.1⟩, by rw [ht]; exact hC.2.2.2⟩, hC.2.2.1.F ht⟩) hC.2.2.1.2.2 dX3_act_102
  replace hf := (if_neg c15).symm.trans hf
  by_cases c24 : x1 = 54
  ·
    replace hf := (if_pos c24).symm.trans hf
    refine lv_tableIn (off := 79) (tgt := 80) hx hb dX3_act_1 (by rw [c24]; decide) (by rw [c24]; decide) (by rw [c24]; decide) (by decide) ?_
    refine lv_aload_n hx hb dX3_act_80 rfl (lv_at hl 0 rfl) ?_
    refine lv_iconst (v := 1) hx hb dX3_act_81 (by decide) ?_
    refine lv_iload_n hx hb dX3_act_82 rfl (lv_at hl 2 rfl) ?_
    obtain ⟨p25, hcp25, hf⟩ := hf_bind hf
    have mo26 : CS.hs σ ≤ CS.hs p25.2 := Mono.go hcp25 (m_X3_enter N σ 1 x2)
    have hr9 : CS.hs p25.2 ≤ CS.hs R.2 := Mono.go hf (mono_some (Nat.le_refl _))
    have hFc := cFree hC hA
    refine va_callv (va_runV (As := [.int 1, .int x2]) (rest := []) ⟨hx, hb, hml, hown, hts⟩ (c_X3_enter l dC dI Q N σ 1 x2 p25 hcp25) (cwV 2 hts hX3_act_X3_enter_v181 rfl rfl rfl (by decide +kernel) ⟨(show 2 + 1 ≤ 5 by omega), (show 8 + (5 + 11) + 60 * 2 ≤ 60 * 5 by omega)⟩) ⟨zPre.blind, va_recv hK hC.1 (ci := 2) (q0 := 7) rfl rfl, cPre_go hZ hK hC⟩ rfl rfl hl.1 rfl (lv_room (Nat.le_of_ble_eq_true rfl)) dX3_act_83 (cAcc h0 mo26 hr9)) hC.2.2.1 (fun q _ h => hFc q h) hFc (fun u9 t9 H1 locs ht hvm hw hB hz1 hk1 hS => ?_)
    obtain ⟨⟨hP, hK1, hD1⟩, hsz1⟩ := hB
    rw [ht] at hP hsz1
    have hC : CP dC dI Q A s.heap p25.2 H1 locs := ⟨hP, hD1.weaken (fun _ _ _ h => hFc _ h), hS, hsz1⟩
    generalize H1 = H at hC ⊢
    have h28 : (CS.hs σ) ≤ CS.hs p25.2 := Nat.le_trans h0 mo26
    refine W.widen (k := CS.hs p25.2 - (CS.hs σ)) (n := 17 * (CS.hs p25.2 - (CS.hs σ))) (cAcc2 h0 mo26) (cAcc3 h0 mo26) ?_
    refine lv_goto (tgt := 102) hx hb dX3_act_86 (by decide) ?_
    obtain rfl := Option.some.inj hf
    exact W.vret hx hb hr (fun t ht hW => ⟨⟨(), rfl, trivial, ⟨by rw [ht]; exact hC.1, va_K.moved hW.alike hK, hC.2.1⟩, by rw [ht]; exact hC.2.2.2⟩, hC.2.2.1.F ht⟩) hC.2.2.1.2.2 dX3_act_102
  replace hf := (if_neg c24).symm.trans hf
  by_cases c29 : x1 = 55
  ·
    replace hf := (if_pos c29).symm.trans hf
    refine lv_tableIn (off := 88) (tgt := 89) hx hb dX3_act_1 (by rw [c29]; decide) (by rw [c29]; decide) (by rw [c29]; decide) (by decide) ?_
    refine lv_aload_n hx hb dX3_act_89 rfl (lv_at hl 0 rfl) ?_
    refine lv_iload_n hx hb dX3_act_90 rfl (lv_at hl 2 rfl) ?_
    obtain ⟨p30, hcp30, hf⟩ := hf_bind hf
    have mo31 : CS.hs σ ≤ CS.hs p30.2 := Mono.go hcp30 (m_X3_openOne N σ x2)
    have hr9 : CS.hs p30.2 ≤ CS.hs R.2 := Mono.go hf (mono_some (Nat.le_refl _))
    have hFc := cFree hC hA
    refine va_callv (va_runV (As := [.int x2]) (rest := []) ⟨hx, hb, hml, hown, hts⟩ (c_X3_openOne l dC dI Q N σ x2 p30 hcp30) (cwV 1 hts hX3_act_X3_openOne_v184 rfl rfl rfl (by decide +kernel) ⟨(show 4 + 1 ≤ 5 by omega), (show 8 + (2 + 11) + 60 * 4 ≤ 60 * 5 by omega)⟩) ⟨zPre.blind, va_recv hK hC.1 (ci := 2) (q0 := 7) rfl rfl, cPre_go hZ hK hC⟩ rfl rfl hl.1 rfl (lv_room (Nat.le_of_ble_eq_true rfl)) dX3_act_91 (cAcc h0 mo31 hr9)) hC.2.2.1 (fun q _ h => hFc q h) hFc (fun u9 t9 H1 locs ht hvm hw hB hz1 hk1 hS => ?_)
    obtain ⟨⟨hP, hK1, hD1⟩, hsz1⟩ := hB
    rw [ht] at hP hsz1
    have hC : CP dC dI Q A s.heap p30.2 H1 locs := ⟨hP, hD1.weaken (fun _ _ _ h => hFc _ h), hS, hsz1⟩
    generalize H1 = H at hC ⊢
    have h33 : (CS.hs σ) ≤ CS.hs p30.2 := Nat.le_trans h0 mo31
    refine W.widen (k := CS.hs p30.2 - (CS.hs σ)) (n := 17 * (CS.hs p30.2 - (CS.hs σ))) (cAcc2 h0 mo31) (cAcc3 h0 mo31) ?_
    refine lv_goto (tgt := 102) hx hb dX3_act_94 (by decide) ?_
    obtain rfl := Option.some.inj hf
    exact W.vret hx hb hr (fun t ht hW => ⟨⟨(), rfl, trivial, ⟨by rw [ht]; exact hC.1, va_K.moved hW.alike hK, hC.2.1⟩, by rw [ht]; exact hC.2.2.2⟩, hC.2.2.1.F ht⟩) hC.2.2.1.2.2 dX3_act_102
  replace hf := (if_neg c29).symm.trans hf
  refine lv_tableOut (tgt := 97) hx hb dX3_act_1 (by have := z_ton (a := 51) c1 (by decide); have := z_ton (a := 52) c6 (by decide); have := z_ton (a := 53) c15 (by decide); have := z_ton (a := 54) c24 (by decide); have := z_ton (a := 55) c29 (by decide); omega) (by decide) ?_
  refine lv_aload_n hx hb dX3_act_97 rfl (lv_at hl 0 rfl) ?_
  refine lv_iconst (v := 0) hx hb dX3_act_98 (by decide) ?_
  refine cP_72 (v := 0) hx hb hts i_X3_act_X3 hown hK hC (hts (.fieldLink RX3 85 "StatementRules2$Machine" "outcome" "I") k_X3_act_fieldLink_RX3_85_SR_Machine_outcome_I) (fun _ q9 => q9) dX3_act_99 (fun H locs hC => ?_)
  obtain rfl := Option.some.inj hf
  exact W.vret hx hb hr (fun t ht hW => ⟨⟨(), rfl, trivial, ⟨by rw [ht]; exact hC.1, va_K.moved hW.alike hK, hC.2.1⟩, by rw [ht]; exact hC.2.2.2⟩, hC.2.2.1.F ht⟩) hC.2.2.1.2.2 dX3_act_102
theorem k_X3_frame_fieldLink_RX3_60_SR_Machine_depth_I : Cond.fieldLink RX3 60 "StatementRules2$Machine" "depth" "I" ∈ wzX3_frame := List.mem_cons_of_mem _ (List.mem_append_left _ (List.mem_of_getElem? (i := 0) rfl))
theorem i_X3_frame_X3 : ∀ w ∈ wsX30, w ∈ wzX3_frame := fun _ h => List.mem_cons_of_mem _ (List.mem_append_right _ (List.mem_append_left _ (h)))
theorem k_X3_frame_fieldLink_RX3_20_SR_Machine_frames_LSR_Frame : Cond.fieldLink RX3 20 "StatementRules2$Machine" "frames" "[LStatementRules2$Frame;" ∈ wzX3_frame := List.mem_cons_of_mem _ (List.mem_append_left _ (List.mem_of_getElem? (i := 1) rfl))
set_option maxHeartbeats 4000000 in
set_option maxRecDepth 100000 in
theorem j_X3_frame_30 {p : Program} {e : Env} {s : State} {m : MethodId} {args : Array Value} {below : List Frame} {meth : Method} {c : Code} {A : Nat → Prop} (l : Launch) (dC : Nat → ClassId) (dI : Nat → Nat → Nat) (Q : CQ) (N : Nat) (z9h : Nat) (R : Option Nat × CS) (hx : p.tables.exec = Jvm.exec) (hb : c.code = cX3_frame) (hr : meth.sig.returnType = (some (.object "StatementRules2$Frame"))) (hml : c.maxLocals = 2) (hown : s.vm.findClass RX3 = some m.cls) (hts : ∀ w ∈ wzX3_frame, w.before args s = true) (hlocks : meth.locks = false) (hZ : zAMB s) (hA : ∀ q : Nat, s.heap.size ≤ q → A q) (hK : va_K (dC, dI) vwCl (cT Q) s) : ∀ (σ : CS) (H : Heap) (locs : List Loc) (ls : Array Slot), f_X3_frame_30 N σ = some R → z9h ≤ CS.hs σ → CP dC dI Q A s.heap σ H locs → lv_has ls 2 [] → W p l e ({ frames := 1, cells := CS.hs R.2 - z9h, slots := 17 * (CS.hs R.2 - z9h), locals := 60 * 1 }) s m args below meth c H locs (CS.hs σ - z9h) (17 * (CS.hs σ - z9h)) (MQ below (va_Qq (fun (r : Option Nat) (_ : Unit) => r = R.1) (fun (_ : Unit) (t : State) => zPost dC dI A (cW Q R.2) (cT Q) t ∧ t.heap.size = CS.hs R.2) A) args s (CS.hs R.2 - z9h) (17 * (CS.hs R.2 - z9h)) A) (F0 m 30 ls []) := by
  intro σ  H locs ls hf h0 hC hl
  unfold f_X3_frame_30 at hf
  refine lv_null hx hb dX3_frame_30 ?_
  obtain rfl := Option.some.inj hf
  exact W.aret (v := .null) hx hb hr (Or.inl ⟨_, rfl⟩) (Or.inl rfl) (fun t ht hW => ⟨⟨none, (), rfl, rfl, ⟨by rw [ht]; exact hC.1, va_K.moved hW.alike hK, hC.2.1⟩, by rw [ht]; exact hC.2.2.2⟩, hC.2.2.1.F ht⟩) hC.2.2.1.2.2 dX3_frame_31
set_option maxHeartbeats 4000000 in
set_option maxRecDepth 100000 in
theorem c_X3_frame (l : Launch) (dC : Nat → ClassId) (dI : Nat → Nat → Nat) (Q : CQ) (N : Nat) (σ : CS) (x1 : Int32) (R : Option Nat × CS) (hf : f_X3_frame N σ x1 = some R) : Met l yX3_frame wzX3_frame ({ frames := 1, cells := CS.hs R.2 - CS.hs σ, slots := 17 * (CS.hs R.2 - CS.hs σ), locals := 60 * 1 }) (va_Pc [.ref (Q.o 7), .int x1] (zPre dC dI (CS.hs σ) (cW Q σ) (cT Q))) (va_Qq (fun (r : Option Nat) (_ : Unit) => r = R.1) (fun (_ : Unit) (t : State) => zPost dC dI (va_A (cW Q σ) (CS.hs σ)) (cW Q R.2) (cT Q) t ∧ t.heap.size = CS.hs R.2) (va_A (cW Q σ) (CS.hs σ))) (CS.hs R.2 - CS.hs σ) (17 * (CS.hs R.2 - CS.hs σ)) (va_A (cW Q σ) (CS.hs σ)) := by
  refine Met.ofW (cc := cX3_frame) (maxL := 2) (ret := (some (.object "StatementRules2$Frame"))) (by decide) rfl ?_
  intro p e s m args below meth c s₁ B hml hv
  obtain ⟨rfl, hsz, hZ, hP, hK, hD0⟩ := hv
  have hx := B.exec
  have hb := B.bytes
  have hr := B.returns
  have hts := atoms_spec (ws := wzX3_frame) B.pre
  have hown : s.vm.findClass RX3 = some m.cls := findClass_of_methodNamed B.named
  have hlocks := B.notSynchronized
  have hD := hD0.self (sz := CS.hs σ)
  generalize hAe : va_A (cW Q σ) (CS.hs σ) = A at hD ⊢
  have hA : ∀ q : Nat, s.heap.size ≤ q → A q := fun q h => by rw [← hAe]; exact Or.inr (hsz ▸ h)
  have hC : CP dC dI Q A s.heap σ s.heap [] := ⟨hP, hD, va_S.rf, hsz⟩
  have h0 : CS.hs σ ≤ CS.hs σ := Nat.le_refl _
  have hl := lv_entry ([.ref (Q.o 7), .int x1]) (n := 2) (Nat.le_of_ble_eq_true rfl)
  rw [lg_entry_eq]
  generalize (lg_sl ([.ref (Q.o 7), .int x1]) ++ List.replicate (2 - (lg_sl ([.ref (Q.o 7), .int x1])).length) Slot.unset).toArray = ls at hl ⊢
  have hl : lv_has ls 2 [(0, .ref (Q.o 7)), (1, .int x1)] := hl
  unfold f_X3_frame at hf
  refine W.widen (k := CS.hs σ - CS.hs σ) (n := 17 * (CS.hs σ - CS.hs σ)) (Nat.zero_le _) (Nat.zero_le _) ?_
  refine lv_iload_n hx hb dX3_frame_0 rfl (lv_at hl 1 rfl) ?_
  refine lv_if_lt (tgt := 30) hx hb dX3_frame_1 (by decide) (fun c1 => ?_) (fun c1 => ?_)
  ·
    replace hf := (if_pos c1).symm.trans hf
    exact j_X3_frame_30 l dC dI Q N (CS.hs σ) R hx hb hr hml hown hts hlocks hZ hA hK σ _ _ _ hf h0 hC (lv_sub hl [] rfl)
  ·
    replace hf := (if_neg c1).symm.trans hf
    refine lv_iload_n hx hb dX3_frame_4 rfl (lv_at hl 1 rfl) ?_
    refine lv_aload_n hx hb dX3_frame_5 rfl (lv_at hl 0 rfl) ?_
    refine cG_67 (v := (σ.i 67)) hx hb hts i_X3_frame_X3 hown hK hC (hts (.fieldLink RX3 60 "StatementRules2$Machine" "depth" "I") k_X3_frame_fieldLink_RX3_60_SR_Machine_depth_I) (fun _ q9 => q9) dX3_frame_6 rfl ?_
    refine lv_icmp_ge (tgt := 30) hx hb dX3_frame_9 (by decide) (fun c2 => ?_) (fun c2 => ?_)
    ·
      replace hf := (if_pos c2).symm.trans hf
      exact j_X3_frame_30 l dC dI Q N (CS.hs σ) R hx hb hr hml hown hts hlocks hZ hA hK σ _ _ _ hf h0 hC (lv_sub hl [] rfl)
    ·
      replace hf := (if_neg c2).symm.trans hf
      refine lv_iload_n hx hb dX3_frame_12 rfl (lv_at hl 1 rfl) ?_
      refine lv_aload_n hx hb dX3_frame_13 rfl (lv_at hl 0 rfl) ?_
      refine cG_61 hx hb hts i_X3_frame_X3 hown hK hC (hts (.fieldLink RX3 20 "StatementRules2$Machine" "frames" "[LStatementRules2$Frame;") k_X3_frame_fieldLink_RX3_20_SR_Machine_frames_LSR_Frame) (fun _ q9 => q9) dX3_frame_14 ?_
      refine va_alen (v := 24) hx hb hK hC.1 26 3 rfl rfl rfl dX3_frame_17 ?_
      refine lv_icmp_ge (tgt := 30) hx hb dX3_frame_18 (by decide) (fun c3 => ?_) (fun c3 => ?_)
      ·
        replace hf := (if_pos c3).symm.trans hf
        exact j_X3_frame_30 l dC dI Q N (CS.hs σ) R hx hb hr hml hown hts hlocks hZ hA hK σ _ _ _ hf h0 hC (lv_sub hl [] rfl)
      ·
        replace hf := (if_neg c3).symm.trans hf
        refine lv_aload_n hx hb dX3_frame_21 rfl (lv_at hl 0 rfl) ?_
        refine cG_61 hx hb hts i_X3_frame_X3 hown hK hC (hts (.fieldLink RX3 20 "StatementRules2$Machine" "frames" "[LStatementRules2$Frame;") k_X3_frame_fieldLink_RX3_20_SR_Machine_frames_LSR_Frame) (fun _ q9 => q9) dX3_frame_22 ?_
        refine lv_iload_n hx hb dX3_frame_25 rfl (lv_at hl 1 rfl) ?_
        obtain ⟨b4, hf⟩ := hf_ite hf
        refine cL_61 (v := (CS.r σ 61 ((x1 : Int32).toNatClampNeg))) hx hb hK hC b4 dX3_frame_26 rfl ?_
        rcases hf_oc hf with ⟨q5, hf⟩ | ⟨a6, q5, hf⟩
        ·
          refine W.eq (congrArg (fun v9 => F0 m 27 ls (va_rf v9 :: [])) q5) ?_
          refine W.eq (g2 := F0 m 27 ls (.null :: [])) rfl ?_
          refine lv_goto (tgt := 31) hx hb dX3_frame_27 (by decide) ?_
          obtain rfl := Option.some.inj hf
          exact W.aret (v := .null) hx hb hr (Or.inl ⟨_, rfl⟩) (Or.inl rfl) (fun t ht hW => ⟨⟨none, (), rfl, rfl, ⟨by rw [ht]; exact hC.1, va_K.moved hW.alike hK, hC.2.1⟩, by rw [ht]; exact hC.2.2.2⟩, hC.2.2.1.F ht⟩) hC.2.2.1.2.2 dX3_frame_31
        ·
          refine W.eq (congrArg (fun v9 => F0 m 27 ls (va_rf v9 :: [])) q5) ?_
          refine W.eq (g2 := F0 m 27 ls (.ref a6 :: [])) rfl ?_
          refine lv_goto (tgt := 31) hx hb dX3_frame_27 (by decide) ?_
          obtain rfl := Option.some.inj hf
          exact W.aret (v := .ref a6) hx hb hr (Or.inl ⟨_, rfl⟩) (Or.inr ⟨_, rfl⟩) (fun t ht hW => ⟨⟨(some a6), (), rfl, rfl, ⟨by rw [ht]; exact hC.1, va_K.moved hW.alike hK, hC.2.1⟩, by rw [ht]; exact hC.2.2.2⟩, hC.2.2.1.F ht⟩) hC.2.2.1.2.2 dX3_frame_31
theorem i_X3_throwAgain_X2 : ∀ w ∈ wsX20, w ∈ wzX3_throwAgain := fun _ h => List.mem_cons_of_mem _ (List.mem_append_right _ (List.mem_append_left _ (h)))
theorem k_X3_throwAgain_fieldLink_RX3_81_SR_Machine_wayThrown_LSR_Thrown : Cond.fieldLink RX3 81 "StatementRules2$Machine" "wayThrown" "LStatementRules2$Thrown;" ∈ wzX3_throwAgain := List.mem_cons_of_mem _ (List.mem_append_left _ (List.mem_of_getElem? (i := 0) rfl))
theorem i_X3_throwAgain_X3 : ∀ w ∈ wsX30, w ∈ wzX3_throwAgain := fun _ h => List.mem_cons_of_mem _ (List.mem_append_right _ (List.mem_append_right _ (List.mem_append_left _ (h))))
set_option maxHeartbeats 4000000 in
set_option maxRecDepth 100000 in
theorem c_X3_throwAgain (l : Launch) (dC : Nat → ClassId) (dI : Nat → Nat → Nat) (Q : CQ) (N : Nat) (σ : CS) (x1 : Option Nat) (R : Unit × CS) (hf : f_X3_throwAgain N σ x1 = some R) : Met l yX3_throwAgain wzX3_throwAgain ({ frames := 2, cells := CS.hs R.2 - CS.hs σ, slots := 17 * (CS.hs R.2 - CS.hs σ), locals := 60 * 2 }) (va_Pc [.ref (Q.o 7), va_rf x1] (zPre dC dI (CS.hs σ) (cW Q σ) (cT Q))) (va_Qv (fun (_ : Unit) => True) (fun (_ : Unit) (t : State) => zPost dC dI (va_A (cW Q σ) (CS.hs σ)) (cW Q R.2) (cT Q) t ∧ t.heap.size = CS.hs R.2) (va_A (cW Q σ) (CS.hs σ))) (CS.hs R.2 - CS.hs σ) (17 * (CS.hs R.2 - CS.hs σ)) (va_A (cW Q σ) (CS.hs σ)) := by
  refine Met.ofW (cc := cX3_throwAgain) (maxL := 2) (ret := none) (by decide) rfl ?_
  intro p e s m args below meth c s₁ B hml hv
  obtain ⟨rfl, hsz, hZ, hP, hK, hD0⟩ := hv
  have hx := B.exec
  have hb := B.bytes
  have hr := B.returns
  have hts := atoms_spec (ws := wzX3_throwAgain) B.pre
  have hown : s.vm.findClass RX3 = some m.cls := findClass_of_methodNamed B.named
  have hlocks := B.notSynchronized
  have hD := hD0.self (sz := CS.hs σ)
  generalize hAe : va_A (cW Q σ) (CS.hs σ) = A at hD ⊢
  have hA : ∀ q : Nat, s.heap.size ≤ q → A q := fun q h => by rw [← hAe]; exact Or.inr (hsz ▸ h)
  have hC : CP dC dI Q A s.heap σ s.heap [] := ⟨hP, hD, va_S.rf, hsz⟩
  have h0 : CS.hs σ ≤ CS.hs σ := Nat.le_refl _
  have hl := lv_entry ([.ref (Q.o 7), va_rf x1]) (n := 2) (by cases x1 <;> exact Nat.le_of_ble_eq_true rfl)
  rw [lg_entry_eq]
  generalize (lg_sl ([.ref (Q.o 7), va_rf x1]) ++ List.replicate (2 - (lg_sl ([.ref (Q.o 7), va_rf x1])).length) Slot.unset).toArray = ls at hl ⊢
  have hl : lv_has ls 2 [(0, .ref (Q.o 7)), (1, va_rf x1)] := hl
  unfold f_X3_throwAgain at hf
  refine W.widen (k := CS.hs σ - CS.hs σ) (n := 17 * (CS.hs σ - CS.hs σ)) (Nat.zero_le _) (Nat.zero_le _) ?_
  rcases hf_oc hf with ⟨q1, hf⟩ | ⟨a2, q1, hf⟩
  ·
    subst q1
    have hl : lv_has ls 2 [(0, .ref (Q.o 7)), (1, .null)] := hl
    refine lv_aload_nN hx hb dX3_throwAgain_0 rfl (lv_at hl 1 rfl) ?_
    refine lv_ifnullN (tgt := 19) hx hb dX3_throwAgain_1 (by decide) ?_
    obtain rfl := Option.some.inj hf
    exact W.vret hx hb hr (fun t ht hW => ⟨⟨(), rfl, trivial, ⟨by rw [ht]; exact hC.1, va_K.moved hW.alike hK, hC.2.1⟩, by rw [ht]; exact hC.2.2.2⟩, hC.2.2.1.F ht⟩) hC.2.2.1.2.2 dX3_throwAgain_19
  ·
    subst q1
    have hl : lv_has ls 2 [(0, .ref (Q.o 7)), (1, .ref a2)] := hl
    refine lv_aload_n hx hb dX3_throwAgain_0 rfl (lv_at hl 1 rfl) ?_
    refine lv_ifnull hx hb dX3_throwAgain_1 ?_
    refine lv_aload_n hx hb dX3_throwAgain_4 rfl (lv_at hl 0 rfl) ?_
    refine lv_aload_n hx hb dX3_throwAgain_5 rfl (lv_at hl 1 rfl) ?_
    obtain ⟨b3, hf⟩ := hf_ite hf
    refine pGN_X2_4 (v := (CS.ot σ a2)) hx hb hts i_X3_throwAgain_X2 hown hK hC (va_Nw.use rfl (hZ.1 (.fieldLinkNest RX3 204 "StatementRules2$Frame" "thrown" "LStatementRules2$Thrown;" "StatementRules2") (by decide +kernel))) (fun _ q9 => q9) dX3_throwAgain_6 b3 rfl ?_
    rcases hf_oc hf with ⟨q4, hf⟩ | ⟨a5, q4, hf⟩
    ·
      refine W.eq (congrArg (fun v9 => F0 m 9 ls (va_rf v9 :: [.ref (Q.o 7)])) q4) ?_
      refine W.eq (g2 := F0 m 9 ls (.null :: [.ref (Q.o 7)])) rfl ?_
      refine cP_76 (v := none) hx hb hts i_X3_throwAgain_X3 hown hK hC (hts (.fieldLink RX3 81 "StatementRules2$Machine" "wayThrown" "LStatementRules2$Thrown;") k_X3_throwAgain_fieldLink_RX3_81_SR_Machine_wayThrown_LSR_Thrown) (fun _ q9 => q9) dX3_throwAgain_9 (fun H locs hC => ?_)
      refine lv_aload_n hx hb dX3_throwAgain_12 rfl (lv_at hl 0 rfl) ?_
      refine lv_iconst (v := 4) hx hb dX3_throwAgain_13 (by decide) ?_
      refine lv_iconst (v := 0) hx hb dX3_throwAgain_14 (by decide) ?_
      refine lv_iconst (v := 0) hx hb dX3_throwAgain_15 (by decide) ?_
      obtain ⟨p6, hcp6, hf⟩ := hf_bind hf
      have mo7 : CS.hs σ ≤ CS.hs p6.2 := Mono.go hcp6 (m_X3_go N (CS.setW σ none) 4 0 0)
      have hr9 : CS.hs p6.2 ≤ CS.hs R.2 := Mono.go hf (mono_some (Nat.le_refl _))
      have hFc := cFree hC hA
      refine va_callv (va_runV (As := [.int 4, .int 0, .int 0]) (rest := []) ⟨hx, hb, hml, hown, hts⟩ (c_X3_go l dC dI Q N (CS.setW σ none) 4 0 0 p6 hcp6) (cwV 3 hts hX3_throwAgain_X3_go_v213 rfl rfl rfl (by decide +kernel) ⟨(show 1 + 1 ≤ 2 by omega), (show 8 + (4 + 11) + 60 * 1 ≤ 60 * 2 by omega)⟩) ⟨zPre.blind, va_recv hK hC.1 (ci := 2) (q0 := 7) rfl rfl, cPre_go hZ hK hC⟩ rfl rfl hl.1 rfl (lv_room (Nat.le_of_ble_eq_true rfl)) dX3_throwAgain_16 (cAcc h0 mo7 hr9)) hC.2.2.1 (fun q _ h => hFc q h) hFc (fun u9 t9 H1 locs ht hvm hw hB hz1 hk1 hS => ?_)
      obtain ⟨⟨hP, hK1, hD1⟩, hsz1⟩ := hB
      rw [ht] at hP hsz1
      have hC : CP dC dI Q A s.heap p6.2 H1 locs := ⟨hP, hD1.weaken (fun _ _ _ h => hFc _ h), hS, hsz1⟩
      generalize H1 = H at hC ⊢
      have h9 : (CS.hs σ) ≤ CS.hs p6.2 := Nat.le_trans h0 mo7
      refine W.widen (k := CS.hs p6.2 - (CS.hs σ)) (n := 17 * (CS.hs p6.2 - (CS.hs σ))) (cAcc2 h0 mo7) (cAcc3 h0 mo7) ?_
      obtain rfl := Option.some.inj hf
      exact W.vret hx hb hr (fun t ht hW => ⟨⟨(), rfl, trivial, ⟨by rw [ht]; exact hC.1, va_K.moved hW.alike hK, hC.2.1⟩, by rw [ht]; exact hC.2.2.2⟩, hC.2.2.1.F ht⟩) hC.2.2.1.2.2 dX3_throwAgain_19
    ·
      refine W.eq (congrArg (fun v9 => F0 m 9 ls (va_rf v9 :: [.ref (Q.o 7)])) q4) ?_
      refine W.eq (g2 := F0 m 9 ls (.ref a5 :: [.ref (Q.o 7)])) rfl ?_
      refine cP_76 (v := (some a5)) hx hb hts i_X3_throwAgain_X3 hown hK hC (hts (.fieldLink RX3 81 "StatementRules2$Machine" "wayThrown" "LStatementRules2$Thrown;") k_X3_throwAgain_fieldLink_RX3_81_SR_Machine_wayThrown_LSR_Thrown) (fun _ q9 => q9) dX3_throwAgain_9 (fun H locs hC => ?_)
      refine lv_aload_n hx hb dX3_throwAgain_12 rfl (lv_at hl 0 rfl) ?_
      refine lv_iconst (v := 4) hx hb dX3_throwAgain_13 (by decide) ?_
      refine lv_iconst (v := 0) hx hb dX3_throwAgain_14 (by decide) ?_
      refine lv_iconst (v := 0) hx hb dX3_throwAgain_15 (by decide) ?_
      obtain ⟨p10, hcp10, hf⟩ := hf_bind hf
      have mo11 : CS.hs σ ≤ CS.hs p10.2 := Mono.go hcp10 (m_X3_go N (CS.setW σ (some a5)) 4 0 0)
      have hr9 : CS.hs p10.2 ≤ CS.hs R.2 := Mono.go hf (mono_some (Nat.le_refl _))
      have hFc := cFree hC hA
      refine va_callv (va_runV (As := [.int 4, .int 0, .int 0]) (rest := []) ⟨hx, hb, hml, hown, hts⟩ (c_X3_go l dC dI Q N (CS.setW σ (some a5)) 4 0 0 p10 hcp10) (cwV 3 hts hX3_throwAgain_X3_go_v213 rfl rfl rfl (by decide +kernel) ⟨(show 1 + 1 ≤ 2 by omega), (show 8 + (4 + 11) + 60 * 1 ≤ 60 * 2 by omega)⟩) ⟨zPre.blind, va_recv hK hC.1 (ci := 2) (q0 := 7) rfl rfl, cPre_go hZ hK hC⟩ rfl rfl hl.1 rfl (lv_room (Nat.le_of_ble_eq_true rfl)) dX3_throwAgain_16 (cAcc h0 mo11 hr9)) hC.2.2.1 (fun q _ h => hFc q h) hFc (fun u9 t9 H1 locs ht hvm hw hB hz1 hk1 hS => ?_)
      obtain ⟨⟨hP, hK1, hD1⟩, hsz1⟩ := hB
      rw [ht] at hP hsz1
      have hC : CP dC dI Q A s.heap p10.2 H1 locs := ⟨hP, hD1.weaken (fun _ _ _ h => hFc _ h), hS, hsz1⟩
      generalize H1 = H at hC ⊢
      have h13 : (CS.hs σ) ≤ CS.hs p10.2 := Nat.le_trans h0 mo11
      refine W.widen (k := CS.hs p10.2 - (CS.hs σ)) (n := 17 * (CS.hs p10.2 - (CS.hs σ))) (cAcc2 h0 mo11) (cAcc3 h0 mo11) ?_
      obtain rfl := Option.some.inj hf
      exact W.vret hx hb hr (fun t ht hW => ⟨⟨(), rfl, trivial, ⟨by rw [ht]; exact hC.1, va_K.moved hW.alike hK, hC.2.1⟩, by rw [ht]; exact hC.2.2.2⟩, hC.2.2.1.F ht⟩) hC.2.2.1.2.2 dX3_throwAgain_19
theorem k_X3_resume_fieldLink_RX3_60_SR_Machine_depth_I : Cond.fieldLink RX3 60 "StatementRules2$Machine" "depth" "I" ∈ wzX3_resume := List.mem_cons_of_mem _ (List.mem_append_left _ (List.mem_of_getElem? (i := 0) rfl))
theorem i_X3_resume_X3 : ∀ w ∈ wsX30, w ∈ wzX3_resume := fun _ h => List.mem_cons_of_mem _ (List.mem_append_right _ (List.mem_append_left _ (h)))
theorem i_X3_resume_X2 : ∀ w ∈ wsX20, w ∈ wzX3_resume := fun _ h => List.mem_cons_of_mem _ (List.mem_append_right _ (List.mem_append_right _ (List.mem_append_left _ (h))))
theorem k_X3_resume_fieldLink_RX3_81_SR_Machine_wayThrown_LSR_Thrown : Cond.fieldLink RX3 81 "StatementRules2$Machine" "wayThrown" "LStatementRules2$Thrown;" ∈ wzX3_resume := List.mem_cons_of_mem _ (List.mem_append_left _ (List.mem_of_getElem? (i := 1) rfl))
set_option maxHeartbeats 4000000 in
set_option maxRecDepth 100000 in
theorem c_X3_resume (l : Launch) (dC : Nat → ClassId) (dI : Nat → Nat → Nat) (Q : CQ) (N : Nat) (σ : CS) (x1 : Option Nat) (R : Unit × CS) (hf : f_X3_resume N σ x1 = some R) : Met l yX3_resume wzX3_resume ({ frames := 2, cells := CS.hs R.2 - CS.hs σ, slots := 17 * (CS.hs R.2 - CS.hs σ), locals := 60 * 2 }) (va_Pc [.ref (Q.o 7), va_rf x1] (zPre dC dI (CS.hs σ) (cW Q σ) (cT Q))) (va_Qv (fun (_ : Unit) => True) (fun (_ : Unit) (t : State) => zPost dC dI (va_A (cW Q σ) (CS.hs σ)) (cW Q R.2) (cT Q) t ∧ t.heap.size = CS.hs R.2) (va_A (cW Q σ) (CS.hs σ))) (CS.hs R.2 - CS.hs σ) (17 * (CS.hs R.2 - CS.hs σ)) (va_A (cW Q σ) (CS.hs σ)) := by
  refine Met.ofW (cc := cX3_resume) (maxL := 2) (ret := none) (by decide) rfl ?_
  intro p e s m args below meth c s₁ B hml hv
  obtain ⟨rfl, hsz, hZ, hP, hK, hD0⟩ := hv
  have hx := B.exec
  have hb := B.bytes
  have hr := B.returns
  have hts := atoms_spec (ws := wzX3_resume) B.pre
  have hown : s.vm.findClass RX3 = some m.cls := findClass_of_methodNamed B.named
  have hlocks := B.notSynchronized
  have hD := hD0.self (sz := CS.hs σ)
  generalize hAe : va_A (cW Q σ) (CS.hs σ) = A at hD ⊢
  have hA : ∀ q : Nat, s.heap.size ≤ q → A q := fun q h => by rw [← hAe]; exact Or.inr (hsz ▸ h)
  have hC : CP dC dI Q A s.heap σ s.heap [] := ⟨hP, hD, va_S.rf, hsz⟩
  have h0 : CS.hs σ ≤ CS.hs σ := Nat.le_refl _
  have hl := lv_entry ([.ref (Q.o 7), va_rf x1]) (n := 2) (by cases x1 <;> exact Nat.le_of_ble_eq_true rfl)
  rw [lg_entry_eq]
  generalize (lg_sl ([.ref (Q.o 7), va_rf x1]) ++ List.replicate (2 - (lg_sl ([.ref (Q.o 7), va_rf x1])).length) Slot.unset).toArray = ls at hl ⊢
  have hl : lv_has ls 2 [(0, .ref (Q.o 7)), (1, va_rf x1)] := hl
  unfold f_X3_resume at hf
  refine W.widen (k := CS.hs σ - CS.hs σ) (n := 17 * (CS.hs σ - CS.hs σ)) (Nat.zero_le _) (Nat.zero_le _) ?_
  rcases hf_oc hf with ⟨q1, hf⟩ | ⟨a2, q1, hf⟩
  ·
    subst q1
    have hl : lv_has ls 2 [(0, .ref (Q.o 7)), (1, .null)] := hl
    refine lv_aload_nN hx hb dX3_resume_0 rfl (lv_at hl 1 rfl) ?_
    refine lv_ifnullN (tgt := 38) hx hb dX3_resume_1 (by decide) ?_
    obtain rfl := Option.some.inj hf
    exact W.vret hx hb hr (fun t ht hW => ⟨⟨(), rfl, trivial, ⟨by rw [ht]; exact hC.1, va_K.moved hW.alike hK, hC.2.1⟩, by rw [ht]; exact hC.2.2.2⟩, hC.2.2.1.F ht⟩) hC.2.2.1.2.2 dX3_resume_38
  ·
    subst q1
    have hl : lv_has ls 2 [(0, .ref (Q.o 7)), (1, .ref a2)] := hl
    refine lv_aload_n hx hb dX3_resume_0 rfl (lv_at hl 1 rfl) ?_
    refine lv_ifnull hx hb dX3_resume_1 ?_
    refine lv_aload_n hx hb dX3_resume_4 rfl (lv_at hl 0 rfl) ?_
    refine lv_dup hx hb dX3_resume_5 rfl ?_
    refine cG_67 (v := (σ.i 67)) hx hb hts i_X3_resume_X3 hown hK hC (hts (.fieldLink RX3 60 "StatementRules2$Machine" "depth" "I") k_X3_resume_fieldLink_RX3_60_SR_Machine_depth_I) (fun _ q9 => q9) dX3_resume_6 rfl ?_
    refine lv_iconst (v := 1) hx hb dX3_resume_9 (by decide) ?_
    refine lv_isub hx hb dX3_resume_10 ?_
    refine cP_67 (v := ((σ.i 67) - 1)) hx hb hts i_X3_resume_X3 hown hK hC (hts (.fieldLink RX3 60 "StatementRules2$Machine" "depth" "I") k_X3_resume_fieldLink_RX3_60_SR_Machine_depth_I) (fun _ q9 => q9) dX3_resume_11 (fun H locs hC => ?_)
    refine lv_aload_n hx hb dX3_resume_14 rfl (lv_at hl 0 rfl) ?_
    refine lv_aload_n hx hb dX3_resume_15 rfl (lv_at hl 1 rfl) ?_
    obtain ⟨b3, hf⟩ := hf_ite hf
    refine pGN_X2_4 (v := (CS.ot (CS.setI σ 67 ((σ.i 67) - 1)) a2)) hx hb hts i_X3_resume_X2 hown hK hC (va_Nw.use rfl (hZ.1 (.fieldLinkNest RX3 204 "StatementRules2$Frame" "thrown" "LStatementRules2$Thrown;" "StatementRules2") (by decide +kernel))) (fun _ q9 => q9) dX3_resume_16 b3 rfl ?_
    rcases hf_oc hf with ⟨q4, hf⟩ | ⟨a5, q4, hf⟩
    ·
      refine W.eq (congrArg (fun v9 => F0 m 19 ls (va_rf v9 :: [.ref (Q.o 7)])) q4) ?_
      refine W.eq (g2 := F0 m 19 ls (.null :: [.ref (Q.o 7)])) rfl ?_
      refine cP_76 (v := none) hx hb hts i_X3_resume_X3 hown hK hC (hts (.fieldLink RX3 81 "StatementRules2$Machine" "wayThrown" "LStatementRules2$Thrown;") k_X3_resume_fieldLink_RX3_81_SR_Machine_wayThrown_LSR_Thrown) (fun _ q9 => q9) dX3_resume_19 (fun H locs hC => ?_)
      refine lv_aload_n hx hb dX3_resume_22 rfl (lv_at hl 0 rfl) ?_
      refine lv_aload_n hx hb dX3_resume_23 rfl (lv_at hl 1 rfl) ?_
      refine pGN_X2_5 (v := (CS.o (CS.setW (CS.setI σ 67 ((σ.i 67) - 1)) none) a2 5)) hx hb hts i_X3_resume_X2 hown hK hC (va_Nw.use rfl (hZ.1 (.fieldLinkNest RX3 246 "StatementRules2$Frame" "way" "I" "StatementRules2") (by decide +kernel))) (fun _ q9 => q9) dX3_resume_24 b3 rfl ?_
      refine lv_aload_n hx hb dX3_resume_27 rfl (lv_at hl 1 rfl) ?_
      refine pGN_X2_6 (v := (CS.o (CS.setW (CS.setI σ 67 ((σ.i 67) - 1)) none) a2 6)) hx hb hts i_X3_resume_X2 hown hK hC (va_Nw.use rfl (hZ.1 (.fieldLinkNest RX3 247 "StatementRules2$Frame" "wayValue" "I" "StatementRules2") (by decide +kernel))) (fun _ q9 => q9) dX3_resume_28 b3 rfl ?_
      refine lv_aload_n hx hb dX3_resume_31 rfl (lv_at hl 1 rfl) ?_
      refine pGN_X2_7 (v := (CS.o (CS.setW (CS.setI σ 67 ((σ.i 67) - 1)) none) a2 7)) hx hb hts i_X3_resume_X2 hown hK hC (va_Nw.use rfl (hZ.1 (.fieldLinkNest RX3 248 "StatementRules2$Frame" "wayTarget" "I" "StatementRules2") (by decide +kernel))) (fun _ q9 => q9) dX3_resume_32 b3 rfl ?_
      obtain ⟨p6, hcp6, hf⟩ := hf_bind hf
      have mo7 : CS.hs σ ≤ CS.hs p6.2 := Mono.go hcp6 (m_X3_go N (CS.setW (CS.setI σ 67 ((σ.i 67) - 1)) none) (CS.o (CS.setW (CS.setI σ 67 ((σ.i 67) - 1)) none) a2 5) (CS.o (CS.setW (CS.setI σ 67 ((σ.i 67) - 1)) none) a2 6) (CS.o (CS.setW (CS.setI σ 67 ((σ.i 67) - 1)) none) a2 7))
      have hr9 : CS.hs p6.2 ≤ CS.hs R.2 := Mono.go hf (mono_some (Nat.le_refl _))
      have hFc := cFree hC hA
      refine va_callv (va_runV (As := [.int (CS.o (CS.setW (CS.setI σ 67 ((σ.i 67) - 1)) none) a2 5), .int (CS.o (CS.setW (CS.setI σ 67 ((σ.i 67) - 1)) none) a2 6), .int (CS.o (CS.setW (CS.setI σ 67 ((σ.i 67) - 1)) none) a2 7)]) (rest := []) ⟨hx, hb, hml, hown, hts⟩ (c_X3_go l dC dI Q N (CS.setW (CS.setI σ 67 ((σ.i 67) - 1)) none) (CS.o (CS.setW (CS.setI σ 67 ((σ.i 67) - 1)) none) a2 5) (CS.o (CS.setW (CS.setI σ 67 ((σ.i 67) - 1)) none) a2 6) (CS.o (CS.setW (CS.setI σ 67 ((σ.i 67) - 1)) none) a2 7) p6 hcp6) (cwV 3 hts hX3_resume_X3_go_v213 rfl rfl rfl (by decide +kernel) ⟨(show 1 + 1 ≤ 2 by omega), (show 8 + (4 + 11) + 60 * 1 ≤ 60 * 2 by omega)⟩) ⟨zPre.blind, va_recv hK hC.1 (ci := 2) (q0 := 7) rfl rfl, cPre_go hZ hK hC⟩ rfl rfl hl.1 rfl (lv_room (Nat.le_of_ble_eq_true rfl)) dX3_resume_35 (cAcc h0 mo7 hr9)) hC.2.2.1 (fun q _ h => hFc q h) hFc (fun u9 t9 H1 locs ht hvm hw hB hz1 hk1 hS => ?_)
      obtain ⟨⟨hP, hK1, hD1⟩, hsz1⟩ := hB
      rw [ht] at hP hsz1
      have hC : CP dC dI Q A s.heap p6.2 H1 locs := ⟨hP, hD1.weaken (fun _ _ _ h => hFc _ h), hS, hsz1⟩
      generalize H1 = H at hC ⊢
      have h9 : (CS.hs σ) ≤ CS.hs p6.2 := Nat.le_trans h0 mo7
      refine W.widen (k := CS.hs p6.2 - (CS.hs σ)) (n := 17 * (CS.hs p6.2 - (CS.hs σ))) (cAcc2 h0 mo7) (cAcc3 h0 mo7) ?_
      obtain rfl := Option.some.inj hf
      exact W.vret hx hb hr (fun t ht hW => ⟨⟨(), rfl, trivial, ⟨by rw [ht]; exact hC.1, va_K.moved hW.alike hK, hC.2.1⟩, by rw [ht]; exact hC.2.2.2⟩, hC.2.2.1.F ht⟩) hC.2.2.1.2.2 dX3_resume_38
    ·
      refine W.eq (congrArg (fun v9 => F0 m 19 ls (va_rf v9 :: [.ref (Q.o 7)])) q4) ?_
      refine W.eq (g2 := F0 m 19 ls (.ref a5 :: [.ref (Q.o 7)])) rfl ?_
      refine cP_76 (v := (some a5)) hx hb hts i_X3_resume_X3 hown hK hC (hts (.fieldLink RX3 81 "StatementRules2$Machine" "wayThrown" "LStatementRules2$Thrown;") k_X3_resume_fieldLink_RX3_81_SR_Machine_wayThrown_LSR_Thrown) (fun _ q9 => q9) dX3_resume_19 (fun H locs hC => ?_)
      refine lv_aload_n hx hb dX3_resume_22 rfl (lv_at hl 0 rfl) ?_
      refine lv_aload_n hx hb dX3_resume_23 rfl (lv_at hl 1 rfl) ?_
      refine pGN_X2_5 (v := (CS.o (CS.setW (CS.setI σ 67 ((σ.i 67) - 1)) (some a5)) a2 5)) hx hb hts i_X3_resume_X2 hown hK hC (va_Nw.use rfl (hZ.1 (.fieldLinkNest RX3 246 "StatementRules2$Frame" "way" "I" "StatementRules2") (by decide +kernel))) (fun _ q9 => q9) dX3_resume_24 b3 rfl ?_
      refine lv_aload_n hx hb dX3_resume_27 rfl (lv_at hl 1 rfl) ?_
      refine pGN_X2_6 (v := (CS.o (CS.setW (CS.setI σ 67 ((σ.i 67) - 1)) (some a5)) a2 6)) hx hb hts i_X3_resume_X2 hown hK hC (va_Nw.use rfl (hZ.1 (.fieldLinkNest RX3 247 "StatementRules2$Frame" "wayValue" "I" "StatementRules2") (by decide +kernel))) (fun _ q9 => q9) dX3_resume_28 b3 rfl ?_
      refine lv_aload_n hx hb dX3_resume_31 rfl (lv_at hl 1 rfl) ?_
      refine pGN_X2_7 (v := (CS.o (CS.setW (CS.setI σ 67 ((σ.i 67) - 1)) (some a5)) a2 7)) hx hb hts i_X3_resume_X2 hown hK hC (va_Nw.use rfl (hZ.1 (.fieldLinkNest RX3 248 "StatementRules2$Frame" "wayTarget" "I" "StatementRules2") (by decide +kernel))) (fun _ q9 => q9) dX3_resume_32 b3 rfl ?_
      obtain ⟨p10, hcp10, hf⟩ := hf_bind hf
      have mo11 : CS.hs σ ≤ CS.hs p10.2 := Mono.go hcp10 (m_X3_go N (CS.setW (CS.setI σ 67 ((σ.i 67) - 1)) (some a5)) (CS.o (CS.setW (CS.setI σ 67 ((σ.i 67) - 1)) (some a5)) a2 5) (CS.o (CS.setW (CS.setI σ 67 ((σ.i 67) - 1)) (some a5)) a2 6) (CS.o (CS.setW (CS.setI σ 67 ((σ.i 67) - 1)) (some a5)) a2 7))
      have hr9 : CS.hs p10.2 ≤ CS.hs R.2 := Mono.go hf (mono_some (Nat.le_refl _))
      have hFc := cFree hC hA
      refine va_callv (va_runV (As := [.int (CS.o (CS.setW (CS.setI σ 67 ((σ.i 67) - 1)) (some a5)) a2 5), .int (CS.o (CS.setW (CS.setI σ 67 ((σ.i 67) - 1)) (some a5)) a2 6), .int (CS.o (CS.setW (CS.setI σ 67 ((σ.i 67) - 1)) (some a5)) a2 7)]) (rest := []) ⟨hx, hb, hml, hown, hts⟩ (c_X3_go l dC dI Q N (CS.setW (CS.setI σ 67 ((σ.i 67) - 1)) (some a5)) (CS.o (CS.setW (CS.setI σ 67 ((σ.i 67) - 1)) (some a5)) a2 5) (CS.o (CS.setW (CS.setI σ 67 ((σ.i 67) - 1)) (some a5)) a2 6) (CS.o (CS.setW (CS.setI σ 67 ((σ.i 67) - 1)) (some a5)) a2 7) p10 hcp10) (cwV 3 hts hX3_resume_X3_go_v213 rfl rfl rfl (by decide +kernel) ⟨(show 1 + 1 ≤ 2 by omega), (show 8 + (4 + 11) + 60 * 1 ≤ 60 * 2 by omega)⟩) ⟨zPre.blind, va_recv hK hC.1 (ci := 2) (q0 := 7) rfl rfl, cPre_go hZ hK hC⟩ rfl rfl hl.1 rfl (lv_room (Nat.le_of_ble_eq_true rfl)) dX3_resume_35 (cAcc h0 mo11 hr9)) hC.2.2.1 (fun q _ h => hFc q h) hFc (fun u9 t9 H1 locs ht hvm hw hB hz1 hk1 hS => ?_)
      obtain ⟨⟨hP, hK1, hD1⟩, hsz1⟩ := hB
      rw [ht] at hP hsz1
      have hC : CP dC dI Q A s.heap p10.2 H1 locs := ⟨hP, hD1.weaken (fun _ _ _ h => hFc _ h), hS, hsz1⟩
      generalize H1 = H at hC ⊢
      have h13 : (CS.hs σ) ≤ CS.hs p10.2 := Nat.le_trans h0 mo11
      refine W.widen (k := CS.hs p10.2 - (CS.hs σ)) (n := 17 * (CS.hs p10.2 - (CS.hs σ))) (cAcc2 h0 mo11) (cAcc3 h0 mo11) ?_
      obtain rfl := Option.some.inj hf
      exact W.vret hx hb hr (fun t ht hW => ⟨⟨(), rfl, trivial, ⟨by rw [ht]; exact hC.1, va_K.moved hW.alike hK, hC.2.1⟩, by rw [ht]; exact hC.2.2.2⟩, hC.2.2.1.F ht⟩) hC.2.2.1.2.2 dX3_resume_38
theorem i_X3_handle_X2 : ∀ w ∈ wsX20, w ∈ wzX3_handle := fun _ h => List.mem_cons_of_mem _ (List.mem_append_right _ (List.mem_append_left _ (h)))
theorem k_X3_handle_fieldLink_RX3_36_SR_Machine_told_LSR_Told : Cond.fieldLink RX3 36 "StatementRules2$Machine" "told" "LStatementRules2$Told;" ∈ wzX3_handle := List.mem_cons_of_mem _ (List.mem_append_left _ (List.mem_of_getElem? (i := 0) rfl))
theorem i_X3_handle_X3 : ∀ w ∈ wsX30, w ∈ wzX3_handle := fun _ h => List.mem_cons_of_mem _ (List.mem_append_right _ (List.mem_append_right _ (List.mem_append_left _ (h))))
theorem i_X3_handle_X8 : ∀ w ∈ wsX80, w ∈ wzX3_handle := fun _ h => List.mem_cons_of_mem _ (List.mem_append_right _ (List.mem_append_right _ (List.mem_append_right _ (List.mem_append_left _ (h)))))
theorem k_X3_handle_fieldLink_RX3_9_SR_Machine_cells_I : Cond.fieldLink RX3 9 "StatementRules2$Machine" "cells" "[I" ∈ wzX3_handle := List.mem_cons_of_mem _ (List.mem_append_left _ (List.mem_of_getElem? (i := 1) rfl))
theorem k_X3_handle_initialized_RX11 : Cond.initialized RX11 ∈ wzX3_handle := List.mem_cons_of_mem _ (List.mem_append_left _ (List.mem_of_getElem? (i := 2) rfl))
theorem k_X3_handle_static_yX11_put : Cond.static yX11_put ∈ wzX3_handle := List.mem_cons_of_mem _ (List.mem_append_left _ (List.mem_of_getElem? (i := 3) rfl))
set_option maxHeartbeats 4000000 in
set_option maxRecDepth 100000 in
theorem c_X3_handle (l : Launch) (dC : Nat → ClassId) (dI : Nat → Nat → Nat) (Q : CQ) (N : Nat) (σ : CS) (x1 : Int32) (x2 : Int32) (x3 : Option Nat) (R : Unit × CS) (hf : f_X3_handle N σ x1 x2 x3 = some R) : Met l yX3_handle wzX3_handle ({ frames := 3, cells := CS.hs R.2 - CS.hs σ, slots := 17 * (CS.hs R.2 - CS.hs σ), locals := 60 * 3 }) (va_Pc [.ref (Q.o 7), .int x1, .int x2, va_rf x3] (zPre dC dI (CS.hs σ) (cW Q σ) (cT Q))) (va_Qv (fun (_ : Unit) => True) (fun (_ : Unit) (t : State) => zPost dC dI (va_A (cW Q σ) (CS.hs σ)) (cW Q R.2) (cT Q) t ∧ t.heap.size = CS.hs R.2) (va_A (cW Q σ) (CS.hs σ))) (CS.hs R.2 - CS.hs σ) (17 * (CS.hs R.2 - CS.hs σ)) (va_A (cW Q σ) (CS.hs σ)) := by
  refine Met.ofW (cc := cX3_handle) (maxL := 4) (ret := none) (by decide) rfl ?_
  intro p e s m args below meth c s₁ B hml hv
  obtain ⟨rfl, hsz, hZ, hP, hK, hD0⟩ := hv
  have hx := B.exec
  have hb := B.bytes
  have hr := B.returns
  have hts := atoms_spec (ws := wzX3_handle) B.pre
  have hown : s.vm.findClass RX3 = some m.cls := findClass_of_methodNamed B.named
  have hlocks := B.notSynchronized
  have hD := hD0.self (sz := CS.hs σ)
  generalize hAe : va_A (cW Q σ) (CS.hs σ) = A at hD ⊢
  have hA : ∀ q : Nat, s.heap.size ≤ q → A q := fun q h => by rw [← hAe]; exact Or.inr (hsz ▸ h)
  have hC : CP dC dI Q A s.heap σ s.heap [] := ⟨hP, hD, va_S.rf, hsz⟩
  have h0 : CS.hs σ ≤ CS.hs σ := Nat.le_refl _
  have hl := lv_entry ([.ref (Q.o 7), .int x1, .int x2, va_rf x3]) (n := 4) (by cases x3 <;> exact Nat.le_of_ble_eq_true rfl)
  rw [lg_entry_eq]
  generalize (lg_sl ([.ref (Q.o 7), .int x1, .int x2, va_rf x3]) ++ List.replicate (4 - (lg_sl ([.ref (Q.o 7), .int x1, .int x2, va_rf x3])).length) Slot.unset).toArray = ls at hl ⊢
  have hl : lv_has ls 4 [(0, .ref (Q.o 7)), (1, .int x1), (2, .int x2), (3, va_rf x3)] := hl
  unfold f_X3_handle at hf
  refine W.widen (k := CS.hs σ - CS.hs σ) (n := 17 * (CS.hs σ - CS.hs σ)) (Nat.zero_le _) (Nat.zero_le _) ?_
  rcases hf_oc hf with ⟨q1, hf⟩ | ⟨a2, q1, hf⟩
  ·
    subst q1
    have hl : lv_has ls 4 [(0, .ref (Q.o 7)), (1, .int x1), (2, .int x2), (3, .null)] := hl
    refine lv_aload_nN hx hb dX3_handle_0 rfl (lv_at hl 3 rfl) ?_
    refine lv_ifnullN (tgt := 11) hx hb dX3_handle_1 (by decide) ?_
    obtain rfl := Option.some.inj hf
    exact W.vret hx hb hr (fun t ht hW => ⟨⟨(), rfl, trivial, ⟨by rw [ht]; exact hC.1, va_K.moved hW.alike hK, hC.2.1⟩, by rw [ht]; exact hC.2.2.2⟩, hC.2.2.1.F ht⟩) hC.2.2.1.2.2 dX3_handle_11
  ·
    subst q1
    have hl : lv_has ls 4 [(0, .ref (Q.o 7)), (1, .int x1), (2, .int x2), (3, .ref a2)] := hl
    refine lv_aload_n hx hb dX3_handle_0 rfl (lv_at hl 3 rfl) ?_
    refine lv_ifnull hx hb dX3_handle_1 ?_
    refine lv_aload_n hx hb dX3_handle_4 rfl (lv_at hl 3 rfl) ?_
    obtain ⟨b3, hf⟩ := hf_ite hf
    refine pGN_X2_4 (v := (CS.ot σ a2)) hx hb hts i_X3_handle_X2 hown hK hC (va_Nw.use rfl (hZ.1 (.fieldLinkNest RX3 204 "StatementRules2$Frame" "thrown" "LStatementRules2$Thrown;" "StatementRules2") (by decide +kernel))) (fun _ q9 => q9) dX3_handle_5 b3 rfl ?_
    rcases hf_oc hf with ⟨q4, hf⟩ | ⟨a5, q4, hf⟩
    ·
      refine W.eq (congrArg (fun v9 => F0 m 8 ls (va_rf v9 :: [])) q4) ?_
      refine W.eq (g2 := F0 m 8 ls (.null :: [])) rfl ?_
      refine lv_ifnonnullN hx hb dX3_handle_8 ?_
      obtain rfl := Option.some.inj hf
      exact W.vret hx hb hr (fun t ht hW => ⟨⟨(), rfl, trivial, ⟨by rw [ht]; exact hC.1, va_K.moved hW.alike hK, hC.2.1⟩, by rw [ht]; exact hC.2.2.2⟩, hC.2.2.1.F ht⟩) hC.2.2.1.2.2 dX3_handle_11
    ·
      refine W.eq (congrArg (fun v9 => F0 m 8 ls (va_rf v9 :: [])) q4) ?_
      refine W.eq (g2 := F0 m 8 ls (.ref a5 :: [])) rfl ?_
      refine lv_ifnonnull (tgt := 12) hx hb dX3_handle_8 (by decide) ?_
      refine lv_iload_n hx hb dX3_handle_12 rfl (lv_at hl 1 rfl) ?_
      refine lv_bipush (v := 58) hx hb dX3_handle_13 (by decide) ?_
      refine lv_icmp_ne (tgt := 26) hx hb dX3_handle_15 (by decide) (fun c6 => ?_) (fun c6 => ?_)
      ·
        replace hf := (if_neg c6).symm.trans hf
        refine lv_iload_n hx hb dX3_handle_26 rfl (lv_at hl 1 rfl) ?_
        refine lv_bipush (v := 57) hx hb dX3_handle_27 (by decide) ?_
        refine lv_icmp_ne (tgt := 50) hx hb dX3_handle_29 (by decide) (fun c7 => ?_) (fun c7 => ?_)
        ·
          replace hf := (if_neg c7).symm.trans hf
          refine lv_aload_n hx hb dX3_handle_50 rfl (lv_at hl 0 rfl) ?_
          refine lv_aload_n hx hb dX3_handle_51 rfl (lv_at hl 0 rfl) ?_
          refine cG_57 hx hb hts i_X3_handle_X3 hown hK hC (hts (.fieldLink RX3 36 "StatementRules2$Machine" "told" "LStatementRules2$Told;") k_X3_handle_fieldLink_RX3_36_SR_Machine_told_LSR_Told) (fun _ q9 => q9) dX3_handle_52 ?_
          refine lv_aload_n hx hb dX3_handle_55 rfl (lv_at hl 3 rfl) ?_
          refine pGN_X2_4 (v := (CS.ot σ a2)) hx hb hts i_X3_handle_X2 hown hK hC (va_Nw.use rfl (hZ.1 (.fieldLinkNest RX3 204 "StatementRules2$Frame" "thrown" "LStatementRules2$Thrown;" "StatementRules2") (by decide +kernel))) (fun _ q9 => q9) dX3_handle_56 b3 rfl ?_
          rcases hf_oc hf with ⟨q8, hf⟩ | ⟨a9, q8, hf⟩
          ·
            refine W.eq (congrArg (fun v9 => F0 m 59 ls (va_rf v9 :: [.ref (Q.o 1), .ref (Q.o 7)])) q8) ?_
            refine W.eq (g2 := F0 m 59 ls (.null :: [.ref (Q.o 1), .ref (Q.o 7)])) rfl ?_
            cases hf
          ·
            refine W.eq (congrArg (fun v9 => F0 m 59 ls (va_rf v9 :: [.ref (Q.o 1), .ref (Q.o 7)])) q8) ?_
            refine W.eq (g2 := F0 m 59 ls (.ref a9 :: [.ref (Q.o 1), .ref (Q.o 7)])) rfl ?_
            obtain ⟨b10, hf⟩ := hf_ite hf
            refine pGN_X8_2 (v := (CS.o σ a9 2)) hx hb hts i_X3_handle_X8 hown hK hC (va_Nw.use rfl (hZ.1 (.fieldLinkNest RX3 99 "StatementRules2$Thrown" "sort" "I" "StatementRules2") (by decide +kernel))) (fun _ q9 => q9) dX3_handle_59 b10 rfl ?_
            refine lv_iload_n hx hb dX3_handle_62 rfl (lv_at hl 2 rfl) ?_
            refine lv_bipush (v := 16) hx hb dX3_handle_63 (by decide) ?_
            refine lv_irem hx hb dX3_handle_65 (by decide) ?_
            obtain ⟨p11, hcp11, hf⟩ := hf_bind hf
            have mo12 : CS.hs σ ≤ CS.hs p11.2 := Mono.go hcp11 (m_X10_isUnder N σ (CS.o σ a9 2) (x2 - x2 / 16 * 16))
            have hr9 : CS.hs p11.2 ≤ CS.hs R.2 := Mono.go hf (mono_bind (m_X3_goIf N p11.2 p11.1 (x2 / 16)) (fun p15 => (mono_some (Nat.le_refl _))))
            have hFc := cFree hC hA
            refine va_calli (va_runV (As := [.int (CS.o σ a9 2), .int (x2 - x2 / 16 * 16)]) (rest := [.ref (Q.o 7)]) ⟨hx, hb, hml, hown, hts⟩ (c_X10_isUnder l dC dI Q N σ (CS.o σ a9 2) (x2 - x2 / 16 * 16) p11 hcp11) (cwV 2 hts hX3_handle_X10_isUnder_v231 rfl rfl rfl (by decide +kernel) ⟨(show 2 + 1 ≤ 3 by omega), (show 8 + (5 + 11) + 60 * 2 ≤ 60 * 3 by omega)⟩) ⟨zPre.blind, va_recv hK hC.1 (ci := 9) (q0 := 1) rfl rfl, cPre_go hZ hK hC⟩ rfl rfl hl.1 rfl (lv_room (Nat.le_of_ble_eq_true rfl)) dX3_handle_66 (cAcc h0 mo12 hr9)) hC.2.2.1 (fun q _ h => hFc q h) hFc (fun r13 u9 t9 H1 locs ht hvm hw hB hz1 hk1 hS => ?_)
            obtain ⟨⟨hP, hK1, hD1⟩, hsz1⟩ := hB
            rw [ht] at hP hsz1
            have hC : CP dC dI Q A s.heap p11.2 H1 locs := ⟨hP, hD1.weaken (fun _ _ _ h => hFc _ h), hS, hsz1⟩
            generalize H1 = H at hC ⊢
            have h14 : (CS.hs σ) ≤ CS.hs p11.2 := Nat.le_trans h0 mo12
            refine W.widen (k := CS.hs p11.2 - (CS.hs σ)) (n := 17 * (CS.hs p11.2 - (CS.hs σ))) (cAcc2 h0 mo12) (cAcc3 h0 mo12) ?_
            obtain rfl : r13 = p11.1 := hw
            refine lv_iload_n hx hb dX3_handle_69 rfl (lv_at hl 2 rfl) ?_
            refine lv_bipush (v := 16) hx hb dX3_handle_70 (by decide) ?_
            refine lv_idiv hx hb dX3_handle_72 (by decide) ?_
            obtain ⟨p15, hcp15, hf⟩ := hf_bind hf
            have mo16 : CS.hs p11.2 ≤ CS.hs p15.2 := Mono.go hcp15 (m_X3_goIf N p11.2 p11.1 (x2 / 16))
            have hr9 : CS.hs p15.2 ≤ CS.hs R.2 := Mono.go hf (mono_some (Nat.le_refl _))
            have hFc := cFree hC hA
            refine va_callv (va_runV (As := [.int p11.1, .int (x2 / 16)]) (rest := []) ⟨hx, hb, hml, hown, hts⟩ (c_X3_goIf l dC dI Q N p11.2 p11.1 (x2 / 16) p15 hcp15) (cwV 2 hts hX3_handle_X3_goIf_v156 rfl rfl rfl (by decide +kernel) ⟨(show 2 + 1 ≤ 3 by omega), (show 8 + (3 + 11) + 60 * 2 ≤ 60 * 3 by omega)⟩) ⟨zPre.blind, va_recv hK hC.1 (ci := 2) (q0 := 7) rfl rfl, cPre_go hZ hK hC⟩ rfl rfl hl.1 rfl (lv_room (Nat.le_of_ble_eq_true rfl)) dX3_handle_73 (cAcc h14 mo16 hr9)) hC.2.2.1 (fun q _ h => hFc q h) hFc (fun u9 t9 H1 locs ht hvm hw hB hz1 hk1 hS => ?_)
            obtain ⟨⟨hP, hK1, hD1⟩, hsz1⟩ := hB
            rw [ht] at hP hsz1
            have hC : CP dC dI Q A s.heap p15.2 H1 locs := ⟨hP, hD1.weaken (fun _ _ _ h => hFc _ h), hS, hsz1⟩
            generalize H1 = H at hC ⊢
            have h18 : (CS.hs σ) ≤ CS.hs p15.2 := Nat.le_trans h14 mo16
            refine W.widen (k := CS.hs p15.2 - (CS.hs σ)) (n := 17 * (CS.hs p15.2 - (CS.hs σ))) (cAcc2 h14 mo16) (cAcc3 h14 mo16) ?_
            obtain rfl := Option.some.inj hf
            exact W.vret hx hb hr (fun t ht hW => ⟨⟨(), rfl, trivial, ⟨by rw [ht]; exact hC.1, va_K.moved hW.alike hK, hC.2.1⟩, by rw [ht]; exact hC.2.2.2⟩, hC.2.2.1.F ht⟩) hC.2.2.1.2.2 dX3_handle_76
        ·
          replace hf := (if_pos c7).symm.trans hf
          refine lv_aload_n hx hb dX3_handle_32 rfl (lv_at hl 0 rfl) ?_
          refine cG_59 hx hb hts i_X3_handle_X3 hown hK hC (hts (.fieldLink RX3 9 "StatementRules2$Machine" "cells" "[I") k_X3_handle_fieldLink_RX3_9_SR_Machine_cells_I) (fun _ q9 => q9) dX3_handle_33 ?_
          refine lv_iload_n hx hb dX3_handle_36 rfl (lv_at hl 2 rfl) ?_
          refine lv_aload_n hx hb dX3_handle_37 rfl (lv_at hl 3 rfl) ?_
          refine pGN_X2_4 (v := (CS.ot σ a2)) hx hb hts i_X3_handle_X2 hown hK hC (va_Nw.use rfl (hZ.1 (.fieldLinkNest RX3 204 "StatementRules2$Frame" "thrown" "LStatementRules2$Thrown;" "StatementRules2") (by decide +kernel))) (fun _ q9 => q9) dX3_handle_38 b3 rfl ?_
          rcases hf_oc hf with ⟨q19, hf⟩ | ⟨a20, q19, hf⟩
          ·
            refine W.eq (congrArg (fun v9 => F0 m 41 ls (va_rf v9 :: [.int x2, .ref (Q.q 59)])) q19) ?_
            refine W.eq (g2 := F0 m 41 ls (.null :: [.int x2, .ref (Q.q 59)])) rfl ?_
            cases hf
          ·
            refine W.eq (congrArg (fun v9 => F0 m 41 ls (va_rf v9 :: [.int x2, .ref (Q.q 59)])) q19) ?_
            refine W.eq (g2 := F0 m 41 ls (.ref a20 :: [.int x2, .ref (Q.q 59)])) rfl ?_
            obtain ⟨b21, hf⟩ := hf_ite hf
            refine pGN_X8_3 (v := (CS.o σ a20 3)) hx hb hts i_X3_handle_X8 hown hK hC (va_Nw.use rfl (hZ.1 (.fieldLinkNest RX3 102 "StatementRules2$Thrown" "number" "I" "StatementRules2") (by decide +kernel))) (fun _ q9 => q9) dX3_handle_41 b21 rfl ?_
            have he9 := (cArr_59 (Q := Q) (σ := σ))
            have hFc := cFree1 hC hA he9
            have hr9 : CS.hs σ ≤ CS.hs R.2 := Mono.go hf (mono_some (Nat.le_refl _))
            refine va_callv (va_runSN (As := [.ref (Q.q 59), .int x2, .int (CS.o σ a20 3)]) (rest := []) ⟨hx, hb, hml, hown, hts⟩ (c_X11_put l dC dI _ (Q.q 59) (Q.c 0) 720 (σ.a 59) x2 (CS.o σ a20 3) (by decide)) ⟨va_cnB 3 hts hX3_handle_X11_put_n50 rfl rfl rfl (hZ.1 (.methodLinkNest RX3 50 yX11_put "StatementRules2") (by decide +kernel)) (hts (.initialized RX11) k_X3_handle_initialized_RX11) (by decide +kernel) ⟨(show 1 + 1 ≤ 3 by omega), (show 8 + (3 + 11) + 60 * 1 ≤ 60 * 3 by omega)⟩, (hts (.static yX11_put) k_X3_handle_static_yX11_put), trivial⟩ ⟨zPre.blind, zPre.go hZ (cOne hC.1 he9) (hK.sub (tys' := [(Q.c 0, .int)]) [0] rfl) (cOneD hC.2.1 he9)⟩ rfl rfl hl.1 rfl (lv_room (Nat.le_of_ble_eq_true rfl)) dX3_handle_44 ⟨cAcc4 h0 hr9, cAcc5 h0 hr9⟩) hC.2.2.1 (fun q _ h => hFc q h) hFc (fun u9 t9 H1 locs ht hvm hw hB hz1 hk1 hS => ?_)
            obtain ⟨⟨hP1, hK1, hD1⟩, hsz1⟩ := hB
            rw [ht] at hP1 hsz1
            have hC := cBack (σ' := CS.putA σ 59 (gPut (σ.a 59) 720 x2 (CS.o σ a20 3))) hC he9 cPutA_59 (cPutA_h _ _ _) hk1 hP1 hsz1 hS
            generalize H1 = H at hC ⊢
            refine lv_goto (tgt := 76) hx hb dX3_handle_47 (by decide) ?_
            obtain rfl := Option.some.inj hf
            exact W.vret hx hb hr (fun t ht hW => ⟨⟨(), rfl, trivial, ⟨by rw [ht]; exact hC.1, va_K.moved hW.alike hK, hC.2.1⟩, by rw [ht]; exact hC.2.2.2⟩, hC.2.2.1.F ht⟩) hC.2.2.1.2.2 dX3_handle_76
      ·
        replace hf := (if_pos c6).symm.trans hf
        refine lv_aload_n hx hb dX3_handle_18 rfl (lv_at hl 0 rfl) ?_
        refine lv_aload_n hx hb dX3_handle_19 rfl (lv_at hl 3 rfl) ?_
        obtain ⟨p22, hcp22, hf⟩ := hf_bind hf
        have mo23 : CS.hs σ ≤ CS.hs p22.2 := Mono.go hcp22 (m_X3_throwAgain N σ (some a2))
        have hr9 : CS.hs p22.2 ≤ CS.hs R.2 := Mono.go hf (mono_some (Nat.le_refl _))
        have hFc := cFree hC hA
        refine va_callv (va_runV (As := [.ref a2]) (rest := []) ⟨hx, hb, hml, hown, hts⟩ (c_X3_throwAgain l dC dI Q N σ (some a2) p22 hcp22) (cwV 1 hts hX3_handle_X3_throwAgain_v220 rfl rfl rfl (by decide +kernel) ⟨(show 2 + 1 ≤ 3 by omega), (show 8 + (2 + 11) + 60 * 2 ≤ 60 * 3 by omega)⟩) ⟨zPre.blind, va_recv hK hC.1 (ci := 2) (q0 := 7) rfl rfl, cPre_go hZ hK hC⟩ rfl rfl hl.1 rfl (lv_room (Nat.le_of_ble_eq_true rfl)) dX3_handle_20 (cAcc h0 mo23 hr9)) hC.2.2.1 (fun q _ h => hFc q h) hFc (fun u9 t9 H1 locs ht hvm hw hB hz1 hk1 hS => ?_)
        obtain ⟨⟨hP, hK1, hD1⟩, hsz1⟩ := hB
        rw [ht] at hP hsz1
        have hC : CP dC dI Q A s.heap p22.2 H1 locs := ⟨hP, hD1.weaken (fun _ _ _ h => hFc _ h), hS, hsz1⟩
        generalize H1 = H at hC ⊢
        have h25 : (CS.hs σ) ≤ CS.hs p22.2 := Nat.le_trans h0 mo23
        refine W.widen (k := CS.hs p22.2 - (CS.hs σ)) (n := 17 * (CS.hs p22.2 - (CS.hs σ))) (cAcc2 h0 mo23) (cAcc3 h0 mo23) ?_
        refine lv_goto (tgt := 76) hx hb dX3_handle_23 (by decide) ?_
        obtain rfl := Option.some.inj hf
        exact W.vret hx hb hr (fun t ht hW => ⟨⟨(), rfl, trivial, ⟨by rw [ht]; exact hC.1, va_K.moved hW.alike hK, hC.2.1⟩, by rw [ht]; exact hC.2.2.2⟩, hC.2.2.1.F ht⟩) hC.2.2.1.2.2 dX3_handle_76
