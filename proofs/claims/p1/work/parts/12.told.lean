theorem k_X11_asserts_fieldLink_RX11_16_SR_told_LSR_Told : Cond.fieldLink RX11 16 "StatementRules2" "told" "LStatementRules2$Told;" ∈ wzX11_asserts := List.mem_cons_of_mem _ (List.mem_append_left _ (List.mem_of_getElem? (i := 0) rfl))
theorem i_X11_asserts_X11 : ∀ w ∈ wsX110, w ∈ wzX11_asserts := fun _ h => List.mem_cons_of_mem _ (List.mem_append_right _ (List.mem_append_left _ (h)))
theorem i_X11_asserts_X10 : ∀ w ∈ wsX100, w ∈ wzX11_asserts := fun _ h => List.mem_cons_of_mem _ (List.mem_append_right _ (List.mem_append_right _ (List.mem_append_left _ (h))))
set_option maxHeartbeats 4000000 in
set_option maxRecDepth 100000 in
theorem c_X11_asserts (l : Launch) (dC : Nat → ClassId) (dI : Nat → Nat → Nat) (sz : Nat) (h0 : Nat) (q1 : Nat) (on : Int32) (x_tape : Value) (x_code : Value) (x_reader : Value) (x_machine : Value) (x_length : Value) (x_latestFault : Value) (x_hasProgram : Value) (x_hasRun : Value) (t_above : Value) (t_isNull : Value) (t_opening : Value) (t_closing : Value) (t_kindCount : Value) (h1 : narrow .boolean (.int on) = .int on) (h2 : fits .boolean (.int on) = true) : Met l yX11_asserts wzX11_asserts ({ frames := 1, cells := 0, slots := 0, locals := 60 }) (va_Pc [.ref h0, .int on] (zPre dC dI sz [(h0, .inr (10, [x_tape, .ref q1, x_code, x_reader, x_machine, x_length, x_latestFault, x_hasProgram, x_hasRun])), (q1, .inr (9, [t_above, t_isNull, t_opening, t_closing, t_kindCount, .int 0]))] [])) (va_Qi (fun (r : Int32) (_ : Unit) => r = 0) (fun (_ : Unit) (t : State) => zPost dC dI (va_A [(h0, .inr (10, [x_tape, .ref q1, x_code, x_reader, x_machine, x_length, x_latestFault, x_hasProgram, x_hasRun])), (q1, .inr (9, [t_above, t_isNull, t_opening, t_closing, t_kindCount, .int 0]))] sz) [] [] t) (va_A [(h0, .inr (10, [x_tape, .ref q1, x_code, x_reader, x_machine, x_length, x_latestFault, x_hasProgram, x_hasRun])), (q1, .inr (9, [t_above, t_isNull, t_opening, t_closing, t_kindCount, .int 0]))] sz)) 0 0 (va_A [(h0, .inr (10, [x_tape, .ref q1, x_code, x_reader, x_machine, x_length, x_latestFault, x_hasProgram, x_hasRun])), (q1, .inr (9, [t_above, t_isNull, t_opening, t_closing, t_kindCount, .int 0]))] sz) := by
  refine Met.ofW (cc := cX11_asserts) (maxL := 3) (ret := (some .int)) (by decide) rfl ?_
  intro p e s m args below meth c s₁ B hml hv
  obtain ⟨rfl, hsz, hZ, hP, hK, hD0⟩ := hv
  have hx := B.exec
  have hb := B.bytes
  have hr := B.returns
  have hts := atoms_spec (ws := wzX11_asserts) B.pre
  have hown : s.vm.findClass RX11 = some m.cls := findClass_of_methodNamed B.named
  have hlocks := B.notSynchronized
  subst hsz
  have hD := hD0.self (sz := s.heap.size)
  generalize hAe : va_A [(h0, .inr (10, [x_tape, .ref q1, x_code, x_reader, x_machine, x_length, x_latestFault, x_hasProgram, x_hasRun])), (q1, .inr (9, [t_above, t_isNull, t_opening, t_closing, t_kindCount, .int 0]))] s.heap.size = A at hD ⊢
  have hA : ∀ q : Nat, s.heap.size ≤ q → A q := fun q h => by rw [← hAe]; exact Or.inr h
  have hS : va_S A s.heap s.heap [] := va_S.rf
  have hP : va_P (dC, dI) vwCl [(h0, .inr (10, [x_tape, .ref q1, x_code, x_reader, x_machine, x_length, x_latestFault, x_hasProgram, x_hasRun])), (q1, .inr (9, [t_above, t_isNull, t_opening, t_closing, t_kindCount, .int 0]))] s.heap := hP
  have hl := lv_entry ([.ref h0, .int on]) (n := 3) (Nat.le_of_ble_eq_true rfl)
  rw [lg_entry_eq]
  generalize (lg_sl ([.ref h0, .int on]) ++ List.replicate (3 - (lg_sl ([.ref h0, .int on])).length) Slot.unset).toArray = ls at hl ⊢
  have hl : lv_has ls 3 [(0, .ref h0), (1, .int on)] := hl
  refine lv_aload_n hx hb dX11_asserts_0 rfl (lv_at hl 0 rfl) ?_
  refine va_get (D := (dC, dI)) (ci := 10) (v := .ref q1) (C := RX11) (T := TX11) (N := 9) hx hb hts i_X11_asserts_X11 hown hK hP 0 rfl rfl 1 (by decide) (hts (.fieldLink RX11 16 "StatementRules2" "told" "LStatementRules2$Told;") k_X11_asserts_fieldLink_RX11_16_SR_told_LSR_Told) (fun _ h9 => h9) rfl dX11_asserts_1 ?_
  refine va_getN (D := (dC, dI)) (ci := 9) (v := .int 0) (C := RX10) (T := TX10) (N := 6) hx hb hts i_X11_asserts_X10 hown hK hP 1 rfl rfl 5 (by decide) (va_Nw.use rfl (hZ.1 (.fieldLinkNest RX11 81 "StatementRules2$Told" "assertsOn" "Z" "StatementRules2") (by decide +kernel))) (fun _ h9 => h9) rfl dX11_asserts_4 ?_
  refine lv_if_eq (tgt := 14) hx hb dX11_asserts_7 (by decide) (fun _ => ?_) (fun c9 => absurd (by decide) c9)
  refine lv_iconst (v := 0) hx hb dX11_asserts_14 (by decide) ?_
  refine lv_istore_n (lv' := [(2, .int 0), (0, .ref h0), (1, .int on)]) hx hb dX11_asserts_15 rfl hl (by decide) rfl (fun ls hl => ?_)
  refine lv_aload_n hx hb dX11_asserts_16 rfl (lv_at hl 1 rfl) ?_
  refine va_get (D := (dC, dI)) (ci := 10) (v := .ref q1) (C := RX11) (T := TX11) (N := 9) hx hb hts i_X11_asserts_X11 hown hK hP 0 rfl rfl 1 (by decide) (hts (.fieldLink RX11 16 "StatementRules2" "told" "LStatementRules2$Told;") k_X11_asserts_fieldLink_RX11_16_SR_told_LSR_Told) (fun _ h9 => h9) rfl dX11_asserts_17 ?_
  refine lv_iload_n hx hb dX11_asserts_20 rfl (lv_at hl 2 rfl) ?_
  refine va_putN (D := (dC, dI)) (ci := 9) (v := .int on) (ty := .boolean) (C := RX10) (T := TX10) (N := 6) hx hb hts i_X11_asserts_X10 tyX10 tyX10_ok nmX10 hown hK hP hD hS 1 rfl rfl 5 (by decide) (va_Nw.use rfl (hZ.1 (.fieldLinkNest RX11 81 "StatementRules2$Told" "assertsOn" "Z" "StatementRules2") (by decide +kernel))) (fun _ h9 => h9) rfl (by decide +kernel) h1 h2 (Nat.le_of_ble_eq_true rfl) dX11_asserts_21 (fun H locs hP hD hS => ?_)
  have hP : va_P (dC, dI) vwCl [(h0, .inr (10, [x_tape, .ref q1, x_code, x_reader, x_machine, x_length, x_latestFault, x_hasProgram, x_hasRun])), (q1, .inr (9, [t_above, t_isNull, t_opening, t_closing, t_kindCount, .int on]))] H := hP
  have hD : va_D A [(h0, .inr (10, [x_tape, .ref q1, x_code, x_reader, x_machine, x_length, x_latestFault, x_hasProgram, x_hasRun])), (q1, .inr (9, [t_above, t_isNull, t_opening, t_closing, t_kindCount, .int on]))] := hD
  refine lv_iload_n hx hb dX11_asserts_24 rfl (lv_at hl 0 rfl) ?_
  have hP9 := hP.sub (ws' := []) [] rfl
  have hD9 := hD.sub (ws' := []) [] (by decide) rfl
  have hK9 := hK.sub (tys' := []) [] rfl
  exact W.iret (v := 0) hx hb hr (fun t ht hW => ⟨⟨0, (), rfl, rfl, by rw [ht]; exact hP9, va_K.moved hW.alike hK9, hD9⟩, hS.F ht⟩) hS.2.2 dX11_asserts_25
theorem k_X10_isKind_fieldLink_RX10_24_SR_Told_kindCount_I : Cond.fieldLink RX10 24 "StatementRules2$Told" "kindCount" "I" ∈ wzX10_isKind := List.mem_cons_of_mem _ (List.mem_append_left _ (List.mem_of_getElem? (i := 0) rfl))
theorem i_X10_isKind_X10 : ∀ w ∈ wsX100, w ∈ wzX10_isKind := fun _ h => List.mem_cons_of_mem _ (List.mem_append_right _ (List.mem_append_left _ (h)))
set_option maxHeartbeats 4000000 in
set_option maxRecDepth 100000 in
theorem c_X10_isKind (l : Launch) (dC : Nat → ClassId) (dI : Nat → Nat → Nat) (sz : Nat) (h0 : Nat) (x : Int32) (t_above : Value) (t_isNull : Value) (t_opening : Value) (t_closing : Value) (t_assertsOn : Value) : Met l yX10_isKind wzX10_isKind ({ frames := 1, cells := 0, slots := 0, locals := 60 }) (va_Pc [.ref h0, .int x] (zPre dC dI sz [(h0, .inr (9, [t_above, t_isNull, t_opening, t_closing, .int 4, t_assertsOn]))] [])) (va_Qi (fun (r : Int32) (_ : Unit) => r = if ¬ x < 0 ∧ ¬ 4 ≤ x then 1 else 0) (fun (_ : Unit) (t : State) => zPost dC dI (va_A [(h0, .inr (9, [t_above, t_isNull, t_opening, t_closing, .int 4, t_assertsOn]))] sz) [(h0, .inr (9, [t_above, t_isNull, t_opening, t_closing, .int 4, t_assertsOn]))] [] t) (va_A [(h0, .inr (9, [t_above, t_isNull, t_opening, t_closing, .int 4, t_assertsOn]))] sz)) 0 0 (va_A [(h0, .inr (9, [t_above, t_isNull, t_opening, t_closing, .int 4, t_assertsOn]))] sz) := by
  refine Met.ofW (cc := cX10_isKind) (maxL := 2) (ret := (some .boolean)) (by decide) rfl ?_
  intro p e s m args below meth c s₁ B hml hv
  obtain ⟨rfl, hsz, hZ, hP, hK, hD0⟩ := hv
  have hx := B.exec
  have hb := B.bytes
  have hr := B.returns
  have hts := atoms_spec (ws := wzX10_isKind) B.pre
  have hown : s.vm.findClass RX10 = some m.cls := findClass_of_methodNamed B.named
  have hlocks := B.notSynchronized
  subst hsz
  have hD := hD0.self (sz := s.heap.size)
  generalize hAe : va_A [(h0, .inr (9, [t_above, t_isNull, t_opening, t_closing, .int 4, t_assertsOn]))] s.heap.size = A at hD ⊢
  have hA : ∀ q : Nat, s.heap.size ≤ q → A q := fun q h => by rw [← hAe]; exact Or.inr h
  have hS : va_S A s.heap s.heap [] := va_S.rf
  have hP : va_P (dC, dI) vwCl [(h0, .inr (9, [t_above, t_isNull, t_opening, t_closing, .int 4, t_assertsOn]))] s.heap := hP
  have hl := lv_entry ([.ref h0, .int x]) (n := 2) (Nat.le_of_ble_eq_true rfl)
  rw [lg_entry_eq]
  generalize (lg_sl ([.ref h0, .int x]) ++ List.replicate (2 - (lg_sl ([.ref h0, .int x])).length) Slot.unset).toArray = ls at hl ⊢
  have hl : lv_has ls 2 [(0, .ref h0), (1, .int x)] := hl
  refine lv_iload_n hx hb dX10_isKind_0 rfl (lv_at hl 1 rfl) ?_
  refine lv_if_lt (tgt := 16) hx hb dX10_isKind_1 (by decide) (fun c1 => ?_) (fun c1 => ?_)
  ·
    refine lv_iconst (v := 0) hx hb dX10_isKind_16 (by decide) ?_
    have hP9 := hP.sub (ws' := [(h0, .inr (9, [t_above, t_isNull, t_opening, t_closing, .int 4, t_assertsOn]))]) [0] rfl
    have hD9 := hD.sub (ws' := [(h0, .inr (9, [t_above, t_isNull, t_opening, t_closing, .int 4, t_assertsOn]))]) [0] (by decide) rfl
    have hK9 := hK.sub (tys' := []) [] rfl
    exact W.zret (v := 0) hx hb hr (rfl) (fun t ht hW => ⟨⟨0, (), rfl, (if_neg (fun h => h.1 c1)).symm, by rw [ht]; exact hP9, va_K.moved hW.alike hK9, hD9⟩, hS.F ht⟩) hS.2.2 dX10_isKind_17
  ·
    refine lv_iload_n hx hb dX10_isKind_4 rfl (lv_at hl 1 rfl) ?_
    refine lv_aload_n hx hb dX10_isKind_5 rfl (lv_at hl 0 rfl) ?_
    refine va_get (D := (dC, dI)) (ci := 9) (v := .int 4) (C := RX10) (T := TX10) (N := 6) hx hb hts i_X10_isKind_X10 hown hK hP 0 rfl rfl 4 (by decide) (hts (.fieldLink RX10 24 "StatementRules2$Told" "kindCount" "I") k_X10_isKind_fieldLink_RX10_24_SR_Told_kindCount_I) (fun _ h9 => h9) rfl dX10_isKind_6 ?_
    refine lv_icmp_ge (tgt := 16) hx hb dX10_isKind_9 (by decide) (fun c2 => ?_) (fun c2 => ?_)
    ·
      refine lv_iconst (v := 0) hx hb dX10_isKind_16 (by decide) ?_
      have hP9 := hP.sub (ws' := [(h0, .inr (9, [t_above, t_isNull, t_opening, t_closing, .int 4, t_assertsOn]))]) [0] rfl
      have hD9 := hD.sub (ws' := [(h0, .inr (9, [t_above, t_isNull, t_opening, t_closing, .int 4, t_assertsOn]))]) [0] (by decide) rfl
      have hK9 := hK.sub (tys' := []) [] rfl
      exact W.zret (v := 0) hx hb hr (rfl) (fun t ht hW => ⟨⟨0, (), rfl, (if_neg (fun h => h.2 c2)).symm, by rw [ht]; exact hP9, va_K.moved hW.alike hK9, hD9⟩, hS.F ht⟩) hS.2.2 dX10_isKind_17
    ·
      refine lv_iconst (v := 1) hx hb dX10_isKind_12 (by decide) ?_
      refine lv_goto (tgt := 17) hx hb dX10_isKind_13 (by decide) ?_
      have hP9 := hP.sub (ws' := [(h0, .inr (9, [t_above, t_isNull, t_opening, t_closing, .int 4, t_assertsOn]))]) [0] rfl
      have hD9 := hD.sub (ws' := [(h0, .inr (9, [t_above, t_isNull, t_opening, t_closing, .int 4, t_assertsOn]))]) [0] (by decide) rfl
      have hK9 := hK.sub (tys' := []) [] rfl
      exact W.zret (v := 1) hx hb hr (rfl) (fun t ht hW => ⟨⟨1, (), rfl, (if_pos ⟨c1, c2⟩).symm, by rw [ht]; exact hP9, va_K.moved hW.alike hK9, hD9⟩, hS.F ht⟩) hS.2.2 dX10_isKind_17
theorem k_X10_isFull_fieldLink_RX10_24_SR_Told_kindCount_I : Cond.fieldLink RX10 24 "StatementRules2$Told" "kindCount" "I" ∈ wzX10_isFull := List.mem_cons_of_mem _ (List.mem_append_left _ (List.mem_of_getElem? (i := 0) rfl))
theorem i_X10_isFull_X10 : ∀ w ∈ wsX100, w ∈ wzX10_isFull := fun _ h => List.mem_cons_of_mem _ (List.mem_append_right _ (List.mem_append_left _ (h)))
set_option maxHeartbeats 4000000 in
set_option maxRecDepth 100000 in
theorem c_X10_isFull (l : Launch) (dC : Nat → ClassId) (dI : Nat → Nat → Nat) (sz : Nat) (h0 : Nat) (t_above : Value) (t_isNull : Value) (t_opening : Value) (t_closing : Value) (t_assertsOn : Value) : Met l yX10_isFull wzX10_isFull ({ frames := 1, cells := 0, slots := 0, locals := 60 }) (va_Pc [.ref h0] (zPre dC dI sz [(h0, .inr (9, [t_above, t_isNull, t_opening, t_closing, .int 4, t_assertsOn]))] [])) (va_Qi (fun (r : Int32) (_ : Unit) => r = 0) (fun (_ : Unit) (t : State) => zPost dC dI (va_A [(h0, .inr (9, [t_above, t_isNull, t_opening, t_closing, .int 4, t_assertsOn]))] sz) [(h0, .inr (9, [t_above, t_isNull, t_opening, t_closing, .int 4, t_assertsOn]))] [] t) (va_A [(h0, .inr (9, [t_above, t_isNull, t_opening, t_closing, .int 4, t_assertsOn]))] sz)) 0 0 (va_A [(h0, .inr (9, [t_above, t_isNull, t_opening, t_closing, .int 4, t_assertsOn]))] sz) := by
  refine Met.ofW (cc := cX10_isFull) (maxL := 1) (ret := (some .boolean)) (by decide) rfl ?_
  intro p e s m args below meth c s₁ B hml hv
  obtain ⟨rfl, hsz, hZ, hP, hK, hD0⟩ := hv
  have hx := B.exec
  have hb := B.bytes
  have hr := B.returns
  have hts := atoms_spec (ws := wzX10_isFull) B.pre
  have hown : s.vm.findClass RX10 = some m.cls := findClass_of_methodNamed B.named
  have hlocks := B.notSynchronized
  subst hsz
  have hD := hD0.self (sz := s.heap.size)
  generalize hAe : va_A [(h0, .inr (9, [t_above, t_isNull, t_opening, t_closing, .int 4, t_assertsOn]))] s.heap.size = A at hD ⊢
  have hA : ∀ q : Nat, s.heap.size ≤ q → A q := fun q h => by rw [← hAe]; exact Or.inr h
  have hS : va_S A s.heap s.heap [] := va_S.rf
  have hP : va_P (dC, dI) vwCl [(h0, .inr (9, [t_above, t_isNull, t_opening, t_closing, .int 4, t_assertsOn]))] s.heap := hP
  have hl := lv_entry ([.ref h0]) (n := 1) (Nat.le_of_ble_eq_true rfl)
  rw [lg_entry_eq]
  generalize (lg_sl ([.ref h0]) ++ List.replicate (1 - (lg_sl ([.ref h0])).length) Slot.unset).toArray = ls at hl ⊢
  have hl : lv_has ls 1 [(0, .ref h0)] := hl
  refine lv_aload_n hx hb dX10_isFull_0 rfl (lv_at hl 0 rfl) ?_
  refine va_get (D := (dC, dI)) (ci := 9) (v := .int 4) (C := RX10) (T := TX10) (N := 6) hx hb hts i_X10_isFull_X10 hown hK hP 0 rfl rfl 4 (by decide) (hts (.fieldLink RX10 24 "StatementRules2$Told" "kindCount" "I") k_X10_isFull_fieldLink_RX10_24_SR_Told_kindCount_I) (fun _ h9 => h9) rfl dX10_isFull_1 ?_
  refine lv_bipush (v := 12) hx hb dX10_isFull_4 (by decide) ?_
  refine lv_icmp_lt (tgt := 13) hx hb dX10_isFull_6 (by decide) (fun _ => ?_) (fun c9 => absurd (by decide) c9)
  refine lv_iconst (v := 0) hx hb dX10_isFull_13 (by decide) ?_
  have hP9 := hP.sub (ws' := [(h0, .inr (9, [t_above, t_isNull, t_opening, t_closing, .int 4, t_assertsOn]))]) [0] rfl
  have hD9 := hD.sub (ws' := [(h0, .inr (9, [t_above, t_isNull, t_opening, t_closing, .int 4, t_assertsOn]))]) [0] (by decide) rfl
  have hK9 := hK.sub (tys' := []) [] rfl
  exact W.zret (v := 0) hx hb hr (rfl) (fun t ht hW => ⟨⟨0, (), rfl, rfl, by rw [ht]; exact hP9, va_K.moved hW.alike hK9, hD9⟩, hS.F ht⟩) hS.2.2 dX10_isFull_14
theorem k_X10_addKind_fieldLink_RX10_9_SR_Told_above_I : Cond.fieldLink RX10 9 "StatementRules2$Told" "above" "[I" ∈ wzX10_addKind := List.mem_cons_of_mem _ (List.mem_append_left _ (List.mem_of_getElem? (i := 0) rfl))
theorem i_X10_addKind_X10 : ∀ w ∈ wsX100, w ∈ wzX10_addKind := fun _ h => List.mem_cons_of_mem _ (List.mem_append_right _ (List.mem_append_left _ (h)))
theorem k_X10_addKind_fieldLink_RX10_24_SR_Told_kindCount_I : Cond.fieldLink RX10 24 "StatementRules2$Told" "kindCount" "I" ∈ wzX10_addKind := List.mem_cons_of_mem _ (List.mem_append_left _ (List.mem_of_getElem? (i := 1) rfl))
theorem k_X10_addKind_initialized_RX11 : Cond.initialized RX11 ∈ wzX10_addKind := List.mem_cons_of_mem _ (List.mem_append_left _ (List.mem_of_getElem? (i := 2) rfl))
theorem k_X10_addKind_static_yX11_put : Cond.static yX11_put ∈ wzX10_addKind := List.mem_cons_of_mem _ (List.mem_append_left _ (List.mem_of_getElem? (i := 3) rfl))
set_option maxHeartbeats 4000000 in
set_option maxRecDepth 100000 in
theorem c_X10_addKind (l : Launch) (dC : Nat → ClassId) (dI : Nat → Nat → Nat) (sz : Nat) (h0 : Nat) (x : Int32) (qa : Nat) (kA : ClassId) (f : Nat → Int32) (t_isNull : Value) (t_opening : Value) (t_closing : Value) (t_assertsOn : Value) : Met l yX10_addKind wzX10_addKind ({ frames := 2, cells := 0, slots := 0, locals := 120 }) (va_Pc [.ref h0, .int x] (zPre dC dI sz [(h0, .inr (9, [.ref qa, t_isNull, t_opening, t_closing, .int 4, t_assertsOn])), (qa, .inl (kA, 12, .inl f))] [(kA, .int)])) (va_Qi (fun (r : Int32) (_ : Unit) => r = 4) (fun (_ : Unit) (t : State) => zPost dC dI (va_A [(h0, .inr (9, [.ref qa, t_isNull, t_opening, t_closing, .int 4, t_assertsOn])), (qa, .inl (kA, 12, .inl f))] sz) [] [] t) (va_A [(h0, .inr (9, [.ref qa, t_isNull, t_opening, t_closing, .int 4, t_assertsOn])), (qa, .inl (kA, 12, .inl f))] sz)) 0 0 (va_A [(h0, .inr (9, [.ref qa, t_isNull, t_opening, t_closing, .int 4, t_assertsOn])), (qa, .inl (kA, 12, .inl f))] sz) := by
  refine Met.ofW (cc := cX10_addKind) (maxL := 2) (ret := (some .int)) (by decide) rfl ?_
  intro p e s m args below meth c s₁ B hml hv
  obtain ⟨rfl, hsz, hZ, hP, hK, hD0⟩ := hv
  have hx := B.exec
  have hb := B.bytes
  have hr := B.returns
  have hts := atoms_spec (ws := wzX10_addKind) B.pre
  have hown : s.vm.findClass RX10 = some m.cls := findClass_of_methodNamed B.named
  have hlocks := B.notSynchronized
  subst hsz
  have hD := hD0.self (sz := s.heap.size)
  generalize hAe : va_A [(h0, .inr (9, [.ref qa, t_isNull, t_opening, t_closing, .int 4, t_assertsOn])), (qa, .inl (kA, 12, .inl f))] s.heap.size = A at hD ⊢
  have hA : ∀ q : Nat, s.heap.size ≤ q → A q := fun q h => by rw [← hAe]; exact Or.inr h
  have hS : va_S A s.heap s.heap [] := va_S.rf
  have hP : va_P (dC, dI) vwCl [(h0, .inr (9, [.ref qa, t_isNull, t_opening, t_closing, .int 4, t_assertsOn])), (qa, .inl (kA, 12, .inl f))] s.heap := hP
  have hl := lv_entry ([.ref h0, .int x]) (n := 2) (Nat.le_of_ble_eq_true rfl)
  rw [lg_entry_eq]
  generalize (lg_sl ([.ref h0, .int x]) ++ List.replicate (2 - (lg_sl ([.ref h0, .int x])).length) Slot.unset).toArray = ls at hl ⊢
  have hl : lv_has ls 2 [(0, .ref h0), (1, .int x)] := hl
  refine lv_aload_n hx hb dX10_addKind_0 rfl (lv_at hl 0 rfl) ?_
  refine va_get (D := (dC, dI)) (ci := 9) (v := .ref qa) (C := RX10) (T := TX10) (N := 6) hx hb hts i_X10_addKind_X10 hown hK hP 0 rfl rfl 0 (by decide) (hts (.fieldLink RX10 9 "StatementRules2$Told" "above" "[I") k_X10_addKind_fieldLink_RX10_9_SR_Told_above_I) (fun _ h9 => h9) rfl dX10_addKind_1 ?_
  refine lv_aload_n hx hb dX10_addKind_4 rfl (lv_at hl 0 rfl) ?_
  refine va_get (D := (dC, dI)) (ci := 9) (v := .int 4) (C := RX10) (T := TX10) (N := 6) hx hb hts i_X10_addKind_X10 hown hK hP 0 rfl rfl 4 (by decide) (hts (.fieldLink RX10 24 "StatementRules2$Told" "kindCount" "I") k_X10_addKind_fieldLink_RX10_24_SR_Told_kindCount_I) (fun _ h9 => h9) rfl dX10_addKind_5 ?_
  refine lv_iload_n hx hb dX10_addKind_8 rfl (lv_at hl 1 rfl) ?_
  have hPc := hP.sub (ws' := [(qa, .inl (kA, 12, .inl f))]) [1] rfl
  have hDc := hD.sub (ws' := [(qa, .inl (kA, 12, .inl f))]) [1] (by decide) rfl
  have hKc := hK.sub (tys' := [(kA, .int)]) [0] rfl
  have hFc := va_free (wc := [(qa, .inl (kA, 12, .inl f))]) hD hS hA [1] rfl
  refine va_callv (va_runSN (As := [.ref qa, .int 4, .int x]) (rest := []) ⟨hx, hb, hml, hown, hts⟩ (c_X11_put l dC dI _ qa kA 12 f 4 x (by first | decide | (unfold vp_in; decide)) (by first | decide | (unfold vp_in; decide)) (by first | decide | (unfold vp_in; decide))) ⟨va_cnB 3 hts hX10_addKind_X11_put_n28 rfl rfl rfl (hZ.1 (.methodLinkNest RX10 28 yX11_put "StatementRules2") (by decide +kernel)) (hts (.initialized RX11) k_X10_addKind_initialized_RX11) (by decide +kernel) ⟨Nat.le_of_ble_eq_true rfl, Nat.le_of_ble_eq_true rfl⟩, (hts (.static yX11_put) k_X10_addKind_static_yX11_put), trivial⟩ ⟨zPre.blind, zPre.go hZ hPc hKc hDc⟩ rfl rfl hl.1 rfl (lv_room (Nat.le_of_ble_eq_true rfl)) dX10_addKind_9 ⟨Nat.le_of_ble_eq_true rfl, Nat.le_of_ble_eq_true rfl⟩) hS (fun q _ h => hFc q h) hFc (fun u9 t9 H1 locs ht hvm hw hB hz1 hk1 hS => ?_)
  obtain ⟨g_2, hP1, hK1, hD1⟩ := hB
  rw [ht] at hP1
  have hK1 := va_K.moved hvm.symm hK1
  obtain ⟨hP, hD⟩ := va_join (wr := [(h0, .inr (9, [.ref qa, t_isNull, t_opening, t_closing, .int 4, t_assertsOn]))]) (w1 := [(qa, .inl (kA, 12, .inl g_2))]) hP hD [1] [0] rfl rfl (by decide) (by decide) hk1 hFc hP1 hD1
  have hK := hK.app hK1
  generalize H1 = H at hP hS ⊢
  have hP : va_P (dC, dI) vwCl [(h0, .inr (9, [.ref qa, t_isNull, t_opening, t_closing, .int 4, t_assertsOn])), (qa, .inl (kA, 12, .inl g_2))] H := hP
  have hD : va_D A [(h0, .inr (9, [.ref qa, t_isNull, t_opening, t_closing, .int 4, t_assertsOn])), (qa, .inl (kA, 12, .inl g_2))] := hD
  have hK : va_K (dC, dI) vwCl [(kA, .int), (kA, .int)] s := hK
  have hK : va_K (dC, dI) vwCl [(kA, .int)] s := hK.sub [0] rfl
  refine lv_aload_n hx hb dX10_addKind_12 rfl (lv_at hl 0 rfl) ?_
  refine lv_dup hx hb dX10_addKind_13 rfl ?_
  refine va_get (D := (dC, dI)) (ci := 9) (v := .int 4) (C := RX10) (T := TX10) (N := 6) hx hb hts i_X10_addKind_X10 hown hK hP 0 rfl rfl 4 (by decide) (hts (.fieldLink RX10 24 "StatementRules2$Told" "kindCount" "I") k_X10_addKind_fieldLink_RX10_24_SR_Told_kindCount_I) (fun _ h9 => h9) rfl dX10_addKind_14 ?_
  refine lv_iconst (v := 1) hx hb dX10_addKind_17 (by decide) ?_
  refine lv_iadd hx hb dX10_addKind_18 ?_
  refine lv_topi (fun z3 ez3 => ?_)
  obtain rfl : z3 = 5 := ez3.trans (by decide)
  refine va_put (D := (dC, dI)) (ci := 9) (v := .int 5) (ty := .int) (C := RX10) (T := TX10) (N := 6) hx hb hts i_X10_addKind_X10 tyX10 tyX10_ok nmX10 hown hK hP hD hS 0 rfl rfl 4 (by decide) (hts (.fieldLink RX10 24 "StatementRules2$Told" "kindCount" "I") k_X10_addKind_fieldLink_RX10_24_SR_Told_kindCount_I) (fun _ h9 => h9) rfl (by decide +kernel) rfl rfl (Nat.le_of_ble_eq_true rfl) dX10_addKind_19 (fun H locs hP hD hS => ?_)
  have hP : va_P (dC, dI) vwCl [(h0, .inr (9, [.ref qa, t_isNull, t_opening, t_closing, .int 5, t_assertsOn])), (qa, .inl (kA, 12, .inl g_2))] H := hP
  have hD : va_D A [(h0, .inr (9, [.ref qa, t_isNull, t_opening, t_closing, .int 5, t_assertsOn])), (qa, .inl (kA, 12, .inl g_2))] := hD
  refine lv_aload_n hx hb dX10_addKind_22 rfl (lv_at hl 0 rfl) ?_
  refine va_get (D := (dC, dI)) (ci := 9) (v := .int 5) (C := RX10) (T := TX10) (N := 6) hx hb hts i_X10_addKind_X10 hown hK hP 0 rfl rfl 4 (by decide) (hts (.fieldLink RX10 24 "StatementRules2$Told" "kindCount" "I") k_X10_addKind_fieldLink_RX10_24_SR_Told_kindCount_I) (fun _ h9 => h9) rfl dX10_addKind_23 ?_
  refine lv_iconst (v := 1) hx hb dX10_addKind_26 (by decide) ?_
  refine lv_isub hx hb dX10_addKind_27 ?_
  refine lv_topi (fun z4 ez4 => ?_)
  obtain rfl : z4 = 4 := ez4.trans (by decide)
  have hP9 := hP.sub (ws' := []) [] rfl
  have hD9 := hD.sub (ws' := []) [] (by decide) rfl
  have hK9 := hK.sub (tys' := []) [] rfl
  exact W.iret (v := 4) hx hb hr (fun t ht hW => ⟨⟨4, (), rfl, rfl, by rw [ht]; exact hP9, va_K.moved hW.alike hK9, hD9⟩, hS.F ht⟩) hS.2.2 dX10_addKind_28
theorem k_X11_kind_fieldLink_RX11_16_SR_told_LSR_Told : Cond.fieldLink RX11 16 "StatementRules2" "told" "LStatementRules2$Told;" ∈ wzX11_kind := List.mem_cons_of_mem _ (List.mem_append_left _ (List.mem_of_getElem? (i := 0) rfl))
theorem i_X11_kind_X11 : ∀ w ∈ wsX110, w ∈ wzX11_kind := fun _ h => List.mem_cons_of_mem _ (List.mem_append_right _ (List.mem_append_left _ (h)))
set_option maxHeartbeats 4000000 in
set_option maxRecDepth 100000 in
theorem c_X11_kind (l : Launch) (dC : Nat → ClassId) (dI : Nat → Nat → Nat) (sz : Nat) (h0 : Nat) (q1 : Nat) (x_tape : Value) (x_code : Value) (x_reader : Value) (x_machine : Value) (x_length : Value) (x_latestFault : Value) (x_hasProgram : Value) (x_hasRun : Value) (u : Int32) (qa : Nat) (kA : ClassId) (f : Nat → Int32) (t_isNull : Value) (t_opening : Value) (t_closing : Value) (t_assertsOn : Value) : Met l yX11_kind wzX11_kind ({ frames := 3, cells := 0, slots := 0, locals := 180 }) (va_Pc [.ref h0, .int u] (zPre dC dI sz [(h0, .inr (10, [x_tape, .ref q1, x_code, x_reader, x_machine, x_length, x_latestFault, x_hasProgram, x_hasRun])), (q1, .inr (9, [.ref qa, t_isNull, t_opening, t_closing, .int 4, t_assertsOn])), (qa, .inl (kA, 12, .inl f))] [(kA, .int)])) (va_Qi (fun (r : Int32) (_ : Unit) => r = if ¬ u < 0 ∧ ¬ 4 ≤ u then 4 else -1) (fun (_ : Unit) (t : State) => zPost dC dI (va_A [(h0, .inr (10, [x_tape, .ref q1, x_code, x_reader, x_machine, x_length, x_latestFault, x_hasProgram, x_hasRun])), (q1, .inr (9, [.ref qa, t_isNull, t_opening, t_closing, .int 4, t_assertsOn])), (qa, .inl (kA, 12, .inl f))] sz) [] [] t) (va_A [(h0, .inr (10, [x_tape, .ref q1, x_code, x_reader, x_machine, x_length, x_latestFault, x_hasProgram, x_hasRun])), (q1, .inr (9, [.ref qa, t_isNull, t_opening, t_closing, .int 4, t_assertsOn])), (qa, .inl (kA, 12, .inl f))] sz)) 0 0 (va_A [(h0, .inr (10, [x_tape, .ref q1, x_code, x_reader, x_machine, x_length, x_latestFault, x_hasProgram, x_hasRun])), (q1, .inr (9, [.ref qa, t_isNull, t_opening, t_closing, .int 4, t_assertsOn])), (qa, .inl (kA, 12, .inl f))] sz) := by
  refine Met.ofW (cc := cX11_kind) (maxL := 2) (ret := (some .int)) (by decide) rfl ?_
  intro p e s m args below meth c s₁ B hml hv
  obtain ⟨rfl, hsz, hZ, hP, hK, hD0⟩ := hv
  have hx := B.exec
  have hb := B.bytes
  have hr := B.returns
  have hts := atoms_spec (ws := wzX11_kind) B.pre
  have hown : s.vm.findClass RX11 = some m.cls := findClass_of_methodNamed B.named
  have hlocks := B.notSynchronized
  subst hsz
  have hD := hD0.self (sz := s.heap.size)
  generalize hAe : va_A [(h0, .inr (10, [x_tape, .ref q1, x_code, x_reader, x_machine, x_length, x_latestFault, x_hasProgram, x_hasRun])), (q1, .inr (9, [.ref qa, t_isNull, t_opening, t_closing, .int 4, t_assertsOn])), (qa, .inl (kA, 12, .inl f))] s.heap.size = A at hD ⊢
  have hA : ∀ q : Nat, s.heap.size ≤ q → A q := fun q h => by rw [← hAe]; exact Or.inr h
  have hS : va_S A s.heap s.heap [] := va_S.rf
  have hP : va_P (dC, dI) vwCl [(h0, .inr (10, [x_tape, .ref q1, x_code, x_reader, x_machine, x_length, x_latestFault, x_hasProgram, x_hasRun])), (q1, .inr (9, [.ref qa, t_isNull, t_opening, t_closing, .int 4, t_assertsOn])), (qa, .inl (kA, 12, .inl f))] s.heap := hP
  have hl := lv_entry ([.ref h0, .int u]) (n := 2) (Nat.le_of_ble_eq_true rfl)
  rw [lg_entry_eq]
  generalize (lg_sl ([.ref h0, .int u]) ++ List.replicate (2 - (lg_sl ([.ref h0, .int u])).length) Slot.unset).toArray = ls at hl ⊢
  have hl : lv_has ls 2 [(0, .ref h0), (1, .int u)] := hl
  refine lv_aload_n hx hb dX11_kind_0 rfl (lv_at hl 0 rfl) ?_
  refine va_get (D := (dC, dI)) (ci := 10) (v := .ref q1) (C := RX11) (T := TX11) (N := 9) hx hb hts i_X11_kind_X11 hown hK hP 0 rfl rfl 1 (by decide) (hts (.fieldLink RX11 16 "StatementRules2" "told" "LStatementRules2$Told;") k_X11_kind_fieldLink_RX11_16_SR_told_LSR_Told) (fun _ h9 => h9) rfl dX11_kind_1 ?_
  refine lv_iload_n hx hb dX11_kind_4 rfl (lv_at hl 1 rfl) ?_
  have hPc := hP.sub (ws' := [(q1, .inr (9, [.ref qa, t_isNull, t_opening, t_closing, .int 4, t_assertsOn]))]) [1] rfl
  have hDc := hD.sub (ws' := [(q1, .inr (9, [.ref qa, t_isNull, t_opening, t_closing, .int 4, t_assertsOn]))]) [1] (by decide) rfl
  have hKc := hK.sub (tys' := []) [] rfl
  have hFc := va_free (wc := [(q1, .inr (9, [.ref qa, t_isNull, t_opening, t_closing, .int 4, t_assertsOn]))]) hD hS hA [1] rfl
  refine va_calli (va_runV (As := [.int u]) (rest := []) ⟨hx, hb, hml, hown, hts⟩ (c_X10_isKind l dC dI _ q1 u (.ref qa) t_isNull t_opening t_closing t_assertsOn) (cwV 1 hts hX11_kind_X10_isKind_v62 rfl rfl rfl (by decide +kernel) ⟨Nat.le_of_ble_eq_true rfl, Nat.le_of_ble_eq_true rfl⟩) ⟨zPre.blind, va_recv hKc hPc (ci := 9) (q0 := 0) rfl rfl, zPre.go hZ hPc hKc hDc⟩ rfl rfl hl.1 rfl (lv_room (Nat.le_of_ble_eq_true rfl)) dX11_kind_5 ⟨Nat.le_of_ble_eq_true rfl, Nat.le_of_ble_eq_true rfl⟩) hS (fun q _ h => hFc q h) hFc (fun r1 u9 t9 H1 locs ht hvm hw hB hz1 hk1 hS => ?_)
  obtain ⟨hP1, hK1, hD1⟩ := hB
  rw [ht] at hP1
  have hK1 := va_K.moved hvm.symm hK1
  obtain ⟨hP, hD⟩ := va_join (wr := [(h0, .inr (10, [x_tape, .ref q1, x_code, x_reader, x_machine, x_length, x_latestFault, x_hasProgram, x_hasRun])), (qa, .inl (kA, 12, .inl f))]) (w1 := [(q1, .inr (9, [.ref qa, t_isNull, t_opening, t_closing, .int 4, t_assertsOn]))]) hP hD [1] [0, 2] rfl rfl (by decide) (by decide) hk1 hFc hP1 hD1
  have hK := hK.app hK1
  generalize H1 = H at hP hS ⊢
  have hP : va_P (dC, dI) vwCl [(h0, .inr (10, [x_tape, .ref q1, x_code, x_reader, x_machine, x_length, x_latestFault, x_hasProgram, x_hasRun])), (qa, .inl (kA, 12, .inl f)), (q1, .inr (9, [.ref qa, t_isNull, t_opening, t_closing, .int 4, t_assertsOn]))] H := hP
  have hD : va_D A [(h0, .inr (10, [x_tape, .ref q1, x_code, x_reader, x_machine, x_length, x_latestFault, x_hasProgram, x_hasRun])), (qa, .inl (kA, 12, .inl f)), (q1, .inr (9, [.ref qa, t_isNull, t_opening, t_closing, .int 4, t_assertsOn]))] := hD
  have hK : va_K (dC, dI) vwCl [(kA, .int)] s := hK
  by_cases c2 : ¬ u < 0 ∧ ¬ 4 ≤ u
  ·
    obtain rfl : r1 = 1 := hw.trans (if_pos c2)
    refine lv_if_ne (tgt := 13) hx hb dX11_kind_8 (by decide) (fun _ => ?_) (fun c9 => absurd c9 (by decide))
    refine lv_aload_n hx hb dX11_kind_13 rfl (lv_at hl 0 rfl) ?_
    refine va_get (D := (dC, dI)) (ci := 10) (v := .ref q1) (C := RX11) (T := TX11) (N := 9) hx hb hts i_X11_kind_X11 hown hK hP 0 rfl rfl 1 (by decide) (hts (.fieldLink RX11 16 "StatementRules2" "told" "LStatementRules2$Told;") k_X11_kind_fieldLink_RX11_16_SR_told_LSR_Told) (fun _ h9 => h9) rfl dX11_kind_14 ?_
    have hPc := hP.sub (ws' := [(q1, .inr (9, [.ref qa, t_isNull, t_opening, t_closing, .int 4, t_assertsOn]))]) [2] rfl
    have hDc := hD.sub (ws' := [(q1, .inr (9, [.ref qa, t_isNull, t_opening, t_closing, .int 4, t_assertsOn]))]) [2] (by decide) rfl
    have hKc := hK.sub (tys' := []) [] rfl
    have hFc := va_free (wc := [(q1, .inr (9, [.ref qa, t_isNull, t_opening, t_closing, .int 4, t_assertsOn]))]) hD hS hA [2] rfl
    refine va_calli (va_runV (As := []) (rest := []) ⟨hx, hb, hml, hown, hts⟩ (c_X10_isFull l dC dI _ q1 (.ref qa) t_isNull t_opening t_closing t_assertsOn) (cwV 0 hts hX11_kind_X10_isFull_v66 rfl rfl rfl (by decide +kernel) ⟨Nat.le_of_ble_eq_true rfl, Nat.le_of_ble_eq_true rfl⟩) ⟨zPre.blind, va_recv hKc hPc (ci := 9) (q0 := 0) rfl rfl, zPre.go hZ hPc hKc hDc⟩ rfl rfl hl.1 rfl (lv_room (Nat.le_of_ble_eq_true rfl)) dX11_kind_17 ⟨Nat.le_of_ble_eq_true rfl, Nat.le_of_ble_eq_true rfl⟩) hS (fun q _ h => hFc q h) hFc (fun r3 u9 t9 H1 locs ht hvm hw hB hz1 hk1 hS => ?_)
    obtain ⟨hP1, hK1, hD1⟩ := hB
    rw [ht] at hP1
    have hK1 := va_K.moved hvm.symm hK1
    obtain ⟨hP, hD⟩ := va_join (wr := [(h0, .inr (10, [x_tape, .ref q1, x_code, x_reader, x_machine, x_length, x_latestFault, x_hasProgram, x_hasRun])), (qa, .inl (kA, 12, .inl f))]) (w1 := [(q1, .inr (9, [.ref qa, t_isNull, t_opening, t_closing, .int 4, t_assertsOn]))]) hP hD [2] [0, 1] rfl rfl (by decide) (by decide) hk1 hFc hP1 hD1
    have hK := hK.app hK1
    generalize H1 = H at hP hS ⊢
    have hP : va_P (dC, dI) vwCl [(h0, .inr (10, [x_tape, .ref q1, x_code, x_reader, x_machine, x_length, x_latestFault, x_hasProgram, x_hasRun])), (qa, .inl (kA, 12, .inl f)), (q1, .inr (9, [.ref qa, t_isNull, t_opening, t_closing, .int 4, t_assertsOn]))] H := hP
    have hD : va_D A [(h0, .inr (10, [x_tape, .ref q1, x_code, x_reader, x_machine, x_length, x_latestFault, x_hasProgram, x_hasRun])), (qa, .inl (kA, 12, .inl f)), (q1, .inr (9, [.ref qa, t_isNull, t_opening, t_closing, .int 4, t_assertsOn]))] := hD
    have hK : va_K (dC, dI) vwCl [(kA, .int)] s := hK
    obtain rfl : r3 = 0 := hw
    refine lv_if_eq (tgt := 28) hx hb dX11_kind_20 (by decide) (fun _ => ?_) (fun c9 => absurd (by decide) c9)
    refine lv_aload_n hx hb dX11_kind_28 rfl (lv_at hl 0 rfl) ?_
    refine va_get (D := (dC, dI)) (ci := 10) (v := .ref q1) (C := RX11) (T := TX11) (N := 9) hx hb hts i_X11_kind_X11 hown hK hP 0 rfl rfl 1 (by decide) (hts (.fieldLink RX11 16 "StatementRules2" "told" "LStatementRules2$Told;") k_X11_kind_fieldLink_RX11_16_SR_told_LSR_Told) (fun _ h9 => h9) rfl dX11_kind_29 ?_
    refine lv_iload_n hx hb dX11_kind_32 rfl (lv_at hl 1 rfl) ?_
    have hPc := hP.sub (ws' := [(q1, .inr (9, [.ref qa, t_isNull, t_opening, t_closing, .int 4, t_assertsOn])), (qa, .inl (kA, 12, .inl f))]) [2, 1] rfl
    have hDc := hD.sub (ws' := [(q1, .inr (9, [.ref qa, t_isNull, t_opening, t_closing, .int 4, t_assertsOn])), (qa, .inl (kA, 12, .inl f))]) [2, 1] (by decide) rfl
    have hKc := hK.sub (tys' := [(kA, .int)]) [0] rfl
    have hFc := va_free (wc := [(q1, .inr (9, [.ref qa, t_isNull, t_opening, t_closing, .int 4, t_assertsOn])), (qa, .inl (kA, 12, .inl f))]) hD hS hA [2, 1] rfl
    refine va_calli (va_runV (As := [.int u]) (rest := []) ⟨hx, hb, hml, hown, hts⟩ (c_X10_addKind l dC dI _ q1 u qa kA f t_isNull t_opening t_closing t_assertsOn) (cwV 1 hts hX11_kind_X10_addKind_v70 rfl rfl rfl (by decide +kernel) ⟨Nat.le_of_ble_eq_true rfl, Nat.le_of_ble_eq_true rfl⟩) ⟨zPre.blind, va_recv hKc hPc (ci := 9) (q0 := 0) rfl rfl, zPre.go hZ hPc hKc hDc⟩ rfl rfl hl.1 rfl (lv_room (Nat.le_of_ble_eq_true rfl)) dX11_kind_33 ⟨Nat.le_of_ble_eq_true rfl, Nat.le_of_ble_eq_true rfl⟩) hS (fun q _ h => hFc q h) hFc (fun r4 u9 t9 H1 locs ht hvm hw hB hz1 hk1 hS => ?_)
    obtain ⟨hP1, hK1, hD1⟩ := hB
    rw [ht] at hP1
    have hK1 := va_K.moved hvm.symm hK1
    obtain ⟨hP, hD⟩ := va_join (wr := [(h0, .inr (10, [x_tape, .ref q1, x_code, x_reader, x_machine, x_length, x_latestFault, x_hasProgram, x_hasRun]))]) (w1 := []) hP hD [2, 1] [0] rfl rfl (by decide) (by decide) hk1 hFc hP1 hD1
    have hK := hK.app hK1
    generalize H1 = H at hP hS ⊢
    have hP : va_P (dC, dI) vwCl [(h0, .inr (10, [x_tape, .ref q1, x_code, x_reader, x_machine, x_length, x_latestFault, x_hasProgram, x_hasRun]))] H := hP
    have hD : va_D A [(h0, .inr (10, [x_tape, .ref q1, x_code, x_reader, x_machine, x_length, x_latestFault, x_hasProgram, x_hasRun]))] := hD
    have hK : va_K (dC, dI) vwCl [(kA, .int)] s := hK
    obtain rfl : r4 = 4 := hw
    have hP9 := hP.sub (ws' := []) [] rfl
    have hD9 := hD.sub (ws' := []) [] (by decide) rfl
    have hK9 := hK.sub (tys' := []) [] rfl
    exact W.iret (v := 4) hx hb hr (fun t ht hW => ⟨⟨4, (), rfl, (if_pos c2).symm, by rw [ht]; exact hP9, va_K.moved hW.alike hK9, hD9⟩, hS.F ht⟩) hS.2.2 dX11_kind_36
  ·
    obtain rfl : r1 = 0 := hw.trans (if_neg c2)
    refine lv_if_ne (tgt := 13) hx hb dX11_kind_8 (by decide) (fun c9 => absurd (by decide) c9) (fun _ => ?_)
    refine lv_iconst (v := (-1)) hx hb dX11_kind_11 (by decide) ?_
    have hP9 := hP.sub (ws' := []) [] rfl
    have hD9 := hD.sub (ws' := []) [] (by decide) rfl
    have hK9 := hK.sub (tys' := []) [] rfl
    exact W.iret (v := (-1)) hx hb hr (fun t ht hW => ⟨⟨(-1), (), rfl, (if_neg c2).symm, by rw [ht]; exact hP9, va_K.moved hW.alike hK9, hD9⟩, hS.F ht⟩) hS.2.2 dX11_kind_12
theorem k_X11_isKindOrNothing_fieldLink_RX11_16_SR_told_LSR_Told : Cond.fieldLink RX11 16 "StatementRules2" "told" "LStatementRules2$Told;" ∈ wzX11_isKindOrNothing := List.mem_cons_of_mem _ (List.mem_append_left _ (List.mem_of_getElem? (i := 0) rfl))
theorem i_X11_isKindOrNothing_X11 : ∀ w ∈ wsX110, w ∈ wzX11_isKindOrNothing := fun _ h => List.mem_cons_of_mem _ (List.mem_append_right _ (List.mem_append_left _ (h)))
set_option maxHeartbeats 4000000 in
set_option maxRecDepth 100000 in
theorem c_X11_isKindOrNothing (l : Launch) (dC : Nat → ClassId) (dI : Nat → Nat → Nat) (sz : Nat) (h0 : Nat) (q1 : Nat) (x_tape : Value) (x_code : Value) (x_reader : Value) (x_machine : Value) (x_length : Value) (x_latestFault : Value) (x_hasProgram : Value) (x_hasRun : Value) (x : Int32) (t_above : Value) (t_isNull : Value) (t_opening : Value) (t_closing : Value) (t_assertsOn : Value) : Met l yX11_isKindOrNothing wzX11_isKindOrNothing ({ frames := 2, cells := 0, slots := 0, locals := 120 }) (va_Pc [.ref h0, .int x] (zPre dC dI sz [(h0, .inr (10, [x_tape, .ref q1, x_code, x_reader, x_machine, x_length, x_latestFault, x_hasProgram, x_hasRun])), (q1, .inr (9, [t_above, t_isNull, t_opening, t_closing, .int 4, t_assertsOn]))] [])) (va_Qi (fun (r : Int32) (_ : Unit) => r = if x = -1 ∨ (¬ x < 0 ∧ ¬ 4 ≤ x) then 1 else 0) (fun (_ : Unit) (t : State) => zPost dC dI (va_A [(h0, .inr (10, [x_tape, .ref q1, x_code, x_reader, x_machine, x_length, x_latestFault, x_hasProgram, x_hasRun])), (q1, .inr (9, [t_above, t_isNull, t_opening, t_closing, .int 4, t_assertsOn]))] sz) [(h0, .inr (10, [x_tape, .ref q1, x_code, x_reader, x_machine, x_length, x_latestFault, x_hasProgram, x_hasRun])), (q1, .inr (9, [t_above, t_isNull, t_opening, t_closing, .int 4, t_assertsOn]))] [] t) (va_A [(h0, .inr (10, [x_tape, .ref q1, x_code, x_reader, x_machine, x_length, x_latestFault, x_hasProgram, x_hasRun])), (q1, .inr (9, [t_above, t_isNull, t_opening, t_closing, .int 4, t_assertsOn]))] sz)) 0 0 (va_A [(h0, .inr (10, [x_tape, .ref q1, x_code, x_reader, x_machine, x_length, x_latestFault, x_hasProgram, x_hasRun])), (q1, .inr (9, [t_above, t_isNull, t_opening, t_closing, .int 4, t_assertsOn]))] sz) := by
  refine Met.ofW (cc := cX11_isKindOrNothing) (maxL := 2) (ret := (some .boolean)) (by decide) rfl ?_
  intro p e s m args below meth c s₁ B hml hv
  obtain ⟨rfl, hsz, hZ, hP, hK, hD0⟩ := hv
  have hx := B.exec
  have hb := B.bytes
  have hr := B.returns
  have hts := atoms_spec (ws := wzX11_isKindOrNothing) B.pre
  have hown : s.vm.findClass RX11 = some m.cls := findClass_of_methodNamed B.named
  have hlocks := B.notSynchronized
  subst hsz
  have hD := hD0.self (sz := s.heap.size)
  generalize hAe : va_A [(h0, .inr (10, [x_tape, .ref q1, x_code, x_reader, x_machine, x_length, x_latestFault, x_hasProgram, x_hasRun])), (q1, .inr (9, [t_above, t_isNull, t_opening, t_closing, .int 4, t_assertsOn]))] s.heap.size = A at hD ⊢
  have hA : ∀ q : Nat, s.heap.size ≤ q → A q := fun q h => by rw [← hAe]; exact Or.inr h
  have hS : va_S A s.heap s.heap [] := va_S.rf
  have hP : va_P (dC, dI) vwCl [(h0, .inr (10, [x_tape, .ref q1, x_code, x_reader, x_machine, x_length, x_latestFault, x_hasProgram, x_hasRun])), (q1, .inr (9, [t_above, t_isNull, t_opening, t_closing, .int 4, t_assertsOn]))] s.heap := hP
  have hl := lv_entry ([.ref h0, .int x]) (n := 2) (Nat.le_of_ble_eq_true rfl)
  rw [lg_entry_eq]
  generalize (lg_sl ([.ref h0, .int x]) ++ List.replicate (2 - (lg_sl ([.ref h0, .int x])).length) Slot.unset).toArray = ls at hl ⊢
  have hl : lv_has ls 2 [(0, .ref h0), (1, .int x)] := hl
  refine lv_iload_n hx hb dX11_isKindOrNothing_0 rfl (lv_at hl 1 rfl) ?_
  refine lv_iconst (v := (-1)) hx hb dX11_isKindOrNothing_1 (by decide) ?_
  refine lv_icmp_eq (tgt := 16) hx hb dX11_isKindOrNothing_2 (by decide) (fun c1 => ?_) (fun c1 => ?_)
  ·
    refine lv_iconst (v := 1) hx hb dX11_isKindOrNothing_16 (by decide) ?_
    refine lv_goto (tgt := 21) hx hb dX11_isKindOrNothing_17 (by decide) ?_
    have hP9 := hP.sub (ws' := [(h0, .inr (10, [x_tape, .ref q1, x_code, x_reader, x_machine, x_length, x_latestFault, x_hasProgram, x_hasRun])), (q1, .inr (9, [t_above, t_isNull, t_opening, t_closing, .int 4, t_assertsOn]))]) [0, 1] rfl
    have hD9 := hD.sub (ws' := [(h0, .inr (10, [x_tape, .ref q1, x_code, x_reader, x_machine, x_length, x_latestFault, x_hasProgram, x_hasRun])), (q1, .inr (9, [t_above, t_isNull, t_opening, t_closing, .int 4, t_assertsOn]))]) [0, 1] (by decide) rfl
    have hK9 := hK.sub (tys' := []) [] rfl
    exact W.zret (v := 1) hx hb hr (rfl) (fun t ht hW => ⟨⟨1, (), rfl, (if_pos (Or.inl c1)).symm, by rw [ht]; exact hP9, va_K.moved hW.alike hK9, hD9⟩, hS.F ht⟩) hS.2.2 dX11_isKindOrNothing_21
  ·
    refine lv_aload_n hx hb dX11_isKindOrNothing_5 rfl (lv_at hl 0 rfl) ?_
    refine va_get (D := (dC, dI)) (ci := 10) (v := .ref q1) (C := RX11) (T := TX11) (N := 9) hx hb hts i_X11_isKindOrNothing_X11 hown hK hP 0 rfl rfl 1 (by decide) (hts (.fieldLink RX11 16 "StatementRules2" "told" "LStatementRules2$Told;") k_X11_isKindOrNothing_fieldLink_RX11_16_SR_told_LSR_Told) (fun _ h9 => h9) rfl dX11_isKindOrNothing_6 ?_
    refine lv_iload_n hx hb dX11_isKindOrNothing_9 rfl (lv_at hl 1 rfl) ?_
    have hPc := hP.sub (ws' := [(q1, .inr (9, [t_above, t_isNull, t_opening, t_closing, .int 4, t_assertsOn]))]) [1] rfl
    have hDc := hD.sub (ws' := [(q1, .inr (9, [t_above, t_isNull, t_opening, t_closing, .int 4, t_assertsOn]))]) [1] (by decide) rfl
    have hKc := hK.sub (tys' := []) [] rfl
    have hFc := va_free (wc := [(q1, .inr (9, [t_above, t_isNull, t_opening, t_closing, .int 4, t_assertsOn]))]) hD hS hA [1] rfl
    refine va_calli (va_runV (As := [.int x]) (rest := []) ⟨hx, hb, hml, hown, hts⟩ (c_X10_isKind l dC dI _ q1 x t_above t_isNull t_opening t_closing t_assertsOn) (cwV 1 hts hX11_isKindOrNothing_X10_isKind_v62 rfl rfl rfl (by decide +kernel) ⟨Nat.le_of_ble_eq_true rfl, Nat.le_of_ble_eq_true rfl⟩) ⟨zPre.blind, va_recv hKc hPc (ci := 9) (q0 := 0) rfl rfl, zPre.go hZ hPc hKc hDc⟩ rfl rfl hl.1 rfl (lv_room (Nat.le_of_ble_eq_true rfl)) dX11_isKindOrNothing_10 ⟨Nat.le_of_ble_eq_true rfl, Nat.le_of_ble_eq_true rfl⟩) hS (fun q _ h => hFc q h) hFc (fun r2 u9 t9 H1 locs ht hvm hw hB hz1 hk1 hS => ?_)
    obtain ⟨hP1, hK1, hD1⟩ := hB
    rw [ht] at hP1
    have hK1 := va_K.moved hvm.symm hK1
    obtain ⟨hP, hD⟩ := va_join (wr := [(h0, .inr (10, [x_tape, .ref q1, x_code, x_reader, x_machine, x_length, x_latestFault, x_hasProgram, x_hasRun]))]) (w1 := [(q1, .inr (9, [t_above, t_isNull, t_opening, t_closing, .int 4, t_assertsOn]))]) hP hD [1] [0] rfl rfl (by decide) (by decide) hk1 hFc hP1 hD1
    have hK := hK.app hK1
    generalize H1 = H at hP hS ⊢
    have hP : va_P (dC, dI) vwCl [(h0, .inr (10, [x_tape, .ref q1, x_code, x_reader, x_machine, x_length, x_latestFault, x_hasProgram, x_hasRun])), (q1, .inr (9, [t_above, t_isNull, t_opening, t_closing, .int 4, t_assertsOn]))] H := hP
    have hD : va_D A [(h0, .inr (10, [x_tape, .ref q1, x_code, x_reader, x_machine, x_length, x_latestFault, x_hasProgram, x_hasRun])), (q1, .inr (9, [t_above, t_isNull, t_opening, t_closing, .int 4, t_assertsOn]))] := hD
    have hK : va_K (dC, dI) vwCl [] s := hK
    by_cases c3 : ¬ x < 0 ∧ ¬ 4 ≤ x
    ·
      obtain rfl : r2 = 1 := hw.trans (if_pos c3)
      refine lv_if_eq (tgt := 20) hx hb dX11_isKindOrNothing_13 (by decide) (fun c9 => absurd c9 (by decide)) (fun _ => ?_)
      refine lv_iconst (v := 1) hx hb dX11_isKindOrNothing_16 (by decide) ?_
      refine lv_goto (tgt := 21) hx hb dX11_isKindOrNothing_17 (by decide) ?_
      have hP9 := hP.sub (ws' := [(h0, .inr (10, [x_tape, .ref q1, x_code, x_reader, x_machine, x_length, x_latestFault, x_hasProgram, x_hasRun])), (q1, .inr (9, [t_above, t_isNull, t_opening, t_closing, .int 4, t_assertsOn]))]) [0, 1] rfl
      have hD9 := hD.sub (ws' := [(h0, .inr (10, [x_tape, .ref q1, x_code, x_reader, x_machine, x_length, x_latestFault, x_hasProgram, x_hasRun])), (q1, .inr (9, [t_above, t_isNull, t_opening, t_closing, .int 4, t_assertsOn]))]) [0, 1] (by decide) rfl
      have hK9 := hK.sub (tys' := []) [] rfl
      exact W.zret (v := 1) hx hb hr (rfl) (fun t ht hW => ⟨⟨1, (), rfl, (if_pos (Or.inr c3)).symm, by rw [ht]; exact hP9, va_K.moved hW.alike hK9, hD9⟩, hS.F ht⟩) hS.2.2 dX11_isKindOrNothing_21
    ·
      obtain rfl : r2 = 0 := hw.trans (if_neg c3)
      refine lv_if_eq (tgt := 20) hx hb dX11_isKindOrNothing_13 (by decide) (fun _ => ?_) (fun c9 => absurd (by decide) c9)
      refine lv_iconst (v := 0) hx hb dX11_isKindOrNothing_20 (by decide) ?_
      have hP9 := hP.sub (ws' := [(h0, .inr (10, [x_tape, .ref q1, x_code, x_reader, x_machine, x_length, x_latestFault, x_hasProgram, x_hasRun])), (q1, .inr (9, [t_above, t_isNull, t_opening, t_closing, .int 4, t_assertsOn]))]) [0, 1] rfl
      have hD9 := hD.sub (ws' := [(h0, .inr (10, [x_tape, .ref q1, x_code, x_reader, x_machine, x_length, x_latestFault, x_hasProgram, x_hasRun])), (q1, .inr (9, [t_above, t_isNull, t_opening, t_closing, .int 4, t_assertsOn]))]) [0, 1] (by decide) rfl
      have hK9 := hK.sub (tys' := []) [] rfl
      exact W.zret (v := 0) hx hb hr (rfl) (fun t ht hW => ⟨⟨0, (), rfl, (if_neg (fun h => h.elim c1 c3)).symm, by rw [ht]; exact hP9, va_K.moved hW.alike hK9, hD9⟩, hS.F ht⟩) hS.2.2 dX11_isKindOrNothing_21
theorem k_X10_tellResource_fieldLink_RX10_15_SR_Told_isNull_I : Cond.fieldLink RX10 15 "StatementRules2$Told" "isNull" "[I" ∈ wzX10_tellResource := List.mem_cons_of_mem _ (List.mem_append_left _ (List.mem_of_getElem? (i := 0) rfl))
theorem i_X10_tellResource_X10 : ∀ w ∈ wsX100, w ∈ wzX10_tellResource := fun _ h => List.mem_cons_of_mem _ (List.mem_append_right _ (List.mem_append_left _ (h)))
theorem k_X10_tellResource_initialized_RX11 : Cond.initialized RX11 ∈ wzX10_tellResource := List.mem_cons_of_mem _ (List.mem_append_left _ (List.mem_of_getElem? (i := 1) rfl))
theorem k_X10_tellResource_static_yX11_put : Cond.static yX11_put ∈ wzX10_tellResource := List.mem_cons_of_mem _ (List.mem_append_left _ (List.mem_of_getElem? (i := 2) rfl))
theorem k_X10_tellResource_fieldLink_RX10_18_SR_Told_opening_I : Cond.fieldLink RX10 18 "StatementRules2$Told" "opening" "[I" ∈ wzX10_tellResource := List.mem_cons_of_mem _ (List.mem_append_left _ (List.mem_of_getElem? (i := 3) rfl))
theorem k_X10_tellResource_fieldLink_RX10_21_SR_Told_closing_I : Cond.fieldLink RX10 21 "StatementRules2$Told" "closing" "[I" ∈ wzX10_tellResource := List.mem_cons_of_mem _ (List.mem_append_left _ (List.mem_of_getElem? (i := 4) rfl))
set_option maxHeartbeats 4000000 in
set_option maxRecDepth 100000 in
theorem c_X10_tellResource (l : Launch) (dC : Nat → ClassId) (dI : Nat → Nat → Nat) (sz : Nat) (h0 : Nat) (x : Int32) (y : Int32) (z : Int32) (w : Int32) (t_above : Value) (t_kindCount : Value) (t_assertsOn : Value) (qn : Nat) (kn : ClassId) (fn : Nat → Int32) (qo : Nat) (ko : ClassId) (fo : Nat → Int32) (qc : Nat) (kc : ClassId) (fc : Nat → Int32) (h1 : ¬ x < 0) (h2 : ¬ (Int32.ofNat 8) ≤ x) (h3 : vp_in x 8) : Met l yX10_tellResource wzX10_tellResource ({ frames := 2, cells := 0, slots := 0, locals := 120 }) (va_Pc [.ref h0, .int x, .int y, .int z, .int w] (zPre dC dI sz [(h0, .inr (9, [t_above, .ref qn, .ref qo, .ref qc, t_kindCount, t_assertsOn])), (qn, .inl (kn, 8, .inl fn)), (qo, .inl (ko, 8, .inl fo)), (qc, .inl (kc, 8, .inl fc))] [(kn, .int), (ko, .int), (kc, .int)])) (va_Qv (fun (_ : Unit) => True) (fun (_ : Unit) (t : State) => zPost dC dI (va_A [(h0, .inr (9, [t_above, .ref qn, .ref qo, .ref qc, t_kindCount, t_assertsOn])), (qn, .inl (kn, 8, .inl fn)), (qo, .inl (ko, 8, .inl fo)), (qc, .inl (kc, 8, .inl fc))] sz) [] [] t) (va_A [(h0, .inr (9, [t_above, .ref qn, .ref qo, .ref qc, t_kindCount, t_assertsOn])), (qn, .inl (kn, 8, .inl fn)), (qo, .inl (ko, 8, .inl fo)), (qc, .inl (kc, 8, .inl fc))] sz)) 0 0 (va_A [(h0, .inr (9, [t_above, .ref qn, .ref qo, .ref qc, t_kindCount, t_assertsOn])), (qn, .inl (kn, 8, .inl fn)), (qo, .inl (ko, 8, .inl fo)), (qc, .inl (kc, 8, .inl fc))] sz) := by
  refine Met.ofW (cc := cX10_tellResource) (maxL := 5) (ret := none) (by decide) rfl ?_
  intro p e s m args below meth c s₁ B hml hv
  obtain ⟨rfl, hsz, hZ, hP, hK, hD0⟩ := hv
  have hx := B.exec
  have hb := B.bytes
  have hr := B.returns
  have hts := atoms_spec (ws := wzX10_tellResource) B.pre
  have hown : s.vm.findClass RX10 = some m.cls := findClass_of_methodNamed B.named
  have hlocks := B.notSynchronized
  subst hsz
  have hD := hD0.self (sz := s.heap.size)
  generalize hAe : va_A [(h0, .inr (9, [t_above, .ref qn, .ref qo, .ref qc, t_kindCount, t_assertsOn])), (qn, .inl (kn, 8, .inl fn)), (qo, .inl (ko, 8, .inl fo)), (qc, .inl (kc, 8, .inl fc))] s.heap.size = A at hD ⊢
  have hA : ∀ q : Nat, s.heap.size ≤ q → A q := fun q h => by rw [← hAe]; exact Or.inr h
  have hS : va_S A s.heap s.heap [] := va_S.rf
  have hP : va_P (dC, dI) vwCl [(h0, .inr (9, [t_above, .ref qn, .ref qo, .ref qc, t_kindCount, t_assertsOn])), (qn, .inl (kn, 8, .inl fn)), (qo, .inl (ko, 8, .inl fo)), (qc, .inl (kc, 8, .inl fc))] s.heap := hP
  have hl := lv_entry ([.ref h0, .int x, .int y, .int z, .int w]) (n := 5) (Nat.le_of_ble_eq_true rfl)
  rw [lg_entry_eq]
  generalize (lg_sl ([.ref h0, .int x, .int y, .int z, .int w]) ++ List.replicate (5 - (lg_sl ([.ref h0, .int x, .int y, .int z, .int w])).length) Slot.unset).toArray = ls at hl ⊢
  have hl : lv_has ls 5 [(0, .ref h0), (1, .int x), (2, .int y), (3, .int z), (4, .int w)] := hl
  refine lv_aload_n hx hb dX10_tellResource_0 rfl (lv_at hl 0 rfl) ?_
  refine va_get (D := (dC, dI)) (ci := 9) (v := .ref qn) (C := RX10) (T := TX10) (N := 6) hx hb hts i_X10_tellResource_X10 hown hK hP 0 rfl rfl 1 (by decide) (hts (.fieldLink RX10 15 "StatementRules2$Told" "isNull" "[I") k_X10_tellResource_fieldLink_RX10_15_SR_Told_isNull_I) (fun _ h9 => h9) rfl dX10_tellResource_1 ?_
  refine lv_iload_n hx hb dX10_tellResource_4 rfl (lv_at hl 1 rfl) ?_
  refine lv_iload_n hx hb dX10_tellResource_5 rfl (lv_at hl 2 rfl) ?_
  have hPc := hP.sub (ws' := [(qn, .inl (kn, 8, .inl fn))]) [1] rfl
  have hDc := hD.sub (ws' := [(qn, .inl (kn, 8, .inl fn))]) [1] (by decide) rfl
  have hKc := hK.sub (tys' := [(kn, .int)]) [0] rfl
  have hFc := va_free (wc := [(qn, .inl (kn, 8, .inl fn))]) hD hS hA [1] rfl
  refine va_callv (va_runSN (As := [.ref qn, .int x, .int y]) (rest := []) ⟨hx, hb, hml, hown, hts⟩ (c_X11_put l dC dI _ qn kn 8 fn x y h1 h2 h3) ⟨va_cnB 3 hts hX10_tellResource_X11_put_n28 rfl rfl rfl (hZ.1 (.methodLinkNest RX10 28 yX11_put "StatementRules2") (by decide +kernel)) (hts (.initialized RX11) k_X10_tellResource_initialized_RX11) (by decide +kernel) ⟨Nat.le_of_ble_eq_true rfl, Nat.le_of_ble_eq_true rfl⟩, (hts (.static yX11_put) k_X10_tellResource_static_yX11_put), trivial⟩ ⟨zPre.blind, zPre.go hZ hPc hKc hDc⟩ rfl rfl hl.1 rfl (lv_room (Nat.le_of_ble_eq_true rfl)) dX10_tellResource_6 ⟨Nat.le_of_ble_eq_true rfl, Nat.le_of_ble_eq_true rfl⟩) hS (fun q _ h => hFc q h) hFc (fun u9 t9 H1 locs ht hvm hw hB hz1 hk1 hS => ?_)
  obtain ⟨g_2, hP1, hK1, hD1⟩ := hB
  rw [ht] at hP1
  have hK1 := va_K.moved hvm.symm hK1
  obtain ⟨hP, hD⟩ := va_join (wr := [(h0, .inr (9, [t_above, .ref qn, .ref qo, .ref qc, t_kindCount, t_assertsOn])), (qo, .inl (ko, 8, .inl fo)), (qc, .inl (kc, 8, .inl fc))]) (w1 := [(qn, .inl (kn, 8, .inl g_2))]) hP hD [1] [0, 2, 3] rfl rfl (by decide) (by decide) hk1 hFc hP1 hD1
  have hK := hK.app hK1
  generalize H1 = H at hP hS ⊢
  have hP : va_P (dC, dI) vwCl [(h0, .inr (9, [t_above, .ref qn, .ref qo, .ref qc, t_kindCount, t_assertsOn])), (qo, .inl (ko, 8, .inl fo)), (qc, .inl (kc, 8, .inl fc)), (qn, .inl (kn, 8, .inl g_2))] H := hP
  have hD : va_D A [(h0, .inr (9, [t_above, .ref qn, .ref qo, .ref qc, t_kindCount, t_assertsOn])), (qo, .inl (ko, 8, .inl fo)), (qc, .inl (kc, 8, .inl fc)), (qn, .inl (kn, 8, .inl g_2))] := hD
  have hK : va_K (dC, dI) vwCl [(kn, .int), (ko, .int), (kc, .int), (kn, .int)] s := hK
  have hK : va_K (dC, dI) vwCl [(kn, .int), (ko, .int), (kc, .int)] s := hK.sub [0, 1, 2] rfl
  refine lv_aload_n hx hb dX10_tellResource_9 rfl (lv_at hl 0 rfl) ?_
  refine va_get (D := (dC, dI)) (ci := 9) (v := .ref qo) (C := RX10) (T := TX10) (N := 6) hx hb hts i_X10_tellResource_X10 hown hK hP 0 rfl rfl 2 (by decide) (hts (.fieldLink RX10 18 "StatementRules2$Told" "opening" "[I") k_X10_tellResource_fieldLink_RX10_18_SR_Told_opening_I) (fun _ h9 => h9) rfl dX10_tellResource_10 ?_
  refine lv_iload_n hx hb dX10_tellResource_13 rfl (lv_at hl 1 rfl) ?_
  refine lv_iload_n hx hb dX10_tellResource_14 rfl (lv_at hl 3 rfl) ?_
  have hPc := hP.sub (ws' := [(qo, .inl (ko, 8, .inl fo))]) [1] rfl
  have hDc := hD.sub (ws' := [(qo, .inl (ko, 8, .inl fo))]) [1] (by decide) rfl
  have hKc := hK.sub (tys' := [(ko, .int)]) [1] rfl
  have hFc := va_free (wc := [(qo, .inl (ko, 8, .inl fo))]) hD hS hA [1] rfl
  refine va_callv (va_runSN (As := [.ref qo, .int x, .int z]) (rest := []) ⟨hx, hb, hml, hown, hts⟩ (c_X11_put l dC dI _ qo ko 8 fo x z h1 h2 h3) ⟨va_cnB 3 hts hX10_tellResource_X11_put_n28 rfl rfl rfl (hZ.1 (.methodLinkNest RX10 28 yX11_put "StatementRules2") (by decide +kernel)) (hts (.initialized RX11) k_X10_tellResource_initialized_RX11) (by decide +kernel) ⟨Nat.le_of_ble_eq_true rfl, Nat.le_of_ble_eq_true rfl⟩, (hts (.static yX11_put) k_X10_tellResource_static_yX11_put), trivial⟩ ⟨zPre.blind, zPre.go hZ hPc hKc hDc⟩ rfl rfl hl.1 rfl (lv_room (Nat.le_of_ble_eq_true rfl)) dX10_tellResource_15 ⟨Nat.le_of_ble_eq_true rfl, Nat.le_of_ble_eq_true rfl⟩) hS (fun q _ h => hFc q h) hFc (fun u9 t9 H1 locs ht hvm hw hB hz1 hk1 hS => ?_)
  obtain ⟨g_4, hP1, hK1, hD1⟩ := hB
  rw [ht] at hP1
  have hK1 := va_K.moved hvm.symm hK1
  obtain ⟨hP, hD⟩ := va_join (wr := [(h0, .inr (9, [t_above, .ref qn, .ref qo, .ref qc, t_kindCount, t_assertsOn])), (qc, .inl (kc, 8, .inl fc)), (qn, .inl (kn, 8, .inl g_2))]) (w1 := [(qo, .inl (ko, 8, .inl g_4))]) hP hD [1] [0, 2, 3] rfl rfl (by decide) (by decide) hk1 hFc hP1 hD1
  have hK := hK.app hK1
  generalize H1 = H at hP hS ⊢
  have hP : va_P (dC, dI) vwCl [(h0, .inr (9, [t_above, .ref qn, .ref qo, .ref qc, t_kindCount, t_assertsOn])), (qc, .inl (kc, 8, .inl fc)), (qn, .inl (kn, 8, .inl g_2)), (qo, .inl (ko, 8, .inl g_4))] H := hP
  have hD : va_D A [(h0, .inr (9, [t_above, .ref qn, .ref qo, .ref qc, t_kindCount, t_assertsOn])), (qc, .inl (kc, 8, .inl fc)), (qn, .inl (kn, 8, .inl g_2)), (qo, .inl (ko, 8, .inl g_4))] := hD
  have hK : va_K (dC, dI) vwCl [(kn, .int), (ko, .int), (kc, .int), (ko, .int)] s := hK
  have hK : va_K (dC, dI) vwCl [(kn, .int), (ko, .int), (kc, .int)] s := hK.sub [0, 1, 2] rfl
  refine lv_aload_n hx hb dX10_tellResource_18 rfl (lv_at hl 0 rfl) ?_
  refine va_get (D := (dC, dI)) (ci := 9) (v := .ref qc) (C := RX10) (T := TX10) (N := 6) hx hb hts i_X10_tellResource_X10 hown hK hP 0 rfl rfl 3 (by decide) (hts (.fieldLink RX10 21 "StatementRules2$Told" "closing" "[I") k_X10_tellResource_fieldLink_RX10_21_SR_Told_closing_I) (fun _ h9 => h9) rfl dX10_tellResource_19 ?_
  refine lv_iload_n hx hb dX10_tellResource_22 rfl (lv_at hl 1 rfl) ?_
  refine lv_iload hx hb dX10_tellResource_23 (lv_at hl 4 rfl) ?_
  have hPc := hP.sub (ws' := [(qc, .inl (kc, 8, .inl fc))]) [1] rfl
  have hDc := hD.sub (ws' := [(qc, .inl (kc, 8, .inl fc))]) [1] (by decide) rfl
  have hKc := hK.sub (tys' := [(kc, .int)]) [2] rfl
  have hFc := va_free (wc := [(qc, .inl (kc, 8, .inl fc))]) hD hS hA [1] rfl
  refine va_callv (va_runSN (As := [.ref qc, .int x, .int w]) (rest := []) ⟨hx, hb, hml, hown, hts⟩ (c_X11_put l dC dI _ qc kc 8 fc x w h1 h2 h3) ⟨va_cnB 3 hts hX10_tellResource_X11_put_n28 rfl rfl rfl (hZ.1 (.methodLinkNest RX10 28 yX11_put "StatementRules2") (by decide +kernel)) (hts (.initialized RX11) k_X10_tellResource_initialized_RX11) (by decide +kernel) ⟨Nat.le_of_ble_eq_true rfl, Nat.le_of_ble_eq_true rfl⟩, (hts (.static yX11_put) k_X10_tellResource_static_yX11_put), trivial⟩ ⟨zPre.blind, zPre.go hZ hPc hKc hDc⟩ rfl rfl hl.1 rfl (lv_room (Nat.le_of_ble_eq_true rfl)) dX10_tellResource_25 ⟨Nat.le_of_ble_eq_true rfl, Nat.le_of_ble_eq_true rfl⟩) hS (fun q _ h => hFc q h) hFc (fun u9 t9 H1 locs ht hvm hw hB hz1 hk1 hS => ?_)
  obtain ⟨g_6, hP1, hK1, hD1⟩ := hB
  rw [ht] at hP1
  have hK1 := va_K.moved hvm.symm hK1
  obtain ⟨hP, hD⟩ := va_join (wr := [(h0, .inr (9, [t_above, .ref qn, .ref qo, .ref qc, t_kindCount, t_assertsOn])), (qn, .inl (kn, 8, .inl g_2)), (qo, .inl (ko, 8, .inl g_4))]) (w1 := [(qc, .inl (kc, 8, .inl g_6))]) hP hD [1] [0, 2, 3] rfl rfl (by decide) (by decide) hk1 hFc hP1 hD1
  have hK := hK.app hK1
  generalize H1 = H at hP hS ⊢
  have hP : va_P (dC, dI) vwCl [(h0, .inr (9, [t_above, .ref qn, .ref qo, .ref qc, t_kindCount, t_assertsOn])), (qn, .inl (kn, 8, .inl g_2)), (qo, .inl (ko, 8, .inl g_4)), (qc, .inl (kc, 8, .inl g_6))] H := hP
  have hD : va_D A [(h0, .inr (9, [t_above, .ref qn, .ref qo, .ref qc, t_kindCount, t_assertsOn])), (qn, .inl (kn, 8, .inl g_2)), (qo, .inl (ko, 8, .inl g_4)), (qc, .inl (kc, 8, .inl g_6))] := hD
  have hK : va_K (dC, dI) vwCl [(kn, .int), (ko, .int), (kc, .int), (kc, .int)] s := hK
  have hK : va_K (dC, dI) vwCl [(kn, .int), (ko, .int), (kc, .int)] s := hK.sub [0, 1, 2] rfl
  have hP9 := hP.sub (ws' := []) [] rfl
  have hD9 := hD.sub (ws' := []) [] (by decide) rfl
  have hK9 := hK.sub (tys' := []) [] rfl
  exact W.vret hx hb hr (fun t ht hW => ⟨⟨(), rfl, trivial, by rw [ht]; exact hP9, va_K.moved hW.alike hK9, hD9⟩, hS.F ht⟩) hS.2.2 dX10_tellResource_28
theorem k_X11_resource_fieldLink_RX11_16_SR_told_LSR_Told : Cond.fieldLink RX11 16 "StatementRules2" "told" "LStatementRules2$Told;" ∈ wzX11_resource := List.mem_cons_of_mem _ (List.mem_append_left _ (List.mem_of_getElem? (i := 0) rfl))
theorem i_X11_resource_X11 : ∀ w ∈ wsX110, w ∈ wzX11_resource := fun _ h => List.mem_cons_of_mem _ (List.mem_append_right _ (List.mem_append_left _ (h)))
set_option maxHeartbeats 4000000 in
set_option maxRecDepth 100000 in
theorem c_X11_resource (l : Launch) (dC : Nat → ClassId) (dI : Nat → Nat → Nat) (sz : Nat) (h0 : Nat) (q1 : Nat) (x_tape : Value) (x_code : Value) (x_reader : Value) (x_machine : Value) (x_length : Value) (x_latestFault : Value) (x_hasProgram : Value) (x_hasRun : Value) (x : Int32) (y : Int32) (o : Int32) (c9 : Int32) (t_above : Value) (t_assertsOn : Value) (qn : Nat) (kn : ClassId) (fn : Nat → Int32) (qo : Nat) (ko : ClassId) (fo : Nat → Int32) (qc : Nat) (kc : ClassId) (fc : Nat → Int32) : Met l yX11_resource wzX11_resource ({ frames := 3, cells := 0, slots := 0, locals := 180 }) (va_Pc [.ref h0, .int x, .int y, .int o, .int c9] (zPre dC dI sz [(h0, .inr (10, [x_tape, .ref q1, x_code, x_reader, x_machine, x_length, x_latestFault, x_hasProgram, x_hasRun])), (q1, .inr (9, [t_above, .ref qn, .ref qo, .ref qc, .int 4, t_assertsOn])), (qn, .inl (kn, 8, .inl fn)), (qo, .inl (ko, 8, .inl fo)), (qc, .inl (kc, 8, .inl fc))] [(kn, .int), (ko, .int), (kc, .int)])) (va_Qi (fun (r : Int32) (_ : Unit) => r = if ¬ x < 0 ∧ ¬ 8 ≤ x ∧ ¬ y < 0 ∧ y ≤ 1 ∧ (o = -1 ∨ (¬ o < 0 ∧ ¬ 4 ≤ o)) ∧ (c9 = -1 ∨ (¬ c9 < 0 ∧ ¬ 4 ≤ c9)) then 1 else -1) (fun (_ : Unit) (t : State) => zPost dC dI (va_A [(h0, .inr (10, [x_tape, .ref q1, x_code, x_reader, x_machine, x_length, x_latestFault, x_hasProgram, x_hasRun])), (q1, .inr (9, [t_above, .ref qn, .ref qo, .ref qc, .int 4, t_assertsOn])), (qn, .inl (kn, 8, .inl fn)), (qo, .inl (ko, 8, .inl fo)), (qc, .inl (kc, 8, .inl fc))] sz) [] [] t) (va_A [(h0, .inr (10, [x_tape, .ref q1, x_code, x_reader, x_machine, x_length, x_latestFault, x_hasProgram, x_hasRun])), (q1, .inr (9, [t_above, .ref qn, .ref qo, .ref qc, .int 4, t_assertsOn])), (qn, .inl (kn, 8, .inl fn)), (qo, .inl (ko, 8, .inl fo)), (qc, .inl (kc, 8, .inl fc))] sz)) 0 0 (va_A [(h0, .inr (10, [x_tape, .ref q1, x_code, x_reader, x_machine, x_length, x_latestFault, x_hasProgram, x_hasRun])), (q1, .inr (9, [t_above, .ref qn, .ref qo, .ref qc, .int 4, t_assertsOn])), (qn, .inl (kn, 8, .inl fn)), (qo, .inl (ko, 8, .inl fo)), (qc, .inl (kc, 8, .inl fc))] sz) := by
  refine Met.ofW (cc := cX11_resource) (maxL := 5) (ret := (some .int)) (by decide) rfl ?_
  intro p e s m args below meth c s₁ B hml hv
  obtain ⟨rfl, hsz, hZ, hP, hK, hD0⟩ := hv
  have hx := B.exec
  have hb := B.bytes
  have hr := B.returns
  have hts := atoms_spec (ws := wzX11_resource) B.pre
  have hown : s.vm.findClass RX11 = some m.cls := findClass_of_methodNamed B.named
  have hlocks := B.notSynchronized
  subst hsz
  have hD := hD0.self (sz := s.heap.size)
  generalize hAe : va_A [(h0, .inr (10, [x_tape, .ref q1, x_code, x_reader, x_machine, x_length, x_latestFault, x_hasProgram, x_hasRun])), (q1, .inr (9, [t_above, .ref qn, .ref qo, .ref qc, .int 4, t_assertsOn])), (qn, .inl (kn, 8, .inl fn)), (qo, .inl (ko, 8, .inl fo)), (qc, .inl (kc, 8, .inl fc))] s.heap.size = A at hD ⊢
  have hA : ∀ q : Nat, s.heap.size ≤ q → A q := fun q h => by rw [← hAe]; exact Or.inr h
  have hS : va_S A s.heap s.heap [] := va_S.rf
  have hP : va_P (dC, dI) vwCl [(h0, .inr (10, [x_tape, .ref q1, x_code, x_reader, x_machine, x_length, x_latestFault, x_hasProgram, x_hasRun])), (q1, .inr (9, [t_above, .ref qn, .ref qo, .ref qc, .int 4, t_assertsOn])), (qn, .inl (kn, 8, .inl fn)), (qo, .inl (ko, 8, .inl fo)), (qc, .inl (kc, 8, .inl fc))] s.heap := hP
  have hl := lv_entry ([.ref h0, .int x, .int y, .int o, .int c9]) (n := 5) (Nat.le_of_ble_eq_true rfl)
  rw [lg_entry_eq]
  generalize (lg_sl ([.ref h0, .int x, .int y, .int o, .int c9]) ++ List.replicate (5 - (lg_sl ([.ref h0, .int x, .int y, .int o, .int c9])).length) Slot.unset).toArray = ls at hl ⊢
  have hl : lv_has ls 5 [(0, .ref h0), (1, .int x), (2, .int y), (3, .int o), (4, .int c9)] := hl
  refine lv_iload_n hx hb dX11_resource_0 rfl (lv_at hl 1 rfl) ?_
  refine lv_if_lt (tgt := 19) hx hb dX11_resource_1 (by decide) (fun c1 => ?_) (fun c1 => ?_)
  ·
    refine lv_iconst (v := (-1)) hx hb dX11_resource_19 (by decide) ?_
    have hP9 := hP.sub (ws' := []) [] rfl
    have hD9 := hD.sub (ws' := []) [] (by decide) rfl
    have hK9 := hK.sub (tys' := []) [] rfl
    exact W.iret (v := (-1)) hx hb hr (fun t ht hW => ⟨⟨(-1), (), rfl, (if_neg (fun h => h.1 c1)).symm, by rw [ht]; exact hP9, va_K.moved hW.alike hK9, hD9⟩, hS.F ht⟩) hS.2.2 dX11_resource_20
  ·
    refine lv_iload_n hx hb dX11_resource_4 rfl (lv_at hl 1 rfl) ?_
    refine lv_bipush (v := 8) hx hb dX11_resource_5 (by decide) ?_
    refine lv_icmp_ge (tgt := 19) hx hb dX11_resource_7 (by decide) (fun c2 => ?_) (fun c2 => ?_)
    ·
      refine lv_iconst (v := (-1)) hx hb dX11_resource_19 (by decide) ?_
      have hP9 := hP.sub (ws' := []) [] rfl
      have hD9 := hD.sub (ws' := []) [] (by decide) rfl
      have hK9 := hK.sub (tys' := []) [] rfl
      exact W.iret (v := (-1)) hx hb hr (fun t ht hW => ⟨⟨(-1), (), rfl, (if_neg (fun h => h.2.1 c2)).symm, by rw [ht]; exact hP9, va_K.moved hW.alike hK9, hD9⟩, hS.F ht⟩) hS.2.2 dX11_resource_20
    ·
      refine lv_iload_n hx hb dX11_resource_10 rfl (lv_at hl 2 rfl) ?_
      refine lv_if_lt (tgt := 19) hx hb dX11_resource_11 (by decide) (fun c3 => ?_) (fun c3 => ?_)
      ·
        refine lv_iconst (v := (-1)) hx hb dX11_resource_19 (by decide) ?_
        have hP9 := hP.sub (ws' := []) [] rfl
        have hD9 := hD.sub (ws' := []) [] (by decide) rfl
        have hK9 := hK.sub (tys' := []) [] rfl
        exact W.iret (v := (-1)) hx hb hr (fun t ht hW => ⟨⟨(-1), (), rfl, (if_neg (fun h => h.2.2.1 c3)).symm, by rw [ht]; exact hP9, va_K.moved hW.alike hK9, hD9⟩, hS.F ht⟩) hS.2.2 dX11_resource_20
      ·
        refine lv_iload_n hx hb dX11_resource_14 rfl (lv_at hl 2 rfl) ?_
        refine lv_iconst (v := 1) hx hb dX11_resource_15 (by decide) ?_
        refine lv_icmp_le (tgt := 21) hx hb dX11_resource_16 (by decide) (fun c4 => ?_) (fun c4 => ?_)
        ·
          refine lv_aload_n hx hb dX11_resource_21 rfl (lv_at hl 0 rfl) ?_
          refine lv_iload_n hx hb dX11_resource_22 rfl (lv_at hl 3 rfl) ?_
          have hPc := hP.sub (ws' := [(h0, .inr (10, [x_tape, .ref q1, x_code, x_reader, x_machine, x_length, x_latestFault, x_hasProgram, x_hasRun])), (q1, .inr (9, [t_above, .ref qn, .ref qo, .ref qc, .int 4, t_assertsOn]))]) [0, 1] rfl
          have hDc := hD.sub (ws' := [(h0, .inr (10, [x_tape, .ref q1, x_code, x_reader, x_machine, x_length, x_latestFault, x_hasProgram, x_hasRun])), (q1, .inr (9, [t_above, .ref qn, .ref qo, .ref qc, .int 4, t_assertsOn]))]) [0, 1] (by decide) rfl
          have hKc := hK.sub (tys' := []) [] rfl
          have hFc := va_free (wc := [(h0, .inr (10, [x_tape, .ref q1, x_code, x_reader, x_machine, x_length, x_latestFault, x_hasProgram, x_hasRun])), (q1, .inr (9, [t_above, .ref qn, .ref qo, .ref qc, .int 4, t_assertsOn]))]) hD hS hA [0, 1] rfl
          refine va_calli (va_runV (As := [.int o]) (rest := []) ⟨hx, hb, hml, hown, hts⟩ (c_X11_isKindOrNothing l dC dI _ h0 q1 x_tape x_code x_reader x_machine x_length x_latestFault x_hasProgram x_hasRun o t_above (.ref qn) (.ref qo) (.ref qc) t_assertsOn) (cwV 1 hts hX11_resource_X11_isKindOrNothing_v74 rfl rfl rfl (by decide +kernel) ⟨Nat.le_of_ble_eq_true rfl, Nat.le_of_ble_eq_true rfl⟩) ⟨zPre.blind, va_recv hKc hPc (ci := 10) (q0 := 0) rfl rfl, zPre.go hZ hPc hKc hDc⟩ rfl rfl hl.1 rfl (lv_room (Nat.le_of_ble_eq_true rfl)) dX11_resource_23 ⟨Nat.le_of_ble_eq_true rfl, Nat.le_of_ble_eq_true rfl⟩) hS (fun q _ h => hFc q h) hFc (fun r5 u9 t9 H1 locs ht hvm hw hB hz1 hk1 hS => ?_)
          obtain ⟨hP1, hK1, hD1⟩ := hB
          rw [ht] at hP1
          have hK1 := va_K.moved hvm.symm hK1
          obtain ⟨hP, hD⟩ := va_join (wr := [(qn, .inl (kn, 8, .inl fn)), (qo, .inl (ko, 8, .inl fo)), (qc, .inl (kc, 8, .inl fc))]) (w1 := [(h0, .inr (10, [x_tape, .ref q1, x_code, x_reader, x_machine, x_length, x_latestFault, x_hasProgram, x_hasRun])), (q1, .inr (9, [t_above, .ref qn, .ref qo, .ref qc, .int 4, t_assertsOn]))]) hP hD [0, 1] [2, 3, 4] rfl rfl (by decide) (by decide) hk1 hFc hP1 hD1
          have hK := hK.app hK1
          generalize H1 = H at hP hS ⊢
          have hP : va_P (dC, dI) vwCl [(qn, .inl (kn, 8, .inl fn)), (qo, .inl (ko, 8, .inl fo)), (qc, .inl (kc, 8, .inl fc)), (h0, .inr (10, [x_tape, .ref q1, x_code, x_reader, x_machine, x_length, x_latestFault, x_hasProgram, x_hasRun])), (q1, .inr (9, [t_above, .ref qn, .ref qo, .ref qc, .int 4, t_assertsOn]))] H := hP
          have hD : va_D A [(qn, .inl (kn, 8, .inl fn)), (qo, .inl (ko, 8, .inl fo)), (qc, .inl (kc, 8, .inl fc)), (h0, .inr (10, [x_tape, .ref q1, x_code, x_reader, x_machine, x_length, x_latestFault, x_hasProgram, x_hasRun])), (q1, .inr (9, [t_above, .ref qn, .ref qo, .ref qc, .int 4, t_assertsOn]))] := hD
          have hK : va_K (dC, dI) vwCl [(kn, .int), (ko, .int), (kc, .int)] s := hK
          by_cases c6 : o = -1 ∨ (¬ o < 0 ∧ ¬ 4 ≤ o)
          ·
            obtain rfl : r5 = 1 := hw.trans (if_pos c6)
            refine lv_if_eq (tgt := 38) hx hb dX11_resource_26 (by decide) (fun c9 => absurd c9 (by decide)) (fun _ => ?_)
            refine lv_aload_n hx hb dX11_resource_29 rfl (lv_at hl 0 rfl) ?_
            refine lv_iload hx hb dX11_resource_30 (lv_at hl 4 rfl) ?_
            have hPc := hP.sub (ws' := [(h0, .inr (10, [x_tape, .ref q1, x_code, x_reader, x_machine, x_length, x_latestFault, x_hasProgram, x_hasRun])), (q1, .inr (9, [t_above, .ref qn, .ref qo, .ref qc, .int 4, t_assertsOn]))]) [3, 4] rfl
            have hDc := hD.sub (ws' := [(h0, .inr (10, [x_tape, .ref q1, x_code, x_reader, x_machine, x_length, x_latestFault, x_hasProgram, x_hasRun])), (q1, .inr (9, [t_above, .ref qn, .ref qo, .ref qc, .int 4, t_assertsOn]))]) [3, 4] (by decide) rfl
            have hKc := hK.sub (tys' := []) [] rfl
            have hFc := va_free (wc := [(h0, .inr (10, [x_tape, .ref q1, x_code, x_reader, x_machine, x_length, x_latestFault, x_hasProgram, x_hasRun])), (q1, .inr (9, [t_above, .ref qn, .ref qo, .ref qc, .int 4, t_assertsOn]))]) hD hS hA [3, 4] rfl
            refine va_calli (va_runV (As := [.int c9]) (rest := []) ⟨hx, hb, hml, hown, hts⟩ (c_X11_isKindOrNothing l dC dI _ h0 q1 x_tape x_code x_reader x_machine x_length x_latestFault x_hasProgram x_hasRun c9 t_above (.ref qn) (.ref qo) (.ref qc) t_assertsOn) (cwV 1 hts hX11_resource_X11_isKindOrNothing_v74 rfl rfl rfl (by decide +kernel) ⟨Nat.le_of_ble_eq_true rfl, Nat.le_of_ble_eq_true rfl⟩) ⟨zPre.blind, va_recv hKc hPc (ci := 10) (q0 := 0) rfl rfl, zPre.go hZ hPc hKc hDc⟩ rfl rfl hl.1 rfl (lv_room (Nat.le_of_ble_eq_true rfl)) dX11_resource_32 ⟨Nat.le_of_ble_eq_true rfl, Nat.le_of_ble_eq_true rfl⟩) hS (fun q _ h => hFc q h) hFc (fun r7 u9 t9 H1 locs ht hvm hw hB hz1 hk1 hS => ?_)
            obtain ⟨hP1, hK1, hD1⟩ := hB
            rw [ht] at hP1
            have hK1 := va_K.moved hvm.symm hK1
            obtain ⟨hP, hD⟩ := va_join (wr := [(qn, .inl (kn, 8, .inl fn)), (qo, .inl (ko, 8, .inl fo)), (qc, .inl (kc, 8, .inl fc))]) (w1 := [(h0, .inr (10, [x_tape, .ref q1, x_code, x_reader, x_machine, x_length, x_latestFault, x_hasProgram, x_hasRun])), (q1, .inr (9, [t_above, .ref qn, .ref qo, .ref qc, .int 4, t_assertsOn]))]) hP hD [3, 4] [0, 1, 2] rfl rfl (by decide) (by decide) hk1 hFc hP1 hD1
            have hK := hK.app hK1
            generalize H1 = H at hP hS ⊢
            have hP : va_P (dC, dI) vwCl [(qn, .inl (kn, 8, .inl fn)), (qo, .inl (ko, 8, .inl fo)), (qc, .inl (kc, 8, .inl fc)), (h0, .inr (10, [x_tape, .ref q1, x_code, x_reader, x_machine, x_length, x_latestFault, x_hasProgram, x_hasRun])), (q1, .inr (9, [t_above, .ref qn, .ref qo, .ref qc, .int 4, t_assertsOn]))] H := hP
            have hD : va_D A [(qn, .inl (kn, 8, .inl fn)), (qo, .inl (ko, 8, .inl fo)), (qc, .inl (kc, 8, .inl fc)), (h0, .inr (10, [x_tape, .ref q1, x_code, x_reader, x_machine, x_length, x_latestFault, x_hasProgram, x_hasRun])), (q1, .inr (9, [t_above, .ref qn, .ref qo, .ref qc, .int 4, t_assertsOn]))] := hD
            have hK : va_K (dC, dI) vwCl [(kn, .int), (ko, .int), (kc, .int)] s := hK
            by_cases c8 : c9 = -1 ∨ (¬ c9 < 0 ∧ ¬ 4 ≤ c9)
            ·
              obtain rfl : r7 = 1 := hw.trans (if_pos c8)
              refine lv_if_ne (tgt := 40) hx hb dX11_resource_35 (by decide) (fun _ => ?_) (fun c9 => absurd c9 (by decide))
              refine lv_aload_n hx hb dX11_resource_40 rfl (lv_at hl 0 rfl) ?_
              refine va_get (D := (dC, dI)) (ci := 10) (v := .ref q1) (C := RX11) (T := TX11) (N := 9) hx hb hts i_X11_resource_X11 hown hK hP 3 rfl rfl 1 (by decide) (hts (.fieldLink RX11 16 "StatementRules2" "told" "LStatementRules2$Told;") k_X11_resource_fieldLink_RX11_16_SR_told_LSR_Told) (fun _ h9 => h9) rfl dX11_resource_41 ?_
              refine lv_iload_n hx hb dX11_resource_44 rfl (lv_at hl 1 rfl) ?_
              refine lv_iload_n hx hb dX11_resource_45 rfl (lv_at hl 2 rfl) ?_
              refine lv_iload_n hx hb dX11_resource_46 rfl (lv_at hl 3 rfl) ?_
              refine lv_iload hx hb dX11_resource_47 (lv_at hl 4 rfl) ?_
              have hPc := hP.sub (ws' := [(q1, .inr (9, [t_above, .ref qn, .ref qo, .ref qc, .int 4, t_assertsOn])), (qn, .inl (kn, 8, .inl fn)), (qo, .inl (ko, 8, .inl fo)), (qc, .inl (kc, 8, .inl fc))]) [4, 0, 1, 2] rfl
              have hDc := hD.sub (ws' := [(q1, .inr (9, [t_above, .ref qn, .ref qo, .ref qc, .int 4, t_assertsOn])), (qn, .inl (kn, 8, .inl fn)), (qo, .inl (ko, 8, .inl fo)), (qc, .inl (kc, 8, .inl fc))]) [4, 0, 1, 2] (by decide) rfl
              have hKc := hK.sub (tys' := [(kn, .int), (ko, .int), (kc, .int)]) [0, 1, 2] rfl
              have hFc := va_free (wc := [(q1, .inr (9, [t_above, .ref qn, .ref qo, .ref qc, .int 4, t_assertsOn])), (qn, .inl (kn, 8, .inl fn)), (qo, .inl (ko, 8, .inl fo)), (qc, .inl (kc, 8, .inl fc))]) hD hS hA [4, 0, 1, 2] rfl
              refine va_callv (va_runV (As := [.int x, .int y, .int o, .int c9]) (rest := []) ⟨hx, hb, hml, hown, hts⟩ (c_X10_tellResource l dC dI _ q1 x y o c9 t_above (.int 4) t_assertsOn qn kn fn qo ko fo qc kc fc c1 c2 (z_vpin c1 c2)) (cwV 4 hts hX11_resource_X10_tellResource_v77 rfl rfl rfl (by decide +kernel) ⟨Nat.le_of_ble_eq_true rfl, Nat.le_of_ble_eq_true rfl⟩) ⟨zPre.blind, va_recv hKc hPc (ci := 9) (q0 := 0) rfl rfl, zPre.go hZ hPc hKc hDc⟩ rfl rfl hl.1 rfl (lv_room (Nat.le_of_ble_eq_true rfl)) dX11_resource_49 ⟨Nat.le_of_ble_eq_true rfl, Nat.le_of_ble_eq_true rfl⟩) hS (fun q _ h => hFc q h) hFc (fun u9 t9 H1 locs ht hvm hw hB hz1 hk1 hS => ?_)
              obtain ⟨hP1, hK1, hD1⟩ := hB
              rw [ht] at hP1
              have hK1 := va_K.moved hvm.symm hK1
              obtain ⟨hP, hD⟩ := va_join (wr := [(h0, .inr (10, [x_tape, .ref q1, x_code, x_reader, x_machine, x_length, x_latestFault, x_hasProgram, x_hasRun]))]) (w1 := []) hP hD [4, 0, 1, 2] [3] rfl rfl (by decide) (by decide) hk1 hFc hP1 hD1
              have hK := hK.app hK1
              generalize H1 = H at hP hS ⊢
              have hP : va_P (dC, dI) vwCl [(h0, .inr (10, [x_tape, .ref q1, x_code, x_reader, x_machine, x_length, x_latestFault, x_hasProgram, x_hasRun]))] H := hP
              have hD : va_D A [(h0, .inr (10, [x_tape, .ref q1, x_code, x_reader, x_machine, x_length, x_latestFault, x_hasProgram, x_hasRun]))] := hD
              have hK : va_K (dC, dI) vwCl [(kn, .int), (ko, .int), (kc, .int)] s := hK
              refine lv_iconst (v := 1) hx hb dX11_resource_52 (by decide) ?_
              have hP9 := hP.sub (ws' := []) [] rfl
              have hD9 := hD.sub (ws' := []) [] (by decide) rfl
              have hK9 := hK.sub (tys' := []) [] rfl
              exact W.iret (v := 1) hx hb hr (fun t ht hW => ⟨⟨1, (), rfl, (if_pos ⟨c1, c2, c3, c4, c6, c8⟩).symm, by rw [ht]; exact hP9, va_K.moved hW.alike hK9, hD9⟩, hS.F ht⟩) hS.2.2 dX11_resource_53
            ·
              obtain rfl : r7 = 0 := hw.trans (if_neg c8)
              refine lv_if_ne (tgt := 40) hx hb dX11_resource_35 (by decide) (fun c9 => absurd (by decide) c9) (fun _ => ?_)
              refine lv_iconst (v := (-1)) hx hb dX11_resource_38 (by decide) ?_
              have hP9 := hP.sub (ws' := []) [] rfl
              have hD9 := hD.sub (ws' := []) [] (by decide) rfl
              have hK9 := hK.sub (tys' := []) [] rfl
              exact W.iret (v := (-1)) hx hb hr (fun t ht hW => ⟨⟨(-1), (), rfl, (if_neg (fun h => c8 h.2.2.2.2.2)).symm, by rw [ht]; exact hP9, va_K.moved hW.alike hK9, hD9⟩, hS.F ht⟩) hS.2.2 dX11_resource_39
          ·
            obtain rfl : r5 = 0 := hw.trans (if_neg c6)
            refine lv_if_eq (tgt := 38) hx hb dX11_resource_26 (by decide) (fun _ => ?_) (fun c9 => absurd (by decide) c9)
            refine lv_iconst (v := (-1)) hx hb dX11_resource_38 (by decide) ?_
            have hP9 := hP.sub (ws' := []) [] rfl
            have hD9 := hD.sub (ws' := []) [] (by decide) rfl
            have hK9 := hK.sub (tys' := []) [] rfl
            exact W.iret (v := (-1)) hx hb hr (fun t ht hW => ⟨⟨(-1), (), rfl, (if_neg (fun h => c6 h.2.2.2.2.1)).symm, by rw [ht]; exact hP9, va_K.moved hW.alike hK9, hD9⟩, hS.F ht⟩) hS.2.2 dX11_resource_39
        ·
          refine lv_iconst (v := (-1)) hx hb dX11_resource_19 (by decide) ?_
          have hP9 := hP.sub (ws' := []) [] rfl
          have hD9 := hD.sub (ws' := []) [] (by decide) rfl
          have hK9 := hK.sub (tys' := []) [] rfl
          exact W.iret (v := (-1)) hx hb hr (fun t ht hW => ⟨⟨(-1), (), rfl, (if_neg (fun h => c4 h.2.2.2.1)).symm, by rw [ht]; exact hP9, va_K.moved hW.alike hK9, hD9⟩, hS.F ht⟩) hS.2.2 dX11_resource_20
theorem k_X10_isUnder_fieldLink_RX10_9_SR_Told_above_I : Cond.fieldLink RX10 9 "StatementRules2$Told" "above" "[I" ∈ wzX10_isUnder := List.mem_cons_of_mem _ (List.mem_append_left _ (List.mem_of_getElem? (i := 0) rfl))
theorem i_X10_isUnder_X10 : ∀ w ∈ wsX100, w ∈ wzX10_isUnder := fun _ h => List.mem_cons_of_mem _ (List.mem_append_right _ (List.mem_append_left _ (h)))
theorem k_X10_isUnder_initialized_RX11 : Cond.initialized RX11 ∈ wzX10_isUnder := List.mem_cons_of_mem _ (List.mem_append_left _ (List.mem_of_getElem? (i := 1) rfl))
theorem k_X10_isUnder_static_yX11_at : Cond.static yX11_at ∈ wzX10_isUnder := List.mem_cons_of_mem _ (List.mem_append_left _ (List.mem_of_getElem? (i := 2) rfl))
set_option maxHeartbeats 4000000 in
set_option maxRecDepth 100000 in
theorem c_X10_isUnder_0 (l : Launch) (dC : Nat → ClassId) (dI : Nat → Nat → Nat) (sz : Nat) (h0 : Nat) (b : Int32) (qa : Nat) (kA : ClassId) (t_isNull : Value) (t_opening : Value) (t_closing : Value) (t_kindCount : Value) (t_assertsOn : Value) : Met l yX10_isUnder wzX10_isUnder ({ frames := 2, cells := 0, slots := 0, locals := 120 }) (va_Pc [.ref h0, .int 0, .int b] (zPre dC dI sz [(h0, .inr (9, [.ref qa, t_isNull, t_opening, t_closing, t_kindCount, t_assertsOn])), (qa, .inl (kA, 12, .inl (upd (fun _ => 0) 0 (-1))))] [(kA, .int)])) (va_Qi (fun (r : Int32) (_ : Unit) => r = if 0 = b then 1 else 0) (fun (_ : Unit) (t : State) => zPost dC dI (va_A [(h0, .inr (9, [.ref qa, t_isNull, t_opening, t_closing, t_kindCount, t_assertsOn])), (qa, .inl (kA, 12, .inl (upd (fun _ => 0) 0 (-1))))] sz) [] [] t) (va_A [(h0, .inr (9, [.ref qa, t_isNull, t_opening, t_closing, t_kindCount, t_assertsOn])), (qa, .inl (kA, 12, .inl (upd (fun _ => 0) 0 (-1))))] sz)) 0 0 (va_A [(h0, .inr (9, [.ref qa, t_isNull, t_opening, t_closing, t_kindCount, t_assertsOn])), (qa, .inl (kA, 12, .inl (upd (fun _ => 0) 0 (-1))))] sz) := by
  refine Met.ofW (cc := cX10_isUnder) (maxL := 5) (ret := (some .boolean)) (by decide) rfl ?_
  intro p e s m args below meth c s₁ B hml hv
  obtain ⟨rfl, hsz, hZ, hP, hK, hD0⟩ := hv
  have hx := B.exec
  have hb := B.bytes
  have hr := B.returns
  have hts := atoms_spec (ws := wzX10_isUnder) B.pre
  have hown : s.vm.findClass RX10 = some m.cls := findClass_of_methodNamed B.named
  have hlocks := B.notSynchronized
  subst hsz
  have hD := hD0.self (sz := s.heap.size)
  generalize hAe : va_A [(h0, .inr (9, [.ref qa, t_isNull, t_opening, t_closing, t_kindCount, t_assertsOn])), (qa, .inl (kA, 12, .inl (upd (fun _ => 0) 0 (-1))))] s.heap.size = A at hD ⊢
  have hA : ∀ q : Nat, s.heap.size ≤ q → A q := fun q h => by rw [← hAe]; exact Or.inr h
  have hS : va_S A s.heap s.heap [] := va_S.rf
  have hP : va_P (dC, dI) vwCl [(h0, .inr (9, [.ref qa, t_isNull, t_opening, t_closing, t_kindCount, t_assertsOn])), (qa, .inl (kA, 12, .inl (upd (fun _ => 0) 0 (-1))))] s.heap := hP
  have hl := lv_entry ([.ref h0, .int 0, .int b]) (n := 5) (Nat.le_of_ble_eq_true rfl)
  rw [lg_entry_eq]
  generalize (lg_sl ([.ref h0, .int 0, .int b]) ++ List.replicate (5 - (lg_sl ([.ref h0, .int 0, .int b])).length) Slot.unset).toArray = ls at hl ⊢
  have hl : lv_has ls 5 [(0, .ref h0), (1, .int 0), (2, .int b)] := hl
  refine lv_iload_n hx hb dX10_isUnder_0 rfl (lv_at hl 1 rfl) ?_
  refine lv_istore_n (lv' := [(3, .int 0), (0, .ref h0), (1, .int 0), (2, .int b)]) hx hb dX10_isUnder_1 rfl hl (by decide) rfl (fun ls hl => ?_)
  refine lv_iconst (v := 0) hx hb dX10_isUnder_2 (by decide) ?_
  refine lv_istore (lv' := [(4, .int 0), (3, .int 0), (0, .ref h0), (1, .int 0), (2, .int b)]) hx hb dX10_isUnder_3 hl (by decide) rfl (fun ls hl => ?_)
  refine lv_iload hx hb dX10_isUnder_5 (lv_at hl 0 rfl) ?_
  refine lv_bipush (v := 12) hx hb dX10_isUnder_7 (by decide) ?_
  refine lv_icmp_ge (tgt := 38) hx hb dX10_isUnder_9 (by decide) (fun c9 => absurd c9 (by decide)) (fun _ => ?_)
  refine lv_iload_n hx hb dX10_isUnder_12 rfl (lv_at hl 1 rfl) ?_
  refine lv_if_lt (tgt := 38) hx hb dX10_isUnder_13 (by decide) (fun c9 => absurd c9 (by decide)) (fun _ => ?_)
  refine lv_iload_n hx hb dX10_isUnder_16 rfl (lv_at hl 1 rfl) ?_
  refine lv_iload_n hx hb dX10_isUnder_17 rfl (lv_at hl 4 rfl) ?_
  refine lv_icmp_ne (tgt := 23) hx hb dX10_isUnder_18 (by decide) (fun c1 => ?_) (fun c1 => ?_)
  ·
    refine lv_aload_n hx hb dX10_isUnder_23 rfl (lv_at hl 2 rfl) ?_
    refine va_get (D := (dC, dI)) (ci := 9) (v := .ref qa) (C := RX10) (T := TX10) (N := 6) hx hb hts i_X10_isUnder_X10 hown hK hP 0 rfl rfl 0 (by decide) (hts (.fieldLink RX10 9 "StatementRules2$Told" "above" "[I") k_X10_isUnder_fieldLink_RX10_9_SR_Told_above_I) (fun _ h9 => h9) rfl dX10_isUnder_24 ?_
    refine lv_iload_n hx hb dX10_isUnder_27 rfl (lv_at hl 1 rfl) ?_
    have hPc := hP.sub (ws' := [(qa, .inl (kA, 12, .inl (upd (fun _ => 0) 0 (-1))))]) [1] rfl
    have hDc := hD.sub (ws' := [(qa, .inl (kA, 12, .inl (upd (fun _ => 0) 0 (-1))))]) [1] (by decide) rfl
    have hKc := hK.sub (tys' := [(kA, .int)]) [0] rfl
    have hFc := va_free (wc := [(qa, .inl (kA, 12, .inl (upd (fun _ => 0) 0 (-1))))]) hD hS hA [1] rfl
    refine va_calli (va_runSN (As := [.ref qa, .int 0]) (rest := []) ⟨hx, hb, hml, hown, hts⟩ (c_X11_at l dC dI _ qa kA 12 (upd (fun _ => 0) 0 (-1)) 0 (by first | decide | (unfold vp_in; decide)) (by first | decide | (unfold vp_in; decide)) (by first | decide | (unfold vp_in; decide))) ⟨va_cnB 2 hts hX10_isUnder_X11_at_n32 rfl rfl rfl (hZ.1 (.methodLinkNest RX10 32 yX11_at "StatementRules2") (by decide +kernel)) (hts (.initialized RX11) k_X10_isUnder_initialized_RX11) (by decide +kernel) ⟨Nat.le_of_ble_eq_true rfl, Nat.le_of_ble_eq_true rfl⟩, (hts (.static yX11_at) k_X10_isUnder_static_yX11_at), trivial⟩ ⟨zPre.blind, zPre.go hZ hPc hKc hDc⟩ rfl rfl hl.1 rfl (lv_room (Nat.le_of_ble_eq_true rfl)) dX10_isUnder_28 ⟨Nat.le_of_ble_eq_true rfl, Nat.le_of_ble_eq_true rfl⟩) hS (fun q _ h => hFc q h) hFc (fun r2 u9 t9 H1 locs ht hvm hw hB hz1 hk1 hS => ?_)
    obtain ⟨hP1, hK1, hD1⟩ := hB
    rw [ht] at hP1
    have hK1 := va_K.moved hvm.symm hK1
    obtain ⟨hP, hD⟩ := va_join (wr := [(h0, .inr (9, [.ref qa, t_isNull, t_opening, t_closing, t_kindCount, t_assertsOn]))]) (w1 := [(qa, .inl (kA, 12, .inl (upd (fun _ => 0) 0 (-1))))]) hP hD [1] [0] rfl rfl (by decide) (by decide) hk1 hFc hP1 hD1
    have hK := hK.app hK1
    generalize H1 = H at hP hS ⊢
    have hP : va_P (dC, dI) vwCl [(h0, .inr (9, [.ref qa, t_isNull, t_opening, t_closing, t_kindCount, t_assertsOn])), (qa, .inl (kA, 12, .inl (upd (fun _ => 0) 0 (-1))))] H := hP
    have hD : va_D A [(h0, .inr (9, [.ref qa, t_isNull, t_opening, t_closing, t_kindCount, t_assertsOn])), (qa, .inl (kA, 12, .inl (upd (fun _ => 0) 0 (-1))))] := hD
    have hK : va_K (dC, dI) vwCl [(kA, .int), (kA, .int)] s := hK
    have hK : va_K (dC, dI) vwCl [(kA, .int)] s := hK.sub [0] rfl
    obtain rfl : r2 = (-1) := hw.trans (by decide)
    refine lv_istore_n (lv' := [(3, .int (-1)), (4, .int 0), (0, .ref h0), (1, .int 0), (2, .int b)]) hx hb dX10_isUnder_31 rfl hl (by decide) rfl (fun ls hl => ?_)
    refine lv_iinc (v := 1) (lv' := [(4, .int 1), (3, .int (-1)), (0, .ref h0), (1, .int 0), (2, .int b)]) hx hb dX10_isUnder_32 hl (k := 1) rfl (by decide) (by decide) rfl (fun ls hl => ?_)
    refine lv_goto (tgt := 5) hx hb dX10_isUnder_35 (by decide) ?_
    refine lv_iload hx hb dX10_isUnder_5 (lv_at hl 0 rfl) ?_
    refine lv_bipush (v := 12) hx hb dX10_isUnder_7 (by decide) ?_
    refine lv_icmp_ge (tgt := 38) hx hb dX10_isUnder_9 (by decide) (fun c9 => absurd c9 (by decide)) (fun _ => ?_)
    refine lv_iload_n hx hb dX10_isUnder_12 rfl (lv_at hl 1 rfl) ?_
    refine lv_if_lt (tgt := 38) hx hb dX10_isUnder_13 (by decide) (fun _ => ?_) (fun c9 => absurd (by decide) c9)
    refine lv_iconst (v := 0) hx hb dX10_isUnder_38 (by decide) ?_
    have hP9 := hP.sub (ws' := []) [] rfl
    have hD9 := hD.sub (ws' := []) [] (by decide) rfl
    have hK9 := hK.sub (tys' := []) [] rfl
    exact W.zret (v := 0) hx hb hr (rfl) (fun t ht hW => ⟨⟨0, (), rfl, (if_neg c1).symm, by rw [ht]; exact hP9, va_K.moved hW.alike hK9, hD9⟩, hS.F ht⟩) hS.2.2 dX10_isUnder_39
  ·
    refine lv_iconst (v := 1) hx hb dX10_isUnder_21 (by decide) ?_
    have hP9 := hP.sub (ws' := []) [] rfl
    have hD9 := hD.sub (ws' := []) [] (by decide) rfl
    have hK9 := hK.sub (tys' := []) [] rfl
    exact W.zret (v := 1) hx hb hr (rfl) (fun t ht hW => ⟨⟨1, (), rfl, (if_pos c1).symm, by rw [ht]; exact hP9, va_K.moved hW.alike hK9, hD9⟩, hS.F ht⟩) hS.2.2 dX10_isUnder_22
set_option maxHeartbeats 4000000 in
set_option maxRecDepth 100000 in
theorem c_X10_isUnder_1 (l : Launch) (dC : Nat → ClassId) (dI : Nat → Nat → Nat) (sz : Nat) (h0 : Nat) (b : Int32) (qa : Nat) (kA : ClassId) (t_isNull : Value) (t_opening : Value) (t_closing : Value) (t_kindCount : Value) (t_assertsOn : Value) : Met l yX10_isUnder wzX10_isUnder ({ frames := 2, cells := 0, slots := 0, locals := 120 }) (va_Pc [.ref h0, .int 1, .int b] (zPre dC dI sz [(h0, .inr (9, [.ref qa, t_isNull, t_opening, t_closing, t_kindCount, t_assertsOn])), (qa, .inl (kA, 12, .inl (upd (fun _ => 0) 0 (-1))))] [(kA, .int)])) (va_Qi (fun (r : Int32) (_ : Unit) => r = if 1 = b ∨ 0 = b then 1 else 0) (fun (_ : Unit) (t : State) => zPost dC dI (va_A [(h0, .inr (9, [.ref qa, t_isNull, t_opening, t_closing, t_kindCount, t_assertsOn])), (qa, .inl (kA, 12, .inl (upd (fun _ => 0) 0 (-1))))] sz) [] [] t) (va_A [(h0, .inr (9, [.ref qa, t_isNull, t_opening, t_closing, t_kindCount, t_assertsOn])), (qa, .inl (kA, 12, .inl (upd (fun _ => 0) 0 (-1))))] sz)) 0 0 (va_A [(h0, .inr (9, [.ref qa, t_isNull, t_opening, t_closing, t_kindCount, t_assertsOn])), (qa, .inl (kA, 12, .inl (upd (fun _ => 0) 0 (-1))))] sz) := by
  refine Met.ofW (cc := cX10_isUnder) (maxL := 5) (ret := (some .boolean)) (by decide) rfl ?_
  intro p e s m args below meth c s₁ B hml hv
  obtain ⟨rfl, hsz, hZ, hP, hK, hD0⟩ := hv
  have hx := B.exec
  have hb := B.bytes
  have hr := B.returns
  have hts := atoms_spec (ws := wzX10_isUnder) B.pre
  have hown : s.vm.findClass RX10 = some m.cls := findClass_of_methodNamed B.named
  have hlocks := B.notSynchronized
  subst hsz
  have hD := hD0.self (sz := s.heap.size)
  generalize hAe : va_A [(h0, .inr (9, [.ref qa, t_isNull, t_opening, t_closing, t_kindCount, t_assertsOn])), (qa, .inl (kA, 12, .inl (upd (fun _ => 0) 0 (-1))))] s.heap.size = A at hD ⊢
  have hA : ∀ q : Nat, s.heap.size ≤ q → A q := fun q h => by rw [← hAe]; exact Or.inr h
  have hS : va_S A s.heap s.heap [] := va_S.rf
  have hP : va_P (dC, dI) vwCl [(h0, .inr (9, [.ref qa, t_isNull, t_opening, t_closing, t_kindCount, t_assertsOn])), (qa, .inl (kA, 12, .inl (upd (fun _ => 0) 0 (-1))))] s.heap := hP
  have hl := lv_entry ([.ref h0, .int 1, .int b]) (n := 5) (Nat.le_of_ble_eq_true rfl)
  rw [lg_entry_eq]
  generalize (lg_sl ([.ref h0, .int 1, .int b]) ++ List.replicate (5 - (lg_sl ([.ref h0, .int 1, .int b])).length) Slot.unset).toArray = ls at hl ⊢
  have hl : lv_has ls 5 [(0, .ref h0), (1, .int 1), (2, .int b)] := hl
  refine lv_iload_n hx hb dX10_isUnder_0 rfl (lv_at hl 1 rfl) ?_
  refine lv_istore_n (lv' := [(3, .int 1), (0, .ref h0), (1, .int 1), (2, .int b)]) hx hb dX10_isUnder_1 rfl hl (by decide) rfl (fun ls hl => ?_)
  refine lv_iconst (v := 0) hx hb dX10_isUnder_2 (by decide) ?_
  refine lv_istore (lv' := [(4, .int 0), (3, .int 1), (0, .ref h0), (1, .int 1), (2, .int b)]) hx hb dX10_isUnder_3 hl (by decide) rfl (fun ls hl => ?_)
  refine lv_iload hx hb dX10_isUnder_5 (lv_at hl 0 rfl) ?_
  refine lv_bipush (v := 12) hx hb dX10_isUnder_7 (by decide) ?_
  refine lv_icmp_ge (tgt := 38) hx hb dX10_isUnder_9 (by decide) (fun c9 => absurd c9 (by decide)) (fun _ => ?_)
  refine lv_iload_n hx hb dX10_isUnder_12 rfl (lv_at hl 1 rfl) ?_
  refine lv_if_lt (tgt := 38) hx hb dX10_isUnder_13 (by decide) (fun c9 => absurd c9 (by decide)) (fun _ => ?_)
  refine lv_iload_n hx hb dX10_isUnder_16 rfl (lv_at hl 1 rfl) ?_
  refine lv_iload_n hx hb dX10_isUnder_17 rfl (lv_at hl 4 rfl) ?_
  refine lv_icmp_ne (tgt := 23) hx hb dX10_isUnder_18 (by decide) (fun c1 => ?_) (fun c1 => ?_)
  ·
    refine lv_aload_n hx hb dX10_isUnder_23 rfl (lv_at hl 2 rfl) ?_
    refine va_get (D := (dC, dI)) (ci := 9) (v := .ref qa) (C := RX10) (T := TX10) (N := 6) hx hb hts i_X10_isUnder_X10 hown hK hP 0 rfl rfl 0 (by decide) (hts (.fieldLink RX10 9 "StatementRules2$Told" "above" "[I") k_X10_isUnder_fieldLink_RX10_9_SR_Told_above_I) (fun _ h9 => h9) rfl dX10_isUnder_24 ?_
    refine lv_iload_n hx hb dX10_isUnder_27 rfl (lv_at hl 1 rfl) ?_
    have hPc := hP.sub (ws' := [(qa, .inl (kA, 12, .inl (upd (fun _ => 0) 0 (-1))))]) [1] rfl
    have hDc := hD.sub (ws' := [(qa, .inl (kA, 12, .inl (upd (fun _ => 0) 0 (-1))))]) [1] (by decide) rfl
    have hKc := hK.sub (tys' := [(kA, .int)]) [0] rfl
    have hFc := va_free (wc := [(qa, .inl (kA, 12, .inl (upd (fun _ => 0) 0 (-1))))]) hD hS hA [1] rfl
    refine va_calli (va_runSN (As := [.ref qa, .int 1]) (rest := []) ⟨hx, hb, hml, hown, hts⟩ (c_X11_at l dC dI _ qa kA 12 (upd (fun _ => 0) 0 (-1)) 1 (by first | decide | (unfold vp_in; decide)) (by first | decide | (unfold vp_in; decide)) (by first | decide | (unfold vp_in; decide))) ⟨va_cnB 2 hts hX10_isUnder_X11_at_n32 rfl rfl rfl (hZ.1 (.methodLinkNest RX10 32 yX11_at "StatementRules2") (by decide +kernel)) (hts (.initialized RX11) k_X10_isUnder_initialized_RX11) (by decide +kernel) ⟨Nat.le_of_ble_eq_true rfl, Nat.le_of_ble_eq_true rfl⟩, (hts (.static yX11_at) k_X10_isUnder_static_yX11_at), trivial⟩ ⟨zPre.blind, zPre.go hZ hPc hKc hDc⟩ rfl rfl hl.1 rfl (lv_room (Nat.le_of_ble_eq_true rfl)) dX10_isUnder_28 ⟨Nat.le_of_ble_eq_true rfl, Nat.le_of_ble_eq_true rfl⟩) hS (fun q _ h => hFc q h) hFc (fun r2 u9 t9 H1 locs ht hvm hw hB hz1 hk1 hS => ?_)
    obtain ⟨hP1, hK1, hD1⟩ := hB
    rw [ht] at hP1
    have hK1 := va_K.moved hvm.symm hK1
    obtain ⟨hP, hD⟩ := va_join (wr := [(h0, .inr (9, [.ref qa, t_isNull, t_opening, t_closing, t_kindCount, t_assertsOn]))]) (w1 := [(qa, .inl (kA, 12, .inl (upd (fun _ => 0) 0 (-1))))]) hP hD [1] [0] rfl rfl (by decide) (by decide) hk1 hFc hP1 hD1
    have hK := hK.app hK1
    generalize H1 = H at hP hS ⊢
    have hP : va_P (dC, dI) vwCl [(h0, .inr (9, [.ref qa, t_isNull, t_opening, t_closing, t_kindCount, t_assertsOn])), (qa, .inl (kA, 12, .inl (upd (fun _ => 0) 0 (-1))))] H := hP
    have hD : va_D A [(h0, .inr (9, [.ref qa, t_isNull, t_opening, t_closing, t_kindCount, t_assertsOn])), (qa, .inl (kA, 12, .inl (upd (fun _ => 0) 0 (-1))))] := hD
    have hK : va_K (dC, dI) vwCl [(kA, .int), (kA, .int)] s := hK
    have hK : va_K (dC, dI) vwCl [(kA, .int)] s := hK.sub [0] rfl
    obtain rfl : r2 = 0 := hw.trans (by decide)
    refine lv_istore_n (lv' := [(3, .int 0), (4, .int 0), (0, .ref h0), (1, .int 1), (2, .int b)]) hx hb dX10_isUnder_31 rfl hl (by decide) rfl (fun ls hl => ?_)
    refine lv_iinc (v := 1) (lv' := [(4, .int 1), (3, .int 0), (0, .ref h0), (1, .int 1), (2, .int b)]) hx hb dX10_isUnder_32 hl (k := 1) rfl (by decide) (by decide) rfl (fun ls hl => ?_)
    refine lv_goto (tgt := 5) hx hb dX10_isUnder_35 (by decide) ?_
    refine lv_iload hx hb dX10_isUnder_5 (lv_at hl 0 rfl) ?_
    refine lv_bipush (v := 12) hx hb dX10_isUnder_7 (by decide) ?_
    refine lv_icmp_ge (tgt := 38) hx hb dX10_isUnder_9 (by decide) (fun c9 => absurd c9 (by decide)) (fun _ => ?_)
    refine lv_iload_n hx hb dX10_isUnder_12 rfl (lv_at hl 1 rfl) ?_
    refine lv_if_lt (tgt := 38) hx hb dX10_isUnder_13 (by decide) (fun c9 => absurd c9 (by decide)) (fun _ => ?_)
    refine lv_iload_n hx hb dX10_isUnder_16 rfl (lv_at hl 1 rfl) ?_
    refine lv_iload_n hx hb dX10_isUnder_17 rfl (lv_at hl 4 rfl) ?_
    refine lv_icmp_ne (tgt := 23) hx hb dX10_isUnder_18 (by decide) (fun c3 => ?_) (fun c3 => ?_)
    ·
      refine lv_aload_n hx hb dX10_isUnder_23 rfl (lv_at hl 2 rfl) ?_
      refine va_get (D := (dC, dI)) (ci := 9) (v := .ref qa) (C := RX10) (T := TX10) (N := 6) hx hb hts i_X10_isUnder_X10 hown hK hP 0 rfl rfl 0 (by decide) (hts (.fieldLink RX10 9 "StatementRules2$Told" "above" "[I") k_X10_isUnder_fieldLink_RX10_9_SR_Told_above_I) (fun _ h9 => h9) rfl dX10_isUnder_24 ?_
      refine lv_iload_n hx hb dX10_isUnder_27 rfl (lv_at hl 1 rfl) ?_
      have hPc := hP.sub (ws' := [(qa, .inl (kA, 12, .inl (upd (fun _ => 0) 0 (-1))))]) [1] rfl
      have hDc := hD.sub (ws' := [(qa, .inl (kA, 12, .inl (upd (fun _ => 0) 0 (-1))))]) [1] (by decide) rfl
      have hKc := hK.sub (tys' := [(kA, .int)]) [0] rfl
      have hFc := va_free (wc := [(qa, .inl (kA, 12, .inl (upd (fun _ => 0) 0 (-1))))]) hD hS hA [1] rfl
      refine va_calli (va_runSN (As := [.ref qa, .int 0]) (rest := []) ⟨hx, hb, hml, hown, hts⟩ (c_X11_at l dC dI _ qa kA 12 (upd (fun _ => 0) 0 (-1)) 0 (by first | decide | (unfold vp_in; decide)) (by first | decide | (unfold vp_in; decide)) (by first | decide | (unfold vp_in; decide))) ⟨va_cnB 2 hts hX10_isUnder_X11_at_n32 rfl rfl rfl (hZ.1 (.methodLinkNest RX10 32 yX11_at "StatementRules2") (by decide +kernel)) (hts (.initialized RX11) k_X10_isUnder_initialized_RX11) (by decide +kernel) ⟨Nat.le_of_ble_eq_true rfl, Nat.le_of_ble_eq_true rfl⟩, (hts (.static yX11_at) k_X10_isUnder_static_yX11_at), trivial⟩ ⟨zPre.blind, zPre.go hZ hPc hKc hDc⟩ rfl rfl hl.1 rfl (lv_room (Nat.le_of_ble_eq_true rfl)) dX10_isUnder_28 ⟨Nat.le_of_ble_eq_true rfl, Nat.le_of_ble_eq_true rfl⟩) hS (fun q _ h => hFc q h) hFc (fun r4 u9 t9 H1 locs ht hvm hw hB hz1 hk1 hS => ?_)
      obtain ⟨hP1, hK1, hD1⟩ := hB
      rw [ht] at hP1
      have hK1 := va_K.moved hvm.symm hK1
      obtain ⟨hP, hD⟩ := va_join (wr := [(h0, .inr (9, [.ref qa, t_isNull, t_opening, t_closing, t_kindCount, t_assertsOn]))]) (w1 := [(qa, .inl (kA, 12, .inl (upd (fun _ => 0) 0 (-1))))]) hP hD [1] [0] rfl rfl (by decide) (by decide) hk1 hFc hP1 hD1
      have hK := hK.app hK1
      generalize H1 = H at hP hS ⊢
      have hP : va_P (dC, dI) vwCl [(h0, .inr (9, [.ref qa, t_isNull, t_opening, t_closing, t_kindCount, t_assertsOn])), (qa, .inl (kA, 12, .inl (upd (fun _ => 0) 0 (-1))))] H := hP
      have hD : va_D A [(h0, .inr (9, [.ref qa, t_isNull, t_opening, t_closing, t_kindCount, t_assertsOn])), (qa, .inl (kA, 12, .inl (upd (fun _ => 0) 0 (-1))))] := hD
      have hK : va_K (dC, dI) vwCl [(kA, .int), (kA, .int)] s := hK
      have hK : va_K (dC, dI) vwCl [(kA, .int)] s := hK.sub [0] rfl
      obtain rfl : r4 = (-1) := hw.trans (by decide)
      refine lv_istore_n (lv' := [(3, .int (-1)), (4, .int 1), (0, .ref h0), (1, .int 1), (2, .int b)]) hx hb dX10_isUnder_31 rfl hl (by decide) rfl (fun ls hl => ?_)
      refine lv_iinc (v := 2) (lv' := [(4, .int 2), (3, .int (-1)), (0, .ref h0), (1, .int 1), (2, .int b)]) hx hb dX10_isUnder_32 hl (k := 1) rfl (by decide) (by decide) rfl (fun ls hl => ?_)
      refine lv_goto (tgt := 5) hx hb dX10_isUnder_35 (by decide) ?_
      refine lv_iload hx hb dX10_isUnder_5 (lv_at hl 0 rfl) ?_
      refine lv_bipush (v := 12) hx hb dX10_isUnder_7 (by decide) ?_
      refine lv_icmp_ge (tgt := 38) hx hb dX10_isUnder_9 (by decide) (fun c9 => absurd c9 (by decide)) (fun _ => ?_)
      refine lv_iload_n hx hb dX10_isUnder_12 rfl (lv_at hl 1 rfl) ?_
      refine lv_if_lt (tgt := 38) hx hb dX10_isUnder_13 (by decide) (fun _ => ?_) (fun c9 => absurd (by decide) c9)
      refine lv_iconst (v := 0) hx hb dX10_isUnder_38 (by decide) ?_
      have hP9 := hP.sub (ws' := []) [] rfl
      have hD9 := hD.sub (ws' := []) [] (by decide) rfl
      have hK9 := hK.sub (tys' := []) [] rfl
      exact W.zret (v := 0) hx hb hr (rfl) (fun t ht hW => ⟨⟨0, (), rfl, (if_neg (fun h => h.elim c1 c3)).symm, by rw [ht]; exact hP9, va_K.moved hW.alike hK9, hD9⟩, hS.F ht⟩) hS.2.2 dX10_isUnder_39
    ·
      refine lv_iconst (v := 1) hx hb dX10_isUnder_21 (by decide) ?_
      have hP9 := hP.sub (ws' := []) [] rfl
      have hD9 := hD.sub (ws' := []) [] (by decide) rfl
      have hK9 := hK.sub (tys' := []) [] rfl
      exact W.zret (v := 1) hx hb hr (rfl) (fun t ht hW => ⟨⟨1, (), rfl, (if_pos (Or.inr c3)).symm, by rw [ht]; exact hP9, va_K.moved hW.alike hK9, hD9⟩, hS.F ht⟩) hS.2.2 dX10_isUnder_22
  ·
    refine lv_iconst (v := 1) hx hb dX10_isUnder_21 (by decide) ?_
    have hP9 := hP.sub (ws' := []) [] rfl
    have hD9 := hD.sub (ws' := []) [] (by decide) rfl
    have hK9 := hK.sub (tys' := []) [] rfl
    exact W.zret (v := 1) hx hb hr (rfl) (fun t ht hW => ⟨⟨1, (), rfl, (if_pos (Or.inl c1)).symm, by rw [ht]; exact hP9, va_K.moved hW.alike hK9, hD9⟩, hS.F ht⟩) hS.2.2 dX10_isUnder_22
set_option maxHeartbeats 4000000 in
set_option maxRecDepth 100000 in
theorem c_X10_isUnder_2 (l : Launch) (dC : Nat → ClassId) (dI : Nat → Nat → Nat) (sz : Nat) (h0 : Nat) (b : Int32) (qa : Nat) (kA : ClassId) (t_isNull : Value) (t_opening : Value) (t_closing : Value) (t_kindCount : Value) (t_assertsOn : Value) : Met l yX10_isUnder wzX10_isUnder ({ frames := 2, cells := 0, slots := 0, locals := 120 }) (va_Pc [.ref h0, .int 2, .int b] (zPre dC dI sz [(h0, .inr (9, [.ref qa, t_isNull, t_opening, t_closing, t_kindCount, t_assertsOn])), (qa, .inl (kA, 12, .inl (upd (fun _ => 0) 0 (-1))))] [(kA, .int)])) (va_Qi (fun (r : Int32) (_ : Unit) => r = if 2 = b ∨ 0 = b then 1 else 0) (fun (_ : Unit) (t : State) => zPost dC dI (va_A [(h0, .inr (9, [.ref qa, t_isNull, t_opening, t_closing, t_kindCount, t_assertsOn])), (qa, .inl (kA, 12, .inl (upd (fun _ => 0) 0 (-1))))] sz) [] [] t) (va_A [(h0, .inr (9, [.ref qa, t_isNull, t_opening, t_closing, t_kindCount, t_assertsOn])), (qa, .inl (kA, 12, .inl (upd (fun _ => 0) 0 (-1))))] sz)) 0 0 (va_A [(h0, .inr (9, [.ref qa, t_isNull, t_opening, t_closing, t_kindCount, t_assertsOn])), (qa, .inl (kA, 12, .inl (upd (fun _ => 0) 0 (-1))))] sz) := by
  refine Met.ofW (cc := cX10_isUnder) (maxL := 5) (ret := (some .boolean)) (by decide) rfl ?_
  intro p e s m args below meth c s₁ B hml hv
  obtain ⟨rfl, hsz, hZ, hP, hK, hD0⟩ := hv
  have hx := B.exec
  have hb := B.bytes
  have hr := B.returns
  have hts := atoms_spec (ws := wzX10_isUnder) B.pre
  have hown : s.vm.findClass RX10 = some m.cls := findClass_of_methodNamed B.named
  have hlocks := B.notSynchronized
  subst hsz
  have hD := hD0.self (sz := s.heap.size)
  generalize hAe : va_A [(h0, .inr (9, [.ref qa, t_isNull, t_opening, t_closing, t_kindCount, t_assertsOn])), (qa, .inl (kA, 12, .inl (upd (fun _ => 0) 0 (-1))))] s.heap.size = A at hD ⊢
  have hA : ∀ q : Nat, s.heap.size ≤ q → A q := fun q h => by rw [← hAe]; exact Or.inr h
  have hS : va_S A s.heap s.heap [] := va_S.rf
  have hP : va_P (dC, dI) vwCl [(h0, .inr (9, [.ref qa, t_isNull, t_opening, t_closing, t_kindCount, t_assertsOn])), (qa, .inl (kA, 12, .inl (upd (fun _ => 0) 0 (-1))))] s.heap := hP
  have hl := lv_entry ([.ref h0, .int 2, .int b]) (n := 5) (Nat.le_of_ble_eq_true rfl)
  rw [lg_entry_eq]
  generalize (lg_sl ([.ref h0, .int 2, .int b]) ++ List.replicate (5 - (lg_sl ([.ref h0, .int 2, .int b])).length) Slot.unset).toArray = ls at hl ⊢
  have hl : lv_has ls 5 [(0, .ref h0), (1, .int 2), (2, .int b)] := hl
  refine lv_iload_n hx hb dX10_isUnder_0 rfl (lv_at hl 1 rfl) ?_
  refine lv_istore_n (lv' := [(3, .int 2), (0, .ref h0), (1, .int 2), (2, .int b)]) hx hb dX10_isUnder_1 rfl hl (by decide) rfl (fun ls hl => ?_)
  refine lv_iconst (v := 0) hx hb dX10_isUnder_2 (by decide) ?_
  refine lv_istore (lv' := [(4, .int 0), (3, .int 2), (0, .ref h0), (1, .int 2), (2, .int b)]) hx hb dX10_isUnder_3 hl (by decide) rfl (fun ls hl => ?_)
  refine lv_iload hx hb dX10_isUnder_5 (lv_at hl 0 rfl) ?_
  refine lv_bipush (v := 12) hx hb dX10_isUnder_7 (by decide) ?_
  refine lv_icmp_ge (tgt := 38) hx hb dX10_isUnder_9 (by decide) (fun c9 => absurd c9 (by decide)) (fun _ => ?_)
  refine lv_iload_n hx hb dX10_isUnder_12 rfl (lv_at hl 1 rfl) ?_
  refine lv_if_lt (tgt := 38) hx hb dX10_isUnder_13 (by decide) (fun c9 => absurd c9 (by decide)) (fun _ => ?_)
  refine lv_iload_n hx hb dX10_isUnder_16 rfl (lv_at hl 1 rfl) ?_
  refine lv_iload_n hx hb dX10_isUnder_17 rfl (lv_at hl 4 rfl) ?_
  refine lv_icmp_ne (tgt := 23) hx hb dX10_isUnder_18 (by decide) (fun c1 => ?_) (fun c1 => ?_)
  ·
    refine lv_aload_n hx hb dX10_isUnder_23 rfl (lv_at hl 2 rfl) ?_
    refine va_get (D := (dC, dI)) (ci := 9) (v := .ref qa) (C := RX10) (T := TX10) (N := 6) hx hb hts i_X10_isUnder_X10 hown hK hP 0 rfl rfl 0 (by decide) (hts (.fieldLink RX10 9 "StatementRules2$Told" "above" "[I") k_X10_isUnder_fieldLink_RX10_9_SR_Told_above_I) (fun _ h9 => h9) rfl dX10_isUnder_24 ?_
    refine lv_iload_n hx hb dX10_isUnder_27 rfl (lv_at hl 1 rfl) ?_
    have hPc := hP.sub (ws' := [(qa, .inl (kA, 12, .inl (upd (fun _ => 0) 0 (-1))))]) [1] rfl
    have hDc := hD.sub (ws' := [(qa, .inl (kA, 12, .inl (upd (fun _ => 0) 0 (-1))))]) [1] (by decide) rfl
    have hKc := hK.sub (tys' := [(kA, .int)]) [0] rfl
    have hFc := va_free (wc := [(qa, .inl (kA, 12, .inl (upd (fun _ => 0) 0 (-1))))]) hD hS hA [1] rfl
    refine va_calli (va_runSN (As := [.ref qa, .int 2]) (rest := []) ⟨hx, hb, hml, hown, hts⟩ (c_X11_at l dC dI _ qa kA 12 (upd (fun _ => 0) 0 (-1)) 2 (by first | decide | (unfold vp_in; decide)) (by first | decide | (unfold vp_in; decide)) (by first | decide | (unfold vp_in; decide))) ⟨va_cnB 2 hts hX10_isUnder_X11_at_n32 rfl rfl rfl (hZ.1 (.methodLinkNest RX10 32 yX11_at "StatementRules2") (by decide +kernel)) (hts (.initialized RX11) k_X10_isUnder_initialized_RX11) (by decide +kernel) ⟨Nat.le_of_ble_eq_true rfl, Nat.le_of_ble_eq_true rfl⟩, (hts (.static yX11_at) k_X10_isUnder_static_yX11_at), trivial⟩ ⟨zPre.blind, zPre.go hZ hPc hKc hDc⟩ rfl rfl hl.1 rfl (lv_room (Nat.le_of_ble_eq_true rfl)) dX10_isUnder_28 ⟨Nat.le_of_ble_eq_true rfl, Nat.le_of_ble_eq_true rfl⟩) hS (fun q _ h => hFc q h) hFc (fun r2 u9 t9 H1 locs ht hvm hw hB hz1 hk1 hS => ?_)
    obtain ⟨hP1, hK1, hD1⟩ := hB
    rw [ht] at hP1
    have hK1 := va_K.moved hvm.symm hK1
    obtain ⟨hP, hD⟩ := va_join (wr := [(h0, .inr (9, [.ref qa, t_isNull, t_opening, t_closing, t_kindCount, t_assertsOn]))]) (w1 := [(qa, .inl (kA, 12, .inl (upd (fun _ => 0) 0 (-1))))]) hP hD [1] [0] rfl rfl (by decide) (by decide) hk1 hFc hP1 hD1
    have hK := hK.app hK1
    generalize H1 = H at hP hS ⊢
    have hP : va_P (dC, dI) vwCl [(h0, .inr (9, [.ref qa, t_isNull, t_opening, t_closing, t_kindCount, t_assertsOn])), (qa, .inl (kA, 12, .inl (upd (fun _ => 0) 0 (-1))))] H := hP
    have hD : va_D A [(h0, .inr (9, [.ref qa, t_isNull, t_opening, t_closing, t_kindCount, t_assertsOn])), (qa, .inl (kA, 12, .inl (upd (fun _ => 0) 0 (-1))))] := hD
    have hK : va_K (dC, dI) vwCl [(kA, .int), (kA, .int)] s := hK
    have hK : va_K (dC, dI) vwCl [(kA, .int)] s := hK.sub [0] rfl
    obtain rfl : r2 = 0 := hw.trans (by decide)
    refine lv_istore_n (lv' := [(3, .int 0), (4, .int 0), (0, .ref h0), (1, .int 2), (2, .int b)]) hx hb dX10_isUnder_31 rfl hl (by decide) rfl (fun ls hl => ?_)
    refine lv_iinc (v := 1) (lv' := [(4, .int 1), (3, .int 0), (0, .ref h0), (1, .int 2), (2, .int b)]) hx hb dX10_isUnder_32 hl (k := 1) rfl (by decide) (by decide) rfl (fun ls hl => ?_)
    refine lv_goto (tgt := 5) hx hb dX10_isUnder_35 (by decide) ?_
    refine lv_iload hx hb dX10_isUnder_5 (lv_at hl 0 rfl) ?_
    refine lv_bipush (v := 12) hx hb dX10_isUnder_7 (by decide) ?_
    refine lv_icmp_ge (tgt := 38) hx hb dX10_isUnder_9 (by decide) (fun c9 => absurd c9 (by decide)) (fun _ => ?_)
    refine lv_iload_n hx hb dX10_isUnder_12 rfl (lv_at hl 1 rfl) ?_
    refine lv_if_lt (tgt := 38) hx hb dX10_isUnder_13 (by decide) (fun c9 => absurd c9 (by decide)) (fun _ => ?_)
    refine lv_iload_n hx hb dX10_isUnder_16 rfl (lv_at hl 1 rfl) ?_
    refine lv_iload_n hx hb dX10_isUnder_17 rfl (lv_at hl 4 rfl) ?_
    refine lv_icmp_ne (tgt := 23) hx hb dX10_isUnder_18 (by decide) (fun c3 => ?_) (fun c3 => ?_)
    ·
      refine lv_aload_n hx hb dX10_isUnder_23 rfl (lv_at hl 2 rfl) ?_
      refine va_get (D := (dC, dI)) (ci := 9) (v := .ref qa) (C := RX10) (T := TX10) (N := 6) hx hb hts i_X10_isUnder_X10 hown hK hP 0 rfl rfl 0 (by decide) (hts (.fieldLink RX10 9 "StatementRules2$Told" "above" "[I") k_X10_isUnder_fieldLink_RX10_9_SR_Told_above_I) (fun _ h9 => h9) rfl dX10_isUnder_24 ?_
      refine lv_iload_n hx hb dX10_isUnder_27 rfl (lv_at hl 1 rfl) ?_
      have hPc := hP.sub (ws' := [(qa, .inl (kA, 12, .inl (upd (fun _ => 0) 0 (-1))))]) [1] rfl
      have hDc := hD.sub (ws' := [(qa, .inl (kA, 12, .inl (upd (fun _ => 0) 0 (-1))))]) [1] (by decide) rfl
      have hKc := hK.sub (tys' := [(kA, .int)]) [0] rfl
      have hFc := va_free (wc := [(qa, .inl (kA, 12, .inl (upd (fun _ => 0) 0 (-1))))]) hD hS hA [1] rfl
      refine va_calli (va_runSN (As := [.ref qa, .int 0]) (rest := []) ⟨hx, hb, hml, hown, hts⟩ (c_X11_at l dC dI _ qa kA 12 (upd (fun _ => 0) 0 (-1)) 0 (by first | decide | (unfold vp_in; decide)) (by first | decide | (unfold vp_in; decide)) (by first | decide | (unfold vp_in; decide))) ⟨va_cnB 2 hts hX10_isUnder_X11_at_n32 rfl rfl rfl (hZ.1 (.methodLinkNest RX10 32 yX11_at "StatementRules2") (by decide +kernel)) (hts (.initialized RX11) k_X10_isUnder_initialized_RX11) (by decide +kernel) ⟨Nat.le_of_ble_eq_true rfl, Nat.le_of_ble_eq_true rfl⟩, (hts (.static yX11_at) k_X10_isUnder_static_yX11_at), trivial⟩ ⟨zPre.blind, zPre.go hZ hPc hKc hDc⟩ rfl rfl hl.1 rfl (lv_room (Nat.le_of_ble_eq_true rfl)) dX10_isUnder_28 ⟨Nat.le_of_ble_eq_true rfl, Nat.le_of_ble_eq_true rfl⟩) hS (fun q _ h => hFc q h) hFc (fun r4 u9 t9 H1 locs ht hvm hw hB hz1 hk1 hS => ?_)
      obtain ⟨hP1, hK1, hD1⟩ := hB
      rw [ht] at hP1
      have hK1 := va_K.moved hvm.symm hK1
      obtain ⟨hP, hD⟩ := va_join (wr := [(h0, .inr (9, [.ref qa, t_isNull, t_opening, t_closing, t_kindCount, t_assertsOn]))]) (w1 := [(qa, .inl (kA, 12, .inl (upd (fun _ => 0) 0 (-1))))]) hP hD [1] [0] rfl rfl (by decide) (by decide) hk1 hFc hP1 hD1
      have hK := hK.app hK1
      generalize H1 = H at hP hS ⊢
      have hP : va_P (dC, dI) vwCl [(h0, .inr (9, [.ref qa, t_isNull, t_opening, t_closing, t_kindCount, t_assertsOn])), (qa, .inl (kA, 12, .inl (upd (fun _ => 0) 0 (-1))))] H := hP
      have hD : va_D A [(h0, .inr (9, [.ref qa, t_isNull, t_opening, t_closing, t_kindCount, t_assertsOn])), (qa, .inl (kA, 12, .inl (upd (fun _ => 0) 0 (-1))))] := hD
      have hK : va_K (dC, dI) vwCl [(kA, .int), (kA, .int)] s := hK
      have hK : va_K (dC, dI) vwCl [(kA, .int)] s := hK.sub [0] rfl
      obtain rfl : r4 = (-1) := hw.trans (by decide)
      refine lv_istore_n (lv' := [(3, .int (-1)), (4, .int 1), (0, .ref h0), (1, .int 2), (2, .int b)]) hx hb dX10_isUnder_31 rfl hl (by decide) rfl (fun ls hl => ?_)
      refine lv_iinc (v := 2) (lv' := [(4, .int 2), (3, .int (-1)), (0, .ref h0), (1, .int 2), (2, .int b)]) hx hb dX10_isUnder_32 hl (k := 1) rfl (by decide) (by decide) rfl (fun ls hl => ?_)
      refine lv_goto (tgt := 5) hx hb dX10_isUnder_35 (by decide) ?_
      refine lv_iload hx hb dX10_isUnder_5 (lv_at hl 0 rfl) ?_
      refine lv_bipush (v := 12) hx hb dX10_isUnder_7 (by decide) ?_
      refine lv_icmp_ge (tgt := 38) hx hb dX10_isUnder_9 (by decide) (fun c9 => absurd c9 (by decide)) (fun _ => ?_)
      refine lv_iload_n hx hb dX10_isUnder_12 rfl (lv_at hl 1 rfl) ?_
      refine lv_if_lt (tgt := 38) hx hb dX10_isUnder_13 (by decide) (fun _ => ?_) (fun c9 => absurd (by decide) c9)
      refine lv_iconst (v := 0) hx hb dX10_isUnder_38 (by decide) ?_
      have hP9 := hP.sub (ws' := []) [] rfl
      have hD9 := hD.sub (ws' := []) [] (by decide) rfl
      have hK9 := hK.sub (tys' := []) [] rfl
      exact W.zret (v := 0) hx hb hr (rfl) (fun t ht hW => ⟨⟨0, (), rfl, (if_neg (fun h => h.elim c1 c3)).symm, by rw [ht]; exact hP9, va_K.moved hW.alike hK9, hD9⟩, hS.F ht⟩) hS.2.2 dX10_isUnder_39
    ·
      refine lv_iconst (v := 1) hx hb dX10_isUnder_21 (by decide) ?_
      have hP9 := hP.sub (ws' := []) [] rfl
      have hD9 := hD.sub (ws' := []) [] (by decide) rfl
      have hK9 := hK.sub (tys' := []) [] rfl
      exact W.zret (v := 1) hx hb hr (rfl) (fun t ht hW => ⟨⟨1, (), rfl, (if_pos (Or.inr c3)).symm, by rw [ht]; exact hP9, va_K.moved hW.alike hK9, hD9⟩, hS.F ht⟩) hS.2.2 dX10_isUnder_22
  ·
    refine lv_iconst (v := 1) hx hb dX10_isUnder_21 (by decide) ?_
    have hP9 := hP.sub (ws' := []) [] rfl
    have hD9 := hD.sub (ws' := []) [] (by decide) rfl
    have hK9 := hK.sub (tys' := []) [] rfl
    exact W.zret (v := 1) hx hb hr (rfl) (fun t ht hW => ⟨⟨1, (), rfl, (if_pos (Or.inl c1)).symm, by rw [ht]; exact hP9, va_K.moved hW.alike hK9, hD9⟩, hS.F ht⟩) hS.2.2 dX10_isUnder_22
set_option maxHeartbeats 4000000 in
set_option maxRecDepth 100000 in
theorem c_X10_isUnder_3 (l : Launch) (dC : Nat → ClassId) (dI : Nat → Nat → Nat) (sz : Nat) (h0 : Nat) (b : Int32) (qa : Nat) (kA : ClassId) (t_isNull : Value) (t_opening : Value) (t_closing : Value) (t_kindCount : Value) (t_assertsOn : Value) : Met l yX10_isUnder wzX10_isUnder ({ frames := 2, cells := 0, slots := 0, locals := 120 }) (va_Pc [.ref h0, .int 3, .int b] (zPre dC dI sz [(h0, .inr (9, [.ref qa, t_isNull, t_opening, t_closing, t_kindCount, t_assertsOn])), (qa, .inl (kA, 12, .inl (upd (fun _ => 0) 0 (-1))))] [(kA, .int)])) (va_Qi (fun (r : Int32) (_ : Unit) => r = if 3 = b ∨ 0 = b then 1 else 0) (fun (_ : Unit) (t : State) => zPost dC dI (va_A [(h0, .inr (9, [.ref qa, t_isNull, t_opening, t_closing, t_kindCount, t_assertsOn])), (qa, .inl (kA, 12, .inl (upd (fun _ => 0) 0 (-1))))] sz) [] [] t) (va_A [(h0, .inr (9, [.ref qa, t_isNull, t_opening, t_closing, t_kindCount, t_assertsOn])), (qa, .inl (kA, 12, .inl (upd (fun _ => 0) 0 (-1))))] sz)) 0 0 (va_A [(h0, .inr (9, [.ref qa, t_isNull, t_opening, t_closing, t_kindCount, t_assertsOn])), (qa, .inl (kA, 12, .inl (upd (fun _ => 0) 0 (-1))))] sz) := by
  refine Met.ofW (cc := cX10_isUnder) (maxL := 5) (ret := (some .boolean)) (by decide) rfl ?_
  intro p e s m args below meth c s₁ B hml hv
  obtain ⟨rfl, hsz, hZ, hP, hK, hD0⟩ := hv
  have hx := B.exec
  have hb := B.bytes
  have hr := B.returns
  have hts := atoms_spec (ws := wzX10_isUnder) B.pre
  have hown : s.vm.findClass RX10 = some m.cls := findClass_of_methodNamed B.named
  have hlocks := B.notSynchronized
  subst hsz
  have hD := hD0.self (sz := s.heap.size)
  generalize hAe : va_A [(h0, .inr (9, [.ref qa, t_isNull, t_opening, t_closing, t_kindCount, t_assertsOn])), (qa, .inl (kA, 12, .inl (upd (fun _ => 0) 0 (-1))))] s.heap.size = A at hD ⊢
  have hA : ∀ q : Nat, s.heap.size ≤ q → A q := fun q h => by rw [← hAe]; exact Or.inr h
  have hS : va_S A s.heap s.heap [] := va_S.rf
  have hP : va_P (dC, dI) vwCl [(h0, .inr (9, [.ref qa, t_isNull, t_opening, t_closing, t_kindCount, t_assertsOn])), (qa, .inl (kA, 12, .inl (upd (fun _ => 0) 0 (-1))))] s.heap := hP
  have hl := lv_entry ([.ref h0, .int 3, .int b]) (n := 5) (Nat.le_of_ble_eq_true rfl)
  rw [lg_entry_eq]
  generalize (lg_sl ([.ref h0, .int 3, .int b]) ++ List.replicate (5 - (lg_sl ([.ref h0, .int 3, .int b])).length) Slot.unset).toArray = ls at hl ⊢
  have hl : lv_has ls 5 [(0, .ref h0), (1, .int 3), (2, .int b)] := hl
  refine lv_iload_n hx hb dX10_isUnder_0 rfl (lv_at hl 1 rfl) ?_
  refine lv_istore_n (lv' := [(3, .int 3), (0, .ref h0), (1, .int 3), (2, .int b)]) hx hb dX10_isUnder_1 rfl hl (by decide) rfl (fun ls hl => ?_)
  refine lv_iconst (v := 0) hx hb dX10_isUnder_2 (by decide) ?_
  refine lv_istore (lv' := [(4, .int 0), (3, .int 3), (0, .ref h0), (1, .int 3), (2, .int b)]) hx hb dX10_isUnder_3 hl (by decide) rfl (fun ls hl => ?_)
  refine lv_iload hx hb dX10_isUnder_5 (lv_at hl 0 rfl) ?_
  refine lv_bipush (v := 12) hx hb dX10_isUnder_7 (by decide) ?_
  refine lv_icmp_ge (tgt := 38) hx hb dX10_isUnder_9 (by decide) (fun c9 => absurd c9 (by decide)) (fun _ => ?_)
  refine lv_iload_n hx hb dX10_isUnder_12 rfl (lv_at hl 1 rfl) ?_
  refine lv_if_lt (tgt := 38) hx hb dX10_isUnder_13 (by decide) (fun c9 => absurd c9 (by decide)) (fun _ => ?_)
  refine lv_iload_n hx hb dX10_isUnder_16 rfl (lv_at hl 1 rfl) ?_
  refine lv_iload_n hx hb dX10_isUnder_17 rfl (lv_at hl 4 rfl) ?_
  refine lv_icmp_ne (tgt := 23) hx hb dX10_isUnder_18 (by decide) (fun c1 => ?_) (fun c1 => ?_)
  ·
    refine lv_aload_n hx hb dX10_isUnder_23 rfl (lv_at hl 2 rfl) ?_
    refine va_get (D := (dC, dI)) (ci := 9) (v := .ref qa) (C := RX10) (T := TX10) (N := 6) hx hb hts i_X10_isUnder_X10 hown hK hP 0 rfl rfl 0 (by decide) (hts (.fieldLink RX10 9 "StatementRules2$Told" "above" "[I") k_X10_isUnder_fieldLink_RX10_9_SR_Told_above_I) (fun _ h9 => h9) rfl dX10_isUnder_24 ?_
    refine lv_iload_n hx hb dX10_isUnder_27 rfl (lv_at hl 1 rfl) ?_
    have hPc := hP.sub (ws' := [(qa, .inl (kA, 12, .inl (upd (fun _ => 0) 0 (-1))))]) [1] rfl
    have hDc := hD.sub (ws' := [(qa, .inl (kA, 12, .inl (upd (fun _ => 0) 0 (-1))))]) [1] (by decide) rfl
    have hKc := hK.sub (tys' := [(kA, .int)]) [0] rfl
    have hFc := va_free (wc := [(qa, .inl (kA, 12, .inl (upd (fun _ => 0) 0 (-1))))]) hD hS hA [1] rfl
    refine va_calli (va_runSN (As := [.ref qa, .int 3]) (rest := []) ⟨hx, hb, hml, hown, hts⟩ (c_X11_at l dC dI _ qa kA 12 (upd (fun _ => 0) 0 (-1)) 3 (by first | decide | (unfold vp_in; decide)) (by first | decide | (unfold vp_in; decide)) (by first | decide | (unfold vp_in; decide))) ⟨va_cnB 2 hts hX10_isUnder_X11_at_n32 rfl rfl rfl (hZ.1 (.methodLinkNest RX10 32 yX11_at "StatementRules2") (by decide +kernel)) (hts (.initialized RX11) k_X10_isUnder_initialized_RX11) (by decide +kernel) ⟨Nat.le_of_ble_eq_true rfl, Nat.le_of_ble_eq_true rfl⟩, (hts (.static yX11_at) k_X10_isUnder_static_yX11_at), trivial⟩ ⟨zPre.blind, zPre.go hZ hPc hKc hDc⟩ rfl rfl hl.1 rfl (lv_room (Nat.le_of_ble_eq_true rfl)) dX10_isUnder_28 ⟨Nat.le_of_ble_eq_true rfl, Nat.le_of_ble_eq_true rfl⟩) hS (fun q _ h => hFc q h) hFc (fun r2 u9 t9 H1 locs ht hvm hw hB hz1 hk1 hS => ?_)
    obtain ⟨hP1, hK1, hD1⟩ := hB
    rw [ht] at hP1
    have hK1 := va_K.moved hvm.symm hK1
    obtain ⟨hP, hD⟩ := va_join (wr := [(h0, .inr (9, [.ref qa, t_isNull, t_opening, t_closing, t_kindCount, t_assertsOn]))]) (w1 := [(qa, .inl (kA, 12, .inl (upd (fun _ => 0) 0 (-1))))]) hP hD [1] [0] rfl rfl (by decide) (by decide) hk1 hFc hP1 hD1
    have hK := hK.app hK1
    generalize H1 = H at hP hS ⊢
    have hP : va_P (dC, dI) vwCl [(h0, .inr (9, [.ref qa, t_isNull, t_opening, t_closing, t_kindCount, t_assertsOn])), (qa, .inl (kA, 12, .inl (upd (fun _ => 0) 0 (-1))))] H := hP
    have hD : va_D A [(h0, .inr (9, [.ref qa, t_isNull, t_opening, t_closing, t_kindCount, t_assertsOn])), (qa, .inl (kA, 12, .inl (upd (fun _ => 0) 0 (-1))))] := hD
    have hK : va_K (dC, dI) vwCl [(kA, .int), (kA, .int)] s := hK
    have hK : va_K (dC, dI) vwCl [(kA, .int)] s := hK.sub [0] rfl
    obtain rfl : r2 = 0 := hw.trans (by decide)
    refine lv_istore_n (lv' := [(3, .int 0), (4, .int 0), (0, .ref h0), (1, .int 3), (2, .int b)]) hx hb dX10_isUnder_31 rfl hl (by decide) rfl (fun ls hl => ?_)
    refine lv_iinc (v := 1) (lv' := [(4, .int 1), (3, .int 0), (0, .ref h0), (1, .int 3), (2, .int b)]) hx hb dX10_isUnder_32 hl (k := 1) rfl (by decide) (by decide) rfl (fun ls hl => ?_)
    refine lv_goto (tgt := 5) hx hb dX10_isUnder_35 (by decide) ?_
    refine lv_iload hx hb dX10_isUnder_5 (lv_at hl 0 rfl) ?_
    refine lv_bipush (v := 12) hx hb dX10_isUnder_7 (by decide) ?_
    refine lv_icmp_ge (tgt := 38) hx hb dX10_isUnder_9 (by decide) (fun c9 => absurd c9 (by decide)) (fun _ => ?_)
    refine lv_iload_n hx hb dX10_isUnder_12 rfl (lv_at hl 1 rfl) ?_
    refine lv_if_lt (tgt := 38) hx hb dX10_isUnder_13 (by decide) (fun c9 => absurd c9 (by decide)) (fun _ => ?_)
    refine lv_iload_n hx hb dX10_isUnder_16 rfl (lv_at hl 1 rfl) ?_
    refine lv_iload_n hx hb dX10_isUnder_17 rfl (lv_at hl 4 rfl) ?_
    refine lv_icmp_ne (tgt := 23) hx hb dX10_isUnder_18 (by decide) (fun c3 => ?_) (fun c3 => ?_)
    ·
      refine lv_aload_n hx hb dX10_isUnder_23 rfl (lv_at hl 2 rfl) ?_
      refine va_get (D := (dC, dI)) (ci := 9) (v := .ref qa) (C := RX10) (T := TX10) (N := 6) hx hb hts i_X10_isUnder_X10 hown hK hP 0 rfl rfl 0 (by decide) (hts (.fieldLink RX10 9 "StatementRules2$Told" "above" "[I") k_X10_isUnder_fieldLink_RX10_9_SR_Told_above_I) (fun _ h9 => h9) rfl dX10_isUnder_24 ?_
      refine lv_iload_n hx hb dX10_isUnder_27 rfl (lv_at hl 1 rfl) ?_
      have hPc := hP.sub (ws' := [(qa, .inl (kA, 12, .inl (upd (fun _ => 0) 0 (-1))))]) [1] rfl
      have hDc := hD.sub (ws' := [(qa, .inl (kA, 12, .inl (upd (fun _ => 0) 0 (-1))))]) [1] (by decide) rfl
      have hKc := hK.sub (tys' := [(kA, .int)]) [0] rfl
      have hFc := va_free (wc := [(qa, .inl (kA, 12, .inl (upd (fun _ => 0) 0 (-1))))]) hD hS hA [1] rfl
      refine va_calli (va_runSN (As := [.ref qa, .int 0]) (rest := []) ⟨hx, hb, hml, hown, hts⟩ (c_X11_at l dC dI _ qa kA 12 (upd (fun _ => 0) 0 (-1)) 0 (by first | decide | (unfold vp_in; decide)) (by first | decide | (unfold vp_in; decide)) (by first | decide | (unfold vp_in; decide))) ⟨va_cnB 2 hts hX10_isUnder_X11_at_n32 rfl rfl rfl (hZ.1 (.methodLinkNest RX10 32 yX11_at "StatementRules2") (by decide +kernel)) (hts (.initialized RX11) k_X10_isUnder_initialized_RX11) (by decide +kernel) ⟨Nat.le_of_ble_eq_true rfl, Nat.le_of_ble_eq_true rfl⟩, (hts (.static yX11_at) k_X10_isUnder_static_yX11_at), trivial⟩ ⟨zPre.blind, zPre.go hZ hPc hKc hDc⟩ rfl rfl hl.1 rfl (lv_room (Nat.le_of_ble_eq_true rfl)) dX10_isUnder_28 ⟨Nat.le_of_ble_eq_true rfl, Nat.le_of_ble_eq_true rfl⟩) hS (fun q _ h => hFc q h) hFc (fun r4 u9 t9 H1 locs ht hvm hw hB hz1 hk1 hS => ?_)
      obtain ⟨hP1, hK1, hD1⟩ := hB
      rw [ht] at hP1
      have hK1 := va_K.moved hvm.symm hK1
      obtain ⟨hP, hD⟩ := va_join (wr := [(h0, .inr (9, [.ref qa, t_isNull, t_opening, t_closing, t_kindCount, t_assertsOn]))]) (w1 := [(qa, .inl (kA, 12, .inl (upd (fun _ => 0) 0 (-1))))]) hP hD [1] [0] rfl rfl (by decide) (by decide) hk1 hFc hP1 hD1
      have hK := hK.app hK1
      generalize H1 = H at hP hS ⊢
      have hP : va_P (dC, dI) vwCl [(h0, .inr (9, [.ref qa, t_isNull, t_opening, t_closing, t_kindCount, t_assertsOn])), (qa, .inl (kA, 12, .inl (upd (fun _ => 0) 0 (-1))))] H := hP
      have hD : va_D A [(h0, .inr (9, [.ref qa, t_isNull, t_opening, t_closing, t_kindCount, t_assertsOn])), (qa, .inl (kA, 12, .inl (upd (fun _ => 0) 0 (-1))))] := hD
      have hK : va_K (dC, dI) vwCl [(kA, .int), (kA, .int)] s := hK
      have hK : va_K (dC, dI) vwCl [(kA, .int)] s := hK.sub [0] rfl
      obtain rfl : r4 = (-1) := hw.trans (by decide)
      refine lv_istore_n (lv' := [(3, .int (-1)), (4, .int 1), (0, .ref h0), (1, .int 3), (2, .int b)]) hx hb dX10_isUnder_31 rfl hl (by decide) rfl (fun ls hl => ?_)
      refine lv_iinc (v := 2) (lv' := [(4, .int 2), (3, .int (-1)), (0, .ref h0), (1, .int 3), (2, .int b)]) hx hb dX10_isUnder_32 hl (k := 1) rfl (by decide) (by decide) rfl (fun ls hl => ?_)
      refine lv_goto (tgt := 5) hx hb dX10_isUnder_35 (by decide) ?_
      refine lv_iload hx hb dX10_isUnder_5 (lv_at hl 0 rfl) ?_
      refine lv_bipush (v := 12) hx hb dX10_isUnder_7 (by decide) ?_
      refine lv_icmp_ge (tgt := 38) hx hb dX10_isUnder_9 (by decide) (fun c9 => absurd c9 (by decide)) (fun _ => ?_)
      refine lv_iload_n hx hb dX10_isUnder_12 rfl (lv_at hl 1 rfl) ?_
      refine lv_if_lt (tgt := 38) hx hb dX10_isUnder_13 (by decide) (fun _ => ?_) (fun c9 => absurd (by decide) c9)
      refine lv_iconst (v := 0) hx hb dX10_isUnder_38 (by decide) ?_
      have hP9 := hP.sub (ws' := []) [] rfl
      have hD9 := hD.sub (ws' := []) [] (by decide) rfl
      have hK9 := hK.sub (tys' := []) [] rfl
      exact W.zret (v := 0) hx hb hr (rfl) (fun t ht hW => ⟨⟨0, (), rfl, (if_neg (fun h => h.elim c1 c3)).symm, by rw [ht]; exact hP9, va_K.moved hW.alike hK9, hD9⟩, hS.F ht⟩) hS.2.2 dX10_isUnder_39
    ·
      refine lv_iconst (v := 1) hx hb dX10_isUnder_21 (by decide) ?_
      have hP9 := hP.sub (ws' := []) [] rfl
      have hD9 := hD.sub (ws' := []) [] (by decide) rfl
      have hK9 := hK.sub (tys' := []) [] rfl
      exact W.zret (v := 1) hx hb hr (rfl) (fun t ht hW => ⟨⟨1, (), rfl, (if_pos (Or.inr c3)).symm, by rw [ht]; exact hP9, va_K.moved hW.alike hK9, hD9⟩, hS.F ht⟩) hS.2.2 dX10_isUnder_22
  ·
    refine lv_iconst (v := 1) hx hb dX10_isUnder_21 (by decide) ?_
    have hP9 := hP.sub (ws' := []) [] rfl
    have hD9 := hD.sub (ws' := []) [] (by decide) rfl
    have hK9 := hK.sub (tys' := []) [] rfl
    exact W.zret (v := 1) hx hb hr (rfl) (fun t ht hW => ⟨⟨1, (), rfl, (if_pos (Or.inl c1)).symm, by rw [ht]; exact hP9, va_K.moved hW.alike hK9, hD9⟩, hS.F ht⟩) hS.2.2 dX10_isUnder_22
theorem k_X11_under_fieldLink_RX11_16_SR_told_LSR_Told : Cond.fieldLink RX11 16 "StatementRules2" "told" "LStatementRules2$Told;" ∈ wzX11_under := List.mem_cons_of_mem _ (List.mem_append_left _ (List.mem_of_getElem? (i := 0) rfl))
theorem i_X11_under_X11 : ∀ w ∈ wsX110, w ∈ wzX11_under := fun _ h => List.mem_cons_of_mem _ (List.mem_append_right _ (List.mem_append_left _ (h)))
set_option maxHeartbeats 4000000 in
set_option maxRecDepth 100000 in
theorem c_X11_under (l : Launch) (dC : Nat → ClassId) (dI : Nat → Nat → Nat) (sz : Nat) (h0 : Nat) (q1 : Nat) (x_tape : Value) (x_code : Value) (x_reader : Value) (x_machine : Value) (x_length : Value) (x_latestFault : Value) (x_hasProgram : Value) (x_hasRun : Value) (a : Int32) (b : Int32) (qa : Nat) (kA : ClassId) (t_isNull : Value) (t_opening : Value) (t_closing : Value) (t_assertsOn : Value) : Met l yX11_under wzX11_under ({ frames := 3, cells := 0, slots := 0, locals := 180 }) (va_Pc [.ref h0, .int a, .int b] (zPre dC dI sz [(h0, .inr (10, [x_tape, .ref q1, x_code, x_reader, x_machine, x_length, x_latestFault, x_hasProgram, x_hasRun])), (q1, .inr (9, [.ref qa, t_isNull, t_opening, t_closing, .int 4, t_assertsOn])), (qa, .inl (kA, 12, .inl (upd (fun _ => 0) 0 (-1))))] [(kA, .int)])) (va_Qi (fun (r : Int32) (_ : Unit) => r = if (¬ a < 0 ∧ ¬ 4 ≤ a) ∧ (¬ b < 0 ∧ ¬ 4 ≤ b) then (if a = b ∨ 0 = b then 1 else 0) else -1) (fun (_ : Unit) (t : State) => zPost dC dI (va_A [(h0, .inr (10, [x_tape, .ref q1, x_code, x_reader, x_machine, x_length, x_latestFault, x_hasProgram, x_hasRun])), (q1, .inr (9, [.ref qa, t_isNull, t_opening, t_closing, .int 4, t_assertsOn])), (qa, .inl (kA, 12, .inl (upd (fun _ => 0) 0 (-1))))] sz) [] [] t) (va_A [(h0, .inr (10, [x_tape, .ref q1, x_code, x_reader, x_machine, x_length, x_latestFault, x_hasProgram, x_hasRun])), (q1, .inr (9, [.ref qa, t_isNull, t_opening, t_closing, .int 4, t_assertsOn])), (qa, .inl (kA, 12, .inl (upd (fun _ => 0) 0 (-1))))] sz)) 0 0 (va_A [(h0, .inr (10, [x_tape, .ref q1, x_code, x_reader, x_machine, x_length, x_latestFault, x_hasProgram, x_hasRun])), (q1, .inr (9, [.ref qa, t_isNull, t_opening, t_closing, .int 4, t_assertsOn])), (qa, .inl (kA, 12, .inl (upd (fun _ => 0) 0 (-1))))] sz) := by
  refine Met.ofW (cc := cX11_under) (maxL := 3) (ret := (some .int)) (by decide) rfl ?_
  intro p e s m args below meth c s₁ B hml hv
  obtain ⟨rfl, hsz, hZ, hP, hK, hD0⟩ := hv
  have hx := B.exec
  have hb := B.bytes
  have hr := B.returns
  have hts := atoms_spec (ws := wzX11_under) B.pre
  have hown : s.vm.findClass RX11 = some m.cls := findClass_of_methodNamed B.named
  have hlocks := B.notSynchronized
  subst hsz
  have hD := hD0.self (sz := s.heap.size)
  generalize hAe : va_A [(h0, .inr (10, [x_tape, .ref q1, x_code, x_reader, x_machine, x_length, x_latestFault, x_hasProgram, x_hasRun])), (q1, .inr (9, [.ref qa, t_isNull, t_opening, t_closing, .int 4, t_assertsOn])), (qa, .inl (kA, 12, .inl (upd (fun _ => 0) 0 (-1))))] s.heap.size = A at hD ⊢
  have hA : ∀ q : Nat, s.heap.size ≤ q → A q := fun q h => by rw [← hAe]; exact Or.inr h
  have hS : va_S A s.heap s.heap [] := va_S.rf
  have hP : va_P (dC, dI) vwCl [(h0, .inr (10, [x_tape, .ref q1, x_code, x_reader, x_machine, x_length, x_latestFault, x_hasProgram, x_hasRun])), (q1, .inr (9, [.ref qa, t_isNull, t_opening, t_closing, .int 4, t_assertsOn])), (qa, .inl (kA, 12, .inl (upd (fun _ => 0) 0 (-1))))] s.heap := hP
  have hl := lv_entry ([.ref h0, .int a, .int b]) (n := 3) (Nat.le_of_ble_eq_true rfl)
  rw [lg_entry_eq]
  generalize (lg_sl ([.ref h0, .int a, .int b]) ++ List.replicate (3 - (lg_sl ([.ref h0, .int a, .int b])).length) Slot.unset).toArray = ls at hl ⊢
  have hl : lv_has ls 3 [(0, .ref h0), (1, .int a), (2, .int b)] := hl
  refine lv_aload_n hx hb dX11_under_0 rfl (lv_at hl 0 rfl) ?_
  refine va_get (D := (dC, dI)) (ci := 10) (v := .ref q1) (C := RX11) (T := TX11) (N := 9) hx hb hts i_X11_under_X11 hown hK hP 0 rfl rfl 1 (by decide) (hts (.fieldLink RX11 16 "StatementRules2" "told" "LStatementRules2$Told;") k_X11_under_fieldLink_RX11_16_SR_told_LSR_Told) (fun _ h9 => h9) rfl dX11_under_1 ?_
  refine lv_iload_n hx hb dX11_under_4 rfl (lv_at hl 1 rfl) ?_
  have hPc := hP.sub (ws' := [(q1, .inr (9, [.ref qa, t_isNull, t_opening, t_closing, .int 4, t_assertsOn]))]) [1] rfl
  have hDc := hD.sub (ws' := [(q1, .inr (9, [.ref qa, t_isNull, t_opening, t_closing, .int 4, t_assertsOn]))]) [1] (by decide) rfl
  have hKc := hK.sub (tys' := []) [] rfl
  have hFc := va_free (wc := [(q1, .inr (9, [.ref qa, t_isNull, t_opening, t_closing, .int 4, t_assertsOn]))]) hD hS hA [1] rfl
  refine va_calli (va_runV (As := [.int a]) (rest := []) ⟨hx, hb, hml, hown, hts⟩ (c_X10_isKind l dC dI _ q1 a (.ref qa) t_isNull t_opening t_closing t_assertsOn) (cwV 1 hts hX11_under_X10_isKind_v62 rfl rfl rfl (by decide +kernel) ⟨Nat.le_of_ble_eq_true rfl, Nat.le_of_ble_eq_true rfl⟩) ⟨zPre.blind, va_recv hKc hPc (ci := 9) (q0 := 0) rfl rfl, zPre.go hZ hPc hKc hDc⟩ rfl rfl hl.1 rfl (lv_room (Nat.le_of_ble_eq_true rfl)) dX11_under_5 ⟨Nat.le_of_ble_eq_true rfl, Nat.le_of_ble_eq_true rfl⟩) hS (fun q _ h => hFc q h) hFc (fun r1 u9 t9 H1 locs ht hvm hw hB hz1 hk1 hS => ?_)
  obtain ⟨hP1, hK1, hD1⟩ := hB
  rw [ht] at hP1
  have hK1 := va_K.moved hvm.symm hK1
  obtain ⟨hP, hD⟩ := va_join (wr := [(h0, .inr (10, [x_tape, .ref q1, x_code, x_reader, x_machine, x_length, x_latestFault, x_hasProgram, x_hasRun])), (qa, .inl (kA, 12, .inl (upd (fun _ => 0) 0 (-1))))]) (w1 := [(q1, .inr (9, [.ref qa, t_isNull, t_opening, t_closing, .int 4, t_assertsOn]))]) hP hD [1] [0, 2] rfl rfl (by decide) (by decide) hk1 hFc hP1 hD1
  have hK := hK.app hK1
  generalize H1 = H at hP hS ⊢
  have hP : va_P (dC, dI) vwCl [(h0, .inr (10, [x_tape, .ref q1, x_code, x_reader, x_machine, x_length, x_latestFault, x_hasProgram, x_hasRun])), (qa, .inl (kA, 12, .inl (upd (fun _ => 0) 0 (-1)))), (q1, .inr (9, [.ref qa, t_isNull, t_opening, t_closing, .int 4, t_assertsOn]))] H := hP
  have hD : va_D A [(h0, .inr (10, [x_tape, .ref q1, x_code, x_reader, x_machine, x_length, x_latestFault, x_hasProgram, x_hasRun])), (qa, .inl (kA, 12, .inl (upd (fun _ => 0) 0 (-1)))), (q1, .inr (9, [.ref qa, t_isNull, t_opening, t_closing, .int 4, t_assertsOn]))] := hD
  have hK : va_K (dC, dI) vwCl [(kA, .int)] s := hK
  by_cases c2 : ¬ a < 0 ∧ ¬ 4 ≤ a
  ·
    obtain rfl : r1 = 1 := hw.trans (if_pos c2)
    refine lv_if_eq (tgt := 22) hx hb dX11_under_8 (by decide) (fun c9 => absurd c9 (by decide)) (fun _ => ?_)
    refine lv_aload_n hx hb dX11_under_11 rfl (lv_at hl 0 rfl) ?_
    refine va_get (D := (dC, dI)) (ci := 10) (v := .ref q1) (C := RX11) (T := TX11) (N := 9) hx hb hts i_X11_under_X11 hown hK hP 0 rfl rfl 1 (by decide) (hts (.fieldLink RX11 16 "StatementRules2" "told" "LStatementRules2$Told;") k_X11_under_fieldLink_RX11_16_SR_told_LSR_Told) (fun _ h9 => h9) rfl dX11_under_12 ?_
    refine lv_iload_n hx hb dX11_under_15 rfl (lv_at hl 2 rfl) ?_
    have hPc := hP.sub (ws' := [(q1, .inr (9, [.ref qa, t_isNull, t_opening, t_closing, .int 4, t_assertsOn]))]) [2] rfl
    have hDc := hD.sub (ws' := [(q1, .inr (9, [.ref qa, t_isNull, t_opening, t_closing, .int 4, t_assertsOn]))]) [2] (by decide) rfl
    have hKc := hK.sub (tys' := []) [] rfl
    have hFc := va_free (wc := [(q1, .inr (9, [.ref qa, t_isNull, t_opening, t_closing, .int 4, t_assertsOn]))]) hD hS hA [2] rfl
    refine va_calli (va_runV (As := [.int b]) (rest := []) ⟨hx, hb, hml, hown, hts⟩ (c_X10_isKind l dC dI _ q1 b (.ref qa) t_isNull t_opening t_closing t_assertsOn) (cwV 1 hts hX11_under_X10_isKind_v62 rfl rfl rfl (by decide +kernel) ⟨Nat.le_of_ble_eq_true rfl, Nat.le_of_ble_eq_true rfl⟩) ⟨zPre.blind, va_recv hKc hPc (ci := 9) (q0 := 0) rfl rfl, zPre.go hZ hPc hKc hDc⟩ rfl rfl hl.1 rfl (lv_room (Nat.le_of_ble_eq_true rfl)) dX11_under_16 ⟨Nat.le_of_ble_eq_true rfl, Nat.le_of_ble_eq_true rfl⟩) hS (fun q _ h => hFc q h) hFc (fun r3 u9 t9 H1 locs ht hvm hw hB hz1 hk1 hS => ?_)
    obtain ⟨hP1, hK1, hD1⟩ := hB
    rw [ht] at hP1
    have hK1 := va_K.moved hvm.symm hK1
    obtain ⟨hP, hD⟩ := va_join (wr := [(h0, .inr (10, [x_tape, .ref q1, x_code, x_reader, x_machine, x_length, x_latestFault, x_hasProgram, x_hasRun])), (qa, .inl (kA, 12, .inl (upd (fun _ => 0) 0 (-1))))]) (w1 := [(q1, .inr (9, [.ref qa, t_isNull, t_opening, t_closing, .int 4, t_assertsOn]))]) hP hD [2] [0, 1] rfl rfl (by decide) (by decide) hk1 hFc hP1 hD1
    have hK := hK.app hK1
    generalize H1 = H at hP hS ⊢
    have hP : va_P (dC, dI) vwCl [(h0, .inr (10, [x_tape, .ref q1, x_code, x_reader, x_machine, x_length, x_latestFault, x_hasProgram, x_hasRun])), (qa, .inl (kA, 12, .inl (upd (fun _ => 0) 0 (-1)))), (q1, .inr (9, [.ref qa, t_isNull, t_opening, t_closing, .int 4, t_assertsOn]))] H := hP
    have hD : va_D A [(h0, .inr (10, [x_tape, .ref q1, x_code, x_reader, x_machine, x_length, x_latestFault, x_hasProgram, x_hasRun])), (qa, .inl (kA, 12, .inl (upd (fun _ => 0) 0 (-1)))), (q1, .inr (9, [.ref qa, t_isNull, t_opening, t_closing, .int 4, t_assertsOn]))] := hD
    have hK : va_K (dC, dI) vwCl [(kA, .int)] s := hK
    by_cases c4 : ¬ b < 0 ∧ ¬ 4 ≤ b
    ·
      obtain rfl : r3 = 1 := hw.trans (if_pos c4)
      refine lv_if_ne (tgt := 24) hx hb dX11_under_19 (by decide) (fun _ => ?_) (fun c9 => absurd c9 (by decide))
      refine lv_aload_n hx hb dX11_under_24 rfl (lv_at hl 0 rfl) ?_
      refine va_get (D := (dC, dI)) (ci := 10) (v := .ref q1) (C := RX11) (T := TX11) (N := 9) hx hb hts i_X11_under_X11 hown hK hP 0 rfl rfl 1 (by decide) (hts (.fieldLink RX11 16 "StatementRules2" "told" "LStatementRules2$Told;") k_X11_under_fieldLink_RX11_16_SR_told_LSR_Told) (fun _ h9 => h9) rfl dX11_under_25 ?_
      refine lv_iload_n hx hb dX11_under_28 rfl (lv_at hl 1 rfl) ?_
      refine lv_iload_n hx hb dX11_under_29 rfl (lv_at hl 2 rfl) ?_
      rcases z_four c2 with rfl | rfl | rfl | rfl
      ·
        have hPc := hP.sub (ws' := [(q1, .inr (9, [.ref qa, t_isNull, t_opening, t_closing, .int 4, t_assertsOn])), (qa, .inl (kA, 12, .inl (upd (fun _ => 0) 0 (-1))))]) [2, 1] rfl
        have hDc := hD.sub (ws' := [(q1, .inr (9, [.ref qa, t_isNull, t_opening, t_closing, .int 4, t_assertsOn])), (qa, .inl (kA, 12, .inl (upd (fun _ => 0) 0 (-1))))]) [2, 1] (by decide) rfl
        have hKc := hK.sub (tys' := [(kA, .int)]) [0] rfl
        have hFc := va_free (wc := [(q1, .inr (9, [.ref qa, t_isNull, t_opening, t_closing, .int 4, t_assertsOn])), (qa, .inl (kA, 12, .inl (upd (fun _ => 0) 0 (-1))))]) hD hS hA [2, 1] rfl
        refine va_calli (va_runV (As := [.int 0, .int b]) (rest := []) ⟨hx, hb, hml, hown, hts⟩ (c_X10_isUnder_0 l dC dI _ q1 b qa kA t_isNull t_opening t_closing (.int 4) t_assertsOn) (cwV 2 hts hX11_under_X10_isUnder_v144 rfl rfl rfl (by decide +kernel) ⟨Nat.le_of_ble_eq_true rfl, Nat.le_of_ble_eq_true rfl⟩) ⟨zPre.blind, va_recv hKc hPc (ci := 9) (q0 := 0) rfl rfl, zPre.go hZ hPc hKc hDc⟩ rfl rfl hl.1 rfl (lv_room (Nat.le_of_ble_eq_true rfl)) dX11_under_30 ⟨Nat.le_of_ble_eq_true rfl, Nat.le_of_ble_eq_true rfl⟩) hS (fun q _ h => hFc q h) hFc (fun r5 u9 t9 H1 locs ht hvm hw hB hz1 hk1 hS => ?_)
        obtain ⟨hP1, hK1, hD1⟩ := hB
        rw [ht] at hP1
        have hK1 := va_K.moved hvm.symm hK1
        obtain ⟨hP, hD⟩ := va_join (wr := [(h0, .inr (10, [x_tape, .ref q1, x_code, x_reader, x_machine, x_length, x_latestFault, x_hasProgram, x_hasRun]))]) (w1 := []) hP hD [2, 1] [0] rfl rfl (by decide) (by decide) hk1 hFc hP1 hD1
        have hK := hK.app hK1
        generalize H1 = H at hP hS ⊢
        have hP : va_P (dC, dI) vwCl [(h0, .inr (10, [x_tape, .ref q1, x_code, x_reader, x_machine, x_length, x_latestFault, x_hasProgram, x_hasRun]))] H := hP
        have hD : va_D A [(h0, .inr (10, [x_tape, .ref q1, x_code, x_reader, x_machine, x_length, x_latestFault, x_hasProgram, x_hasRun]))] := hD
        have hK : va_K (dC, dI) vwCl [(kA, .int)] s := hK
        by_cases c6 : 0 = b
        ·
          obtain rfl : r5 = 1 := hw.trans (if_pos c6)
          refine lv_if_eq (tgt := 40) hx hb dX11_under_33 (by decide) (fun c9 => absurd c9 (by decide)) (fun _ => ?_)
          refine lv_iconst (v := 1) hx hb dX11_under_36 (by decide) ?_
          refine lv_goto (tgt := 41) hx hb dX11_under_37 (by decide) ?_
          have hP9 := hP.sub (ws' := []) [] rfl
          have hD9 := hD.sub (ws' := []) [] (by decide) rfl
          have hK9 := hK.sub (tys' := []) [] rfl
          exact W.iret (v := 1) hx hb hr (fun t ht hW => ⟨⟨1, (), rfl, ((if_pos ⟨by decide, c4⟩).trans (if_pos (Or.inr c6))).symm, by rw [ht]; exact hP9, va_K.moved hW.alike hK9, hD9⟩, hS.F ht⟩) hS.2.2 dX11_under_41
        ·
          obtain rfl : r5 = 0 := hw.trans (if_neg c6)
          refine lv_if_eq (tgt := 40) hx hb dX11_under_33 (by decide) (fun _ => ?_) (fun c9 => absurd (by decide) c9)
          refine lv_iconst (v := 0) hx hb dX11_under_40 (by decide) ?_
          have hP9 := hP.sub (ws' := []) [] rfl
          have hD9 := hD.sub (ws' := []) [] (by decide) rfl
          have hK9 := hK.sub (tys' := []) [] rfl
          exact W.iret (v := 0) hx hb hr (fun t ht hW => ⟨⟨0, (), rfl, ((if_pos ⟨by decide, c4⟩).trans (if_neg (fun g => g.elim c6 c6))).symm, by rw [ht]; exact hP9, va_K.moved hW.alike hK9, hD9⟩, hS.F ht⟩) hS.2.2 dX11_under_41
      ·
        have hPc := hP.sub (ws' := [(q1, .inr (9, [.ref qa, t_isNull, t_opening, t_closing, .int 4, t_assertsOn])), (qa, .inl (kA, 12, .inl (upd (fun _ => 0) 0 (-1))))]) [2, 1] rfl
        have hDc := hD.sub (ws' := [(q1, .inr (9, [.ref qa, t_isNull, t_opening, t_closing, .int 4, t_assertsOn])), (qa, .inl (kA, 12, .inl (upd (fun _ => 0) 0 (-1))))]) [2, 1] (by decide) rfl
        have hKc := hK.sub (tys' := [(kA, .int)]) [0] rfl
        have hFc := va_free (wc := [(q1, .inr (9, [.ref qa, t_isNull, t_opening, t_closing, .int 4, t_assertsOn])), (qa, .inl (kA, 12, .inl (upd (fun _ => 0) 0 (-1))))]) hD hS hA [2, 1] rfl
        refine va_calli (va_runV (As := [.int 1, .int b]) (rest := []) ⟨hx, hb, hml, hown, hts⟩ (c_X10_isUnder_1 l dC dI _ q1 b qa kA t_isNull t_opening t_closing (.int 4) t_assertsOn) (cwV 2 hts hX11_under_X10_isUnder_v144 rfl rfl rfl (by decide +kernel) ⟨Nat.le_of_ble_eq_true rfl, Nat.le_of_ble_eq_true rfl⟩) ⟨zPre.blind, va_recv hKc hPc (ci := 9) (q0 := 0) rfl rfl, zPre.go hZ hPc hKc hDc⟩ rfl rfl hl.1 rfl (lv_room (Nat.le_of_ble_eq_true rfl)) dX11_under_30 ⟨Nat.le_of_ble_eq_true rfl, Nat.le_of_ble_eq_true rfl⟩) hS (fun q _ h => hFc q h) hFc (fun r7 u9 t9 H1 locs ht hvm hw hB hz1 hk1 hS => ?_)
        obtain ⟨hP1, hK1, hD1⟩ := hB
        rw [ht] at hP1
        have hK1 := va_K.moved hvm.symm hK1
        obtain ⟨hP, hD⟩ := va_join (wr := [(h0, .inr (10, [x_tape, .ref q1, x_code, x_reader, x_machine, x_length, x_latestFault, x_hasProgram, x_hasRun]))]) (w1 := []) hP hD [2, 1] [0] rfl rfl (by decide) (by decide) hk1 hFc hP1 hD1
        have hK := hK.app hK1
        generalize H1 = H at hP hS ⊢
        have hP : va_P (dC, dI) vwCl [(h0, .inr (10, [x_tape, .ref q1, x_code, x_reader, x_machine, x_length, x_latestFault, x_hasProgram, x_hasRun]))] H := hP
        have hD : va_D A [(h0, .inr (10, [x_tape, .ref q1, x_code, x_reader, x_machine, x_length, x_latestFault, x_hasProgram, x_hasRun]))] := hD
        have hK : va_K (dC, dI) vwCl [(kA, .int)] s := hK
        by_cases c8 : 1 = b ∨ 0 = b
        ·
          obtain rfl : r7 = 1 := hw.trans (if_pos c8)
          refine lv_if_eq (tgt := 40) hx hb dX11_under_33 (by decide) (fun c9 => absurd c9 (by decide)) (fun _ => ?_)
          refine lv_iconst (v := 1) hx hb dX11_under_36 (by decide) ?_
          refine lv_goto (tgt := 41) hx hb dX11_under_37 (by decide) ?_
          have hP9 := hP.sub (ws' := []) [] rfl
          have hD9 := hD.sub (ws' := []) [] (by decide) rfl
          have hK9 := hK.sub (tys' := []) [] rfl
          exact W.iret (v := 1) hx hb hr (fun t ht hW => ⟨⟨1, (), rfl, ((if_pos ⟨by decide, c4⟩).trans (if_pos c8)).symm, by rw [ht]; exact hP9, va_K.moved hW.alike hK9, hD9⟩, hS.F ht⟩) hS.2.2 dX11_under_41
        ·
          obtain rfl : r7 = 0 := hw.trans (if_neg c8)
          refine lv_if_eq (tgt := 40) hx hb dX11_under_33 (by decide) (fun _ => ?_) (fun c9 => absurd (by decide) c9)
          refine lv_iconst (v := 0) hx hb dX11_under_40 (by decide) ?_
          have hP9 := hP.sub (ws' := []) [] rfl
          have hD9 := hD.sub (ws' := []) [] (by decide) rfl
          have hK9 := hK.sub (tys' := []) [] rfl
          exact W.iret (v := 0) hx hb hr (fun t ht hW => ⟨⟨0, (), rfl, ((if_pos ⟨by decide, c4⟩).trans (if_neg c8)).symm, by rw [ht]; exact hP9, va_K.moved hW.alike hK9, hD9⟩, hS.F ht⟩) hS.2.2 dX11_under_41
      ·
        have hPc := hP.sub (ws' := [(q1, .inr (9, [.ref qa, t_isNull, t_opening, t_closing, .int 4, t_assertsOn])), (qa, .inl (kA, 12, .inl (upd (fun _ => 0) 0 (-1))))]) [2, 1] rfl
        have hDc := hD.sub (ws' := [(q1, .inr (9, [.ref qa, t_isNull, t_opening, t_closing, .int 4, t_assertsOn])), (qa, .inl (kA, 12, .inl (upd (fun _ => 0) 0 (-1))))]) [2, 1] (by decide) rfl
        have hKc := hK.sub (tys' := [(kA, .int)]) [0] rfl
        have hFc := va_free (wc := [(q1, .inr (9, [.ref qa, t_isNull, t_opening, t_closing, .int 4, t_assertsOn])), (qa, .inl (kA, 12, .inl (upd (fun _ => 0) 0 (-1))))]) hD hS hA [2, 1] rfl
        refine va_calli (va_runV (As := [.int 2, .int b]) (rest := []) ⟨hx, hb, hml, hown, hts⟩ (c_X10_isUnder_2 l dC dI _ q1 b qa kA t_isNull t_opening t_closing (.int 4) t_assertsOn) (cwV 2 hts hX11_under_X10_isUnder_v144 rfl rfl rfl (by decide +kernel) ⟨Nat.le_of_ble_eq_true rfl, Nat.le_of_ble_eq_true rfl⟩) ⟨zPre.blind, va_recv hKc hPc (ci := 9) (q0 := 0) rfl rfl, zPre.go hZ hPc hKc hDc⟩ rfl rfl hl.1 rfl (lv_room (Nat.le_of_ble_eq_true rfl)) dX11_under_30 ⟨Nat.le_of_ble_eq_true rfl, Nat.le_of_ble_eq_true rfl⟩) hS (fun q _ h => hFc q h) hFc (fun r9 u9 t9 H1 locs ht hvm hw hB hz1 hk1 hS => ?_)
        obtain ⟨hP1, hK1, hD1⟩ := hB
        rw [ht] at hP1
        have hK1 := va_K.moved hvm.symm hK1
        obtain ⟨hP, hD⟩ := va_join (wr := [(h0, .inr (10, [x_tape, .ref q1, x_code, x_reader, x_machine, x_length, x_latestFault, x_hasProgram, x_hasRun]))]) (w1 := []) hP hD [2, 1] [0] rfl rfl (by decide) (by decide) hk1 hFc hP1 hD1
        have hK := hK.app hK1
        generalize H1 = H at hP hS ⊢
        have hP : va_P (dC, dI) vwCl [(h0, .inr (10, [x_tape, .ref q1, x_code, x_reader, x_machine, x_length, x_latestFault, x_hasProgram, x_hasRun]))] H := hP
        have hD : va_D A [(h0, .inr (10, [x_tape, .ref q1, x_code, x_reader, x_machine, x_length, x_latestFault, x_hasProgram, x_hasRun]))] := hD
        have hK : va_K (dC, dI) vwCl [(kA, .int)] s := hK
        by_cases c10 : 2 = b ∨ 0 = b
        ·
          obtain rfl : r9 = 1 := hw.trans (if_pos c10)
          refine lv_if_eq (tgt := 40) hx hb dX11_under_33 (by decide) (fun c9 => absurd c9 (by decide)) (fun _ => ?_)
          refine lv_iconst (v := 1) hx hb dX11_under_36 (by decide) ?_
          refine lv_goto (tgt := 41) hx hb dX11_under_37 (by decide) ?_
          have hP9 := hP.sub (ws' := []) [] rfl
          have hD9 := hD.sub (ws' := []) [] (by decide) rfl
          have hK9 := hK.sub (tys' := []) [] rfl
          exact W.iret (v := 1) hx hb hr (fun t ht hW => ⟨⟨1, (), rfl, ((if_pos ⟨by decide, c4⟩).trans (if_pos c10)).symm, by rw [ht]; exact hP9, va_K.moved hW.alike hK9, hD9⟩, hS.F ht⟩) hS.2.2 dX11_under_41
        ·
          obtain rfl : r9 = 0 := hw.trans (if_neg c10)
          refine lv_if_eq (tgt := 40) hx hb dX11_under_33 (by decide) (fun _ => ?_) (fun c9 => absurd (by decide) c9)
          refine lv_iconst (v := 0) hx hb dX11_under_40 (by decide) ?_
          have hP9 := hP.sub (ws' := []) [] rfl
          have hD9 := hD.sub (ws' := []) [] (by decide) rfl
          have hK9 := hK.sub (tys' := []) [] rfl
          exact W.iret (v := 0) hx hb hr (fun t ht hW => ⟨⟨0, (), rfl, ((if_pos ⟨by decide, c4⟩).trans (if_neg c10)).symm, by rw [ht]; exact hP9, va_K.moved hW.alike hK9, hD9⟩, hS.F ht⟩) hS.2.2 dX11_under_41
      ·
        have hPc := hP.sub (ws' := [(q1, .inr (9, [.ref qa, t_isNull, t_opening, t_closing, .int 4, t_assertsOn])), (qa, .inl (kA, 12, .inl (upd (fun _ => 0) 0 (-1))))]) [2, 1] rfl
        have hDc := hD.sub (ws' := [(q1, .inr (9, [.ref qa, t_isNull, t_opening, t_closing, .int 4, t_assertsOn])), (qa, .inl (kA, 12, .inl (upd (fun _ => 0) 0 (-1))))]) [2, 1] (by decide) rfl
        have hKc := hK.sub (tys' := [(kA, .int)]) [0] rfl
        have hFc := va_free (wc := [(q1, .inr (9, [.ref qa, t_isNull, t_opening, t_closing, .int 4, t_assertsOn])), (qa, .inl (kA, 12, .inl (upd (fun _ => 0) 0 (-1))))]) hD hS hA [2, 1] rfl
        refine va_calli (va_runV (As := [.int 3, .int b]) (rest := []) ⟨hx, hb, hml, hown, hts⟩ (c_X10_isUnder_3 l dC dI _ q1 b qa kA t_isNull t_opening t_closing (.int 4) t_assertsOn) (cwV 2 hts hX11_under_X10_isUnder_v144 rfl rfl rfl (by decide +kernel) ⟨Nat.le_of_ble_eq_true rfl, Nat.le_of_ble_eq_true rfl⟩) ⟨zPre.blind, va_recv hKc hPc (ci := 9) (q0 := 0) rfl rfl, zPre.go hZ hPc hKc hDc⟩ rfl rfl hl.1 rfl (lv_room (Nat.le_of_ble_eq_true rfl)) dX11_under_30 ⟨Nat.le_of_ble_eq_true rfl, Nat.le_of_ble_eq_true rfl⟩) hS (fun q _ h => hFc q h) hFc (fun r11 u9 t9 H1 locs ht hvm hw hB hz1 hk1 hS => ?_)
        obtain ⟨hP1, hK1, hD1⟩ := hB
        rw [ht] at hP1
        have hK1 := va_K.moved hvm.symm hK1
        obtain ⟨hP, hD⟩ := va_join (wr := [(h0, .inr (10, [x_tape, .ref q1, x_code, x_reader, x_machine, x_length, x_latestFault, x_hasProgram, x_hasRun]))]) (w1 := []) hP hD [2, 1] [0] rfl rfl (by decide) (by decide) hk1 hFc hP1 hD1
        have hK := hK.app hK1
        generalize H1 = H at hP hS ⊢
        have hP : va_P (dC, dI) vwCl [(h0, .inr (10, [x_tape, .ref q1, x_code, x_reader, x_machine, x_length, x_latestFault, x_hasProgram, x_hasRun]))] H := hP
        have hD : va_D A [(h0, .inr (10, [x_tape, .ref q1, x_code, x_reader, x_machine, x_length, x_latestFault, x_hasProgram, x_hasRun]))] := hD
        have hK : va_K (dC, dI) vwCl [(kA, .int)] s := hK
        by_cases c12 : 3 = b ∨ 0 = b
        ·
          obtain rfl : r11 = 1 := hw.trans (if_pos c12)
          refine lv_if_eq (tgt := 40) hx hb dX11_under_33 (by decide) (fun c9 => absurd c9 (by decide)) (fun _ => ?_)
          refine lv_iconst (v := 1) hx hb dX11_under_36 (by decide) ?_
          refine lv_goto (tgt := 41) hx hb dX11_under_37 (by decide) ?_
          have hP9 := hP.sub (ws' := []) [] rfl
          have hD9 := hD.sub (ws' := []) [] (by decide) rfl
          have hK9 := hK.sub (tys' := []) [] rfl
          exact W.iret (v := 1) hx hb hr (fun t ht hW => ⟨⟨1, (), rfl, ((if_pos ⟨by decide, c4⟩).trans (if_pos c12)).symm, by rw [ht]; exact hP9, va_K.moved hW.alike hK9, hD9⟩, hS.F ht⟩) hS.2.2 dX11_under_41
        ·
          obtain rfl : r11 = 0 := hw.trans (if_neg c12)
          refine lv_if_eq (tgt := 40) hx hb dX11_under_33 (by decide) (fun _ => ?_) (fun c9 => absurd (by decide) c9)
          refine lv_iconst (v := 0) hx hb dX11_under_40 (by decide) ?_
          have hP9 := hP.sub (ws' := []) [] rfl
          have hD9 := hD.sub (ws' := []) [] (by decide) rfl
          have hK9 := hK.sub (tys' := []) [] rfl
          exact W.iret (v := 0) hx hb hr (fun t ht hW => ⟨⟨0, (), rfl, ((if_pos ⟨by decide, c4⟩).trans (if_neg c12)).symm, by rw [ht]; exact hP9, va_K.moved hW.alike hK9, hD9⟩, hS.F ht⟩) hS.2.2 dX11_under_41
    ·
      obtain rfl : r3 = 0 := hw.trans (if_neg c4)
      refine lv_if_ne (tgt := 24) hx hb dX11_under_19 (by decide) (fun c9 => absurd (by decide) c9) (fun _ => ?_)
      refine lv_iconst (v := (-1)) hx hb dX11_under_22 (by decide) ?_
      have hP9 := hP.sub (ws' := []) [] rfl
      have hD9 := hD.sub (ws' := []) [] (by decide) rfl
      have hK9 := hK.sub (tys' := []) [] rfl
      exact W.iret (v := (-1)) hx hb hr (fun t ht hW => ⟨⟨(-1), (), rfl, (if_neg (fun h => c4 h.2)).symm, by rw [ht]; exact hP9, va_K.moved hW.alike hK9, hD9⟩, hS.F ht⟩) hS.2.2 dX11_under_23
  ·
    obtain rfl : r1 = 0 := hw.trans (if_neg c2)
    refine lv_if_eq (tgt := 22) hx hb dX11_under_8 (by decide) (fun _ => ?_) (fun c9 => absurd (by decide) c9)
    refine lv_iconst (v := (-1)) hx hb dX11_under_22 (by decide) ?_
    have hP9 := hP.sub (ws' := []) [] rfl
    have hD9 := hD.sub (ws' := []) [] (by decide) rfl
    have hK9 := hK.sub (tys' := []) [] rfl
    exact W.iret (v := (-1)) hx hb hr (fun t ht hW => ⟨⟨(-1), (), rfl, (if_neg (fun h => c2 h.1)).symm, by rw [ht]; exact hP9, va_K.moved hW.alike hK9, hD9⟩, hS.F ht⟩) hS.2.2 dX11_under_23
