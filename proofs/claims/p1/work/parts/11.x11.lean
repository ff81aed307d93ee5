set_option maxHeartbeats 4000000 in
set_option maxRecDepth 100000 in
theorem c_X11_put (l : Launch) (dC : Nat → ClassId) (dI : Nat → Nat → Nat) (sz : Nat) (row : Nat) (kA : ClassId) (n : Nat) (f : Nat → Int32) (i : Int32) (v : Int32) (h1 : ¬ i < 0) (h2 : ¬ (Int32.ofNat n) ≤ i) (h3 : vp_in i n) : Met l yX11_put wzX11_put ({ frames := 1, cells := 0, slots := 0, locals := 60 }) (va_Pc [.ref row, .int i, .int v] (zPre dC dI sz [(row, .inl (kA, n, .inl f))] [(kA, .int)])) (va_Qv (fun (_ : Unit) => True) (fun (_ : Unit) (t : State) => ∃ (g : Nat → Int32), zPost dC dI (va_A [(row, .inl (kA, n, .inl f))] sz) [(row, .inl (kA, n, .inl g))] [(kA, .int)] t) (va_A [(row, .inl (kA, n, .inl f))] sz)) 0 0 (va_A [(row, .inl (kA, n, .inl f))] sz) := by
  refine Met.ofW (cc := cX11_put) (maxL := 3) (ret := none) (by decide) rfl ?_
  intro p e s m args below meth c s₁ B hml hv
  obtain ⟨rfl, hsz, hZ, hP, hK, hD0⟩ := hv
  have hx := B.exec
  have hb := B.bytes
  have hr := B.returns
  have hts := atoms_spec (ws := wzX11_put) B.pre
  have hown : s.vm.findClass RX11 = some m.cls := findClass_of_methodNamed B.named
  have hlocks := B.notSynchronized
  subst hsz
  have hD := hD0.self (sz := s.heap.size)
  generalize hAe : va_A [(row, .inl (kA, n, .inl f))] s.heap.size = A at hD ⊢
  have hA : ∀ q : Nat, s.heap.size ≤ q → A q := fun q h => by rw [← hAe]; exact Or.inr h
  have hS : va_S A s.heap s.heap [] := va_S.rf
  have hP : va_P (dC, dI) vwCl [(row, .inl (kA, n, .inl f))] s.heap := hP
  have hl := lv_entry ([.ref row, .int i, .int v]) (n := 3) (Nat.le_of_ble_eq_true rfl)
  rw [lg_entry_eq]
  generalize (lg_sl ([.ref row, .int i, .int v]) ++ List.replicate (3 - (lg_sl ([.ref row, .int i, .int v])).length) Slot.unset).toArray = ls at hl ⊢
  have hl : lv_has ls 3 [(0, .ref row), (1, .int i), (2, .int v)] := hl
  refine lv_iload_n hx hb dX11_put_0 rfl (lv_at hl 1 rfl) ?_
  refine lv_if_lt (tgt := 14) hx hb dX11_put_1 (by decide) (fun c9 => absurd c9 h1) (fun _ => ?_)
  refine lv_iload_n hx hb dX11_put_4 rfl (lv_at hl 1 rfl) ?_
  refine lv_aload_n hx hb dX11_put_5 rfl (lv_at hl 0 rfl) ?_
  refine va_alen (v := Int32.ofNat n) hx hb hK hP 0 0 rfl rfl rfl dX11_put_6 ?_
  refine lv_icmp_ge (tgt := 14) hx hb dX11_put_7 (by decide) (fun c9 => absurd c9 h2) (fun _ => ?_)
  refine lv_aload_n hx hb dX11_put_10 rfl (lv_at hl 0 rfl) ?_
  refine lv_iload_n hx hb dX11_put_11 rfl (lv_at hl 1 rfl) ?_
  refine lv_iload_n hx hb dX11_put_12 rfl (lv_at hl 2 rfl) ?_
  refine va_iast hx hb hK hP hD hS 0 0 rfl rfl h3 dX11_put_13 (fun H locs hP hD hS => ?_)
  obtain ⟨f1, hP, hD⟩ : ∃ (f1 : Nat → Int32), va_P (dC, dI) vwCl [(row, .inl (kA, n, .inl f1))] H ∧ va_D A [(row, .inl (kA, n, .inl f1))] := ⟨_, hP, hD⟩
  have hP9 := hP.sub (ws' := [(row, .inl (kA, n, .inl f1))]) [0] rfl
  have hD9 := hD.sub (ws' := [(row, .inl (kA, n, .inl f1))]) [0] (by decide) rfl
  have hK9 := hK.sub (tys' := [(kA, .int)]) [0] rfl
  exact W.vret hx hb hr (fun t ht hW => ⟨⟨(), rfl, trivial, f1, by rw [ht]; exact hP9, va_K.moved hW.alike hK9, hD9⟩, hS.F ht⟩) hS.2.2 dX11_put_14
set_option maxHeartbeats 4000000 in
set_option maxRecDepth 100000 in
theorem c_X11_at (l : Launch) (dC : Nat → ClassId) (dI : Nat → Nat → Nat) (sz : Nat) (row : Nat) (kA : ClassId) (n : Nat) (f : Nat → Int32) (i : Int32) (h1 : ¬ i < 0) (h2 : ¬ (Int32.ofNat n) ≤ i) (h3 : vp_in i n) : Met l yX11_at wzX11_at ({ frames := 1, cells := 0, slots := 0, locals := 60 }) (va_Pc [.ref row, .int i] (zPre dC dI sz [(row, .inl (kA, n, .inl f))] [(kA, .int)])) (va_Qi (fun (r : Int32) (_ : Unit) => r = f i.toNatClampNeg) (fun (_ : Unit) (t : State) => zPost dC dI (va_A [(row, .inl (kA, n, .inl f))] sz) [(row, .inl (kA, n, .inl f))] [(kA, .int)] t) (va_A [(row, .inl (kA, n, .inl f))] sz)) 0 0 (va_A [(row, .inl (kA, n, .inl f))] sz) := by
  refine Met.ofW (cc := cX11_at) (maxL := 2) (ret := (some .int)) (by decide) rfl ?_
  intro p e s m args below meth c s₁ B hml hv
  obtain ⟨rfl, hsz, hZ, hP, hK, hD0⟩ := hv
  have hx := B.exec
  have hb := B.bytes
  have hr := B.returns
  have hts := atoms_spec (ws := wzX11_at) B.pre
  have hown : s.vm.findClass RX11 = some m.cls := findClass_of_methodNamed B.named
  have hlocks := B.notSynchronized
  subst hsz
  have hD := hD0.self (sz := s.heap.size)
  generalize hAe : va_A [(row, .inl (kA, n, .inl f))] s.heap.size = A at hD ⊢
  have hA : ∀ q : Nat, s.heap.size ≤ q → A q := fun q h => by rw [← hAe]; exact Or.inr h
  have hS : va_S A s.heap s.heap [] := va_S.rf
  have hP : va_P (dC, dI) vwCl [(row, .inl (kA, n, .inl f))] s.heap := hP
  have hl := lv_entry ([.ref row, .int i]) (n := 2) (Nat.le_of_ble_eq_true rfl)
  rw [lg_entry_eq]
  generalize (lg_sl ([.ref row, .int i]) ++ List.replicate (2 - (lg_sl ([.ref row, .int i])).length) Slot.unset).toArray = ls at hl ⊢
  have hl : lv_has ls 2 [(0, .ref row), (1, .int i)] := hl
  refine lv_iload_n hx hb dX11_at_0 rfl (lv_at hl 1 rfl) ?_
  refine lv_if_lt (tgt := 16) hx hb dX11_at_1 (by decide) (fun c9 => absurd c9 h1) (fun _ => ?_)
  refine lv_iload_n hx hb dX11_at_4 rfl (lv_at hl 1 rfl) ?_
  refine lv_aload_n hx hb dX11_at_5 rfl (lv_at hl 0 rfl) ?_
  refine va_alen (v := Int32.ofNat n) hx hb hK hP 0 0 rfl rfl rfl dX11_at_6 ?_
  refine lv_icmp_ge (tgt := 16) hx hb dX11_at_7 (by decide) (fun c9 => absurd c9 h2) (fun _ => ?_)
  refine lv_aload_n hx hb dX11_at_10 rfl (lv_at hl 0 rfl) ?_
  refine lv_iload_n hx hb dX11_at_11 rfl (lv_at hl 1 rfl) ?_
  refine va_iald hx hb hK hP 0 0 rfl rfl h3 dX11_at_12 ?_
  refine lv_topi (fun z1 ez1 => ?_)
  refine lv_goto (tgt := 17) hx hb dX11_at_13 (by decide) ?_
  have hP9 := hP.sub (ws' := [(row, .inl (kA, n, .inl f))]) [0] rfl
  have hD9 := hD.sub (ws' := [(row, .inl (kA, n, .inl f))]) [0] (by decide) rfl
  have hK9 := hK.sub (tys' := [(kA, .int)]) [0] rfl
  exact W.iret (v := z1) hx hb hr (fun t ht hW => ⟨⟨z1, (), rfl, ez1, by rw [ht]; exact hP9, va_K.moved hW.alike hK9, hD9⟩, hS.F ht⟩) hS.2.2 dX11_at_17
theorem k_X11_cut_fieldLink_RX11_50_SR_length_I : Cond.fieldLink RX11 50 "StatementRules2" "length" "I" ∈ wzX11_cut := List.mem_cons_of_mem _ (List.mem_append_left _ (List.mem_of_getElem? (i := 0) rfl))
theorem i_X11_cut_X11 : ∀ w ∈ wsX110, w ∈ wzX11_cut := fun _ h => List.mem_cons_of_mem _ (List.mem_append_right _ (List.mem_append_left _ (h)))
set_option maxHeartbeats 4000000 in
set_option maxRecDepth 100000 in
theorem c_X11_cut (l : Launch) (dC : Nat → ClassId) (dI : Nat → Nat → Nat) (sz : Nat) (h0 : Nat) (n : Int32) (x_tape : Value) (x_told : Value) (x_code : Value) (x_reader : Value) (x_machine : Value) (x_latestFault : Value) (x_hasProgram : Value) (x_hasRun : Value) : Met l yX11_cut wzX11_cut ({ frames := 1, cells := 0, slots := 0, locals := 60 }) (va_Pc [.ref h0, .int n] (zPre dC dI sz [(h0, .inr (10, [x_tape, x_told, x_code, x_reader, x_machine, .int 0, x_latestFault, x_hasProgram, x_hasRun]))] [])) (va_Qi (fun (r : Int32) (_ : Unit) => r = if n = 0 then 0 else -1) (fun (_ : Unit) (t : State) => zPost dC dI (va_A [(h0, .inr (10, [x_tape, x_told, x_code, x_reader, x_machine, .int 0, x_latestFault, x_hasProgram, x_hasRun]))] sz) [] [] t) (va_A [(h0, .inr (10, [x_tape, x_told, x_code, x_reader, x_machine, .int 0, x_latestFault, x_hasProgram, x_hasRun]))] sz)) 0 0 (va_A [(h0, .inr (10, [x_tape, x_told, x_code, x_reader, x_machine, .int 0, x_latestFault, x_hasProgram, x_hasRun]))] sz) := by
  refine Met.ofW (cc := cX11_cut) (maxL := 3) (ret := (some .int)) (by decide) rfl ?_
  intro p e s m args below meth c s₁ B hml hv
  obtain ⟨rfl, hsz, hZ, hP, hK, hD0⟩ := hv
  have hx := B.exec
  have hb := B.bytes
  have hr := B.returns
  have hts := atoms_spec (ws := wzX11_cut) B.pre
  have hown : s.vm.findClass RX11 = some m.cls := findClass_of_methodNamed B.named
  have hlocks := B.notSynchronized
  subst hsz
  have hD := hD0.self (sz := s.heap.size)
  generalize hAe : va_A [(h0, .inr (10, [x_tape, x_told, x_code, x_reader, x_machine, .int 0, x_latestFault, x_hasProgram, x_hasRun]))] s.heap.size = A at hD ⊢
  have hA : ∀ q : Nat, s.heap.size ≤ q → A q := fun q h => by rw [← hAe]; exact Or.inr h
  have hS : va_S A s.heap s.heap [] := va_S.rf
  have hP : va_P (dC, dI) vwCl [(h0, .inr (10, [x_tape, x_told, x_code, x_reader, x_machine, .int 0, x_latestFault, x_hasProgram, x_hasRun]))] s.heap := hP
  have hl := lv_entry ([.ref h0, .int n]) (n := 3) (Nat.le_of_ble_eq_true rfl)
  rw [lg_entry_eq]
  generalize (lg_sl ([.ref h0, .int n]) ++ List.replicate (3 - (lg_sl ([.ref h0, .int n])).length) Slot.unset).toArray = ls at hl ⊢
  have hl : lv_has ls 3 [(0, .ref h0), (1, .int n)] := hl
  refine lv_iload_n hx hb dX11_cut_0 rfl (lv_at hl 1 rfl) ?_
  refine lv_if_lt (tgt := 12) hx hb dX11_cut_1 (by decide) (fun c1 => ?_) (fun c1 => ?_)
  ·
    refine lv_iconst (v := (-1)) hx hb dX11_cut_12 (by decide) ?_
    have hP9 := hP.sub (ws' := []) [] rfl
    have hD9 := hD.sub (ws' := []) [] (by decide) rfl
    have hK9 := hK.sub (tys' := []) [] rfl
    exact W.iret (v := (-1)) hx hb hr (fun t ht hW => ⟨⟨(-1), (), rfl, (if_neg (fun h => absurd c1 (by rw [h]; decide))).symm, by rw [ht]; exact hP9, va_K.moved hW.alike hK9, hD9⟩, hS.F ht⟩) hS.2.2 dX11_cut_13
  ·
    refine lv_iload_n hx hb dX11_cut_4 rfl (lv_at hl 1 rfl) ?_
    refine lv_aload_n hx hb dX11_cut_5 rfl (lv_at hl 0 rfl) ?_
    refine va_get (D := (dC, dI)) (ci := 10) (v := .int 0) (C := RX11) (T := TX11) (N := 9) hx hb hts i_X11_cut_X11 hown hK hP 0 rfl rfl 5 (by decide) (hts (.fieldLink RX11 50 "StatementRules2" "length" "I") k_X11_cut_fieldLink_RX11_50_SR_length_I) (fun _ h9 => h9) rfl dX11_cut_6 ?_
    refine lv_icmp_le (tgt := 14) hx hb dX11_cut_9 (by decide) (fun c2 => ?_) (fun c2 => ?_)
    ·
      refine lv_aload_n hx hb dX11_cut_14 rfl (lv_at hl 0 rfl) ?_
      refine va_get (D := (dC, dI)) (ci := 10) (v := .int 0) (C := RX11) (T := TX11) (N := 9) hx hb hts i_X11_cut_X11 hown hK hP 0 rfl rfl 5 (by decide) (hts (.fieldLink RX11 50 "StatementRules2" "length" "I") k_X11_cut_fieldLink_RX11_50_SR_length_I) (fun _ h9 => h9) rfl dX11_cut_15 ?_
      refine lv_iload_n hx hb dX11_cut_18 rfl (lv_at hl 1 rfl) ?_
      refine lv_isub hx hb dX11_cut_19 ?_
      refine lv_topi (fun z3 ez3 => ?_)
      refine lv_istore_n (lv' := [(2, .int z3), (0, .ref h0), (1, .int n)]) hx hb dX11_cut_20 rfl hl (by decide) rfl (fun ls hl => ?_)
      refine lv_aload_n hx hb dX11_cut_21 rfl (lv_at hl 1 rfl) ?_
      refine lv_iload_n hx hb dX11_cut_22 rfl (lv_at hl 2 rfl) ?_
      refine va_put (D := (dC, dI)) (ci := 10) (v := .int n) (ty := .int) (C := RX11) (T := TX11) (N := 9) hx hb hts i_X11_cut_X11 tyX11 tyX11_ok nmX11 hown hK hP hD hS 0 rfl rfl 5 (by decide) (hts (.fieldLink RX11 50 "StatementRules2" "length" "I") k_X11_cut_fieldLink_RX11_50_SR_length_I) (fun _ h9 => h9) rfl (by decide +kernel) rfl rfl (Nat.le_of_ble_eq_true rfl) dX11_cut_23 (fun H locs hP hD hS => ?_)
      have hP : va_P (dC, dI) vwCl [(h0, .inr (10, [x_tape, x_told, x_code, x_reader, x_machine, .int n, x_latestFault, x_hasProgram, x_hasRun]))] H := hP
      have hD : va_D A [(h0, .inr (10, [x_tape, x_told, x_code, x_reader, x_machine, .int n, x_latestFault, x_hasProgram, x_hasRun]))] := hD
      refine lv_iload_n hx hb dX11_cut_26 rfl (lv_at hl 0 rfl) ?_
      have hP9 := hP.sub (ws' := []) [] rfl
      have hD9 := hD.sub (ws' := []) [] (by decide) rfl
      have hK9 := hK.sub (tys' := []) [] rfl
      exact W.iret (v := z3) hx hb hr (fun t ht hW => ⟨⟨z3, (), rfl, (by have h0 := z_eq0 c1 c2; rw [ez3, h0]; decide), by rw [ht]; exact hP9, va_K.moved hW.alike hK9, hD9⟩, hS.F ht⟩) hS.2.2 dX11_cut_27
    ·
      refine lv_iconst (v := (-1)) hx hb dX11_cut_12 (by decide) ?_
      have hP9 := hP.sub (ws' := []) [] rfl
      have hD9 := hD.sub (ws' := []) [] (by decide) rfl
      have hK9 := hK.sub (tys' := []) [] rfl
      exact W.iret (v := (-1)) hx hb hr (fun t ht hW => ⟨⟨(-1), (), rfl, (if_neg (fun h => absurd (by rw [h]; decide) c2)).symm, by rw [ht]; exact hP9, va_K.moved hW.alike hK9, hD9⟩, hS.F ht⟩) hS.2.2 dX11_cut_13
theorem k_X11_fault_fieldLink_RX11_91_SR_latestFault_I : Cond.fieldLink RX11 91 "StatementRules2" "latestFault" "I" ∈ wzX11_fault := List.mem_cons_of_mem _ (List.mem_append_left _ (List.mem_of_getElem? (i := 0) rfl))
theorem i_X11_fault_X11 : ∀ w ∈ wsX110, w ∈ wzX11_fault := fun _ h => List.mem_cons_of_mem _ (List.mem_append_right _ (List.mem_append_left _ (h)))
set_option maxHeartbeats 4000000 in
set_option maxRecDepth 100000 in
theorem c_X11_fault (l : Launch) (dC : Nat → ClassId) (dI : Nat → Nat → Nat) (sz : Nat) (h0 : Nat) (x_tape : Value) (x_told : Value) (x_code : Value) (x_reader : Value) (x_machine : Value) (x_length : Value) (x_hasProgram : Value) (x_hasRun : Value) : Met l yX11_fault wzX11_fault ({ frames := 1, cells := 0, slots := 0, locals := 60 }) (va_Pc [.ref h0] (zPre dC dI sz [(h0, .inr (10, [x_tape, x_told, x_code, x_reader, x_machine, x_length, .int 0, x_hasProgram, x_hasRun]))] [])) (va_Qi (fun (r : Int32) (_ : Unit) => r = 0) (fun (_ : Unit) (t : State) => zPost dC dI (va_A [(h0, .inr (10, [x_tape, x_told, x_code, x_reader, x_machine, x_length, .int 0, x_hasProgram, x_hasRun]))] sz) [] [] t) (va_A [(h0, .inr (10, [x_tape, x_told, x_code, x_reader, x_machine, x_length, .int 0, x_hasProgram, x_hasRun]))] sz)) 0 0 (va_A [(h0, .inr (10, [x_tape, x_told, x_code, x_reader, x_machine, x_length, .int 0, x_hasProgram, x_hasRun]))] sz) := by
  refine Met.ofW (cc := cX11_fault) (maxL := 1) (ret := (some .int)) (by decide) rfl ?_
  intro p e s m args below meth c s₁ B hml hv
  obtain ⟨rfl, hsz, hZ, hP, hK, hD0⟩ := hv
  have hx := B.exec
  have hb := B.bytes
  have hr := B.returns
  have hts := atoms_spec (ws := wzX11_fault) B.pre
  have hown : s.vm.findClass RX11 = some m.cls := findClass_of_methodNamed B.named
  have hlocks := B.notSynchronized
  subst hsz
  have hD := hD0.self (sz := s.heap.size)
  generalize hAe : va_A [(h0, .inr (10, [x_tape, x_told, x_code, x_reader, x_machine, x_length, .int 0, x_hasProgram, x_hasRun]))] s.heap.size = A at hD ⊢
  have hA : ∀ q : Nat, s.heap.size ≤ q → A q := fun q h => by rw [← hAe]; exact Or.inr h
  have hS : va_S A s.heap s.heap [] := va_S.rf
  have hP : va_P (dC, dI) vwCl [(h0, .inr (10, [x_tape, x_told, x_code, x_reader, x_machine, x_length, .int 0, x_hasProgram, x_hasRun]))] s.heap := hP
  have hl := lv_entry ([.ref h0]) (n := 1) (Nat.le_of_ble_eq_true rfl)
  rw [lg_entry_eq]
  generalize (lg_sl ([.ref h0]) ++ List.replicate (1 - (lg_sl ([.ref h0])).length) Slot.unset).toArray = ls at hl ⊢
  have hl : lv_has ls 1 [(0, .ref h0)] := hl
  refine lv_aload_n hx hb dX11_fault_0 rfl (lv_at hl 0 rfl) ?_
  refine va_get (D := (dC, dI)) (ci := 10) (v := .int 0) (C := RX11) (T := TX11) (N := 9) hx hb hts i_X11_fault_X11 hown hK hP 0 rfl rfl 6 (by decide) (hts (.fieldLink RX11 91 "StatementRules2" "latestFault" "I") k_X11_fault_fieldLink_RX11_91_SR_latestFault_I) (fun _ h9 => h9) rfl dX11_fault_1 ?_
  have hP9 := hP.sub (ws' := []) [] rfl
  have hD9 := hD.sub (ws' := []) [] (by decide) rfl
  have hK9 := hK.sub (tys' := []) [] rfl
  exact W.iret (v := 0) hx hb hr (fun t ht hW => ⟨⟨0, (), rfl, rfl, by rw [ht]; exact hP9, va_K.moved hW.alike hK9, hD9⟩, hS.F ht⟩) hS.2.2 dX11_fault_4
theorem k_X11_run_fieldLink_RX11_94_SR_hasProgram_Z : Cond.fieldLink RX11 94 "StatementRules2" "hasProgram" "Z" ∈ wzX11_run := List.mem_cons_of_mem _ (List.mem_append_left _ (List.mem_of_getElem? (i := 0) rfl))
theorem i_X11_run_X11 : ∀ w ∈ wsX110, w ∈ wzX11_run := fun _ h => List.mem_cons_of_mem _ (List.mem_append_right _ (List.mem_append_left _ (h)))
set_option maxHeartbeats 4000000 in
set_option maxRecDepth 100000 in
theorem c_X11_run (l : Launch) (dC : Nat → ClassId) (dI : Nat → Nat → Nat) (sz : Nat) (h0 : Nat) (a : Int32) (b : Int32) (x_tape : Value) (x_told : Value) (x_code : Value) (x_reader : Value) (x_machine : Value) (x_length : Value) (x_latestFault : Value) (x_hasRun : Value) : Met l yX11_run wzX11_run ({ frames := 1, cells := 0, slots := 0, locals := 60 }) (va_Pc [.ref h0, .int a, .int b] (zPre dC dI sz [(h0, .inr (10, [x_tape, x_told, x_code, x_reader, x_machine, x_length, x_latestFault, .int 0, x_hasRun]))] [])) (va_Qi (fun (r : Int32) (_ : Unit) => r = -3) (fun (_ : Unit) (t : State) => zPost dC dI (va_A [(h0, .inr (10, [x_tape, x_told, x_code, x_reader, x_machine, x_length, x_latestFault, .int 0, x_hasRun]))] sz) [] [] t) (va_A [(h0, .inr (10, [x_tape, x_told, x_code, x_reader, x_machine, x_length, x_latestFault, .int 0, x_hasRun]))] sz)) 0 0 (va_A [(h0, .inr (10, [x_tape, x_told, x_code, x_reader, x_machine, x_length, x_latestFault, .int 0, x_hasRun]))] sz) := by
  refine Met.ofW (cc := cX11_run) (maxL := 3) (ret := (some .int)) (by decide) rfl ?_
  intro p e s m args below meth c s₁ B hml hv
  obtain ⟨rfl, hsz, hZ, hP, hK, hD0⟩ := hv
  have hx := B.exec
  have hb := B.bytes
  have hr := B.returns
  have hts := atoms_spec (ws := wzX11_run) B.pre
  have hown : s.vm.findClass RX11 = some m.cls := findClass_of_methodNamed B.named
  have hlocks := B.notSynchronized
  subst hsz
  have hD := hD0.self (sz := s.heap.size)
  generalize hAe : va_A [(h0, .inr (10, [x_tape, x_told, x_code, x_reader, x_machine, x_length, x_latestFault, .int 0, x_hasRun]))] s.heap.size = A at hD ⊢
  have hA : ∀ q : Nat, s.heap.size ≤ q → A q := fun q h => by rw [← hAe]; exact Or.inr h
  have hS : va_S A s.heap s.heap [] := va_S.rf
  have hP : va_P (dC, dI) vwCl [(h0, .inr (10, [x_tape, x_told, x_code, x_reader, x_machine, x_length, x_latestFault, .int 0, x_hasRun]))] s.heap := hP
  have hl := lv_entry ([.ref h0, .int a, .int b]) (n := 3) (Nat.le_of_ble_eq_true rfl)
  rw [lg_entry_eq]
  generalize (lg_sl ([.ref h0, .int a, .int b]) ++ List.replicate (3 - (lg_sl ([.ref h0, .int a, .int b])).length) Slot.unset).toArray = ls at hl ⊢
  have hl : lv_has ls 3 [(0, .ref h0), (1, .int a), (2, .int b)] := hl
  refine lv_aload_n hx hb dX11_run_0 rfl (lv_at hl 0 rfl) ?_
  refine va_get (D := (dC, dI)) (ci := 10) (v := .int 0) (C := RX11) (T := TX11) (N := 9) hx hb hts i_X11_run_X11 hown hK hP 0 rfl rfl 7 (by decide) (hts (.fieldLink RX11 94 "StatementRules2" "hasProgram" "Z") k_X11_run_fieldLink_RX11_94_SR_hasProgram_Z) (fun _ h9 => h9) rfl dX11_run_1 ?_
  refine lv_if_ne (tgt := 10) hx hb dX11_run_4 (by decide) (fun c9 => absurd (by decide) c9) (fun _ => ?_)
  refine lv_bipush (v := (-3)) hx hb dX11_run_7 (by decide) ?_
  have hP9 := hP.sub (ws' := []) [] rfl
  have hD9 := hD.sub (ws' := []) [] (by decide) rfl
  have hK9 := hK.sub (tys' := []) [] rfl
  exact W.iret (v := (-3)) hx hb hr (fun t ht hW => ⟨⟨(-3), (), rfl, rfl, by rw [ht]; exact hP9, va_K.moved hW.alike hK9, hD9⟩, hS.F ht⟩) hS.2.2 dX11_run_9
theorem k_X11_program_fieldLink_RX11_94_SR_hasProgram_Z : Cond.fieldLink RX11 94 "StatementRules2" "hasProgram" "Z" ∈ wzX11_program := List.mem_cons_of_mem _ (List.mem_append_left _ (List.mem_of_getElem? (i := 0) rfl))
theorem i_X11_program_X11 : ∀ w ∈ wsX110, w ∈ wzX11_program := fun _ h => List.mem_cons_of_mem _ (List.mem_append_right _ (List.mem_append_left _ (h)))
set_option maxHeartbeats 4000000 in
set_option maxRecDepth 100000 in
theorem c_X11_program (l : Launch) (dC : Nat → ClassId) (dI : Nat → Nat → Nat) (sz : Nat) (h0 : Nat) (w : Int32) (x_tape : Value) (x_told : Value) (x_code : Value) (x_reader : Value) (x_machine : Value) (x_length : Value) (x_latestFault : Value) (x_hasRun : Value) : Met l yX11_program wzX11_program ({ frames := 1, cells := 0, slots := 0, locals := 60 }) (va_Pc [.ref h0, .int w] (zPre dC dI sz [(h0, .inr (10, [x_tape, x_told, x_code, x_reader, x_machine, x_length, x_latestFault, .int 0, x_hasRun]))] [])) (va_Qi (fun (r : Int32) (_ : Unit) => r = if ¬ w < 0 ∧ w ≤ 3 then -3 else -1) (fun (_ : Unit) (t : State) => zPost dC dI (va_A [(h0, .inr (10, [x_tape, x_told, x_code, x_reader, x_machine, x_length, x_latestFault, .int 0, x_hasRun]))] sz) [] [] t) (va_A [(h0, .inr (10, [x_tape, x_told, x_code, x_reader, x_machine, x_length, x_latestFault, .int 0, x_hasRun]))] sz)) 0 0 (va_A [(h0, .inr (10, [x_tape, x_told, x_code, x_reader, x_machine, x_length, x_latestFault, .int 0, x_hasRun]))] sz) := by
  refine Met.ofW (cc := cX11_program) (maxL := 2) (ret := (some .int)) (by decide) rfl ?_
  intro p e s m args below meth c s₁ B hml hv
  obtain ⟨rfl, hsz, hZ, hP, hK, hD0⟩ := hv
  have hx := B.exec
  have hb := B.bytes
  have hr := B.returns
  have hts := atoms_spec (ws := wzX11_program) B.pre
  have hown : s.vm.findClass RX11 = some m.cls := findClass_of_methodNamed B.named
  have hlocks := B.notSynchronized
  subst hsz
  have hD := hD0.self (sz := s.heap.size)
  generalize hAe : va_A [(h0, .inr (10, [x_tape, x_told, x_code, x_reader, x_machine, x_length, x_latestFault, .int 0, x_hasRun]))] s.heap.size = A at hD ⊢
  have hA : ∀ q : Nat, s.heap.size ≤ q → A q := fun q h => by rw [← hAe]; exact Or.inr h
  have hS : va_S A s.heap s.heap [] := va_S.rf
  have hP : va_P (dC, dI) vwCl [(h0, .inr (10, [x_tape, x_told, x_code, x_reader, x_machine, x_length, x_latestFault, .int 0, x_hasRun]))] s.heap := hP
  have hl := lv_entry ([.ref h0, .int w]) (n := 2) (Nat.le_of_ble_eq_true rfl)
  rw [lg_entry_eq]
  generalize (lg_sl ([.ref h0, .int w]) ++ List.replicate (2 - (lg_sl ([.ref h0, .int w])).length) Slot.unset).toArray = ls at hl ⊢
  have hl : lv_has ls 2 [(0, .ref h0), (1, .int w)] := hl
  refine lv_iload_n hx hb dX11_program_0 rfl (lv_at hl 1 rfl) ?_
  refine lv_if_lt (tgt := 9) hx hb dX11_program_1 (by decide) (fun c1 => ?_) (fun c1 => ?_)
  ·
    refine lv_iconst (v := (-1)) hx hb dX11_program_9 (by decide) ?_
    have hP9 := hP.sub (ws' := []) [] rfl
    have hD9 := hD.sub (ws' := []) [] (by decide) rfl
    have hK9 := hK.sub (tys' := []) [] rfl
    exact W.iret (v := (-1)) hx hb hr (fun t ht hW => ⟨⟨(-1), (), rfl, (if_neg (fun h => h.1 c1)).symm, by rw [ht]; exact hP9, va_K.moved hW.alike hK9, hD9⟩, hS.F ht⟩) hS.2.2 dX11_program_10
  ·
    refine lv_iload_n hx hb dX11_program_4 rfl (lv_at hl 1 rfl) ?_
    refine lv_iconst (v := 3) hx hb dX11_program_5 (by decide) ?_
    refine lv_icmp_le (tgt := 11) hx hb dX11_program_6 (by decide) (fun c2 => ?_) (fun c2 => ?_)
    ·
      refine lv_aload_n hx hb dX11_program_11 rfl (lv_at hl 0 rfl) ?_
      refine va_get (D := (dC, dI)) (ci := 10) (v := .int 0) (C := RX11) (T := TX11) (N := 9) hx hb hts i_X11_program_X11 hown hK hP 0 rfl rfl 7 (by decide) (hts (.fieldLink RX11 94 "StatementRules2" "hasProgram" "Z") k_X11_program_fieldLink_RX11_94_SR_hasProgram_Z) (fun _ h9 => h9) rfl dX11_program_12 ?_
      refine lv_if_ne (tgt := 21) hx hb dX11_program_15 (by decide) (fun c9 => absurd (by decide) c9) (fun _ => ?_)
      refine lv_bipush (v := (-3)) hx hb dX11_program_18 (by decide) ?_
      have hP9 := hP.sub (ws' := []) [] rfl
      have hD9 := hD.sub (ws' := []) [] (by decide) rfl
      have hK9 := hK.sub (tys' := []) [] rfl
      exact W.iret (v := (-3)) hx hb hr (fun t ht hW => ⟨⟨(-3), (), rfl, (if_pos ⟨c1, c2⟩).symm, by rw [ht]; exact hP9, va_K.moved hW.alike hK9, hD9⟩, hS.F ht⟩) hS.2.2 dX11_program_20
    ·
      refine lv_iconst (v := (-1)) hx hb dX11_program_9 (by decide) ?_
      have hP9 := hP.sub (ws' := []) [] rfl
      have hD9 := hD.sub (ws' := []) [] (by decide) rfl
      have hK9 := hK.sub (tys' := []) [] rfl
      exact W.iret (v := (-1)) hx hb hr (fun t ht hW => ⟨⟨(-1), (), rfl, (if_neg (fun h => c2 h.2)).symm, by rw [ht]; exact hP9, va_K.moved hW.alike hK9, hD9⟩, hS.F ht⟩) hS.2.2 dX11_program_10
theorem k_X11_ran_fieldLink_RX11_85_SR_hasRun_Z : Cond.fieldLink RX11 85 "StatementRules2" "hasRun" "Z" ∈ wzX11_ran := List.mem_cons_of_mem _ (List.mem_append_left _ (List.mem_of_getElem? (i := 0) rfl))
theorem i_X11_ran_X11 : ∀ w ∈ wsX110, w ∈ wzX11_ran := fun _ h => List.mem_cons_of_mem _ (List.mem_append_right _ (List.mem_append_left _ (h)))
set_option maxHeartbeats 4000000 in
set_option maxRecDepth 100000 in
theorem c_X11_ran (l : Launch) (dC : Nat → ClassId) (dI : Nat → Nat → Nat) (sz : Nat) (h0 : Nat) (w : Int32) (x_tape : Value) (x_told : Value) (x_code : Value) (x_reader : Value) (x_machine : Value) (x_length : Value) (x_latestFault : Value) (x_hasProgram : Value) : Met l yX11_ran wzX11_ran ({ frames := 1, cells := 0, slots := 0, locals := 60 }) (va_Pc [.ref h0, .int w] (zPre dC dI sz [(h0, .inr (10, [x_tape, x_told, x_code, x_reader, x_machine, x_length, x_latestFault, x_hasProgram, .int 0]))] [])) (va_Qi (fun (r : Int32) (_ : Unit) => r = if ¬ w < 0 ∧ w ≤ 6 then -3 else -1) (fun (_ : Unit) (t : State) => zPost dC dI (va_A [(h0, .inr (10, [x_tape, x_told, x_code, x_reader, x_machine, x_length, x_latestFault, x_hasProgram, .int 0]))] sz) [] [] t) (va_A [(h0, .inr (10, [x_tape, x_told, x_code, x_reader, x_machine, x_length, x_latestFault, x_hasProgram, .int 0]))] sz)) 0 0 (va_A [(h0, .inr (10, [x_tape, x_told, x_code, x_reader, x_machine, x_length, x_latestFault, x_hasProgram, .int 0]))] sz) := by
  refine Met.ofW (cc := cX11_ran) (maxL := 2) (ret := (some .int)) (by decide) rfl ?_
  intro p e s m args below meth c s₁ B hml hv
  obtain ⟨rfl, hsz, hZ, hP, hK, hD0⟩ := hv
  have hx := B.exec
  have hb := B.bytes
  have hr := B.returns
  have hts := atoms_spec (ws := wzX11_ran) B.pre
  have hown : s.vm.findClass RX11 = some m.cls := findClass_of_methodNamed B.named
  have hlocks := B.notSynchronized
  subst hsz
  have hD := hD0.self (sz := s.heap.size)
  generalize hAe : va_A [(h0, .inr (10, [x_tape, x_told, x_code, x_reader, x_machine, x_length, x_latestFault, x_hasProgram, .int 0]))] s.heap.size = A at hD ⊢
  have hA : ∀ q : Nat, s.heap.size ≤ q → A q := fun q h => by rw [← hAe]; exact Or.inr h
  have hS : va_S A s.heap s.heap [] := va_S.rf
  have hP : va_P (dC, dI) vwCl [(h0, .inr (10, [x_tape, x_told, x_code, x_reader, x_machine, x_length, x_latestFault, x_hasProgram, .int 0]))] s.heap := hP
  have hl := lv_entry ([.ref h0, .int w]) (n := 2) (Nat.le_of_ble_eq_true rfl)
  rw [lg_entry_eq]
  generalize (lg_sl ([.ref h0, .int w]) ++ List.replicate (2 - (lg_sl ([.ref h0, .int w])).length) Slot.unset).toArray = ls at hl ⊢
  have hl : lv_has ls 2 [(0, .ref h0), (1, .int w)] := hl
  refine lv_iload_n hx hb dX11_ran_0 rfl (lv_at hl 1 rfl) ?_
  refine lv_if_lt (tgt := 10) hx hb dX11_ran_1 (by decide) (fun c1 => ?_) (fun c1 => ?_)
  ·
    refine lv_iconst (v := (-1)) hx hb dX11_ran_10 (by decide) ?_
    have hP9 := hP.sub (ws' := []) [] rfl
    have hD9 := hD.sub (ws' := []) [] (by decide) rfl
    have hK9 := hK.sub (tys' := []) [] rfl
    exact W.iret (v := (-1)) hx hb hr (fun t ht hW => ⟨⟨(-1), (), rfl, (if_neg (fun h => h.1 c1)).symm, by rw [ht]; exact hP9, va_K.moved hW.alike hK9, hD9⟩, hS.F ht⟩) hS.2.2 dX11_ran_11
  ·
    refine lv_iload_n hx hb dX11_ran_4 rfl (lv_at hl 1 rfl) ?_
    refine lv_bipush (v := 6) hx hb dX11_ran_5 (by decide) ?_
    refine lv_icmp_le (tgt := 12) hx hb dX11_ran_7 (by decide) (fun c2 => ?_) (fun c2 => ?_)
    ·
      refine lv_aload_n hx hb dX11_ran_12 rfl (lv_at hl 0 rfl) ?_
      refine va_get (D := (dC, dI)) (ci := 10) (v := .int 0) (C := RX11) (T := TX11) (N := 9) hx hb hts i_X11_ran_X11 hown hK hP 0 rfl rfl 8 (by decide) (hts (.fieldLink RX11 85 "StatementRules2" "hasRun" "Z") k_X11_ran_fieldLink_RX11_85_SR_hasRun_Z) (fun _ h9 => h9) rfl dX11_ran_13 ?_
      refine lv_if_eq (tgt := 30) hx hb dX11_ran_16 (by decide) (fun _ => ?_) (fun c9 => absurd (by decide) c9)
      refine lv_bipush (v := (-3)) hx hb dX11_ran_30 (by decide) ?_
      have hP9 := hP.sub (ws' := []) [] rfl
      have hD9 := hD.sub (ws' := []) [] (by decide) rfl
      have hK9 := hK.sub (tys' := []) [] rfl
      exact W.iret (v := (-3)) hx hb hr (fun t ht hW => ⟨⟨(-3), (), rfl, (if_pos ⟨c1, c2⟩).symm, by rw [ht]; exact hP9, va_K.moved hW.alike hK9, hD9⟩, hS.F ht⟩) hS.2.2 dX11_ran_32
    ·
      refine lv_iconst (v := (-1)) hx hb dX11_ran_10 (by decide) ?_
      have hP9 := hP.sub (ws' := []) [] rfl
      have hD9 := hD.sub (ws' := []) [] (by decide) rfl
      have hK9 := hK.sub (tys' := []) [] rfl
      exact W.iret (v := (-1)) hx hb hr (fun t ht hW => ⟨⟨(-1), (), rfl, (if_neg (fun h => c2 h.2)).symm, by rw [ht]; exact hP9, va_K.moved hW.alike hK9, hD9⟩, hS.F ht⟩) hS.2.2 dX11_ran_11
theorem k_X11_trace_fieldLink_RX11_85_SR_hasRun_Z : Cond.fieldLink RX11 85 "StatementRules2" "hasRun" "Z" ∈ wzX11_trace := List.mem_cons_of_mem _ (List.mem_append_left _ (List.mem_of_getElem? (i := 0) rfl))
theorem i_X11_trace_X11 : ∀ w ∈ wsX110, w ∈ wzX11_trace := fun _ h => List.mem_cons_of_mem _ (List.mem_append_right _ (List.mem_append_left _ (h)))
set_option maxHeartbeats 4000000 in
set_option maxRecDepth 100000 in
theorem c_X11_trace (l : Launch) (dC : Nat → ClassId) (dI : Nat → Nat → Nat) (sz : Nat) (h0 : Nat) (a : Int32) (b : Int32) (x_tape : Value) (x_told : Value) (x_code : Value) (x_reader : Value) (x_machine : Value) (x_length : Value) (x_latestFault : Value) (x_hasProgram : Value) : Met l yX11_trace wzX11_trace ({ frames := 1, cells := 0, slots := 0, locals := 60 }) (va_Pc [.ref h0, .int a, .int b] (zPre dC dI sz [(h0, .inr (10, [x_tape, x_told, x_code, x_reader, x_machine, x_length, x_latestFault, x_hasProgram, .int 0]))] [])) (va_Qi (fun (r : Int32) (_ : Unit) => r = -1) (fun (_ : Unit) (t : State) => zPost dC dI (va_A [(h0, .inr (10, [x_tape, x_told, x_code, x_reader, x_machine, x_length, x_latestFault, x_hasProgram, .int 0]))] sz) [] [] t) (va_A [(h0, .inr (10, [x_tape, x_told, x_code, x_reader, x_machine, x_length, x_latestFault, x_hasProgram, .int 0]))] sz)) 0 0 (va_A [(h0, .inr (10, [x_tape, x_told, x_code, x_reader, x_machine, x_length, x_latestFault, x_hasProgram, .int 0]))] sz) := by
  refine Met.ofW (cc := cX11_trace) (maxL := 3) (ret := (some .int)) (by decide) rfl ?_
  intro p e s m args below meth c s₁ B hml hv
  obtain ⟨rfl, hsz, hZ, hP, hK, hD0⟩ := hv
  have hx := B.exec
  have hb := B.bytes
  have hr := B.returns
  have hts := atoms_spec (ws := wzX11_trace) B.pre
  have hown : s.vm.findClass RX11 = some m.cls := findClass_of_methodNamed B.named
  have hlocks := B.notSynchronized
  subst hsz
  have hD := hD0.self (sz := s.heap.size)
  generalize hAe : va_A [(h0, .inr (10, [x_tape, x_told, x_code, x_reader, x_machine, x_length, x_latestFault, x_hasProgram, .int 0]))] s.heap.size = A at hD ⊢
  have hA : ∀ q : Nat, s.heap.size ≤ q → A q := fun q h => by rw [← hAe]; exact Or.inr h
  have hS : va_S A s.heap s.heap [] := va_S.rf
  have hP : va_P (dC, dI) vwCl [(h0, .inr (10, [x_tape, x_told, x_code, x_reader, x_machine, x_length, x_latestFault, x_hasProgram, .int 0]))] s.heap := hP
  have hl := lv_entry ([.ref h0, .int a, .int b]) (n := 3) (Nat.le_of_ble_eq_true rfl)
  rw [lg_entry_eq]
  generalize (lg_sl ([.ref h0, .int a, .int b]) ++ List.replicate (3 - (lg_sl ([.ref h0, .int a, .int b])).length) Slot.unset).toArray = ls at hl ⊢
  have hl : lv_has ls 3 [(0, .ref h0), (1, .int a), (2, .int b)] := hl
  refine lv_aload_n hx hb dX11_trace_0 rfl (lv_at hl 0 rfl) ?_
  refine va_get (D := (dC, dI)) (ci := 10) (v := .int 0) (C := RX11) (T := TX11) (N := 9) hx hb hts i_X11_trace_X11 hown hK hP 0 rfl rfl 8 (by decide) (hts (.fieldLink RX11 85 "StatementRules2" "hasRun" "Z") k_X11_trace_fieldLink_RX11_85_SR_hasRun_Z) (fun _ h9 => h9) rfl dX11_trace_1 ?_
  refine lv_if_eq (tgt := 31) hx hb dX11_trace_4 (by decide) (fun _ => ?_) (fun c9 => absurd (by decide) c9)
  refine lv_iconst (v := (-1)) hx hb dX11_trace_31 (by decide) ?_
  have hP9 := hP.sub (ws' := []) [] rfl
  have hD9 := hD.sub (ws' := []) [] (by decide) rfl
  have hK9 := hK.sub (tys' := []) [] rfl
  exact W.iret (v := (-1)) hx hb hr (fun t ht hW => ⟨⟨(-1), (), rfl, rfl, by rw [ht]; exact hP9, va_K.moved hW.alike hK9, hD9⟩, hS.F ht⟩) hS.2.2 dX11_trace_32
theorem k_X11_suppressed_fieldLink_RX11_85_SR_hasRun_Z : Cond.fieldLink RX11 85 "StatementRules2" "hasRun" "Z" ∈ wzX11_suppressed := List.mem_cons_of_mem _ (List.mem_append_left _ (List.mem_of_getElem? (i := 0) rfl))
theorem i_X11_suppressed_X11 : ∀ w ∈ wsX110, w ∈ wzX11_suppressed := fun _ h => List.mem_cons_of_mem _ (List.mem_append_right _ (List.mem_append_left _ (h)))
set_option maxHeartbeats 4000000 in
set_option maxRecDepth 100000 in
theorem c_X11_suppressed (l : Launch) (dC : Nat → ClassId) (dI : Nat → Nat → Nat) (sz : Nat) (h0 : Nat) (a : Int32) (b : Int32) (x_tape : Value) (x_told : Value) (x_code : Value) (x_reader : Value) (x_machine : Value) (x_length : Value) (x_latestFault : Value) (x_hasProgram : Value) : Met l yX11_suppressed wzX11_suppressed ({ frames := 1, cells := 0, slots := 0, locals := 60 }) (va_Pc [.ref h0, .int a, .int b] (zPre dC dI sz [(h0, .inr (10, [x_tape, x_told, x_code, x_reader, x_machine, x_length, x_latestFault, x_hasProgram, .int 0]))] [])) (va_Qi (fun (r : Int32) (_ : Unit) => r = -1) (fun (_ : Unit) (t : State) => zPost dC dI (va_A [(h0, .inr (10, [x_tape, x_told, x_code, x_reader, x_machine, x_length, x_latestFault, x_hasProgram, .int 0]))] sz) [] [] t) (va_A [(h0, .inr (10, [x_tape, x_told, x_code, x_reader, x_machine, x_length, x_latestFault, x_hasProgram, .int 0]))] sz)) 0 0 (va_A [(h0, .inr (10, [x_tape, x_told, x_code, x_reader, x_machine, x_length, x_latestFault, x_hasProgram, .int 0]))] sz) := by
  refine Met.ofW (cc := cX11_suppressed) (maxL := 4) (ret := (some .int)) (by decide) rfl ?_
  intro p e s m args below meth c s₁ B hml hv
  obtain ⟨rfl, hsz, hZ, hP, hK, hD0⟩ := hv
  have hx := B.exec
  have hb := B.bytes
  have hr := B.returns
  have hts := atoms_spec (ws := wzX11_suppressed) B.pre
  have hown : s.vm.findClass RX11 = some m.cls := findClass_of_methodNamed B.named
  have hlocks := B.notSynchronized
  subst hsz
  have hD := hD0.self (sz := s.heap.size)
  generalize hAe : va_A [(h0, .inr (10, [x_tape, x_told, x_code, x_reader, x_machine, x_length, x_latestFault, x_hasProgram, .int 0]))] s.heap.size = A at hD ⊢
  have hA : ∀ q : Nat, s.heap.size ≤ q → A q := fun q h => by rw [← hAe]; exact Or.inr h
  have hS : va_S A s.heap s.heap [] := va_S.rf
  have hP : va_P (dC, dI) vwCl [(h0, .inr (10, [x_tape, x_told, x_code, x_reader, x_machine, x_length, x_latestFault, x_hasProgram, .int 0]))] s.heap := hP
  have hl := lv_entry ([.ref h0, .int a, .int b]) (n := 4) (Nat.le_of_ble_eq_true rfl)
  rw [lg_entry_eq]
  generalize (lg_sl ([.ref h0, .int a, .int b]) ++ List.replicate (4 - (lg_sl ([.ref h0, .int a, .int b])).length) Slot.unset).toArray = ls at hl ⊢
  have hl : lv_has ls 4 [(0, .ref h0), (1, .int a), (2, .int b)] := hl
  refine lv_aload_n hx hb dX11_suppressed_0 rfl (lv_at hl 0 rfl) ?_
  refine va_get (D := (dC, dI)) (ci := 10) (v := .int 0) (C := RX11) (T := TX11) (N := 9) hx hb hts i_X11_suppressed_X11 hown hK hP 0 rfl rfl 8 (by decide) (hts (.fieldLink RX11 85 "StatementRules2" "hasRun" "Z") k_X11_suppressed_fieldLink_RX11_85_SR_hasRun_Z) (fun _ h9 => h9) rfl dX11_suppressed_1 ?_
  refine lv_if_eq (tgt := 17) hx hb dX11_suppressed_4 (by decide) (fun _ => ?_) (fun c9 => absurd (by decide) c9)
  refine lv_null hx hb dX11_suppressed_17 ?_
  refine lv_astore_nN (lv' := [(3, .null), (0, .ref h0), (1, .int a), (2, .int b)]) hx hb dX11_suppressed_18 rfl hl (by decide) rfl (fun ls hl => ?_)
  refine lv_aload_nN hx hb dX11_suppressed_19 rfl (lv_at hl 0 rfl) ?_
  refine lv_ifnullN (tgt := 44) hx hb dX11_suppressed_20 (by decide) ?_
  refine lv_iconst (v := (-1)) hx hb dX11_suppressed_44 (by decide) ?_
  have hP9 := hP.sub (ws' := []) [] rfl
  have hD9 := hD.sub (ws' := []) [] (by decide) rfl
  have hK9 := hK.sub (tys' := []) [] rfl
  exact W.iret (v := (-1)) hx hb hr (fun t ht hW => ⟨⟨(-1), (), rfl, rfl, by rw [ht]; exact hP9, va_K.moved hW.alike hK9, hD9⟩, hS.F ht⟩) hS.2.2 dX11_suppressed_45
