set_option maxHeartbeats 4000000 in
set_option maxRecDepth 100000 in
theorem j_X9_isDigit_16 {p : Program} {e : Env} {s : State} {m : MethodId} {args : Array Value} {below : List Frame} {meth : Method} {c : Code} {A : Nat → Prop} (l : Launch) (dC : Nat → ClassId) (dI : Nat → Nat → Nat) (hx : p.tables.exec = Jvm.exec) (hb : c.code = cX9_isDigit) (hr : meth.sig.returnType = (some .boolean)) (hml : c.maxLocals = 1) (hown : s.vm.findClass RX9 = some m.cls) (hts : ∀ w ∈ wzX9_isDigit, w.before args s = true) (hlocks : meth.locks = false) (hZ : zAMB s) (hA : ∀ q : Nat, s.heap.size ≤ q → A q) (hK : va_K (dC, dI) vwCl [] s) : ∀  (H : Heap) (locs : List Loc) (ls : Array Slot), va_P (dC, dI) vwCl [] H → va_D A [] → va_S A s.heap H locs → lv_has ls 1 [] → W p l e ({ frames := 1, cells := 0, slots := 0, locals := 60 }) s m args below meth c H locs 0 0 (MQ below (va_Qi (fun (r : Int32) (_ : Unit) => r = 0 ∨ r = 1) (fun (_ : Unit) (t : State) => zPost dC dI A [] [] t) A) args s 0 0 A) (F0 m 16 ls []) := by
  intro  H locs ls hP hD hS hl
  refine lv_iconst (v := 0) hx hb dX9_isDigit_16 (by decide) ?_
  have hP9 := hP.sub (ws' := []) [] rfl
  have hD9 := hD.sub (ws' := []) [] (by decide) rfl
  have hK9 := hK.sub (tys' := []) [] rfl
  exact W.zret (v := 0) hx hb hr (rfl) (fun t ht hW => ⟨⟨0, (), rfl, (Or.inl rfl), by rw [ht]; exact hP9, va_K.moved hW.alike hK9, hD9⟩, hS.F ht⟩) hS.2.2 dX9_isDigit_17
set_option maxHeartbeats 4000000 in
set_option maxRecDepth 100000 in
theorem c_X9_isDigit (l : Launch) (dC : Nat → ClassId) (dI : Nat → Nat → Nat) (sz : Nat) (x : Int32) : Met l yX9_isDigit wzX9_isDigit ({ frames := 1, cells := 0, slots := 0, locals := 60 }) (va_Pc [.int x] (zPre dC dI sz [] [])) (va_Qi (fun (r : Int32) (_ : Unit) => r = 0 ∨ r = 1) (fun (_ : Unit) (t : State) => zPost dC dI (va_A [] sz) [] [] t) (va_A [] sz)) 0 0 (va_A [] sz) := by
  refine Met.ofW (cc := cX9_isDigit) (maxL := 1) (ret := (some .boolean)) (by decide) rfl ?_
  intro p e s m args below meth c s₁ B hml hv
  obtain ⟨rfl, hsz, hZ, hP, hK, hD0⟩ := hv
  have hx := B.exec
  have hb := B.bytes
  have hr := B.returns
  have hts := atoms_spec (ws := wzX9_isDigit) B.pre
  have hown : s.vm.findClass RX9 = some m.cls := findClass_of_methodNamed B.named
  have hlocks := B.notSynchronized
  subst hsz
  have hD := hD0.self (sz := s.heap.size)
  generalize hAe : va_A [] s.heap.size = A at hD ⊢
  have hA : ∀ q : Nat, s.heap.size ≤ q → A q := fun q h => by rw [← hAe]; exact Or.inr h
  have hS : va_S A s.heap s.heap [] := va_S.rf
  have hP : va_P (dC, dI) vwCl [] s.heap := hP
  have hl := lv_entry ([.int x]) (n := 1) (Nat.le_of_ble_eq_true rfl)
  rw [lg_entry_eq]
  generalize (lg_sl ([.int x]) ++ List.replicate (1 - (lg_sl ([.int x])).length) Slot.unset).toArray = ls at hl ⊢
  have hl : lv_has ls 1 [(0, .int x)] := hl
  refine lv_iload_n hx hb dX9_isDigit_0 rfl (lv_at hl 0 rfl) ?_
  refine lv_bipush (v := 48) hx hb dX9_isDigit_1 (by decide) ?_
  refine lv_icmp_lt (tgt := 16) hx hb dX9_isDigit_3 (by decide) (fun c1 => ?_) (fun c1 => ?_)
  ·
    exact j_X9_isDigit_16 l dC dI    hx hb hr hml hown hts hlocks hZ hA hK  _ _ _ hP hD hS (lv_sub hl [] rfl)
  ·
    refine lv_iload_n hx hb dX9_isDigit_6 rfl (lv_at hl 0 rfl) ?_
    refine lv_bipush (v := 57) hx hb dX9_isDigit_7 (by decide) ?_
    refine lv_icmp_gt (tgt := 16) hx hb dX9_isDigit_9 (by decide) (fun c2 => ?_) (fun c2 => ?_)
    ·
      exact j_X9_isDigit_16 l dC dI    hx hb hr hml hown hts hlocks hZ hA hK  _ _ _ hP hD hS (lv_sub hl [] rfl)
    ·
      refine lv_iconst (v := 1) hx hb dX9_isDigit_12 (by decide) ?_
      refine lv_goto (tgt := 17) hx hb dX9_isDigit_13 (by decide) ?_
      have hP9 := hP.sub (ws' := []) [] rfl
      have hD9 := hD.sub (ws' := []) [] (by decide) rfl
      have hK9 := hK.sub (tys' := []) [] rfl
      exact W.zret (v := 1) hx hb hr (rfl) (fun t ht hW => ⟨⟨1, (), rfl, (Or.inr rfl), by rw [ht]; exact hP9, va_K.moved hW.alike hK9, hD9⟩, hS.F ht⟩) hS.2.2 dX9_isDigit_17
set_option maxHeartbeats 4000000 in
set_option maxRecDepth 100000 in
theorem j_X9_isLetter_16 {p : Program} {e : Env} {s : State} {m : MethodId} {args : Array Value} {below : List Frame} {meth : Method} {c : Code} {A : Nat → Prop} (l : Launch) (dC : Nat → ClassId) (dI : Nat → Nat → Nat) (hx : p.tables.exec = Jvm.exec) (hb : c.code = cX9_isLetter) (hr : meth.sig.returnType = (some .boolean)) (hml : c.maxLocals = 1) (hown : s.vm.findClass RX9 = some m.cls) (hts : ∀ w ∈ wzX9_isLetter, w.before args s = true) (hlocks : meth.locks = false) (hZ : zAMB s) (hA : ∀ q : Nat, s.heap.size ≤ q → A q) (hK : va_K (dC, dI) vwCl [] s) : ∀  (H : Heap) (locs : List Loc) (ls : Array Slot), va_P (dC, dI) vwCl [] H → va_D A [] → va_S A s.heap H locs → lv_has ls 1 [] → W p l e ({ frames := 1, cells := 0, slots := 0, locals := 60 }) s m args below meth c H locs 0 0 (MQ below (va_Qi (fun (r : Int32) (_ : Unit) => r = 0 ∨ r = 1) (fun (_ : Unit) (t : State) => zPost dC dI A [] [] t) A) args s 0 0 A) (F0 m 16 ls []) := by
  intro  H locs ls hP hD hS hl
  refine lv_iconst (v := 0) hx hb dX9_isLetter_16 (by decide) ?_
  have hP9 := hP.sub (ws' := []) [] rfl
  have hD9 := hD.sub (ws' := []) [] (by decide) rfl
  have hK9 := hK.sub (tys' := []) [] rfl
  exact W.zret (v := 0) hx hb hr (rfl) (fun t ht hW => ⟨⟨0, (), rfl, (Or.inl rfl), by rw [ht]; exact hP9, va_K.moved hW.alike hK9, hD9⟩, hS.F ht⟩) hS.2.2 dX9_isLetter_17
set_option maxHeartbeats 4000000 in
set_option maxRecDepth 100000 in
theorem c_X9_isLetter (l : Launch) (dC : Nat → ClassId) (dI : Nat → Nat → Nat) (sz : Nat) (x : Int32) : Met l yX9_isLetter wzX9_isLetter ({ frames := 1, cells := 0, slots := 0, locals := 60 }) (va_Pc [.int x] (zPre dC dI sz [] [])) (va_Qi (fun (r : Int32) (_ : Unit) => r = 0 ∨ r = 1) (fun (_ : Unit) (t : State) => zPost dC dI (va_A [] sz) [] [] t) (va_A [] sz)) 0 0 (va_A [] sz) := by
  refine Met.ofW (cc := cX9_isLetter) (maxL := 1) (ret := (some .boolean)) (by decide) rfl ?_
  intro p e s m args below meth c s₁ B hml hv
  obtain ⟨rfl, hsz, hZ, hP, hK, hD0⟩ := hv
  have hx := B.exec
  have hb := B.bytes
  have hr := B.returns
  have hts := atoms_spec (ws := wzX9_isLetter) B.pre
  have hown : s.vm.findClass RX9 = some m.cls := findClass_of_methodNamed B.named
  have hlocks := B.notSynchronized
  subst hsz
  have hD := hD0.self (sz := s.heap.size)
  generalize hAe : va_A [] s.heap.size = A at hD ⊢
  have hA : ∀ q : Nat, s.heap.size ≤ q → A q := fun q h => by rw [← hAe]; exact Or.inr h
  have hS : va_S A s.heap s.heap [] := va_S.rf
  have hP : va_P (dC, dI) vwCl [] s.heap := hP
  have hl := lv_entry ([.int x]) (n := 1) (Nat.le_of_ble_eq_true rfl)
  rw [lg_entry_eq]
  generalize (lg_sl ([.int x]) ++ List.replicate (1 - (lg_sl ([.int x])).length) Slot.unset).toArray = ls at hl ⊢
  have hl : lv_has ls 1 [(0, .int x)] := hl
  refine lv_iload_n hx hb dX9_isLetter_0 rfl (lv_at hl 0 rfl) ?_
  refine lv_bipush (v := 97) hx hb dX9_isLetter_1 (by decide) ?_
  refine lv_icmp_lt (tgt := 16) hx hb dX9_isLetter_3 (by decide) (fun c1 => ?_) (fun c1 => ?_)
  ·
    exact j_X9_isLetter_16 l dC dI    hx hb hr hml hown hts hlocks hZ hA hK  _ _ _ hP hD hS (lv_sub hl [] rfl)
  ·
    refine lv_iload_n hx hb dX9_isLetter_6 rfl (lv_at hl 0 rfl) ?_
    refine lv_bipush (v := 122) hx hb dX9_isLetter_7 (by decide) ?_
    refine lv_icmp_gt (tgt := 16) hx hb dX9_isLetter_9 (by decide) (fun c2 => ?_) (fun c2 => ?_)
    ·
      exact j_X9_isLetter_16 l dC dI    hx hb hr hml hown hts hlocks hZ hA hK  _ _ _ hP hD hS (lv_sub hl [] rfl)
    ·
      refine lv_iconst (v := 1) hx hb dX9_isLetter_12 (by decide) ?_
      refine lv_goto (tgt := 17) hx hb dX9_isLetter_13 (by decide) ?_
      have hP9 := hP.sub (ws' := []) [] rfl
      have hD9 := hD.sub (ws' := []) [] (by decide) rfl
      have hK9 := hK.sub (tys' := []) [] rfl
      exact W.zret (v := 1) hx hb hr (rfl) (fun t ht hW => ⟨⟨1, (), rfl, (Or.inr rfl), by rw [ht]; exact hP9, va_K.moved hW.alike hK9, hD9⟩, hS.F ht⟩) hS.2.2 dX9_isLetter_17
theorem k_X9_byteAt_fieldLink_RX9_31_SR_Tokens_length_I : Cond.fieldLink RX9 31 "StatementRules2$Tokens" "length" "I" ∈ wzX9_byteAt := List.mem_cons_of_mem _ (List.mem_append_left _ (List.mem_of_getElem? (i := 0) rfl))
theorem i_X9_byteAt_X9 : ∀ w ∈ wsX90, w ∈ wzX9_byteAt := fun _ h => List.mem_cons_of_mem _ (List.mem_append_right _ (List.mem_append_left _ (h)))
theorem k_X9_byteAt_fieldLink_RX9_15_SR_Tokens_tape_I : Cond.fieldLink RX9 15 "StatementRules2$Tokens" "tape" "[I" ∈ wzX9_byteAt := List.mem_cons_of_mem _ (List.mem_append_left _ (List.mem_of_getElem? (i := 1) rfl))
set_option maxHeartbeats 4000000 in
set_option maxRecDepth 100000 in
theorem j_X9_byteAt_30 {p : Program} {e : Env} {s : State} {m : MethodId} {args : Array Value} {below : List Frame} {meth : Method} {c : Code} {A : Nat → Prop} (l : Launch) (dC : Nat → ClassId) (dI : Nat → Nat → Nat) (h0 : Nat) (qt : Nat) (qw : Nat) (kt : ClassId) (t2 : Int32) (t3 : Int32) (t4 : Int32) (t5 : Int32) (t6 : Int32) (t7 : Int64) (ft : Nat → Int32) (hx : p.tables.exec = Jvm.exec) (hb : c.code = cX9_byteAt) (hr : meth.sig.returnType = (some .int)) (hml : c.maxLocals = 2) (hown : s.vm.findClass RX9 = some m.cls) (hts : ∀ w ∈ wzX9_byteAt, w.before args s = true) (hlocks : meth.locks = false) (hZ : zAMB s) (hA : ∀ q : Nat, s.heap.size ≤ q → A q) (hK : va_K (dC, dI) vwCl [(kt, .int)] s) : ∀  (H : Heap) (locs : List Loc) (ls : Array Slot), va_P (dC, dI) vwCl [(h0, .inr (8, [.ref qt, .ref qw, .int t2, .int t3, .int t4, .int t5, .int t6, .long t7])), (qt, .inl (kt, 900, .inl ft))] H → va_D A [(h0, .inr (8, [.ref qt, .ref qw, .int t2, .int t3, .int t4, .int t5, .int t6, .long t7])), (qt, .inl (kt, 900, .inl ft))] → va_S A s.heap H locs → lv_has ls 2 [] → W p l e ({ frames := 1, cells := 0, slots := 0, locals := 60 }) s m args below meth c H locs 0 0 (MQ below (va_Qi (fun (r : Int32) (_ : Unit) => True) (fun (_ : Unit) (t : State) => zPost dC dI A [(h0, .inr (8, [.ref qt, .ref qw, .int t2, .int t3, .int t4, .int t5, .int t6, .long t7])), (qt, .inl (kt, 900, .inl ft))] [(kt, .int)] t) A) args s 0 0 A) (F0 m 30 ls []) := by
  intro  H locs ls hP hD hS hl
  refine lv_iconst (v := (-1)) hx hb dX9_byteAt_30 (by decide) ?_
  have hP9 := hP.sub (ws' := [(h0, .inr (8, [.ref qt, .ref qw, .int t2, .int t3, .int t4, .int t5, .int t6, .long t7])), (qt, .inl (kt, 900, .inl ft))]) [0, 1] rfl
  have hD9 := hD.sub (ws' := [(h0, .inr (8, [.ref qt, .ref qw, .int t2, .int t3, .int t4, .int t5, .int t6, .long t7])), (qt, .inl (kt, 900, .inl ft))]) [0, 1] (by decide) rfl
  have hK9 := hK.sub (tys' := [(kt, .int)]) [0] rfl
  exact W.iret (v := (-1)) hx hb hr (fun t ht hW => ⟨⟨(-1), (), rfl, trivial, by rw [ht]; exact hP9, va_K.moved hW.alike hK9, hD9⟩, hS.F ht⟩) hS.2.2 dX9_byteAt_31
set_option maxHeartbeats 4000000 in
set_option maxRecDepth 100000 in
theorem c_X9_byteAt (l : Launch) (dC : Nat → ClassId) (dI : Nat → Nat → Nat) (sz : Nat) (h0 : Nat) (x : Int32) (t2 : Int32) (t3 : Int32) (t4 : Int32) (t5 : Int32) (t6 : Int32) (t7 : Int64) (qw : Nat) (qt : Nat) (kt : ClassId) (ft : Nat → Int32) : Met l yX9_byteAt wzX9_byteAt ({ frames := 1, cells := 0, slots := 0, locals := 60 }) (va_Pc [.ref h0, .int x] (zPre dC dI sz [(h0, .inr (8, [.ref qt, .ref qw, .int t2, .int t3, .int t4, .int t5, .int t6, .long t7])), (qt, .inl (kt, 900, .inl ft))] [(kt, .int)])) (va_Qi (fun (r : Int32) (_ : Unit) => True) (fun (_ : Unit) (t : State) => zPost dC dI (va_A [(h0, .inr (8, [.ref qt, .ref qw, .int t2, .int t3, .int t4, .int t5, .int t6, .long t7])), (qt, .inl (kt, 900, .inl ft))] sz) [(h0, .inr (8, [.ref qt, .ref qw, .int t2, .int t3, .int t4, .int t5, .int t6, .long t7])), (qt, .inl (kt, 900, .inl ft))] [(kt, .int)] t) (va_A [(h0, .inr (8, [.ref qt, .ref qw, .int t2, .int t3, .int t4, .int t5, .int t6, .long t7])), (qt, .inl (kt, 900, .inl ft))] sz)) 0 0 (va_A [(h0, .inr (8, [.ref qt, .ref qw, .int t2, .int t3, .int t4, .int t5, .int t6, .long t7])), (qt, .inl (kt, 900, .inl ft))] sz) := by
  refine Met.ofW (cc := cX9_byteAt) (maxL := 2) (ret := (some .int)) (by decide) rfl ?_
  intro p e s m args below meth c s₁ B hml hv
  obtain ⟨rfl, hsz, hZ, hP, hK, hD0⟩ := hv
  have hx := B.exec
  have hb := B.bytes
  have hr := B.returns
  have hts := atoms_spec (ws := wzX9_byteAt) B.pre
  have hown : s.vm.findClass RX9 = some m.cls := findClass_of_methodNamed B.named
  have hlocks := B.notSynchronized
  subst hsz
  have hD := hD0.self (sz := s.heap.size)
  generalize hAe : va_A [(h0, .inr (8, [.ref qt, .ref qw, .int t2, .int t3, .int t4, .int t5, .int t6, .long t7])), (qt, .inl (kt, 900, .inl ft))] s.heap.size = A at hD ⊢
  have hA : ∀ q : Nat, s.heap.size ≤ q → A q := fun q h => by rw [← hAe]; exact Or.inr h
  have hS : va_S A s.heap s.heap [] := va_S.rf
  have hP : va_P (dC, dI) vwCl [(h0, .inr (8, [.ref qt, .ref qw, .int t2, .int t3, .int t4, .int t5, .int t6, .long t7])), (qt, .inl (kt, 900, .inl ft))] s.heap := hP
  have hl := lv_entry ([.ref h0, .int x]) (n := 2) (Nat.le_of_ble_eq_true rfl)
  rw [lg_entry_eq]
  generalize (lg_sl ([.ref h0, .int x]) ++ List.replicate (2 - (lg_sl ([.ref h0, .int x])).length) Slot.unset).toArray = ls at hl ⊢
  have hl : lv_has ls 2 [(0, .ref h0), (1, .int x)] := hl
  refine lv_iload_n hx hb dX9_byteAt_0 rfl (lv_at hl 1 rfl) ?_
  refine lv_if_lt (tgt := 30) hx hb dX9_byteAt_1 (by decide) (fun c1 => ?_) (fun c1 => ?_)
  ·
    exact j_X9_byteAt_30 l dC dI h0 qt qw kt t2 t3 t4 t5 t6 t7 ft hx hb hr hml hown hts hlocks hZ hA hK  _ _ _ hP hD hS (lv_sub hl [] rfl)
  ·
    refine lv_iload_n hx hb dX9_byteAt_4 rfl (lv_at hl 1 rfl) ?_
    refine lv_aload_n hx hb dX9_byteAt_5 rfl (lv_at hl 0 rfl) ?_
    refine va_get (D := (dC, dI)) (ci := 8) (v := .int t2) (C := RX9) (T := TX9) (N := 8) hx hb hts i_X9_byteAt_X9 hown hK hP 0 rfl rfl 2 (by decide) (hts (.fieldLink RX9 31 "StatementRules2$Tokens" "length" "I") k_X9_byteAt_fieldLink_RX9_31_SR_Tokens_length_I) (fun _ h9 => h9) rfl dX9_byteAt_6 ?_
    refine lv_icmp_ge (tgt := 30) hx hb dX9_byteAt_9 (by decide) (fun c2 => ?_) (fun c2 => ?_)
    ·
      exact j_X9_byteAt_30 l dC dI h0 qt qw kt t2 t3 t4 t5 t6 t7 ft hx hb hr hml hown hts hlocks hZ hA hK  _ _ _ hP hD hS (lv_sub hl [] rfl)
    ·
      refine lv_iload_n hx hb dX9_byteAt_12 rfl (lv_at hl 1 rfl) ?_
      refine lv_aload_n hx hb dX9_byteAt_13 rfl (lv_at hl 0 rfl) ?_
      refine va_get (D := (dC, dI)) (ci := 8) (v := .ref qt) (C := RX9) (T := TX9) (N := 8) hx hb hts i_X9_byteAt_X9 hown hK hP 0 rfl rfl 0 (by decide) (hts (.fieldLink RX9 15 "StatementRules2$Tokens" "tape" "[I") k_X9_byteAt_fieldLink_RX9_15_SR_Tokens_tape_I) (fun _ h9 => h9) rfl dX9_byteAt_14 ?_
      refine va_alen (v := 900) hx hb hK hP 1 0 rfl rfl rfl dX9_byteAt_17 ?_
      refine lv_icmp_ge (tgt := 30) hx hb dX9_byteAt_18 (by decide) (fun c3 => ?_) (fun c3 => ?_)
      ·
        exact j_X9_byteAt_30 l dC dI h0 qt qw kt t2 t3 t4 t5 t6 t7 ft hx hb hr hml hown hts hlocks hZ hA hK  _ _ _ hP hD hS (lv_sub hl [] rfl)
      ·
        have hvp : vp_in x 900 := z_vp900 c1 c3
        refine lv_aload_n hx hb dX9_byteAt_21 rfl (lv_at hl 0 rfl) ?_
        refine va_get (D := (dC, dI)) (ci := 8) (v := .ref qt) (C := RX9) (T := TX9) (N := 8) hx hb hts i_X9_byteAt_X9 hown hK hP 0 rfl rfl 0 (by decide) (hts (.fieldLink RX9 15 "StatementRules2$Tokens" "tape" "[I") k_X9_byteAt_fieldLink_RX9_15_SR_Tokens_tape_I) (fun _ h9 => h9) rfl dX9_byteAt_22 ?_
        refine lv_iload_n hx hb dX9_byteAt_25 rfl (lv_at hl 1 rfl) ?_
        refine va_iald hx hb hK hP 1 0 rfl rfl hvp dX9_byteAt_26 ?_
        refine lv_topi (fun z4 ez4 => ?_)
        refine lv_goto (tgt := 31) hx hb dX9_byteAt_27 (by decide) ?_
        have hP9 := hP.sub (ws' := [(h0, .inr (8, [.ref qt, .ref qw, .int t2, .int t3, .int t4, .int t5, .int t6, .long t7])), (qt, .inl (kt, 900, .inl ft))]) [0, 1] rfl
        have hD9 := hD.sub (ws' := [(h0, .inr (8, [.ref qt, .ref qw, .int t2, .int t3, .int t4, .int t5, .int t6, .long t7])), (qt, .inl (kt, 900, .inl ft))]) [0, 1] (by decide) rfl
        have hK9 := hK.sub (tys' := [(kt, .int)]) [0] rfl
        exact W.iret (v := z4) hx hb hr (fun t ht hW => ⟨⟨z4, (), rfl, trivial, by rw [ht]; exact hP9, va_K.moved hW.alike hK9, hD9⟩, hS.F ht⟩) hS.2.2 dX9_byteAt_31
