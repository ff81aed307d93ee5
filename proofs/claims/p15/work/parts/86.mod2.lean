set_option maxHeartbeats 4000000 in
set_option maxRecDepth 100000 in
theorem j_X11_at_16 {p : Program} {e : Env} {s : State} {m : MethodId} {args : Array Value} {below : List Frame} {meth : Method} {c : Code} {A : Nat → Prop} (l : Launch) (dC : Nat → ClassId) (dI : Nat → Nat → Nat) (n : Nat) (row : Nat) (kA : ClassId) (f : Nat → Int32) (hx : p.tables.exec = Jvm.exec) (hb : c.code = cX11_at) (hr : meth.sig.returnType = (some .int)) (hml : c.maxLocals = 2) (hown : s.vm.findClass RX11 = some m.cls) (hts : ∀ w ∈ wzX11_at, w.before args s = true) (hlocks : meth.locks = false) (hZ : zAMB s) (hA : ∀ q : Nat, s.heap.size ≤ q → A q) (hK : va_K (dC, dI) vwCl [(kA, .int)] s) : ∀  (H : Heap) (locs : List Loc) (ls : Array Slot), va_P (dC, dI) vwCl [(row, .inl (kA, n, .inl f))] H → va_D A [(row, .inl (kA, n, .inl f))] → va_S A s.heap H locs → lv_has ls 2 [] → W p l e ({ frames := 1, cells := 0, slots := 0, locals := 60 }) s m args below meth c H locs 0 0 (MQ below (va_Qi (fun (r : Int32) (_ : Unit) => True) (fun (_ : Unit) (t : State) => zPost dC dI A [(row, .inl (kA, n, .inl f))] [(kA, .int)] t) A) args s 0 0 A) (F0 m 16 ls []) := by
  intro  H locs ls hP hD hS hl
  refine lv_iconst (v := 0) hx hb dX11_at_16 (by decide) ?_
  have hP9 := hP.sub (ws' := [(row, .inl (kA, n, .inl f))]) [0] rfl
  have hD9 := hD.sub (ws' := [(row, .inl (kA, n, .inl f))]) [0] (by decide) rfl
  have hK9 := hK.sub (tys' := [(kA, .int)]) [0] rfl
  exact W.iret (v := 0) hx hb hr (fun t ht hW => ⟨⟨0, (), rfl, trivial, by rw [ht]; exact hP9, va_K.moved hW.alike hK9, hD9⟩, hS.F ht⟩) hS.2.2 dX11_at_17
set_option maxHeartbeats 4000000 in
set_option maxRecDepth 100000 in
theorem c_X11_at (l : Launch) (dC : Nat → ClassId) (dI : Nat → Nat → Nat) (sz : Nat) (row : Nat) (kA : ClassId) (n : Nat) (f : Nat → Int32) (i : Int32) (hn : n < 2 ^ 31) : Met l yX11_at wzX11_at ({ frames := 1, cells := 0, slots := 0, locals := 60 }) (va_Pc [.ref row, .int i] (zPre dC dI sz [(row, .inl (kA, n, .inl f))] [(kA, .int)])) (va_Qi (fun (r : Int32) (_ : Unit) => True) (fun (_ : Unit) (t : State) => zPost dC dI (va_A [(row, .inl (kA, n, .inl f))] sz) [(row, .inl (kA, n, .inl f))] [(kA, .int)] t) (va_A [(row, .inl (kA, n, .inl f))] sz)) 0 0 (va_A [(row, .inl (kA, n, .inl f))] sz) := by
  refine Met.ofW (cc := cX11_at) (maxL := 2) (ret := (some .int)) (by decide) rfl ?_
  intro p e s m args below meth c s₁ B hml hv
  obtain ⟨rfl, hsz, hZ, hP, hK, hD0⟩ := hv
  have hx := B.exec
  have hb := B.bytes
  have hr := B.returns
  have hts := atoms_spec (ws := wzX11_at) B.pre
  have hown : s.vm.findClass RX11 = some m.cls := findClass_of_methodNamed B.named
  have hlocks := B.notSynchronized
  subst hsz
  have hD := hD0.self (sz := s.heap.size)
  generalize hAe : va_A [(row, .inl (kA, n, .inl f))] s.heap.size = A at hD ⊢
  have hA : ∀ q : Nat, s.heap.size ≤ q → A q := fun q h => by rw [← hAe]; exact Or.inr h
  have hS : va_S A s.heap s.heap [] := va_S.rf
  have hP : va_P (dC, dI) vwCl [(row, .inl (kA, n, .inl f))] s.heap := hP
  have hl := lv_entry ([.ref row, .int i]) (n := 2) (Nat.le_of_ble_eq_true rfl)
  rw [lg_entry_eq]
  generalize (lg_sl ([.ref row, .int i]) ++ List.replicate (2 - (lg_sl ([.ref row, .int i])).length) Slot.unset).toArray = ls at hl ⊢
  have hl : lv_has ls 2 [(0, .ref row), (1, .int i)] := hl
  refine lv_iload_n hx hb dX11_at_0 rfl (lv_at hl 1 rfl) ?_
  refine lv_if_lt (tgt := 16) hx hb dX11_at_1 (by decide) (fun c1 => ?_) (fun c1 => ?_)
  ·
    exact j_X11_at_16 l dC dI n row kA f hx hb hr hml hown hts hlocks hZ hA hK  _ _ _ hP hD hS (lv_sub hl [] rfl)
  ·
    refine lv_iload_n hx hb dX11_at_4 rfl (lv_at hl 1 rfl) ?_
    refine lv_aload_n hx hb dX11_at_5 rfl (lv_at hl 0 rfl) ?_
    refine va_alen (v := Int32.ofNat n) hx hb hK hP 0 0 rfl rfl rfl dX11_at_6 ?_
    refine lv_icmp_ge (tgt := 16) hx hb dX11_at_7 (by decide) (fun c2 => ?_) (fun c2 => ?_)
    ·
      exact j_X11_at_16 l dC dI n row kA f hx hb hr hml hown hts hlocks hZ hA hK  _ _ _ hP hD hS (lv_sub hl [] rfl)
    ·
      have hvp : vp_in i n := z_vpn hn c1 c2
      refine lv_aload_n hx hb dX11_at_10 rfl (lv_at hl 0 rfl) ?_
      refine lv_iload_n hx hb dX11_at_11 rfl (lv_at hl 1 rfl) ?_
      refine va_iald hx hb hK hP 0 0 rfl rfl hvp dX11_at_12 ?_
      refine lv_topi (fun z3 ez3 => ?_)
      refine lv_goto (tgt := 17) hx hb dX11_at_13 (by decide) ?_
      have hP9 := hP.sub (ws' := [(row, .inl (kA, n, .inl f))]) [0] rfl
      have hD9 := hD.sub (ws' := [(row, .inl (kA, n, .inl f))]) [0] (by decide) rfl
      have hK9 := hK.sub (tys' := [(kA, .int)]) [0] rfl
      exact W.iret (v := z3) hx hb hr (fun t ht hW => ⟨⟨z3, (), rfl, trivial, by rw [ht]; exact hP9, va_K.moved hW.alike hK9, hD9⟩, hS.F ht⟩) hS.2.2 dX11_at_17
set_option maxHeartbeats 4000000 in
set_option maxRecDepth 100000 in
theorem c_X11_put (l : Launch) (dC : Nat → ClassId) (dI : Nat → Nat → Nat) (sz : Nat) (row : Nat) (kA : ClassId) (n : Nat) (f : Nat → Int32) (i : Int32) (v : Int32) (hn : n < 2 ^ 31) : Met l yX11_put wzX11_put ({ frames := 1, cells := 0, slots := 0, locals := 60 }) (va_Pc [.ref row, .int i, .int v] (zPre dC dI sz [(row, .inl (kA, n, .inl f))] [(kA, .int)])) (va_Qv (fun (_ : Unit) => True) (fun (_ : Unit) (t : State) => ∃ (g : Nat → Int32), zPost dC dI (va_A [(row, .inl (kA, n, .inl f))] sz) [(row, .inl (kA, n, .inl g))] [(kA, .int)] t) (va_A [(row, .inl (kA, n, .inl f))] sz)) 0 0 (va_A [(row, .inl (kA, n, .inl f))] sz) := by
  refine Met.ofW (cc := cX11_put) (maxL := 3) (ret := none) (by decide) rfl ?_
  intro p e s m args below meth c s₁ B hml hv
  obtain ⟨rfl, hsz, hZ, hP, hK, hD0⟩ := hv
  have hx := B.exec
  have hb := B.bytes
  have hr := B.returns
  have hts := atoms_spec (ws := wzX11_put) B.pre
  have hown : s.vm.findClass RX11 = some m.cls := findClass_of_methodNamed B.named
  have hlocks := B.notSynchronized
  subst hsz
  have hD := hD0.self (sz := s.heap.size)
  generalize hAe : va_A [(row, .inl (kA, n, .inl f))] s.heap.size = A at hD ⊢
  have hA : ∀ q : Nat, s.heap.size ≤ q → A q := fun q h => by rw [← hAe]; exact Or.inr h
  have hS : va_S A s.heap s.heap [] := va_S.rf
  have hP : va_P (dC, dI) vwCl [(row, .inl (kA, n, .inl f))] s.heap := hP
  have hl := lv_entry ([.ref row, .int i, .int v]) (n := 3) (Nat.le_of_ble_eq_true rfl)
  rw [lg_entry_eq]
  generalize (lg_sl ([.ref row, .int i, .int v]) ++ List.replicate (3 - (lg_sl ([.ref row, .int i, .int v])).length) Slot.unset).toArray = ls at hl ⊢
  have hl : lv_has ls 3 [(0, .ref row), (1, .int i), (2, .int v)] := hl
  refine lv_iload_n hx hb dX11_put_0 rfl (lv_at hl 1 rfl) ?_
  refine lv_if_lt (tgt := 14) hx hb dX11_put_1 (by decide) (fun c1 => ?_) (fun c1 => ?_)
  ·
    have hP9 := hP.sub (ws' := [(row, .inl (kA, n, .inl f))]) [0] rfl
    have hD9 := hD.sub (ws' := [(row, .inl (kA, n, .inl f))]) [0] (by decide) rfl
    have hK9 := hK.sub (tys' := [(kA, .int)]) [0] rfl
    exact W.vret hx hb hr (fun t ht hW => ⟨⟨(), rfl, trivial, f, by rw [ht]; exact hP9, va_K.moved hW.alike hK9, hD9⟩, hS.F ht⟩) hS.2.2 dX11_put_14
  ·
    refine lv_iload_n hx hb dX11_put_4 rfl (lv_at hl 1 rfl) ?_
    refine lv_aload_n hx hb dX11_put_5 rfl (lv_at hl 0 rfl) ?_
    refine va_alen (v := Int32.ofNat n) hx hb hK hP 0 0 rfl rfl rfl dX11_put_6 ?_
    refine lv_icmp_ge (tgt := 14) hx hb dX11_put_7 (by decide) (fun c2 => ?_) (fun c2 => ?_)
    ·
      have hP9 := hP.sub (ws' := [(row, .inl (kA, n, .inl f))]) [0] rfl
      have hD9 := hD.sub (ws' := [(row, .inl (kA, n, .inl f))]) [0] (by decide) rfl
      have hK9 := hK.sub (tys' := [(kA, .int)]) [0] rfl
      exact W.vret hx hb hr (fun t ht hW => ⟨⟨(), rfl, trivial, f, by rw [ht]; exact hP9, va_K.moved hW.alike hK9, hD9⟩, hS.F ht⟩) hS.2.2 dX11_put_14
    ·
      have hvp : vp_in i n := z_vpn hn c1 c2
      refine lv_aload_n hx hb dX11_put_10 rfl (lv_at hl 0 rfl) ?_
      refine lv_iload_n hx hb dX11_put_11 rfl (lv_at hl 1 rfl) ?_
      refine lv_iload_n hx hb dX11_put_12 rfl (lv_at hl 2 rfl) ?_
      refine va_iast hx hb hK hP hD hS 0 0 rfl rfl hvp dX11_put_13 (fun H locs hP hD hS => ?_)
      obtain ⟨f3, hP, hD⟩ : ∃ (f3 : Nat → Int32), va_P (dC, dI) vwCl [(row, .inl (kA, n, .inl f3))] H ∧ va_D A [(row, .inl (kA, n, .inl f3))] := ⟨_, hP, hD⟩
      have hP9 := hP.sub (ws' := [(row, .inl (kA, n, .inl f3))]) [0] rfl
      have hD9 := hD.sub (ws' := [(row, .inl (kA, n, .inl f3))]) [0] (by decide) rfl
      have hK9 := hK.sub (tys' := [(kA, .int)]) [0] rfl
      exact W.vret hx hb hr (fun t ht hW => ⟨⟨(), rfl, trivial, f3, by rw [ht]; exact hP9, va_K.moved hW.alike hK9, hD9⟩, hS.F ht⟩) hS.2.2 dX11_put_14
theorem k_X10_isKind_fieldLink_RX10_24_SR_Told_kindCount_I : Cond.fieldLink RX10 24 "StatementRules2$Told" "kindCount" "I" ∈ wzX10_isKind := List.mem_cons_of_mem _ (List.mem_append_left _ (List.mem_of_getElem? (i := 0) rfl))
theorem i_X10_isKind_X10 : ∀ w ∈ wsX100, w ∈ wzX10_isKind := fun _ h => List.mem_cons_of_mem _ (List.mem_append_right _ (List.mem_append_left _ (h)))
set_option maxHeartbeats 4000000 in
set_option maxRecDepth 100000 in
theorem j_X10_isKind_16 {p : Program} {e : Env} {s : State} {m : MethodId} {args : Array Value} {below : List Frame} {meth : Method} {c : Code} {A : Nat → Prop} (l : Launch) (dC : Nat → ClassId) (dI : Nat → Nat → Nat) (h0 : Nat) (qa : Nat) (qn : Nat) (qo : Nat) (qc : Nat) (g4 : Int32) (g5 : Int32) (hx : p.tables.exec = Jvm.exec) (hb : c.code = cX10_isKind) (hr : meth.sig.returnType = (some .boolean)) (hml : c.maxLocals = 2) (hown : s.vm.findClass RX10 = some m.cls) (hts : ∀ w ∈ wzX10_isKind, w.before args s = true) (hlocks : meth.locks = false) (hZ : zAMB s) (hA : ∀ q : Nat, s.heap.size ≤ q → A q) (hK : va_K (dC, dI) vwCl [] s) : ∀  (H : Heap) (locs : List Loc) (ls : Array Slot), va_P (dC, dI) vwCl [(h0, .inr (9, [.ref qa, .ref qn, .ref qo, .ref qc, .int g4, .int g5]))] H → va_D A [(h0, .inr (9, [.ref qa, .ref qn, .ref qo, .ref qc, .int g4, .int g5]))] → va_S A s.heap H locs → lv_has ls 2 [] → W p l e ({ frames := 1, cells := 0, slots := 0, locals := 60 }) s m args below meth c H locs 0 0 (MQ below (va_Qi (fun (r : Int32) (_ : Unit) => r = 0 ∨ r = 1) (fun (_ : Unit) (t : State) => zPost dC dI A [(h0, .inr (9, [.ref qa, .ref qn, .ref qo, .ref qc, .int g4, .int g5]))] [] t) A) args s 0 0 A) (F0 m 16 ls []) := by
  intro  H locs ls hP hD hS hl
  refine lv_iconst (v := 0) hx hb dX10_isKind_16 (by decide) ?_
  have hP9 := hP.sub (ws' := [(h0, .inr (9, [.ref qa, .ref qn, .ref qo, .ref qc, .int g4, .int g5]))]) [0] rfl
  have hD9 := hD.sub (ws' := [(h0, .inr (9, [.ref qa, .ref qn, .ref qo, .ref qc, .int g4, .int g5]))]) [0] (by decide) rfl
  have hK9 := hK.sub (tys' := []) [] rfl
  exact W.zret (v := 0) hx hb hr (rfl) (fun t ht hW => ⟨⟨0, (), rfl, (Or.inl rfl), by rw [ht]; exact hP9, va_K.moved hW.alike hK9, hD9⟩, hS.F ht⟩) hS.2.2 dX10_isKind_17
set_option maxHeartbeats 4000000 in
set_option maxRecDepth 100000 in
theorem c_X10_isKind (l : Launch) (dC : Nat → ClassId) (dI : Nat → Nat → Nat) (sz : Nat) (h0 : Nat) (x : Int32) (g4 : Int32) (g5 : Int32) (qa : Nat) (qn : Nat) (qo : Nat) (qc : Nat) : Met l yX10_isKind wzX10_isKind ({ frames := 1, cells := 0, slots := 0, locals := 60 }) (va_Pc [.ref h0, .int x] (zPre dC dI sz [(h0, .inr (9, [.ref qa, .ref qn, .ref qo, .ref qc, .int g4, .int g5]))] [])) (va_Qi (fun (r : Int32) (_ : Unit) => r = 0 ∨ r = 1) (fun (_ : Unit) (t : State) => zPost dC dI (va_A [(h0, .inr (9, [.ref qa, .ref qn, .ref qo, .ref qc, .int g4, .int g5]))] sz) [(h0, .inr (9, [.ref qa, .ref qn, .ref qo, .ref qc, .int g4, .int g5]))] [] t) (va_A [(h0, .inr (9, [.ref qa, .ref qn, .ref qo, .ref qc, .int g4, .int g5]))] sz)) 0 0 (va_A [(h0, .inr (9, [.ref qa, .ref qn, .ref qo, .ref qc, .int g4, .int g5]))] sz) := by
  refine Met.ofW (cc := cX10_isKind) (maxL := 2) (ret := (some .boolean)) (by decide) rfl ?_
  intro p e s m args below meth c s₁ B hml hv
  obtain ⟨rfl, hsz, hZ, hP, hK, hD0⟩ := hv
  have hx := B.exec
  have hb := B.bytes
  have hr := B.returns
  have hts := atoms_spec (ws := wzX10_isKind) B.pre
  have hown : s.vm.findClass RX10 = some m.cls := findClass_of_methodNamed B.named
  have hlocks := B.notSynchronized
  subst hsz
  have hD := hD0.self (sz := s.heap.size)
  generalize hAe : va_A [(h0, .inr (9, [.ref qa, .ref qn, .ref qo, .ref qc, .int g4, .int g5]))] s.heap.size = A at hD ⊢
  have hA : ∀ q : Nat, s.heap.size ≤ q → A q := fun q h => by rw [← hAe]; exact Or.inr h
  have hS : va_S A s.heap s.heap [] := va_S.rf
  have hP : va_P (dC, dI) vwCl [(h0, .inr (9, [.ref qa, .ref qn, .ref qo, .ref qc, .int g4, .int g5]))] s.heap := hP
  have hl := lv_entry ([.ref h0, .int x]) (n := 2) (Nat.le_of_ble_eq_true rfl)
  rw [lg_entry_eq]
  generalize (lg_sl ([.ref h0, .int x]) ++ List.replicate (2 - (lg_sl ([.ref h0, .int x])).length) Slot.unset).toArray = ls at hl ⊢
  have hl : lv_has ls 2 [(0, .ref h0), (1, .int x)] := hl
  refine lv_iload_n hx hb dX10_isKind_0 rfl (lv_at hl 1 rfl) ?_
  refine lv_if_lt (tgt := 16) hx hb dX10_isKind_1 (by decide) (fun c1 => ?_) (fun c1 => ?_)
  ·
    exact j_X10_isKind_16 l dC dI h0 qa qn qo qc  g4 g5 hx hb hr hml hown hts hlocks hZ hA hK  _ _ _ hP hD hS (lv_sub hl [] rfl)
  ·
    refine lv_iload_n hx hb dX10_isKind_4 rfl (lv_at hl 1 rfl) ?_
    refine lv_aload_n hx hb dX10_isKind_5 rfl (lv_at hl 0 rfl) ?_
    refine va_get (D := (dC, dI)) (ci := 9) (v := .int g4) (C := RX10) (T := TX10) (N := 6) hx hb hts i_X10_isKind_X10 hown hK hP 0 rfl rfl 4 (by decide) (hts (.fieldLink RX10 24 "StatementRules2$Told" "kindCount" "I") k_X10_isKind_fieldLink_RX10_24_SR_Told_kindCount_I) (fun _ h9 => h9) rfl dX10_isKind_6 ?_
    refine lv_icmp_ge (tgt := 16) hx hb dX10_isKind_9 (by decide) (fun c2 => ?_) (fun c2 => ?_)
    ·
      exact j_X10_isKind_16 l dC dI h0 qa qn qo qc  g4 g5 hx hb hr hml hown hts hlocks hZ hA hK  _ _ _ hP hD hS (lv_sub hl [] rfl)
    ·
      refine lv_iconst (v := 1) hx hb dX10_isKind_12 (by decide) ?_
      refine lv_goto (tgt := 17) hx hb dX10_isKind_13 (by decide) ?_
      have hP9 := hP.sub (ws' := [(h0, .inr (9, [.ref qa, .ref qn, .ref qo, .ref qc, .int g4, .int g5]))]) [0] rfl
      have hD9 := hD.sub (ws' := [(h0, .inr (9, [.ref qa, .ref qn, .ref qo, .ref qc, .int g4, .int g5]))]) [0] (by decide) rfl
      have hK9 := hK.sub (tys' := []) [] rfl
      exact W.zret (v := 1) hx hb hr (rfl) (fun t ht hW => ⟨⟨1, (), rfl, (Or.inr rfl), by rw [ht]; exact hP9, va_K.moved hW.alike hK9, hD9⟩, hS.F ht⟩) hS.2.2 dX10_isKind_17
theorem k_X10_isFull_fieldLink_RX10_24_SR_Told_kindCount_I : Cond.fieldLink RX10 24 "StatementRules2$Told" "kindCount" "I" ∈ wzX10_isFull := List.mem_cons_of_mem _ (List.mem_append_left _ (List.mem_of_getElem? (i := 0) rfl))
theorem i_X10_isFull_X10 : ∀ w ∈ wsX100, w ∈ wzX10_isFull := fun _ h => List.mem_cons_of_mem _ (List.mem_append_right _ (List.mem_append_left _ (h)))
set_option maxHeartbeats 4000000 in
set_option maxRecDepth 100000 in
theorem c_X10_isFull (l : Launch) (dC : Nat → ClassId) (dI : Nat → Nat → Nat) (sz : Nat) (h0 : Nat) (g4 : Int32) (g5 : Int32) (qa : Nat) (qn : Nat) (qo : Nat) (qc : Nat) : Met l yX10_isFull wzX10_isFull ({ frames := 1, cells := 0, slots := 0, locals := 60 }) (va_Pc [.ref h0] (zPre dC dI sz [(h0, .inr (9, [.ref qa, .ref qn, .ref qo, .ref qc, .int g4, .int g5]))] [])) (va_Qi (fun (r : Int32) (_ : Unit) => r = 0 ∨ r = 1) (fun (_ : Unit) (t : State) => zPost dC dI (va_A [(h0, .inr (9, [.ref qa, .ref qn, .ref qo, .ref qc, .int g4, .int g5]))] sz) [(h0, .inr (9, [.ref qa, .ref qn, .ref qo, .ref qc, .int g4, .int g5]))] [] t) (va_A [(h0, .inr (9, [.ref qa, .ref qn, .ref qo, .ref qc, .int g4, .int g5]))] sz)) 0 0 (va_A [(h0, .inr (9, [.ref qa, .ref qn, .ref qo, .ref qc, .int g4, .int g5]))] sz) := by
  refine Met.ofW (cc := cX10_isFull) (maxL := 1) (ret := (some .boolean)) (by decide) rfl ?_
  intro p e s m args below meth c s₁ B hml hv
  obtain ⟨rfl, hsz, hZ, hP, hK, hD0⟩ := hv
  have hx := B.exec
  have hb := B.bytes
  have hr := B.returns
  have hts := atoms_spec (ws := wzX10_isFull) B.pre
  have hown : s.vm.findClass RX10 = some m.cls := findClass_of_methodNamed B.named
  have hlocks := B.notSynchronized
  subst hsz
  have hD := hD0.self (sz := s.heap.size)
  generalize hAe : va_A [(h0, .inr (9, [.ref qa, .ref qn, .ref qo, .ref qc, .int g4, .int g5]))] s.heap.size = A at hD ⊢
  have hA : ∀ q : Nat, s.heap.size ≤ q → A q := fun q h => by rw [← hAe]; exact Or.inr h
  have hS : va_S A s.heap s.heap [] := va_S.rf
  have hP : va_P (dC, dI) vwCl [(h0, .inr (9, [.ref qa, .ref qn, .ref qo, .ref qc, .int g4, .int g5]))] s.heap := hP
  have hl := lv_entry ([.ref h0]) (n := 1) (Nat.le_of_ble_eq_true rfl)
  rw [lg_entry_eq]
  generalize (lg_sl ([.ref h0]) ++ List.replicate (1 - (lg_sl ([.ref h0])).length) Slot.unset).toArray = ls at hl ⊢
  have hl : lv_has ls 1 [(0, .ref h0)] := hl
  refine lv_aload_n hx hb dX10_isFull_0 rfl (lv_at hl 0 rfl) ?_
  refine va_get (D := (dC, dI)) (ci := 9) (v := .int g4) (C := RX10) (T := TX10) (N := 6) hx hb hts i_X10_isFull_X10 hown hK hP 0 rfl rfl 4 (by decide) (hts (.fieldLink RX10 24 "StatementRules2$Told" "kindCount" "I") k_X10_isFull_fieldLink_RX10_24_SR_Told_kindCount_I) (fun _ h9 => h9) rfl dX10_isFull_1 ?_
  refine lv_bipush (v := 12) hx hb dX10_isFull_4 (by decide) ?_
  refine lv_icmp_lt (tgt := 13) hx hb dX10_isFull_6 (by decide) (fun c1 => ?_) (fun c1 => ?_)
  ·
    refine lv_iconst (v := 0) hx hb dX10_isFull_13 (by decide) ?_
    have hP9 := hP.sub (ws' := [(h0, .inr (9, [.ref qa, .ref qn, .ref qo, .ref qc, .int g4, .int g5]))]) [0] rfl
    have hD9 := hD.sub (ws' := [(h0, .inr (9, [.ref qa, .ref qn, .ref qo, .ref qc, .int g4, .int g5]))]) [0] (by decide) rfl
    have hK9 := hK.sub (tys' := []) [] rfl
    exact W.zret (v := 0) hx hb hr (rfl) (fun t ht hW => ⟨⟨0, (), rfl, (Or.inl rfl), by rw [ht]; exact hP9, va_K.moved hW.alike hK9, hD9⟩, hS.F ht⟩) hS.2.2 dX10_isFull_14
  ·
    refine lv_iconst (v := 1) hx hb dX10_isFull_9 (by decide) ?_
    refine lv_goto (tgt := 14) hx hb dX10_isFull_10 (by decide) ?_
    have hP9 := hP.sub (ws' := [(h0, .inr (9, [.ref qa, .ref qn, .ref qo, .ref qc, .int g4, .int g5]))]) [0] rfl
    have hD9 := hD.sub (ws' := [(h0, .inr (9, [.ref qa, .ref qn, .ref qo, .ref qc, .int g4, .int g5]))]) [0] (by decide) rfl
    have hK9 := hK.sub (tys' := []) [] rfl
    exact W.zret (v := 1) hx hb hr (rfl) (fun t ht hW => ⟨⟨1, (), rfl, (Or.inr rfl), by rw [ht]; exact hP9, va_K.moved hW.alike hK9, hD9⟩, hS.F ht⟩) hS.2.2 dX10_isFull_14
theorem k_X10_addKind_fieldLink_RX10_9_SR_Told_above_I : Cond.fieldLink RX10 9 "StatementRules2$Told" "above" "[I" ∈ wzX10_addKind := List.mem_cons_of_mem _ (List.mem_append_left _ (List.mem_of_getElem? (i := 0) rfl))
theorem i_X10_addKind_X10 : ∀ w ∈ wsX100, w ∈ wzX10_addKind := fun _ h => List.mem_cons_of_mem _ (List.mem_append_right _ (List.mem_append_left _ (h)))
theorem k_X10_addKind_fieldLink_RX10_24_SR_Told_kindCount_I : Cond.fieldLink RX10 24 "StatementRules2$Told" "kindCount" "I" ∈ wzX10_addKind := List.mem_cons_of_mem _ (List.mem_append_left _ (List.mem_of_getElem? (i := 1) rfl))
theorem k_X10_addKind_initialized_RX11 : Cond.initialized RX11 ∈ wzX10_addKind := List.mem_cons_of_mem _ (List.mem_append_left _ (List.mem_of_getElem? (i := 2) rfl))
theorem k_X10_addKind_static_yX11_put : Cond.static yX11_put ∈ wzX10_addKind := List.mem_cons_of_mem _ (List.mem_append_left _ (List.mem_of_getElem? (i := 3) rfl))
set_option maxHeartbeats 4000000 in
set_option maxRecDepth 100000 in
theorem c_X10_addKind (l : Launch) (dC : Nat → ClassId) (dI : Nat → Nat → Nat) (sz : Nat) (h0 : Nat) (x : Int32) (g4 : Int32) (g5 : Int32) (qa : Nat) (qn : Nat) (qo : Nat) (qc : Nat) (kA : ClassId) (fa : Nat → Int32) : Met l yX10_addKind wzX10_addKind ({ frames := 2, cells := 0, slots := 0, locals := 120 }) (va_Pc [.ref h0, .int x] (zPre dC dI sz [(h0, .inr (9, [.ref qa, .ref qn, .ref qo, .ref qc, .int g4, .int g5])), (qa, .inl (kA, 12, .inl fa))] [(kA, .int)])) (va_Qi (fun (r : Int32) (_ : Unit) => True) (fun (_ : Unit) (t : State) => ∃ (e4 : Int32), ∃ (e5 : Int32), ∃ (fb : Nat → Int32), zPost dC dI (va_A [(h0, .inr (9, [.ref qa, .ref qn, .ref qo, .ref qc, .int g4, .int g5])), (qa, .inl (kA, 12, .inl fa))] sz) [(h0, .inr (9, [.ref qa, .ref qn, .ref qo, .ref qc, .int e4, .int e5])), (qa, .inl (kA, 12, .inl fb))] [(kA, .int)] t) (va_A [(h0, .inr (9, [.ref qa, .ref qn, .ref qo, .ref qc, .int g4, .int g5])), (qa, .inl (kA, 12, .inl fa))] sz)) 0 0 (va_A [(h0, .inr (9, [.ref qa, .ref qn, .ref qo, .ref qc, .int g4, .int g5])), (qa, .inl (kA, 12, .inl fa))] sz) := by
  refine Met.ofW (cc := cX10_addKind) (maxL := 2) (ret := (some .int)) (by decide) rfl ?_
  intro p e s m args below meth c s₁ B hml hv
  obtain ⟨rfl, hsz, hZ, hP, hK, hD0⟩ := hv
  have hx := B.exec
  have hb := B.bytes
  have hr := B.returns
  have hts := atoms_spec (ws := wzX10_addKind) B.pre
  have hown : s.vm.findClass RX10 = some m.cls := findClass_of_methodNamed B.named
  have hlocks := B.notSynchronized
  subst hsz
  have hD := hD0.self (sz := s.heap.size)
  generalize hAe : va_A [(h0, .inr (9, [.ref qa, .ref qn, .ref qo, .ref qc, .int g4, .int g5])), (qa, .inl (kA, 12, .inl fa))] s.heap.size = A at hD ⊢
  have hA : ∀ q : Nat, s.heap.size ≤ q → A q := fun q h => by rw [← hAe]; exact Or.inr h
  have hS : va_S A s.heap s.heap [] := va_S.rf
  have hP : va_P (dC, dI) vwCl [(h0, .inr (9, [.ref qa, .ref qn, .ref qo, .ref qc, .int g4, .int g5])), (qa, .inl (kA, 12, .inl fa))] s.heap := hP
  have hl := lv_entry ([.ref h0, .int x]) (n := 2) (Nat.le_of_ble_eq_true rfl)
  rw [lg_entry_eq]
  generalize (lg_sl ([.ref h0, .int x]) ++ List.replicate (2 - (lg_sl ([.ref h0, .int x])).length) Slot.unset).toArray = ls at hl ⊢
  have hl : lv_has ls 2 [(0, .ref h0), (1, .int x)] := hl
  refine lv_aload_n hx hb dX10_addKind_0 rfl (lv_at hl 0 rfl) ?_
  refine va_get (D := (dC, dI)) (ci := 9) (v := .ref qa) (C := RX10) (T := TX10) (N := 6) hx hb hts i_X10_addKind_X10 hown hK hP 0 rfl rfl 0 (by decide) (hts (.fieldLink RX10 9 "StatementRules2$Told" "above" "[I") k_X10_addKind_fieldLink_RX10_9_SR_Told_above_I) (fun _ h9 => h9) rfl dX10_addKind_1 ?_
  refine lv_aload_n hx hb dX10_addKind_4 rfl (lv_at hl 0 rfl) ?_
  refine va_get (D := (dC, dI)) (ci := 9) (v := .int g4) (C := RX10) (T := TX10) (N := 6) hx hb hts i_X10_addKind_X10 hown hK hP 0 rfl rfl 4 (by decide) (hts (.fieldLink RX10 24 "StatementRules2$Told" "kindCount" "I") k_X10_addKind_fieldLink_RX10_24_SR_Told_kindCount_I) (fun _ h9 => h9) rfl dX10_addKind_5 ?_
  refine lv_iload_n hx hb dX10_addKind_8 rfl (lv_at hl 1 rfl) ?_
  have hPc := hP.sub (ws' := [(qa, .inl (kA, 12, .inl fa))]) [1] rfl
  have hDc := hD.sub (ws' := [(qa, .inl (kA, 12, .inl fa))]) [1] (by decide) rfl
  have hKc := hK.sub (tys' := [(kA, .int)]) [0] rfl
  have hFc := va_free (wc := [(qa, .inl (kA, 12, .inl fa))]) hD hS hA [1] rfl
  refine va_callv (va_runSN (As := [.ref qa, .int g4, .int x]) (rest := []) ⟨hx, hb, hml, hown, hts⟩ (c_X11_put l dC dI _ qa kA 12 fa g4 x (by decide)) ⟨va_cnB 3 hts hX10_addKind_X11_put_n28 rfl rfl rfl (hZ.1 (.methodLinkNest RX10 28 yX11_put "StatementRules2") (by decide +kernel)) (hts (.initialized RX11) k_X10_addKind_initialized_RX11) (by decide +kernel) ⟨Nat.le_of_ble_eq_true rfl, Nat.le_of_ble_eq_true rfl⟩, (hts (.static yX11_put) k_X10_addKind_static_yX11_put), trivial⟩ ⟨zPre.blind, zPre.go hZ hPc hKc hDc⟩ rfl rfl hl.1 rfl (lv_room (Nat.le_of_ble_eq_true rfl)) dX10_addKind_9 ⟨Nat.le_of_ble_eq_true rfl, Nat.le_of_ble_eq_true rfl⟩) hS (fun q _ h => hFc q h) hFc (fun u9 t9 H1 locs ht hvm hw hB hz1 hk1 hS => ?_)
  obtain ⟨g_2, hP1, hK1, hD1⟩ := hB
  rw [ht] at hP1
  have hK1 := va_K.moved hvm.symm hK1
  obtain ⟨hP, hD⟩ := va_join (wr := [(h0, .inr (9, [.ref qa, .ref qn, .ref qo, .ref qc, .int g4, .int g5]))]) (w1 := [(qa, .inl (kA, 12, .inl g_2))]) hP hD [1] [0] rfl rfl (by decide) (by decide) hk1 hFc hP1 hD1
  have hK := hK.app hK1
  generalize H1 = H at hP hS ⊢
  have hP : va_P (dC, dI) vwCl [(h0, .inr (9, [.ref qa, .ref qn, .ref qo, .ref qc, .int g4, .int g5])), (qa, .inl (kA, 12, .inl g_2))] H := hP
  have hD : va_D A [(h0, .inr (9, [.ref qa, .ref qn, .ref qo, .ref qc, .int g4, .int g5])), (qa, .inl (kA, 12, .inl g_2))] := hD
  have hK : va_K (dC, dI) vwCl [(kA, .int), (kA, .int)] s := hK
  have hK : va_K (dC, dI) vwCl [(kA, .int)] s := hK.sub [0] rfl
  refine lv_aload_n hx hb dX10_addKind_12 rfl (lv_at hl 0 rfl) ?_
  refine lv_dup hx hb dX10_addKind_13 rfl ?_
  refine va_get (D := (dC, dI)) (ci := 9) (v := .int g4) (C := RX10) (T := TX10) (N := 6) hx hb hts i_X10_addKind_X10 hown hK hP 0 rfl rfl 4 (by decide) (hts (.fieldLink RX10 24 "StatementRules2$Told" "kindCount" "I") k_X10_addKind_fieldLink_RX10_24_SR_Told_kindCount_I) (fun _ h9 => h9) rfl dX10_addKind_14 ?_
  refine lv_iconst (v := 1) hx hb dX10_addKind_17 (by decide) ?_
  refine lv_iadd hx hb dX10_addKind_18 ?_
  refine lv_topi (fun z3 ez3 => ?_)
  refine va_put (D := (dC, dI)) (ci := 9) (v := .int z3) (ty := .int) (C := RX10) (T := TX10) (N := 6) hx hb hts i_X10_addKind_X10 tyX10 tyX10_ok nmX10 hown hK hP hD hS 0 rfl rfl 4 (by decide) (hts (.fieldLink RX10 24 "StatementRules2$Told" "kindCount" "I") k_X10_addKind_fieldLink_RX10_24_SR_Told_kindCount_I) (fun _ h9 => h9) rfl (by decide +kernel) rfl rfl (Nat.le_of_ble_eq_true rfl) dX10_addKind_19 (fun H locs hP hD hS => ?_)
  have hP : va_P (dC, dI) vwCl [(h0, .inr (9, [.ref qa, .ref qn, .ref qo, .ref qc, .int z3, .int g5])), (qa, .inl (kA, 12, .inl g_2))] H := hP
  have hD : va_D A [(h0, .inr (9, [.ref qa, .ref qn, .ref qo, .ref qc, .int z3, .int g5])), (qa, .inl (kA, 12, .inl g_2))] := hD
  refine lv_aload_n hx hb dX10_addKind_22 rfl (lv_at hl 0 rfl) ?_
  refine va_get (D := (dC, dI)) (ci := 9) (v := .int z3) (C := RX10) (T := TX10) (N := 6) hx hb hts i_X10_addKind_X10 hown hK hP 0 rfl rfl 4 (by decide) (hts (.fieldLink RX10 24 "StatementRules2$Told" "kindCount" "I") k_X10_addKind_fieldLink_RX10_24_SR_Told_kindCount_I) (fun _ h9 => h9) rfl dX10_addKind_23 ?_
  refine lv_iconst (v := 1) hx hb dX10_addKind_26 (by decide) ?_
  refine lv_isub hx hb dX10_addKind_27 ?_
  refine lv_topi (fun z4 ez4 => ?_)
  have hP9 := hP.sub (ws' := [(h0, .inr (9, [.ref qa, .ref qn, .ref qo, .ref qc, .int z3, .int g5])), (qa, .inl (kA, 12, .inl g_2))]) [0, 1] rfl
  have hD9 := hD.sub (ws' := [(h0, .inr (9, [.ref qa, .ref qn, .ref qo, .ref qc, .int z3, .int g5])), (qa, .inl (kA, 12, .inl g_2))]) [0, 1] (by decide) rfl
  have hK9 := hK.sub (tys' := [(kA, .int)]) [0] rfl
  exact W.iret (v := z4) hx hb hr (fun t ht hW => ⟨⟨z4, (), rfl, trivial, z3, g5, g_2, by rw [ht]; exact hP9, va_K.moved hW.alike hK9, hD9⟩, hS.F ht⟩) hS.2.2 dX10_addKind_28
theorem k_X10_isUnder_fieldLink_RX10_9_SR_Told_above_I : Cond.fieldLink RX10 9 "StatementRules2$Told" "above" "[I" ∈ wzX10_isUnder := List.mem_cons_of_mem _ (List.mem_append_left _ (List.mem_of_getElem? (i := 0) rfl))
theorem i_X10_isUnder_X10 : ∀ w ∈ wsX100, w ∈ wzX10_isUnder := fun _ h => List.mem_cons_of_mem _ (List.mem_append_right _ (List.mem_append_left _ (h)))
theorem k_X10_isUnder_initialized_RX11 : Cond.initialized RX11 ∈ wzX10_isUnder := List.mem_cons_of_mem _ (List.mem_append_left _ (List.mem_of_getElem? (i := 1) rfl))
theorem k_X10_isUnder_static_yX11_at : Cond.static yX11_at ∈ wzX10_isUnder := List.mem_cons_of_mem _ (List.mem_append_left _ (List.mem_of_getElem? (i := 2) rfl))
set_option maxHeartbeats 4000000 in
set_option maxRecDepth 100000 in
theorem j_X10_isUnder_38 {p : Program} {e : Env} {s : State} {m : MethodId} {args : Array Value} {below : List Frame} {meth : Method} {c : Code} {A : Nat → Prop} (l : Launch) (dC : Nat → ClassId) (dI : Nat → Nat → Nat) (h0 : Nat) (qa : Nat) (qn : Nat) (qo : Nat) (qc : Nat) (kA : ClassId) (g4 : Int32) (g5 : Int32) (fa : Nat → Int32) (hx : p.tables.exec = Jvm.exec) (hb : c.code = cX10_isUnder) (hr : meth.sig.returnType = (some .boolean)) (hml : c.maxLocals = 5) (hown : s.vm.findClass RX10 = some m.cls) (hts : ∀ w ∈ wzX10_isUnder, w.before args s = true) (hlocks : meth.locks = false) (hZ : zAMB s) (hA : ∀ q : Nat, s.heap.size ≤ q → A q) (hK : va_K (dC, dI) vwCl [(kA, .int)] s) : ∀  (H : Heap) (locs : List Loc) (ls : Array Slot), va_P (dC, dI) vwCl [(h0, .inr (9, [.ref qa, .ref qn, .ref qo, .ref qc, .int g4, .int g5])), (qa, .inl (kA, 12, .inl fa))] H → va_D A [(h0, .inr (9, [.ref qa, .ref qn, .ref qo, .ref qc, .int g4, .int g5])), (qa, .inl (kA, 12, .inl fa))] → va_S A s.heap H locs → lv_has ls 5 [] → W p l e ({ frames := 2, cells := 0, slots := 0, locals := 120 }) s m args below meth c H locs 0 0 (MQ below (va_Qi (fun (r : Int32) (_ : Unit) => r = 0 ∨ r = 1) (fun (_ : Unit) (t : State) => zPost dC dI A [(h0, .inr (9, [.ref qa, .ref qn, .ref qo, .ref qc, .int g4, .int g5])), (qa, .inl (kA, 12, .inl fa))] [(kA, .int)] t) A) args s 0 0 A) (F0 m 38 ls []) := by
  intro  H locs ls hP hD hS hl
  refine lv_iconst (v := 0) hx hb dX10_isUnder_38 (by decide) ?_
  have hP9 := hP.sub (ws' := [(h0, .inr (9, [.ref qa, .ref qn, .ref qo, .ref qc, .int g4, .int g5])), (qa, .inl (kA, 12, .inl fa))]) [0, 1] rfl
  have hD9 := hD.sub (ws' := [(h0, .inr (9, [.ref qa, .ref qn, .ref qo, .ref qc, .int g4, .int g5])), (qa, .inl (kA, 12, .inl fa))]) [0, 1] (by decide) rfl
  have hK9 := hK.sub (tys' := [(kA, .int)]) [0] rfl
  exact W.zret (v := 0) hx hb hr (rfl) (fun t ht hW => ⟨⟨0, (), rfl, (Or.inl rfl), by rw [ht]; exact hP9, va_K.moved hW.alike hK9, hD9⟩, hS.F ht⟩) hS.2.2 dX10_isUnder_39
set_option maxHeartbeats 4000000 in
set_option maxRecDepth 100000 in
theorem j_X10_isUnder_5 {p : Program} {e : Env} {s : State} {m : MethodId} {args : Array Value} {below : List Frame} {meth : Method} {c : Code} {A : Nat → Prop} (l : Launch) (dC : Nat → ClassId) (dI : Nat → Nat → Nat) (h0 : Nat) (qa : Nat) (qn : Nat) (qo : Nat) (qc : Nat) (kA : ClassId) (g4 : Int32) (g5 : Int32) (fa : Nat → Int32) (y : Int32) (hx : p.tables.exec = Jvm.exec) (hb : c.code = cX10_isUnder) (hr : meth.sig.returnType = (some .boolean)) (hml : c.maxLocals = 5) (hown : s.vm.findClass RX10 = some m.cls) (hts : ∀ w ∈ wzX10_isUnder, w.before args s = true) (hlocks : meth.locks = false) (hZ : zAMB s) (hA : ∀ q : Nat, s.heap.size ≤ q → A q) (hK : va_K (dC, dI) vwCl [(kA, .int)] s) : ∀ (n9 : Nat) (l3 : Int32) (l4 : Int32) (H : Heap) (locs : List Loc) (ls : Array Slot), (∃ k9 : Nat, l4 = nI k9 ∧ k9 + n9 = 12) → va_P (dC, dI) vwCl [(h0, .inr (9, [.ref qa, .ref qn, .ref qo, .ref qc, .int g4, .int g5])), (qa, .inl (kA, 12, .inl fa))] H → va_D A [(h0, .inr (9, [.ref qa, .ref qn, .ref qo, .ref qc, .int g4, .int g5])), (qa, .inl (kA, 12, .inl fa))] → va_S A s.heap H locs → lv_has ls 5 [(0, .ref h0), (2, .int y), (3, .int l3), (4, .int l4)] → W p l e ({ frames := 2, cells := 0, slots := 0, locals := 120 }) s m args below meth c H locs 0 0 (MQ below (va_Qi (fun (r : Int32) (_ : Unit) => r = 0 ∨ r = 1) (fun (_ : Unit) (t : State) => zPost dC dI A [(h0, .inr (9, [.ref qa, .ref qn, .ref qo, .ref qc, .int g4, .int g5])), (qa, .inl (kA, 12, .inl fa))] [(kA, .int)] t) A) args s 0 0 A) (F0 m 5 ls []) := by
  intro n9
  induction n9 with
  | zero =>
    intro l3 l4 H locs ls hinv hP hD hS hl
    have hge : (12 : Int32) ≤ l4 := by obtain ⟨k9, h9, h8⟩ := hinv; rw [h9, show k9 = 12 by omega]; decide
    refine lv_iload hx hb dX10_isUnder_5 (lv_at hl 3 rfl) ?_
    refine lv_bipush (v := 12) hx hb dX10_isUnder_7 (by decide) ?_
    refine lv_icmp_ge (tgt := 38) hx hb dX10_isUnder_9 (by decide) (fun _ => ?_) (fun c9 => absurd hge c9)
    exact j_X10_isUnder_38 l dC dI h0 qa qn qo qc kA g4 g5 fa hx hb hr hml hown hts hlocks hZ hA hK  _ _ _ hP hD hS (lv_sub hl [] rfl)
  | succ n9 ih =>
    intro l3 l4 H locs ls hinv hP hD hS hl
    have hge : ¬ (12 : Int32) ≤ l4 := by obtain ⟨k9, h9, h8⟩ := hinv; rw [h9]; exact nI_ge (a := k9) (b := 12) (by omega) (by decide)
    refine lv_iload hx hb dX10_isUnder_5 (lv_at hl 3 rfl) ?_
    refine lv_bipush (v := 12) hx hb dX10_isUnder_7 (by decide) ?_
    refine lv_icmp_ge (tgt := 38) hx hb dX10_isUnder_9 (by decide) (fun c9 => absurd c9 hge) (fun _ => ?_)
    refine lv_iload_n hx hb dX10_isUnder_12 rfl (lv_at hl 2 rfl) ?_
    refine lv_if_lt (tgt := 38) hx hb dX10_isUnder_13 (by decide) (fun c1 => ?_) (fun c1 => ?_)
    ·
      exact j_X10_isUnder_38 l dC dI h0 qa qn qo qc kA g4 g5 fa hx hb hr hml hown hts hlocks hZ hA hK  _ _ _ hP hD hS (lv_sub hl [] rfl)
    ·
      refine lv_iload_n hx hb dX10_isUnder_16 rfl (lv_at hl 2 rfl) ?_
      refine lv_iload_n hx hb dX10_isUnder_17 rfl (lv_at hl 1 rfl) ?_
      refine lv_icmp_ne (tgt := 23) hx hb dX10_isUnder_18 (by decide) (fun c2 => ?_) (fun c2 => ?_)
      ·
        refine lv_aload_n hx hb dX10_isUnder_23 rfl (lv_at hl 0 rfl) ?_
        refine va_get (D := (dC, dI)) (ci := 9) (v := .ref qa) (C := RX10) (T := TX10) (N := 6) hx hb hts i_X10_isUnder_X10 hown hK hP 0 rfl rfl 0 (by decide) (hts (.fieldLink RX10 9 "StatementRules2$Told" "above" "[I") k_X10_isUnder_fieldLink_RX10_9_SR_Told_above_I) (fun _ h9 => h9) rfl dX10_isUnder_24 ?_
        refine lv_iload_n hx hb dX10_isUnder_27 rfl (lv_at hl 2 rfl) ?_
        have hPc := hP.sub (ws' := [(qa, .inl (kA, 12, .inl fa))]) [1] rfl
        have hDc := hD.sub (ws' := [(qa, .inl (kA, 12, .inl fa))]) [1] (by decide) rfl
        have hKc := hK.sub (tys' := [(kA, .int)]) [0] rfl
        have hFc := va_free (wc := [(qa, .inl (kA, 12, .inl fa))]) hD hS hA [1] rfl
        refine va_calli (va_runSN (As := [.ref qa, .int l3]) (rest := []) ⟨hx, hb, hml, hown, hts⟩ (c_X11_at l dC dI _ qa kA 12 fa l3 (by decide)) ⟨va_cnB 2 hts hX10_isUnder_X11_at_n32 rfl rfl rfl (hZ.1 (.methodLinkNest RX10 32 yX11_at "StatementRules2") (by decide +kernel)) (hts (.initialized RX11) k_X10_isUnder_initialized_RX11) (by decide +kernel) ⟨Nat.le_of_ble_eq_true rfl, Nat.le_of_ble_eq_true rfl⟩, (hts (.static yX11_at) k_X10_isUnder_static_yX11_at), trivial⟩ ⟨zPre.blind, zPre.go hZ hPc hKc hDc⟩ rfl rfl hl.1 rfl (lv_room (Nat.le_of_ble_eq_true rfl)) dX10_isUnder_28 ⟨Nat.le_of_ble_eq_true rfl, Nat.le_of_ble_eq_true rfl⟩) hS (fun q _ h => hFc q h) hFc (fun r3 u9 t9 H1 locs ht hvm hw hB hz1 hk1 hS => ?_)
        obtain ⟨hP1, hK1, hD1⟩ := hB
        rw [ht] at hP1
        have hK1 := va_K.moved hvm.symm hK1
        obtain ⟨hP, hD⟩ := va_join (wr := [(h0, .inr (9, [.ref qa, .ref qn, .ref qo, .ref qc, .int g4, .int g5]))]) (w1 := [(qa, .inl (kA, 12, .inl fa))]) hP hD [1] [0] rfl rfl (by decide) (by decide) hk1 hFc hP1 hD1
        have hK := hK.app hK1
        generalize H1 = H at hP hS ⊢
        have hP : va_P (dC, dI) vwCl [(h0, .inr (9, [.ref qa, .ref qn, .ref qo, .ref qc, .int g4, .int g5])), (qa, .inl (kA, 12, .inl fa))] H := hP
        have hD : va_D A [(h0, .inr (9, [.ref qa, .ref qn, .ref qo, .ref qc, .int g4, .int g5])), (qa, .inl (kA, 12, .inl fa))] := hD
        have hK : va_K (dC, dI) vwCl [(kA, .int), (kA, .int)] s := hK
        have hK : va_K (dC, dI) vwCl [(kA, .int)] s := hK.sub [0] rfl
        refine lv_istore_n (lv' := [(3, .int r3), (0, .ref h0), (2, .int y), (4, .int l4)]) hx hb dX10_isUnder_31 rfl hl (by decide) rfl (fun ls hl => ?_)
        obtain ⟨z4, ez4⟩ : ∃ y : Int32, y = l4 + Int32.ofInt (1) := ⟨_, rfl⟩
        refine lv_iinc (v := z4) (lv' := [(4, .int z4), (3, .int r3), (0, .ref h0), (2, .int y)]) hx hb dX10_isUnder_32 hl (k := 3) rfl (ez4.symm) (by decide) rfl (fun ls hl => ?_)
        refine lv_goto (tgt := 5) hx hb dX10_isUnder_35 (by decide) ?_
        exact ih r3 z4 _ _ _ (by obtain ⟨k9, h9, h8⟩ := hinv; exact ⟨k9 + 1, by rw [ez4, h9]; exact nI_1 k9, by omega⟩) hP hD hS (lv_sub hl [2, 3, 1, 0] rfl)
      ·
        refine lv_iconst (v := 1) hx hb dX10_isUnder_21 (by decide) ?_
        have hP9 := hP.sub (ws' := [(h0, .inr (9, [.ref qa, .ref qn, .ref qo, .ref qc, .int g4, .int g5])), (qa, .inl (kA, 12, .inl fa))]) [0, 1] rfl
        have hD9 := hD.sub (ws' := [(h0, .inr (9, [.ref qa, .ref qn, .ref qo, .ref qc, .int g4, .int g5])), (qa, .inl (kA, 12, .inl fa))]) [0, 1] (by decide) rfl
        have hK9 := hK.sub (tys' := [(kA, .int)]) [0] rfl
        exact W.zret (v := 1) hx hb hr (rfl) (fun t ht hW => ⟨⟨1, (), rfl, (Or.inr rfl), by rw [ht]; exact hP9, va_K.moved hW.alike hK9, hD9⟩, hS.F ht⟩) hS.2.2 dX10_isUnder_22
set_option maxHeartbeats 4000000 in
set_option maxRecDepth 100000 in
theorem c_X10_isUnder (l : Launch) (dC : Nat → ClassId) (dI : Nat → Nat → Nat) (sz : Nat) (h0 : Nat) (x : Int32) (y : Int32) (g4 : Int32) (g5 : Int32) (qa : Nat) (qn : Nat) (qo : Nat) (qc : Nat) (kA : ClassId) (fa : Nat → Int32) : Met l yX10_isUnder wzX10_isUnder ({ frames := 2, cells := 0, slots := 0, locals := 120 }) (va_Pc [.ref h0, .int x, .int y] (zPre dC dI sz [(h0, .inr (9, [.ref qa, .ref qn, .ref qo, .ref qc, .int g4, .int g5])), (qa, .inl (kA, 12, .inl fa))] [(kA, .int)])) (va_Qi (fun (r : Int32) (_ : Unit) => r = 0 ∨ r = 1) (fun (_ : Unit) (t : State) => zPost dC dI (va_A [(h0, .inr (9, [.ref qa, .ref qn, .ref qo, .ref qc, .int g4, .int g5])), (qa, .inl (kA, 12, .inl fa))] sz) [(h0, .inr (9, [.ref qa, .ref qn, .ref qo, .ref qc, .int g4, .int g5])), (qa, .inl (kA, 12, .inl fa))] [(kA, .int)] t) (va_A [(h0, .inr (9, [.ref qa, .ref qn, .ref qo, .ref qc, .int g4, .int g5])), (qa, .inl (kA, 12, .inl fa))] sz)) 0 0 (va_A [(h0, .inr (9, [.ref qa, .ref qn, .ref qo, .ref qc, .int g4, .int g5])), (qa, .inl (kA, 12, .inl fa))] sz) := by
  refine Met.ofW (cc := cX10_isUnder) (maxL := 5) (ret := (some .boolean)) (by decide) rfl ?_
  intro p e s m args below meth c s₁ B hml hv
  obtain ⟨rfl, hsz, hZ, hP, hK, hD0⟩ := hv
  have hx := B.exec
  have hb := B.bytes
  have hr := B.returns
  have hts := atoms_spec (ws := wzX10_isUnder) B.pre
  have hown : s.vm.findClass RX10 = some m.cls := findClass_of_methodNamed B.named
  have hlocks := B.notSynchronized
  subst hsz
  have hD := hD0.self (sz := s.heap.size)
  generalize hAe : va_A [(h0, .inr (9, [.ref qa, .ref qn, .ref qo, .ref qc, .int g4, .int g5])), (qa, .inl (kA, 12, .inl fa))] s.heap.size = A at hD ⊢
  have hA : ∀ q : Nat, s.heap.size ≤ q → A q := fun q h => by rw [← hAe]; exact Or.inr h
  have hS : va_S A s.heap s.heap [] := va_S.rf
  have hP : va_P (dC, dI) vwCl [(h0, .inr (9, [.ref qa, .ref qn, .ref qo, .ref qc, .int g4, .int g5])), (qa, .inl (kA, 12, .inl fa))] s.heap := hP
  have hl := lv_entry ([.ref h0, .int x, .int y]) (n := 5) (Nat.le_of_ble_eq_true rfl)
  rw [lg_entry_eq]
  generalize (lg_sl ([.ref h0, .int x, .int y]) ++ List.replicate (5 - (lg_sl ([.ref h0, .int x, .int y])).length) Slot.unset).toArray = ls at hl ⊢
  have hl : lv_has ls 5 [(0, .ref h0), (1, .int x), (2, .int y)] := hl
  refine lv_iload_n hx hb dX10_isUnder_0 rfl (lv_at hl 1 rfl) ?_
  refine lv_istore_n (lv' := [(3, .int x), (0, .ref h0), (1, .int x), (2, .int y)]) hx hb dX10_isUnder_1 rfl hl (by decide) rfl (fun ls hl => ?_)
  refine lv_iconst (v := 0) hx hb dX10_isUnder_2 (by decide) ?_
  refine lv_istore (lv' := [(4, .int 0), (3, .int x), (0, .ref h0), (1, .int x), (2, .int y)]) hx hb dX10_isUnder_3 hl (by decide) rfl (fun ls hl => ?_)
  exact j_X10_isUnder_5 l dC dI h0 qa qn qo qc kA g4 g5 fa y hx hb hr hml hown hts hlocks hZ hA hK 12 x 0 _ _ _ ⟨0, nI_0.symm, rfl⟩ hP hD hS (lv_sub hl [2, 4, 1, 0] rfl)
theorem k_X10_tellResource_fieldLink_RX10_15_SR_Told_isNull_I : Cond.fieldLink RX10 15 "StatementRules2$Told" "isNull" "[I" ∈ wzX10_tellResource := List.mem_cons_of_mem _ (List.mem_append_left _ (List.mem_of_getElem? (i := 0) rfl))
theorem i_X10_tellResource_X10 : ∀ w ∈ wsX100, w ∈ wzX10_tellResource := fun _ h => List.mem_cons_of_mem _ (List.mem_append_right _ (List.mem_append_left _ (h)))
theorem k_X10_tellResource_initialized_RX11 : Cond.initialized RX11 ∈ wzX10_tellResource := List.mem_cons_of_mem _ (List.mem_append_left _ (List.mem_of_getElem? (i := 1) rfl))
theorem k_X10_tellResource_static_yX11_put : Cond.static yX11_put ∈ wzX10_tellResource := List.mem_cons_of_mem _ (List.mem_append_left _ (List.mem_of_getElem? (i := 2) rfl))
theorem k_X10_tellResource_fieldLink_RX10_18_SR_Told_opening_I : Cond.fieldLink RX10 18 "StatementRules2$Told" "opening" "[I" ∈ wzX10_tellResource := List.mem_cons_of_mem _ (List.mem_append_left _ (List.mem_of_getElem? (i := 3) rfl))
theorem k_X10_tellResource_fieldLink_RX10_21_SR_Told_closing_I : Cond.fieldLink RX10 21 "StatementRules2$Told" "closing" "[I" ∈ wzX10_tellResource := List.mem_cons_of_mem _ (List.mem_append_left _ (List.mem_of_getElem? (i := 4) rfl))
set_option maxHeartbeats 4000000 in
set_option maxRecDepth 100000 in
theorem c_X10_tellResource (l : Launch) (dC : Nat → ClassId) (dI : Nat → Nat → Nat) (sz : Nat) (h0 : Nat) (x : Int32) (y : Int32) (z : Int32) (w : Int32) (g4 : Int32) (g5 : Int32) (qa : Nat) (qn : Nat) (qo : Nat) (qc : Nat) (kn : ClassId) (fn : Nat → Int32) (ko : ClassId) (fo : Nat → Int32) (kc : ClassId) (fc : Nat → Int32) : Met l yX10_tellResource wzX10_tellResource ({ frames := 2, cells := 0, slots := 0, locals := 120 }) (va_Pc [.ref h0, .int x, .int y, .int z, .int w] (zPre dC dI sz [(h0, .inr (9, [.ref qa, .ref qn, .ref qo, .ref qc, .int g4, .int g5])), (qn, .inl (kn, 8, .inl fn)), (qo, .inl (ko, 8, .inl fo)), (qc, .inl (kc, 8, .inl fc))] [(kn, .int), (ko, .int), (kc, .int)])) (va_Qv (fun (_ : Unit) => True) (fun (_ : Unit) (t : State) => ∃ (ha : Nat → Int32), ∃ (hb9 : Nat → Int32), ∃ (hc9 : Nat → Int32), zPost dC dI (va_A [(h0, .inr (9, [.ref qa, .ref qn, .ref qo, .ref qc, .int g4, .int g5])), (qn, .inl (kn, 8, .inl fn)), (qo, .inl (ko, 8, .inl fo)), (qc, .inl (kc, 8, .inl fc))] sz) [(h0, .inr (9, [.ref qa, .ref qn, .ref qo, .ref qc, .int g4, .int g5])), (qn, .inl (kn, 8, .inl ha)), (qo, .inl (ko, 8, .inl hb9)), (qc, .inl (kc, 8, .inl hc9))] [(kn, .int), (ko, .int), (kc, .int)] t) (va_A [(h0, .inr (9, [.ref qa, .ref qn, .ref qo, .ref qc, .int g4, .int g5])), (qn, .inl (kn, 8, .inl fn)), (qo, .inl (ko, 8, .inl fo)), (qc, .inl (kc, 8, .inl fc))] sz)) 0 0 (va_A [(h0, .inr (9, [.ref qa, .ref qn, .ref qo, .ref qc, .int g4, .int g5])), (qn, .inl (kn, 8, .inl fn)), (qo, .inl (ko, 8, .inl fo)), (qc, .inl (kc, 8, .inl fc))] sz) := by
  refine Met.ofW (cc := cX10_tellResource) (maxL := 5) (ret := none) (by decide) rfl ?_
  intro p e s m args below meth c s₁ B hml hv
  obtain ⟨rfl, hsz, hZ, hP, hK, hD0⟩ := hv
  have hx := B.exec
  have hb := B.bytes
  have hr := B.returns
  have hts := atoms_spec (ws := wzX10_tellResource) B.pre
  have hown : s.vm.findClass RX10 = some m.cls := findClass_of_methodNamed B.named
  have hlocks := B.notSynchronized
  subst hsz
  have hD := hD0.self (sz := s.heap.size)
  generalize hAe : va_A [(h0, .inr (9, [.ref qa, .ref qn, .ref qo, .ref qc, .int g4, .int g5])), (qn, .inl (kn, 8, .inl fn)), (qo, .inl (ko, 8, .inl fo)), (qc, .inl (kc, 8, .inl fc))] s.heap.size = A at hD ⊢
  have hA : ∀ q : Nat, s.heap.size ≤ q → A q := fun q h => by rw [← hAe]; exact Or.inr h
  have hS : va_S A s.heap s.heap [] := va_S.rf
  have hP : va_P (dC, dI) vwCl [(h0, .inr (9, [.ref qa, .ref qn, .ref qo, .ref qc, .int g4, .int g5])), (qn, .inl (kn, 8, .inl fn)), (qo, .inl (ko, 8, .inl fo)), (qc, .inl (kc, 8, .inl fc))] s.heap := hP
  have hl := lv_entry ([.ref h0, .int x, .int y, .int z, .int w]) (n := 5) (Nat.le_of_ble_eq_true rfl)
  rw [lg_entry_eq]
  generalize (lg_sl ([.ref h0, .int x, .int y, .int z, .int w]) ++ List.replicate (5 - (lg_sl ([.ref h0, .int x, .int y, .int z, .int w])).length) Slot.unset).toArray = ls at hl ⊢
  have hl : lv_has ls 5 [(0, .ref h0), (1, .int x), (2, .int y), (3, .int z), (4, .int w)] := hl
  refine lv_aload_n hx hb dX10_tellResource_0 rfl (lv_at hl 0 rfl) ?_
  refine va_get (D := (dC, dI)) (ci := 9) (v := .ref qn) (C := RX10) (T := TX10) (N := 6) hx hb hts i_X10_tellResource_X10 hown hK hP 0 rfl rfl 1 (by decide) (hts (.fieldLink RX10 15 "StatementRules2$Told" "isNull" "[I") k_X10_tellResource_fieldLink_RX10_15_SR_Told_isNull_I) (fun _ h9 => h9) rfl dX10_tellResource_1 ?_
  refine lv_iload_n hx hb dX10_tellResource_4 rfl (lv_at hl 1 rfl) ?_
  refine lv_iload_n hx hb dX10_tellResource_5 rfl (lv_at hl 2 rfl) ?_
  have hPc := hP.sub (ws' := [(qn, .inl (kn, 8, .inl fn))]) [1] rfl
  have hDc := hD.sub (ws' := [(qn, .inl (kn, 8, .inl fn))]) [1] (by decide) rfl
  have hKc := hK.sub (tys' := [(kn, .int)]) [0] rfl
  have hFc := va_free (wc := [(qn, .inl (kn, 8, .inl fn))]) hD hS hA [1] rfl
  refine va_callv (va_runSN (As := [.ref qn, .int x, .int y]) (rest := []) ⟨hx, hb, hml, hown, hts⟩ (c_X11_put l dC dI _ qn kn 8 fn x y (by decide)) ⟨va_cnB 3 hts hX10_tellResource_X11_put_n28 rfl rfl rfl (hZ.1 (.methodLinkNest RX10 28 yX11_put "StatementRules2") (by decide +kernel)) (hts (.initialized RX11) k_X10_tellResource_initialized_RX11) (by decide +kernel) ⟨Nat.le_of_ble_eq_true rfl, Nat.le_of_ble_eq_true rfl⟩, (hts (.static yX11_put) k_X10_tellResource_static_yX11_put), trivial⟩ ⟨zPre.blind, zPre.go hZ hPc hKc hDc⟩ rfl rfl hl.1 rfl (lv_room (Nat.le_of_ble_eq_true rfl)) dX10_tellResource_6 ⟨Nat.le_of_ble_eq_true rfl, Nat.le_of_ble_eq_true rfl⟩) hS (fun q _ h => hFc q h) hFc (fun u9 t9 H1 locs ht hvm hw hB hz1 hk1 hS => ?_)
  obtain ⟨g_2, hP1, hK1, hD1⟩ := hB
  rw [ht] at hP1
  have hK1 := va_K.moved hvm.symm hK1
  obtain ⟨hP, hD⟩ := va_join (wr := [(h0, .inr (9, [.ref qa, .ref qn, .ref qo, .ref qc, .int g4, .int g5])), (qo, .inl (ko, 8, .inl fo)), (qc, .inl (kc, 8, .inl fc))]) (w1 := [(qn, .inl (kn, 8, .inl g_2))]) hP hD [1] [0, 2, 3] rfl rfl (by decide) (by decide) hk1 hFc hP1 hD1
  have hK := hK.app hK1
  generalize H1 = H at hP hS ⊢
  have hP : va_P (dC, dI) vwCl [(h0, .inr (9, [.ref qa, .ref qn, .ref qo, .ref qc, .int g4, .int g5])), (qo, .inl (ko, 8, .inl fo)), (qc, .inl (kc, 8, .inl fc)), (qn, .inl (kn, 8, .inl g_2))] H := hP
  have hD : va_D A [(h0, .inr (9, [.ref qa, .ref qn, .ref qo, .ref qc, .int g4, .int g5])), (qo, .inl (ko, 8, .inl fo)), (qc, .inl (kc, 8, .inl fc)), (qn, .inl (kn, 8, .inl g_2))] := hD
  have hK : va_K (dC, dI) vwCl [(kn, .int), (ko, .int), (kc, .int), (kn, .int)] s := hK
  have hK : va_K (dC, dI) vwCl [(kn, .int), (ko, .int), (kc, .int)] s := hK.sub [0, 1, 2] rfl
  refine lv_aload_n hx hb dX10_tellResource_9 rfl (lv_at hl 0 rfl) ?_
  refine va_get (D := (dC, dI)) (ci := 9) (v := .ref qo) (C := RX10) (T := TX10) (N := 6) hx hb hts i_X10_tellResource_X10 hown hK hP 0 rfl rfl 2 (by decide) (hts (.fieldLink RX10 18 "StatementRules2$Told" "opening" "[I") k_X10_tellResource_fieldLink_RX10_18_SR_Told_opening_I) (fun _ h9 => h9) rfl dX10_tellResource_10 ?_
  refine lv_iload_n hx hb dX10_tellResource_13 rfl (lv_at hl 1 rfl) ?_
  refine lv_iload_n hx hb dX10_tellResource_14 rfl (lv_at hl 3 rfl) ?_
  have hPc := hP.sub (ws' := [(qo, .inl (ko, 8, .inl fo))]) [1] rfl
  have hDc := hD.sub (ws' := [(qo, .inl (ko, 8, .inl fo))]) [1] (by decide) rfl
  have hKc := hK.sub (tys' := [(ko, .int)]) [1] rfl
  have hFc := va_free (wc := [(qo, .inl (ko, 8, .inl fo))]) hD hS hA [1] rfl
  refine va_callv (va_runSN (As := [.ref qo, .int x, .int z]) (rest := []) ⟨hx, hb, hml, hown, hts⟩ (c_X11_put l dC dI _ qo ko 8 fo x z (by decide)) ⟨va_cnB 3 hts hX10_tellResource_X11_put_n28 rfl rfl rfl (hZ.1 (.methodLinkNest RX10 28 yX11_put "StatementRules2") (by decide +kernel)) (hts (.initialized RX11) k_X10_tellResource_initialized_RX11) (by decide +kernel) ⟨Nat.le_of_ble_eq_true rfl, Nat.le_of_ble_eq_true rfl⟩, (hts (.static yX11_put) k_X10_tellResource_static_yX11_put), trivial⟩ ⟨zPre.blind, zPre.go hZ hPc hKc hDc⟩ rfl rfl hl.1 rfl (lv_room (Nat.le_of_ble_eq_true rfl)) dX10_tellResource_15 ⟨Nat.le_of_ble_eq_true rfl, Nat.le_of_ble_eq_true rfl⟩) hS (fun q _ h => hFc q h) hFc (fun u9 t9 H1 locs ht hvm hw hB hz1 hk1 hS => ?_)
  obtain ⟨g_4, hP1, hK1, hD1⟩ := hB
  rw [ht] at hP1
  have hK1 := va_K.moved hvm.symm hK1
  obtain ⟨hP, hD⟩ := va_join (wr := [(h0, .inr (9, [.ref qa, .ref qn, .ref qo, .ref qc, .int g4, .int g5])), (qc, .inl (kc, 8, .inl fc)), (qn, .inl (kn, 8, .inl g_2))]) (w1 := [(qo, .inl (ko, 8, .inl g_4))]) hP hD [1] [0, 2, 3] rfl rfl (by decide) (by decide) hk1 hFc hP1 hD1
  have hK := hK.app hK1
  generalize H1 = H at hP hS ⊢
  have hP : va_P (dC, dI) vwCl [(h0, .inr (9, [.ref qa, .ref qn, .ref qo, .ref qc, .int g4, .int g5])), (qc, .inl (kc, 8, .inl fc)), (qn, .inl (kn, 8, .inl g_2)), (qo, .inl (ko, 8, .inl g_4))] H := hP
  have hD : va_D A [(h0, .inr (9, [.ref qa, .ref qn, .ref qo, .ref qc, .int g4, .int g5])), (qc, .inl (kc, 8, .inl fc)), (qn, .inl (kn, 8, .inl g_2)), (qo, .inl (ko, 8, .inl g_4))] := hD
  have hK : va_K (dC, dI) vwCl [(kn, .int), (ko, .int), (kc, .int), (ko, .int)] s := hK
  have hK : va_K (dC, dI) vwCl [(kn, .int), (ko, .int), (kc, .int)] s := hK.sub [0, 1, 2] rfl
  refine lv_aload_n hx hb dX10_tellResource_18 rfl (lv_at hl 0 rfl) ?_
  refine va_get (D := (dC, dI)) (ci := 9) (v := .ref qc) (C := RX10) (T := TX10) (N := 6) hx hb hts i_X10_tellResource_X10 hown hK hP 0 rfl rfl 3 (by decide) (hts (.fieldLink RX10 21 "StatementRules2$Told" "closing" "[I") k_X10_tellResource_fieldLink_RX10_21_SR_Told_closing_I) (fun _ h9 => h9) rfl dX10_tellResource_19 ?_
  refine lv_iload_n hx hb dX10_tellResource_22 rfl (lv_at hl 1 rfl) ?_
  refine lv_iload hx hb dX10_tellResource_23 (lv_at hl 4 rfl) ?_
  have hPc := hP.sub (ws' := [(qc, .inl (kc, 8, .inl fc))]) [1] rfl
  have hDc := hD.sub (ws' := [(qc, .inl (kc, 8, .inl fc))]) [1] (by decide) rfl
  have hKc := hK.sub (tys' := [(kc, .int)]) [2] rfl
  have hFc := va_free (wc := [(qc, .inl (kc, 8, .inl fc))]) hD hS hA [1] rfl
  refine va_callv (va_runSN (As := [.ref qc, .int x, .int w]) (rest := []) ⟨hx, hb, hml, hown, hts⟩ (c_X11_put l dC dI _ qc kc 8 fc x w (by decide)) ⟨va_cnB 3 hts hX10_tellResource_X11_put_n28 rfl rfl rfl (hZ.1 (.methodLinkNest RX10 28 yX11_put "StatementRules2") (by decide +kernel)) (hts (.initialized RX11) k_X10_tellResource_initialized_RX11) (by decide +kernel) ⟨Nat.le_of_ble_eq_true rfl, Nat.le_of_ble_eq_true rfl⟩, (hts (.static yX11_put) k_X10_tellResource_static_yX11_put), trivial⟩ ⟨zPre.blind, zPre.go hZ hPc hKc hDc⟩ rfl rfl hl.1 rfl (lv_room (Nat.le_of_ble_eq_true rfl)) dX10_tellResource_25 ⟨Nat.le_of_ble_eq_true rfl, Nat.le_of_ble_eq_true rfl⟩) hS (fun q _ h => hFc q h) hFc (fun u9 t9 H1 locs ht hvm hw hB hz1 hk1 hS => ?_)
  obtain ⟨g_6, hP1, hK1, hD1⟩ := hB
  rw [ht] at hP1
  have hK1 := va_K.moved hvm.symm hK1
  obtain ⟨hP, hD⟩ := va_join (wr := [(h0, .inr (9, [.ref qa, .ref qn, .ref qo, .ref qc, .int g4, .int g5])), (qn, .inl (kn, 8, .inl g_2)), (qo, .inl (ko, 8, .inl g_4))]) (w1 := [(qc, .inl (kc, 8, .inl g_6))]) hP hD [1] [0, 2, 3] rfl rfl (by decide) (by decide) hk1 hFc hP1 hD1
  have hK := hK.app hK1
  generalize H1 = H at hP hS ⊢
  have hP : va_P (dC, dI) vwCl [(h0, .inr (9, [.ref qa, .ref qn, .ref qo, .ref qc, .int g4, .int g5])), (qn, .inl (kn, 8, .inl g_2)), (qo, .inl (ko, 8, .inl g_4)), (qc, .inl (kc, 8, .inl g_6))] H := hP
  have hD : va_D A [(h0, .inr (9, [.ref qa, .ref qn, .ref qo, .ref qc, .int g4, .int g5])), (qn, .inl (kn, 8, .inl g_2)), (qo, .inl (ko, 8, .inl g_4)), (qc, .inl (kc, 8, .inl g_6))] := hD
  have hK : va_K (dC, dI) vwCl [(kn, .int), (ko, .int), (kc, .int), (kc, .int)] s := hK
  have hK : va_K (dC, dI) vwCl [(kn, .int), (ko, .int), (kc, .int)] s := hK.sub [0, 1, 2] rfl
  have hP9 := hP.sub (ws' := [(h0, .inr (9, [.ref qa, .ref qn, .ref qo, .ref qc, .int g4, .int g5])), (qn, .inl (kn, 8, .inl g_2)), (qo, .inl (ko, 8, .inl g_4)), (qc, .inl (kc, 8, .inl g_6))]) [0, 1, 2, 3] rfl
  have hD9 := hD.sub (ws' := [(h0, .inr (9, [.ref qa, .ref qn, .ref qo, .ref qc, .int g4, .int g5])), (qn, .inl (kn, 8, .inl g_2)), (qo, .inl (ko, 8, .inl g_4)), (qc, .inl (kc, 8, .inl g_6))]) [0, 1, 2, 3] (by decide) rfl
  have hK9 := hK.sub (tys' := [(kn, .int), (ko, .int), (kc, .int)]) [0, 1, 2] rfl
  exact W.vret hx hb hr (fun t ht hW => ⟨⟨(), rfl, trivial, g_2, g_4, g_6, by rw [ht]; exact hP9, va_K.moved hW.alike hK9, hD9⟩, hS.F ht⟩) hS.2.2 dX10_tellResource_28
