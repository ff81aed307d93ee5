theorem k_X4_find_fieldLink_RX4_20_SR_Names_count_I : Cond.fieldLink RX4 20 "StatementRules2$Names" "count" "I" ∈ wzX4_find := List.mem_cons_of_mem _ (List.mem_append_left _ (List.mem_of_getElem? (i := 0) rfl))
theorem i_X4_find_X4 : ∀ w ∈ wsX40, w ∈ wzX4_find := fun _ h => List.mem_cons_of_mem _ (List.mem_append_right _ (List.mem_append_left _ (h)))
theorem k_X4_find_fieldLink_RX4_7_SR_Names_names_J : Cond.fieldLink RX4 7 "StatementRules2$Names" "names" "[J" ∈ wzX4_find := List.mem_cons_of_mem _ (List.mem_append_left _ (List.mem_of_getElem? (i := 1) rfl))
set_option maxHeartbeats 4000000 in
set_option maxRecDepth 100000 in
theorem j_X4_find_38 {p : Program} {e : Env} {s : State} {m : MethodId} {args : Array Value} {below : List Frame} {meth : Method} {c : Code} {A : Nat → Prop} (l : Launch) (dC : Nat → ClassId) (dI : Nat → Nat → Nat) (h0 : Nat) (qm : Nat) (ql : Nat) (qf : Nat) (km : ClassId) (n3 : Int32) (fm : Nat → Int64) (hx : p.tables.exec = Jvm.exec) (hb : c.code = cX4_find) (hr : meth.sig.returnType = (some .int)) (hml : c.maxLocals = 4) (hown : s.vm.findClass RX4 = some m.cls) (hts : ∀ w ∈ wzX4_find, w.before args s = true) (hlocks : meth.locks = false) (hZ : zAMB s) (hA : ∀ q : Nat, s.heap.size ≤ q → A q) (hK : va_K (dC, dI) vwCl [(km, .long)] s) : ∀  (H : Heap) (locs : List Loc) (ls : Array Slot), va_P (dC, dI) vwCl [(h0, .inr (3, [.ref qm, .ref ql, .ref qf, .int n3])), (qm, .inl (km, 128, .inr (.inl fm)))] H → va_D A [(h0, .inr (3, [.ref qm, .ref ql, .ref qf, .int n3])), (qm, .inl (km, 128, .inr (.inl fm)))] → va_S A s.heap H locs → lv_has ls 4 [] → W p l e ({ frames := 1, cells := 0, slots := 0, locals := 60 }) s m args below meth c H locs 0 0 (MQ below (va_Qi (fun (r : Int32) (_ : Unit) => True) (fun (_ : Unit) (t : State) => zPost dC dI A [(h0, .inr (3, [.ref qm, .ref ql, .ref qf, .int n3])), (qm, .inl (km, 128, .inr (.inl fm)))] [(km, .long)] t) A) args s 0 0 A) (F0 m 38 ls []) := by
  intro  H locs ls hP hD hS hl
  refine lv_iconst (v := (-1)) hx hb dX4_find_38 (by decide) ?_
  have hP9 := hP.sub (ws' := [(h0, .inr (3, [.ref qm, .ref ql, .ref qf, .int n3])), (qm, .inl (km, 128, .inr (.inl fm)))]) [0, 1] rfl
  have hD9 := hD.sub (ws' := [(h0, .inr (3, [.ref qm, .ref ql, .ref qf, .int n3])), (qm, .inl (km, 128, .inr (.inl fm)))]) [0, 1] (by decide) rfl
  have hK9 := hK.sub (tys' := [(km, .long)]) [0] rfl
  exact W.iret (v := (-1)) hx hb hr (fun t ht hW => ⟨⟨(-1), (), rfl, trivial, by rw [ht]; exact hP9, va_K.moved hW.alike hK9, hD9⟩, hS.F ht⟩) hS.2.2 dX4_find_39
set_option maxHeartbeats 4000000 in
set_option maxRecDepth 100000 in
theorem j_X4_find_2 {p : Program} {e : Env} {s : State} {m : MethodId} {args : Array Value} {below : List Frame} {meth : Method} {c : Code} {A : Nat → Prop} (l : Launch) (dC : Nat → ClassId) (dI : Nat → Nat → Nat) (h0 : Nat) (qm : Nat) (ql : Nat) (qf : Nat) (km : ClassId) (n3 : Int32) (fm : Nat → Int64) (nm : Int64) (hx : p.tables.exec = Jvm.exec) (hb : c.code = cX4_find) (hr : meth.sig.returnType = (some .int)) (hml : c.maxLocals = 4) (hown : s.vm.findClass RX4 = some m.cls) (hts : ∀ w ∈ wzX4_find, w.before args s = true) (hlocks : meth.locks = false) (hZ : zAMB s) (hA : ∀ q : Nat, s.heap.size ≤ q → A q) (hK : va_K (dC, dI) vwCl [(km, .long)] s) : ∀ (n9 : Nat) (l3 : Int32) (H : Heap) (locs : List Loc) (ls : Array Slot), (∃ k9 : Nat, l3 = nI k9 ∧ k9 + n9 = 128) → va_P (dC, dI) vwCl [(h0, .inr (3, [.ref qm, .ref ql, .ref qf, .int n3])), (qm, .inl (km, 128, .inr (.inl fm)))] H → va_D A [(h0, .inr (3, [.ref qm, .ref ql, .ref qf, .int n3])), (qm, .inl (km, 128, .inr (.inl fm)))] → va_S A s.heap H locs → lv_has ls 4 [(0, .ref h0), (1, .long nm), (3, .int l3)] → W p l e ({ frames := 1, cells := 0, slots := 0, locals := 60 }) s m args below meth c H locs 0 0 (MQ below (va_Qi (fun (r : Int32) (_ : Unit) => True) (fun (_ : Unit) (t : State) => zPost dC dI A [(h0, .inr (3, [.ref qm, .ref ql, .ref qf, .int n3])), (qm, .inl (km, 128, .inr (.inl fm)))] [(km, .long)] t) A) args s 0 0 A) (F0 m 2 ls []) := by
  intro n9
  induction n9 with
  | zero =>
    intro l3 H locs ls hinv hP hD hS hl
    have hge : (128 : Int32) ≤ l3 := by obtain ⟨k9, h9, h8⟩ := hinv; rw [h9, show k9 = 128 by omega]; decide
    refine lv_iload_n hx hb dX4_find_2 rfl (lv_at hl 2 rfl) ?_
    refine lv_aload_n hx hb dX4_find_3 rfl (lv_at hl 0 rfl) ?_
    refine va_get (D := (dC, dI)) (ci := 3) (v := .int n3) (C := RX4) (T := TX4) (N := 4) hx hb hts i_X4_find_X4 hown hK hP 0 rfl rfl 3 (by decide) (hts (.fieldLink RX4 20 "StatementRules2$Names" "count" "I") k_X4_find_fieldLink_RX4_20_SR_Names_count_I) (fun _ h9 => h9) rfl dX4_find_4 ?_
    refine lv_icmp_ge (tgt := 38) hx hb dX4_find_7 (by decide) (fun c1 => ?_) (fun c1 => ?_)
    ·
      exact j_X4_find_38 l dC dI h0 qm ql qf km n3 fm hx hb hr hml hown hts hlocks hZ hA hK  _ _ _ hP hD hS (lv_sub hl [] rfl)
    ·
      refine lv_iload_n hx hb dX4_find_10 rfl (lv_at hl 2 rfl) ?_
      refine lv_aload_n hx hb dX4_find_11 rfl (lv_at hl 0 rfl) ?_
      refine va_get (D := (dC, dI)) (ci := 3) (v := .ref qm) (C := RX4) (T := TX4) (N := 4) hx hb hts i_X4_find_X4 hown hK hP 0 rfl rfl 0 (by decide) (hts (.fieldLink RX4 7 "StatementRules2$Names" "names" "[J") k_X4_find_fieldLink_RX4_7_SR_Names_names_J) (fun _ h9 => h9) rfl dX4_find_12 ?_
      refine va_alen (v := 128) hx hb hK hP 1 0 rfl rfl rfl dX4_find_15 ?_
      refine lv_icmp_ge (tgt := 38) hx hb dX4_find_16 (by decide) (fun _ => ?_) (fun c9 => absurd hge c9)
      exact j_X4_find_38 l dC dI h0 qm ql qf km n3 fm hx hb hr hml hown hts hlocks hZ hA hK  _ _ _ hP hD hS (lv_sub hl [] rfl)
  | succ n9 ih =>
    intro l3 H locs ls hinv hP hD hS hl
    have hge : ¬ (128 : Int32) ≤ l3 := by obtain ⟨k9, h9, h8⟩ := hinv; rw [h9]; exact nI_ge (a := k9) (b := 128) (by omega) (by decide)
    refine lv_iload_n hx hb dX4_find_2 rfl (lv_at hl 2 rfl) ?_
    refine lv_aload_n hx hb dX4_find_3 rfl (lv_at hl 0 rfl) ?_
    refine va_get (D := (dC, dI)) (ci := 3) (v := .int n3) (C := RX4) (T := TX4) (N := 4) hx hb hts i_X4_find_X4 hown hK hP 0 rfl rfl 3 (by decide) (hts (.fieldLink RX4 20 "StatementRules2$Names" "count" "I") k_X4_find_fieldLink_RX4_20_SR_Names_count_I) (fun _ h9 => h9) rfl dX4_find_4 ?_
    refine lv_icmp_ge (tgt := 38) hx hb dX4_find_7 (by decide) (fun c2 => ?_) (fun c2 => ?_)
    ·
      exact j_X4_find_38 l dC dI h0 qm ql qf km n3 fm hx hb hr hml hown hts hlocks hZ hA hK  _ _ _ hP hD hS (lv_sub hl [] rfl)
    ·
      refine lv_iload_n hx hb dX4_find_10 rfl (lv_at hl 2 rfl) ?_
      refine lv_aload_n hx hb dX4_find_11 rfl (lv_at hl 0 rfl) ?_
      refine va_get (D := (dC, dI)) (ci := 3) (v := .ref qm) (C := RX4) (T := TX4) (N := 4) hx hb hts i_X4_find_X4 hown hK hP 0 rfl rfl 0 (by decide) (hts (.fieldLink RX4 7 "StatementRules2$Names" "names" "[J") k_X4_find_fieldLink_RX4_7_SR_Names_names_J) (fun _ h9 => h9) rfl dX4_find_12 ?_
      refine va_alen (v := 128) hx hb hK hP 1 0 rfl rfl rfl dX4_find_15 ?_
      refine lv_icmp_ge (tgt := 38) hx hb dX4_find_16 (by decide) (fun c9 => absurd c9 hge) (fun _ => ?_)
      have hvp : vp_in l3 128 := by obtain ⟨k9, h9, h8⟩ := hinv; rw [h9]; exact vp_in_nI (by omega) (by decide)
      refine lv_aload_n hx hb dX4_find_19 rfl (lv_at hl 0 rfl) ?_
      refine va_get (D := (dC, dI)) (ci := 3) (v := .ref qm) (C := RX4) (T := TX4) (N := 4) hx hb hts i_X4_find_X4 hown hK hP 0 rfl rfl 0 (by decide) (hts (.fieldLink RX4 7 "StatementRules2$Names" "names" "[J") k_X4_find_fieldLink_RX4_7_SR_Names_names_J) (fun _ h9 => h9) rfl dX4_find_20 ?_
      refine lv_iload_n hx hb dX4_find_23 rfl (lv_at hl 2 rfl) ?_
      refine va_lald hx hb hK hP 1 0 rfl rfl hvp dX4_find_24 ?_
      refine lv_topl (fun z3 ez3 => ?_)
      refine lv_lload_n hx hb dX4_find_25 rfl (lv_at hl 1 rfl) ?_
      refine W.lcmp hx hb dX4_find_26 ?_
      refine lv_topi (fun z4 ez4 => ?_)
      refine lv_if_ne (tgt := 32) hx hb dX4_find_27 (by decide) (fun c5 => ?_) (fun c5 => ?_)
      ·
        obtain ⟨z6, ez6⟩ : ∃ y : Int32, y = l3 + Int32.ofInt (1) := ⟨_, rfl⟩
        refine lv_iinc (v := z6) (lv' := [(3, .int z6), (0, .ref h0), (1, .long nm)]) hx hb dX4_find_32 hl (k := 2) rfl (ez6.symm) (by decide) rfl (fun ls hl => ?_)
        refine lv_goto (tgt := 2) hx hb dX4_find_35 (by decide) ?_
        exact ih z6 _ _ _ (by obtain ⟨k9, h9, h8⟩ := hinv; exact ⟨k9 + 1, by rw [ez6, h9]; exact nI_1 k9, by omega⟩) hP hD hS (lv_sub hl [1, 2, 0] rfl)
      ·
        refine lv_iload_n hx hb dX4_find_30 rfl (lv_at hl 2 rfl) ?_
        have hP9 := hP.sub (ws' := [(h0, .inr (3, [.ref qm, .ref ql, .ref qf, .int n3])), (qm, .inl (km, 128, .inr (.inl fm)))]) [0, 1] rfl
        have hD9 := hD.sub (ws' := [(h0, .inr (3, [.ref qm, .ref ql, .ref qf, .int n3])), (qm, .inl (km, 128, .inr (.inl fm)))]) [0, 1] (by decide) rfl
        have hK9 := hK.sub (tys' := [(km, .long)]) [0] rfl
        exact W.iret (v := l3) hx hb hr (fun t ht hW => ⟨⟨l3, (), rfl, trivial, by rw [ht]; exact hP9, va_K.moved hW.alike hK9, hD9⟩, hS.F ht⟩) hS.2.2 dX4_find_31
set_option maxHeartbeats 4000000 in
set_option maxRecDepth 100000 in
theorem c_X4_find (l : Launch) (dC : Nat → ClassId) (dI : Nat → Nat → Nat) (sz : Nat) (h0 : Nat) (nm : Int64) (n3 : Int32) (qm : Nat) (ql : Nat) (qf : Nat) (km : ClassId) (fm : Nat → Int64) : Met l yX4_find wzX4_find ({ frames := 1, cells := 0, slots := 0, locals := 60 }) (va_Pc [.ref h0, .long nm] (zPre dC dI sz [(h0, .inr (3, [.ref qm, .ref ql, .ref qf, .int n3])), (qm, .inl (km, 128, .inr (.inl fm)))] [(km, .long)])) (va_Qi (fun (r : Int32) (_ : Unit) => True) (fun (_ : Unit) (t : State) => zPost dC dI (va_A [(h0, .inr (3, [.ref qm, .ref ql, .ref qf, .int n3])), (qm, .inl (km, 128, .inr (.inl fm)))] sz) [(h0, .inr (3, [.ref qm, .ref ql, .ref qf, .int n3])), (qm, .inl (km, 128, .inr (.inl fm)))] [(km, .long)] t) (va_A [(h0, .inr (3, [.ref qm, .ref ql, .ref qf, .int n3])), (qm, .inl (km, 128, .inr (.inl fm)))] sz)) 0 0 (va_A [(h0, .inr (3, [.ref qm, .ref ql, .ref qf, .int n3])), (qm, .inl (km, 128, .inr (.inl fm)))] sz) := by
  refine Met.ofW (cc := cX4_find) (maxL := 4) (ret := (some .int)) (by decide) rfl ?_
  intro p e s m args below meth c s₁ B hml hv
  obtain ⟨rfl, hsz, hZ, hP, hK, hD0⟩ := hv
  have hx := B.exec
  have hb := B.bytes
  have hr := B.returns
  have hts := atoms_spec (ws := wzX4_find) B.pre
  have hown : s.vm.findClass RX4 = some m.cls := findClass_of_methodNamed B.named
  have hlocks := B.notSynchronized
  subst hsz
  have hD := hD0.self (sz := s.heap.size)
  generalize hAe : va_A [(h0, .inr (3, [.ref qm, .ref ql, .ref qf, .int n3])), (qm, .inl (km, 128, .inr (.inl fm)))] s.heap.size = A at hD ⊢
  have hA : ∀ q : Nat, s.heap.size ≤ q → A q := fun q h => by rw [← hAe]; exact Or.inr h
  have hS : va_S A s.heap s.heap [] := va_S.rf
  have hP : va_P (dC, dI) vwCl [(h0, .inr (3, [.ref qm, .ref ql, .ref qf, .int n3])), (qm, .inl (km, 128, .inr (.inl fm)))] s.heap := hP
  have hl := lv_entry ([.ref h0, .long nm]) (n := 4) (Nat.le_of_ble_eq_true rfl)
  rw [lg_entry_eq]
  generalize (lg_sl ([.ref h0, .long nm]) ++ List.replicate (4 - (lg_sl ([.ref h0, .long nm])).length) Slot.unset).toArray = ls at hl ⊢
  have hl : lv_has ls 4 [(0, .ref h0), (1, .long nm)] := hl
  refine lv_iconst (v := 0) hx hb dX4_find_0 (by decide) ?_
  refine lv_istore_n (lv' := [(3, .int 0), (0, .ref h0), (1, .long nm)]) hx hb dX4_find_1 rfl hl (by decide) rfl (fun ls hl => ?_)
  exact j_X4_find_2 l dC dI h0 qm ql qf km n3 fm nm hx hb hr hml hown hts hlocks hZ hA hK 128 0 _ _ _ ⟨0, nI_0.symm, rfl⟩ hP hD hS (lv_sub hl [1, 2, 0] rfl)
theorem k_X4_cellOf_fieldLink_RX4_13_SR_Names_cells_I : Cond.fieldLink RX4 13 "StatementRules2$Names" "cells" "[I" ∈ wzX4_cellOf := List.mem_cons_of_mem _ (List.mem_append_left _ (List.mem_of_getElem? (i := 0) rfl))
theorem i_X4_cellOf_X4 : ∀ w ∈ wsX40, w ∈ wzX4_cellOf := fun _ h => List.mem_cons_of_mem _ (List.mem_append_right _ (List.mem_append_left _ (h)))
theorem k_X4_cellOf_initialized_RX11 : Cond.initialized RX11 ∈ wzX4_cellOf := List.mem_cons_of_mem _ (List.mem_append_left _ (List.mem_of_getElem? (i := 1) rfl))
theorem k_X4_cellOf_static_yX11_at : Cond.static yX11_at ∈ wzX4_cellOf := List.mem_cons_of_mem _ (List.mem_append_left _ (List.mem_of_getElem? (i := 2) rfl))
set_option maxHeartbeats 4000000 in
set_option maxRecDepth 100000 in
theorem c_X4_cellOf (l : Launch) (dC : Nat → ClassId) (dI : Nat → Nat → Nat) (sz : Nat) (h0 : Nat) (x : Int32) (n3 : Int32) (qm : Nat) (ql : Nat) (qf : Nat) (kl : ClassId) (fl : Nat → Int32) : Met l yX4_cellOf wzX4_cellOf ({ frames := 2, cells := 0, slots := 0, locals := 120 }) (va_Pc [.ref h0, .int x] (zPre dC dI sz [(h0, .inr (3, [.ref qm, .ref ql, .ref qf, .int n3])), (ql, .inl (kl, 128, .inl fl))] [(kl, .int)])) (va_Qi (fun (r : Int32) (_ : Unit) => True) (fun (_ : Unit) (t : State) => zPost dC dI (va_A [(h0, .inr (3, [.ref qm, .ref ql, .ref qf, .int n3])), (ql, .inl (kl, 128, .inl fl))] sz) [(h0, .inr (3, [.ref qm, .ref ql, .ref qf, .int n3])), (ql, .inl (kl, 128, .inl fl))] [(kl, .int)] t) (va_A [(h0, .inr (3, [.ref qm, .ref ql, .ref qf, .int n3])), (ql, .inl (kl, 128, .inl fl))] sz)) 0 0 (va_A [(h0, .inr (3, [.ref qm, .ref ql, .ref qf, .int n3])), (ql, .inl (kl, 128, .inl fl))] sz) := by
  refine Met.ofW (cc := cX4_cellOf) (maxL := 2) (ret := (some .int)) (by decide) rfl ?_
  intro p e s m args below meth c s₁ B hml hv
  obtain ⟨rfl, hsz, hZ, hP, hK, hD0⟩ := hv
  have hx := B.exec
  have hb := B.bytes
  have hr := B.returns
  have hts := atoms_spec (ws := wzX4_cellOf) B.pre
  have hown : s.vm.findClass RX4 = some m.cls := findClass_of_methodNamed B.named
  have hlocks := B.notSynchronized
  subst hsz
  have hD := hD0.self (sz := s.heap.size)
  generalize hAe : va_A [(h0, .inr (3, [.ref qm, .ref ql, .ref qf, .int n3])), (ql, .inl (kl, 128, .inl fl))] s.heap.size = A at hD ⊢
  have hA : ∀ q : Nat, s.heap.size ≤ q → A q := fun q h => by rw [← hAe]; exact Or.inr h
  have hS : va_S A s.heap s.heap [] := va_S.rf
  have hP : va_P (dC, dI) vwCl [(h0, .inr (3, [.ref qm, .ref ql, .ref qf, .int n3])), (ql, .inl (kl, 128, .inl fl))] s.heap := hP
  have hl := lv_entry ([.ref h0, .int x]) (n := 2) (Nat.le_of_ble_eq_true rfl)
  rw [lg_entry_eq]
  generalize (lg_sl ([.ref h0, .int x]) ++ List.replicate (2 - (lg_sl ([.ref h0, .int x])).length) Slot.unset).toArray = ls at hl ⊢
  have hl : lv_has ls 2 [(0, .ref h0), (1, .int x)] := hl
  refine lv_aload_n hx hb dX4_cellOf_0 rfl (lv_at hl 0 rfl) ?_
  refine va_get (D := (dC, dI)) (ci := 3) (v := .ref ql) (C := RX4) (T := TX4) (N := 4) hx hb hts i_X4_cellOf_X4 hown hK hP 0 rfl rfl 1 (by decide) (hts (.fieldLink RX4 13 "StatementRules2$Names" "cells" "[I") k_X4_cellOf_fieldLink_RX4_13_SR_Names_cells_I) (fun _ h9 => h9) rfl dX4_cellOf_1 ?_
  refine lv_iload_n hx hb dX4_cellOf_4 rfl (lv_at hl 1 rfl) ?_
  have hPc := hP.sub (ws' := [(ql, .inl (kl, 128, .inl fl))]) [1] rfl
  have hDc := hD.sub (ws' := [(ql, .inl (kl, 128, .inl fl))]) [1] (by decide) rfl
  have hKc := hK.sub (tys' := [(kl, .int)]) [0] rfl
  have hFc := va_free (wc := [(ql, .inl (kl, 128, .inl fl))]) hD hS hA [1] rfl
  refine va_calli (va_runSN (As := [.ref ql, .int x]) (rest := []) ⟨hx, hb, hml, hown, hts⟩ (c_X11_at l dC dI _ ql kl 128 fl x (by decide)) ⟨va_cnB 2 hts hX4_cellOf_X11_at_n24 rfl rfl rfl (hZ.1 (.methodLinkNest RX4 24 yX11_at "StatementRules2") (by decide +kernel)) (hts (.initialized RX11) k_X4_cellOf_initialized_RX11) (by decide +kernel) ⟨Nat.le_of_ble_eq_true rfl, Nat.le_of_ble_eq_true rfl⟩, (hts (.static yX11_at) k_X4_cellOf_static_yX11_at), trivial⟩ ⟨zPre.blind, zPre.go hZ hPc hKc hDc⟩ rfl rfl hl.1 rfl (lv_room (Nat.le_of_ble_eq_true rfl)) dX4_cellOf_5 ⟨Nat.le_of_ble_eq_true rfl, Nat.le_of_ble_eq_true rfl⟩) hS (fun q _ h => hFc q h) hFc (fun r1 u9 t9 H1 locs ht hvm hw hB hz1 hk1 hS => ?_)
  obtain ⟨hP1, hK1, hD1⟩ := hB
  rw [ht] at hP1
  have hK1 := va_K.moved hvm.symm hK1
  obtain ⟨hP, hD⟩ := va_join (wr := [(h0, .inr (3, [.ref qm, .ref ql, .ref qf, .int n3]))]) (w1 := [(ql, .inl (kl, 128, .inl fl))]) hP hD [1] [0] rfl rfl (by decide) (by decide) hk1 hFc hP1 hD1
  have hK := hK.app hK1
  generalize H1 = H at hP hS ⊢
  have hP : va_P (dC, dI) vwCl [(h0, .inr (3, [.ref qm, .ref ql, .ref qf, .int n3])), (ql, .inl (kl, 128, .inl fl))] H := hP
  have hD : va_D A [(h0, .inr (3, [.ref qm, .ref ql, .ref qf, .int n3])), (ql, .inl (kl, 128, .inl fl))] := hD
  have hK : va_K (dC, dI) vwCl [(kl, .int), (kl, .int)] s := hK
  have hK : va_K (dC, dI) vwCl [(kl, .int)] s := hK.sub [0] rfl
  have hP9 := hP.sub (ws' := [(h0, .inr (3, [.ref qm, .ref ql, .ref qf, .int n3])), (ql, .inl (kl, 128, .inl fl))]) [0, 1] rfl
  have hD9 := hD.sub (ws' := [(h0, .inr (3, [.ref qm, .ref ql, .ref qf, .int n3])), (ql, .inl (kl, 128, .inl fl))]) [0, 1] (by decide) rfl
  have hK9 := hK.sub (tys' := [(kl, .int)]) [0] rfl
  exact W.iret (v := r1) hx hb hr (fun t ht hW => ⟨⟨r1, (), rfl, trivial, by rw [ht]; exact hP9, va_K.moved hW.alike hK9, hD9⟩, hS.F ht⟩) hS.2.2 dX4_cellOf_8
theorem k_X4_frameOf_fieldLink_RX4_17_SR_Names_frames_I : Cond.fieldLink RX4 17 "StatementRules2$Names" "frames" "[I" ∈ wzX4_frameOf := List.mem_cons_of_mem _ (List.mem_append_left _ (List.mem_of_getElem? (i := 0) rfl))
theorem i_X4_frameOf_X4 : ∀ w ∈ wsX40, w ∈ wzX4_frameOf := fun _ h => List.mem_cons_of_mem _ (List.mem_append_right _ (List.mem_append_left _ (h)))
theorem k_X4_frameOf_initialized_RX11 : Cond.initialized RX11 ∈ wzX4_frameOf := List.mem_cons_of_mem _ (List.mem_append_left _ (List.mem_of_getElem? (i := 1) rfl))
theorem k_X4_frameOf_static_yX11_at : Cond.static yX11_at ∈ wzX4_frameOf := List.mem_cons_of_mem _ (List.mem_append_left _ (List.mem_of_getElem? (i := 2) rfl))
set_option maxHeartbeats 4000000 in
set_option maxRecDepth 100000 in
theorem c_X4_frameOf (l : Launch) (dC : Nat → ClassId) (dI : Nat → Nat → Nat) (sz : Nat) (h0 : Nat) (x : Int32) (n3 : Int32) (qm : Nat) (ql : Nat) (qf : Nat) (kf : ClassId) (ff : Nat → Int32) : Met l yX4_frameOf wzX4_frameOf ({ frames := 2, cells := 0, slots := 0, locals := 120 }) (va_Pc [.ref h0, .int x] (zPre dC dI sz [(h0, .inr (3, [.ref qm, .ref ql, .ref qf, .int n3])), (qf, .inl (kf, 128, .inl ff))] [(kf, .int)])) (va_Qi (fun (r : Int32) (_ : Unit) => True) (fun (_ : Unit) (t : State) => zPost dC dI (va_A [(h0, .inr (3, [.ref qm, .ref ql, .ref qf, .int n3])), (qf, .inl (kf, 128, .inl ff))] sz) [(h0, .inr (3, [.ref qm, .ref ql, .ref qf, .int n3])), (qf, .inl (kf, 128, .inl ff))] [(kf, .int)] t) (va_A [(h0, .inr (3, [.ref qm, .ref ql, .ref qf, .int n3])), (qf, .inl (kf, 128, .inl ff))] sz)) 0 0 (va_A [(h0, .inr (3, [.ref qm, .ref ql, .ref qf, .int n3])), (qf, .inl (kf, 128, .inl ff))] sz) := by
  refine Met.ofW (cc := cX4_frameOf) (maxL := 2) (ret := (some .int)) (by decide) rfl ?_
  intro p e s m args below meth c s₁ B hml hv
  obtain ⟨rfl, hsz, hZ, hP, hK, hD0⟩ := hv
  have hx := B.exec
  have hb := B.bytes
  have hr := B.returns
  have hts := atoms_spec (ws := wzX4_frameOf) B.pre
  have hown : s.vm.findClass RX4 = some m.cls := findClass_of_methodNamed B.named
  have hlocks := B.notSynchronized
  subst hsz
  have hD := hD0.self (sz := s.heap.size)
  generalize hAe : va_A [(h0, .inr (3, [.ref qm, .ref ql, .ref qf, .int n3])), (qf, .inl (kf, 128, .inl ff))] s.heap.size = A at hD ⊢
  have hA : ∀ q : Nat, s.heap.size ≤ q → A q := fun q h => by rw [← hAe]; exact Or.inr h
  have hS : va_S A s.heap s.heap [] := va_S.rf
  have hP : va_P (dC, dI) vwCl [(h0, .inr (3, [.ref qm, .ref ql, .ref qf, .int n3])), (qf, .inl (kf, 128, .inl ff))] s.heap := hP
  have hl := lv_entry ([.ref h0, .int x]) (n := 2) (Nat.le_of_ble_eq_true rfl)
  rw [lg_entry_eq]
  generalize (lg_sl ([.ref h0, .int x]) ++ List.replicate (2 - (lg_sl ([.ref h0, .int x])).length) Slot.unset).toArray = ls at hl ⊢
  have hl : lv_has ls 2 [(0, .ref h0), (1, .int x)] := hl
  refine lv_aload_n hx hb dX4_frameOf_0 rfl (lv_at hl 0 rfl) ?_
  refine va_get (D := (dC, dI)) (ci := 3) (v := .ref qf) (C := RX4) (T := TX4) (N := 4) hx hb hts i_X4_frameOf_X4 hown hK hP 0 rfl rfl 2 (by decide) (hts (.fieldLink RX4 17 "StatementRules2$Names" "frames" "[I") k_X4_frameOf_fieldLink_RX4_17_SR_Names_frames_I) (fun _ h9 => h9) rfl dX4_frameOf_1 ?_
  refine lv_iload_n hx hb dX4_frameOf_4 rfl (lv_at hl 1 rfl) ?_
  have hPc := hP.sub (ws' := [(qf, .inl (kf, 128, .inl ff))]) [1] rfl
  have hDc := hD.sub (ws' := [(qf, .inl (kf, 128, .inl ff))]) [1] (by decide) rfl
  have hKc := hK.sub (tys' := [(kf, .int)]) [0] rfl
  have hFc := va_free (wc := [(qf, .inl (kf, 128, .inl ff))]) hD hS hA [1] rfl
  refine va_calli (va_runSN (As := [.ref qf, .int x]) (rest := []) ⟨hx, hb, hml, hown, hts⟩ (c_X11_at l dC dI _ qf kf 128 ff x (by decide)) ⟨va_cnB 2 hts hX4_frameOf_X11_at_n24 rfl rfl rfl (hZ.1 (.methodLinkNest RX4 24 yX11_at "StatementRules2") (by decide +kernel)) (hts (.initialized RX11) k_X4_frameOf_initialized_RX11) (by decide +kernel) ⟨Nat.le_of_ble_eq_true rfl, Nat.le_of_ble_eq_true rfl⟩, (hts (.static yX11_at) k_X4_frameOf_static_yX11_at), trivial⟩ ⟨zPre.blind, zPre.go hZ hPc hKc hDc⟩ rfl rfl hl.1 rfl (lv_room (Nat.le_of_ble_eq_true rfl)) dX4_frameOf_5 ⟨Nat.le_of_ble_eq_true rfl, Nat.le_of_ble_eq_true rfl⟩) hS (fun q _ h => hFc q h) hFc (fun r1 u9 t9 H1 locs ht hvm hw hB hz1 hk1 hS => ?_)
  obtain ⟨hP1, hK1, hD1⟩ := hB
  rw [ht] at hP1
  have hK1 := va_K.moved hvm.symm hK1
  obtain ⟨hP, hD⟩ := va_join (wr := [(h0, .inr (3, [.ref qm, .ref ql, .ref qf, .int n3]))]) (w1 := [(qf, .inl (kf, 128, .inl ff))]) hP hD [1] [0] rfl rfl (by decide) (by decide) hk1 hFc hP1 hD1
  have hK := hK.app hK1
  generalize H1 = H at hP hS ⊢
  have hP : va_P (dC, dI) vwCl [(h0, .inr (3, [.ref qm, .ref ql, .ref qf, .int n3])), (qf, .inl (kf, 128, .inl ff))] H := hP
  have hD : va_D A [(h0, .inr (3, [.ref qm, .ref ql, .ref qf, .int n3])), (qf, .inl (kf, 128, .inl ff))] := hD
  have hK : va_K (dC, dI) vwCl [(kf, .int), (kf, .int)] s := hK
  have hK : va_K (dC, dI) vwCl [(kf, .int)] s := hK.sub [0] rfl
  have hP9 := hP.sub (ws' := [(h0, .inr (3, [.ref qm, .ref ql, .ref qf, .int n3])), (qf, .inl (kf, 128, .inl ff))]) [0, 1] rfl
  have hD9 := hD.sub (ws' := [(h0, .inr (3, [.ref qm, .ref ql, .ref qf, .int n3])), (qf, .inl (kf, 128, .inl ff))]) [0, 1] (by decide) rfl
  have hK9 := hK.sub (tys' := [(kf, .int)]) [0] rfl
  exact W.iret (v := r1) hx hb hr (fun t ht hW => ⟨⟨r1, (), rfl, trivial, by rw [ht]; exact hP9, va_K.moved hW.alike hK9, hD9⟩, hS.F ht⟩) hS.2.2 dX4_frameOf_8
theorem k_X4_isCaught_fieldLink_RX4_17_SR_Names_frames_I : Cond.fieldLink RX4 17 "StatementRules2$Names" "frames" "[I" ∈ wzX4_isCaught := List.mem_cons_of_mem _ (List.mem_append_left _ (List.mem_of_getElem? (i := 0) rfl))
theorem i_X4_isCaught_X4 : ∀ w ∈ wsX40, w ∈ wzX4_isCaught := fun _ h => List.mem_cons_of_mem _ (List.mem_append_right _ (List.mem_append_left _ (h)))
theorem k_X4_isCaught_initialized_RX11 : Cond.initialized RX11 ∈ wzX4_isCaught := List.mem_cons_of_mem _ (List.mem_append_left _ (List.mem_of_getElem? (i := 1) rfl))
theorem k_X4_isCaught_static_yX11_at : Cond.static yX11_at ∈ wzX4_isCaught := List.mem_cons_of_mem _ (List.mem_append_left _ (List.mem_of_getElem? (i := 2) rfl))
set_option maxHeartbeats 4000000 in
set_option maxRecDepth 100000 in
theorem c_X4_isCaught (l : Launch) (dC : Nat → ClassId) (dI : Nat → Nat → Nat) (sz : Nat) (h0 : Nat) (x : Int32) (n3 : Int32) (qm : Nat) (ql : Nat) (qf : Nat) (kf : ClassId) (ff : Nat → Int32) : Met l yX4_isCaught wzX4_isCaught ({ frames := 2, cells := 0, slots := 0, locals := 120 }) (va_Pc [.ref h0, .int x] (zPre dC dI sz [(h0, .inr (3, [.ref qm, .ref ql, .ref qf, .int n3])), (qf, .inl (kf, 128, .inl ff))] [(kf, .int)])) (va_Qi (fun (r : Int32) (_ : Unit) => r = 0 ∨ r = 1) (fun (_ : Unit) (t : State) => zPost dC dI (va_A [(h0, .inr (3, [.ref qm, .ref ql, .ref qf, .int n3])), (qf, .inl (kf, 128, .inl ff))] sz) [(h0, .inr (3, [.ref qm, .ref ql, .ref qf, .int n3])), (qf, .inl (kf, 128, .inl ff))] [(kf, .int)] t) (va_A [(h0, .inr (3, [.ref qm, .ref ql, .ref qf, .int n3])), (qf, .inl (kf, 128, .inl ff))] sz)) 0 0 (va_A [(h0, .inr (3, [.ref qm, .ref ql, .ref qf, .int n3])), (qf, .inl (kf, 128, .inl ff))] sz) := by
  refine Met.ofW (cc := cX4_isCaught) (maxL := 2) (ret := (some .boolean)) (by decide) rfl ?_
  intro p e s m args below meth c s₁ B hml hv
  obtain ⟨rfl, hsz, hZ, hP, hK, hD0⟩ := hv
  have hx := B.exec
  have hb := B.bytes
  have hr := B.returns
  have hts := atoms_spec (ws := wzX4_isCaught) B.pre
  have hown : s.vm.findClass RX4 = some m.cls := findClass_of_methodNamed B.named
  have hlocks := B.notSynchronized
  subst hsz
  have hD := hD0.self (sz := s.heap.size)
  generalize hAe : va_A [(h0, .inr (3, [.ref qm, .ref ql, .ref qf, .int n3])), (qf, .inl (kf, 128, .inl ff))] s.heap.size = A at hD ⊢
  have hA : ∀ q : Nat, s.heap.size ≤ q → A q := fun q h => by rw [← hAe]; exact Or.inr h
  have hS : va_S A s.heap s.heap [] := va_S.rf
  have hP : va_P (dC, dI) vwCl [(h0, .inr (3, [.ref qm, .ref ql, .ref qf, .int n3])), (qf, .inl (kf, 128, .inl ff))] s.heap := hP
  have hl := lv_entry ([.ref h0, .int x]) (n := 2) (Nat.le_of_ble_eq_true rfl)
  rw [lg_entry_eq]
  generalize (lg_sl ([.ref h0, .int x]) ++ List.replicate (2 - (lg_sl ([.ref h0, .int x])).length) Slot.unset).toArray = ls at hl ⊢
  have hl : lv_has ls 2 [(0, .ref h0), (1, .int x)] := hl
  refine lv_aload_n hx hb dX4_isCaught_0 rfl (lv_at hl 0 rfl) ?_
  refine va_get (D := (dC, dI)) (ci := 3) (v := .ref qf) (C := RX4) (T := TX4) (N := 4) hx hb hts i_X4_isCaught_X4 hown hK hP 0 rfl rfl 2 (by decide) (hts (.fieldLink RX4 17 "StatementRules2$Names" "frames" "[I") k_X4_isCaught_fieldLink_RX4_17_SR_Names_frames_I) (fun _ h9 => h9) rfl dX4_isCaught_1 ?_
  refine lv_iload_n hx hb dX4_isCaught_4 rfl (lv_at hl 1 rfl) ?_
  have hPc := hP.sub (ws' := [(qf, .inl (kf, 128, .inl ff))]) [1] rfl
  have hDc := hD.sub (ws' := [(qf, .inl (kf, 128, .inl ff))]) [1] (by decide) rfl
  have hKc := hK.sub (tys' := [(kf, .int)]) [0] rfl
  have hFc := va_free (wc := [(qf, .inl (kf, 128, .inl ff))]) hD hS hA [1] rfl
  refine va_calli (va_runSN (As := [.ref qf, .int x]) (rest := []) ⟨hx, hb, hml, hown, hts⟩ (c_X11_at l dC dI _ qf kf 128 ff x (by decide)) ⟨va_cnB 2 hts hX4_isCaught_X11_at_n24 rfl rfl rfl (hZ.1 (.methodLinkNest RX4 24 yX11_at "StatementRules2") (by decide +kernel)) (hts (.initialized RX11) k_X4_isCaught_initialized_RX11) (by decide +kernel) ⟨Nat.le_of_ble_eq_true rfl, Nat.le_of_ble_eq_true rfl⟩, (hts (.static yX11_at) k_X4_isCaught_static_yX11_at), trivial⟩ ⟨zPre.blind, zPre.go hZ hPc hKc hDc⟩ rfl rfl hl.1 rfl (lv_room (Nat.le_of_ble_eq_true rfl)) dX4_isCaught_5 ⟨Nat.le_of_ble_eq_true rfl, Nat.le_of_ble_eq_true rfl⟩) hS (fun q _ h => hFc q h) hFc (fun r1 u9 t9 H1 locs ht hvm hw hB hz1 hk1 hS => ?_)
  obtain ⟨hP1, hK1, hD1⟩ := hB
  rw [ht] at hP1
  have hK1 := va_K.moved hvm.symm hK1
  obtain ⟨hP, hD⟩ := va_join (wr := [(h0, .inr (3, [.ref qm, .ref ql, .ref qf, .int n3]))]) (w1 := [(qf, .inl (kf, 128, .inl ff))]) hP hD [1] [0] rfl rfl (by decide) (by decide) hk1 hFc hP1 hD1
  have hK := hK.app hK1
  generalize H1 = H at hP hS ⊢
  have hP : va_P (dC, dI) vwCl [(h0, .inr (3, [.ref qm, .ref ql, .ref qf, .int n3])), (qf, .inl (kf, 128, .inl ff))] H := hP
  have hD : va_D A [(h0, .inr (3, [.ref qm, .ref ql, .ref qf, .int n3])), (qf, .inl (kf, 128, .inl ff))] := hD
  have hK : va_K (dC, dI) vwCl [(kf, .int), (kf, .int)] s := hK
  have hK : va_K (dC, dI) vwCl [(kf, .int)] s := hK.sub [0] rfl
  refine lv_if_lt (tgt := 15) hx hb dX4_isCaught_8 (by decide) (fun c2 => ?_) (fun c2 => ?_)
  ·
    refine lv_iconst (v := 0) hx hb dX4_isCaught_15 (by decide) ?_
    have hP9 := hP.sub (ws' := [(h0, .inr (3, [.ref qm, .ref ql, .ref qf, .int n3])), (qf, .inl (kf, 128, .inl ff))]) [0, 1] rfl
    have hD9 := hD.sub (ws' := [(h0, .inr (3, [.ref qm, .ref ql, .ref qf, .int n3])), (qf, .inl (kf, 128, .inl ff))]) [0, 1] (by decide) rfl
    have hK9 := hK.sub (tys' := [(kf, .int)]) [0] rfl
    exact W.zret (v := 0) hx hb hr (rfl) (fun t ht hW => ⟨⟨0, (), rfl, (Or.inl rfl), by rw [ht]; exact hP9, va_K.moved hW.alike hK9, hD9⟩, hS.F ht⟩) hS.2.2 dX4_isCaught_16
  ·
    refine lv_iconst (v := 1) hx hb dX4_isCaught_11 (by decide) ?_
    refine lv_goto (tgt := 16) hx hb dX4_isCaught_12 (by decide) ?_
    have hP9 := hP.sub (ws' := [(h0, .inr (3, [.ref qm, .ref ql, .ref qf, .int n3])), (qf, .inl (kf, 128, .inl ff))]) [0, 1] rfl
    have hD9 := hD.sub (ws' := [(h0, .inr (3, [.ref qm, .ref ql, .ref qf, .int n3])), (qf, .inl (kf, 128, .inl ff))]) [0, 1] (by decide) rfl
    have hK9 := hK.sub (tys' := [(kf, .int)]) [0] rfl
    exact W.zret (v := 1) hx hb hr (rfl) (fun t ht hW => ⟨⟨1, (), rfl, (Or.inr rfl), by rw [ht]; exact hP9, va_K.moved hW.alike hK9, hD9⟩, hS.F ht⟩) hS.2.2 dX4_isCaught_16
