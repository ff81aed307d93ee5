section
theorem k_X12_need_fieldLink_RX12_291_SRModel_fault_I : Cond.fieldLink RX12 291 "StatementRules2Model" "fault" "I" ∈ wzX12_need := List.mem_cons_of_mem _ (List.mem_append_left _ (List.mem_of_getElem? (i := 0) rfl))
theorem i_X12_need_X12 : ∀ w ∈ wsX120, w ∈ wzX12_need := fun _ h => List.mem_cons_of_mem _ (List.mem_append_right _ (List.mem_append_left _ (h)))
theorem k_X12_need_fieldLink_RX12_307_SRModel_tok_I : Cond.fieldLink RX12 307 "StatementRules2Model" "tok" "I" ∈ wzX12_need := List.mem_cons_of_mem _ (List.mem_append_left _ (List.mem_of_getElem? (i := 1) rfl))
set_option maxHeartbeats 4000000 in
set_option maxRecDepth 100000 in
theorem j_X12_need_31 {p : Program} {e : Env} {s : State} {m : MethodId} {args : Array Value} {below : List Frame} {meth : Method} {c : Code} {A : Nat → Prop} (l : Launch) (dC : Nat → ClassId) (dI : Nat → Nat → Nat) (Q : RQ) (N : Nat) (R : Int32 × RS) (hx : p.tables.exec = Jvm.exec) (hb : c.code = cX12_need) (hr : meth.sig.returnType = (some .boolean)) (hml : c.maxLocals = 2) (hown : s.vm.findClass RX12 = some m.cls) (hts : ∀ w ∈ wzX12_need, w.before args s = true) (hlocks : meth.locks = false) (hZ : zAMB s) (hA : ∀ q : Nat, s.heap.size ≤ q → A q) (hK : va_K (dC, dI) vwCl (rT Q) s) : ∀ (σ : RS) (H : Heap) (locs : List Loc) (ls : Array Slot), f_X12_need_31 N σ = some R → va_P (dC, dI) vwCl (rW Q σ) H → va_D A (rW Q σ) → va_S A s.heap H locs → lv_has ls 2 [(0, .ref Q.h0)] → W p l e ({ frames := 4, cells := 0, slots := 0, locals := 240 }) s m args below meth c H locs 0 0 (MQ below (va_Qi (fun (r : Int32) (_ : Unit) => r = R.1) (fun (_ : Unit) (t : State) => zPost dC dI A (rW Q R.2) (rT Q) t) A) args s 0 0 A) (F0 m 31 ls []) := by
  intro σ  H locs ls hf hP hD hS hl
  unfold f_X12_need_31 at hf
  refine lv_aload_n hx hb dX12_need_31 rfl (lv_at hl 0 rfl) ?_
  refine rG_15 (v := (σ.i 15)) hx hb hts i_X12_need_X12 hown hK hP (hts (.fieldLink RX12 291 "StatementRules2Model" "fault" "I") k_X12_need_fieldLink_RX12_291_SRModel_fault_I) dX12_need_32 rfl ?_
  refine lv_if_ne (tgt := 42) hx hb dX12_need_35 (by decide) (fun c2 => ?_) (fun c2 => ?_)
  ·
    replace hf := (if_neg c2).symm.trans hf
    refine lv_iconst (v := 0) hx hb dX12_need_42 (by decide) ?_
    obtain rfl := Option.some.inj hf
    exact W.zret (v := 0) hx hb hr (rfl) (fun t ht hW => ⟨⟨0, (), rfl, rfl, by rw [ht]; exact hP, va_K.moved hW.alike hK, hD⟩, hS.F ht⟩) hS.2.2 dX12_need_43
  ·
    replace hf := (if_pos c2).symm.trans hf
    refine lv_iconst (v := 1) hx hb dX12_need_38 (by decide) ?_
    refine lv_goto (tgt := 43) hx hb dX12_need_39 (by decide) ?_
    obtain rfl := Option.some.inj hf
    exact W.zret (v := 1) hx hb hr (rfl) (fun t ht hW => ⟨⟨1, (), rfl, rfl, by rw [ht]; exact hP, va_K.moved hW.alike hK, hD⟩, hS.F ht⟩) hS.2.2 dX12_need_43
set_option maxHeartbeats 4000000 in
set_option maxRecDepth 100000 in
theorem j_X12_need_27 {p : Program} {e : Env} {s : State} {m : MethodId} {args : Array Value} {below : List Frame} {meth : Method} {c : Code} {A : Nat → Prop} (l : Launch) (dC : Nat → ClassId) (dI : Nat → Nat → Nat) (Q : RQ) (N : Nat) (R : Int32 × RS) (hx : p.tables.exec = Jvm.exec) (hb : c.code = cX12_need) (hr : meth.sig.returnType = (some .boolean)) (hml : c.maxLocals = 2) (hown : s.vm.findClass RX12 = some m.cls) (hts : ∀ w ∈ wzX12_need, w.before args s = true) (hlocks : meth.locks = false) (hZ : zAMB s) (hA : ∀ q : Nat, s.heap.size ≤ q → A q) (hK : va_K (dC, dI) vwCl (rT Q) s) : ∀ (σ : RS) (H : Heap) (locs : List Loc) (ls : Array Slot), f_X12_need_27 N σ = some R → va_P (dC, dI) vwCl (rW Q σ) H → va_D A (rW Q σ) → va_S A s.heap H locs → lv_has ls 2 [(0, .ref Q.h0)] → W p l e ({ frames := 4, cells := 0, slots := 0, locals := 240 }) s m args below meth c H locs 0 0 (MQ below (va_Qi (fun (r : Int32) (_ : Unit) => r = R.1) (fun (_ : Unit) (t : State) => zPost dC dI A (rW Q R.2) (rT Q) t) A) args s 0 0 A) (F0 m 27 ls []) := by
  intro σ  H locs ls hf hP hD hS hl
  unfold f_X12_need_27 at hf
  refine lv_aload_n hx hb dX12_need_27 rfl (lv_at hl 0 rfl) ?_
  obtain ⟨p7, hcp7, hf⟩ := hf_bind hf
  have hFc := r_free hD hS hA
  refine va_callv (va_runV (As := []) (rest := []) ⟨hx, hb, hml, hown, hts⟩ (c_X12_next l dC dI _ Q N σ p7 hcp7) (cwV 0 hts hX12_need_X12_next_v345 rfl rfl rfl (by decide +kernel) ⟨Nat.le_of_ble_eq_true rfl, Nat.le_of_ble_eq_true rfl⟩) ⟨zPre.blind, va_recv hK hP (ci := 11) (q0 := 0) rfl rfl, zPre.go hZ hP hK hD⟩ rfl rfl hl.1 rfl (lv_room (Nat.le_of_ble_eq_true rfl)) dX12_need_28 ⟨Nat.le_of_ble_eq_true rfl, Nat.le_of_ble_eq_true rfl⟩) hS (fun q _ h => hFc q h) hFc (fun u9 t9 H1 locs ht hvm hw hB hz1 hk1 hS => ?_)
  obtain ⟨hP, hK1, hD1⟩ := hB
  rw [ht] at hP
  have hD := hD1.weaken (fun _ _ _ h => hFc _ h)
  generalize H1 = H at hP hS ⊢
  exact j_X12_need_31 l dC dI Q N R hx hb hr hml hown hts hlocks hZ hA hK p7 _ _ _ hf hP hD hS (lv_sub hl [0] rfl)
set_option maxHeartbeats 4000000 in
set_option maxRecDepth 100000 in
theorem c_X12_need (l : Launch) (dC : Nat → ClassId) (dI : Nat → Nat → Nat) (sz : Nat) (Q : RQ) (N : Nat) (σ : RS) (x1 : Int32) (R : Int32 × RS) (hf : f_X12_need N σ x1 = some R) : Met l yX12_need wzX12_need ({ frames := 4, cells := 0, slots := 0, locals := 240 }) (va_Pc [.ref Q.h0, .int x1] (zPre dC dI sz (rW Q σ) (rT Q))) (va_Qi (fun (r : Int32) (_ : Unit) => r = R.1) (fun (_ : Unit) (t : State) => zPost dC dI (va_A (rW Q σ) sz) (rW Q R.2) (rT Q) t) (va_A (rW Q σ) sz)) 0 0 (va_A (rW Q σ) sz) := by
  refine Met.ofW (cc := cX12_need) (maxL := 2) (ret := (some .boolean)) (by decide) rfl ?_
  intro p e s m args below meth c s₁ B hml hv
  obtain ⟨rfl, hsz, hZ, hP, hK, hD0⟩ := hv
  have hx := B.exec
  have hb := B.bytes
  have hr := B.returns
  have hts := atoms_spec (ws := wzX12_need) B.pre
  have hown : s.vm.findClass RX12 = some m.cls := findClass_of_methodNamed B.named
  have hlocks := B.notSynchronized
  subst hsz
  have hD := hD0.self (sz := s.heap.size)
  generalize hAe : va_A (rW Q σ) s.heap.size = A at hD ⊢
  have hA : ∀ q : Nat, s.heap.size ≤ q → A q := fun q h => by rw [← hAe]; exact Or.inr h
  have hS : va_S A s.heap s.heap [] := va_S.rf
  have hl := lv_entry ([.ref Q.h0, .int x1]) (n := 2) (Nat.le_of_ble_eq_true rfl)
  rw [lg_entry_eq]
  generalize (lg_sl ([.ref Q.h0, .int x1]) ++ List.replicate (2 - (lg_sl ([.ref Q.h0, .int x1])).length) Slot.unset).toArray = ls at hl ⊢
  have hl : lv_has ls 2 [(0, .ref Q.h0), (1, .int x1)] := hl
  unfold f_X12_need at hf
  refine lv_aload_n hx hb dX12_need_0 rfl (lv_at hl 0 rfl) ?_
  refine rG_15 (v := (σ.i 15)) hx hb hts i_X12_need_X12 hown hK hP (hts (.fieldLink RX12 291 "StatementRules2Model" "fault" "I") k_X12_need_fieldLink_RX12_291_SRModel_fault_I) dX12_need_1 rfl ?_
  refine lv_if_ne (tgt := 31) hx hb dX12_need_4 (by decide) (fun c1 => ?_) (fun c1 => ?_)
  ·
    replace hf := (if_neg c1).symm.trans hf
    exact j_X12_need_31 l dC dI Q N R hx hb hr hml hown hts hlocks hZ hA hK σ _ _ _ hf hP hD hS (lv_sub hl [0] rfl)
  ·
    replace hf := (if_pos c1).symm.trans hf
    refine lv_aload_n hx hb dX12_need_7 rfl (lv_at hl 0 rfl) ?_
    refine lv_aload_n hx hb dX12_need_8 rfl (lv_at hl 0 rfl) ?_
    refine rG_10 (v := (σ.i 10)) hx hb hts i_X12_need_X12 hown hK hP (hts (.fieldLink RX12 307 "StatementRules2Model" "tok" "I") k_X12_need_fieldLink_RX12_307_SRModel_tok_I) dX12_need_9 rfl ?_
    refine lv_iload_n hx hb dX12_need_12 rfl (lv_at hl 1 rfl) ?_
    refine lv_icmp_ne (tgt := 20) hx hb dX12_need_13 (by decide) (fun c3 => ?_) (fun c3 => ?_)
    ·
      replace hf := (if_neg c3).symm.trans hf
      refine lv_iconst (v := 0) hx hb dX12_need_20 (by decide) ?_
      obtain ⟨p4, hcp4, hf⟩ := hf_bind hf
      have hFc := r_free hD hS hA
      refine va_calli (va_runV (As := [.int 0]) (rest := []) ⟨hx, hb, hml, hown, hts⟩ (c_X12_can l dC dI _ Q N σ 0 p4 hcp4) (cwV 1 hts hX12_need_X12_can_v341 rfl rfl rfl (by decide +kernel) ⟨Nat.le_of_ble_eq_true rfl, Nat.le_of_ble_eq_true rfl⟩) ⟨zPre.blind, va_recv hK hP (ci := 11) (q0 := 0) rfl rfl, zPre.go hZ hP hK hD⟩ rfl rfl hl.1 rfl (lv_room (Nat.le_of_ble_eq_true rfl)) dX12_need_21 ⟨Nat.le_of_ble_eq_true rfl, Nat.le_of_ble_eq_true rfl⟩) hS (fun q _ h => hFc q h) hFc (fun r5 u9 t9 H1 locs ht hvm hw hB hz1 hk1 hS => ?_)
      obtain ⟨hP, hK1, hD1⟩ := hB
      rw [ht] at hP
      have hD := hD1.weaken (fun _ _ _ h => hFc _ h)
      generalize H1 = H at hP hS ⊢
      obtain rfl : r5 = p4.1 := hw
      refine lv_if_eq (tgt := 31) hx hb dX12_need_24 (by decide) (fun c6 => ?_) (fun c6 => ?_)
      ·
        replace hf := (if_pos c6).symm.trans hf
        exact j_X12_need_31 l dC dI Q N R hx hb hr hml hown hts hlocks hZ hA hK p4.2 _ _ _ hf hP hD hS (lv_sub hl [0] rfl)
      ·
        replace hf := (if_neg c6).symm.trans hf
        exact j_X12_need_27 l dC dI Q N R hx hb hr hml hown hts hlocks hZ hA hK p4.2 _ _ _ hf hP hD hS (lv_sub hl [0] rfl)
    ·
      replace hf := (if_pos c3).symm.trans hf
      refine lv_iconst (v := 1) hx hb dX12_need_16 (by decide) ?_
      refine lv_goto (tgt := 21) hx hb dX12_need_17 (by decide) ?_
      obtain ⟨p9, hcp9, hf⟩ := hf_bind hf
      have hFc := r_free hD hS hA
      refine va_calli (va_runV (As := [.int 1]) (rest := []) ⟨hx, hb, hml, hown, hts⟩ (c_X12_can l dC dI _ Q N σ 1 p9 hcp9) (cwV 1 hts hX12_need_X12_can_v341 rfl rfl rfl (by decide +kernel) ⟨Nat.le_of_ble_eq_true rfl, Nat.le_of_ble_eq_true rfl⟩) ⟨zPre.blind, va_recv hK hP (ci := 11) (q0 := 0) rfl rfl, zPre.go hZ hP hK hD⟩ rfl rfl hl.1 rfl (lv_room (Nat.le_of_ble_eq_true rfl)) dX12_need_21 ⟨Nat.le_of_ble_eq_true rfl, Nat.le_of_ble_eq_true rfl⟩) hS (fun q _ h => hFc q h) hFc (fun r10 u9 t9 H1 locs ht hvm hw hB hz1 hk1 hS => ?_)
      obtain ⟨hP, hK1, hD1⟩ := hB
      rw [ht] at hP
      have hD := hD1.weaken (fun _ _ _ h => hFc _ h)
      generalize H1 = H at hP hS ⊢
      obtain rfl : r10 = p9.1 := hw
      refine lv_if_eq (tgt := 31) hx hb dX12_need_24 (by decide) (fun c11 => ?_) (fun c11 => ?_)
      ·
        replace hf := (if_pos c11).symm.trans hf
        exact j_X12_need_31 l dC dI Q N R hx hb hr hml hown hts hlocks hZ hA hK p9.2 _ _ _ hf hP hD hS (lv_sub hl [0] rfl)
      ·
        replace hf := (if_neg c11).symm.trans hf
        exact j_X12_need_27 l dC dI Q N R hx hb hr hml hown hts hlocks hZ hA hK p9.2 _ _ _ hf hP hD hS (lv_sub hl [0] rfl)
theorem k_X12_opens_fieldLink_RX12_348_SRModel_opened_I : Cond.fieldLink RX12 348 "StatementRules2Model" "opened" "I" ∈ wzX12_opens := List.mem_cons_of_mem _ (List.mem_append_left _ (List.mem_of_getElem? (i := 0) rfl))
theorem i_X12_opens_X12 : ∀ w ∈ wsX120, w ∈ wzX12_opens := fun _ h => List.mem_cons_of_mem _ (List.mem_append_right _ (List.mem_append_left _ (h)))
theorem k_X12_opens_fieldLink_RX12_291_SRModel_fault_I : Cond.fieldLink RX12 291 "StatementRules2Model" "fault" "I" ∈ wzX12_opens := List.mem_cons_of_mem _ (List.mem_append_left _ (List.mem_of_getElem? (i := 1) rfl))
theorem k_X12_opens_fieldLink_RX12_304_SRModel_from_I : Cond.fieldLink RX12 304 "StatementRules2Model" "from" "I" ∈ wzX12_opens := List.mem_cons_of_mem _ (List.mem_append_left _ (List.mem_of_getElem? (i := 2) rfl))
set_option maxHeartbeats 4000000 in
set_option maxRecDepth 100000 in
theorem j_X12_opens_29 {p : Program} {e : Env} {s : State} {m : MethodId} {args : Array Value} {below : List Frame} {meth : Method} {c : Code} {A : Nat → Prop} (l : Launch) (dC : Nat → ClassId) (dI : Nat → Nat → Nat) (Q : RQ) (N : Nat) (R : Int32 × RS) (hx : p.tables.exec = Jvm.exec) (hb : c.code = cX12_opens) (hr : meth.sig.returnType = (some .boolean)) (hml : c.maxLocals = 1) (hown : s.vm.findClass RX12 = some m.cls) (hts : ∀ w ∈ wzX12_opens, w.before args s = true) (hlocks : meth.locks = false) (hZ : zAMB s) (hA : ∀ q : Nat, s.heap.size ≤ q → A q) (hK : va_K (dC, dI) vwCl (rT Q) s) : ∀ (σ : RS) (H : Heap) (locs : List Loc) (ls : Array Slot), f_X12_opens_29 N σ = some R → va_P (dC, dI) vwCl (rW Q σ) H → va_D A (rW Q σ) → va_S A s.heap H locs → lv_has ls 1 [(0, .ref Q.h0)] → W p l e ({ frames := 2, cells := 0, slots := 0, locals := 120 }) s m args below meth c H locs 0 0 (MQ below (va_Qi (fun (r : Int32) (_ : Unit) => r = R.1) (fun (_ : Unit) (t : State) => zPost dC dI A (rW Q R.2) (rT Q) t) A) args s 0 0 A) (F0 m 29 ls []) := by
  intro σ  H locs ls hf hP hD hS hl
  unfold f_X12_opens_29 at hf
  refine lv_aload_n hx hb dX12_opens_29 rfl (lv_at hl 0 rfl) ?_
  refine rG_15 (v := (σ.i 15)) hx hb hts i_X12_opens_X12 hown hK hP (hts (.fieldLink RX12 291 "StatementRules2Model" "fault" "I") k_X12_opens_fieldLink_RX12_291_SRModel_fault_I) dX12_opens_30 rfl ?_
  refine lv_if_ne (tgt := 40) hx hb dX12_opens_33 (by decide) (fun c2 => ?_) (fun c2 => ?_)
  ·
    replace hf := (if_neg c2).symm.trans hf
    refine lv_iconst (v := 0) hx hb dX12_opens_40 (by decide) ?_
    obtain rfl := Option.some.inj hf
    exact W.zret (v := 0) hx hb hr (rfl) (fun t ht hW => ⟨⟨0, (), rfl, rfl, by rw [ht]; exact hP, va_K.moved hW.alike hK, hD⟩, hS.F ht⟩) hS.2.2 dX12_opens_41
  ·
    replace hf := (if_pos c2).symm.trans hf
    refine lv_iconst (v := 1) hx hb dX12_opens_36 (by decide) ?_
    refine lv_goto (tgt := 41) hx hb dX12_opens_37 (by decide) ?_
    obtain rfl := Option.some.inj hf
    exact W.zret (v := 1) hx hb hr (rfl) (fun t ht hW => ⟨⟨1, (), rfl, rfl, by rw [ht]; exact hP, va_K.moved hW.alike hK, hD⟩, hS.F ht⟩) hS.2.2 dX12_opens_41
set_option maxHeartbeats 4000000 in
set_option maxRecDepth 100000 in
theorem c_X12_opens (l : Launch) (dC : Nat → ClassId) (dI : Nat → Nat → Nat) (sz : Nat) (Q : RQ) (N : Nat) (σ : RS) (R : Int32 × RS) (hf : f_X12_opens N σ = some R) : Met l yX12_opens wzX12_opens ({ frames := 2, cells := 0, slots := 0, locals := 120 }) (va_Pc [.ref Q.h0] (zPre dC dI sz (rW Q σ) (rT Q))) (va_Qi (fun (r : Int32) (_ : Unit) => r = R.1) (fun (_ : Unit) (t : State) => zPost dC dI (va_A (rW Q σ) sz) (rW Q R.2) (rT Q) t) (va_A (rW Q σ) sz)) 0 0 (va_A (rW Q σ) sz) := by
  refine Met.ofW (cc := cX12_opens) (maxL := 1) (ret := (some .boolean)) (by decide) rfl ?_
  intro p e s m args below meth c s₁ B hml hv
  obtain ⟨rfl, hsz, hZ, hP, hK, hD0⟩ := hv
  have hx := B.exec
  have hb := B.bytes
  have hr := B.returns
  have hts := atoms_spec (ws := wzX12_opens) B.pre
  have hown : s.vm.findClass RX12 = some m.cls := findClass_of_methodNamed B.named
  have hlocks := B.notSynchronized
  subst hsz
  have hD := hD0.self (sz := s.heap.size)
  generalize hAe : va_A (rW Q σ) s.heap.size = A at hD ⊢
  have hA : ∀ q : Nat, s.heap.size ≤ q → A q := fun q h => by rw [← hAe]; exact Or.inr h
  have hS : va_S A s.heap s.heap [] := va_S.rf
  have hl := lv_entry ([.ref Q.h0]) (n := 1) (Nat.le_of_ble_eq_true rfl)
  rw [lg_entry_eq]
  generalize (lg_sl ([.ref Q.h0]) ++ List.replicate (1 - (lg_sl ([.ref Q.h0])).length) Slot.unset).toArray = ls at hl ⊢
  have hl : lv_has ls 1 [(0, .ref Q.h0)] := hl
  unfold f_X12_opens at hf
  refine lv_aload_n hx hb dX12_opens_0 rfl (lv_at hl 0 rfl) ?_
  refine lv_dup hx hb dX12_opens_1 rfl ?_
  refine rG_19 (v := (σ.i 19)) hx hb hts i_X12_opens_X12 hown hK hP (hts (.fieldLink RX12 348 "StatementRules2Model" "opened" "I") k_X12_opens_fieldLink_RX12_348_SRModel_opened_I) dX12_opens_2 rfl ?_
  refine lv_iconst (v := 1) hx hb dX12_opens_5 (by decide) ?_
  refine lv_iadd hx hb dX12_opens_6 ?_
  refine rP_19 hx hb hts i_X12_opens_X12 hown hK hP hD hS (hts (.fieldLink RX12 348 "StatementRules2Model" "opened" "I") k_X12_opens_fieldLink_RX12_348_SRModel_opened_I) dX12_opens_7 (fun H locs hP hD hS => ?_)
  refine lv_aload_n hx hb dX12_opens_10 rfl (lv_at hl 0 rfl) ?_
  refine rG_19 (v := ((σ.i 19) + 1)) hx hb hts i_X12_opens_X12 hown hK hP (hts (.fieldLink RX12 348 "StatementRules2Model" "opened" "I") k_X12_opens_fieldLink_RX12_348_SRModel_opened_I) dX12_opens_11 rfl ?_
  refine lv_bipush (v := 20) hx hb dX12_opens_14 (by decide) ?_
  refine lv_icmp_le (tgt := 29) hx hb dX12_opens_16 (by decide) (fun c1 => ?_) (fun c1 => ?_)
  ·
    replace hf := (if_pos c1).symm.trans hf
    exact j_X12_opens_29 l dC dI Q N R hx hb hr hml hown hts hlocks hZ hA hK (RS.setI σ 19 ((σ.i 19) + 1)) _ _ _ hf hP hD hS (lv_sub hl [0] rfl)
  ·
    replace hf := (if_neg c1).symm.trans hf
    refine lv_aload_n hx hb dX12_opens_19 rfl (lv_at hl 0 rfl) ?_
    refine lv_bipush (v := 6) hx hb dX12_opens_20 (by decide) ?_
    refine lv_aload_n hx hb dX12_opens_22 rfl (lv_at hl 0 rfl) ?_
    refine rG_11 (v := (σ.i 11)) hx hb hts i_X12_opens_X12 hown hK hP (hts (.fieldLink RX12 304 "StatementRules2Model" "from" "I") k_X12_opens_fieldLink_RX12_304_SRModel_from_I) dX12_opens_23 rfl ?_
    obtain ⟨p3, hcp3, hf⟩ := hf_bind hf
    have hFc := r_free hD hS hA
    refine va_callv (va_runV (As := [.int 6, .int (σ.i 11)]) (rest := []) ⟨hx, hb, hml, hown, hts⟩ (c_X12_fail l dC dI _ Q N (RS.setI σ 19 ((σ.i 19) + 1)) 6 (σ.i 11) p3 hcp3) (cwV 2 hts hX12_opens_X12_fail_v337 rfl rfl rfl (by decide +kernel) ⟨Nat.le_of_ble_eq_true rfl, Nat.le_of_ble_eq_true rfl⟩) ⟨zPre.blind, va_recv hK hP (ci := 11) (q0 := 0) rfl rfl, zPre.go hZ hP hK hD⟩ rfl rfl hl.1 rfl (lv_room (Nat.le_of_ble_eq_true rfl)) dX12_opens_26 ⟨Nat.le_of_ble_eq_true rfl, Nat.le_of_ble_eq_true rfl⟩) hS (fun q _ h => hFc q h) hFc (fun u9 t9 H1 locs ht hvm hw hB hz1 hk1 hS => ?_)
    obtain ⟨hP, hK1, hD1⟩ := hB
    rw [ht] at hP
    have hD := hD1.weaken (fun _ _ _ h => hFc _ h)
    generalize H1 = H at hP hS ⊢
    exact j_X12_opens_29 l dC dI Q N R hx hb hr hml hown hts hlocks hZ hA hK p3 _ _ _ hf hP hD hS (lv_sub hl [0] rfl)
theorem k_X12_open_fieldLink_RX12_291_SRModel_fault_I : Cond.fieldLink RX12 291 "StatementRules2Model" "fault" "I" ∈ wzX12_open := List.mem_cons_of_mem _ (List.mem_append_left _ (List.mem_of_getElem? (i := 0) rfl))
theorem i_X12_open_X12 : ∀ w ∈ wsX120, w ∈ wzX12_open := fun _ h => List.mem_cons_of_mem _ (List.mem_append_right _ (List.mem_append_left _ (h)))
theorem k_X12_open_fieldLink_RX12_307_SRModel_tok_I : Cond.fieldLink RX12 307 "StatementRules2Model" "tok" "I" ∈ wzX12_open := List.mem_cons_of_mem _ (List.mem_append_left _ (List.mem_of_getElem? (i := 1) rfl))
set_option maxHeartbeats 4000000 in
set_option maxRecDepth 100000 in
theorem j_X12_open_38 {p : Program} {e : Env} {s : State} {m : MethodId} {args : Array Value} {below : List Frame} {meth : Method} {c : Code} {A : Nat → Prop} (l : Launch) (dC : Nat → ClassId) (dI : Nat → Nat → Nat) (Q : RQ) (N : Nat) (R : Int32 × RS) (hx : p.tables.exec = Jvm.exec) (hb : c.code = cX12_open) (hr : meth.sig.returnType = (some .boolean)) (hml : c.maxLocals = 2) (hown : s.vm.findClass RX12 = some m.cls) (hts : ∀ w ∈ wzX12_open, w.before args s = true) (hlocks : meth.locks = false) (hZ : zAMB s) (hA : ∀ q : Nat, s.heap.size ≤ q → A q) (hK : va_K (dC, dI) vwCl (rT Q) s) : ∀ (σ : RS) (H : Heap) (locs : List Loc) (ls : Array Slot), f_X12_open_38 N σ = some R → va_P (dC, dI) vwCl (rW Q σ) H → va_D A (rW Q σ) → va_S A s.heap H locs → lv_has ls 2 [(0, .ref Q.h0)] → W p l e ({ frames := 4, cells := 0, slots := 0, locals := 240 }) s m args below meth c H locs 0 0 (MQ below (va_Qi (fun (r : Int32) (_ : Unit) => r = R.1) (fun (_ : Unit) (t : State) => zPost dC dI A (rW Q R.2) (rT Q) t) A) args s 0 0 A) (F0 m 38 ls []) := by
  intro σ  H locs ls hf hP hD hS hl
  unfold f_X12_open_38 at hf
  refine lv_aload_n hx hb dX12_open_38 rfl (lv_at hl 0 rfl) ?_
  refine rG_15 (v := (σ.i 15)) hx hb hts i_X12_open_X12 hown hK hP (hts (.fieldLink RX12 291 "StatementRules2Model" "fault" "I") k_X12_open_fieldLink_RX12_291_SRModel_fault_I) dX12_open_39 rfl ?_
  refine lv_if_ne (tgt := 49) hx hb dX12_open_42 (by decide) (fun c2 => ?_) (fun c2 => ?_)
  ·
    replace hf := (if_neg c2).symm.trans hf
    refine lv_iconst (v := 0) hx hb dX12_open_49 (by decide) ?_
    obtain rfl := Option.some.inj hf
    exact W.zret (v := 0) hx hb hr (rfl) (fun t ht hW => ⟨⟨0, (), rfl, rfl, by rw [ht]; exact hP, va_K.moved hW.alike hK, hD⟩, hS.F ht⟩) hS.2.2 dX12_open_50
  ·
    replace hf := (if_pos c2).symm.trans hf
    refine lv_iconst (v := 1) hx hb dX12_open_45 (by decide) ?_
    refine lv_goto (tgt := 50) hx hb dX12_open_46 (by decide) ?_
    obtain rfl := Option.some.inj hf
    exact W.zret (v := 1) hx hb hr (rfl) (fun t ht hW => ⟨⟨1, (), rfl, rfl, by rw [ht]; exact hP, va_K.moved hW.alike hK, hD⟩, hS.F ht⟩) hS.2.2 dX12_open_50
set_option maxHeartbeats 4000000 in
set_option maxRecDepth 100000 in
theorem j_X12_open_27 {p : Program} {e : Env} {s : State} {m : MethodId} {args : Array Value} {below : List Frame} {meth : Method} {c : Code} {A : Nat → Prop} (l : Launch) (dC : Nat → ClassId) (dI : Nat → Nat → Nat) (Q : RQ) (N : Nat) (R : Int32 × RS) (hx : p.tables.exec = Jvm.exec) (hb : c.code = cX12_open) (hr : meth.sig.returnType = (some .boolean)) (hml : c.maxLocals = 2) (hown : s.vm.findClass RX12 = some m.cls) (hts : ∀ w ∈ wzX12_open, w.before args s = true) (hlocks : meth.locks = false) (hZ : zAMB s) (hA : ∀ q : Nat, s.heap.size ≤ q → A q) (hK : va_K (dC, dI) vwCl (rT Q) s) : ∀ (σ : RS) (H : Heap) (locs : List Loc) (ls : Array Slot), f_X12_open_27 N σ = some R → va_P (dC, dI) vwCl (rW Q σ) H → va_D A (rW Q σ) → va_S A s.heap H locs → lv_has ls 2 [(0, .ref Q.h0)] → W p l e ({ frames := 4, cells := 0, slots := 0, locals := 240 }) s m args below meth c H locs 0 0 (MQ below (va_Qi (fun (r : Int32) (_ : Unit) => r = R.1) (fun (_ : Unit) (t : State) => zPost dC dI A (rW Q R.2) (rT Q) t) A) args s 0 0 A) (F0 m 27 ls []) := by
  intro σ  H locs ls hf hP hD hS hl
  unfold f_X12_open_27 at hf
  refine lv_aload_n hx hb dX12_open_27 rfl (lv_at hl 0 rfl) ?_
  obtain ⟨p7, hcp7, hf⟩ := hf_bind hf
  have hFc := r_free hD hS hA
  refine va_calli (va_runV (As := []) (rest := []) ⟨hx, hb, hml, hown, hts⟩ (c_X12_opens l dC dI _ Q N σ p7 hcp7) (cwV 0 hts hX12_open_X12_opens_v351 rfl rfl rfl (by decide +kernel) ⟨Nat.le_of_ble_eq_true rfl, Nat.le_of_ble_eq_true rfl⟩) ⟨zPre.blind, va_recv hK hP (ci := 11) (q0 := 0) rfl rfl, zPre.go hZ hP hK hD⟩ rfl rfl hl.1 rfl (lv_room (Nat.le_of_ble_eq_true rfl)) dX12_open_28 ⟨Nat.le_of_ble_eq_true rfl, Nat.le_of_ble_eq_true rfl⟩) hS (fun q _ h => hFc q h) hFc (fun r8 u9 t9 H1 locs ht hvm hw hB hz1 hk1 hS => ?_)
  obtain ⟨hP, hK1, hD1⟩ := hB
  rw [ht] at hP
  have hD := hD1.weaken (fun _ _ _ h => hFc _ h)
  generalize H1 = H at hP hS ⊢
  obtain rfl : r8 = p7.1 := hw
  refine lv_if_eq (tgt := 38) hx hb dX12_open_31 (by decide) (fun c9 => ?_) (fun c9 => ?_)
  ·
    replace hf := (if_pos c9).symm.trans hf
    exact j_X12_open_38 l dC dI Q N R hx hb hr hml hown hts hlocks hZ hA hK p7.2 _ _ _ hf hP hD hS (lv_sub hl [0] rfl)
  ·
    replace hf := (if_neg c9).symm.trans hf
    refine lv_aload_n hx hb dX12_open_34 rfl (lv_at hl 0 rfl) ?_
    obtain ⟨p10, hcp10, hf⟩ := hf_bind hf
    have hFc := r_free hD hS hA
    refine va_callv (va_runV (As := []) (rest := []) ⟨hx, hb, hml, hown, hts⟩ (c_X12_next l dC dI _ Q N p7.2 p10 hcp10) (cwV 0 hts hX12_open_X12_next_v345 rfl rfl rfl (by decide +kernel) ⟨Nat.le_of_ble_eq_true rfl, Nat.le_of_ble_eq_true rfl⟩) ⟨zPre.blind, va_recv hK hP (ci := 11) (q0 := 0) rfl rfl, zPre.go hZ hP hK hD⟩ rfl rfl hl.1 rfl (lv_room (Nat.le_of_ble_eq_true rfl)) dX12_open_35 ⟨Nat.le_of_ble_eq_true rfl, Nat.le_of_ble_eq_true rfl⟩) hS (fun q _ h => hFc q h) hFc (fun u9 t9 H1 locs ht hvm hw hB hz1 hk1 hS => ?_)
    obtain ⟨hP, hK1, hD1⟩ := hB
    rw [ht] at hP
    have hD := hD1.weaken (fun _ _ _ h => hFc _ h)
    generalize H1 = H at hP hS ⊢
    exact j_X12_open_38 l dC dI Q N R hx hb hr hml hown hts hlocks hZ hA hK p10 _ _ _ hf hP hD hS (lv_sub hl [0] rfl)
set_option maxHeartbeats 4000000 in
set_option maxRecDepth 100000 in
theorem c_X12_open (l : Launch) (dC : Nat → ClassId) (dI : Nat → Nat → Nat) (sz : Nat) (Q : RQ) (N : Nat) (σ : RS) (x1 : Int32) (R : Int32 × RS) (hf : f_X12_open N σ x1 = some R) : Met l yX12_open wzX12_open ({ frames := 4, cells := 0, slots := 0, locals := 240 }) (va_Pc [.ref Q.h0, .int x1] (zPre dC dI sz (rW Q σ) (rT Q))) (va_Qi (fun (r : Int32) (_ : Unit) => r = R.1) (fun (_ : Unit) (t : State) => zPost dC dI (va_A (rW Q σ) sz) (rW Q R.2) (rT Q) t) (va_A (rW Q σ) sz)) 0 0 (va_A (rW Q σ) sz) := by
  refine Met.ofW (cc := cX12_open) (maxL := 2) (ret := (some .boolean)) (by decide) rfl ?_
  intro p e s m args below meth c s₁ B hml hv
  obtain ⟨rfl, hsz, hZ, hP, hK, hD0⟩ := hv
  have hx := B.exec
  have hb := B.bytes
  have hr := B.returns
  have hts := atoms_spec (ws := wzX12_open) B.pre
  have hown : s.vm.findClass RX12 = some m.cls := findClass_of_methodNamed B.named
  have hlocks := B.notSynchronized
  subst hsz
  have hD := hD0.self (sz := s.heap.size)
  generalize hAe : va_A (rW Q σ) s.heap.size = A at hD ⊢
  have hA : ∀ q : Nat, s.heap.size ≤ q → A q := fun q h => by rw [← hAe]; exact Or.inr h
  have hS : va_S A s.heap s.heap [] := va_S.rf
  have hl := lv_entry ([.ref Q.h0, .int x1]) (n := 2) (Nat.le_of_ble_eq_true rfl)
  rw [lg_entry_eq]
  generalize (lg_sl ([.ref Q.h0, .int x1]) ++ List.replicate (2 - (lg_sl ([.ref Q.h0, .int x1])).length) Slot.unset).toArray = ls at hl ⊢
  have hl : lv_has ls 2 [(0, .ref Q.h0), (1, .int x1)] := hl
  unfold f_X12_open at hf
  refine lv_aload_n hx hb dX12_open_0 rfl (lv_at hl 0 rfl) ?_
  refine rG_15 (v := (σ.i 15)) hx hb hts i_X12_open_X12 hown hK hP (hts (.fieldLink RX12 291 "StatementRules2Model" "fault" "I") k_X12_open_fieldLink_RX12_291_SRModel_fault_I) dX12_open_1 rfl ?_
  refine lv_if_ne (tgt := 38) hx hb dX12_open_4 (by decide) (fun c1 => ?_) (fun c1 => ?_)
  ·
    replace hf := (if_neg c1).symm.trans hf
    exact j_X12_open_38 l dC dI Q N R hx hb hr hml hown hts hlocks hZ hA hK σ _ _ _ hf hP hD hS (lv_sub hl [0] rfl)
  ·
    replace hf := (if_pos c1).symm.trans hf
    refine lv_aload_n hx hb dX12_open_7 rfl (lv_at hl 0 rfl) ?_
    refine lv_aload_n hx hb dX12_open_8 rfl (lv_at hl 0 rfl) ?_
    refine rG_10 (v := (σ.i 10)) hx hb hts i_X12_open_X12 hown hK hP (hts (.fieldLink RX12 307 "StatementRules2Model" "tok" "I") k_X12_open_fieldLink_RX12_307_SRModel_tok_I) dX12_open_9 rfl ?_
    refine lv_iload_n hx hb dX12_open_12 rfl (lv_at hl 1 rfl) ?_
    refine lv_icmp_ne (tgt := 20) hx hb dX12_open_13 (by decide) (fun c3 => ?_) (fun c3 => ?_)
    ·
      replace hf := (if_neg c3).symm.trans hf
      refine lv_iconst (v := 0) hx hb dX12_open_20 (by decide) ?_
      obtain ⟨p4, hcp4, hf⟩ := hf_bind hf
      have hFc := r_free hD hS hA
      refine va_calli (va_runV (As := [.int 0]) (rest := []) ⟨hx, hb, hml, hown, hts⟩ (c_X12_can l dC dI _ Q N σ 0 p4 hcp4) (cwV 1 hts hX12_open_X12_can_v341 rfl rfl rfl (by decide +kernel) ⟨Nat.le_of_ble_eq_true rfl, Nat.le_of_ble_eq_true rfl⟩) ⟨zPre.blind, va_recv hK hP (ci := 11) (q0 := 0) rfl rfl, zPre.go hZ hP hK hD⟩ rfl rfl hl.1 rfl (lv_room (Nat.le_of_ble_eq_true rfl)) dX12_open_21 ⟨Nat.le_of_ble_eq_true rfl, Nat.le_of_ble_eq_true rfl⟩) hS (fun q _ h => hFc q h) hFc (fun r5 u9 t9 H1 locs ht hvm hw hB hz1 hk1 hS => ?_)
      obtain ⟨hP, hK1, hD1⟩ := hB
      rw [ht] at hP
      have hD := hD1.weaken (fun _ _ _ h => hFc _ h)
      generalize H1 = H at hP hS ⊢
      obtain rfl : r5 = p4.1 := hw
      refine lv_if_eq (tgt := 38) hx hb dX12_open_24 (by decide) (fun c6 => ?_) (fun c6 => ?_)
      ·
        replace hf := (if_pos c6).symm.trans hf
        exact j_X12_open_38 l dC dI Q N R hx hb hr hml hown hts hlocks hZ hA hK p4.2 _ _ _ hf hP hD hS (lv_sub hl [0] rfl)
      ·
        replace hf := (if_neg c6).symm.trans hf
        exact j_X12_open_27 l dC dI Q N R hx hb hr hml hown hts hlocks hZ hA hK p4.2 _ _ _ hf hP hD hS (lv_sub hl [0] rfl)
    ·
      replace hf := (if_pos c3).symm.trans hf
      refine lv_iconst (v := 1) hx hb dX12_open_16 (by decide) ?_
      refine lv_goto (tgt := 21) hx hb dX12_open_17 (by decide) ?_
      obtain ⟨p12, hcp12, hf⟩ := hf_bind hf
      have hFc := r_free hD hS hA
      refine va_calli (va_runV (As := [.int 1]) (rest := []) ⟨hx, hb, hml, hown, hts⟩ (c_X12_can l dC dI _ Q N σ 1 p12 hcp12) (cwV 1 hts hX12_open_X12_can_v341 rfl rfl rfl (by decide +kernel) ⟨Nat.le_of_ble_eq_true rfl, Nat.le_of_ble_eq_true rfl⟩) ⟨zPre.blind, va_recv hK hP (ci := 11) (q0 := 0) rfl rfl, zPre.go hZ hP hK hD⟩ rfl rfl hl.1 rfl (lv_room (Nat.le_of_ble_eq_true rfl)) dX12_open_21 ⟨Nat.le_of_ble_eq_true rfl, Nat.le_of_ble_eq_true rfl⟩) hS (fun q _ h => hFc q h) hFc (fun r13 u9 t9 H1 locs ht hvm hw hB hz1 hk1 hS => ?_)
      obtain ⟨hP, hK1, hD1⟩ := hB
      rw [ht] at hP
      have hD := hD1.weaken (fun _ _ _ h => hFc _ h)
      generalize H1 = H at hP hS ⊢
      obtain rfl : r13 = p12.1 := hw
      refine lv_if_eq (tgt := 38) hx hb dX12_open_24 (by decide) (fun c14 => ?_) (fun c14 => ?_)
      ·
        replace hf := (if_pos c14).symm.trans hf
        exact j_X12_open_38 l dC dI Q N R hx hb hr hml hown hts hlocks hZ hA hK p12.2 _ _ _ hf hP hD hS (lv_sub hl [0] rfl)
      ·
        replace hf := (if_neg c14).symm.trans hf
        exact j_X12_open_27 l dC dI Q N R hx hb hr hml hown hts hlocks hZ hA hK p12.2 _ _ _ hf hP hD hS (lv_sub hl [0] rfl)
theorem k_X12_shut_fieldLink_RX12_291_SRModel_fault_I : Cond.fieldLink RX12 291 "StatementRules2Model" "fault" "I" ∈ wzX12_shut := List.mem_cons_of_mem _ (List.mem_append_left _ (List.mem_of_getElem? (i := 0) rfl))
theorem i_X12_shut_X12 : ∀ w ∈ wsX120, w ∈ wzX12_shut := fun _ h => List.mem_cons_of_mem _ (List.mem_append_right _ (List.mem_append_left _ (h)))
theorem k_X12_shut_fieldLink_RX12_348_SRModel_opened_I : Cond.fieldLink RX12 348 "StatementRules2Model" "opened" "I" ∈ wzX12_shut := List.mem_cons_of_mem _ (List.mem_append_left _ (List.mem_of_getElem? (i := 1) rfl))
set_option maxHeartbeats 4000000 in
set_option maxRecDepth 100000 in
theorem j_X12_shut_18 {p : Program} {e : Env} {s : State} {m : MethodId} {args : Array Value} {below : List Frame} {meth : Method} {c : Code} {A : Nat → Prop} (l : Launch) (dC : Nat → ClassId) (dI : Nat → Nat → Nat) (Q : RQ) (N : Nat) (R : Int32 × RS) (hx : p.tables.exec = Jvm.exec) (hb : c.code = cX12_shut) (hr : meth.sig.returnType = (some .boolean)) (hml : c.maxLocals = 2) (hown : s.vm.findClass RX12 = some m.cls) (hts : ∀ w ∈ wzX12_shut, w.before args s = true) (hlocks : meth.locks = false) (hZ : zAMB s) (hA : ∀ q : Nat, s.heap.size ≤ q → A q) (hK : va_K (dC, dI) vwCl (rT Q) s) : ∀ (σ : RS) (H : Heap) (locs : List Loc) (ls : Array Slot), f_X12_shut_18 N σ = some R → va_P (dC, dI) vwCl (rW Q σ) H → va_D A (rW Q σ) → va_S A s.heap H locs → lv_has ls 2 [(0, .ref Q.h0)] → W p l e ({ frames := 5, cells := 0, slots := 0, locals := 300 }) s m args below meth c H locs 0 0 (MQ below (va_Qi (fun (r : Int32) (_ : Unit) => r = R.1) (fun (_ : Unit) (t : State) => zPost dC dI A (rW Q R.2) (rT Q) t) A) args s 0 0 A) (F0 m 18 ls []) := by
  intro σ  H locs ls hf hP hD hS hl
  unfold f_X12_shut_18 at hf
  refine lv_aload_n hx hb dX12_shut_18 rfl (lv_at hl 0 rfl) ?_
  refine rG_15 (v := (σ.i 15)) hx hb hts i_X12_shut_X12 hown hK hP (hts (.fieldLink RX12 291 "StatementRules2Model" "fault" "I") k_X12_shut_fieldLink_RX12_291_SRModel_fault_I) dX12_shut_19 rfl ?_
  refine lv_if_ne (tgt := 29) hx hb dX12_shut_22 (by decide) (fun c4 => ?_) (fun c4 => ?_)
  ·
    replace hf := (if_neg c4).symm.trans hf
    refine lv_iconst (v := 0) hx hb dX12_shut_29 (by decide) ?_
    obtain rfl := Option.some.inj hf
    exact W.zret (v := 0) hx hb hr (rfl) (fun t ht hW => ⟨⟨0, (), rfl, rfl, by rw [ht]; exact hP, va_K.moved hW.alike hK, hD⟩, hS.F ht⟩) hS.2.2 dX12_shut_30
  ·
    replace hf := (if_pos c4).symm.trans hf
    refine lv_iconst (v := 1) hx hb dX12_shut_25 (by decide) ?_
    refine lv_goto (tgt := 30) hx hb dX12_shut_26 (by decide) ?_
    obtain rfl := Option.some.inj hf
    exact W.zret (v := 1) hx hb hr (rfl) (fun t ht hW => ⟨⟨1, (), rfl, rfl, by rw [ht]; exact hP, va_K.moved hW.alike hK, hD⟩, hS.F ht⟩) hS.2.2 dX12_shut_30
set_option maxHeartbeats 4000000 in
set_option maxRecDepth 100000 in
theorem c_X12_shut (l : Launch) (dC : Nat → ClassId) (dI : Nat → Nat → Nat) (sz : Nat) (Q : RQ) (N : Nat) (σ : RS) (x1 : Int32) (R : Int32 × RS) (hf : f_X12_shut N σ x1 = some R) : Met l yX12_shut wzX12_shut ({ frames := 5, cells := 0, slots := 0, locals := 300 }) (va_Pc [.ref Q.h0, .int x1] (zPre dC dI sz (rW Q σ) (rT Q))) (va_Qi (fun (r : Int32) (_ : Unit) => r = R.1) (fun (_ : Unit) (t : State) => zPost dC dI (va_A (rW Q σ) sz) (rW Q R.2) (rT Q) t) (va_A (rW Q σ) sz)) 0 0 (va_A (rW Q σ) sz) := by
  refine Met.ofW (cc := cX12_shut) (maxL := 2) (ret := (some .boolean)) (by decide) rfl ?_
  intro p e s m args below meth c s₁ B hml hv
  obtain ⟨rfl, hsz, hZ, hP, hK, hD0⟩ := hv
  have hx := B.exec
  have hb := B.bytes
  have hr := B.returns
  have hts := atoms_spec (ws := wzX12_shut) B.pre
  have hown : s.vm.findClass RX12 = some m.cls := findClass_of_methodNamed B.named
  have hlocks := B.notSynchronized
  subst hsz
  have hD := hD0.self (sz := s.heap.size)
  generalize hAe : va_A (rW Q σ) s.heap.size = A at hD ⊢
  have hA : ∀ q : Nat, s.heap.size ≤ q → A q := fun q h => by rw [← hAe]; exact Or.inr h
  have hS : va_S A s.heap s.heap [] := va_S.rf
  have hl := lv_entry ([.ref Q.h0, .int x1]) (n := 2) (Nat.le_of_ble_eq_true rfl)
  rw [lg_entry_eq]
  generalize (lg_sl ([.ref Q.h0, .int x1]) ++ List.replicate (2 - (lg_sl ([.ref Q.h0, .int x1])).length) Slot.unset).toArray = ls at hl ⊢
  have hl : lv_has ls 2 [(0, .ref Q.h0), (1, .int x1)] := hl
  unfold f_X12_shut at hf
  refine lv_aload_n hx hb dX12_shut_0 rfl (lv_at hl 0 rfl) ?_
  refine lv_iload_n hx hb dX12_shut_1 rfl (lv_at hl 1 rfl) ?_
  obtain ⟨p1, hcp1, hf⟩ := hf_bind hf
  have hFc := r_free hD hS hA
  refine va_calli (va_runV (As := [.int x1]) (rest := []) ⟨hx, hb, hml, hown, hts⟩ (c_X12_need l dC dI _ Q N σ x1 p1 hcp1) (cwV 1 hts hX12_shut_X12_need_v355 rfl rfl rfl (by decide +kernel) ⟨Nat.le_of_ble_eq_true rfl, Nat.le_of_ble_eq_true rfl⟩) ⟨zPre.blind, va_recv hK hP (ci := 11) (q0 := 0) rfl rfl, zPre.go hZ hP hK hD⟩ rfl rfl hl.1 rfl (lv_room (Nat.le_of_ble_eq_true rfl)) dX12_shut_2 ⟨Nat.le_of_ble_eq_true rfl, Nat.le_of_ble_eq_true rfl⟩) hS (fun q _ h => hFc q h) hFc (fun r2 u9 t9 H1 locs ht hvm hw hB hz1 hk1 hS => ?_)
  obtain ⟨hP, hK1, hD1⟩ := hB
  rw [ht] at hP
  have hD := hD1.weaken (fun _ _ _ h => hFc _ h)
  generalize H1 = H at hP hS ⊢
  obtain rfl : r2 = p1.1 := hw
  refine lv_if_eq (tgt := 18) hx hb dX12_shut_5 (by decide) (fun c3 => ?_) (fun c3 => ?_)
  ·
    replace hf := (if_pos c3).symm.trans hf
    exact j_X12_shut_18 l dC dI Q N R hx hb hr hml hown hts hlocks hZ hA hK p1.2 _ _ _ hf hP hD hS (lv_sub hl [0] rfl)
  ·
    replace hf := (if_neg c3).symm.trans hf
    refine lv_aload_n hx hb dX12_shut_8 rfl (lv_at hl 0 rfl) ?_
    refine lv_dup hx hb dX12_shut_9 rfl ?_
    refine rG_19 (v := (p1.2.i 19)) hx hb hts i_X12_shut_X12 hown hK hP (hts (.fieldLink RX12 348 "StatementRules2Model" "opened" "I") k_X12_shut_fieldLink_RX12_348_SRModel_opened_I) dX12_shut_10 rfl ?_
    refine lv_iconst (v := 1) hx hb dX12_shut_13 (by decide) ?_
    refine lv_isub hx hb dX12_shut_14 ?_
    refine rP_19 hx hb hts i_X12_shut_X12 hown hK hP hD hS (hts (.fieldLink RX12 348 "StatementRules2Model" "opened" "I") k_X12_shut_fieldLink_RX12_348_SRModel_opened_I) dX12_shut_15 (fun H locs hP hD hS => ?_)
    exact j_X12_shut_18 l dC dI Q N R hx hb hr hml hown hts hlocks hZ hA hK (RS.setI p1.2 19 ((p1.2.i 19) - 1)) _ _ _ hf hP hD hS (lv_sub hl [0] rfl)
theorem k_X12_emit_fieldLink_RX12_358_SRModel_codes_I : Cond.fieldLink RX12 358 "StatementRules2Model" "codes" "I" ∈ wzX12_emit := List.mem_cons_of_mem _ (List.mem_append_left _ (List.mem_of_getElem? (i := 0) rfl))
theorem i_X12_emit_X12 : ∀ w ∈ wsX120, w ∈ wzX12_emit := fun _ h => List.mem_cons_of_mem _ (List.mem_append_right _ (List.mem_append_left _ (h)))
theorem k_X12_emit_fieldLink_RX12_84_SRModel_op_I : Cond.fieldLink RX12 84 "StatementRules2Model" "op" "[I" ∈ wzX12_emit := List.mem_cons_of_mem _ (List.mem_append_left _ (List.mem_of_getElem? (i := 1) rfl))
theorem k_X12_emit_fieldLink_RX12_87_SRModel_ix_I : Cond.fieldLink RX12 87 "StatementRules2Model" "ix" "[I" ∈ wzX12_emit := List.mem_cons_of_mem _ (List.mem_append_left _ (List.mem_of_getElem? (i := 2) rfl))
theorem k_X12_emit_fieldLink_RX12_90_SRModel_iy_I : Cond.fieldLink RX12 90 "StatementRules2Model" "iy" "[I" ∈ wzX12_emit := List.mem_cons_of_mem _ (List.mem_append_left _ (List.mem_of_getElem? (i := 3) rfl))
set_option maxHeartbeats 4000000 in
set_option maxRecDepth 100000 in
theorem j_X12_emit_21 {p : Program} {e : Env} {s : State} {m : MethodId} {args : Array Value} {below : List Frame} {meth : Method} {c : Code} {A : Nat → Prop} (l : Launch) (dC : Nat → ClassId) (dI : Nat → Nat → Nat) (Q : RQ) (N : Nat) (R : Int32 × RS) (hx : p.tables.exec = Jvm.exec) (hb : c.code = cX12_emit) (hr : meth.sig.returnType = (some .int)) (hml : c.maxLocals = 4) (hown : s.vm.findClass RX12 = some m.cls) (hts : ∀ w ∈ wzX12_emit, w.before args s = true) (hlocks : meth.locks = false) (hZ : zAMB s) (hA : ∀ q : Nat, s.heap.size ≤ q → A q) (hK : va_K (dC, dI) vwCl (rT Q) s) : ∀ (σ : RS) (x1 : Int32) (x2 : Int32) (x3 : Int32) (H : Heap) (locs : List Loc) (ls : Array Slot), f_X12_emit_21 N σ x1 x2 x3 = some R → va_P (dC, dI) vwCl (rW Q σ) H → va_D A (rW Q σ) → va_S A s.heap H locs → lv_has ls 4 [(0, .ref Q.h0), (1, .int x1), (2, .int x2), (3, .int x3)] → W p l e ({ frames := 1, cells := 0, slots := 0, locals := 60 }) s m args below meth c H locs 0 0 (MQ below (va_Qi (fun (r : Int32) (_ : Unit) => r = R.1) (fun (_ : Unit) (t : State) => zPost dC dI A (rW Q R.2) (rT Q) t) A) args s 0 0 A) (F0 m 21 ls []) := by
  intro σ x1 x2 x3 H locs ls hf hP hD hS hl
  unfold f_X12_emit_21 at hf
  refine lv_aload_n hx hb dX12_emit_21 rfl (lv_at hl 0 rfl) ?_
  refine rG_21 hx hb hts i_X12_emit_X12 hown hK hP (hts (.fieldLink RX12 84 "StatementRules2Model" "op" "[I") k_X12_emit_fieldLink_RX12_84_SRModel_op_I) dX12_emit_22 ?_
  refine lv_iload_n hx hb dX12_emit_25 rfl (lv_at hl 3 rfl) ?_
  refine lv_iload_n hx hb dX12_emit_26 rfl (lv_at hl 1 rfl) ?_
  obtain ⟨b2, hf⟩ := hf_ite hf
  refine rS_21 hx hb hK hP hD hS b2 dX12_emit_27 (fun H locs hP hD hS => ?_)
  refine lv_aload_n hx hb dX12_emit_28 rfl (lv_at hl 0 rfl) ?_
  refine rG_22 hx hb hts i_X12_emit_X12 hown hK hP (hts (.fieldLink RX12 87 "StatementRules2Model" "ix" "[I") k_X12_emit_fieldLink_RX12_87_SRModel_ix_I) dX12_emit_29 ?_
  refine lv_iload_n hx hb dX12_emit_32 rfl (lv_at hl 3 rfl) ?_
  refine lv_iload_n hx hb dX12_emit_33 rfl (lv_at hl 2 rfl) ?_
  refine rS_22 hx hb hK hP hD hS b2 dX12_emit_34 (fun H locs hP hD hS => ?_)
  refine lv_aload_n hx hb dX12_emit_35 rfl (lv_at hl 0 rfl) ?_
  refine rG_23 hx hb hts i_X12_emit_X12 hown hK hP (hts (.fieldLink RX12 90 "StatementRules2Model" "iy" "[I") k_X12_emit_fieldLink_RX12_90_SRModel_iy_I) dX12_emit_36 ?_
  refine lv_iload_n hx hb dX12_emit_39 rfl (lv_at hl 3 rfl) ?_
  refine lv_iconst (v := 0) hx hb dX12_emit_40 (by decide) ?_
  refine rS_23 hx hb hK hP hD hS b2 dX12_emit_41 (fun H locs hP hD hS => ?_)
  refine lv_aload_n hx hb dX12_emit_42 rfl (lv_at hl 0 rfl) ?_
  refine lv_iload_n hx hb dX12_emit_43 rfl (lv_at hl 3 rfl) ?_
  refine lv_iconst (v := 1) hx hb dX12_emit_44 (by decide) ?_
  refine lv_iadd hx hb dX12_emit_45 ?_
  refine rP_20 hx hb hts i_X12_emit_X12 hown hK hP hD hS (hts (.fieldLink RX12 358 "StatementRules2Model" "codes" "I") k_X12_emit_fieldLink_RX12_358_SRModel_codes_I) dX12_emit_46 (fun H locs hP hD hS => ?_)
  refine lv_iload_n hx hb dX12_emit_49 rfl (lv_at hl 3 rfl) ?_
  obtain rfl := Option.some.inj hf
  exact W.iret (v := x3) hx hb hr (fun t ht hW => ⟨⟨x3, (), rfl, rfl, by rw [ht]; exact hP, va_K.moved hW.alike hK, hD⟩, hS.F ht⟩) hS.2.2 dX12_emit_50
set_option maxHeartbeats 4000000 in
set_option maxRecDepth 100000 in
theorem c_X12_emit (l : Launch) (dC : Nat → ClassId) (dI : Nat → Nat → Nat) (sz : Nat) (Q : RQ) (N : Nat) (σ : RS) (x1 : Int32) (x2 : Int32) (R : Int32 × RS) (hf : f_X12_emit N σ x1 x2 = some R) : Met l yX12_emit wzX12_emit ({ frames := 1, cells := 0, slots := 0, locals := 60 }) (va_Pc [.ref Q.h0, .int x1, .int x2] (zPre dC dI sz (rW Q σ) (rT Q))) (va_Qi (fun (r : Int32) (_ : Unit) => r = R.1) (fun (_ : Unit) (t : State) => zPost dC dI (va_A (rW Q σ) sz) (rW Q R.2) (rT Q) t) (va_A (rW Q σ) sz)) 0 0 (va_A (rW Q σ) sz) := by
  refine Met.ofW (cc := cX12_emit) (maxL := 4) (ret := (some .int)) (by decide) rfl ?_
  intro p e s m args below meth c s₁ B hml hv
  obtain ⟨rfl, hsz, hZ, hP, hK, hD0⟩ := hv
  have hx := B.exec
  have hb := B.bytes
  have hr := B.returns
  have hts := atoms_spec (ws := wzX12_emit) B.pre
  have hown : s.vm.findClass RX12 = some m.cls := findClass_of_methodNamed B.named
  have hlocks := B.notSynchronized
  subst hsz
  have hD := hD0.self (sz := s.heap.size)
  generalize hAe : va_A (rW Q σ) s.heap.size = A at hD ⊢
  have hA : ∀ q : Nat, s.heap.size ≤ q → A q := fun q h => by rw [← hAe]; exact Or.inr h
  have hS : va_S A s.heap s.heap [] := va_S.rf
  have hl := lv_entry ([.ref Q.h0, .int x1, .int x2]) (n := 4) (Nat.le_of_ble_eq_true rfl)
  rw [lg_entry_eq]
  generalize (lg_sl ([.ref Q.h0, .int x1, .int x2]) ++ List.replicate (4 - (lg_sl ([.ref Q.h0, .int x1, .int x2])).length) Slot.unset).toArray = ls at hl ⊢
  have hl : lv_has ls 4 [(0, .ref Q.h0), (1, .int x1), (2, .int x2)] := hl
  unfold f_X12_emit at hf
  refine lv_aload_n hx hb dX12_emit_0 rfl (lv_at hl 0 rfl) ?_
  refine rG_20 (v := (σ.i 20)) hx hb hts i_X12_emit_X12 hown hK hP (hts (.fieldLink RX12 358 "StatementRules2Model" "codes" "I") k_X12_emit_fieldLink_RX12_358_SRModel_codes_I) dX12_emit_1 rfl ?_
  refine lv_sipush (v := 3000) hx hb dX12_emit_4 (by decide) ?_
  refine lv_icmp_ge (tgt := 17) hx hb dX12_emit_7 (by decide) (fun c1 => ?_) (fun c1 => ?_)
  ·
    replace hf := (if_pos c1).symm.trans hf
    refine lv_sipush (v := 2999) hx hb dX12_emit_17 (by decide) ?_
    refine lv_istore_n (lv' := [(3, .int 2999), (0, .ref Q.h0), (1, .int x1), (2, .int x2)]) hx hb dX12_emit_20 rfl hl (by decide) rfl (fun ls hl => ?_)
    exact j_X12_emit_21 l dC dI Q N R hx hb hr hml hown hts hlocks hZ hA hK σ x1 x2 2999 _ _ _ hf hP hD hS (lv_sub hl [1, 2, 3, 0] rfl)
  ·
    replace hf := (if_neg c1).symm.trans hf
    refine lv_aload_n hx hb dX12_emit_10 rfl (lv_at hl 0 rfl) ?_
    refine rG_20 (v := (σ.i 20)) hx hb hts i_X12_emit_X12 hown hK hP (hts (.fieldLink RX12 358 "StatementRules2Model" "codes" "I") k_X12_emit_fieldLink_RX12_358_SRModel_codes_I) dX12_emit_11 rfl ?_
    refine lv_goto (tgt := 20) hx hb dX12_emit_14 (by decide) ?_
    refine lv_istore_n (lv' := [(3, .int (σ.i 20)), (0, .ref Q.h0), (1, .int x1), (2, .int x2)]) hx hb dX12_emit_20 rfl hl (by decide) rfl (fun ls hl => ?_)
    exact j_X12_emit_21 l dC dI Q N R hx hb hr hml hown hts hlocks hZ hA hK σ x1 x2 (σ.i 20) _ _ _ hf hP hD hS (lv_sub hl [1, 2, 3, 0] rfl)
theorem k_X12_seenAs_fieldLink_RX12_361_SRModel_seen_I : Cond.fieldLink RX12 361 "StatementRules2Model" "seen" "I" ∈ wzX12_seenAs := List.mem_cons_of_mem _ (List.mem_append_left _ (List.mem_of_getElem? (i := 0) rfl))
theorem i_X12_seenAs_X12 : ∀ w ∈ wsX120, w ∈ wzX12_seenAs := fun _ h => List.mem_cons_of_mem _ (List.mem_append_right _ (List.mem_append_left _ (h)))
theorem k_X12_seenAs_fieldLink_RX12_126_SRModel_seenName_J : Cond.fieldLink RX12 126 "StatementRules2Model" "seenName" "[J" ∈ wzX12_seenAs := List.mem_cons_of_mem _ (List.mem_append_left _ (List.mem_of_getElem? (i := 1) rfl))
set_option maxHeartbeats 4000000 in
set_option maxRecDepth 100000 in
theorem j_X12_seenAs_7 {p : Program} {e : Env} {s : State} {m : MethodId} {args : Array Value} {below : List Frame} {meth : Method} {c : Code} {A : Nat → Prop} (l : Launch) (dC : Nat → ClassId) (dI : Nat → Nat → Nat) (Q : RQ) (N : Nat) (R : Int32 × RS) (hx : p.tables.exec = Jvm.exec) (hb : c.code = cX12_seenAs) (hr : meth.sig.returnType = (some .int)) (hml : c.maxLocals = 4) (hown : s.vm.findClass RX12 = some m.cls) (hts : ∀ w ∈ wzX12_seenAs, w.before args s = true) (hlocks : meth.locks = false) (hZ : zAMB s) (hA : ∀ q : Nat, s.heap.size ≤ q → A q) (hK : va_K (dC, dI) vwCl (rT Q) s) : ∀ (n9 : Nat), ∀ (σ : RS) (x1 : Int64) (x3 : Int32) (H : Heap) (locs : List Loc) (ls : Array Slot), f_X12_seenAs_7 N n9 σ x1 x3 = some R → va_P (dC, dI) vwCl (rW Q σ) H → va_D A (rW Q σ) → va_S A s.heap H locs → lv_has ls 4 [(0, .ref Q.h0), (1, .long x1), (3, .int x3)] → W p l e ({ frames := 1, cells := 0, slots := 0, locals := 60 }) s m args below meth c H locs 0 0 (MQ below (va_Qi (fun (r : Int32) (_ : Unit) => r = R.1) (fun (_ : Unit) (t : State) => zPost dC dI A (rW Q R.2) (rT Q) t) A) args s 0 0 A) (F0 m 7 ls []) := by
  intro n9
  induction n9 with
  | zero => intro σ x1 x3 H locs ls hf; exact absurd hf (by intro h9; cases h9)
  | succ n9 ih =>
    intro σ x1 x3 H locs ls hf hP hD hS hl
    replace hf : b_X12_seenAs_7 N (f_X12_seenAs_7 N n9) σ x1 x3 = some R := hf
    unfold b_X12_seenAs_7 at hf
    refine lv_iload_n hx hb dX12_seenAs_7 rfl (lv_at hl 2 rfl) ?_
    refine lv_if_lt (tgt := 30) hx hb dX12_seenAs_8 (by decide) (fun c1 => ?_) (fun c1 => ?_)
    ·
      replace hf := (if_pos c1).symm.trans hf
      refine lv_iconst (v := (-1)) hx hb dX12_seenAs_30 (by decide) ?_
      obtain rfl := Option.some.inj hf
      exact W.iret (v := (-1)) hx hb hr (fun t ht hW => ⟨⟨(-1), (), rfl, rfl, by rw [ht]; exact hP, va_K.moved hW.alike hK, hD⟩, hS.F ht⟩) hS.2.2 dX12_seenAs_31
    ·
      replace hf := (if_neg c1).symm.trans hf
      refine lv_aload_n hx hb dX12_seenAs_11 rfl (lv_at hl 0 rfl) ?_
      refine rG_39 hx hb hts i_X12_seenAs_X12 hown hK hP (hts (.fieldLink RX12 126 "StatementRules2Model" "seenName" "[J") k_X12_seenAs_fieldLink_RX12_126_SRModel_seenName_J) dX12_seenAs_12 ?_
      refine lv_iload_n hx hb dX12_seenAs_15 rfl (lv_at hl 2 rfl) ?_
      obtain ⟨b2, hf⟩ := hf_ite hf
      refine rL_39 (v := (σ.b 39 ((x3 : Int32).toNatClampNeg))) hx hb hK hP b2 dX12_seenAs_16 rfl ?_
      refine lv_lload_n hx hb dX12_seenAs_17 rfl (lv_at hl 1 rfl) ?_
      refine W.lcmp hx hb dX12_seenAs_18 ?_
      refine lv_if_ne (tgt := 24) hx hb dX12_seenAs_19 (by decide) (fun c3 => ?_) (fun c3 => ?_)
      ·
        replace hf := (if_neg c3).symm.trans hf
        refine lv_iinc (v := (x3 + (-1))) (lv' := [(3, .int (x3 + (-1))), (0, .ref Q.h0), (1, .long x1)]) hx hb dX12_seenAs_24 hl (k := 2) rfl rfl (by decide) rfl (fun ls hl => ?_)
        refine lv_goto (tgt := 7) hx hb dX12_seenAs_27 (by decide) ?_
        exact ih σ x1 (x3 + (-1)) _ _ _ hf hP hD hS (lv_sub hl [1, 2, 0] rfl)
      ·
        replace hf := (if_pos c3).symm.trans hf
        refine lv_iload_n hx hb dX12_seenAs_22 rfl (lv_at hl 2 rfl) ?_
        obtain rfl := Option.some.inj hf
        exact W.iret (v := x3) hx hb hr (fun t ht hW => ⟨⟨x3, (), rfl, rfl, by rw [ht]; exact hP, va_K.moved hW.alike hK, hD⟩, hS.F ht⟩) hS.2.2 dX12_seenAs_23
set_option maxHeartbeats 4000000 in
set_option maxRecDepth 100000 in
theorem c_X12_seenAs (l : Launch) (dC : Nat → ClassId) (dI : Nat → Nat → Nat) (sz : Nat) (Q : RQ) (N : Nat) (σ : RS) (x1 : Int64) (R : Int32 × RS) (hf : f_X12_seenAs N σ x1 = some R) : Met l yX12_seenAs wzX12_seenAs ({ frames := 1, cells := 0, slots := 0, locals := 60 }) (va_Pc [.ref Q.h0, .long x1] (zPre dC dI sz (rW Q σ) (rT Q))) (va_Qi (fun (r : Int32) (_ : Unit) => r = R.1) (fun (_ : Unit) (t : State) => zPost dC dI (va_A (rW Q σ) sz) (rW Q R.2) (rT Q) t) (va_A (rW Q σ) sz)) 0 0 (va_A (rW Q σ) sz) := by
  refine Met.ofW (cc := cX12_seenAs) (maxL := 4) (ret := (some .int)) (by decide) rfl ?_
  intro p e s m args below meth c s₁ B hml hv
  obtain ⟨rfl, hsz, hZ, hP, hK, hD0⟩ := hv
  have hx := B.exec
  have hb := B.bytes
  have hr := B.returns
  have hts := atoms_spec (ws := wzX12_seenAs) B.pre
  have hown : s.vm.findClass RX12 = some m.cls := findClass_of_methodNamed B.named
  have hlocks := B.notSynchronized
  subst hsz
  have hD := hD0.self (sz := s.heap.size)
  generalize hAe : va_A (rW Q σ) s.heap.size = A at hD ⊢
  have hA : ∀ q : Nat, s.heap.size ≤ q → A q := fun q h => by rw [← hAe]; exact Or.inr h
  have hS : va_S A s.heap s.heap [] := va_S.rf
  have hl := lv_entry ([.ref Q.h0, .long x1]) (n := 4) (Nat.le_of_ble_eq_true rfl)
  rw [lg_entry_eq]
  generalize (lg_sl ([.ref Q.h0, .long x1]) ++ List.replicate (4 - (lg_sl ([.ref Q.h0, .long x1])).length) Slot.unset).toArray = ls at hl ⊢
  have hl : lv_has ls 4 [(0, .ref Q.h0), (1, .long x1)] := hl
  unfold f_X12_seenAs at hf
  refine lv_aload_n hx hb dX12_seenAs_0 rfl (lv_at hl 0 rfl) ?_
  refine rG_38 (v := (σ.i 38)) hx hb hts i_X12_seenAs_X12 hown hK hP (hts (.fieldLink RX12 361 "StatementRules2Model" "seen" "I") k_X12_seenAs_fieldLink_RX12_361_SRModel_seen_I) dX12_seenAs_1 rfl ?_
  refine lv_iconst (v := 1) hx hb dX12_seenAs_4 (by decide) ?_
  refine lv_isub hx hb dX12_seenAs_5 ?_
  refine lv_istore_n (lv' := [(3, .int ((σ.i 38) - 1)), (0, .ref Q.h0), (1, .long x1)]) hx hb dX12_seenAs_6 rfl hl (by decide) rfl (fun ls hl => ?_)
  exact j_X12_seenAs_7 l dC dI Q N R hx hb hr hml hown hts hlocks hZ hA hK N σ x1 ((σ.i 38) - 1) _ _ _ hf hP hD hS (lv_sub hl [1, 2, 0] rfl)
theorem k_X12_see_fieldLink_RX12_126_SRModel_seenName_J : Cond.fieldLink RX12 126 "StatementRules2Model" "seenName" "[J" ∈ wzX12_see := List.mem_cons_of_mem _ (List.mem_append_left _ (List.mem_of_getElem? (i := 0) rfl))
theorem i_X12_see_X12 : ∀ w ∈ wsX120, w ∈ wzX12_see := fun _ h => List.mem_cons_of_mem _ (List.mem_append_right _ (List.mem_append_left _ (h)))
theorem k_X12_see_fieldLink_RX12_361_SRModel_seen_I : Cond.fieldLink RX12 361 "StatementRules2Model" "seen" "I" ∈ wzX12_see := List.mem_cons_of_mem _ (List.mem_append_left _ (List.mem_of_getElem? (i := 1) rfl))
theorem k_X12_see_fieldLink_RX12_129_SRModel_seenSlot_I : Cond.fieldLink RX12 129 "StatementRules2Model" "seenSlot" "[I" ∈ wzX12_see := List.mem_cons_of_mem _ (List.mem_append_left _ (List.mem_of_getElem? (i := 2) rfl))
theorem k_X12_see_fieldLink_RX12_364_SRModel_slots_I : Cond.fieldLink RX12 364 "StatementRules2Model" "slots" "I" ∈ wzX12_see := List.mem_cons_of_mem _ (List.mem_append_left _ (List.mem_of_getElem? (i := 3) rfl))
theorem k_X12_see_fieldLink_RX12_132_SRModel_seenCaught_Z : Cond.fieldLink RX12 132 "StatementRules2Model" "seenCaught" "[Z" ∈ wzX12_see := List.mem_cons_of_mem _ (List.mem_append_left _ (List.mem_of_getElem? (i := 4) rfl))
set_option maxHeartbeats 4000000 in
set_option maxRecDepth 100000 in
theorem c_X12_see (l : Launch) (dC : Nat → ClassId) (dI : Nat → Nat → Nat) (sz : Nat) (Q : RQ) (N : Nat) (σ : RS) (x1 : Int64) (x3 : Int32) (R : Int32 × RS) (hf : f_X12_see N σ x1 x3 = some R) : Met l yX12_see wzX12_see ({ frames := 1, cells := 0, slots := 0, locals := 60 }) (va_Pc [.ref Q.h0, .long x1, .int x3] (zPre dC dI sz (rW Q σ) (rT Q))) (va_Qi (fun (r : Int32) (_ : Unit) => r = R.1) (fun (_ : Unit) (t : State) => zPost dC dI (va_A (rW Q σ) sz) (rW Q R.2) (rT Q) t) (va_A (rW Q σ) sz)) 0 0 (va_A (rW Q σ) sz) := by
  refine Met.ofW (cc := cX12_see) (maxL := 4) (ret := (some .int)) (by decide) rfl ?_
  intro p e s m args below meth c s₁ B hml hv
  obtain ⟨rfl, hsz, hZ, hP, hK, hD0⟩ := hv
  have hx := B.exec
  have hb := B.bytes
  have hr := B.returns
  have hts := atoms_spec (ws := wzX12_see) B.pre
  have hown : s.vm.findClass RX12 = some m.cls := findClass_of_methodNamed B.named
  have hlocks := B.notSynchronized
  subst hsz
  have hD := hD0.self (sz := s.heap.size)
  generalize hAe : va_A (rW Q σ) s.heap.size = A at hD ⊢
  have hA : ∀ q : Nat, s.heap.size ≤ q → A q := fun q h => by rw [← hAe]; exact Or.inr h
  have hS : va_S A s.heap s.heap [] := va_S.rf
  have hl := lv_entry ([.ref Q.h0, .long x1, .int x3]) (n := 4) (Nat.le_of_ble_eq_true rfl)
  rw [lg_entry_eq]
  generalize (lg_sl ([.ref Q.h0, .long x1, .int x3]) ++ List.replicate (4 - (lg_sl ([.ref Q.h0, .long x1, .int x3])).length) Slot.unset).toArray = ls at hl ⊢
  have hl : lv_has ls 4 [(0, .ref Q.h0), (1, .long x1), (3, .int x3)] := hl
  unfold f_X12_see at hf
  refine lv_aload_n hx hb dX12_see_0 rfl (lv_at hl 0 rfl) ?_
  refine rG_39 hx hb hts i_X12_see_X12 hown hK hP (hts (.fieldLink RX12 126 "StatementRules2Model" "seenName" "[J") k_X12_see_fieldLink_RX12_126_SRModel_seenName_J) dX12_see_1 ?_
  refine lv_aload_n hx hb dX12_see_4 rfl (lv_at hl 0 rfl) ?_
  refine rG_38 (v := (σ.i 38)) hx hb hts i_X12_see_X12 hown hK hP (hts (.fieldLink RX12 361 "StatementRules2Model" "seen" "I") k_X12_see_fieldLink_RX12_361_SRModel_seen_I) dX12_see_5 rfl ?_
  refine lv_lload_n hx hb dX12_see_8 rfl (lv_at hl 1 rfl) ?_
  obtain ⟨b1, hf⟩ := hf_ite hf
  refine rS_39 hx hb hK hP hD hS b1 dX12_see_9 (fun H locs hP hD hS => ?_)
  refine lv_aload_n hx hb dX12_see_10 rfl (lv_at hl 0 rfl) ?_
  refine rG_40 hx hb hts i_X12_see_X12 hown hK hP (hts (.fieldLink RX12 129 "StatementRules2Model" "seenSlot" "[I") k_X12_see_fieldLink_RX12_129_SRModel_seenSlot_I) dX12_see_11 ?_
  refine lv_aload_n hx hb dX12_see_14 rfl (lv_at hl 0 rfl) ?_
  refine rG_38 (v := (σ.i 38)) hx hb hts i_X12_see_X12 hown hK hP (hts (.fieldLink RX12 361 "StatementRules2Model" "seen" "I") k_X12_see_fieldLink_RX12_361_SRModel_seen_I) dX12_see_15 rfl ?_
  refine lv_aload_n hx hb dX12_see_18 rfl (lv_at hl 0 rfl) ?_
  refine rG_42 (v := (σ.i 42)) hx hb hts i_X12_see_X12 hown hK hP (hts (.fieldLink RX12 364 "StatementRules2Model" "slots" "I") k_X12_see_fieldLink_RX12_364_SRModel_slots_I) dX12_see_19 rfl ?_
  refine rS_40 hx hb hK hP hD hS b1 dX12_see_22 (fun H locs hP hD hS => ?_)
  refine lv_aload_n hx hb dX12_see_23 rfl (lv_at hl 0 rfl) ?_
  refine rG_41 hx hb hts i_X12_see_X12 hown hK hP (hts (.fieldLink RX12 132 "StatementRules2Model" "seenCaught" "[Z") k_X12_see_fieldLink_RX12_132_SRModel_seenCaught_Z) dX12_see_24 ?_
  refine lv_aload_n hx hb dX12_see_27 rfl (lv_at hl 0 rfl) ?_
  refine rG_38 (v := (σ.i 38)) hx hb hts i_X12_see_X12 hown hK hP (hts (.fieldLink RX12 361 "StatementRules2Model" "seen" "I") k_X12_see_fieldLink_RX12_361_SRModel_seen_I) dX12_see_28 rfl ?_
  refine lv_iload_n hx hb dX12_see_31 rfl (lv_at hl 2 rfl) ?_
  refine rS_41 (v := (vp_nar .boolean x3)) hx hb hK hP hD hS b1 dX12_see_32 rfl (fun H locs hP hD hS => ?_)
  refine lv_aload_n hx hb dX12_see_33 rfl (lv_at hl 0 rfl) ?_
  refine lv_dup hx hb dX12_see_34 rfl ?_
  refine rG_38 (v := (σ.i 38)) hx hb hts i_X12_see_X12 hown hK hP (hts (.fieldLink RX12 361 "StatementRules2Model" "seen" "I") k_X12_see_fieldLink_RX12_361_SRModel_seen_I) dX12_see_35 rfl ?_
  refine lv_iconst (v := 1) hx hb dX12_see_38 (by decide) ?_
  refine lv_iadd hx hb dX12_see_39 ?_
  refine rP_38 hx hb hts i_X12_see_X12 hown hK hP hD hS (hts (.fieldLink RX12 361 "StatementRules2Model" "seen" "I") k_X12_see_fieldLink_RX12_361_SRModel_seen_I) dX12_see_40 (fun H locs hP hD hS => ?_)
  refine lv_aload_n hx hb dX12_see_43 rfl (lv_at hl 0 rfl) ?_
  refine lv_dup hx hb dX12_see_44 rfl ?_
  refine rG_42 (v := (σ.i 42)) hx hb hts i_X12_see_X12 hown hK hP (hts (.fieldLink RX12 364 "StatementRules2Model" "slots" "I") k_X12_see_fieldLink_RX12_364_SRModel_slots_I) dX12_see_45 rfl ?_
  refine lv_iconst (v := 1) hx hb dX12_see_48 (by decide) ?_
  refine lv_iadd hx hb dX12_see_49 ?_
  refine rP_42 hx hb hts i_X12_see_X12 hown hK hP hD hS (hts (.fieldLink RX12 364 "StatementRules2Model" "slots" "I") k_X12_see_fieldLink_RX12_364_SRModel_slots_I) dX12_see_50 (fun H locs hP hD hS => ?_)
  refine lv_aload_n hx hb dX12_see_53 rfl (lv_at hl 0 rfl) ?_
  refine rG_42 (v := ((σ.i 42) + 1)) hx hb hts i_X12_see_X12 hown hK hP (hts (.fieldLink RX12 364 "StatementRules2Model" "slots" "I") k_X12_see_fieldLink_RX12_364_SRModel_slots_I) dX12_see_54 rfl ?_
  refine lv_iconst (v := 1) hx hb dX12_see_57 (by decide) ?_
  refine lv_isub hx hb dX12_see_58 ?_
  obtain rfl := Option.some.inj hf
  exact W.iret (v := (((σ.i 42) + 1) - 1)) hx hb hr (fun t ht hW => ⟨⟨(((σ.i 42) + 1) - 1), (), rfl, rfl, by rw [ht]; exact hP, va_K.moved hW.alike hK, hD⟩, hS.F ht⟩) hS.2.2 dX12_see_59
theorem k_X12_goal_fieldLink_RX12_135_SRModel_goalSort_I : Cond.fieldLink RX12 135 "StatementRules2Model" "goalSort" "[I" ∈ wzX12_goal := List.mem_cons_of_mem _ (List.mem_append_left _ (List.mem_of_getElem? (i := 0) rfl))
theorem i_X12_goal_X12 : ∀ w ∈ wsX120, w ∈ wzX12_goal := fun _ h => List.mem_cons_of_mem _ (List.mem_append_right _ (List.mem_append_left _ (h)))
theorem k_X12_goal_fieldLink_RX12_367_SRModel_goals_I : Cond.fieldLink RX12 367 "StatementRules2Model" "goals" "I" ∈ wzX12_goal := List.mem_cons_of_mem _ (List.mem_append_left _ (List.mem_of_getElem? (i := 1) rfl))
theorem k_X12_goal_fieldLink_RX12_138_SRModel_goalName_J : Cond.fieldLink RX12 138 "StatementRules2Model" "goalName" "[J" ∈ wzX12_goal := List.mem_cons_of_mem _ (List.mem_append_left _ (List.mem_of_getElem? (i := 2) rfl))
theorem k_X12_goal_fieldLink_RX12_141_SRModel_goalLoop_I : Cond.fieldLink RX12 141 "StatementRules2Model" "goalLoop" "[I" ∈ wzX12_goal := List.mem_cons_of_mem _ (List.mem_append_left _ (List.mem_of_getElem? (i := 3) rfl))
theorem k_X12_goal_fieldLink_RX12_144_SRModel_goalDepth_I : Cond.fieldLink RX12 144 "StatementRules2Model" "goalDepth" "[I" ∈ wzX12_goal := List.mem_cons_of_mem _ (List.mem_append_left _ (List.mem_of_getElem? (i := 4) rfl))
theorem k_X12_goal_fieldLink_RX12_370_SRModel_depth_I : Cond.fieldLink RX12 370 "StatementRules2Model" "depth" "I" ∈ wzX12_goal := List.mem_cons_of_mem _ (List.mem_append_left _ (List.mem_of_getElem? (i := 5) rfl))
theorem k_X12_goal_fieldLink_RX12_147_SRModel_breaks_I : Cond.fieldLink RX12 147 "StatementRules2Model" "breaks" "[I" ∈ wzX12_goal := List.mem_cons_of_mem _ (List.mem_append_left _ (List.mem_of_getElem? (i := 6) rfl))
theorem k_X12_goal_fieldLink_RX12_150_SRModel_continues_I : Cond.fieldLink RX12 150 "StatementRules2Model" "continues" "[I" ∈ wzX12_goal := List.mem_cons_of_mem _ (List.mem_append_left _ (List.mem_of_getElem? (i := 7) rfl))
theorem k_X12_goal_fieldLink_RX12_153_SRModel_broken_Z : Cond.fieldLink RX12 153 "StatementRules2Model" "broken" "[Z" ∈ wzX12_goal := List.mem_cons_of_mem _ (List.mem_append_left _ (List.mem_of_getElem? (i := 8) rfl))
theorem k_X12_goal_fieldLink_RX12_156_SRModel_continued_Z : Cond.fieldLink RX12 156 "StatementRules2Model" "continued" "[Z" ∈ wzX12_goal := List.mem_cons_of_mem _ (List.mem_append_left _ (List.mem_of_getElem? (i := 9) rfl))
set_option maxHeartbeats 4000000 in
set_option maxRecDepth 100000 in
theorem c_X12_goal (l : Launch) (dC : Nat → ClassId) (dI : Nat → Nat → Nat) (sz : Nat) (Q : RQ) (N : Nat) (σ : RS) (x1 : Int32) (x2 : Int64) (R : Int32 × RS) (hf : f_X12_goal N σ x1 x2 = some R) : Met l yX12_goal wzX12_goal ({ frames := 1, cells := 0, slots := 0, locals := 60 }) (va_Pc [.ref Q.h0, .int x1, .long x2] (zPre dC dI sz (rW Q σ) (rT Q))) (va_Qi (fun (r : Int32) (_ : Unit) => r = R.1) (fun (_ : Unit) (t : State) => zPost dC dI (va_A (rW Q σ) sz) (rW Q R.2) (rT Q) t) (va_A (rW Q σ) sz)) 0 0 (va_A (rW Q σ) sz) := by
  refine Met.ofW (cc := cX12_goal) (maxL := 4) (ret := (some .int)) (by decide) rfl ?_
  intro p e s m args below meth c s₁ B hml hv
  obtain ⟨rfl, hsz, hZ, hP, hK, hD0⟩ := hv
  have hx := B.exec
  have hb := B.bytes
  have hr := B.returns
  have hts := atoms_spec (ws := wzX12_goal) B.pre
  have hown : s.vm.findClass RX12 = some m.cls := findClass_of_methodNamed B.named
  have hlocks := B.notSynchronized
  subst hsz
  have hD := hD0.self (sz := s.heap.size)
  generalize hAe : va_A (rW Q σ) s.heap.size = A at hD ⊢
  have hA : ∀ q : Nat, s.heap.size ≤ q → A q := fun q h => by rw [← hAe]; exact Or.inr h
  have hS : va_S A s.heap s.heap [] := va_S.rf
  have hl := lv_entry ([.ref Q.h0, .int x1, .long x2]) (n := 4) (Nat.le_of_ble_eq_true rfl)
  rw [lg_entry_eq]
  generalize (lg_sl ([.ref Q.h0, .int x1, .long x2]) ++ List.replicate (4 - (lg_sl ([.ref Q.h0, .int x1, .long x2])).length) Slot.unset).toArray = ls at hl ⊢
  have hl : lv_has ls 4 [(0, .ref Q.h0), (1, .int x1), (2, .long x2)] := hl
  unfold f_X12_goal at hf
  refine lv_aload_n hx hb dX12_goal_0 rfl (lv_at hl 0 rfl) ?_
  refine rG_44 hx hb hts i_X12_goal_X12 hown hK hP (hts (.fieldLink RX12 135 "StatementRules2Model" "goalSort" "[I") k_X12_goal_fieldLink_RX12_135_SRModel_goalSort_I) dX12_goal_1 ?_
  refine lv_aload_n hx hb dX12_goal_4 rfl (lv_at hl 0 rfl) ?_
  refine rG_43 (v := (σ.i 43)) hx hb hts i_X12_goal_X12 hown hK hP (hts (.fieldLink RX12 367 "StatementRules2Model" "goals" "I") k_X12_goal_fieldLink_RX12_367_SRModel_goals_I) dX12_goal_5 rfl ?_
  refine lv_iload_n hx hb dX12_goal_8 rfl (lv_at hl 1 rfl) ?_
  obtain ⟨b1, hf⟩ := hf_ite hf
  refine rS_44 hx hb hK hP hD hS b1 dX12_goal_9 (fun H locs hP hD hS => ?_)
  refine lv_aload_n hx hb dX12_goal_10 rfl (lv_at hl 0 rfl) ?_
  refine rG_45 hx hb hts i_X12_goal_X12 hown hK hP (hts (.fieldLink RX12 138 "StatementRules2Model" "goalName" "[J") k_X12_goal_fieldLink_RX12_138_SRModel_goalName_J) dX12_goal_11 ?_
  refine lv_aload_n hx hb dX12_goal_14 rfl (lv_at hl 0 rfl) ?_
  refine rG_43 (v := (σ.i 43)) hx hb hts i_X12_goal_X12 hown hK hP (hts (.fieldLink RX12 367 "StatementRules2Model" "goals" "I") k_X12_goal_fieldLink_RX12_367_SRModel_goals_I) dX12_goal_15 rfl ?_
  refine lv_lload_n hx hb dX12_goal_18 rfl (lv_at hl 2 rfl) ?_
  refine rS_45 hx hb hK hP hD hS b1 dX12_goal_19 (fun H locs hP hD hS => ?_)
  refine lv_aload_n hx hb dX12_goal_20 rfl (lv_at hl 0 rfl) ?_
  refine rG_46 hx hb hts i_X12_goal_X12 hown hK hP (hts (.fieldLink RX12 141 "StatementRules2Model" "goalLoop" "[I") k_X12_goal_fieldLink_RX12_141_SRModel_goalLoop_I) dX12_goal_21 ?_
  refine lv_aload_n hx hb dX12_goal_24 rfl (lv_at hl 0 rfl) ?_
  refine rG_43 (v := (σ.i 43)) hx hb hts i_X12_goal_X12 hown hK hP (hts (.fieldLink RX12 367 "StatementRules2Model" "goals" "I") k_X12_goal_fieldLink_RX12_367_SRModel_goals_I) dX12_goal_25 rfl ?_
  refine lv_iconst (v := (-1)) hx hb dX12_goal_28 (by decide) ?_
  refine rS_46 hx hb hK hP hD hS b1 dX12_goal_29 (fun H locs hP hD hS => ?_)
  refine lv_aload_n hx hb dX12_goal_30 rfl (lv_at hl 0 rfl) ?_
  refine rG_47 hx hb hts i_X12_goal_X12 hown hK hP (hts (.fieldLink RX12 144 "StatementRules2Model" "goalDepth" "[I") k_X12_goal_fieldLink_RX12_144_SRModel_goalDepth_I) dX12_goal_31 ?_
  refine lv_aload_n hx hb dX12_goal_34 rfl (lv_at hl 0 rfl) ?_
  refine rG_43 (v := (σ.i 43)) hx hb hts i_X12_goal_X12 hown hK hP (hts (.fieldLink RX12 367 "StatementRules2Model" "goals" "I") k_X12_goal_fieldLink_RX12_367_SRModel_goals_I) dX12_goal_35 rfl ?_
  refine lv_aload_n hx hb dX12_goal_38 rfl (lv_at hl 0 rfl) ?_
  refine rG_52 (v := (σ.i 52)) hx hb hts i_X12_goal_X12 hown hK hP (hts (.fieldLink RX12 370 "StatementRules2Model" "depth" "I") k_X12_goal_fieldLink_RX12_370_SRModel_depth_I) dX12_goal_39 rfl ?_
  refine rS_47 hx hb hK hP hD hS b1 dX12_goal_42 (fun H locs hP hD hS => ?_)
  refine lv_aload_n hx hb dX12_goal_43 rfl (lv_at hl 0 rfl) ?_
  refine rG_48 hx hb hts i_X12_goal_X12 hown hK hP (hts (.fieldLink RX12 147 "StatementRules2Model" "breaks" "[I") k_X12_goal_fieldLink_RX12_147_SRModel_breaks_I) dX12_goal_44 ?_
  refine lv_aload_n hx hb dX12_goal_47 rfl (lv_at hl 0 rfl) ?_
  refine rG_43 (v := (σ.i 43)) hx hb hts i_X12_goal_X12 hown hK hP (hts (.fieldLink RX12 367 "StatementRules2Model" "goals" "I") k_X12_goal_fieldLink_RX12_367_SRModel_goals_I) dX12_goal_48 rfl ?_
  refine lv_iconst (v := (-1)) hx hb dX12_goal_51 (by decide) ?_
  refine rS_48 hx hb hK hP hD hS b1 dX12_goal_52 (fun H locs hP hD hS => ?_)
  refine lv_aload_n hx hb dX12_goal_53 rfl (lv_at hl 0 rfl) ?_
  refine rG_49 hx hb hts i_X12_goal_X12 hown hK hP (hts (.fieldLink RX12 150 "StatementRules2Model" "continues" "[I") k_X12_goal_fieldLink_RX12_150_SRModel_continues_I) dX12_goal_54 ?_
  refine lv_aload_n hx hb dX12_goal_57 rfl (lv_at hl 0 rfl) ?_
  refine rG_43 (v := (σ.i 43)) hx hb hts i_X12_goal_X12 hown hK hP (hts (.fieldLink RX12 367 "StatementRules2Model" "goals" "I") k_X12_goal_fieldLink_RX12_367_SRModel_goals_I) dX12_goal_58 rfl ?_
  refine lv_iconst (v := (-1)) hx hb dX12_goal_61 (by decide) ?_
  refine rS_49 hx hb hK hP hD hS b1 dX12_goal_62 (fun H locs hP hD hS => ?_)
  refine lv_aload_n hx hb dX12_goal_63 rfl (lv_at hl 0 rfl) ?_
  refine rG_50 hx hb hts i_X12_goal_X12 hown hK hP (hts (.fieldLink RX12 153 "StatementRules2Model" "broken" "[Z") k_X12_goal_fieldLink_RX12_153_SRModel_broken_Z) dX12_goal_64 ?_
  refine lv_aload_n hx hb dX12_goal_67 rfl (lv_at hl 0 rfl) ?_
  refine rG_43 (v := (σ.i 43)) hx hb hts i_X12_goal_X12 hown hK hP (hts (.fieldLink RX12 367 "StatementRules2Model" "goals" "I") k_X12_goal_fieldLink_RX12_367_SRModel_goals_I) dX12_goal_68 rfl ?_
  refine lv_iconst (v := 0) hx hb dX12_goal_71 (by decide) ?_
  refine rS_50 (v := 0) hx hb hK hP hD hS b1 dX12_goal_72 rfl (fun H locs hP hD hS => ?_)
  refine lv_aload_n hx hb dX12_goal_73 rfl (lv_at hl 0 rfl) ?_
  refine rG_51 hx hb hts i_X12_goal_X12 hown hK hP (hts (.fieldLink RX12 156 "StatementRules2Model" "continued" "[Z") k_X12_goal_fieldLink_RX12_156_SRModel_continued_Z) dX12_goal_74 ?_
  refine lv_aload_n hx hb dX12_goal_77 rfl (lv_at hl 0 rfl) ?_
  refine rG_43 (v := (σ.i 43)) hx hb hts i_X12_goal_X12 hown hK hP (hts (.fieldLink RX12 367 "StatementRules2Model" "goals" "I") k_X12_goal_fieldLink_RX12_367_SRModel_goals_I) dX12_goal_78 rfl ?_
  refine lv_iconst (v := 0) hx hb dX12_goal_81 (by decide) ?_
  refine rS_51 (v := 0) hx hb hK hP hD hS b1 dX12_goal_82 rfl (fun H locs hP hD hS => ?_)
  refine lv_aload_n hx hb dX12_goal_83 rfl (lv_at hl 0 rfl) ?_
  refine lv_dup hx hb dX12_goal_84 rfl ?_
  refine rG_43 (v := (σ.i 43)) hx hb hts i_X12_goal_X12 hown hK hP (hts (.fieldLink RX12 367 "StatementRules2Model" "goals" "I") k_X12_goal_fieldLink_RX12_367_SRModel_goals_I) dX12_goal_85 rfl ?_
  refine lv_iconst (v := 1) hx hb dX12_goal_88 (by decide) ?_
  refine lv_iadd hx hb dX12_goal_89 ?_
  refine rP_43 hx hb hts i_X12_goal_X12 hown hK hP hD hS (hts (.fieldLink RX12 367 "StatementRules2Model" "goals" "I") k_X12_goal_fieldLink_RX12_367_SRModel_goals_I) dX12_goal_90 (fun H locs hP hD hS => ?_)
  refine lv_aload_n hx hb dX12_goal_93 rfl (lv_at hl 0 rfl) ?_
  refine rG_43 (v := ((σ.i 43) + 1)) hx hb hts i_X12_goal_X12 hown hK hP (hts (.fieldLink RX12 367 "StatementRules2Model" "goals" "I") k_X12_goal_fieldLink_RX12_367_SRModel_goals_I) dX12_goal_94 rfl ?_
  refine lv_iconst (v := 1) hx hb dX12_goal_97 (by decide) ?_
  refine lv_isub hx hb dX12_goal_98 ?_
  obtain rfl := Option.some.inj hf
  exact W.iret (v := (((σ.i 43) + 1) - 1)) hx hb hr (fun t ht hW => ⟨⟨(((σ.i 43) + 1) - 1), (), rfl, rfl, by rw [ht]; exact hP, va_K.moved hW.alike hK, hD⟩, hS.F ht⟩) hS.2.2 dX12_goal_99
theorem k_X12_loopGoal_fieldLink_RX12_135_SRModel_goalSort_I : Cond.fieldLink RX12 135 "StatementRules2Model" "goalSort" "[I" ∈ wzX12_loopGoal := List.mem_cons_of_mem _ (List.mem_append_left _ (List.mem_of_getElem? (i := 0) rfl))
theorem i_X12_loopGoal_X12 : ∀ w ∈ wsX120, w ∈ wzX12_loopGoal := fun _ h => List.mem_cons_of_mem _ (List.mem_append_right _ (List.mem_append_left _ (h)))
theorem k_X12_loopGoal_fieldLink_RX12_141_SRModel_goalLoop_I : Cond.fieldLink RX12 141 "StatementRules2Model" "goalLoop" "[I" ∈ wzX12_loopGoal := List.mem_cons_of_mem _ (List.mem_append_left _ (List.mem_of_getElem? (i := 1) rfl))
set_option maxHeartbeats 4000000 in
set_option maxRecDepth 100000 in
theorem j_X12_loopGoal_49 {p : Program} {e : Env} {s : State} {m : MethodId} {args : Array Value} {below : List Frame} {meth : Method} {c : Code} {A : Nat → Prop} (l : Launch) (dC : Nat → ClassId) (dI : Nat → Nat → Nat) (Q : RQ) (N : Nat) (R : Int32 × RS) (hx : p.tables.exec = Jvm.exec) (hb : c.code = cX12_loopGoal) (hr : meth.sig.returnType = (some .int)) (hml : c.maxLocals = 3) (hown : s.vm.findClass RX12 = some m.cls) (hts : ∀ w ∈ wzX12_loopGoal, w.before args s = true) (hlocks : meth.locks = false) (hZ : zAMB s) (hA : ∀ q : Nat, s.heap.size ≤ q → A q) (hK : va_K (dC, dI) vwCl (rT Q) s) : ∀ (σ : RS) (x1 : Int32) (H : Heap) (locs : List Loc) (ls : Array Slot), f_X12_loopGoal_49 N σ x1 = some R → va_P (dC, dI) vwCl (rW Q σ) H → va_D A (rW Q σ) → va_S A s.heap H locs → lv_has ls 3 [(1, .int x1)] → W p l e ({ frames := 2, cells := 0, slots := 0, locals := 120 }) s m args below meth c H locs 0 0 (MQ below (va_Qi (fun (r : Int32) (_ : Unit) => r = R.1) (fun (_ : Unit) (t : State) => zPost dC dI A (rW Q R.2) (rT Q) t) A) args s 0 0 A) (F0 m 49 ls []) := by
  intro σ x1 H locs ls hf hP hD hS hl
  unfold f_X12_loopGoal_49 at hf
  refine lv_iload_n hx hb dX12_loopGoal_49 rfl (lv_at hl 0 rfl) ?_
  obtain rfl := Option.some.inj hf
  exact W.iret (v := x1) hx hb hr (fun t ht hW => ⟨⟨x1, (), rfl, rfl, by rw [ht]; exact hP, va_K.moved hW.alike hK, hD⟩, hS.F ht⟩) hS.2.2 dX12_loopGoal_50
set_option maxHeartbeats 4000000 in
set_option maxRecDepth 100000 in
theorem j_X12_loopGoal_11 {p : Program} {e : Env} {s : State} {m : MethodId} {args : Array Value} {below : List Frame} {meth : Method} {c : Code} {A : Nat → Prop} (l : Launch) (dC : Nat → ClassId) (dI : Nat → Nat → Nat) (Q : RQ) (N : Nat) (R : Int32 × RS) (hx : p.tables.exec = Jvm.exec) (hb : c.code = cX12_loopGoal) (hr : meth.sig.returnType = (some .int)) (hml : c.maxLocals = 3) (hown : s.vm.findClass RX12 = some m.cls) (hts : ∀ w ∈ wzX12_loopGoal, w.before args s = true) (hlocks : meth.locks = false) (hZ : zAMB s) (hA : ∀ q : Nat, s.heap.size ≤ q → A q) (hK : va_K (dC, dI) vwCl (rT Q) s) : ∀ (n9 : Nat), ∀ (σ : RS) (x1 : Int32) (x2 : Int32) (H : Heap) (locs : List Loc) (ls : Array Slot), f_X12_loopGoal_11 N n9 σ x1 x2 = some R → va_P (dC, dI) vwCl (rW Q σ) H → va_D A (rW Q σ) → va_S A s.heap H locs → lv_has ls 3 [(0, .ref Q.h0), (1, .int x1), (2, .int x2)] → W p l e ({ frames := 2, cells := 0, slots := 0, locals := 120 }) s m args below meth c H locs 0 0 (MQ below (va_Qi (fun (r : Int32) (_ : Unit) => r = R.1) (fun (_ : Unit) (t : State) => zPost dC dI A (rW Q R.2) (rT Q) t) A) args s 0 0 A) (F0 m 11 ls []) := by
  intro n9
  induction n9 with
  | zero => intro σ x1 x2 H locs ls hf; exact absurd hf (by intro h9; cases h9)
  | succ n9 ih =>
    intro σ x1 x2 H locs ls hf hP hD hS hl
    replace hf : b_X12_loopGoal_11 N (f_X12_loopGoal_11 N n9) σ x1 x2 = some R := hf
    unfold b_X12_loopGoal_11 at hf
    refine lv_iload_n hx hb dX12_loopGoal_11 rfl (lv_at hl 2 rfl) ?_
    refine lv_if_lt (tgt := 49) hx hb dX12_loopGoal_12 (by decide) (fun c3 => ?_) (fun c3 => ?_)
    ·
      replace hf := (if_pos c3).symm.trans hf
      exact j_X12_loopGoal_49 l dC dI Q N R hx hb hr hml hown hts hlocks hZ hA hK σ x1 _ _ _ hf hP hD hS (lv_sub hl [1] rfl)
    ·
      replace hf := (if_neg c3).symm.trans hf
      refine lv_aload_n hx hb dX12_loopGoal_15 rfl (lv_at hl 0 rfl) ?_
      refine rG_44 hx hb hts i_X12_loopGoal_X12 hown hK hP (hts (.fieldLink RX12 135 "StatementRules2Model" "goalSort" "[I") k_X12_loopGoal_fieldLink_RX12_135_SRModel_goalSort_I) dX12_loopGoal_16 ?_
      refine lv_iload_n hx hb dX12_loopGoal_19 rfl (lv_at hl 2 rfl) ?_
      obtain ⟨b4, hf⟩ := hf_ite hf
      refine rL_44 (v := (σ.a 44 ((x2 : Int32).toNatClampNeg))) hx hb hK hP b4 dX12_loopGoal_20 rfl ?_
      refine lv_iconst (v := 2) hx hb dX12_loopGoal_21 (by decide) ?_
      refine lv_icmp_ne (tgt := 49) hx hb dX12_loopGoal_22 (by decide) (fun c5 => ?_) (fun c5 => ?_)
      ·
        replace hf := (if_neg c5).symm.trans hf
        exact j_X12_loopGoal_49 l dC dI Q N R hx hb hr hml hown hts hlocks hZ hA hK σ x1 _ _ _ hf hP hD hS (lv_sub hl [1] rfl)
      ·
        replace hf := (if_pos c5).symm.trans hf
        refine lv_aload_n hx hb dX12_loopGoal_25 rfl (lv_at hl 0 rfl) ?_
        refine rG_46 hx hb hts i_X12_loopGoal_X12 hown hK hP (hts (.fieldLink RX12 141 "StatementRules2Model" "goalLoop" "[I") k_X12_loopGoal_fieldLink_RX12_141_SRModel_goalLoop_I) dX12_loopGoal_26 ?_
        refine lv_iload_n hx hb dX12_loopGoal_29 rfl (lv_at hl 2 rfl) ?_
        refine rL_46 (v := (σ.a 46 ((x2 : Int32).toNatClampNeg))) hx hb hK hP b4 dX12_loopGoal_30 rfl ?_
        refine lv_bipush (v := (-3)) hx hb dX12_loopGoal_31 (by decide) ?_
        refine lv_icmp_ne (tgt := 49) hx hb dX12_loopGoal_33 (by decide) (fun c6 => ?_) (fun c6 => ?_)
        ·
          replace hf := (if_neg c6).symm.trans hf
          exact j_X12_loopGoal_49 l dC dI Q N R hx hb hr hml hown hts hlocks hZ hA hK σ x1 _ _ _ hf hP hD hS (lv_sub hl [1] rfl)
        ·
          replace hf := (if_pos c6).symm.trans hf
          refine lv_aload_n hx hb dX12_loopGoal_36 rfl (lv_at hl 0 rfl) ?_
          refine rG_46 hx hb hts i_X12_loopGoal_X12 hown hK hP (hts (.fieldLink RX12 141 "StatementRules2Model" "goalLoop" "[I") k_X12_loopGoal_fieldLink_RX12_141_SRModel_goalLoop_I) dX12_loopGoal_37 ?_
          refine lv_iload_n hx hb dX12_loopGoal_40 rfl (lv_at hl 2 rfl) ?_
          refine lv_iload_n hx hb dX12_loopGoal_41 rfl (lv_at hl 1 rfl) ?_
          refine rS_46 hx hb hK hP hD hS b4 dX12_loopGoal_42 (fun H locs hP hD hS => ?_)
          refine lv_iinc (v := (x2 + (-1))) (lv' := [(2, .int (x2 + (-1))), (0, .ref Q.h0), (1, .int x1)]) hx hb dX12_loopGoal_43 hl (k := 2) rfl rfl (by decide) rfl (fun ls hl => ?_)
          refine lv_goto (tgt := 11) hx hb dX12_loopGoal_46 (by decide) ?_
          exact ih (RS.setA σ 46 ((x2 : Int32).toNatClampNeg) x1) x1 (x2 + (-1)) _ _ _ hf hP hD hS (lv_sub hl [1, 2, 0] rfl)
set_option maxHeartbeats 4000000 in
set_option maxRecDepth 100000 in
theorem c_X12_loopGoal (l : Launch) (dC : Nat → ClassId) (dI : Nat → Nat → Nat) (sz : Nat) (Q : RQ) (N : Nat) (σ : RS) (R : Int32 × RS) (hf : f_X12_loopGoal N σ = some R) : Met l yX12_loopGoal wzX12_loopGoal ({ frames := 2, cells := 0, slots := 0, locals := 120 }) (va_Pc [.ref Q.h0] (zPre dC dI sz (rW Q σ) (rT Q))) (va_Qi (fun (r : Int32) (_ : Unit) => r = R.1) (fun (_ : Unit) (t : State) => zPost dC dI (va_A (rW Q σ) sz) (rW Q R.2) (rT Q) t) (va_A (rW Q σ) sz)) 0 0 (va_A (rW Q σ) sz) := by
  refine Met.ofW (cc := cX12_loopGoal) (maxL := 3) (ret := (some .int)) (by decide) rfl ?_
  intro p e s m args below meth c s₁ B hml hv
  obtain ⟨rfl, hsz, hZ, hP, hK, hD0⟩ := hv
  have hx := B.exec
  have hb := B.bytes
  have hr := B.returns
  have hts := atoms_spec (ws := wzX12_loopGoal) B.pre
  have hown : s.vm.findClass RX12 = some m.cls := findClass_of_methodNamed B.named
  have hlocks := B.notSynchronized
  subst hsz
  have hD := hD0.self (sz := s.heap.size)
  generalize hAe : va_A (rW Q σ) s.heap.size = A at hD ⊢
  have hA : ∀ q : Nat, s.heap.size ≤ q → A q := fun q h => by rw [← hAe]; exact Or.inr h
  have hS : va_S A s.heap s.heap [] := va_S.rf
  have hl := lv_entry ([.ref Q.h0]) (n := 3) (Nat.le_of_ble_eq_true rfl)
  rw [lg_entry_eq]
  generalize (lg_sl ([.ref Q.h0]) ++ List.replicate (3 - (lg_sl ([.ref Q.h0])).length) Slot.unset).toArray = ls at hl ⊢
  have hl : lv_has ls 3 [(0, .ref Q.h0)] := hl
  unfold f_X12_loopGoal at hf
  refine lv_aload_n hx hb dX12_loopGoal_0 rfl (lv_at hl 0 rfl) ?_
  refine lv_iconst (v := 0) hx hb dX12_loopGoal_1 (by decide) ?_
  refine lv_lconst (v := 0) hx hb dX12_loopGoal_2 (by decide) ?_
  obtain ⟨p1, hcp1, hf⟩ := hf_bind hf
  have hFc := r_free hD hS hA
  refine va_calli (va_runV (As := [.int 0, .long 0]) (rest := []) ⟨hx, hb, hml, hown, hts⟩ (c_X12_goal l dC dI _ Q N σ 0 0 p1 hcp1) (cwV 2 hts hX12_loopGoal_X12_goal_v373 rfl rfl rfl (by decide +kernel) ⟨Nat.le_of_ble_eq_true rfl, Nat.le_of_ble_eq_true rfl⟩) ⟨zPre.blind, va_recv hK hP (ci := 11) (q0 := 0) rfl rfl, zPre.go hZ hP hK hD⟩ rfl rfl hl.1 rfl (lv_room (Nat.le_of_ble_eq_true rfl)) dX12_loopGoal_3 ⟨Nat.le_of_ble_eq_true rfl, Nat.le_of_ble_eq_true rfl⟩) hS (fun q _ h => hFc q h) hFc (fun r2 u9 t9 H1 locs ht hvm hw hB hz1 hk1 hS => ?_)
  obtain ⟨hP, hK1, hD1⟩ := hB
  rw [ht] at hP
  have hD := hD1.weaken (fun _ _ _ h => hFc _ h)
  generalize H1 = H at hP hS ⊢
  obtain rfl : r2 = p1.1 := hw
  refine lv_istore_n (lv' := [(1, .int p1.1), (0, .ref Q.h0)]) hx hb dX12_loopGoal_6 rfl hl (by decide) rfl (fun ls hl => ?_)
  refine lv_iload_n hx hb dX12_loopGoal_7 rfl (lv_at hl 0 rfl) ?_
  refine lv_iconst (v := 1) hx hb dX12_loopGoal_8 (by decide) ?_
  refine lv_isub hx hb dX12_loopGoal_9 ?_
  refine lv_istore_n (lv' := [(2, .int (p1.1 - 1)), (1, .int p1.1), (0, .ref Q.h0)]) hx hb dX12_loopGoal_10 rfl hl (by decide) rfl (fun ls hl => ?_)
  exact j_X12_loopGoal_11 l dC dI Q N R hx hb hr hml hown hts hlocks hZ hA hK N p1.2 p1.1 (p1.1 - 1) _ _ _ hf hP hD hS (lv_sub hl [2, 1, 0] rfl)
theorem k_X12_patch_fieldLink_RX12_87_SRModel_ix_I : Cond.fieldLink RX12 87 "StatementRules2Model" "ix" "[I" ∈ wzX12_patch := List.mem_cons_of_mem _ (List.mem_append_left _ (List.mem_of_getElem? (i := 0) rfl))
theorem i_X12_patch_X12 : ∀ w ∈ wsX120, w ∈ wzX12_patch := fun _ h => List.mem_cons_of_mem _ (List.mem_append_right _ (List.mem_append_left _ (h)))
set_option maxHeartbeats 4000000 in
set_option maxRecDepth 100000 in
theorem j_X12_patch_2 {p : Program} {e : Env} {s : State} {m : MethodId} {args : Array Value} {below : List Frame} {meth : Method} {c : Code} {A : Nat → Prop} (l : Launch) (dC : Nat → ClassId) (dI : Nat → Nat → Nat) (Q : RQ) (N : Nat) (R : RS) (hx : p.tables.exec = Jvm.exec) (hb : c.code = cX12_patch) (hr : meth.sig.returnType = none) (hml : c.maxLocals = 5) (hown : s.vm.findClass RX12 = some m.cls) (hts : ∀ w ∈ wzX12_patch, w.before args s = true) (hlocks : meth.locks = false) (hZ : zAMB s) (hA : ∀ q : Nat, s.heap.size ≤ q → A q) (hK : va_K (dC, dI) vwCl (rT Q) s) : ∀ (n9 : Nat), ∀ (σ : RS) (x2 : Int32) (x3 : Int32) (H : Heap) (locs : List Loc) (ls : Array Slot), f_X12_patch_2 N n9 σ x2 x3 = some R → va_P (dC, dI) vwCl (rW Q σ) H → va_D A (rW Q σ) → va_S A s.heap H locs → lv_has ls 5 [(0, .ref Q.h0), (2, .int x2), (3, .int x3)] → W p l e ({ frames := 1, cells := 0, slots := 0, locals := 60 }) s m args below meth c H locs 0 0 (MQ below (va_Qv (fun (_ : Unit) => True) (fun (_ : Unit) (t : State) => zPost dC dI A (rW Q R) (rT Q) t) A) args s 0 0 A) (F0 m 2 ls []) := by
  intro n9
  induction n9 with
  | zero => intro σ x2 x3 H locs ls hf; exact absurd hf (by intro h9; cases h9)
  | succ n9 ih =>
    intro σ x2 x3 H locs ls hf hP hD hS hl
    replace hf : b_X12_patch_2 N (f_X12_patch_2 N n9) σ x2 x3 = some R := hf
    unfold b_X12_patch_2 at hf
    refine lv_iload_n hx hb dX12_patch_2 rfl (lv_at hl 2 rfl) ?_
    refine lv_if_lt (tgt := 27) hx hb dX12_patch_3 (by decide) (fun c1 => ?_) (fun c1 => ?_)
    ·
      replace hf := (if_pos c1).symm.trans hf
      obtain rfl := Option.some.inj hf
      exact W.vret hx hb hr (fun t ht hW => ⟨⟨(), rfl, trivial, by rw [ht]; exact hP, va_K.moved hW.alike hK, hD⟩, hS.F ht⟩) hS.2.2 dX12_patch_27
    ·
      replace hf := (if_neg c1).symm.trans hf
      refine lv_aload_n hx hb dX12_patch_6 rfl (lv_at hl 0 rfl) ?_
      refine rG_22 hx hb hts i_X12_patch_X12 hown hK hP (hts (.fieldLink RX12 87 "StatementRules2Model" "ix" "[I") k_X12_patch_fieldLink_RX12_87_SRModel_ix_I) dX12_patch_7 ?_
      refine lv_iload_n hx hb dX12_patch_10 rfl (lv_at hl 2 rfl) ?_
      obtain ⟨b2, hf⟩ := hf_ite hf
      refine rL_22 (v := (σ.a 22 ((x3 : Int32).toNatClampNeg))) hx hb hK hP b2 dX12_patch_11 rfl ?_
      refine lv_istore (lv' := [(4, .int (σ.a 22 ((x3 : Int32).toNatClampNeg))), (0, .ref Q.h0), (2, .int x2), (3, .int x3)]) hx hb dX12_patch_12 hl (by decide) rfl (fun ls hl => ?_)
      refine lv_aload_n hx hb dX12_patch_14 rfl (lv_at hl 1 rfl) ?_
      refine rG_22 hx hb hts i_X12_patch_X12 hown hK hP (hts (.fieldLink RX12 87 "StatementRules2Model" "ix" "[I") k_X12_patch_fieldLink_RX12_87_SRModel_ix_I) dX12_patch_15 ?_
      refine lv_iload_n hx hb dX12_patch_18 rfl (lv_at hl 3 rfl) ?_
      refine lv_iload_n hx hb dX12_patch_19 rfl (lv_at hl 2 rfl) ?_
      refine rS_22 hx hb hK hP hD hS b2 dX12_patch_20 (fun H locs hP hD hS => ?_)
      refine lv_iload hx hb dX12_patch_21 (lv_at hl 0 rfl) ?_
      refine lv_istore_n (lv' := [(3, .int (σ.a 22 ((x3 : Int32).toNatClampNeg))), (4, .int (σ.a 22 ((x3 : Int32).toNatClampNeg))), (0, .ref Q.h0), (2, .int x2)]) hx hb dX12_patch_23 rfl hl (by decide) rfl (fun ls hl => ?_)
      refine lv_goto (tgt := 2) hx hb dX12_patch_24 (by decide) ?_
      exact ih (RS.setA σ 22 ((x3 : Int32).toNatClampNeg) x2) x2 (σ.a 22 ((x3 : Int32).toNatClampNeg)) _ _ _ hf hP hD hS (lv_sub hl [2, 3, 0] rfl)
set_option maxHeartbeats 4000000 in
set_option maxRecDepth 100000 in
theorem c_X12_patch (l : Launch) (dC : Nat → ClassId) (dI : Nat → Nat → Nat) (sz : Nat) (Q : RQ) (N : Nat) (σ : RS) (x1 : Int32) (x2 : Int32) (R : RS) (hf : f_X12_patch N σ x1 x2 = some R) : Met l yX12_patch wzX12_patch ({ frames := 1, cells := 0, slots := 0, locals := 60 }) (va_Pc [.ref Q.h0, .int x1, .int x2] (zPre dC dI sz (rW Q σ) (rT Q))) (va_Qv (fun (_ : Unit) => True) (fun (_ : Unit) (t : State) => zPost dC dI (va_A (rW Q σ) sz) (rW Q R) (rT Q) t) (va_A (rW Q σ) sz)) 0 0 (va_A (rW Q σ) sz) := by
  refine Met.ofW (cc := cX12_patch) (maxL := 5) (ret := none) (by decide) rfl ?_
  intro p e s m args below meth c s₁ B hml hv
  obtain ⟨rfl, hsz, hZ, hP, hK, hD0⟩ := hv
  have hx := B.exec
  have hb := B.bytes
  have hr := B.returns
  have hts := atoms_spec (ws := wzX12_patch) B.pre
  have hown : s.vm.findClass RX12 = some m.cls := findClass_of_methodNamed B.named
  have hlocks := B.notSynchronized
  subst hsz
  have hD := hD0.self (sz := s.heap.size)
  generalize hAe : va_A (rW Q σ) s.heap.size = A at hD ⊢
  have hA : ∀ q : Nat, s.heap.size ≤ q → A q := fun q h => by rw [← hAe]; exact Or.inr h
  have hS : va_S A s.heap s.heap [] := va_S.rf
  have hl := lv_entry ([.ref Q.h0, .int x1, .int x2]) (n := 5) (Nat.le_of_ble_eq_true rfl)
  rw [lg_entry_eq]
  generalize (lg_sl ([.ref Q.h0, .int x1, .int x2]) ++ List.replicate (5 - (lg_sl ([.ref Q.h0, .int x1, .int x2])).length) Slot.unset).toArray = ls at hl ⊢
  have hl : lv_has ls 5 [(0, .ref Q.h0), (1, .int x1), (2, .int x2)] := hl
  unfold f_X12_patch at hf
  refine lv_iload_n hx hb dX12_patch_0 rfl (lv_at hl 1 rfl) ?_
  refine lv_istore_n (lv' := [(3, .int x1), (0, .ref Q.h0), (1, .int x1), (2, .int x2)]) hx hb dX12_patch_1 rfl hl (by decide) rfl (fun ls hl => ?_)
  exact j_X12_patch_2 l dC dI Q N R hx hb hr hml hown hts hlocks hZ hA hK N σ x2 x1 _ _ _ hf hP hD hS (lv_sub hl [1, 3, 0] rfl)
theorem k_X12_goes_fieldLink_RX12_156_SRModel_continued_Z : Cond.fieldLink RX12 156 "StatementRules2Model" "continued" "[Z" ∈ wzX12_goes := List.mem_cons_of_mem _ (List.mem_append_left _ (List.mem_of_getElem? (i := 0) rfl))
theorem i_X12_goes_X12 : ∀ w ∈ wsX120, w ∈ wzX12_goes := fun _ h => List.mem_cons_of_mem _ (List.mem_append_right _ (List.mem_append_left _ (h)))
theorem k_X12_goes_fieldLink_RX12_153_SRModel_broken_Z : Cond.fieldLink RX12 153 "StatementRules2Model" "broken" "[Z" ∈ wzX12_goes := List.mem_cons_of_mem _ (List.mem_append_left _ (List.mem_of_getElem? (i := 1) rfl))
set_option maxHeartbeats 4000000 in
set_option maxRecDepth 100000 in
theorem c_X12_goes (l : Launch) (dC : Nat → ClassId) (dI : Nat → Nat → Nat) (sz : Nat) (Q : RQ) (N : Nat) (σ : RS) (x1 : Int32) (x2 : Int32) (R : RS) (hf : f_X12_goes N σ x1 x2 = some R) : Met l yX12_goes wzX12_goes ({ frames := 1, cells := 0, slots := 0, locals := 60 }) (va_Pc [.ref Q.h0, .int x1, .int x2] (zPre dC dI sz (rW Q σ) (rT Q))) (va_Qv (fun (_ : Unit) => True) (fun (_ : Unit) (t : State) => zPost dC dI (va_A (rW Q σ) sz) (rW Q R) (rT Q) t) (va_A (rW Q σ) sz)) 0 0 (va_A (rW Q σ) sz) := by
  refine Met.ofW (cc := cX12_goes) (maxL := 3) (ret := none) (by decide) rfl ?_
  intro p e s m args below meth c s₁ B hml hv
  obtain ⟨rfl, hsz, hZ, hP, hK, hD0⟩ := hv
  have hx := B.exec
  have hb := B.bytes
  have hr := B.returns
  have hts := atoms_spec (ws := wzX12_goes) B.pre
  have hown : s.vm.findClass RX12 = some m.cls := findClass_of_methodNamed B.named
  have hlocks := B.notSynchronized
  subst hsz
  have hD := hD0.self (sz := s.heap.size)
  generalize hAe : va_A (rW Q σ) s.heap.size = A at hD ⊢
  have hA : ∀ q : Nat, s.heap.size ≤ q → A q := fun q h => by rw [← hAe]; exact Or.inr h
  have hS : va_S A s.heap s.heap [] := va_S.rf
  have hl := lv_entry ([.ref Q.h0, .int x1, .int x2]) (n := 3) (Nat.le_of_ble_eq_true rfl)
  rw [lg_entry_eq]
  generalize (lg_sl ([.ref Q.h0, .int x1, .int x2]) ++ List.replicate (3 - (lg_sl ([.ref Q.h0, .int x1, .int x2])).length) Slot.unset).toArray = ls at hl ⊢
  have hl : lv_has ls 3 [(0, .ref Q.h0), (1, .int x1), (2, .int x2)] := hl
  unfold f_X12_goes at hf
  refine lv_iload_n hx hb dX12_goes_0 rfl (lv_at hl 2 rfl) ?_
  refine lv_if_eq (tgt := 14) hx hb dX12_goes_1 (by decide) (fun c1 => ?_) (fun c1 => ?_)
  ·
    replace hf := (if_pos c1).symm.trans hf
    refine lv_aload_n hx hb dX12_goes_14 rfl (lv_at hl 0 rfl) ?_
    refine rG_51 hx hb hts i_X12_goes_X12 hown hK hP (hts (.fieldLink RX12 156 "StatementRules2Model" "continued" "[Z") k_X12_goes_fieldLink_RX12_156_SRModel_continued_Z) dX12_goes_15 ?_
    refine lv_iload_n hx hb dX12_goes_18 rfl (lv_at hl 1 rfl) ?_
    refine lv_iconst (v := 1) hx hb dX12_goes_19 (by decide) ?_
    obtain ⟨b2, hf⟩ := hf_ite hf
    refine rS_51 (v := 1) hx hb hK hP hD hS b2 dX12_goes_20 rfl (fun H locs hP hD hS => ?_)
    obtain rfl := Option.some.inj hf
    exact W.vret hx hb hr (fun t ht hW => ⟨⟨(), rfl, trivial, by rw [ht]; exact hP, va_K.moved hW.alike hK, hD⟩, hS.F ht⟩) hS.2.2 dX12_goes_21
  ·
    replace hf := (if_neg c1).symm.trans hf
    refine lv_aload_n hx hb dX12_goes_4 rfl (lv_at hl 0 rfl) ?_
    refine rG_50 hx hb hts i_X12_goes_X12 hown hK hP (hts (.fieldLink RX12 153 "StatementRules2Model" "broken" "[Z") k_X12_goes_fieldLink_RX12_153_SRModel_broken_Z) dX12_goes_5 ?_
    refine lv_iload_n hx hb dX12_goes_8 rfl (lv_at hl 1 rfl) ?_
    refine lv_iconst (v := 1) hx hb dX12_goes_9 (by decide) ?_
    obtain ⟨b3, hf⟩ := hf_ite hf
    refine rS_50 (v := 1) hx hb hK hP hD hS b3 dX12_goes_10 rfl (fun H locs hP hD hS => ?_)
    refine lv_goto (tgt := 21) hx hb dX12_goes_11 (by decide) ?_
    obtain rfl := Option.some.inj hf
    exact W.vret hx hb hr (fun t ht hW => ⟨⟨(), rfl, trivial, by rw [ht]; exact hP, va_K.moved hW.alike hK, hD⟩, hS.F ht⟩) hS.2.2 dX12_goes_21
theorem k_X12_pend_fieldLink_RX12_377_SRModel_walls_I : Cond.fieldLink RX12 377 "StatementRules2Model" "walls" "I" ∈ wzX12_pend := List.mem_cons_of_mem _ (List.mem_append_left _ (List.mem_of_getElem? (i := 0) rfl))
theorem i_X12_pend_X12 : ∀ w ∈ wsX120, w ∈ wzX12_pend := fun _ h => List.mem_cons_of_mem _ (List.mem_append_right _ (List.mem_append_left _ (h)))
theorem k_X12_pend_fieldLink_RX12_162_SRModel_wallGoals_I : Cond.fieldLink RX12 162 "StatementRules2Model" "wallGoals" "[I" ∈ wzX12_pend := List.mem_cons_of_mem _ (List.mem_append_left _ (List.mem_of_getElem? (i := 1) rfl))
theorem k_X12_pend_fieldLink_RX12_165_SRModel_pendGoal_I : Cond.fieldLink RX12 165 "StatementRules2Model" "pendGoal" "[I" ∈ wzX12_pend := List.mem_cons_of_mem _ (List.mem_append_left _ (List.mem_of_getElem? (i := 2) rfl))
theorem k_X12_pend_fieldLink_RX12_384_SRModel_pends_I : Cond.fieldLink RX12 384 "StatementRules2Model" "pends" "I" ∈ wzX12_pend := List.mem_cons_of_mem _ (List.mem_append_left _ (List.mem_of_getElem? (i := 3) rfl))
theorem k_X12_pend_fieldLink_RX12_168_SRModel_pendBreak_Z : Cond.fieldLink RX12 168 "StatementRules2Model" "pendBreak" "[Z" ∈ wzX12_pend := List.mem_cons_of_mem _ (List.mem_append_left _ (List.mem_of_getElem? (i := 4) rfl))
theorem k_X12_pend_fieldLink_RX12_171_SRModel_pendTry_I : Cond.fieldLink RX12 171 "StatementRules2Model" "pendTry" "[I" ∈ wzX12_pend := List.mem_cons_of_mem _ (List.mem_append_left _ (List.mem_of_getElem? (i := 5) rfl))
theorem k_X12_pend_fieldLink_RX12_159_SRModel_wallTry_I : Cond.fieldLink RX12 159 "StatementRules2Model" "wallTry" "[I" ∈ wzX12_pend := List.mem_cons_of_mem _ (List.mem_append_left _ (List.mem_of_getElem? (i := 6) rfl))
set_option maxHeartbeats 4000000 in
set_option maxRecDepth 100000 in
theorem j_X12_pend_22 {p : Program} {e : Env} {s : State} {m : MethodId} {args : Array Value} {below : List Frame} {meth : Method} {c : Code} {A : Nat → Prop} (l : Launch) (dC : Nat → ClassId) (dI : Nat → Nat → Nat) (Q : RQ) (N : Nat) (R : RS) (hx : p.tables.exec = Jvm.exec) (hb : c.code = cX12_pend) (hr : meth.sig.returnType = none) (hml : c.maxLocals = 3) (hown : s.vm.findClass RX12 = some m.cls) (hts : ∀ w ∈ wzX12_pend, w.before args s = true) (hlocks : meth.locks = false) (hZ : zAMB s) (hA : ∀ q : Nat, s.heap.size ≤ q → A q) (hK : va_K (dC, dI) vwCl (rT Q) s) : ∀ (σ : RS) (x1 : Int32) (x2 : Int32) (H : Heap) (locs : List Loc) (ls : Array Slot), f_X12_pend_22 N σ x1 x2 = some R → va_P (dC, dI) vwCl (rW Q σ) H → va_D A (rW Q σ) → va_S A s.heap H locs → lv_has ls 3 [(0, .ref Q.h0), (1, .int x1), (2, .int x2)] → W p l e ({ frames := 2, cells := 0, slots := 0, locals := 120 }) s m args below meth c H locs 0 0 (MQ below (va_Qv (fun (_ : Unit) => True) (fun (_ : Unit) (t : State) => zPost dC dI A (rW Q R) (rT Q) t) A) args s 0 0 A) (F0 m 22 ls []) := by
  intro σ x1 x2 H locs ls hf hP hD hS hl
  unfold f_X12_pend_22 at hf
  refine lv_aload_n hx hb dX12_pend_22 rfl (lv_at hl 0 rfl) ?_
  refine lv_iload_n hx hb dX12_pend_23 rfl (lv_at hl 1 rfl) ?_
  refine lv_iload_n hx hb dX12_pend_24 rfl (lv_at hl 2 rfl) ?_
  obtain ⟨p2, hcp2, hf⟩ := hf_bind hf
  have hFc := r_free hD hS hA
  refine va_callv (va_runV (As := [.int x1, .int x2]) (rest := []) ⟨hx, hb, hml, hown, hts⟩ (c_X12_goes l dC dI _ Q N σ x1 x2 p2 hcp2) (cwV 2 hts hX12_pend_X12_goes_v380 rfl rfl rfl (by decide +kernel) ⟨Nat.le_of_ble_eq_true rfl, Nat.le_of_ble_eq_true rfl⟩) ⟨zPre.blind, va_recv hK hP (ci := 11) (q0 := 0) rfl rfl, zPre.go hZ hP hK hD⟩ rfl rfl hl.1 rfl (lv_room (Nat.le_of_ble_eq_true rfl)) dX12_pend_25 ⟨Nat.le_of_ble_eq_true rfl, Nat.le_of_ble_eq_true rfl⟩) hS (fun q _ h => hFc q h) hFc (fun u9 t9 H1 locs ht hvm hw hB hz1 hk1 hS => ?_)
  obtain ⟨hP, hK1, hD1⟩ := hB
  rw [ht] at hP
  have hD := hD1.weaken (fun _ _ _ h => hFc _ h)
  generalize H1 = H at hP hS ⊢
  obtain rfl := Option.some.inj hf
  exact W.vret hx hb hr (fun t ht hW => ⟨⟨(), rfl, trivial, by rw [ht]; exact hP, va_K.moved hW.alike hK, hD⟩, hS.F ht⟩) hS.2.2 dX12_pend_28
set_option maxHeartbeats 4000000 in
set_option maxRecDepth 100000 in
theorem c_X12_pend (l : Launch) (dC : Nat → ClassId) (dI : Nat → Nat → Nat) (sz : Nat) (Q : RQ) (N : Nat) (σ : RS) (x1 : Int32) (x2 : Int32) (R : RS) (hf : f_X12_pend N σ x1 x2 = some R) : Met l yX12_pend wzX12_pend ({ frames := 2, cells := 0, slots := 0, locals := 120 }) (va_Pc [.ref Q.h0, .int x1, .int x2] (zPre dC dI sz (rW Q σ) (rT Q))) (va_Qv (fun (_ : Unit) => True) (fun (_ : Unit) (t : State) => zPost dC dI (va_A (rW Q σ) sz) (rW Q R) (rT Q) t) (va_A (rW Q σ) sz)) 0 0 (va_A (rW Q σ) sz) := by
  refine Met.ofW (cc := cX12_pend) (maxL := 3) (ret := none) (by decide) rfl ?_
  intro p e s m args below meth c s₁ B hml hv
  obtain ⟨rfl, hsz, hZ, hP, hK, hD0⟩ := hv
  have hx := B.exec
  have hb := B.bytes
  have hr := B.returns
  have hts := atoms_spec (ws := wzX12_pend) B.pre
  have hown : s.vm.findClass RX12 = some m.cls := findClass_of_methodNamed B.named
  have hlocks := B.notSynchronized
  subst hsz
  have hD := hD0.self (sz := s.heap.size)
  generalize hAe : va_A (rW Q σ) s.heap.size = A at hD ⊢
  have hA : ∀ q : Nat, s.heap.size ≤ q → A q := fun q h => by rw [← hAe]; exact Or.inr h
  have hS : va_S A s.heap s.heap [] := va_S.rf
  have hl := lv_entry ([.ref Q.h0, .int x1, .int x2]) (n := 3) (Nat.le_of_ble_eq_true rfl)
  rw [lg_entry_eq]
  generalize (lg_sl ([.ref Q.h0, .int x1, .int x2]) ++ List.replicate (3 - (lg_sl ([.ref Q.h0, .int x1, .int x2])).length) Slot.unset).toArray = ls at hl ⊢
  have hl : lv_has ls 3 [(0, .ref Q.h0), (1, .int x1), (2, .int x2)] := hl
  unfold f_X12_pend at hf
  refine lv_aload_n hx hb dX12_pend_0 rfl (lv_at hl 0 rfl) ?_
  refine rG_56 (v := (σ.i 56)) hx hb hts i_X12_pend_X12 hown hK hP (hts (.fieldLink RX12 377 "StatementRules2Model" "walls" "I") k_X12_pend_fieldLink_RX12_377_SRModel_walls_I) dX12_pend_1 rfl ?_
  refine lv_if_eq (tgt := 22) hx hb dX12_pend_4 (by decide) (fun c1 => ?_) (fun c1 => ?_)
  ·
    replace hf := (if_pos c1).symm.trans hf
    exact j_X12_pend_22 l dC dI Q N R hx hb hr hml hown hts hlocks hZ hA hK σ x1 x2 _ _ _ hf hP hD hS (lv_sub hl [0, 1, 2] rfl)
  ·
    replace hf := (if_neg c1).symm.trans hf
    refine lv_iload_n hx hb dX12_pend_7 rfl (lv_at hl 1 rfl) ?_
    refine lv_aload_n hx hb dX12_pend_8 rfl (lv_at hl 0 rfl) ?_
    refine rG_58 hx hb hts i_X12_pend_X12 hown hK hP (hts (.fieldLink RX12 162 "StatementRules2Model" "wallGoals" "[I") k_X12_pend_fieldLink_RX12_162_SRModel_wallGoals_I) dX12_pend_9 ?_
    refine lv_aload_n hx hb dX12_pend_12 rfl (lv_at hl 0 rfl) ?_
    refine rG_56 (v := (σ.i 56)) hx hb hts i_X12_pend_X12 hown hK hP (hts (.fieldLink RX12 377 "StatementRules2Model" "walls" "I") k_X12_pend_fieldLink_RX12_377_SRModel_walls_I) dX12_pend_13 rfl ?_
    refine lv_iconst (v := 1) hx hb dX12_pend_16 (by decide) ?_
    refine lv_isub hx hb dX12_pend_17 ?_
    obtain ⟨b4, hf⟩ := hf_ite hf
    refine rL_58 (v := (σ.a 58 ((((σ.i 56) - 1) : Int32).toNatClampNeg))) hx hb hK hP b4 dX12_pend_18 rfl ?_
    refine lv_icmp_lt (tgt := 29) hx hb dX12_pend_19 (by decide) (fun c5 => ?_) (fun c5 => ?_)
    ·
      replace hf := (if_pos c5).symm.trans hf
      refine lv_aload_n hx hb dX12_pend_29 rfl (lv_at hl 0 rfl) ?_
      refine rG_60 hx hb hts i_X12_pend_X12 hown hK hP (hts (.fieldLink RX12 165 "StatementRules2Model" "pendGoal" "[I") k_X12_pend_fieldLink_RX12_165_SRModel_pendGoal_I) dX12_pend_30 ?_
      refine lv_aload_n hx hb dX12_pend_33 rfl (lv_at hl 0 rfl) ?_
      refine rG_59 (v := (σ.i 59)) hx hb hts i_X12_pend_X12 hown hK hP (hts (.fieldLink RX12 384 "StatementRules2Model" "pends" "I") k_X12_pend_fieldLink_RX12_384_SRModel_pends_I) dX12_pend_34 rfl ?_
      refine lv_iload_n hx hb dX12_pend_37 rfl (lv_at hl 1 rfl) ?_
      obtain ⟨b6, hf⟩ := hf_ite hf
      refine rS_60 hx hb hK hP hD hS b6 dX12_pend_38 (fun H locs hP hD hS => ?_)
      refine lv_aload_n hx hb dX12_pend_39 rfl (lv_at hl 0 rfl) ?_
      refine rG_61 hx hb hts i_X12_pend_X12 hown hK hP (hts (.fieldLink RX12 168 "StatementRules2Model" "pendBreak" "[Z") k_X12_pend_fieldLink_RX12_168_SRModel_pendBreak_Z) dX12_pend_40 ?_
      refine lv_aload_n hx hb dX12_pend_43 rfl (lv_at hl 0 rfl) ?_
      refine rG_59 (v := (σ.i 59)) hx hb hts i_X12_pend_X12 hown hK hP (hts (.fieldLink RX12 384 "StatementRules2Model" "pends" "I") k_X12_pend_fieldLink_RX12_384_SRModel_pends_I) dX12_pend_44 rfl ?_
      refine lv_iload_n hx hb dX12_pend_47 rfl (lv_at hl 2 rfl) ?_
      refine rS_61 (v := (vp_nar .boolean x2)) hx hb hK hP hD hS b6 dX12_pend_48 rfl (fun H locs hP hD hS => ?_)
      refine lv_aload_n hx hb dX12_pend_49 rfl (lv_at hl 0 rfl) ?_
      refine rG_62 hx hb hts i_X12_pend_X12 hown hK hP (hts (.fieldLink RX12 171 "StatementRules2Model" "pendTry" "[I") k_X12_pend_fieldLink_RX12_171_SRModel_pendTry_I) dX12_pend_50 ?_
      refine lv_aload_n hx hb dX12_pend_53 rfl (lv_at hl 0 rfl) ?_
      refine rG_59 (v := (σ.i 59)) hx hb hts i_X12_pend_X12 hown hK hP (hts (.fieldLink RX12 384 "StatementRules2Model" "pends" "I") k_X12_pend_fieldLink_RX12_384_SRModel_pends_I) dX12_pend_54 rfl ?_
      refine lv_aload_n hx hb dX12_pend_57 rfl (lv_at hl 0 rfl) ?_
      refine rG_57 hx hb hts i_X12_pend_X12 hown hK hP (hts (.fieldLink RX12 159 "StatementRules2Model" "wallTry" "[I") k_X12_pend_fieldLink_RX12_159_SRModel_wallTry_I) dX12_pend_58 ?_
      refine lv_aload_n hx hb dX12_pend_61 rfl (lv_at hl 0 rfl) ?_
      refine rG_56 (v := (σ.i 56)) hx hb hts i_X12_pend_X12 hown hK hP (hts (.fieldLink RX12 377 "StatementRules2Model" "walls" "I") k_X12_pend_fieldLink_RX12_377_SRModel_walls_I) dX12_pend_62 rfl ?_
      refine lv_iconst (v := 1) hx hb dX12_pend_65 (by decide) ?_
      refine lv_isub hx hb dX12_pend_66 ?_
      refine rL_57 (v := (σ.a 57 ((((σ.i 56) - 1) : Int32).toNatClampNeg))) hx hb hK hP b4 dX12_pend_67 rfl ?_
      refine rS_62 hx hb hK hP hD hS b6 dX12_pend_68 (fun H locs hP hD hS => ?_)
      refine lv_aload_n hx hb dX12_pend_69 rfl (lv_at hl 0 rfl) ?_
      refine lv_dup hx hb dX12_pend_70 rfl ?_
      refine rG_59 (v := (σ.i 59)) hx hb hts i_X12_pend_X12 hown hK hP (hts (.fieldLink RX12 384 "StatementRules2Model" "pends" "I") k_X12_pend_fieldLink_RX12_384_SRModel_pends_I) dX12_pend_71 rfl ?_
      refine lv_iconst (v := 1) hx hb dX12_pend_74 (by decide) ?_
      refine lv_iadd hx hb dX12_pend_75 ?_
      refine rP_59 hx hb hts i_X12_pend_X12 hown hK hP hD hS (hts (.fieldLink RX12 384 "StatementRules2Model" "pends" "I") k_X12_pend_fieldLink_RX12_384_SRModel_pends_I) dX12_pend_76 (fun H locs hP hD hS => ?_)
      obtain rfl := Option.some.inj hf
      exact W.vret hx hb hr (fun t ht hW => ⟨⟨(), rfl, trivial, by rw [ht]; exact hP, va_K.moved hW.alike hK, hD⟩, hS.F ht⟩) hS.2.2 dX12_pend_79
    ·
      replace hf := (if_neg c5).symm.trans hf
      exact j_X12_pend_22 l dC dI Q N R hx hb hr hml hown hts hlocks hZ hA hK σ x1 x2 _ _ _ hf hP hD hS (lv_sub hl [0, 1, 2] rfl)
end
section
theorem k_X12_resolve_fieldLink_RX12_384_SRModel_pends_I : Cond.fieldLink RX12 384 "StatementRules2Model" "pends" "I" ∈ wzX12_resolve := List.mem_cons_of_mem _ (List.mem_append_left _ (List.mem_of_getElem? (i := 0) rfl))
theorem i_X12_resolve_X12 : ∀ w ∈ wsX120, w ∈ wzX12_resolve := fun _ h => List.mem_cons_of_mem _ (List.mem_append_right _ (List.mem_append_left _ (h)))
theorem k_X12_resolve_fieldLink_RX12_171_SRModel_pendTry_I : Cond.fieldLink RX12 171 "StatementRules2Model" "pendTry" "[I" ∈ wzX12_resolve := List.mem_cons_of_mem _ (List.mem_append_left _ (List.mem_of_getElem? (i := 1) rfl))
theorem k_X12_resolve_fieldLink_RX12_165_SRModel_pendGoal_I : Cond.fieldLink RX12 165 "StatementRules2Model" "pendGoal" "[I" ∈ wzX12_resolve := List.mem_cons_of_mem _ (List.mem_append_left _ (List.mem_of_getElem? (i := 2) rfl))
theorem k_X12_resolve_fieldLink_RX12_377_SRModel_walls_I : Cond.fieldLink RX12 377 "StatementRules2Model" "walls" "I" ∈ wzX12_resolve := List.mem_cons_of_mem _ (List.mem_append_left _ (List.mem_of_getElem? (i := 3) rfl))
theorem k_X12_resolve_fieldLink_RX12_168_SRModel_pendBreak_Z : Cond.fieldLink RX12 168 "StatementRules2Model" "pendBreak" "[Z" ∈ wzX12_resolve := List.mem_cons_of_mem _ (List.mem_append_left _ (List.mem_of_getElem? (i := 4) rfl))
theorem k_X12_resolve_fieldLink_RX12_162_SRModel_wallGoals_I : Cond.fieldLink RX12 162 "StatementRules2Model" "wallGoals" "[I" ∈ wzX12_resolve := List.mem_cons_of_mem _ (List.mem_append_left _ (List.mem_of_getElem? (i := 5) rfl))
theorem k_X12_resolve_fieldLink_RX12_159_SRModel_wallTry_I : Cond.fieldLink RX12 159 "StatementRules2Model" "wallTry" "[I" ∈ wzX12_resolve := List.mem_cons_of_mem _ (List.mem_append_left _ (List.mem_of_getElem? (i := 6) rfl))
set_option maxHeartbeats 4000000 in
set_option maxRecDepth 100000 in
theorem j_X12_resolve_2 {p : Program} {e : Env} {s : State} {m : MethodId} {args : Array Value} {below : List Frame} {meth : Method} {c : Code} {A : Nat → Prop} (l : Launch) (dC : Nat → ClassId) (dI : Nat → Nat → Nat) (Q : RQ) (N : Nat) (R : RS) (hx : p.tables.exec = Jvm.exec) (hb : c.code = cX12_resolve) (hr : meth.sig.returnType = none) (hml : c.maxLocals = 6) (hown : s.vm.findClass RX12 = some m.cls) (hts : ∀ w ∈ wzX12_resolve, w.before args s = true) (hlocks : meth.locks = false) (hZ : zAMB s) (hA : ∀ q : Nat, s.heap.size ≤ q → A q) (hK : va_K (dC, dI) vwCl (rT Q) s) : ∀ (n9 : Nat), ∀ (σ : RS) (x1 : Int32) (x2 : Int32) (x3 : Int32) (H : Heap) (locs : List Loc) (ls : Array Slot), f_X12_resolve_2 N n9 σ x1 x2 x3 = some R → va_P (dC, dI) vwCl (rW Q σ) H → va_D A (rW Q σ) → va_S A s.heap H locs → lv_has ls 6 [(0, .ref Q.h0), (1, .int x1), (2, .int x2), (3, .int x3)] → W p l e ({ frames := 2, cells := 0, slots := 0, locals := 120 }) s m args below meth c H locs 0 0 (MQ below (va_Qv (fun (_ : Unit) => True) (fun (_ : Unit) (t : State) => zPost dC dI A (rW Q R) (rT Q) t) A) args s 0 0 A) (F0 m 2 ls []) := by
  intro n9
  induction n9 with
  | zero => intro σ x1 x2 x3 H locs ls hf; exact absurd hf (by intro h9; cases h9)
  | succ n9 ih =>
    intro σ x1 x2 x3 H locs ls hf hP hD hS hl
    replace hf : b_X12_resolve_2 N (f_X12_resolve_2 N n9) σ x1 x2 x3 = some R := hf
    unfold b_X12_resolve_2 at hf
    refine lv_iload_n hx hb dX12_resolve_2 rfl (lv_at hl 3 rfl) ?_
    refine lv_aload_n hx hb dX12_resolve_3 rfl (lv_at hl 0 rfl) ?_
    refine rG_59 (v := (σ.i 59)) hx hb hts i_X12_resolve_X12 hown hK hP (hts (.fieldLink RX12 384 "StatementRules2Model" "pends" "I") k_X12_resolve_fieldLink_RX12_384_SRModel_pends_I) dX12_resolve_4 rfl ?_
    refine lv_icmp_ge (tgt := 118) hx hb dX12_resolve_7 (by decide) (fun c1 => ?_) (fun c1 => ?_)
    ·
      replace hf := (if_pos c1).symm.trans hf
      obtain rfl := Option.some.inj hf
      exact W.vret hx hb hr (fun t ht hW => ⟨⟨(), rfl, trivial, by rw [ht]; exact hP, va_K.moved hW.alike hK, hD⟩, hS.F ht⟩) hS.2.2 dX12_resolve_118
    ·
      replace hf := (if_neg c1).symm.trans hf
      refine lv_aload_n hx hb dX12_resolve_10 rfl (lv_at hl 0 rfl) ?_
      refine rG_62 hx hb hts i_X12_resolve_X12 hown hK hP (hts (.fieldLink RX12 171 "StatementRules2Model" "pendTry" "[I") k_X12_resolve_fieldLink_RX12_171_SRModel_pendTry_I) dX12_resolve_11 ?_
      refine lv_iload_n hx hb dX12_resolve_14 rfl (lv_at hl 3 rfl) ?_
      obtain ⟨b2, hf⟩ := hf_ite hf
      refine rL_62 (v := (σ.a 62 ((x3 : Int32).toNatClampNeg))) hx hb hK hP b2 dX12_resolve_15 rfl ?_
      refine lv_iload_n hx hb dX12_resolve_16 rfl (lv_at hl 1 rfl) ?_
      refine lv_icmp_eq (tgt := 23) hx hb dX12_resolve_17 (by decide) (fun c3 => ?_) (fun c3 => ?_)
      ·
        replace hf := (if_pos c3).symm.trans hf
        refine lv_aload_n hx hb dX12_resolve_23 rfl (lv_at hl 0 rfl) ?_
        refine rG_60 hx hb hts i_X12_resolve_X12 hown hK hP (hts (.fieldLink RX12 165 "StatementRules2Model" "pendGoal" "[I") k_X12_resolve_fieldLink_RX12_165_SRModel_pendGoal_I) dX12_resolve_24 ?_
        refine lv_iload_n hx hb dX12_resolve_27 rfl (lv_at hl 3 rfl) ?_
        refine rL_60 (v := (σ.a 60 ((x3 : Int32).toNatClampNeg))) hx hb hK hP b2 dX12_resolve_28 rfl ?_
        refine lv_istore (lv' := [(4, .int (σ.a 60 ((x3 : Int32).toNatClampNeg))), (0, .ref Q.h0), (1, .int x1), (2, .int x2), (3, .int x3)]) hx hb dX12_resolve_29 hl (by decide) rfl (fun ls hl => ?_)
        refine lv_iload_n hx hb dX12_resolve_31 rfl (lv_at hl 3 rfl) ?_
        refine lv_if_eq (tgt := 62) hx hb dX12_resolve_32 (by decide) (fun c4 => ?_) (fun c4 => ?_)
        ·
          replace hf := (if_pos c4).symm.trans hf
          refine lv_iconst (v := 0) hx hb dX12_resolve_62 (by decide) ?_
          refine lv_istore (lv' := [(5, .int 0), (4, .int (σ.a 60 ((x3 : Int32).toNatClampNeg))), (0, .ref Q.h0), (1, .int x1), (2, .int x2), (3, .int x3)]) hx hb dX12_resolve_63 hl (by decide) rfl (fun ls hl => ?_)
          refine lv_aload_n hx hb dX12_resolve_65 rfl (lv_at hl 2 rfl) ?_
          refine rG_62 hx hb hts i_X12_resolve_X12 hown hK hP (hts (.fieldLink RX12 171 "StatementRules2Model" "pendTry" "[I") k_X12_resolve_fieldLink_RX12_171_SRModel_pendTry_I) dX12_resolve_66 ?_
          refine lv_iload_n hx hb dX12_resolve_69 rfl (lv_at hl 5 rfl) ?_
          refine lv_iload hx hb dX12_resolve_70 (lv_at hl 0 rfl) ?_
          refine lv_if_eq (tgt := 89) hx hb dX12_resolve_72 (by decide) (fun _ => ?_) (fun c9 => absurd (by decide) c9)
          refine lv_iconst (v := (-1)) hx hb dX12_resolve_89 (by decide) ?_
          refine rS_62 hx hb hK hP hD hS b2 dX12_resolve_90 (fun H locs hP hD hS => ?_)
          refine lv_iload_n hx hb dX12_resolve_91 rfl (lv_at hl 4 rfl) ?_
          refine lv_if_eq (tgt := 112) hx hb dX12_resolve_92 (by decide) (fun _ => ?_) (fun c9 => absurd c4 c9)
          refine lv_iinc (v := (x3 + 1)) (lv' := [(3, .int (x3 + 1)), (5, .int 0), (4, .int (σ.a 60 ((x3 : Int32).toNatClampNeg))), (0, .ref Q.h0), (1, .int x1), (2, .int x2)]) hx hb dX12_resolve_112 hl (k := 5) rfl rfl (by decide) rfl (fun ls hl => ?_)
          refine lv_goto (tgt := 2) hx hb dX12_resolve_115 (by decide) ?_
          exact ih (RS.setA σ 62 ((x3 : Int32).toNatClampNeg) (-1)) x1 x2 (x3 + 1) _ _ _ hf hP hD hS (lv_sub hl [3, 4, 5, 0] rfl)
        ·
          replace hf := (if_neg c4).symm.trans hf
          refine lv_aload_n hx hb dX12_resolve_35 rfl (lv_at hl 1 rfl) ?_
          refine rG_56 (v := (σ.i 56)) hx hb hts i_X12_resolve_X12 hown hK hP (hts (.fieldLink RX12 377 "StatementRules2Model" "walls" "I") k_X12_resolve_fieldLink_RX12_377_SRModel_walls_I) dX12_resolve_36 rfl ?_
          refine lv_if_le (tgt := 62) hx hb dX12_resolve_39 (by decide) (fun c6 => ?_) (fun c6 => ?_)
          ·
            replace hf := (if_pos c6).symm.trans hf
            refine lv_iconst (v := 0) hx hb dX12_resolve_62 (by decide) ?_
            refine lv_istore (lv' := [(5, .int 0), (4, .int (σ.a 60 ((x3 : Int32).toNatClampNeg))), (0, .ref Q.h0), (1, .int x1), (2, .int x2), (3, .int x3)]) hx hb dX12_resolve_63 hl (by decide) rfl (fun ls hl => ?_)
            refine lv_aload_n hx hb dX12_resolve_65 rfl (lv_at hl 2 rfl) ?_
            refine rG_62 hx hb hts i_X12_resolve_X12 hown hK hP (hts (.fieldLink RX12 171 "StatementRules2Model" "pendTry" "[I") k_X12_resolve_fieldLink_RX12_171_SRModel_pendTry_I) dX12_resolve_66 ?_
            refine lv_iload_n hx hb dX12_resolve_69 rfl (lv_at hl 5 rfl) ?_
            refine lv_iload hx hb dX12_resolve_70 (lv_at hl 0 rfl) ?_
            refine lv_if_eq (tgt := 89) hx hb dX12_resolve_72 (by decide) (fun _ => ?_) (fun c9 => absurd (by decide) c9)
            refine lv_iconst (v := (-1)) hx hb dX12_resolve_89 (by decide) ?_
            refine rS_62 hx hb hK hP hD hS b2 dX12_resolve_90 (fun H locs hP hD hS => ?_)
            refine lv_iload_n hx hb dX12_resolve_91 rfl (lv_at hl 4 rfl) ?_
            refine lv_if_eq (tgt := 112) hx hb dX12_resolve_92 (by decide) (fun c9 => absurd c9 c4) (fun _ => ?_)
            refine lv_iload hx hb dX12_resolve_95 (lv_at hl 0 rfl) ?_
            refine lv_if_ne (tgt := 112) hx hb dX12_resolve_97 (by decide) (fun c9 => absurd (by decide) c9) (fun _ => ?_)
            refine lv_aload_n hx hb dX12_resolve_100 rfl (lv_at hl 2 rfl) ?_
            refine lv_iload hx hb dX12_resolve_101 (lv_at hl 1 rfl) ?_
            refine lv_aload_n hx hb dX12_resolve_103 rfl (lv_at hl 2 rfl) ?_
            refine rG_61 hx hb hts i_X12_resolve_X12 hown hK hP (hts (.fieldLink RX12 168 "StatementRules2Model" "pendBreak" "[Z") k_X12_resolve_fieldLink_RX12_168_SRModel_pendBreak_Z) dX12_resolve_104 ?_
            refine lv_iload_n hx hb dX12_resolve_107 rfl (lv_at hl 5 rfl) ?_
            refine rL_61 (v := (σ.a 61 ((x3 : Int32).toNatClampNeg))) hx hb hK hP b2 dX12_resolve_108 rfl ?_
            obtain ⟨p8, hcp8, hf⟩ := hf_bind hf
            have hFc := r_free hD hS hA
            refine va_callv (va_runV (As := [.int (σ.a 60 ((x3 : Int32).toNatClampNeg)), .int (σ.a 61 ((x3 : Int32).toNatClampNeg))]) (rest := []) ⟨hx, hb, hml, hown, hts⟩ (c_X12_goes l dC dI _ Q N (RS.setA σ 62 ((x3 : Int32).toNatClampNeg) (-1)) (σ.a 60 ((x3 : Int32).toNatClampNeg)) (σ.a 61 ((x3 : Int32).toNatClampNeg)) p8 hcp8) (cwV 2 hts hX12_resolve_X12_goes_v380 rfl rfl rfl (by decide +kernel) ⟨Nat.le_of_ble_eq_true rfl, Nat.le_of_ble_eq_true rfl⟩) ⟨zPre.blind, va_recv hK hP (ci := 11) (q0 := 0) rfl rfl, zPre.go hZ hP hK hD⟩ rfl rfl hl.1 rfl (lv_room (Nat.le_of_ble_eq_true rfl)) dX12_resolve_109 ⟨Nat.le_of_ble_eq_true rfl, Nat.le_of_ble_eq_true rfl⟩) hS (fun q _ h => hFc q h) hFc (fun u9 t9 H1 locs ht hvm hw hB hz1 hk1 hS => ?_)
            obtain ⟨hP, hK1, hD1⟩ := hB
            rw [ht] at hP
            have hD := hD1.weaken (fun _ _ _ h => hFc _ h)
            generalize H1 = H at hP hS ⊢
            refine lv_iinc (v := (x3 + 1)) (lv' := [(3, .int (x3 + 1)), (5, .int 0), (4, .int (σ.a 60 ((x3 : Int32).toNatClampNeg))), (0, .ref Q.h0), (1, .int x1), (2, .int x2)]) hx hb dX12_resolve_112 hl (k := 5) rfl rfl (by decide) rfl (fun ls hl => ?_)
            refine lv_goto (tgt := 2) hx hb dX12_resolve_115 (by decide) ?_
            exact ih p8 x1 x2 (x3 + 1) _ _ _ hf hP hD hS (lv_sub hl [3, 4, 5, 0] rfl)
          ·
            replace hf := (if_neg c6).symm.trans hf
            refine lv_iload hx hb dX12_resolve_42 (lv_at hl 0 rfl) ?_
            refine lv_aload_n hx hb dX12_resolve_44 rfl (lv_at hl 1 rfl) ?_
            refine rG_58 hx hb hts i_X12_resolve_X12 hown hK hP (hts (.fieldLink RX12 162 "StatementRules2Model" "wallGoals" "[I") k_X12_resolve_fieldLink_RX12_162_SRModel_wallGoals_I) dX12_resolve_45 ?_
            refine lv_aload_n hx hb dX12_resolve_48 rfl (lv_at hl 1 rfl) ?_
            refine rG_56 (v := (σ.i 56)) hx hb hts i_X12_resolve_X12 hown hK hP (hts (.fieldLink RX12 377 "StatementRules2Model" "walls" "I") k_X12_resolve_fieldLink_RX12_377_SRModel_walls_I) dX12_resolve_49 rfl ?_
            refine lv_iconst (v := 1) hx hb dX12_resolve_52 (by decide) ?_
            refine lv_isub hx hb dX12_resolve_53 ?_
            obtain ⟨b10, hf⟩ := hf_ite hf
            refine rL_58 (v := (σ.a 58 ((((σ.i 56) - 1) : Int32).toNatClampNeg))) hx hb hK hP b10 dX12_resolve_54 rfl ?_
            refine lv_icmp_ge (tgt := 62) hx hb dX12_resolve_55 (by decide) (fun c11 => ?_) (fun c11 => ?_)
            ·
              replace hf := (if_pos c11).symm.trans hf
              refine lv_iconst (v := 0) hx hb dX12_resolve_62 (by decide) ?_
              refine lv_istore (lv' := [(5, .int 0), (4, .int (σ.a 60 ((x3 : Int32).toNatClampNeg))), (0, .ref Q.h0), (1, .int x1), (2, .int x2), (3, .int x3)]) hx hb dX12_resolve_63 hl (by decide) rfl (fun ls hl => ?_)
              refine lv_aload_n hx hb dX12_resolve_65 rfl (lv_at hl 2 rfl) ?_
              refine rG_62 hx hb hts i_X12_resolve_X12 hown hK hP (hts (.fieldLink RX12 171 "StatementRules2Model" "pendTry" "[I") k_X12_resolve_fieldLink_RX12_171_SRModel_pendTry_I) dX12_resolve_66 ?_
              refine lv_iload_n hx hb dX12_resolve_69 rfl (lv_at hl 5 rfl) ?_
              refine lv_iload hx hb dX12_resolve_70 (lv_at hl 0 rfl) ?_
              refine lv_if_eq (tgt := 89) hx hb dX12_resolve_72 (by decide) (fun _ => ?_) (fun c9 => absurd (by decide) c9)
              refine lv_iconst (v := (-1)) hx hb dX12_resolve_89 (by decide) ?_
              refine rS_62 hx hb hK hP hD hS b2 dX12_resolve_90 (fun H locs hP hD hS => ?_)
              refine lv_iload_n hx hb dX12_resolve_91 rfl (lv_at hl 4 rfl) ?_
              refine lv_if_eq (tgt := 112) hx hb dX12_resolve_92 (by decide) (fun c9 => absurd c9 c4) (fun _ => ?_)
              refine lv_iload hx hb dX12_resolve_95 (lv_at hl 0 rfl) ?_
              refine lv_if_ne (tgt := 112) hx hb dX12_resolve_97 (by decide) (fun c9 => absurd (by decide) c9) (fun _ => ?_)
              refine lv_aload_n hx hb dX12_resolve_100 rfl (lv_at hl 2 rfl) ?_
              refine lv_iload hx hb dX12_resolve_101 (lv_at hl 1 rfl) ?_
              refine lv_aload_n hx hb dX12_resolve_103 rfl (lv_at hl 2 rfl) ?_
              refine rG_61 hx hb hts i_X12_resolve_X12 hown hK hP (hts (.fieldLink RX12 168 "StatementRules2Model" "pendBreak" "[Z") k_X12_resolve_fieldLink_RX12_168_SRModel_pendBreak_Z) dX12_resolve_104 ?_
              refine lv_iload_n hx hb dX12_resolve_107 rfl (lv_at hl 5 rfl) ?_
              refine rL_61 (v := (σ.a 61 ((x3 : Int32).toNatClampNeg))) hx hb hK hP b2 dX12_resolve_108 rfl ?_
              obtain ⟨p13, hcp13, hf⟩ := hf_bind hf
              have hFc := r_free hD hS hA
              refine va_callv (va_runV (As := [.int (σ.a 60 ((x3 : Int32).toNatClampNeg)), .int (σ.a 61 ((x3 : Int32).toNatClampNeg))]) (rest := []) ⟨hx, hb, hml, hown, hts⟩ (c_X12_goes l dC dI _ Q N (RS.setA σ 62 ((x3 : Int32).toNatClampNeg) (-1)) (σ.a 60 ((x3 : Int32).toNatClampNeg)) (σ.a 61 ((x3 : Int32).toNatClampNeg)) p13 hcp13) (cwV 2 hts hX12_resolve_X12_goes_v380 rfl rfl rfl (by decide +kernel) ⟨Nat.le_of_ble_eq_true rfl, Nat.le_of_ble_eq_true rfl⟩) ⟨zPre.blind, va_recv hK hP (ci := 11) (q0 := 0) rfl rfl, zPre.go hZ hP hK hD⟩ rfl rfl hl.1 rfl (lv_room (Nat.le_of_ble_eq_true rfl)) dX12_resolve_109 ⟨Nat.le_of_ble_eq_true rfl, Nat.le_of_ble_eq_true rfl⟩) hS (fun q _ h => hFc q h) hFc (fun u9 t9 H1 locs ht hvm hw hB hz1 hk1 hS => ?_)
              obtain ⟨hP, hK1, hD1⟩ := hB
              rw [ht] at hP
              have hD := hD1.weaken (fun _ _ _ h => hFc _ h)
              generalize H1 = H at hP hS ⊢
              refine lv_iinc (v := (x3 + 1)) (lv' := [(3, .int (x3 + 1)), (5, .int 0), (4, .int (σ.a 60 ((x3 : Int32).toNatClampNeg))), (0, .ref Q.h0), (1, .int x1), (2, .int x2)]) hx hb dX12_resolve_112 hl (k := 5) rfl rfl (by decide) rfl (fun ls hl => ?_)
              refine lv_goto (tgt := 2) hx hb dX12_resolve_115 (by decide) ?_
              exact ih p13 x1 x2 (x3 + 1) _ _ _ hf hP hD hS (lv_sub hl [3, 4, 5, 0] rfl)
            ·
              replace hf := (if_neg c11).symm.trans hf
              refine lv_iconst (v := 1) hx hb dX12_resolve_58 (by decide) ?_
              refine lv_goto (tgt := 63) hx hb dX12_resolve_59 (by decide) ?_
              refine lv_istore (lv' := [(5, .int 1), (4, .int (σ.a 60 ((x3 : Int32).toNatClampNeg))), (0, .ref Q.h0), (1, .int x1), (2, .int x2), (3, .int x3)]) hx hb dX12_resolve_63 hl (by decide) rfl (fun ls hl => ?_)
              refine lv_aload_n hx hb dX12_resolve_65 rfl (lv_at hl 2 rfl) ?_
              refine rG_62 hx hb hts i_X12_resolve_X12 hown hK hP (hts (.fieldLink RX12 171 "StatementRules2Model" "pendTry" "[I") k_X12_resolve_fieldLink_RX12_171_SRModel_pendTry_I) dX12_resolve_66 ?_
              refine lv_iload_n hx hb dX12_resolve_69 rfl (lv_at hl 5 rfl) ?_
              refine lv_iload hx hb dX12_resolve_70 (lv_at hl 0 rfl) ?_
              refine lv_if_eq (tgt := 89) hx hb dX12_resolve_72 (by decide) (fun c9 => absurd c9 (by decide)) (fun _ => ?_)
              refine lv_aload_n hx hb dX12_resolve_75 rfl (lv_at hl 2 rfl) ?_
              refine rG_57 hx hb hts i_X12_resolve_X12 hown hK hP (hts (.fieldLink RX12 159 "StatementRules2Model" "wallTry" "[I") k_X12_resolve_fieldLink_RX12_159_SRModel_wallTry_I) dX12_resolve_76 ?_
              refine lv_aload_n hx hb dX12_resolve_79 rfl (lv_at hl 2 rfl) ?_
              refine rG_56 (v := (σ.i 56)) hx hb hts i_X12_resolve_X12 hown hK hP (hts (.fieldLink RX12 377 "StatementRules2Model" "walls" "I") k_X12_resolve_fieldLink_RX12_377_SRModel_walls_I) dX12_resolve_80 rfl ?_
              refine lv_iconst (v := 1) hx hb dX12_resolve_83 (by decide) ?_
              refine lv_isub hx hb dX12_resolve_84 ?_
              refine rL_57 (v := (σ.a 57 ((((σ.i 56) - 1) : Int32).toNatClampNeg))) hx hb hK hP b10 dX12_resolve_85 rfl ?_
              refine lv_goto (tgt := 90) hx hb dX12_resolve_86 (by decide) ?_
              refine rS_62 hx hb hK hP hD hS b2 dX12_resolve_90 (fun H locs hP hD hS => ?_)
              refine lv_iload_n hx hb dX12_resolve_91 rfl (lv_at hl 4 rfl) ?_
              refine lv_if_eq (tgt := 112) hx hb dX12_resolve_92 (by decide) (fun c9 => absurd c9 c4) (fun _ => ?_)
              refine lv_iload hx hb dX12_resolve_95 (lv_at hl 0 rfl) ?_
              refine lv_if_ne (tgt := 112) hx hb dX12_resolve_97 (by decide) (fun _ => ?_) (fun c9 => absurd c9 (by decide))
              refine lv_iinc (v := (x3 + 1)) (lv' := [(3, .int (x3 + 1)), (5, .int 1), (4, .int (σ.a 60 ((x3 : Int32).toNatClampNeg))), (0, .ref Q.h0), (1, .int x1), (2, .int x2)]) hx hb dX12_resolve_112 hl (k := 5) rfl rfl (by decide) rfl (fun ls hl => ?_)
              refine lv_goto (tgt := 2) hx hb dX12_resolve_115 (by decide) ?_
              exact ih (RS.setA σ 62 ((x3 : Int32).toNatClampNeg) (σ.a 57 ((((σ.i 56) - 1) : Int32).toNatClampNeg))) x1 x2 (x3 + 1) _ _ _ hf hP hD hS (lv_sub hl [3, 4, 5, 0] rfl)
      ·
        replace hf := (if_neg c3).symm.trans hf
        refine lv_goto (tgt := 112) hx hb dX12_resolve_20 (by decide) ?_
        refine lv_iinc (v := (x3 + 1)) (lv' := [(3, .int (x3 + 1)), (0, .ref Q.h0), (1, .int x1), (2, .int x2)]) hx hb dX12_resolve_112 hl (k := 3) rfl rfl (by decide) rfl (fun ls hl => ?_)
        refine lv_goto (tgt := 2) hx hb dX12_resolve_115 (by decide) ?_
        exact ih σ x1 x2 (x3 + 1) _ _ _ hf hP hD hS (lv_sub hl [1, 2, 3, 0] rfl)
set_option maxHeartbeats 4000000 in
set_option maxRecDepth 100000 in
theorem c_X12_resolve (l : Launch) (dC : Nat → ClassId) (dI : Nat → Nat → Nat) (sz : Nat) (Q : RQ) (N : Nat) (σ : RS) (x1 : Int32) (x2 : Int32) (R : RS) (hf : f_X12_resolve N σ x1 x2 = some R) : Met l yX12_resolve wzX12_resolve ({ frames := 2, cells := 0, slots := 0, locals := 120 }) (va_Pc [.ref Q.h0, .int x1, .int x2] (zPre dC dI sz (rW Q σ) (rT Q))) (va_Qv (fun (_ : Unit) => True) (fun (_ : Unit) (t : State) => zPost dC dI (va_A (rW Q σ) sz) (rW Q R) (rT Q) t) (va_A (rW Q σ) sz)) 0 0 (va_A (rW Q σ) sz) := by
  refine Met.ofW (cc := cX12_resolve) (maxL := 6) (ret := none) (by decide) rfl ?_
  intro p e s m args below meth c s₁ B hml hv
  obtain ⟨rfl, hsz, hZ, hP, hK, hD0⟩ := hv
  have hx := B.exec
  have hb := B.bytes
  have hr := B.returns
  have hts := atoms_spec (ws := wzX12_resolve) B.pre
  have hown : s.vm.findClass RX12 = some m.cls := findClass_of_methodNamed B.named
  have hlocks := B.notSynchronized
  subst hsz
  have hD := hD0.self (sz := s.heap.size)
  generalize hAe : va_A (rW Q σ) s.heap.size = A at hD ⊢
  have hA : ∀ q : Nat, s.heap.size ≤ q → A q := fun q h => by rw [← hAe]; exact Or.inr h
  have hS : va_S A s.heap s.heap [] := va_S.rf
  have hl := lv_entry ([.ref Q.h0, .int x1, .int x2]) (n := 6) (Nat.le_of_ble_eq_true rfl)
  rw [lg_entry_eq]
  generalize (lg_sl ([.ref Q.h0, .int x1, .int x2]) ++ List.replicate (6 - (lg_sl ([.ref Q.h0, .int x1, .int x2])).length) Slot.unset).toArray = ls at hl ⊢
  have hl : lv_has ls 6 [(0, .ref Q.h0), (1, .int x1), (2, .int x2)] := hl
  unfold f_X12_resolve at hf
  refine lv_iconst (v := 0) hx hb dX12_resolve_0 (by decide) ?_
  refine lv_istore_n (lv' := [(3, .int 0), (0, .ref Q.h0), (1, .int x1), (2, .int x2)]) hx hb dX12_resolve_1 rfl hl (by decide) rfl (fun ls hl => ?_)
  exact j_X12_resolve_2 l dC dI Q N R hx hb hr hml hown hts hlocks hZ hA hK N σ x1 x2 0 _ _ _ hf hP hD hS (lv_sub hl [1, 2, 3, 0] rfl)
theorem k_X12_push_fieldLink_RX12_387_SRModel_top_I : Cond.fieldLink RX12 387 "StatementRules2Model" "top" "I" ∈ wzX12_push := List.mem_cons_of_mem _ (List.mem_append_left _ (List.mem_of_getElem? (i := 0) rfl))
theorem i_X12_push_X12 : ∀ w ∈ wsX120, w ∈ wzX12_push := fun _ h => List.mem_cons_of_mem _ (List.mem_append_right _ (List.mem_append_left _ (h)))
theorem k_X12_push_fieldLink_RX12_174_SRModel_fk_I : Cond.fieldLink RX12 174 "StatementRules2Model" "fk" "[I" ∈ wzX12_push := List.mem_cons_of_mem _ (List.mem_append_left _ (List.mem_of_getElem? (i := 1) rfl))
theorem k_X12_push_fieldLink_RX12_177_SRModel_fs_I : Cond.fieldLink RX12 177 "StatementRules2Model" "fs" "[I" ∈ wzX12_push := List.mem_cons_of_mem _ (List.mem_append_left _ (List.mem_of_getElem? (i := 2) rfl))
set_option maxHeartbeats 4000000 in
set_option maxRecDepth 100000 in
theorem c_X12_push (l : Launch) (dC : Nat → ClassId) (dI : Nat → Nat → Nat) (sz : Nat) (Q : RQ) (N : Nat) (σ : RS) (x1 : Int32) (R : RS) (hf : f_X12_push N σ x1 = some R) : Met l yX12_push wzX12_push ({ frames := 1, cells := 0, slots := 0, locals := 60 }) (va_Pc [.ref Q.h0, .int x1] (zPre dC dI sz (rW Q σ) (rT Q))) (va_Qv (fun (_ : Unit) => True) (fun (_ : Unit) (t : State) => zPost dC dI (va_A (rW Q σ) sz) (rW Q R) (rT Q) t) (va_A (rW Q σ) sz)) 0 0 (va_A (rW Q σ) sz) := by
  refine Met.ofW (cc := cX12_push) (maxL := 2) (ret := none) (by decide) rfl ?_
  intro p e s m args below meth c s₁ B hml hv
  obtain ⟨rfl, hsz, hZ, hP, hK, hD0⟩ := hv
  have hx := B.exec
  have hb := B.bytes
  have hr := B.returns
  have hts := atoms_spec (ws := wzX12_push) B.pre
  have hown : s.vm.findClass RX12 = some m.cls := findClass_of_methodNamed B.named
  have hlocks := B.notSynchronized
  subst hsz
  have hD := hD0.self (sz := s.heap.size)
  generalize hAe : va_A (rW Q σ) s.heap.size = A at hD ⊢
  have hA : ∀ q : Nat, s.heap.size ≤ q → A q := fun q h => by rw [← hAe]; exact Or.inr h
  have hS : va_S A s.heap s.heap [] := va_S.rf
  have hl := lv_entry ([.ref Q.h0, .int x1]) (n := 2) (Nat.le_of_ble_eq_true rfl)
  rw [lg_entry_eq]
  generalize (lg_sl ([.ref Q.h0, .int x1]) ++ List.replicate (2 - (lg_sl ([.ref Q.h0, .int x1])).length) Slot.unset).toArray = ls at hl ⊢
  have hl : lv_has ls 2 [(0, .ref Q.h0), (1, .int x1)] := hl
  unfold f_X12_push at hf
  refine lv_aload_n hx hb dX12_push_0 rfl (lv_at hl 0 rfl) ?_
  refine lv_dup hx hb dX12_push_1 rfl ?_
  refine rG_63 (v := (σ.i 63)) hx hb hts i_X12_push_X12 hown hK hP (hts (.fieldLink RX12 387 "StatementRules2Model" "top" "I") k_X12_push_fieldLink_RX12_387_SRModel_top_I) dX12_push_2 rfl ?_
  refine lv_iconst (v := 1) hx hb dX12_push_5 (by decide) ?_
  refine lv_iadd hx hb dX12_push_6 ?_
  refine rP_63 hx hb hts i_X12_push_X12 hown hK hP hD hS (hts (.fieldLink RX12 387 "StatementRules2Model" "top" "I") k_X12_push_fieldLink_RX12_387_SRModel_top_I) dX12_push_7 (fun H locs hP hD hS => ?_)
  refine lv_aload_n hx hb dX12_push_10 rfl (lv_at hl 0 rfl) ?_
  refine rG_64 hx hb hts i_X12_push_X12 hown hK hP (hts (.fieldLink RX12 174 "StatementRules2Model" "fk" "[I") k_X12_push_fieldLink_RX12_174_SRModel_fk_I) dX12_push_11 ?_
  refine lv_aload_n hx hb dX12_push_14 rfl (lv_at hl 0 rfl) ?_
  refine rG_63 (v := ((σ.i 63) + 1)) hx hb hts i_X12_push_X12 hown hK hP (hts (.fieldLink RX12 387 "StatementRules2Model" "top" "I") k_X12_push_fieldLink_RX12_387_SRModel_top_I) dX12_push_15 rfl ?_
  refine lv_iload_n hx hb dX12_push_18 rfl (lv_at hl 1 rfl) ?_
  obtain ⟨b1, hf⟩ := hf_ite hf
  refine rS_64 hx hb hK hP hD hS b1 dX12_push_19 (fun H locs hP hD hS => ?_)
  refine lv_aload_n hx hb dX12_push_20 rfl (lv_at hl 0 rfl) ?_
  refine rG_65 hx hb hts i_X12_push_X12 hown hK hP (hts (.fieldLink RX12 177 "StatementRules2Model" "fs" "[I") k_X12_push_fieldLink_RX12_177_SRModel_fs_I) dX12_push_21 ?_
  refine lv_aload_n hx hb dX12_push_24 rfl (lv_at hl 0 rfl) ?_
  refine rG_63 (v := ((σ.i 63) + 1)) hx hb hts i_X12_push_X12 hown hK hP (hts (.fieldLink RX12 387 "StatementRules2Model" "top" "I") k_X12_push_fieldLink_RX12_387_SRModel_top_I) dX12_push_25 rfl ?_
  refine lv_iconst (v := 0) hx hb dX12_push_28 (by decide) ?_
  refine rS_65 hx hb hK hP hD hS b1 dX12_push_29 (fun H locs hP hD hS => ?_)
  obtain rfl := Option.some.inj hf
  exact W.vret hx hb hr (fun t ht hW => ⟨⟨(), rfl, trivial, by rw [ht]; exact hP, va_K.moved hW.alike hK, hD⟩, hS.F ht⟩) hS.2.2 dX12_push_30
theorem k_X12_then_fieldLink_RX12_177_SRModel_fs_I : Cond.fieldLink RX12 177 "StatementRules2Model" "fs" "[I" ∈ wzX12_then := List.mem_cons_of_mem _ (List.mem_append_left _ (List.mem_of_getElem? (i := 0) rfl))
theorem i_X12_then_X12 : ∀ w ∈ wsX120, w ∈ wzX12_then := fun _ h => List.mem_cons_of_mem _ (List.mem_append_right _ (List.mem_append_left _ (h)))
theorem k_X12_then_fieldLink_RX12_387_SRModel_top_I : Cond.fieldLink RX12 387 "StatementRules2Model" "top" "I" ∈ wzX12_then := List.mem_cons_of_mem _ (List.mem_append_left _ (List.mem_of_getElem? (i := 1) rfl))
set_option maxHeartbeats 4000000 in
set_option maxRecDepth 100000 in
theorem c_X12_then (l : Launch) (dC : Nat → ClassId) (dI : Nat → Nat → Nat) (sz : Nat) (Q : RQ) (N : Nat) (σ : RS) (x1 : Int32) (x2 : Int32) (R : RS) (hf : f_X12_then N σ x1 x2 = some R) : Met l yX12_then wzX12_then ({ frames := 2, cells := 0, slots := 0, locals := 120 }) (va_Pc [.ref Q.h0, .int x1, .int x2] (zPre dC dI sz (rW Q σ) (rT Q))) (va_Qv (fun (_ : Unit) => True) (fun (_ : Unit) (t : State) => zPost dC dI (va_A (rW Q σ) sz) (rW Q R) (rT Q) t) (va_A (rW Q σ) sz)) 0 0 (va_A (rW Q σ) sz) := by
  refine Met.ofW (cc := cX12_then) (maxL := 3) (ret := none) (by decide) rfl ?_
  intro p e s m args below meth c s₁ B hml hv
  obtain ⟨rfl, hsz, hZ, hP, hK, hD0⟩ := hv
  have hx := B.exec
  have hb := B.bytes
  have hr := B.returns
  have hts := atoms_spec (ws := wzX12_then) B.pre
  have hown : s.vm.findClass RX12 = some m.cls := findClass_of_methodNamed B.named
  have hlocks := B.notSynchronized
  subst hsz
  have hD := hD0.self (sz := s.heap.size)
  generalize hAe : va_A (rW Q σ) s.heap.size = A at hD ⊢
  have hA : ∀ q : Nat, s.heap.size ≤ q → A q := fun q h => by rw [← hAe]; exact Or.inr h
  have hS : va_S A s.heap s.heap [] := va_S.rf
  have hl := lv_entry ([.ref Q.h0, .int x1, .int x2]) (n := 3) (Nat.le_of_ble_eq_true rfl)
  rw [lg_entry_eq]
  generalize (lg_sl ([.ref Q.h0, .int x1, .int x2]) ++ List.replicate (3 - (lg_sl ([.ref Q.h0, .int x1, .int x2])).length) Slot.unset).toArray = ls at hl ⊢
  have hl : lv_has ls 3 [(0, .ref Q.h0), (1, .int x1), (2, .int x2)] := hl
  unfold f_X12_then at hf
  refine lv_aload_n hx hb dX12_then_0 rfl (lv_at hl 0 rfl) ?_
  refine rG_65 hx hb hts i_X12_then_X12 hown hK hP (hts (.fieldLink RX12 177 "StatementRules2Model" "fs" "[I") k_X12_then_fieldLink_RX12_177_SRModel_fs_I) dX12_then_1 ?_
  refine lv_aload_n hx hb dX12_then_4 rfl (lv_at hl 0 rfl) ?_
  refine rG_63 (v := (σ.i 63)) hx hb hts i_X12_then_X12 hown hK hP (hts (.fieldLink RX12 387 "StatementRules2Model" "top" "I") k_X12_then_fieldLink_RX12_387_SRModel_top_I) dX12_then_5 rfl ?_
  refine lv_iload_n hx hb dX12_then_8 rfl (lv_at hl 1 rfl) ?_
  obtain ⟨b1, hf⟩ := hf_ite hf
  refine rS_65 hx hb hK hP hD hS b1 dX12_then_9 (fun H locs hP hD hS => ?_)
  refine lv_aload_n hx hb dX12_then_10 rfl (lv_at hl 0 rfl) ?_
  refine lv_iload_n hx hb dX12_then_11 rfl (lv_at hl 2 rfl) ?_
  obtain ⟨p2, hcp2, hf⟩ := hf_bind hf
  have hFc := r_free hD hS hA
  refine va_callv (va_runV (As := [.int x2]) (rest := []) ⟨hx, hb, hml, hown, hts⟩ (c_X12_push l dC dI _ Q N (RS.setA σ 65 (((σ.i 63) : Int32).toNatClampNeg) x1) x2 p2 hcp2) (cwV 1 hts hX12_then_X12_push_v390 rfl rfl rfl (by decide +kernel) ⟨Nat.le_of_ble_eq_true rfl, Nat.le_of_ble_eq_true rfl⟩) ⟨zPre.blind, va_recv hK hP (ci := 11) (q0 := 0) rfl rfl, zPre.go hZ hP hK hD⟩ rfl rfl hl.1 rfl (lv_room (Nat.le_of_ble_eq_true rfl)) dX12_then_12 ⟨Nat.le_of_ble_eq_true rfl, Nat.le_of_ble_eq_true rfl⟩) hS (fun q _ h => hFc q h) hFc (fun u9 t9 H1 locs ht hvm hw hB hz1 hk1 hS => ?_)
  obtain ⟨hP, hK1, hD1⟩ := hB
  rw [ht] at hP
  have hD := hD1.weaken (fun _ _ _ h => hFc _ h)
  generalize H1 = H at hP hS ⊢
  obtain rfl := Option.some.inj hf
  exact W.vret hx hb hr (fun t ht hW => ⟨⟨(), rfl, trivial, by rw [ht]; exact hP, va_K.moved hW.alike hK, hD⟩, hS.F ht⟩) hS.2.2 dX12_then_15
theorem k_X12_body_fieldLink_RX12_307_SRModel_tok_I : Cond.fieldLink RX12 307 "StatementRules2Model" "tok" "I" ∈ wzX12_body := List.mem_cons_of_mem _ (List.mem_append_left _ (List.mem_of_getElem? (i := 0) rfl))
theorem i_X12_body_X12 : ∀ w ∈ wsX120, w ∈ wzX12_body := fun _ h => List.mem_cons_of_mem _ (List.mem_append_right _ (List.mem_append_left _ (h)))
set_option maxHeartbeats 4000000 in
set_option maxRecDepth 100000 in
theorem j_X12_body_32 {p : Program} {e : Env} {s : State} {m : MethodId} {args : Array Value} {below : List Frame} {meth : Method} {c : Code} {A : Nat → Prop} (l : Launch) (dC : Nat → ClassId) (dI : Nat → Nat → Nat) (Q : RQ) (N : Nat) (R : RS) (hx : p.tables.exec = Jvm.exec) (hb : c.code = cX12_body) (hr : meth.sig.returnType = none) (hml : c.maxLocals = 2) (hown : s.vm.findClass RX12 = some m.cls) (hts : ∀ w ∈ wzX12_body, w.before args s = true) (hlocks : meth.locks = false) (hZ : zAMB s) (hA : ∀ q : Nat, s.heap.size ≤ q → A q) (hK : va_K (dC, dI) vwCl (rT Q) s) : ∀ (σ : RS) (x1 : Int32) (H : Heap) (locs : List Loc) (ls : Array Slot), f_X12_body_32 N σ x1 = some R → va_P (dC, dI) vwCl (rW Q σ) H → va_D A (rW Q σ) → va_S A s.heap H locs → lv_has ls 2 [(0, .ref Q.h0), (1, .int x1)] → W p l e ({ frames := 3, cells := 0, slots := 0, locals := 180 }) s m args below meth c H locs 0 0 (MQ below (va_Qv (fun (_ : Unit) => True) (fun (_ : Unit) (t : State) => zPost dC dI A (rW Q R) (rT Q) t) A) args s 0 0 A) (F0 m 32 ls []) := by
  intro σ x1 H locs ls hf hP hD hS hl
  unfold f_X12_body_32 at hf
  refine lv_aload_n hx hb dX12_body_32 rfl (lv_at hl 0 rfl) ?_
  refine lv_iload_n hx hb dX12_body_33 rfl (lv_at hl 1 rfl) ?_
  refine lv_iconst (v := 2) hx hb dX12_body_34 (by decide) ?_
  obtain ⟨p5, hcp5, hf⟩ := hf_bind hf
  have hFc := r_free hD hS hA
  refine va_callv (va_runV (As := [.int x1, .int 2]) (rest := []) ⟨hx, hb, hml, hown, hts⟩ (c_X12_then l dC dI _ Q N σ x1 2 p5 hcp5) (cwV 2 hts hX12_body_X12_then_v393 rfl rfl rfl (by decide +kernel) ⟨Nat.le_of_ble_eq_true rfl, Nat.le_of_ble_eq_true rfl⟩) ⟨zPre.blind, va_recv hK hP (ci := 11) (q0 := 0) rfl rfl, zPre.go hZ hP hK hD⟩ rfl rfl hl.1 rfl (lv_room (Nat.le_of_ble_eq_true rfl)) dX12_body_35 ⟨Nat.le_of_ble_eq_true rfl, Nat.le_of_ble_eq_true rfl⟩) hS (fun q _ h => hFc q h) hFc (fun u9 t9 H1 locs ht hvm hw hB hz1 hk1 hS => ?_)
  obtain ⟨hP, hK1, hD1⟩ := hB
  rw [ht] at hP
  have hD := hD1.weaken (fun _ _ _ h => hFc _ h)
  generalize H1 = H at hP hS ⊢
  obtain rfl := Option.some.inj hf
  exact W.vret hx hb hr (fun t ht hW => ⟨⟨(), rfl, trivial, by rw [ht]; exact hP, va_K.moved hW.alike hK, hD⟩, hS.F ht⟩) hS.2.2 dX12_body_38
set_option maxHeartbeats 4000000 in
set_option maxRecDepth 100000 in
theorem c_X12_body (l : Launch) (dC : Nat → ClassId) (dI : Nat → Nat → Nat) (sz : Nat) (Q : RQ) (N : Nat) (σ : RS) (x1 : Int32) (R : RS) (hf : f_X12_body N σ x1 = some R) : Met l yX12_body wzX12_body ({ frames := 3, cells := 0, slots := 0, locals := 180 }) (va_Pc [.ref Q.h0, .int x1] (zPre dC dI sz (rW Q σ) (rT Q))) (va_Qv (fun (_ : Unit) => True) (fun (_ : Unit) (t : State) => zPost dC dI (va_A (rW Q σ) sz) (rW Q R) (rT Q) t) (va_A (rW Q σ) sz)) 0 0 (va_A (rW Q σ) sz) := by
  refine Met.ofW (cc := cX12_body) (maxL := 2) (ret := none) (by decide) rfl ?_
  intro p e s m args below meth c s₁ B hml hv
  obtain ⟨rfl, hsz, hZ, hP, hK, hD0⟩ := hv
  have hx := B.exec
  have hb := B.bytes
  have hr := B.returns
  have hts := atoms_spec (ws := wzX12_body) B.pre
  have hown : s.vm.findClass RX12 = some m.cls := findClass_of_methodNamed B.named
  have hlocks := B.notSynchronized
  subst hsz
  have hD := hD0.self (sz := s.heap.size)
  generalize hAe : va_A (rW Q σ) s.heap.size = A at hD ⊢
  have hA : ∀ q : Nat, s.heap.size ≤ q → A q := fun q h => by rw [← hAe]; exact Or.inr h
  have hS : va_S A s.heap s.heap [] := va_S.rf
  have hl := lv_entry ([.ref Q.h0, .int x1]) (n := 2) (Nat.le_of_ble_eq_true rfl)
  rw [lg_entry_eq]
  generalize (lg_sl ([.ref Q.h0, .int x1]) ++ List.replicate (2 - (lg_sl ([.ref Q.h0, .int x1])).length) Slot.unset).toArray = ls at hl ⊢
  have hl : lv_has ls 2 [(0, .ref Q.h0), (1, .int x1)] := hl
  unfold f_X12_body at hf
  refine lv_aload_n hx hb dX12_body_0 rfl (lv_at hl 0 rfl) ?_
  refine lv_aload_n hx hb dX12_body_1 rfl (lv_at hl 0 rfl) ?_
  refine rG_10 (v := (σ.i 10)) hx hb hts i_X12_body_X12 hown hK hP (hts (.fieldLink RX12 307 "StatementRules2Model" "tok" "I") k_X12_body_fieldLink_RX12_307_SRModel_tok_I) dX12_body_2 rfl ?_
  refine lv_sipush (v := 410) hx hb dX12_body_5 (by decide) ?_
  refine lv_icmp_eq (tgt := 25) hx hb dX12_body_8 (by decide) (fun c1 => ?_) (fun c1 => ?_)
  ·
    replace hf := (if_pos c1).symm.trans hf
    refine lv_iconst (v := 0) hx hb dX12_body_25 (by decide) ?_
    obtain ⟨p2, hcp2, hf⟩ := hf_bind hf
    have hFc := r_free hD hS hA
    refine va_calli (va_runV (As := [.int 0]) (rest := []) ⟨hx, hb, hml, hown, hts⟩ (c_X12_can l dC dI _ Q N σ 0 p2 hcp2) (cwV 1 hts hX12_body_X12_can_v341 rfl rfl rfl (by decide +kernel) ⟨Nat.le_of_ble_eq_true rfl, Nat.le_of_ble_eq_true rfl⟩) ⟨zPre.blind, va_recv hK hP (ci := 11) (q0 := 0) rfl rfl, zPre.go hZ hP hK hD⟩ rfl rfl hl.1 rfl (lv_room (Nat.le_of_ble_eq_true rfl)) dX12_body_26 ⟨Nat.le_of_ble_eq_true rfl, Nat.le_of_ble_eq_true rfl⟩) hS (fun q _ h => hFc q h) hFc (fun r3 u9 t9 H1 locs ht hvm hw hB hz1 hk1 hS => ?_)
    obtain ⟨hP, hK1, hD1⟩ := hB
    rw [ht] at hP
    have hD := hD1.weaken (fun _ _ _ h => hFc _ h)
    generalize H1 = H at hP hS ⊢
    obtain rfl : r3 = p2.1 := hw
    refine lv_if_eq (tgt := 38) hx hb dX12_body_29 (by decide) (fun c4 => ?_) (fun c4 => ?_)
    ·
      replace hf := (if_pos c4).symm.trans hf
      obtain rfl := Option.some.inj hf
      exact W.vret hx hb hr (fun t ht hW => ⟨⟨(), rfl, trivial, by rw [ht]; exact hP, va_K.moved hW.alike hK, hD⟩, hS.F ht⟩) hS.2.2 dX12_body_38
    ·
      replace hf := (if_neg c4).symm.trans hf
      exact j_X12_body_32 l dC dI Q N R hx hb hr hml hown hts hlocks hZ hA hK p2.2 x1 _ _ _ hf hP hD hS (lv_sub hl [0, 1] rfl)
  ·
    replace hf := (if_neg c1).symm.trans hf
    refine lv_aload_n hx hb dX12_body_11 rfl (lv_at hl 0 rfl) ?_
    refine rG_10 (v := (σ.i 10)) hx hb hts i_X12_body_X12 hown hK hP (hts (.fieldLink RX12 307 "StatementRules2Model" "tok" "I") k_X12_body_fieldLink_RX12_307_SRModel_tok_I) dX12_body_12 rfl ?_
    refine lv_sipush (v := 411) hx hb dX12_body_15 (by decide) ?_
    refine lv_icmp_eq (tgt := 25) hx hb dX12_body_18 (by decide) (fun c7 => ?_) (fun c7 => ?_)
    ·
      replace hf := (if_pos c7).symm.trans hf
      refine lv_iconst (v := 0) hx hb dX12_body_25 (by decide) ?_
      obtain ⟨p8, hcp8, hf⟩ := hf_bind hf
      have hFc := r_free hD hS hA
      refine va_calli (va_runV (As := [.int 0]) (rest := []) ⟨hx, hb, hml, hown, hts⟩ (c_X12_can l dC dI _ Q N σ 0 p8 hcp8) (cwV 1 hts hX12_body_X12_can_v341 rfl rfl rfl (by decide +kernel) ⟨Nat.le_of_ble_eq_true rfl, Nat.le_of_ble_eq_true rfl⟩) ⟨zPre.blind, va_recv hK hP (ci := 11) (q0 := 0) rfl rfl, zPre.go hZ hP hK hD⟩ rfl rfl hl.1 rfl (lv_room (Nat.le_of_ble_eq_true rfl)) dX12_body_26 ⟨Nat.le_of_ble_eq_true rfl, Nat.le_of_ble_eq_true rfl⟩) hS (fun q _ h => hFc q h) hFc (fun r9 u9 t9 H1 locs ht hvm hw hB hz1 hk1 hS => ?_)
      obtain ⟨hP, hK1, hD1⟩ := hB
      rw [ht] at hP
      have hD := hD1.weaken (fun _ _ _ h => hFc _ h)
      generalize H1 = H at hP hS ⊢
      obtain rfl : r9 = p8.1 := hw
      refine lv_if_eq (tgt := 38) hx hb dX12_body_29 (by decide) (fun c10 => ?_) (fun c10 => ?_)
      ·
        replace hf := (if_pos c10).symm.trans hf
        obtain rfl := Option.some.inj hf
        exact W.vret hx hb hr (fun t ht hW => ⟨⟨(), rfl, trivial, by rw [ht]; exact hP, va_K.moved hW.alike hK, hD⟩, hS.F ht⟩) hS.2.2 dX12_body_38
      ·
        replace hf := (if_neg c10).symm.trans hf
        exact j_X12_body_32 l dC dI Q N R hx hb hr hml hown hts hlocks hZ hA hK p8.2 x1 _ _ _ hf hP hD hS (lv_sub hl [0, 1] rfl)
    ·
      replace hf := (if_neg c7).symm.trans hf
      refine lv_iconst (v := 1) hx hb dX12_body_21 (by decide) ?_
      refine lv_goto (tgt := 26) hx hb dX12_body_22 (by decide) ?_
      obtain ⟨p11, hcp11, hf⟩ := hf_bind hf
      have hFc := r_free hD hS hA
      refine va_calli (va_runV (As := [.int 1]) (rest := []) ⟨hx, hb, hml, hown, hts⟩ (c_X12_can l dC dI _ Q N σ 1 p11 hcp11) (cwV 1 hts hX12_body_X12_can_v341 rfl rfl rfl (by decide +kernel) ⟨Nat.le_of_ble_eq_true rfl, Nat.le_of_ble_eq_true rfl⟩) ⟨zPre.blind, va_recv hK hP (ci := 11) (q0 := 0) rfl rfl, zPre.go hZ hP hK hD⟩ rfl rfl hl.1 rfl (lv_room (Nat.le_of_ble_eq_true rfl)) dX12_body_26 ⟨Nat.le_of_ble_eq_true rfl, Nat.le_of_ble_eq_true rfl⟩) hS (fun q _ h => hFc q h) hFc (fun r12 u9 t9 H1 locs ht hvm hw hB hz1 hk1 hS => ?_)
      obtain ⟨hP, hK1, hD1⟩ := hB
      rw [ht] at hP
      have hD := hD1.weaken (fun _ _ _ h => hFc _ h)
      generalize H1 = H at hP hS ⊢
      obtain rfl : r12 = p11.1 := hw
      refine lv_if_eq (tgt := 38) hx hb dX12_body_29 (by decide) (fun c13 => ?_) (fun c13 => ?_)
      ·
        replace hf := (if_pos c13).symm.trans hf
        obtain rfl := Option.some.inj hf
        exact W.vret hx hb hr (fun t ht hW => ⟨⟨(), rfl, trivial, by rw [ht]; exact hP, va_K.moved hW.alike hK, hD⟩, hS.F ht⟩) hS.2.2 dX12_body_38
      ·
        replace hf := (if_neg c13).symm.trans hf
        exact j_X12_body_32 l dC dI Q N R hx hb hr hml hown hts hlocks hZ hA hK p11.2 x1 _ _ _ hf hP hD hS (lv_sub hl [0, 1] rfl)
theorem k_X12_over_fieldLink_RX12_396_SRModel_res_Z : Cond.fieldLink RX12 396 "StatementRules2Model" "res" "Z" ∈ wzX12_over := List.mem_cons_of_mem _ (List.mem_append_left _ (List.mem_of_getElem? (i := 0) rfl))
theorem i_X12_over_X12 : ∀ w ∈ wsX120, w ∈ wzX12_over := fun _ h => List.mem_cons_of_mem _ (List.mem_append_right _ (List.mem_append_left _ (h)))
theorem k_X12_over_fieldLink_RX12_387_SRModel_top_I : Cond.fieldLink RX12 387 "StatementRules2Model" "top" "I" ∈ wzX12_over := List.mem_cons_of_mem _ (List.mem_append_left _ (List.mem_of_getElem? (i := 1) rfl))
set_option maxHeartbeats 4000000 in
set_option maxRecDepth 100000 in
theorem c_X12_over (l : Launch) (dC : Nat → ClassId) (dI : Nat → Nat → Nat) (sz : Nat) (Q : RQ) (N : Nat) (σ : RS) (x1 : Int32) (R : RS) (hf : f_X12_over N σ x1 = some R) : Met l yX12_over wzX12_over ({ frames := 1, cells := 0, slots := 0, locals := 60 }) (va_Pc [.ref Q.h0, .int x1] (zPre dC dI sz (rW Q σ) (rT Q))) (va_Qv (fun (_ : Unit) => True) (fun (_ : Unit) (t : State) => zPost dC dI (va_A (rW Q σ) sz) (rW Q R) (rT Q) t) (va_A (rW Q σ) sz)) 0 0 (va_A (rW Q σ) sz) := by
  refine Met.ofW (cc := cX12_over) (maxL := 2) (ret := none) (by decide) rfl ?_
  intro p e s m args below meth c s₁ B hml hv
  obtain ⟨rfl, hsz, hZ, hP, hK, hD0⟩ := hv
  have hx := B.exec
  have hb := B.bytes
  have hr := B.returns
  have hts := atoms_spec (ws := wzX12_over) B.pre
  have hown : s.vm.findClass RX12 = some m.cls := findClass_of_methodNamed B.named
  have hlocks := B.notSynchronized
  subst hsz
  have hD := hD0.self (sz := s.heap.size)
  generalize hAe : va_A (rW Q σ) s.heap.size = A at hD ⊢
  have hA : ∀ q : Nat, s.heap.size ≤ q → A q := fun q h => by rw [← hAe]; exact Or.inr h
  have hS : va_S A s.heap s.heap [] := va_S.rf
  have hl := lv_entry ([.ref Q.h0, .int x1]) (n := 2) (Nat.le_of_ble_eq_true rfl)
  rw [lg_entry_eq]
  generalize (lg_sl ([.ref Q.h0, .int x1]) ++ List.replicate (2 - (lg_sl ([.ref Q.h0, .int x1])).length) Slot.unset).toArray = ls at hl ⊢
  have hl : lv_has ls 2 [(0, .ref Q.h0), (1, .int x1)] := hl
  unfold f_X12_over at hf
  refine lv_aload_n hx hb dX12_over_0 rfl (lv_at hl 0 rfl) ?_
  refine lv_iload_n hx hb dX12_over_1 rfl (lv_at hl 1 rfl) ?_
  obtain ⟨b1, hf⟩ := hf_ite hf
  refine rP_75 hx hb hts i_X12_over_X12 hown hK hP hD hS (hts (.fieldLink RX12 396 "StatementRules2Model" "res" "Z") k_X12_over_fieldLink_RX12_396_SRModel_res_Z) dX12_over_2 b1 (fun H locs hP hD hS => ?_)
  refine lv_aload_n hx hb dX12_over_5 rfl (lv_at hl 0 rfl) ?_
  refine lv_dup hx hb dX12_over_6 rfl ?_
  refine rG_63 (v := (σ.i 63)) hx hb hts i_X12_over_X12 hown hK hP (hts (.fieldLink RX12 387 "StatementRules2Model" "top" "I") k_X12_over_fieldLink_RX12_387_SRModel_top_I) dX12_over_7 rfl ?_
  refine lv_iconst (v := 1) hx hb dX12_over_10 (by decide) ?_
  refine lv_isub hx hb dX12_over_11 ?_
  refine rP_63 hx hb hts i_X12_over_X12 hown hK hP hD hS (hts (.fieldLink RX12 387 "StatementRules2Model" "top" "I") k_X12_over_fieldLink_RX12_387_SRModel_top_I) dX12_over_12 (fun H locs hP hD hS => ?_)
  obtain rfl := Option.some.inj hf
  exact W.vret hx hb hr (fun t ht hW => ⟨⟨(), rfl, trivial, by rw [ht]; exact hP, va_K.moved hW.alike hK, hD⟩, hS.F ht⟩) hS.2.2 dX12_over_15
theorem k_X12_list_fieldLink_RX12_177_SRModel_fs_I : Cond.fieldLink RX12 177 "StatementRules2Model" "fs" "[I" ∈ wzX12_list := List.mem_cons_of_mem _ (List.mem_append_left _ (List.mem_of_getElem? (i := 0) rfl))
theorem i_X12_list_X12 : ∀ w ∈ wsX120, w ∈ wzX12_list := fun _ h => List.mem_cons_of_mem _ (List.mem_append_right _ (List.mem_append_left _ (h)))
theorem k_X12_list_fieldLink_RX12_180_SRModel_fp_I : Cond.fieldLink RX12 180 "StatementRules2Model" "fp" "[I" ∈ wzX12_list := List.mem_cons_of_mem _ (List.mem_append_left _ (List.mem_of_getElem? (i := 1) rfl))
theorem k_X12_list_fieldLink_RX12_396_SRModel_res_Z : Cond.fieldLink RX12 396 "StatementRules2Model" "res" "Z" ∈ wzX12_list := List.mem_cons_of_mem _ (List.mem_append_left _ (List.mem_of_getElem? (i := 2) rfl))
theorem k_X12_list_fieldLink_RX12_307_SRModel_tok_I : Cond.fieldLink RX12 307 "StatementRules2Model" "tok" "I" ∈ wzX12_list := List.mem_cons_of_mem _ (List.mem_append_left _ (List.mem_of_getElem? (i := 3) rfl))
theorem k_X12_list_fieldLink_RX12_304_SRModel_from_I : Cond.fieldLink RX12 304 "StatementRules2Model" "from" "I" ∈ wzX12_list := List.mem_cons_of_mem _ (List.mem_append_left _ (List.mem_of_getElem? (i := 4) rfl))
set_option maxHeartbeats 4000000 in
set_option maxRecDepth 100000 in
theorem j_X12_list_73 {p : Program} {e : Env} {s : State} {m : MethodId} {args : Array Value} {below : List Frame} {meth : Method} {c : Code} {A : Nat → Prop} (l : Launch) (dC : Nat → ClassId) (dI : Nat → Nat → Nat) (Q : RQ) (N : Nat) (R : RS) (hx : p.tables.exec = Jvm.exec) (hb : c.code = cX12_list) (hr : meth.sig.returnType = none) (hml : c.maxLocals = 2) (hown : s.vm.findClass RX12 = some m.cls) (hts : ∀ w ∈ wzX12_list, w.before args s = true) (hlocks : meth.locks = false) (hZ : zAMB s) (hA : ∀ q : Nat, s.heap.size ≤ q → A q) (hK : va_K (dC, dI) vwCl (rT Q) s) : ∀ (σ : RS) (x1 : Int32) (H : Heap) (locs : List Loc) (ls : Array Slot), f_X12_list_73 N σ x1 = some R → va_P (dC, dI) vwCl (rW Q σ) H → va_D A (rW Q σ) → va_S A s.heap H locs → lv_has ls 2 [(0, .ref Q.h0), (1, .int x1)] → W p l e ({ frames := 3, cells := 0, slots := 0, locals := 180 }) s m args below meth c H locs 0 0 (MQ below (va_Qv (fun (_ : Unit) => True) (fun (_ : Unit) (t : State) => zPost dC dI A (rW Q R) (rT Q) t) A) args s 0 0 A) (F0 m 73 ls []) := by
  intro σ x1 H locs ls hf hP hD hS hl
  unfold f_X12_list_73 at hf
  refine lv_aload_n hx hb dX12_list_73 rfl (lv_at hl 0 rfl) ?_
  refine lv_aload_n hx hb dX12_list_74 rfl (lv_at hl 0 rfl) ?_
  refine rG_66 hx hb hts i_X12_list_X12 hown hK hP (hts (.fieldLink RX12 180 "StatementRules2Model" "fp" "[I") k_X12_list_fieldLink_RX12_180_SRModel_fp_I) dX12_list_75 ?_
  refine lv_iload_n hx hb dX12_list_78 rfl (lv_at hl 1 rfl) ?_
  obtain ⟨b5, hf⟩ := hf_ite hf
  refine rL_66 (v := (σ.a 66 ((x1 : Int32).toNatClampNeg))) hx hb hK hP b5 dX12_list_79 rfl ?_
  refine lv_iconst (v := 1) hx hb dX12_list_80 (by decide) ?_
  refine lv_icmp_ne (tgt := 88) hx hb dX12_list_81 (by decide) (fun c6 => ?_) (fun c6 => ?_)
  ·
    replace hf := (if_neg c6).symm.trans hf
    refine lv_iconst (v := 0) hx hb dX12_list_88 (by decide) ?_
    obtain ⟨p7, hcp7, hf⟩ := hf_bind hf
    have hFc := r_free hD hS hA
    refine va_callv (va_runV (As := [.int 0]) (rest := []) ⟨hx, hb, hml, hown, hts⟩ (c_X12_over l dC dI _ Q N σ 0 p7 hcp7) (cwV 1 hts hX12_list_X12_over_v490 rfl rfl rfl (by decide +kernel) ⟨Nat.le_of_ble_eq_true rfl, Nat.le_of_ble_eq_true rfl⟩) ⟨zPre.blind, va_recv hK hP (ci := 11) (q0 := 0) rfl rfl, zPre.go hZ hP hK hD⟩ rfl rfl hl.1 rfl (lv_room (Nat.le_of_ble_eq_true rfl)) dX12_list_89 ⟨Nat.le_of_ble_eq_true rfl, Nat.le_of_ble_eq_true rfl⟩) hS (fun q _ h => hFc q h) hFc (fun u9 t9 H1 locs ht hvm hw hB hz1 hk1 hS => ?_)
    obtain ⟨hP, hK1, hD1⟩ := hB
    rw [ht] at hP
    have hD := hD1.weaken (fun _ _ _ h => hFc _ h)
    generalize H1 = H at hP hS ⊢
    obtain rfl := Option.some.inj hf
    exact W.vret hx hb hr (fun t ht hW => ⟨⟨(), rfl, trivial, by rw [ht]; exact hP, va_K.moved hW.alike hK, hD⟩, hS.F ht⟩) hS.2.2 dX12_list_92
  ·
    replace hf := (if_pos c6).symm.trans hf
    refine lv_iconst (v := 1) hx hb dX12_list_84 (by decide) ?_
    refine lv_goto (tgt := 89) hx hb dX12_list_85 (by decide) ?_
    obtain ⟨p9, hcp9, hf⟩ := hf_bind hf
    have hFc := r_free hD hS hA
    refine va_callv (va_runV (As := [.int 1]) (rest := []) ⟨hx, hb, hml, hown, hts⟩ (c_X12_over l dC dI _ Q N σ 1 p9 hcp9) (cwV 1 hts hX12_list_X12_over_v490 rfl rfl rfl (by decide +kernel) ⟨Nat.le_of_ble_eq_true rfl, Nat.le_of_ble_eq_true rfl⟩) ⟨zPre.blind, va_recv hK hP (ci := 11) (q0 := 0) rfl rfl, zPre.go hZ hP hK hD⟩ rfl rfl hl.1 rfl (lv_room (Nat.le_of_ble_eq_true rfl)) dX12_list_89 ⟨Nat.le_of_ble_eq_true rfl, Nat.le_of_ble_eq_true rfl⟩) hS (fun q _ h => hFc q h) hFc (fun u9 t9 H1 locs ht hvm hw hB hz1 hk1 hS => ?_)
    obtain ⟨hP, hK1, hD1⟩ := hB
    rw [ht] at hP
    have hD := hD1.weaken (fun _ _ _ h => hFc _ h)
    generalize H1 = H at hP hS ⊢
    obtain rfl := Option.some.inj hf
    exact W.vret hx hb hr (fun t ht hW => ⟨⟨(), rfl, trivial, by rw [ht]; exact hP, va_K.moved hW.alike hK, hD⟩, hS.F ht⟩) hS.2.2 dX12_list_92
set_option maxHeartbeats 4000000 in
set_option maxRecDepth 100000 in
theorem j_X12_list_110 {p : Program} {e : Env} {s : State} {m : MethodId} {args : Array Value} {below : List Frame} {meth : Method} {c : Code} {A : Nat → Prop} (l : Launch) (dC : Nat → ClassId) (dI : Nat → Nat → Nat) (Q : RQ) (N : Nat) (R : RS) (hx : p.tables.exec = Jvm.exec) (hb : c.code = cX12_list) (hr : meth.sig.returnType = none) (hml : c.maxLocals = 2) (hown : s.vm.findClass RX12 = some m.cls) (hts : ∀ w ∈ wzX12_list, w.before args s = true) (hlocks : meth.locks = false) (hZ : zAMB s) (hA : ∀ q : Nat, s.heap.size ≤ q → A q) (hK : va_K (dC, dI) vwCl (rT Q) s) : ∀ (σ : RS) (H : Heap) (locs : List Loc) (ls : Array Slot), f_X12_list_110 N σ = some R → va_P (dC, dI) vwCl (rW Q σ) H → va_D A (rW Q σ) → va_S A s.heap H locs → lv_has ls 2 [(0, .ref Q.h0)] → W p l e ({ frames := 3, cells := 0, slots := 0, locals := 180 }) s m args below meth c H locs 0 0 (MQ below (va_Qv (fun (_ : Unit) => True) (fun (_ : Unit) (t : State) => zPost dC dI A (rW Q R) (rT Q) t) A) args s 0 0 A) (F0 m 110 ls []) := by
  intro σ  H locs ls hf hP hD hS hl
  unfold f_X12_list_110 at hf
  refine lv_aload_n hx hb dX12_list_110 rfl (lv_at hl 0 rfl) ?_
  refine lv_iconst (v := 1) hx hb dX12_list_111 (by decide) ?_
  refine lv_iconst (v := 2) hx hb dX12_list_112 (by decide) ?_
  obtain ⟨p16, hcp16, hf⟩ := hf_bind hf
  have hFc := r_free hD hS hA
  refine va_callv (va_runV (As := [.int 1, .int 2]) (rest := []) ⟨hx, hb, hml, hown, hts⟩ (c_X12_then l dC dI _ Q N σ 1 2 p16 hcp16) (cwV 2 hts hX12_list_X12_then_v393 rfl rfl rfl (by decide +kernel) ⟨Nat.le_of_ble_eq_true rfl, Nat.le_of_ble_eq_true rfl⟩) ⟨zPre.blind, va_recv hK hP (ci := 11) (q0 := 0) rfl rfl, zPre.go hZ hP hK hD⟩ rfl rfl hl.1 rfl (lv_room (Nat.le_of_ble_eq_true rfl)) dX12_list_113 ⟨Nat.le_of_ble_eq_true rfl, Nat.le_of_ble_eq_true rfl⟩) hS (fun q _ h => hFc q h) hFc (fun u9 t9 H1 locs ht hvm hw hB hz1 hk1 hS => ?_)
  obtain ⟨hP, hK1, hD1⟩ := hB
  rw [ht] at hP
  have hD := hD1.weaken (fun _ _ _ h => hFc _ h)
  generalize H1 = H at hP hS ⊢
  obtain rfl := Option.some.inj hf
  exact W.vret hx hb hr (fun t ht hW => ⟨⟨(), rfl, trivial, by rw [ht]; exact hP, va_K.moved hW.alike hK, hD⟩, hS.F ht⟩) hS.2.2 dX12_list_116
set_option maxHeartbeats 4000000 in
set_option maxRecDepth 100000 in
theorem j_X12_list_37 {p : Program} {e : Env} {s : State} {m : MethodId} {args : Array Value} {below : List Frame} {meth : Method} {c : Code} {A : Nat → Prop} (l : Launch) (dC : Nat → ClassId) (dI : Nat → Nat → Nat) (Q : RQ) (N : Nat) (R : RS) (hx : p.tables.exec = Jvm.exec) (hb : c.code = cX12_list) (hr : meth.sig.returnType = none) (hml : c.maxLocals = 2) (hown : s.vm.findClass RX12 = some m.cls) (hts : ∀ w ∈ wzX12_list, w.before args s = true) (hlocks : meth.locks = false) (hZ : zAMB s) (hA : ∀ q : Nat, s.heap.size ≤ q → A q) (hK : va_K (dC, dI) vwCl (rT Q) s) : ∀ (σ : RS) (x1 : Int32) (H : Heap) (locs : List Loc) (ls : Array Slot), f_X12_list_37 N σ x1 = some R → va_P (dC, dI) vwCl (rW Q σ) H → va_D A (rW Q σ) → va_S A s.heap H locs → lv_has ls 2 [(0, .ref Q.h0), (1, .int x1)] → W p l e ({ frames := 3, cells := 0, slots := 0, locals := 180 }) s m args below meth c H locs 0 0 (MQ below (va_Qv (fun (_ : Unit) => True) (fun (_ : Unit) (t : State) => zPost dC dI A (rW Q R) (rT Q) t) A) args s 0 0 A) (F0 m 37 ls []) := by
  intro σ x1 H locs ls hf hP hD hS hl
  unfold f_X12_list_37 at hf
  refine lv_aload_n hx hb dX12_list_37 rfl (lv_at hl 0 rfl) ?_
  refine rG_10 (v := (σ.i 10)) hx hb hts i_X12_list_X12 hown hK hP (hts (.fieldLink RX12 307 "StatementRules2Model" "tok" "I") k_X12_list_fieldLink_RX12_307_SRModel_tok_I) dX12_list_38 rfl ?_
  refine lv_bipush (v := 125) hx hb dX12_list_41 (by decide) ?_
  refine lv_icmp_eq (tgt := 73) hx hb dX12_list_43 (by decide) (fun c4 => ?_) (fun c4 => ?_)
  ·
    replace hf := (if_pos c4).symm.trans hf
    exact j_X12_list_73 l dC dI Q N R hx hb hr hml hown hts hlocks hZ hA hK σ x1 _ _ _ hf hP hD hS (lv_sub hl [0, 1] rfl)
  ·
    replace hf := (if_neg c4).symm.trans hf
    refine lv_aload_n hx hb dX12_list_46 rfl (lv_at hl 0 rfl) ?_
    refine rG_10 (v := (σ.i 10)) hx hb hts i_X12_list_X12 hown hK hP (hts (.fieldLink RX12 307 "StatementRules2Model" "tok" "I") k_X12_list_fieldLink_RX12_307_SRModel_tok_I) dX12_list_47 rfl ?_
    refine lv_sipush (v := 429) hx hb dX12_list_50 (by decide) ?_
    refine lv_icmp_eq (tgt := 73) hx hb dX12_list_53 (by decide) (fun c11 => ?_) (fun c11 => ?_)
    ·
      replace hf := (if_pos c11).symm.trans hf
      exact j_X12_list_73 l dC dI Q N R hx hb hr hml hown hts hlocks hZ hA hK σ x1 _ _ _ hf hP hD hS (lv_sub hl [0, 1] rfl)
    ·
      replace hf := (if_neg c11).symm.trans hf
      refine lv_aload_n hx hb dX12_list_56 rfl (lv_at hl 0 rfl) ?_
      refine rG_10 (v := (σ.i 10)) hx hb hts i_X12_list_X12 hown hK hP (hts (.fieldLink RX12 307 "StatementRules2Model" "tok" "I") k_X12_list_fieldLink_RX12_307_SRModel_tok_I) dX12_list_57 rfl ?_
      refine lv_sipush (v := 430) hx hb dX12_list_60 (by decide) ?_
      refine lv_icmp_eq (tgt := 73) hx hb dX12_list_63 (by decide) (fun c12 => ?_) (fun c12 => ?_)
      ·
        replace hf := (if_pos c12).symm.trans hf
        exact j_X12_list_73 l dC dI Q N R hx hb hr hml hown hts hlocks hZ hA hK σ x1 _ _ _ hf hP hD hS (lv_sub hl [0, 1] rfl)
      ·
        replace hf := (if_neg c12).symm.trans hf
        refine lv_aload_n hx hb dX12_list_66 rfl (lv_at hl 0 rfl) ?_
        refine rG_10 (v := (σ.i 10)) hx hb hts i_X12_list_X12 hown hK hP (hts (.fieldLink RX12 307 "StatementRules2Model" "tok" "I") k_X12_list_fieldLink_RX12_307_SRModel_tok_I) dX12_list_67 rfl ?_
        refine lv_if_ne (tgt := 93) hx hb dX12_list_70 (by decide) (fun c13 => ?_) (fun c13 => ?_)
        ·
          replace hf := (if_neg c13).symm.trans hf
          refine lv_aload_n hx hb dX12_list_93 rfl (lv_at hl 0 rfl) ?_
          refine rG_66 hx hb hts i_X12_list_X12 hown hK hP (hts (.fieldLink RX12 180 "StatementRules2Model" "fp" "[I") k_X12_list_fieldLink_RX12_180_SRModel_fp_I) dX12_list_94 ?_
          refine lv_iload_n hx hb dX12_list_97 rfl (lv_at hl 1 rfl) ?_
          obtain ⟨b14, hf⟩ := hf_ite hf
          refine rL_66 (v := (σ.a 66 ((x1 : Int32).toNatClampNeg))) hx hb hK hP b14 dX12_list_98 rfl ?_
          refine lv_if_ne (tgt := 110) hx hb dX12_list_99 (by decide) (fun c15 => ?_) (fun c15 => ?_)
          ·
            replace hf := (if_neg c15).symm.trans hf
            exact j_X12_list_110 l dC dI Q N R hx hb hr hml hown hts hlocks hZ hA hK σ _ _ _ hf hP hD hS (lv_sub hl [0] rfl)
          ·
            replace hf := (if_pos c15).symm.trans hf
            refine lv_aload_n hx hb dX12_list_102 rfl (lv_at hl 0 rfl) ?_
            refine lv_aload_n hx hb dX12_list_103 rfl (lv_at hl 0 rfl) ?_
            refine rG_11 (v := (σ.i 11)) hx hb hts i_X12_list_X12 hown hK hP (hts (.fieldLink RX12 304 "StatementRules2Model" "from" "I") k_X12_list_fieldLink_RX12_304_SRModel_from_I) dX12_list_104 rfl ?_
            obtain ⟨p18, hcp18, hf⟩ := hf_bind hf
            have hFc := r_free hD hS hA
            refine va_callv (va_runV (As := [.int (σ.i 11)]) (rest := []) ⟨hx, hb, hml, hown, hts⟩ (c_X12_note l dC dI _ Q N σ (σ.i 11) p18 hcp18) (cwV 1 hts hX12_list_X12_note_v487 rfl rfl rfl (by decide +kernel) ⟨Nat.le_of_ble_eq_true rfl, Nat.le_of_ble_eq_true rfl⟩) ⟨zPre.blind, va_recv hK hP (ci := 11) (q0 := 0) rfl rfl, zPre.go hZ hP hK hD⟩ rfl rfl hl.1 rfl (lv_room (Nat.le_of_ble_eq_true rfl)) dX12_list_107 ⟨Nat.le_of_ble_eq_true rfl, Nat.le_of_ble_eq_true rfl⟩) hS (fun q _ h => hFc q h) hFc (fun u9 t9 H1 locs ht hvm hw hB hz1 hk1 hS => ?_)
            obtain ⟨hP, hK1, hD1⟩ := hB
            rw [ht] at hP
            have hD := hD1.weaken (fun _ _ _ h => hFc _ h)
            generalize H1 = H at hP hS ⊢
            exact j_X12_list_110 l dC dI Q N R hx hb hr hml hown hts hlocks hZ hA hK p18 _ _ _ hf hP hD hS (lv_sub hl [0] rfl)
        ·
          replace hf := (if_pos c13).symm.trans hf
          exact j_X12_list_73 l dC dI Q N R hx hb hr hml hown hts hlocks hZ hA hK σ x1 _ _ _ hf hP hD hS (lv_sub hl [0, 1] rfl)
set_option maxHeartbeats 4000000 in
set_option maxRecDepth 100000 in
theorem c_X12_list (l : Launch) (dC : Nat → ClassId) (dI : Nat → Nat → Nat) (sz : Nat) (Q : RQ) (N : Nat) (σ : RS) (x1 : Int32) (R : RS) (hf : f_X12_list N σ x1 = some R) : Met l yX12_list wzX12_list ({ frames := 3, cells := 0, slots := 0, locals := 180 }) (va_Pc [.ref Q.h0, .int x1] (zPre dC dI sz (rW Q σ) (rT Q))) (va_Qv (fun (_ : Unit) => True) (fun (_ : Unit) (t : State) => zPost dC dI (va_A (rW Q σ) sz) (rW Q R) (rT Q) t) (va_A (rW Q σ) sz)) 0 0 (va_A (rW Q σ) sz) := by
  refine Met.ofW (cc := cX12_list) (maxL := 2) (ret := none) (by decide) rfl ?_
  intro p e s m args below meth c s₁ B hml hv
  obtain ⟨rfl, hsz, hZ, hP, hK, hD0⟩ := hv
  have hx := B.exec
  have hb := B.bytes
  have hr := B.returns
  have hts := atoms_spec (ws := wzX12_list) B.pre
  have hown : s.vm.findClass RX12 = some m.cls := findClass_of_methodNamed B.named
  have hlocks := B.notSynchronized
  subst hsz
  have hD := hD0.self (sz := s.heap.size)
  generalize hAe : va_A (rW Q σ) s.heap.size = A at hD ⊢
  have hA : ∀ q : Nat, s.heap.size ≤ q → A q := fun q h => by rw [← hAe]; exact Or.inr h
  have hS : va_S A s.heap s.heap [] := va_S.rf
  have hl := lv_entry ([.ref Q.h0, .int x1]) (n := 2) (Nat.le_of_ble_eq_true rfl)
  rw [lg_entry_eq]
  generalize (lg_sl ([.ref Q.h0, .int x1]) ++ List.replicate (2 - (lg_sl ([.ref Q.h0, .int x1])).length) Slot.unset).toArray = ls at hl ⊢
  have hl : lv_has ls 2 [(0, .ref Q.h0), (1, .int x1)] := hl
  unfold f_X12_list at hf
  refine lv_aload_n hx hb dX12_list_0 rfl (lv_at hl 0 rfl) ?_
  refine rG_65 hx hb hts i_X12_list_X12 hown hK hP (hts (.fieldLink RX12 177 "StatementRules2Model" "fs" "[I") k_X12_list_fieldLink_RX12_177_SRModel_fs_I) dX12_list_1 ?_
  refine lv_iload_n hx hb dX12_list_4 rfl (lv_at hl 1 rfl) ?_
  obtain ⟨b1, hf⟩ := hf_ite hf
  refine rL_65 (v := (σ.a 65 ((x1 : Int32).toNatClampNeg))) hx hb hK hP b1 dX12_list_5 rfl ?_
  refine lv_if_ne (tgt := 19) hx hb dX12_list_6 (by decide) (fun c2 => ?_) (fun c2 => ?_)
  ·
    replace hf := (if_neg c2).symm.trans hf
    refine lv_aload_n hx hb dX12_list_19 rfl (lv_at hl 0 rfl) ?_
    refine rG_66 hx hb hts i_X12_list_X12 hown hK hP (hts (.fieldLink RX12 180 "StatementRules2Model" "fp" "[I") k_X12_list_fieldLink_RX12_180_SRModel_fp_I) dX12_list_20 ?_
    refine lv_iload_n hx hb dX12_list_23 rfl (lv_at hl 1 rfl) ?_
    refine lv_aload_n hx hb dX12_list_24 rfl (lv_at hl 0 rfl) ?_
    refine rG_75 (v := (σ.i 75)) hx hb hts i_X12_list_X12 hown hK hP (hts (.fieldLink RX12 396 "StatementRules2Model" "res" "Z") k_X12_list_fieldLink_RX12_396_SRModel_res_Z) dX12_list_25 rfl ?_
    refine lv_if_eq (tgt := 35) hx hb dX12_list_28 (by decide) (fun c3 => ?_) (fun c3 => ?_)
    ·
      replace hf := (if_pos c3).symm.trans hf
      refine lv_iconst (v := 0) hx hb dX12_list_35 (by decide) ?_
      refine rS_66 hx hb hK hP hD hS b1 dX12_list_36 (fun H locs hP hD hS => ?_)
      exact j_X12_list_37 l dC dI Q N R hx hb hr hml hown hts hlocks hZ hA hK (RS.setA σ 66 ((x1 : Int32).toNatClampNeg) 0) x1 _ _ _ hf hP hD hS (lv_sub hl [0, 1] rfl)
    ·
      replace hf := (if_neg c3).symm.trans hf
      refine lv_iconst (v := 1) hx hb dX12_list_31 (by decide) ?_
      refine lv_goto (tgt := 36) hx hb dX12_list_32 (by decide) ?_
      refine rS_66 hx hb hK hP hD hS b1 dX12_list_36 (fun H locs hP hD hS => ?_)
      exact j_X12_list_37 l dC dI Q N R hx hb hr hml hown hts hlocks hZ hA hK (RS.setA σ 66 ((x1 : Int32).toNatClampNeg) 1) x1 _ _ _ hf hP hD hS (lv_sub hl [0, 1] rfl)
  ·
    replace hf := (if_pos c2).symm.trans hf
    refine lv_aload_n hx hb dX12_list_9 rfl (lv_at hl 0 rfl) ?_
    refine rG_66 hx hb hts i_X12_list_X12 hown hK hP (hts (.fieldLink RX12 180 "StatementRules2Model" "fp" "[I") k_X12_list_fieldLink_RX12_180_SRModel_fp_I) dX12_list_10 ?_
    refine lv_iload_n hx hb dX12_list_13 rfl (lv_at hl 1 rfl) ?_
    refine lv_iconst (v := 1) hx hb dX12_list_14 (by decide) ?_
    refine rS_66 hx hb hK hP hD hS b1 dX12_list_15 (fun H locs hP hD hS => ?_)
    refine lv_goto (tgt := 37) hx hb dX12_list_16 (by decide) ?_
    exact j_X12_list_37 l dC dI Q N R hx hb hr hml hown hts hlocks hZ hA hK (RS.setA σ 66 ((x1 : Int32).toNatClampNeg) 1) x1 _ _ _ hf hP hD hS (lv_sub hl [0, 1] rfl)
theorem k_X12_jump_fieldLink_RX12_307_SRModel_tok_I : Cond.fieldLink RX12 307 "StatementRules2Model" "tok" "I" ∈ wzX12_jump := List.mem_cons_of_mem _ (List.mem_append_left _ (List.mem_of_getElem? (i := 0) rfl))
theorem i_X12_jump_X12 : ∀ w ∈ wsX120, w ∈ wzX12_jump := fun _ h => List.mem_cons_of_mem _ (List.mem_append_right _ (List.mem_append_left _ (h)))
theorem k_X12_jump_fieldLink_RX12_304_SRModel_from_I : Cond.fieldLink RX12 304 "StatementRules2Model" "from" "I" ∈ wzX12_jump := List.mem_cons_of_mem _ (List.mem_append_left _ (List.mem_of_getElem? (i := 1) rfl))
theorem k_X12_jump_fieldLink_RX12_527_SRModel_jumps_I : Cond.fieldLink RX12 527 "StatementRules2Model" "jumps" "I" ∈ wzX12_jump := List.mem_cons_of_mem _ (List.mem_append_left _ (List.mem_of_getElem? (i := 2) rfl))
theorem k_X12_jump_fieldLink_RX12_367_SRModel_goals_I : Cond.fieldLink RX12 367 "StatementRules2Model" "goals" "I" ∈ wzX12_jump := List.mem_cons_of_mem _ (List.mem_append_left _ (List.mem_of_getElem? (i := 3) rfl))
theorem k_X12_jump_fieldLink_RX12_150_SRModel_continues_I : Cond.fieldLink RX12 150 "StatementRules2Model" "continues" "[I" ∈ wzX12_jump := List.mem_cons_of_mem _ (List.mem_append_left _ (List.mem_of_getElem? (i := 4) rfl))
theorem k_X12_jump_fieldLink_RX12_90_SRModel_iy_I : Cond.fieldLink RX12 90 "StatementRules2Model" "iy" "[I" ∈ wzX12_jump := List.mem_cons_of_mem _ (List.mem_append_left _ (List.mem_of_getElem? (i := 5) rfl))
theorem k_X12_jump_fieldLink_RX12_144_SRModel_goalDepth_I : Cond.fieldLink RX12 144 "StatementRules2Model" "goalDepth" "[I" ∈ wzX12_jump := List.mem_cons_of_mem _ (List.mem_append_left _ (List.mem_of_getElem? (i := 6) rfl))
theorem k_X12_jump_fieldLink_RX12_147_SRModel_breaks_I : Cond.fieldLink RX12 147 "StatementRules2Model" "breaks" "[I" ∈ wzX12_jump := List.mem_cons_of_mem _ (List.mem_append_left _ (List.mem_of_getElem? (i := 7) rfl))
theorem k_X12_jump_fieldLink_RX12_141_SRModel_goalLoop_I : Cond.fieldLink RX12 141 "StatementRules2Model" "goalLoop" "[I" ∈ wzX12_jump := List.mem_cons_of_mem _ (List.mem_append_left _ (List.mem_of_getElem? (i := 8) rfl))
theorem k_X12_jump_fieldLink_RX12_135_SRModel_goalSort_I : Cond.fieldLink RX12 135 "StatementRules2Model" "goalSort" "[I" ∈ wzX12_jump := List.mem_cons_of_mem _ (List.mem_append_left _ (List.mem_of_getElem? (i := 9) rfl))
theorem k_X12_jump_fieldLink_RX12_138_SRModel_goalName_J : Cond.fieldLink RX12 138 "StatementRules2Model" "goalName" "[J" ∈ wzX12_jump := List.mem_cons_of_mem _ (List.mem_append_left _ (List.mem_of_getElem? (i := 10) rfl))
theorem k_X12_jump_fieldLink_RX12_327_SRModel_name_J : Cond.fieldLink RX12 327 "StatementRules2Model" "name" "J" ∈ wzX12_jump := List.mem_cons_of_mem _ (List.mem_append_left _ (List.mem_of_getElem? (i := 11) rfl))
set_option maxHeartbeats 4000000 in
set_option maxRecDepth 100000 in
theorem j_X12_jump_317 {p : Program} {e : Env} {s : State} {m : MethodId} {args : Array Value} {below : List Frame} {meth : Method} {c : Code} {A : Nat → Prop} (l : Launch) (dC : Nat → ClassId) (dI : Nat → Nat → Nat) (Q : RQ) (N : Nat) (R : RS) (hx : p.tables.exec = Jvm.exec) (hb : c.code = cX12_jump) (hr : meth.sig.returnType = none) (hml : c.maxLocals = 7) (hown : s.vm.findClass RX12 = some m.cls) (hts : ∀ w ∈ wzX12_jump, w.before args s = true) (hlocks : meth.locks = false) (hZ : zAMB s) (hA : ∀ q : Nat, s.heap.size ≤ q → A q) (hK : va_K (dC, dI) vwCl (rT Q) s) : ∀ (σ : RS) (H : Heap) (locs : List Loc) (ls : Array Slot), f_X12_jump_317 N σ = some R → va_P (dC, dI) vwCl (rW Q σ) H → va_D A (rW Q σ) → va_S A s.heap H locs → lv_has ls 7 [(0, .ref Q.h0)] → W p l e ({ frames := 5, cells := 0, slots := 0, locals := 300 }) s m args below meth c H locs 0 0 (MQ below (va_Qv (fun (_ : Unit) => True) (fun (_ : Unit) (t : State) => zPost dC dI A (rW Q R) (rT Q) t) A) args s 0 0 A) (F0 m 317 ls []) := by
  intro σ  H locs ls hf hP hD hS hl
  unfold f_X12_jump_317 at hf
  refine lv_aload_n hx hb dX12_jump_317 rfl (lv_at hl 0 rfl) ?_
  refine lv_bipush (v := 59) hx hb dX12_jump_318 (by decide) ?_
  obtain ⟨p18, hcp18, hf⟩ := hf_bind hf
  have hFc := r_free hD hS hA
  refine va_calli (va_runV (As := [.int 59]) (rest := []) ⟨hx, hb, hml, hown, hts⟩ (c_X12_need l dC dI _ Q N σ 59 p18 hcp18) (cwV 1 hts hX12_jump_X12_need_v355 rfl rfl rfl (by decide +kernel) ⟨Nat.le_of_ble_eq_true rfl, Nat.le_of_ble_eq_true rfl⟩) ⟨zPre.blind, va_recv hK hP (ci := 11) (q0 := 0) rfl rfl, zPre.go hZ hP hK hD⟩ rfl rfl hl.1 rfl (lv_room (Nat.le_of_ble_eq_true rfl)) dX12_jump_320 ⟨Nat.le_of_ble_eq_true rfl, Nat.le_of_ble_eq_true rfl⟩) hS (fun q _ h => hFc q h) hFc (fun r19 u9 t9 H1 locs ht hvm hw hB hz1 hk1 hS => ?_)
  obtain ⟨hP, hK1, hD1⟩ := hB
  rw [ht] at hP
  have hD := hD1.weaken (fun _ _ _ h => hFc _ h)
  generalize H1 = H at hP hS ⊢
  obtain rfl : r19 = p18.1 := hw
  refine lv_pop hx hb dX12_jump_323 rfl ?_
  obtain rfl := Option.some.inj hf
  exact W.vret hx hb hr (fun t ht hW => ⟨⟨(), rfl, trivial, by rw [ht]; exact hP, va_K.moved hW.alike hK, hD⟩, hS.F ht⟩) hS.2.2 dX12_jump_324
set_option maxHeartbeats 4000000 in
set_option maxRecDepth 100000 in
theorem j_X12_jump_302 {p : Program} {e : Env} {s : State} {m : MethodId} {args : Array Value} {below : List Frame} {meth : Method} {c : Code} {A : Nat → Prop} (l : Launch) (dC : Nat → ClassId) (dI : Nat → Nat → Nat) (Q : RQ) (N : Nat) (R : RS) (hx : p.tables.exec = Jvm.exec) (hb : c.code = cX12_jump) (hr : meth.sig.returnType = none) (hml : c.maxLocals = 7) (hown : s.vm.findClass RX12 = some m.cls) (hts : ∀ w ∈ wzX12_jump, w.before args s = true) (hlocks : meth.locks = false) (hZ : zAMB s) (hA : ∀ q : Nat, s.heap.size ≤ q → A q) (hK : va_K (dC, dI) vwCl (rT Q) s) : ∀ (σ : RS) (x1 : Int32) (x3 : Int32) (x4 : Int32) (H : Heap) (locs : List Loc) (ls : Array Slot), f_X12_jump_302 N σ x1 x3 x4 = some R → va_P (dC, dI) vwCl (rW Q σ) H → va_D A (rW Q σ) → va_S A s.heap H locs → lv_has ls 7 [(0, .ref Q.h0), (1, .int x1), (3, .int x3), (4, .int x4)] → W p l e ({ frames := 5, cells := 0, slots := 0, locals := 300 }) s m args below meth c H locs 0 0 (MQ below (va_Qv (fun (_ : Unit) => True) (fun (_ : Unit) (t : State) => zPost dC dI A (rW Q R) (rT Q) t) A) args s 0 0 A) (F0 m 302 ls []) := by
  intro σ x1 x3 x4 H locs ls hf hP hD hS hl
  unfold f_X12_jump_302 at hf
  refine lv_aload_n hx hb dX12_jump_302 rfl (lv_at hl 0 rfl) ?_
  refine lv_iload hx hb dX12_jump_303 (lv_at hl 3 rfl) ?_
  refine lv_iload_n hx hb dX12_jump_305 rfl (lv_at hl 1 rfl) ?_
  obtain ⟨p15, hcp15, hf⟩ := hf_bind hf
  have hFc := r_free hD hS hA
  refine va_callv (va_runV (As := [.int x4, .int x1]) (rest := []) ⟨hx, hb, hml, hown, hts⟩ (c_X12_pend l dC dI _ Q N σ x4 x1 p15 hcp15) (cwV 2 hts hX12_jump_X12_pend_v530 rfl rfl rfl (by decide +kernel) ⟨Nat.le_of_ble_eq_true rfl, Nat.le_of_ble_eq_true rfl⟩) ⟨zPre.blind, va_recv hK hP (ci := 11) (q0 := 0) rfl rfl, zPre.go hZ hP hK hD⟩ rfl rfl hl.1 rfl (lv_room (Nat.le_of_ble_eq_true rfl)) dX12_jump_306 ⟨Nat.le_of_ble_eq_true rfl, Nat.le_of_ble_eq_true rfl⟩) hS (fun q _ h => hFc q h) hFc (fun u9 t9 H1 locs ht hvm hw hB hz1 hk1 hS => ?_)
  obtain ⟨hP, hK1, hD1⟩ := hB
  rw [ht] at hP
  have hD := hD1.weaken (fun _ _ _ h => hFc _ h)
  generalize H1 = H at hP hS ⊢
  refine lv_iload_n hx hb dX12_jump_309 rfl (lv_at hl 2 rfl) ?_
  refine lv_if_eq (tgt := 317) hx hb dX12_jump_310 (by decide) (fun c17 => ?_) (fun c17 => ?_)
  ·
    replace hf := (if_pos c17).symm.trans hf
    exact j_X12_jump_317 l dC dI Q N R hx hb hr hml hown hts hlocks hZ hA hK p15 _ _ _ hf hP hD hS (lv_sub hl [0] rfl)
  ·
    replace hf := (if_neg c17).symm.trans hf
    refine lv_aload_n hx hb dX12_jump_313 rfl (lv_at hl 0 rfl) ?_
    obtain ⟨p20, hcp20, hf⟩ := hf_bind hf
    have hFc := r_free hD hS hA
    refine va_callv (va_runV (As := []) (rest := []) ⟨hx, hb, hml, hown, hts⟩ (c_X12_next l dC dI _ Q N p15 p20 hcp20) (cwV 0 hts hX12_jump_X12_next_v345 rfl rfl rfl (by decide +kernel) ⟨Nat.le_of_ble_eq_true rfl, Nat.le_of_ble_eq_true rfl⟩) ⟨zPre.blind, va_recv hK hP (ci := 11) (q0 := 0) rfl rfl, zPre.go hZ hP hK hD⟩ rfl rfl hl.1 rfl (lv_room (Nat.le_of_ble_eq_true rfl)) dX12_jump_314 ⟨Nat.le_of_ble_eq_true rfl, Nat.le_of_ble_eq_true rfl⟩) hS (fun q _ h => hFc q h) hFc (fun u9 t9 H1 locs ht hvm hw hB hz1 hk1 hS => ?_)
    obtain ⟨hP, hK1, hD1⟩ := hB
    rw [ht] at hP
    have hD := hD1.weaken (fun _ _ _ h => hFc _ h)
    generalize H1 = H at hP hS ⊢
    exact j_X12_jump_317 l dC dI Q N R hx hb hr hml hown hts hlocks hZ hA hK p20 _ _ _ hf hP hD hS (lv_sub hl [0] rfl)
set_option maxHeartbeats 4000000 in
set_option maxRecDepth 100000 in
theorem j_X12_jump_263 {p : Program} {e : Env} {s : State} {m : MethodId} {args : Array Value} {below : List Frame} {meth : Method} {c : Code} {A : Nat → Prop} (l : Launch) (dC : Nat → ClassId) (dI : Nat → Nat → Nat) (Q : RQ) (N : Nat) (R : RS) (hx : p.tables.exec = Jvm.exec) (hb : c.code = cX12_jump) (hr : meth.sig.returnType = none) (hml : c.maxLocals = 7) (hown : s.vm.findClass RX12 = some m.cls) (hts : ∀ w ∈ wzX12_jump, w.before args s = true) (hlocks : meth.locks = false) (hZ : zAMB s) (hA : ∀ q : Nat, s.heap.size ≤ q → A q) (hK : va_K (dC, dI) vwCl (rT Q) s) : ∀ (σ : RS) (x1 : Int32) (x3 : Int32) (x4 : Int32) (x5 : Int32) (H : Heap) (locs : List Loc) (ls : Array Slot), f_X12_jump_263 N σ x1 x3 x4 x5 = some R → va_P (dC, dI) vwCl (rW Q σ) H → va_D A (rW Q σ) → va_S A s.heap H locs → lv_has ls 7 [(0, .ref Q.h0), (1, .int x1), (3, .int x3), (4, .int x4), (5, .int x5)] → W p l e ({ frames := 5, cells := 0, slots := 0, locals := 300 }) s m args below meth c H locs 0 0 (MQ below (va_Qv (fun (_ : Unit) => True) (fun (_ : Unit) (t : State) => zPost dC dI A (rW Q R) (rT Q) t) A) args s 0 0 A) (F0 m 263 ls []) := by
  intro σ x1 x3 x4 x5 H locs ls hf hP hD hS hl
  unfold f_X12_jump_263 at hf
  refine lv_aload_n hx hb dX12_jump_263 rfl (lv_at hl 0 rfl) ?_
  refine rG_23 hx hb hts i_X12_jump_X12 hown hK hP (hts (.fieldLink RX12 90 "StatementRules2Model" "iy" "[I") k_X12_jump_fieldLink_RX12_90_SRModel_iy_I) dX12_jump_264 ?_
  refine lv_iload hx hb dX12_jump_267 (lv_at hl 4 rfl) ?_
  refine lv_aload_n hx hb dX12_jump_269 rfl (lv_at hl 0 rfl) ?_
  refine rG_47 hx hb hts i_X12_jump_X12 hown hK hP (hts (.fieldLink RX12 144 "StatementRules2Model" "goalDepth" "[I") k_X12_jump_fieldLink_RX12_144_SRModel_goalDepth_I) dX12_jump_270 ?_
  refine lv_iload hx hb dX12_jump_273 (lv_at hl 3 rfl) ?_
  obtain ⟨b12, hf⟩ := hf_ite hf
  refine rL_47 (v := (σ.a 47 ((x4 : Int32).toNatClampNeg))) hx hb hK hP b12 dX12_jump_275 rfl ?_
  obtain ⟨b13, hf⟩ := hf_ite hf
  refine rS_23 hx hb hK hP hD hS b13 dX12_jump_276 (fun H locs hP hD hS => ?_)
  refine lv_iload_n hx hb dX12_jump_277 rfl (lv_at hl 1 rfl) ?_
  refine lv_if_eq (tgt := 293) hx hb dX12_jump_278 (by decide) (fun c14 => ?_) (fun c14 => ?_)
  ·
    replace hf := (if_pos c14).symm.trans hf
    refine lv_aload_n hx hb dX12_jump_293 rfl (lv_at hl 0 rfl) ?_
    refine rG_49 hx hb hts i_X12_jump_X12 hown hK hP (hts (.fieldLink RX12 150 "StatementRules2Model" "continues" "[I") k_X12_jump_fieldLink_RX12_150_SRModel_continues_I) dX12_jump_294 ?_
    refine lv_iload hx hb dX12_jump_297 (lv_at hl 3 rfl) ?_
    refine lv_iload hx hb dX12_jump_299 (lv_at hl 4 rfl) ?_
    refine rS_49 hx hb hK hP hD hS b12 dX12_jump_301 (fun H locs hP hD hS => ?_)
    exact j_X12_jump_302 l dC dI Q N R hx hb hr hml hown hts hlocks hZ hA hK (RS.setA (RS.setA σ 23 ((x5 : Int32).toNatClampNeg) (σ.a 47 ((x4 : Int32).toNatClampNeg))) 49 ((x4 : Int32).toNatClampNeg) x5) x1 x3 x4 _ _ _ hf hP hD hS (lv_sub hl [0, 1, 2, 3] rfl)
  ·
    replace hf := (if_neg c14).symm.trans hf
    refine lv_aload_n hx hb dX12_jump_281 rfl (lv_at hl 0 rfl) ?_
    refine rG_48 hx hb hts i_X12_jump_X12 hown hK hP (hts (.fieldLink RX12 147 "StatementRules2Model" "breaks" "[I") k_X12_jump_fieldLink_RX12_147_SRModel_breaks_I) dX12_jump_282 ?_
    refine lv_iload hx hb dX12_jump_285 (lv_at hl 3 rfl) ?_
    refine lv_iload hx hb dX12_jump_287 (lv_at hl 4 rfl) ?_
    refine rS_48 hx hb hK hP hD hS b12 dX12_jump_289 (fun H locs hP hD hS => ?_)
    refine lv_goto (tgt := 302) hx hb dX12_jump_290 (by decide) ?_
    exact j_X12_jump_302 l dC dI Q N R hx hb hr hml hown hts hlocks hZ hA hK (RS.setA (RS.setA σ 23 ((x5 : Int32).toNatClampNeg) (σ.a 47 ((x4 : Int32).toNatClampNeg))) 48 ((x4 : Int32).toNatClampNeg) x5) x1 x3 x4 _ _ _ hf hP hD hS (lv_sub hl [0, 1, 2, 3] rfl)
set_option maxHeartbeats 4000000 in
set_option maxRecDepth 100000 in
theorem j_X12_jump_234 {p : Program} {e : Env} {s : State} {m : MethodId} {args : Array Value} {below : List Frame} {meth : Method} {c : Code} {A : Nat → Prop} (l : Launch) (dC : Nat → ClassId) (dI : Nat → Nat → Nat) (Q : RQ) (N : Nat) (R : RS) (hx : p.tables.exec = Jvm.exec) (hb : c.code = cX12_jump) (hr : meth.sig.returnType = none) (hml : c.maxLocals = 7) (hown : s.vm.findClass RX12 = some m.cls) (hts : ∀ w ∈ wzX12_jump, w.before args s = true) (hlocks : meth.locks = false) (hZ : zAMB s) (hA : ∀ q : Nat, s.heap.size ≤ q → A q) (hK : va_K (dC, dI) vwCl (rT Q) s) : ∀ (σ : RS) (x1 : Int32) (x3 : Int32) (x4 : Int32) (H : Heap) (locs : List Loc) (ls : Array Slot), f_X12_jump_234 N σ x1 x3 x4 = some R → va_P (dC, dI) vwCl (rW Q σ) H → va_D A (rW Q σ) → va_S A s.heap H locs → lv_has ls 7 [(0, .ref Q.h0), (1, .int x1), (3, .int x3), (4, .int x4)] → W p l e ({ frames := 5, cells := 0, slots := 0, locals := 300 }) s m args below meth c H locs 0 0 (MQ below (va_Qv (fun (_ : Unit) => True) (fun (_ : Unit) (t : State) => zPost dC dI A (rW Q R) (rT Q) t) A) args s 0 0 A) (F0 m 234 ls []) := by
  intro σ x1 x3 x4 H locs ls hf hP hD hS hl
  unfold f_X12_jump_234 at hf
  refine lv_aload_n hx hb dX12_jump_234 rfl (lv_at hl 0 rfl) ?_
  refine lv_bipush (v := 36) hx hb dX12_jump_235 (by decide) ?_
  refine lv_iload_n hx hb dX12_jump_237 rfl (lv_at hl 1 rfl) ?_
  refine lv_if_eq (tgt := 251) hx hb dX12_jump_238 (by decide) (fun c8 => ?_) (fun c8 => ?_)
  ·
    replace hf := (if_pos c8).symm.trans hf
    refine lv_aload_n hx hb dX12_jump_251 rfl (lv_at hl 0 rfl) ?_
    refine rG_49 hx hb hts i_X12_jump_X12 hown hK hP (hts (.fieldLink RX12 150 "StatementRules2Model" "continues" "[I") k_X12_jump_fieldLink_RX12_150_SRModel_continues_I) dX12_jump_252 ?_
    refine lv_iload hx hb dX12_jump_255 (lv_at hl 3 rfl) ?_
    obtain ⟨b9, hf⟩ := hf_ite hf
    refine rL_49 (v := (σ.a 49 ((x4 : Int32).toNatClampNeg))) hx hb hK hP b9 dX12_jump_257 rfl ?_
    obtain ⟨p10, hcp10, hf⟩ := hf_bind hf
    have hFc := r_free hD hS hA
    refine va_calli (va_runV (As := [.int 36, .int (σ.a 49 ((x4 : Int32).toNatClampNeg))]) (rest := []) ⟨hx, hb, hml, hown, hts⟩ (c_X12_emit l dC dI _ Q N σ 36 (σ.a 49 ((x4 : Int32).toNatClampNeg)) p10 hcp10) (cwV 2 hts hX12_jump_X12_emit_v464 rfl rfl rfl (by decide +kernel) ⟨Nat.le_of_ble_eq_true rfl, Nat.le_of_ble_eq_true rfl⟩) ⟨zPre.blind, va_recv hK hP (ci := 11) (q0 := 0) rfl rfl, zPre.go hZ hP hK hD⟩ rfl rfl hl.1 rfl (lv_room (Nat.le_of_ble_eq_true rfl)) dX12_jump_258 ⟨Nat.le_of_ble_eq_true rfl, Nat.le_of_ble_eq_true rfl⟩) hS (fun q _ h => hFc q h) hFc (fun r11 u9 t9 H1 locs ht hvm hw hB hz1 hk1 hS => ?_)
    obtain ⟨hP, hK1, hD1⟩ := hB
    rw [ht] at hP
    have hD := hD1.weaken (fun _ _ _ h => hFc _ h)
    generalize H1 = H at hP hS ⊢
    obtain rfl : r11 = p10.1 := hw
    refine lv_istore (lv' := [(5, .int p10.1), (0, .ref Q.h0), (1, .int x1), (3, .int x3), (4, .int x4)]) hx hb dX12_jump_261 hl (by decide) rfl (fun ls hl => ?_)
    exact j_X12_jump_263 l dC dI Q N R hx hb hr hml hown hts hlocks hZ hA hK p10.2 x1 x3 x4 p10.1 _ _ _ hf hP hD hS (lv_sub hl [1, 2, 3, 4, 0] rfl)
  ·
    replace hf := (if_neg c8).symm.trans hf
    refine lv_aload_n hx hb dX12_jump_241 rfl (lv_at hl 0 rfl) ?_
    refine rG_48 hx hb hts i_X12_jump_X12 hown hK hP (hts (.fieldLink RX12 147 "StatementRules2Model" "breaks" "[I") k_X12_jump_fieldLink_RX12_147_SRModel_breaks_I) dX12_jump_242 ?_
    refine lv_iload hx hb dX12_jump_245 (lv_at hl 3 rfl) ?_
    obtain ⟨b22, hf⟩ := hf_ite hf
    refine rL_48 (v := (σ.a 48 ((x4 : Int32).toNatClampNeg))) hx hb hK hP b22 dX12_jump_247 rfl ?_
    refine lv_goto (tgt := 258) hx hb dX12_jump_248 (by decide) ?_
    obtain ⟨p23, hcp23, hf⟩ := hf_bind hf
    have hFc := r_free hD hS hA
    refine va_calli (va_runV (As := [.int 36, .int (σ.a 48 ((x4 : Int32).toNatClampNeg))]) (rest := []) ⟨hx, hb, hml, hown, hts⟩ (c_X12_emit l dC dI _ Q N σ 36 (σ.a 48 ((x4 : Int32).toNatClampNeg)) p23 hcp23) (cwV 2 hts hX12_jump_X12_emit_v464 rfl rfl rfl (by decide +kernel) ⟨Nat.le_of_ble_eq_true rfl, Nat.le_of_ble_eq_true rfl⟩) ⟨zPre.blind, va_recv hK hP (ci := 11) (q0 := 0) rfl rfl, zPre.go hZ hP hK hD⟩ rfl rfl hl.1 rfl (lv_room (Nat.le_of_ble_eq_true rfl)) dX12_jump_258 ⟨Nat.le_of_ble_eq_true rfl, Nat.le_of_ble_eq_true rfl⟩) hS (fun q _ h => hFc q h) hFc (fun r24 u9 t9 H1 locs ht hvm hw hB hz1 hk1 hS => ?_)
    obtain ⟨hP, hK1, hD1⟩ := hB
    rw [ht] at hP
    have hD := hD1.weaken (fun _ _ _ h => hFc _ h)
    generalize H1 = H at hP hS ⊢
    obtain rfl : r24 = p23.1 := hw
    refine lv_istore (lv' := [(5, .int p23.1), (0, .ref Q.h0), (1, .int x1), (3, .int x3), (4, .int x4)]) hx hb dX12_jump_261 hl (by decide) rfl (fun ls hl => ?_)
    exact j_X12_jump_263 l dC dI Q N R hx hb hr hml hown hts hlocks hZ hA hK p23.2 x1 x3 x4 p23.1 _ _ _ hf hP hD hS (lv_sub hl [1, 2, 3, 4, 0] rfl)
set_option maxHeartbeats 4000000 in
set_option maxRecDepth 100000 in
theorem j_X12_jump_171 {p : Program} {e : Env} {s : State} {m : MethodId} {args : Array Value} {below : List Frame} {meth : Method} {c : Code} {A : Nat → Prop} (l : Launch) (dC : Nat → ClassId) (dI : Nat → Nat → Nat) (Q : RQ) (N : Nat) (R : RS) (hx : p.tables.exec = Jvm.exec) (hb : c.code = cX12_jump) (hr : meth.sig.returnType = none) (hml : c.maxLocals = 7) (hown : s.vm.findClass RX12 = some m.cls) (hts : ∀ w ∈ wzX12_jump, w.before args s = true) (hlocks : meth.locks = false) (hZ : zAMB s) (hA : ∀ q : Nat, s.heap.size ≤ q → A q) (hK : va_K (dC, dI) vwCl (rT Q) s) : ∀ (σ : RS) (x1 : Int32) (x2 : Int32) (x3 : Int32) (x4 : Int32) (H : Heap) (locs : List Loc) (ls : Array Slot), f_X12_jump_171 N σ x1 x2 x3 x4 = some R → va_P (dC, dI) vwCl (rW Q σ) H → va_D A (rW Q σ) → va_S A s.heap H locs → lv_has ls 7 [(0, .ref Q.h0), (1, .int x1), (2, .int x2), (3, .int x3), (4, .int x4)] → W p l e ({ frames := 5, cells := 0, slots := 0, locals := 300 }) s m args below meth c H locs 0 0 (MQ below (va_Qv (fun (_ : Unit) => True) (fun (_ : Unit) (t : State) => zPost dC dI A (rW Q R) (rT Q) t) A) args s 0 0 A) (F0 m 171 ls []) := by
  intro σ x1 x2 x3 x4 H locs ls hf hP hD hS hl
  unfold f_X12_jump_171 at hf
  refine lv_iload hx hb dX12_jump_171 (lv_at hl 4 rfl) ?_
  refine lv_if_ge (tgt := 202) hx hb dX12_jump_173 (by decide) (fun c6 => ?_) (fun c6 => ?_)
  ·
    replace hf := (if_pos c6).symm.trans hf
    refine lv_iload_n hx hb dX12_jump_202 rfl (lv_at hl 3 rfl) ?_
    refine lv_if_eq (tgt := 234) hx hb dX12_jump_203 (by decide) (fun c7 => ?_) (fun c7 => ?_)
    ·
      replace hf := (if_pos c7).symm.trans hf
      exact j_X12_jump_234 l dC dI Q N R hx hb hr hml hown hts hlocks hZ hA hK σ x1 x3 x4 _ _ _ hf hP hD hS (lv_sub hl [0, 1, 3, 4] rfl)
    ·
      replace hf := (if_neg c7).symm.trans hf
      refine lv_iload_n hx hb dX12_jump_206 rfl (lv_at hl 1 rfl) ?_
      refine lv_if_ne (tgt := 234) hx hb dX12_jump_207 (by decide) (fun c25 => ?_) (fun c25 => ?_)
      ·
        replace hf := (if_neg c25).symm.trans hf
        exact j_X12_jump_234 l dC dI Q N R hx hb hr hml hown hts hlocks hZ hA hK σ x1 x3 x4 _ _ _ hf hP hD hS (lv_sub hl [0, 1, 3, 4] rfl)
      ·
        replace hf := (if_pos c25).symm.trans hf
        refine lv_aload_n hx hb dX12_jump_210 rfl (lv_at hl 0 rfl) ?_
        refine rG_46 hx hb hts i_X12_jump_X12 hown hK hP (hts (.fieldLink RX12 141 "StatementRules2Model" "goalLoop" "[I") k_X12_jump_fieldLink_RX12_141_SRModel_goalLoop_I) dX12_jump_211 ?_
        refine lv_iload hx hb dX12_jump_214 (lv_at hl 4 rfl) ?_
        obtain ⟨b26, hf⟩ := hf_ite hf
        refine rL_46 (v := (σ.a 46 ((x4 : Int32).toNatClampNeg))) hx hb hK hP b26 dX12_jump_216 rfl ?_
        refine lv_istore (lv' := [(4, .int (σ.a 46 ((x4 : Int32).toNatClampNeg))), (0, .ref Q.h0), (1, .int x1), (2, .int x2), (3, .int x3)]) hx hb dX12_jump_217 hl (by decide) rfl (fun ls hl => ?_)
        refine lv_iload hx hb dX12_jump_219 (lv_at hl 0 rfl) ?_
        refine lv_if_ge (tgt := 234) hx hb dX12_jump_221 (by decide) (fun c27 => ?_) (fun c27 => ?_)
        ·
          replace hf := (if_pos c27).symm.trans hf
          exact j_X12_jump_234 l dC dI Q N R hx hb hr hml hown hts hlocks hZ hA hK σ x1 x3 (σ.a 46 ((x4 : Int32).toNatClampNeg)) _ _ _ hf hP hD hS (lv_sub hl [1, 2, 4, 0] rfl)
        ·
          replace hf := (if_neg c27).symm.trans hf
          refine lv_aload_n hx hb dX12_jump_224 rfl (lv_at hl 1 rfl) ?_
          refine lv_iconst (v := 5) hx hb dX12_jump_225 (by decide) ?_
          refine lv_aload_n hx hb dX12_jump_226 rfl (lv_at hl 1 rfl) ?_
          refine rG_11 (v := (σ.i 11)) hx hb hts i_X12_jump_X12 hown hK hP (hts (.fieldLink RX12 304 "StatementRules2Model" "from" "I") k_X12_jump_fieldLink_RX12_304_SRModel_from_I) dX12_jump_227 rfl ?_
          obtain ⟨p28, hcp28, hf⟩ := hf_bind hf
          have hFc := r_free hD hS hA
          refine va_callv (va_runV (As := [.int 5, .int (σ.i 11)]) (rest := []) ⟨hx, hb, hml, hown, hts⟩ (c_X12_fail l dC dI _ Q N σ 5 (σ.i 11) p28 hcp28) (cwV 2 hts hX12_jump_X12_fail_v337 rfl rfl rfl (by decide +kernel) ⟨Nat.le_of_ble_eq_true rfl, Nat.le_of_ble_eq_true rfl⟩) ⟨zPre.blind, va_recv hK hP (ci := 11) (q0 := 0) rfl rfl, zPre.go hZ hP hK hD⟩ rfl rfl hl.1 rfl (lv_room (Nat.le_of_ble_eq_true rfl)) dX12_jump_230 ⟨Nat.le_of_ble_eq_true rfl, Nat.le_of_ble_eq_true rfl⟩) hS (fun q _ h => hFc q h) hFc (fun u9 t9 H1 locs ht hvm hw hB hz1 hk1 hS => ?_)
          obtain ⟨hP, hK1, hD1⟩ := hB
          rw [ht] at hP
          have hD := hD1.weaken (fun _ _ _ h => hFc _ h)
          generalize H1 = H at hP hS ⊢
          obtain rfl := Option.some.inj hf
          exact W.vret hx hb hr (fun t ht hW => ⟨⟨(), rfl, trivial, by rw [ht]; exact hP, va_K.moved hW.alike hK, hD⟩, hS.F ht⟩) hS.2.2 dX12_jump_233
  ·
    replace hf := (if_neg c6).symm.trans hf
    refine lv_aload_n hx hb dX12_jump_176 rfl (lv_at hl 0 rfl) ?_
    refine lv_iload_n hx hb dX12_jump_177 rfl (lv_at hl 3 rfl) ?_
    refine lv_if_eq (tgt := 185) hx hb dX12_jump_178 (by decide) (fun c30 => ?_) (fun c30 => ?_)
    ·
      replace hf := (if_pos c30).symm.trans hf
      refine lv_iconst (v := 5) hx hb dX12_jump_185 (by decide) ?_
      refine lv_iload_n hx hb dX12_jump_186 rfl (lv_at hl 3 rfl) ?_
      refine lv_if_eq (tgt := 197) hx hb dX12_jump_187 (by decide) (fun _ => ?_) (fun c9 => absurd c30 c9)
      refine lv_iload_n hx hb dX12_jump_197 rfl (lv_at hl 2 rfl) ?_
      obtain ⟨p32, hcp32, hf⟩ := hf_bind hf
      have hFc := r_free hD hS hA
      refine va_callv (va_runV (As := [.int 5, .int x2]) (rest := []) ⟨hx, hb, hml, hown, hts⟩ (c_X12_fail l dC dI _ Q N σ 5 x2 p32 hcp32) (cwV 2 hts hX12_jump_X12_fail_v337 rfl rfl rfl (by decide +kernel) ⟨Nat.le_of_ble_eq_true rfl, Nat.le_of_ble_eq_true rfl⟩) ⟨zPre.blind, va_recv hK hP (ci := 11) (q0 := 0) rfl rfl, zPre.go hZ hP hK hD⟩ rfl rfl hl.1 rfl (lv_room (Nat.le_of_ble_eq_true rfl)) dX12_jump_198 ⟨Nat.le_of_ble_eq_true rfl, Nat.le_of_ble_eq_true rfl⟩) hS (fun q _ h => hFc q h) hFc (fun u9 t9 H1 locs ht hvm hw hB hz1 hk1 hS => ?_)
      obtain ⟨hP, hK1, hD1⟩ := hB
      rw [ht] at hP
      have hD := hD1.weaken (fun _ _ _ h => hFc _ h)
      generalize H1 = H at hP hS ⊢
      obtain rfl := Option.some.inj hf
      exact W.vret hx hb hr (fun t ht hW => ⟨⟨(), rfl, trivial, by rw [ht]; exact hP, va_K.moved hW.alike hK, hD⟩, hS.F ht⟩) hS.2.2 dX12_jump_201
    ·
      replace hf := (if_neg c30).symm.trans hf
      refine lv_iconst (v := 3) hx hb dX12_jump_181 (by decide) ?_
      refine lv_goto (tgt := 186) hx hb dX12_jump_182 (by decide) ?_
      refine lv_iload_n hx hb dX12_jump_186 rfl (lv_at hl 3 rfl) ?_
      refine lv_if_eq (tgt := 197) hx hb dX12_jump_187 (by decide) (fun c9 => absurd c9 c30) (fun _ => ?_)
      refine lv_aload_n hx hb dX12_jump_190 rfl (lv_at hl 0 rfl) ?_
      refine rG_11 (v := (σ.i 11)) hx hb hts i_X12_jump_X12 hown hK hP (hts (.fieldLink RX12 304 "StatementRules2Model" "from" "I") k_X12_jump_fieldLink_RX12_304_SRModel_from_I) dX12_jump_191 rfl ?_
      refine lv_goto (tgt := 198) hx hb dX12_jump_194 (by decide) ?_
      obtain ⟨p35, hcp35, hf⟩ := hf_bind hf
      have hFc := r_free hD hS hA
      refine va_callv (va_runV (As := [.int 3, .int (σ.i 11)]) (rest := []) ⟨hx, hb, hml, hown, hts⟩ (c_X12_fail l dC dI _ Q N σ 3 (σ.i 11) p35 hcp35) (cwV 2 hts hX12_jump_X12_fail_v337 rfl rfl rfl (by decide +kernel) ⟨Nat.le_of_ble_eq_true rfl, Nat.le_of_ble_eq_true rfl⟩) ⟨zPre.blind, va_recv hK hP (ci := 11) (q0 := 0) rfl rfl, zPre.go hZ hP hK hD⟩ rfl rfl hl.1 rfl (lv_room (Nat.le_of_ble_eq_true rfl)) dX12_jump_198 ⟨Nat.le_of_ble_eq_true rfl, Nat.le_of_ble_eq_true rfl⟩) hS (fun q _ h => hFc q h) hFc (fun u9 t9 H1 locs ht hvm hw hB hz1 hk1 hS => ?_)
      obtain ⟨hP, hK1, hD1⟩ := hB
      rw [ht] at hP
      have hD := hD1.weaken (fun _ _ _ h => hFc _ h)
      generalize H1 = H at hP hS ⊢
      obtain rfl := Option.some.inj hf
      exact W.vret hx hb hr (fun t ht hW => ⟨⟨(), rfl, trivial, by rw [ht]; exact hP, va_K.moved hW.alike hK, hD⟩, hS.F ht⟩) hS.2.2 dX12_jump_201
set_option maxHeartbeats 4000000 in
set_option maxRecDepth 100000 in
theorem j_X12_jump_60 {p : Program} {e : Env} {s : State} {m : MethodId} {args : Array Value} {below : List Frame} {meth : Method} {c : Code} {A : Nat → Prop} (l : Launch) (dC : Nat → ClassId) (dI : Nat → Nat → Nat) (Q : RQ) (N : Nat) (R : RS) (hx : p.tables.exec = Jvm.exec) (hb : c.code = cX12_jump) (hr : meth.sig.returnType = none) (hml : c.maxLocals = 7) (hown : s.vm.findClass RX12 = some m.cls) (hts : ∀ w ∈ wzX12_jump, w.before args s = true) (hlocks : meth.locks = false) (hZ : zAMB s) (hA : ∀ q : Nat, s.heap.size ≤ q → A q) (hK : va_K (dC, dI) vwCl (rT Q) s) : ∀ (n9 : Nat), ∀ (σ : RS) (x1 : Int32) (x2 : Int32) (x3 : Int32) (x4 : Int32) (x5 : Int32) (H : Heap) (locs : List Loc) (ls : Array Slot), f_X12_jump_60 N n9 σ x1 x2 x3 x4 x5 = some R → va_P (dC, dI) vwCl (rW Q σ) H → va_D A (rW Q σ) → va_S A s.heap H locs → lv_has ls 7 [(0, .ref Q.h0), (1, .int x1), (2, .int x2), (3, .int x3), (4, .int x4), (5, .int x5)] → W p l e ({ frames := 5, cells := 0, slots := 0, locals := 300 }) s m args below meth c H locs 0 0 (MQ below (va_Qv (fun (_ : Unit) => True) (fun (_ : Unit) (t : State) => zPost dC dI A (rW Q R) (rT Q) t) A) args s 0 0 A) (F0 m 60 ls []) := by
  intro n9
  induction n9 with
  | zero => intro σ x1 x2 x3 x4 x5 H locs ls hf; exact absurd hf (by intro h9; cases h9)
  | succ n9 ih =>
    intro σ x1 x2 x3 x4 x5 H locs ls hf hP hD hS hl
    replace hf : b_X12_jump_60 N (f_X12_jump_60 N n9) σ x1 x2 x3 x4 x5 = some R := hf
    unfold b_X12_jump_60 at hf
    refine lv_iload hx hb dX12_jump_60 (lv_at hl 5 rfl) ?_
    refine lv_if_lt (tgt := 171) hx hb dX12_jump_62 (by decide) (fun c5 => ?_) (fun c5 => ?_)
    ·
      replace hf := (if_pos c5).symm.trans hf
      exact j_X12_jump_171 l dC dI Q N R hx hb hr hml hown hts hlocks hZ hA hK σ x1 x2 x3 x4 _ _ _ hf hP hD hS (lv_sub hl [0, 1, 2, 3, 4] rfl)
    ·
      replace hf := (if_neg c5).symm.trans hf
      refine lv_aload_n hx hb dX12_jump_65 rfl (lv_at hl 0 rfl) ?_
      refine rG_44 hx hb hts i_X12_jump_X12 hown hK hP (hts (.fieldLink RX12 135 "StatementRules2Model" "goalSort" "[I") k_X12_jump_fieldLink_RX12_135_SRModel_goalSort_I) dX12_jump_66 ?_
      refine lv_iload hx hb dX12_jump_69 (lv_at hl 5 rfl) ?_
      obtain ⟨b37, hf⟩ := hf_ite hf
      refine rL_44 (v := (σ.a 44 ((x5 : Int32).toNatClampNeg))) hx hb hK hP b37 dX12_jump_71 rfl ?_
      refine lv_iconst (v := 3) hx hb dX12_jump_72 (by decide) ?_
      refine lv_icmp_eq (tgt := 171) hx hb dX12_jump_73 (by decide) (fun c38 => ?_) (fun c38 => ?_)
      ·
        replace hf := (if_pos c38).symm.trans hf
        exact j_X12_jump_171 l dC dI Q N R hx hb hr hml hown hts hlocks hZ hA hK σ x1 x2 x3 x4 _ _ _ hf hP hD hS (lv_sub hl [0, 1, 2, 3, 4] rfl)
      ·
        replace hf := (if_neg c38).symm.trans hf
        refine lv_iload hx hb dX12_jump_76 (lv_at hl 4 rfl) ?_
        refine lv_if_ge (tgt := 171) hx hb dX12_jump_78 (by decide) (fun c39 => ?_) (fun c39 => ?_)
        ·
          replace hf := (if_pos c39).symm.trans hf
          exact j_X12_jump_171 l dC dI Q N R hx hb hr hml hown hts hlocks hZ hA hK σ x1 x2 x3 x4 _ _ _ hf hP hD hS (lv_sub hl [0, 1, 2, 3, 4] rfl)
        ·
          replace hf := (if_neg c39).symm.trans hf
          refine lv_iload_n hx hb dX12_jump_81 rfl (lv_at hl 3 rfl) ?_
          refine lv_if_eq (tgt := 119) hx hb dX12_jump_82 (by decide) (fun c40 => ?_) (fun c40 => ?_)
          ·
            replace hf := (if_pos c40).symm.trans hf
            refine lv_aload_n hx hb dX12_jump_119 rfl (lv_at hl 0 rfl) ?_
            refine rG_44 hx hb hts i_X12_jump_X12 hown hK hP (hts (.fieldLink RX12 135 "StatementRules2Model" "goalSort" "[I") k_X12_jump_fieldLink_RX12_135_SRModel_goalSort_I) dX12_jump_120 ?_
            refine lv_iload hx hb dX12_jump_123 (lv_at hl 5 rfl) ?_
            refine rL_44 (v := (σ.a 44 ((x5 : Int32).toNatClampNeg))) hx hb hK hP b37 dX12_jump_125 rfl ?_
            refine lv_if_eq (tgt := 144) hx hb dX12_jump_126 (by decide) (fun c41 => ?_) (fun c41 => ?_)
            ·
              replace hf := (if_pos c41).symm.trans hf
              refine lv_iconst (v := 1) hx hb dX12_jump_144 (by decide) ?_
              refine lv_goto (tgt := 149) hx hb dX12_jump_145 (by decide) ?_
              refine lv_istore (lv' := [(6, .int 1), (0, .ref Q.h0), (1, .int x1), (2, .int x2), (3, .int x3), (4, .int x4), (5, .int x5)]) hx hb dX12_jump_149 hl (by decide) rfl (fun ls hl => ?_)
              refine lv_iload hx hb dX12_jump_151 (lv_at hl 0 rfl) ?_
              refine lv_if_eq (tgt := 161) hx hb dX12_jump_153 (by decide) (fun c9 => absurd c9 (by decide)) (fun _ => ?_)
              refine lv_iload hx hb dX12_jump_156 (lv_at hl 6 rfl) ?_
              refine lv_goto (tgt := 163) hx hb dX12_jump_158 (by decide) ?_
              refine lv_istore (lv' := [(4, .int x5), (6, .int 1), (0, .ref Q.h0), (1, .int x1), (2, .int x2), (3, .int x3), (5, .int x5)]) hx hb dX12_jump_163 hl (by decide) rfl (fun ls hl => ?_)
              refine lv_iinc (v := (x5 + (-1))) (lv' := [(5, .int (x5 + (-1))), (4, .int x5), (6, .int 1), (0, .ref Q.h0), (1, .int x1), (2, .int x2), (3, .int x3)]) hx hb dX12_jump_165 hl (k := 6) rfl rfl (by decide) rfl (fun ls hl => ?_)
              refine lv_goto (tgt := 60) hx hb dX12_jump_168 (by decide) ?_
              exact ih σ x1 x2 x3 x5 (x5 + (-1)) _ _ _ hf hP hD hS (lv_sub hl [3, 4, 5, 6, 1, 0] rfl)
            ·
              replace hf := (if_neg c41).symm.trans hf
              refine lv_iload_n hx hb dX12_jump_129 rfl (lv_at hl 1 rfl) ?_
              refine lv_if_eq (tgt := 148) hx hb dX12_jump_130 (by decide) (fun c42 => ?_) (fun c42 => ?_)
              ·
                replace hf := (if_pos c42).symm.trans hf
                refine lv_iconst (v := 0) hx hb dX12_jump_148 (by decide) ?_
                refine lv_istore (lv' := [(6, .int 0), (0, .ref Q.h0), (1, .int x1), (2, .int x2), (3, .int x3), (4, .int x4), (5, .int x5)]) hx hb dX12_jump_149 hl (by decide) rfl (fun ls hl => ?_)
                refine lv_iload hx hb dX12_jump_151 (lv_at hl 0 rfl) ?_
                refine lv_if_eq (tgt := 161) hx hb dX12_jump_153 (by decide) (fun _ => ?_) (fun c9 => absurd (by decide) c9)
                refine lv_iload hx hb dX12_jump_161 (lv_at hl 5 rfl) ?_
                refine lv_istore (lv' := [(4, .int x4), (6, .int 0), (0, .ref Q.h0), (1, .int x1), (2, .int x2), (3, .int x3), (5, .int x5)]) hx hb dX12_jump_163 hl (by decide) rfl (fun ls hl => ?_)
                refine lv_iinc (v := (x5 + (-1))) (lv' := [(5, .int (x5 + (-1))), (4, .int x4), (6, .int 0), (0, .ref Q.h0), (1, .int x1), (2, .int x2), (3, .int x3)]) hx hb dX12_jump_165 hl (k := 6) rfl rfl (by decide) rfl (fun ls hl => ?_)
                refine lv_goto (tgt := 60) hx hb dX12_jump_168 (by decide) ?_
                exact ih σ x1 x2 x3 x4 (x5 + (-1)) _ _ _ hf hP hD hS (lv_sub hl [3, 4, 5, 6, 1, 0] rfl)
              ·
                replace hf := (if_neg c42).symm.trans hf
                refine lv_aload_n hx hb dX12_jump_133 rfl (lv_at hl 0 rfl) ?_
                refine rG_44 hx hb hts i_X12_jump_X12 hown hK hP (hts (.fieldLink RX12 135 "StatementRules2Model" "goalSort" "[I") k_X12_jump_fieldLink_RX12_135_SRModel_goalSort_I) dX12_jump_134 ?_
                refine lv_iload hx hb dX12_jump_137 (lv_at hl 5 rfl) ?_
                refine rL_44 (v := (σ.a 44 ((x5 : Int32).toNatClampNeg))) hx hb hK hP b37 dX12_jump_139 rfl ?_
                refine lv_iconst (v := 1) hx hb dX12_jump_140 (by decide) ?_
                refine lv_icmp_ne (tgt := 148) hx hb dX12_jump_141 (by decide) (fun c43 => ?_) (fun c43 => ?_)
                ·
                  replace hf := (if_neg c43).symm.trans hf
                  refine lv_iconst (v := 0) hx hb dX12_jump_148 (by decide) ?_
                  refine lv_istore (lv' := [(6, .int 0), (0, .ref Q.h0), (1, .int x1), (2, .int x2), (3, .int x3), (4, .int x4), (5, .int x5)]) hx hb dX12_jump_149 hl (by decide) rfl (fun ls hl => ?_)
                  refine lv_iload hx hb dX12_jump_151 (lv_at hl 0 rfl) ?_
                  refine lv_if_eq (tgt := 161) hx hb dX12_jump_153 (by decide) (fun _ => ?_) (fun c9 => absurd (by decide) c9)
                  refine lv_iload hx hb dX12_jump_161 (lv_at hl 5 rfl) ?_
                  refine lv_istore (lv' := [(4, .int x4), (6, .int 0), (0, .ref Q.h0), (1, .int x1), (2, .int x2), (3, .int x3), (5, .int x5)]) hx hb dX12_jump_163 hl (by decide) rfl (fun ls hl => ?_)
                  refine lv_iinc (v := (x5 + (-1))) (lv' := [(5, .int (x5 + (-1))), (4, .int x4), (6, .int 0), (0, .ref Q.h0), (1, .int x1), (2, .int x2), (3, .int x3)]) hx hb dX12_jump_165 hl (k := 6) rfl rfl (by decide) rfl (fun ls hl => ?_)
                  refine lv_goto (tgt := 60) hx hb dX12_jump_168 (by decide) ?_
                  exact ih σ x1 x2 x3 x4 (x5 + (-1)) _ _ _ hf hP hD hS (lv_sub hl [3, 4, 5, 6, 1, 0] rfl)
                ·
                  replace hf := (if_pos c43).symm.trans hf
                  refine lv_iconst (v := 1) hx hb dX12_jump_144 (by decide) ?_
                  refine lv_goto (tgt := 149) hx hb dX12_jump_145 (by decide) ?_
                  refine lv_istore (lv' := [(6, .int 1), (0, .ref Q.h0), (1, .int x1), (2, .int x2), (3, .int x3), (4, .int x4), (5, .int x5)]) hx hb dX12_jump_149 hl (by decide) rfl (fun ls hl => ?_)
                  refine lv_iload hx hb dX12_jump_151 (lv_at hl 0 rfl) ?_
                  refine lv_if_eq (tgt := 161) hx hb dX12_jump_153 (by decide) (fun c9 => absurd c9 (by decide)) (fun _ => ?_)
                  refine lv_iload hx hb dX12_jump_156 (lv_at hl 6 rfl) ?_
                  refine lv_goto (tgt := 163) hx hb dX12_jump_158 (by decide) ?_
                  refine lv_istore (lv' := [(4, .int x5), (6, .int 1), (0, .ref Q.h0), (1, .int x1), (2, .int x2), (3, .int x3), (5, .int x5)]) hx hb dX12_jump_163 hl (by decide) rfl (fun ls hl => ?_)
                  refine lv_iinc (v := (x5 + (-1))) (lv' := [(5, .int (x5 + (-1))), (4, .int x5), (6, .int 1), (0, .ref Q.h0), (1, .int x1), (2, .int x2), (3, .int x3)]) hx hb dX12_jump_165 hl (k := 6) rfl rfl (by decide) rfl (fun ls hl => ?_)
                  refine lv_goto (tgt := 60) hx hb dX12_jump_168 (by decide) ?_
                  exact ih σ x1 x2 x3 x5 (x5 + (-1)) _ _ _ hf hP hD hS (lv_sub hl [3, 4, 5, 6, 1, 0] rfl)
          ·
            replace hf := (if_neg c40).symm.trans hf
            refine lv_aload_n hx hb dX12_jump_85 rfl (lv_at hl 0 rfl) ?_
            refine rG_44 hx hb hts i_X12_jump_X12 hown hK hP (hts (.fieldLink RX12 135 "StatementRules2Model" "goalSort" "[I") k_X12_jump_fieldLink_RX12_135_SRModel_goalSort_I) dX12_jump_86 ?_
            refine lv_iload hx hb dX12_jump_89 (lv_at hl 5 rfl) ?_
            refine rL_44 (v := (σ.a 44 ((x5 : Int32).toNatClampNeg))) hx hb hK hP b37 dX12_jump_91 rfl ?_
            refine lv_iconst (v := 2) hx hb dX12_jump_92 (by decide) ?_
            refine lv_icmp_ne (tgt := 115) hx hb dX12_jump_93 (by decide) (fun c44 => ?_) (fun c44 => ?_)
            ·
              replace hf := (if_neg c44).symm.trans hf
              refine lv_iconst (v := 0) hx hb dX12_jump_115 (by decide) ?_
              refine lv_goto (tgt := 149) hx hb dX12_jump_116 (by decide) ?_
              refine lv_istore (lv' := [(6, .int 0), (0, .ref Q.h0), (1, .int x1), (2, .int x2), (3, .int x3), (4, .int x4), (5, .int x5)]) hx hb dX12_jump_149 hl (by decide) rfl (fun ls hl => ?_)
              refine lv_iload hx hb dX12_jump_151 (lv_at hl 0 rfl) ?_
              refine lv_if_eq (tgt := 161) hx hb dX12_jump_153 (by decide) (fun _ => ?_) (fun c9 => absurd (by decide) c9)
              refine lv_iload hx hb dX12_jump_161 (lv_at hl 5 rfl) ?_
              refine lv_istore (lv' := [(4, .int x4), (6, .int 0), (0, .ref Q.h0), (1, .int x1), (2, .int x2), (3, .int x3), (5, .int x5)]) hx hb dX12_jump_163 hl (by decide) rfl (fun ls hl => ?_)
              refine lv_iinc (v := (x5 + (-1))) (lv' := [(5, .int (x5 + (-1))), (4, .int x4), (6, .int 0), (0, .ref Q.h0), (1, .int x1), (2, .int x2), (3, .int x3)]) hx hb dX12_jump_165 hl (k := 6) rfl rfl (by decide) rfl (fun ls hl => ?_)
              refine lv_goto (tgt := 60) hx hb dX12_jump_168 (by decide) ?_
              exact ih σ x1 x2 x3 x4 (x5 + (-1)) _ _ _ hf hP hD hS (lv_sub hl [3, 4, 5, 6, 1, 0] rfl)
            ·
              replace hf := (if_pos c44).symm.trans hf
              refine lv_aload_n hx hb dX12_jump_96 rfl (lv_at hl 0 rfl) ?_
              refine rG_45 hx hb hts i_X12_jump_X12 hown hK hP (hts (.fieldLink RX12 138 "StatementRules2Model" "goalName" "[J") k_X12_jump_fieldLink_RX12_138_SRModel_goalName_J) dX12_jump_97 ?_
              refine lv_iload hx hb dX12_jump_100 (lv_at hl 5 rfl) ?_
              refine rL_45 (v := (σ.b 45 ((x5 : Int32).toNatClampNeg))) hx hb hK hP b37 dX12_jump_102 rfl ?_
              refine lv_aload_n hx hb dX12_jump_103 rfl (lv_at hl 0 rfl) ?_
              refine rG_13 (v := σ.l) hx hb hts i_X12_jump_X12 hown hK hP (hts (.fieldLink RX12 327 "StatementRules2Model" "name" "J") k_X12_jump_fieldLink_RX12_327_SRModel_name_J) dX12_jump_104 rfl ?_
              refine W.lcmp hx hb dX12_jump_107 ?_
              refine lv_if_ne (tgt := 115) hx hb dX12_jump_108 (by decide) (fun c45 => ?_) (fun c45 => ?_)
              ·
                replace hf := (if_neg c45).symm.trans hf
                refine lv_iconst (v := 0) hx hb dX12_jump_115 (by decide) ?_
                refine lv_goto (tgt := 149) hx hb dX12_jump_116 (by decide) ?_
                refine lv_istore (lv' := [(6, .int 0), (0, .ref Q.h0), (1, .int x1), (2, .int x2), (3, .int x3), (4, .int x4), (5, .int x5)]) hx hb dX12_jump_149 hl (by decide) rfl (fun ls hl => ?_)
                refine lv_iload hx hb dX12_jump_151 (lv_at hl 0 rfl) ?_
                refine lv_if_eq (tgt := 161) hx hb dX12_jump_153 (by decide) (fun _ => ?_) (fun c9 => absurd (by decide) c9)
                refine lv_iload hx hb dX12_jump_161 (lv_at hl 5 rfl) ?_
                refine lv_istore (lv' := [(4, .int x4), (6, .int 0), (0, .ref Q.h0), (1, .int x1), (2, .int x2), (3, .int x3), (5, .int x5)]) hx hb dX12_jump_163 hl (by decide) rfl (fun ls hl => ?_)
                refine lv_iinc (v := (x5 + (-1))) (lv' := [(5, .int (x5 + (-1))), (4, .int x4), (6, .int 0), (0, .ref Q.h0), (1, .int x1), (2, .int x2), (3, .int x3)]) hx hb dX12_jump_165 hl (k := 6) rfl rfl (by decide) rfl (fun ls hl => ?_)
                refine lv_goto (tgt := 60) hx hb dX12_jump_168 (by decide) ?_
                exact ih σ x1 x2 x3 x4 (x5 + (-1)) _ _ _ hf hP hD hS (lv_sub hl [3, 4, 5, 6, 1, 0] rfl)
              ·
                replace hf := (if_pos c45).symm.trans hf
                refine lv_iconst (v := 1) hx hb dX12_jump_111 (by decide) ?_
                refine lv_goto (tgt := 149) hx hb dX12_jump_112 (by decide) ?_
                refine lv_istore (lv' := [(6, .int 1), (0, .ref Q.h0), (1, .int x1), (2, .int x2), (3, .int x3), (4, .int x4), (5, .int x5)]) hx hb dX12_jump_149 hl (by decide) rfl (fun ls hl => ?_)
                refine lv_iload hx hb dX12_jump_151 (lv_at hl 0 rfl) ?_
                refine lv_if_eq (tgt := 161) hx hb dX12_jump_153 (by decide) (fun c9 => absurd c9 (by decide)) (fun _ => ?_)
                refine lv_iload hx hb dX12_jump_156 (lv_at hl 6 rfl) ?_
                refine lv_goto (tgt := 163) hx hb dX12_jump_158 (by decide) ?_
                refine lv_istore (lv' := [(4, .int x5), (6, .int 1), (0, .ref Q.h0), (1, .int x1), (2, .int x2), (3, .int x3), (5, .int x5)]) hx hb dX12_jump_163 hl (by decide) rfl (fun ls hl => ?_)
                refine lv_iinc (v := (x5 + (-1))) (lv' := [(5, .int (x5 + (-1))), (4, .int x5), (6, .int 1), (0, .ref Q.h0), (1, .int x1), (2, .int x2), (3, .int x3)]) hx hb dX12_jump_165 hl (k := 6) rfl rfl (by decide) rfl (fun ls hl => ?_)
                refine lv_goto (tgt := 60) hx hb dX12_jump_168 (by decide) ?_
                exact ih σ x1 x2 x3 x5 (x5 + (-1)) _ _ _ hf hP hD hS (lv_sub hl [3, 4, 5, 6, 1, 0] rfl)
set_option maxHeartbeats 4000000 in
set_option maxRecDepth 100000 in
theorem j_X12_jump_49 {p : Program} {e : Env} {s : State} {m : MethodId} {args : Array Value} {below : List Frame} {meth : Method} {c : Code} {A : Nat → Prop} (l : Launch) (dC : Nat → ClassId) (dI : Nat → Nat → Nat) (Q : RQ) (N : Nat) (R : RS) (hx : p.tables.exec = Jvm.exec) (hb : c.code = cX12_jump) (hr : meth.sig.returnType = none) (hml : c.maxLocals = 7) (hown : s.vm.findClass RX12 = some m.cls) (hts : ∀ w ∈ wzX12_jump, w.before args s = true) (hlocks : meth.locks = false) (hZ : zAMB s) (hA : ∀ q : Nat, s.heap.size ≤ q → A q) (hK : va_K (dC, dI) vwCl (rT Q) s) : ∀ (σ : RS) (x1 : Int32) (x2 : Int32) (x3 : Int32) (H : Heap) (locs : List Loc) (ls : Array Slot), f_X12_jump_49 N σ x1 x2 x3 = some R → va_P (dC, dI) vwCl (rW Q σ) H → va_D A (rW Q σ) → va_S A s.heap H locs → lv_has ls 7 [(0, .ref Q.h0), (1, .int x1), (2, .int x2), (3, .int x3)] → W p l e ({ frames := 5, cells := 0, slots := 0, locals := 300 }) s m args below meth c H locs 0 0 (MQ below (va_Qv (fun (_ : Unit) => True) (fun (_ : Unit) (t : State) => zPost dC dI A (rW Q R) (rT Q) t) A) args s 0 0 A) (F0 m 49 ls []) := by
  intro σ x1 x2 x3 H locs ls hf hP hD hS hl
  unfold f_X12_jump_49 at hf
  refine lv_iconst (v := (-1)) hx hb dX12_jump_49 (by decide) ?_
  refine lv_istore (lv' := [(4, .int (-1)), (0, .ref Q.h0), (1, .int x1), (2, .int x2), (3, .int x3)]) hx hb dX12_jump_50 hl (by decide) rfl (fun ls hl => ?_)
  refine lv_aload_n hx hb dX12_jump_52 rfl (lv_at hl 1 rfl) ?_
  refine rG_43 (v := (σ.i 43)) hx hb hts i_X12_jump_X12 hown hK hP (hts (.fieldLink RX12 367 "StatementRules2Model" "goals" "I") k_X12_jump_fieldLink_RX12_367_SRModel_goals_I) dX12_jump_53 rfl ?_
  refine lv_iconst (v := 1) hx hb dX12_jump_56 (by decide) ?_
  refine lv_isub hx hb dX12_jump_57 ?_
  refine lv_istore (lv' := [(5, .int ((σ.i 43) - 1)), (4, .int (-1)), (0, .ref Q.h0), (1, .int x1), (2, .int x2), (3, .int x3)]) hx hb dX12_jump_58 hl (by decide) rfl (fun ls hl => ?_)
  exact j_X12_jump_60 l dC dI Q N R hx hb hr hml hown hts hlocks hZ hA hK N σ x1 x2 x3 (-1) ((σ.i 43) - 1) _ _ _ hf hP hD hS (lv_sub hl [2, 3, 4, 5, 1, 0] rfl)
set_option maxHeartbeats 4000000 in
set_option maxRecDepth 100000 in
theorem j_X12_jump_16 {p : Program} {e : Env} {s : State} {m : MethodId} {args : Array Value} {below : List Frame} {meth : Method} {c : Code} {A : Nat → Prop} (l : Launch) (dC : Nat → ClassId) (dI : Nat → Nat → Nat) (Q : RQ) (N : Nat) (R : RS) (hx : p.tables.exec = Jvm.exec) (hb : c.code = cX12_jump) (hr : meth.sig.returnType = none) (hml : c.maxLocals = 7) (hown : s.vm.findClass RX12 = some m.cls) (hts : ∀ w ∈ wzX12_jump, w.before args s = true) (hlocks : meth.locks = false) (hZ : zAMB s) (hA : ∀ q : Nat, s.heap.size ≤ q → A q) (hK : va_K (dC, dI) vwCl (rT Q) s) : ∀ (σ : RS) (x1 : Int32) (H : Heap) (locs : List Loc) (ls : Array Slot), f_X12_jump_16 N σ x1 = some R → va_P (dC, dI) vwCl (rW Q σ) H → va_D A (rW Q σ) → va_S A s.heap H locs → lv_has ls 7 [(0, .ref Q.h0), (1, .int x1)] → W p l e ({ frames := 5, cells := 0, slots := 0, locals := 300 }) s m args below meth c H locs 0 0 (MQ below (va_Qv (fun (_ : Unit) => True) (fun (_ : Unit) (t : State) => zPost dC dI A (rW Q R) (rT Q) t) A) args s 0 0 A) (F0 m 16 ls []) := by
  intro σ x1 H locs ls hf hP hD hS hl
  unfold f_X12_jump_16 at hf
  refine lv_aload_n hx hb dX12_jump_16 rfl (lv_at hl 0 rfl) ?_
  refine rG_11 (v := (σ.i 11)) hx hb hts i_X12_jump_X12 hown hK hP (hts (.fieldLink RX12 304 "StatementRules2Model" "from" "I") k_X12_jump_fieldLink_RX12_304_SRModel_from_I) dX12_jump_17 rfl ?_
  refine lv_istore_n (lv' := [(2, .int (σ.i 11)), (0, .ref Q.h0), (1, .int x1)]) hx hb dX12_jump_20 rfl hl (by decide) rfl (fun ls hl => ?_)
  refine lv_aload_n hx hb dX12_jump_21 rfl (lv_at hl 1 rfl) ?_
  refine lv_dup hx hb dX12_jump_22 rfl ?_
  refine rG_55 (v := (σ.i 55)) hx hb hts i_X12_jump_X12 hown hK hP (hts (.fieldLink RX12 527 "StatementRules2Model" "jumps" "I") k_X12_jump_fieldLink_RX12_527_SRModel_jumps_I) dX12_jump_23 rfl ?_
  refine lv_iconst (v := 1) hx hb dX12_jump_26 (by decide) ?_
  refine lv_iadd hx hb dX12_jump_27 ?_
  refine rP_55 hx hb hts i_X12_jump_X12 hown hK hP hD hS (hts (.fieldLink RX12 527 "StatementRules2Model" "jumps" "I") k_X12_jump_fieldLink_RX12_527_SRModel_jumps_I) dX12_jump_28 (fun H locs hP hD hS => ?_)
  refine lv_aload_n hx hb dX12_jump_31 rfl (lv_at hl 1 rfl) ?_
  obtain ⟨p2, hcp2, hf⟩ := hf_bind hf
  have hFc := r_free hD hS hA
  refine va_callv (va_runV (As := []) (rest := []) ⟨hx, hb, hml, hown, hts⟩ (c_X12_next l dC dI _ Q N (RS.setI σ 55 ((σ.i 55) + 1)) p2 hcp2) (cwV 0 hts hX12_jump_X12_next_v345 rfl rfl rfl (by decide +kernel) ⟨Nat.le_of_ble_eq_true rfl, Nat.le_of_ble_eq_true rfl⟩) ⟨zPre.blind, va_recv hK hP (ci := 11) (q0 := 0) rfl rfl, zPre.go hZ hP hK hD⟩ rfl rfl hl.1 rfl (lv_room (Nat.le_of_ble_eq_true rfl)) dX12_jump_32 ⟨Nat.le_of_ble_eq_true rfl, Nat.le_of_ble_eq_true rfl⟩) hS (fun q _ h => hFc q h) hFc (fun u9 t9 H1 locs ht hvm hw hB hz1 hk1 hS => ?_)
  obtain ⟨hP, hK1, hD1⟩ := hB
  rw [ht] at hP
  have hD := hD1.weaken (fun _ _ _ h => hFc _ h)
  generalize H1 = H at hP hS ⊢
  refine lv_aload_n hx hb dX12_jump_35 rfl (lv_at hl 1 rfl) ?_
  refine rG_10 (v := (p2.i 10)) hx hb hts i_X12_jump_X12 hown hK hP (hts (.fieldLink RX12 307 "StatementRules2Model" "tok" "I") k_X12_jump_fieldLink_RX12_307_SRModel_tok_I) dX12_jump_36 rfl ?_
  refine lv_iconst (v := 2) hx hb dX12_jump_39 (by decide) ?_
  refine lv_icmp_ne (tgt := 47) hx hb dX12_jump_40 (by decide) (fun c4 => ?_) (fun c4 => ?_)
  ·
    replace hf := (if_neg c4).symm.trans hf
    refine lv_iconst (v := 0) hx hb dX12_jump_47 (by decide) ?_
    refine lv_istore_n (lv' := [(3, .int 0), (2, .int (σ.i 11)), (0, .ref Q.h0), (1, .int x1)]) hx hb dX12_jump_48 rfl hl (by decide) rfl (fun ls hl => ?_)
    exact j_X12_jump_49 l dC dI Q N R hx hb hr hml hown hts hlocks hZ hA hK p2 x1 (σ.i 11) 0 _ _ _ hf hP hD hS (lv_sub hl [2, 3, 1, 0] rfl)
  ·
    replace hf := (if_pos c4).symm.trans hf
    refine lv_iconst (v := 1) hx hb dX12_jump_43 (by decide) ?_
    refine lv_goto (tgt := 48) hx hb dX12_jump_44 (by decide) ?_
    refine lv_istore_n (lv' := [(3, .int 1), (2, .int (σ.i 11)), (0, .ref Q.h0), (1, .int x1)]) hx hb dX12_jump_48 rfl hl (by decide) rfl (fun ls hl => ?_)
    exact j_X12_jump_49 l dC dI Q N R hx hb hr hml hown hts hlocks hZ hA hK p2 x1 (σ.i 11) 1 _ _ _ hf hP hD hS (lv_sub hl [2, 3, 1, 0] rfl)
set_option maxHeartbeats 4000000 in
set_option maxRecDepth 100000 in
theorem c_X12_jump (l : Launch) (dC : Nat → ClassId) (dI : Nat → Nat → Nat) (sz : Nat) (Q : RQ) (N : Nat) (σ : RS) (R : RS) (hf : f_X12_jump N σ = some R) : Met l yX12_jump wzX12_jump ({ frames := 5, cells := 0, slots := 0, locals := 300 }) (va_Pc [.ref Q.h0] (zPre dC dI sz (rW Q σ) (rT Q))) (va_Qv (fun (_ : Unit) => True) (fun (_ : Unit) (t : State) => zPost dC dI (va_A (rW Q σ) sz) (rW Q R) (rT Q) t) (va_A (rW Q σ) sz)) 0 0 (va_A (rW Q σ) sz) := by
  refine Met.ofW (cc := cX12_jump) (maxL := 7) (ret := none) (by decide) rfl ?_
  intro p e s m args below meth c s₁ B hml hv
  obtain ⟨rfl, hsz, hZ, hP, hK, hD0⟩ := hv
  have hx := B.exec
  have hb := B.bytes
  have hr := B.returns
  have hts := atoms_spec (ws := wzX12_jump) B.pre
  have hown : s.vm.findClass RX12 = some m.cls := findClass_of_methodNamed B.named
  have hlocks := B.notSynchronized
  subst hsz
  have hD := hD0.self (sz := s.heap.size)
  generalize hAe : va_A (rW Q σ) s.heap.size = A at hD ⊢
  have hA : ∀ q : Nat, s.heap.size ≤ q → A q := fun q h => by rw [← hAe]; exact Or.inr h
  have hS : va_S A s.heap s.heap [] := va_S.rf
  have hl := lv_entry ([.ref Q.h0]) (n := 7) (Nat.le_of_ble_eq_true rfl)
  rw [lg_entry_eq]
  generalize (lg_sl ([.ref Q.h0]) ++ List.replicate (7 - (lg_sl ([.ref Q.h0])).length) Slot.unset).toArray = ls at hl ⊢
  have hl : lv_has ls 7 [(0, .ref Q.h0)] := hl
  unfold f_X12_jump at hf
  refine lv_aload_n hx hb dX12_jump_0 rfl (lv_at hl 0 rfl) ?_
  refine rG_10 (v := (σ.i 10)) hx hb hts i_X12_jump_X12 hown hK hP (hts (.fieldLink RX12 307 "StatementRules2Model" "tok" "I") k_X12_jump_fieldLink_RX12_307_SRModel_tok_I) dX12_jump_1 rfl ?_
  refine lv_sipush (v := 418) hx hb dX12_jump_4 (by decide) ?_
  refine lv_icmp_ne (tgt := 14) hx hb dX12_jump_7 (by decide) (fun c1 => ?_) (fun c1 => ?_)
  ·
    replace hf := (if_neg c1).symm.trans hf
    refine lv_iconst (v := 0) hx hb dX12_jump_14 (by decide) ?_
    refine lv_istore_n (lv' := [(1, .int 0), (0, .ref Q.h0)]) hx hb dX12_jump_15 rfl hl (by decide) rfl (fun ls hl => ?_)
    exact j_X12_jump_16 l dC dI Q N R hx hb hr hml hown hts hlocks hZ hA hK σ 0 _ _ _ hf hP hD hS (lv_sub hl [1, 0] rfl)
  ·
    replace hf := (if_pos c1).symm.trans hf
    refine lv_iconst (v := 1) hx hb dX12_jump_10 (by decide) ?_
    refine lv_goto (tgt := 15) hx hb dX12_jump_11 (by decide) ?_
    refine lv_istore_n (lv' := [(1, .int 1), (0, .ref Q.h0)]) hx hb dX12_jump_15 rfl hl (by decide) rfl (fun ls hl => ?_)
    exact j_X12_jump_16 l dC dI Q N R hx hb hr hml hown hts hlocks hZ hA hK σ 1 _ _ _ hf hP hD hS (lv_sub hl [1, 0] rfl)
end
section
theorem k_X12_stat_fieldLink_RX12_494_SRModel_statements_I : Cond.fieldLink RX12 494 "StatementRules2Model" "statements" "I" ∈ wzX12_stat := List.mem_cons_of_mem _ (List.mem_append_left _ (List.mem_of_getElem? (i := 0) rfl))
theorem i_X12_stat_X12 : ∀ w ∈ wsX120, w ∈ wzX12_stat := fun _ h => List.mem_cons_of_mem _ (List.mem_append_right _ (List.mem_append_left _ (h)))
theorem k_X12_stat_fieldLink_RX12_307_SRModel_tok_I : Cond.fieldLink RX12 307 "StatementRules2Model" "tok" "I" ∈ wzX12_stat := List.mem_cons_of_mem _ (List.mem_append_left _ (List.mem_of_getElem? (i := 1) rfl))
theorem k_X12_stat_fieldLink_RX12_174_SRModel_fk_I : Cond.fieldLink RX12 174 "StatementRules2Model" "fk" "[I" ∈ wzX12_stat := List.mem_cons_of_mem _ (List.mem_append_left _ (List.mem_of_getElem? (i := 2) rfl))
set_option maxHeartbeats 4000000 in
set_option maxRecDepth 100000 in
theorem j_X12_stat_309 {p : Program} {e : Env} {s : State} {m : MethodId} {args : Array Value} {below : List Frame} {meth : Method} {c : Code} {A : Nat → Prop} (l : Launch) (dC : Nat → ClassId) (dI : Nat → Nat → Nat) (Q : RQ) (N : Nat) (R : RS) (hx : p.tables.exec = Jvm.exec) (hb : c.code = cX12_stat) (hr : meth.sig.returnType = none) (hml : c.maxLocals = 2) (hown : s.vm.findClass RX12 = some m.cls) (hts : ∀ w ∈ wzX12_stat, w.before args s = true) (hlocks : meth.locks = false) (hZ : zAMB s) (hA : ∀ q : Nat, s.heap.size ≤ q → A q) (hK : va_K (dC, dI) vwCl (rT Q) s) : ∀ (σ : RS) (H : Heap) (locs : List Loc) (ls : Array Slot), f_X12_stat_309 N σ = some R → va_P (dC, dI) vwCl (rW Q σ) H → va_D A (rW Q σ) → va_S A s.heap H locs → lv_has ls 2 [(0, .ref Q.h0)] → W p l e ({ frames := 6, cells := 0, slots := 0, locals := 360 }) s m args below meth c H locs 0 0 (MQ below (va_Qv (fun (_ : Unit) => True) (fun (_ : Unit) (t : State) => zPost dC dI A (rW Q R) (rT Q) t) A) args s 0 0 A) (F0 m 309 ls []) := by
  intro σ  H locs ls hf hP hD hS hl
  unfold f_X12_stat_309 at hf
  refine lv_aload_n hx hb dX12_stat_309 rfl (lv_at hl 0 rfl) ?_
  refine lv_iconst (v := 1) hx hb dX12_stat_310 (by decide) ?_
  refine lv_iconst (v := 0) hx hb dX12_stat_311 (by decide) ?_
  obtain ⟨p10, hcp10, hf⟩ := hf_bind hf
  have hFc := r_free hD hS hA
  refine va_calli (va_runV (As := [.int 1, .int 0]) (rest := []) ⟨hx, hb, hml, hown, hts⟩ (c_X12_emit l dC dI _ Q N σ 1 0 p10 hcp10) (cwV 2 hts hX12_stat_X12_emit_v464 rfl rfl rfl (by decide +kernel) ⟨Nat.le_of_ble_eq_true rfl, Nat.le_of_ble_eq_true rfl⟩) ⟨zPre.blind, va_recv hK hP (ci := 11) (q0 := 0) rfl rfl, zPre.go hZ hP hK hD⟩ rfl rfl hl.1 rfl (lv_room (Nat.le_of_ble_eq_true rfl)) dX12_stat_312 ⟨Nat.le_of_ble_eq_true rfl, Nat.le_of_ble_eq_true rfl⟩) hS (fun q _ h => hFc q h) hFc (fun r11 u9 t9 H1 locs ht hvm hw hB hz1 hk1 hS => ?_)
  obtain ⟨hP, hK1, hD1⟩ := hB
  rw [ht] at hP
  have hD := hD1.weaken (fun _ _ _ h => hFc _ h)
  generalize H1 = H at hP hS ⊢
  obtain rfl : r11 = p10.1 := hw
  refine lv_pop hx hb dX12_stat_315 rfl ?_
  refine lv_aload_n hx hb dX12_stat_316 rfl (lv_at hl 0 rfl) ?_
  refine rG_10 (v := (p10.2.i 10)) hx hb hts i_X12_stat_X12 hown hK hP (hts (.fieldLink RX12 307 "StatementRules2Model" "tok" "I") k_X12_stat_fieldLink_RX12_307_SRModel_tok_I) dX12_stat_317 rfl ?_
  refine lv_bipush (v := 59) hx hb dX12_stat_320 (by decide) ?_
  refine lv_icmp_ne (tgt := 337) hx hb dX12_stat_322 (by decide) (fun c12 => ?_) (fun c12 => ?_)
  ·
    replace hf := (if_neg c12).symm.trans hf
    refine lv_aload_n hx hb dX12_stat_337 rfl (lv_at hl 0 rfl) ?_
    obtain ⟨p13, hcp13, hf⟩ := hf_bind hf
    have hFc := r_free hD hS hA
    refine va_callv (va_runV (As := []) (rest := []) ⟨hx, hb, hml, hown, hts⟩ (c_X12_jump l dC dI _ Q N p10.2 p13 hcp13) (cwV 0 hts hX12_stat_X12_jump_v497 rfl rfl rfl (by decide +kernel) ⟨Nat.le_of_ble_eq_true rfl, Nat.le_of_ble_eq_true rfl⟩) ⟨zPre.blind, va_recv hK hP (ci := 11) (q0 := 0) rfl rfl, zPre.go hZ hP hK hD⟩ rfl rfl hl.1 rfl (lv_room (Nat.le_of_ble_eq_true rfl)) dX12_stat_338 ⟨Nat.le_of_ble_eq_true rfl, Nat.le_of_ble_eq_true rfl⟩) hS (fun q _ h => hFc q h) hFc (fun u9 t9 H1 locs ht hvm hw hB hz1 hk1 hS => ?_)
    obtain ⟨hP, hK1, hD1⟩ := hB
    rw [ht] at hP
    have hD := hD1.weaken (fun _ _ _ h => hFc _ h)
    generalize H1 = H at hP hS ⊢
    refine lv_aload_n hx hb dX12_stat_341 rfl (lv_at hl 0 rfl) ?_
    refine lv_iconst (v := 0) hx hb dX12_stat_342 (by decide) ?_
    obtain ⟨p15, hcp15, hf⟩ := hf_bind hf
    have hFc := r_free hD hS hA
    refine va_callv (va_runV (As := [.int 0]) (rest := []) ⟨hx, hb, hml, hown, hts⟩ (c_X12_over l dC dI _ Q N p13 0 p15 hcp15) (cwV 1 hts hX12_stat_X12_over_v490 rfl rfl rfl (by decide +kernel) ⟨Nat.le_of_ble_eq_true rfl, Nat.le_of_ble_eq_true rfl⟩) ⟨zPre.blind, va_recv hK hP (ci := 11) (q0 := 0) rfl rfl, zPre.go hZ hP hK hD⟩ rfl rfl hl.1 rfl (lv_room (Nat.le_of_ble_eq_true rfl)) dX12_stat_343 ⟨Nat.le_of_ble_eq_true rfl, Nat.le_of_ble_eq_true rfl⟩) hS (fun q _ h => hFc q h) hFc (fun u9 t9 H1 locs ht hvm hw hB hz1 hk1 hS => ?_)
    obtain ⟨hP, hK1, hD1⟩ := hB
    rw [ht] at hP
    have hD := hD1.weaken (fun _ _ _ h => hFc _ h)
    generalize H1 = H at hP hS ⊢
    obtain rfl := Option.some.inj hf
    exact W.vret hx hb hr (fun t ht hW => ⟨⟨(), rfl, trivial, by rw [ht]; exact hP, va_K.moved hW.alike hK, hD⟩, hS.F ht⟩) hS.2.2 dX12_stat_346
  ·
    replace hf := (if_pos c12).symm.trans hf
    refine lv_aload_n hx hb dX12_stat_325 rfl (lv_at hl 0 rfl) ?_
    obtain ⟨p17, hcp17, hf⟩ := hf_bind hf
    have hFc := r_free hD hS hA
    refine va_callv (va_runV (As := []) (rest := []) ⟨hx, hb, hml, hown, hts⟩ (c_X12_next l dC dI _ Q N p10.2 p17 hcp17) (cwV 0 hts hX12_stat_X12_next_v345 rfl rfl rfl (by decide +kernel) ⟨Nat.le_of_ble_eq_true rfl, Nat.le_of_ble_eq_true rfl⟩) ⟨zPre.blind, va_recv hK hP (ci := 11) (q0 := 0) rfl rfl, zPre.go hZ hP hK hD⟩ rfl rfl hl.1 rfl (lv_room (Nat.le_of_ble_eq_true rfl)) dX12_stat_326 ⟨Nat.le_of_ble_eq_true rfl, Nat.le_of_ble_eq_true rfl⟩) hS (fun q _ h => hFc q h) hFc (fun u9 t9 H1 locs ht hvm hw hB hz1 hk1 hS => ?_)
    obtain ⟨hP, hK1, hD1⟩ := hB
    rw [ht] at hP
    have hD := hD1.weaken (fun _ _ _ h => hFc _ h)
    generalize H1 = H at hP hS ⊢
    refine lv_aload_n hx hb dX12_stat_329 rfl (lv_at hl 0 rfl) ?_
    refine lv_iconst (v := 1) hx hb dX12_stat_330 (by decide) ?_
    obtain ⟨p19, hcp19, hf⟩ := hf_bind hf
    have hFc := r_free hD hS hA
    refine va_callv (va_runV (As := [.int 1]) (rest := []) ⟨hx, hb, hml, hown, hts⟩ (c_X12_over l dC dI _ Q N p17 1 p19 hcp19) (cwV 1 hts hX12_stat_X12_over_v490 rfl rfl rfl (by decide +kernel) ⟨Nat.le_of_ble_eq_true rfl, Nat.le_of_ble_eq_true rfl⟩) ⟨zPre.blind, va_recv hK hP (ci := 11) (q0 := 0) rfl rfl, zPre.go hZ hP hK hD⟩ rfl rfl hl.1 rfl (lv_room (Nat.le_of_ble_eq_true rfl)) dX12_stat_331 ⟨Nat.le_of_ble_eq_true rfl, Nat.le_of_ble_eq_true rfl⟩) hS (fun q _ h => hFc q h) hFc (fun u9 t9 H1 locs ht hvm hw hB hz1 hk1 hS => ?_)
    obtain ⟨hP, hK1, hD1⟩ := hB
    rw [ht] at hP
    have hD := hD1.weaken (fun _ _ _ h => hFc _ h)
    generalize H1 = H at hP hS ⊢
    refine lv_goto (tgt := 346) hx hb dX12_stat_334 (by decide) ?_
    obtain rfl := Option.some.inj hf
    exact W.vret hx hb hr (fun t ht hW => ⟨⟨(), rfl, trivial, by rw [ht]; exact hP, va_K.moved hW.alike hK, hD⟩, hS.F ht⟩) hS.2.2 dX12_stat_346
set_option maxHeartbeats 4000000 in
set_option maxRecDepth 100000 in
theorem j_X12_stat_240 {p : Program} {e : Env} {s : State} {m : MethodId} {args : Array Value} {below : List Frame} {meth : Method} {c : Code} {A : Nat → Prop} (l : Launch) (dC : Nat → ClassId) (dI : Nat → Nat → Nat) (Q : RQ) (N : Nat) (R : RS) (hx : p.tables.exec = Jvm.exec) (hb : c.code = cX12_stat) (hr : meth.sig.returnType = none) (hml : c.maxLocals = 2) (hown : s.vm.findClass RX12 = some m.cls) (hts : ∀ w ∈ wzX12_stat, w.before args s = true) (hlocks : meth.locks = false) (hZ : zAMB s) (hA : ∀ q : Nat, s.heap.size ≤ q → A q) (hK : va_K (dC, dI) vwCl (rT Q) s) : ∀ (σ : RS) (x1 : Int32) (H : Heap) (locs : List Loc) (ls : Array Slot), f_X12_stat_240 N σ x1 = some R → va_P (dC, dI) vwCl (rW Q σ) H → va_D A (rW Q σ) → va_S A s.heap H locs → lv_has ls 2 [(0, .ref Q.h0), (1, .int x1)] → W p l e ({ frames := 6, cells := 0, slots := 0, locals := 360 }) s m args below meth c H locs 0 0 (MQ below (va_Qv (fun (_ : Unit) => True) (fun (_ : Unit) (t : State) => zPost dC dI A (rW Q R) (rT Q) t) A) args s 0 0 A) (F0 m 240 ls []) := by
  intro σ x1 H locs ls hf hP hD hS hl
  unfold f_X12_stat_240 at hf
  refine lv_aload_n hx hb dX12_stat_240 rfl (lv_at hl 0 rfl) ?_
  refine rG_64 hx hb hts i_X12_stat_X12 hown hK hP (hts (.fieldLink RX12 174 "StatementRules2Model" "fk" "[I") k_X12_stat_fieldLink_RX12_174_SRModel_fk_I) dX12_stat_241 ?_
  refine lv_iload_n hx hb dX12_stat_244 rfl (lv_at hl 1 rfl) ?_
  obtain ⟨b4, hf⟩ := hf_ite hf
  refine rL_64 (v := (σ.a 64 ((x1 : Int32).toNatClampNeg))) hx hb hK hP b4 dX12_stat_245 rfl ?_
  refine lv_iconst (v := 2) hx hb dX12_stat_246 (by decide) ?_
  refine lv_icmp_eq (tgt := 268) hx hb dX12_stat_247 (by decide) (fun c5 => ?_) (fun c5 => ?_)
  ·
    replace hf := (if_pos c5).symm.trans hf
    refine lv_aload_n hx hb dX12_stat_268 rfl (lv_at hl 0 rfl) ?_
    refine lv_aload_n hx hb dX12_stat_269 rfl (lv_at hl 0 rfl) ?_
    refine rG_10 (v := (σ.i 10)) hx hb hts i_X12_stat_X12 hown hK hP (hts (.fieldLink RX12 307 "StatementRules2Model" "tok" "I") k_X12_stat_fieldLink_RX12_307_SRModel_tok_I) dX12_stat_270 rfl ?_
    refine lv_bipush (v := 59) hx hb dX12_stat_273 (by decide) ?_
    refine lv_icmp_eq (tgt := 298) hx hb dX12_stat_275 (by decide) (fun c6 => ?_) (fun c6 => ?_)
    ·
      replace hf := (if_pos c6).symm.trans hf
      refine lv_iconst (v := 1) hx hb dX12_stat_298 (by decide) ?_
      refine lv_goto (tgt := 303) hx hb dX12_stat_299 (by decide) ?_
      obtain ⟨p7, hcp7, hf⟩ := hf_bind hf
      have hFc := r_free hD hS hA
      refine va_calli (va_runV (As := [.int 1]) (rest := []) ⟨hx, hb, hml, hown, hts⟩ (c_X12_can l dC dI _ Q N σ 1 p7 hcp7) (cwV 1 hts hX12_stat_X12_can_v341 rfl rfl rfl (by decide +kernel) ⟨Nat.le_of_ble_eq_true rfl, Nat.le_of_ble_eq_true rfl⟩) ⟨zPre.blind, va_recv hK hP (ci := 11) (q0 := 0) rfl rfl, zPre.go hZ hP hK hD⟩ rfl rfl hl.1 rfl (lv_room (Nat.le_of_ble_eq_true rfl)) dX12_stat_303 ⟨Nat.le_of_ble_eq_true rfl, Nat.le_of_ble_eq_true rfl⟩) hS (fun q _ h => hFc q h) hFc (fun r8 u9 t9 H1 locs ht hvm hw hB hz1 hk1 hS => ?_)
      obtain ⟨hP, hK1, hD1⟩ := hB
      rw [ht] at hP
      have hD := hD1.weaken (fun _ _ _ h => hFc _ h)
      generalize H1 = H at hP hS ⊢
      obtain rfl : r8 = p7.1 := hw
      refine lv_if_eq (tgt := 346) hx hb dX12_stat_306 (by decide) (fun c9 => ?_) (fun c9 => ?_)
      ·
        replace hf := (if_pos c9).symm.trans hf
        obtain rfl := Option.some.inj hf
        exact W.vret hx hb hr (fun t ht hW => ⟨⟨(), rfl, trivial, by rw [ht]; exact hP, va_K.moved hW.alike hK, hD⟩, hS.F ht⟩) hS.2.2 dX12_stat_346
      ·
        replace hf := (if_neg c9).symm.trans hf
        exact j_X12_stat_309 l dC dI Q N R hx hb hr hml hown hts hlocks hZ hA hK p7.2 _ _ _ hf hP hD hS (lv_sub hl [0] rfl)
    ·
      replace hf := (if_neg c6).symm.trans hf
      refine lv_aload_n hx hb dX12_stat_278 rfl (lv_at hl 0 rfl) ?_
      refine rG_10 (v := (σ.i 10)) hx hb hts i_X12_stat_X12 hown hK hP (hts (.fieldLink RX12 307 "StatementRules2Model" "tok" "I") k_X12_stat_fieldLink_RX12_307_SRModel_tok_I) dX12_stat_279 rfl ?_
      refine lv_sipush (v := 418) hx hb dX12_stat_282 (by decide) ?_
      refine lv_icmp_eq (tgt := 298) hx hb dX12_stat_285 (by decide) (fun c21 => ?_) (fun c21 => ?_)
      ·
        replace hf := (if_pos c21).symm.trans hf
        refine lv_iconst (v := 1) hx hb dX12_stat_298 (by decide) ?_
        refine lv_goto (tgt := 303) hx hb dX12_stat_299 (by decide) ?_
        obtain ⟨p22, hcp22, hf⟩ := hf_bind hf
        have hFc := r_free hD hS hA
        refine va_calli (va_runV (As := [.int 1]) (rest := []) ⟨hx, hb, hml, hown, hts⟩ (c_X12_can l dC dI _ Q N σ 1 p22 hcp22) (cwV 1 hts hX12_stat_X12_can_v341 rfl rfl rfl (by decide +kernel) ⟨Nat.le_of_ble_eq_true rfl, Nat.le_of_ble_eq_true rfl⟩) ⟨zPre.blind, va_recv hK hP (ci := 11) (q0 := 0) rfl rfl, zPre.go hZ hP hK hD⟩ rfl rfl hl.1 rfl (lv_room (Nat.le_of_ble_eq_true rfl)) dX12_stat_303 ⟨Nat.le_of_ble_eq_true rfl, Nat.le_of_ble_eq_true rfl⟩) hS (fun q _ h => hFc q h) hFc (fun r23 u9 t9 H1 locs ht hvm hw hB hz1 hk1 hS => ?_)
        obtain ⟨hP, hK1, hD1⟩ := hB
        rw [ht] at hP
        have hD := hD1.weaken (fun _ _ _ h => hFc _ h)
        generalize H1 = H at hP hS ⊢
        obtain rfl : r23 = p22.1 := hw
        refine lv_if_eq (tgt := 346) hx hb dX12_stat_306 (by decide) (fun c24 => ?_) (fun c24 => ?_)
        ·
          replace hf := (if_pos c24).symm.trans hf
          obtain rfl := Option.some.inj hf
          exact W.vret hx hb hr (fun t ht hW => ⟨⟨(), rfl, trivial, by rw [ht]; exact hP, va_K.moved hW.alike hK, hD⟩, hS.F ht⟩) hS.2.2 dX12_stat_346
        ·
          replace hf := (if_neg c24).symm.trans hf
          exact j_X12_stat_309 l dC dI Q N R hx hb hr hml hown hts hlocks hZ hA hK p22.2 _ _ _ hf hP hD hS (lv_sub hl [0] rfl)
      ·
        replace hf := (if_neg c21).symm.trans hf
        refine lv_aload_n hx hb dX12_stat_288 rfl (lv_at hl 0 rfl) ?_
        refine rG_10 (v := (σ.i 10)) hx hb hts i_X12_stat_X12 hown hK hP (hts (.fieldLink RX12 307 "StatementRules2Model" "tok" "I") k_X12_stat_fieldLink_RX12_307_SRModel_tok_I) dX12_stat_289 rfl ?_
        refine lv_sipush (v := 419) hx hb dX12_stat_292 (by decide) ?_
        refine lv_icmp_ne (tgt := 302) hx hb dX12_stat_295 (by decide) (fun c25 => ?_) (fun c25 => ?_)
        ·
          replace hf := (if_neg c25).symm.trans hf
          refine lv_iconst (v := 0) hx hb dX12_stat_302 (by decide) ?_
          obtain ⟨p26, hcp26, hf⟩ := hf_bind hf
          have hFc := r_free hD hS hA
          refine va_calli (va_runV (As := [.int 0]) (rest := []) ⟨hx, hb, hml, hown, hts⟩ (c_X12_can l dC dI _ Q N σ 0 p26 hcp26) (cwV 1 hts hX12_stat_X12_can_v341 rfl rfl rfl (by decide +kernel) ⟨Nat.le_of_ble_eq_true rfl, Nat.le_of_ble_eq_true rfl⟩) ⟨zPre.blind, va_recv hK hP (ci := 11) (q0 := 0) rfl rfl, zPre.go hZ hP hK hD⟩ rfl rfl hl.1 rfl (lv_room (Nat.le_of_ble_eq_true rfl)) dX12_stat_303 ⟨Nat.le_of_ble_eq_true rfl, Nat.le_of_ble_eq_true rfl⟩) hS (fun q _ h => hFc q h) hFc (fun r27 u9 t9 H1 locs ht hvm hw hB hz1 hk1 hS => ?_)
          obtain ⟨hP, hK1, hD1⟩ := hB
          rw [ht] at hP
          have hD := hD1.weaken (fun _ _ _ h => hFc _ h)
          generalize H1 = H at hP hS ⊢
          obtain rfl : r27 = p26.1 := hw
          refine lv_if_eq (tgt := 346) hx hb dX12_stat_306 (by decide) (fun c28 => ?_) (fun c28 => ?_)
          ·
            replace hf := (if_pos c28).symm.trans hf
            obtain rfl := Option.some.inj hf
            exact W.vret hx hb hr (fun t ht hW => ⟨⟨(), rfl, trivial, by rw [ht]; exact hP, va_K.moved hW.alike hK, hD⟩, hS.F ht⟩) hS.2.2 dX12_stat_346
          ·
            replace hf := (if_neg c28).symm.trans hf
            exact j_X12_stat_309 l dC dI Q N R hx hb hr hml hown hts hlocks hZ hA hK p26.2 _ _ _ hf hP hD hS (lv_sub hl [0] rfl)
        ·
          replace hf := (if_pos c25).symm.trans hf
          refine lv_iconst (v := 1) hx hb dX12_stat_298 (by decide) ?_
          refine lv_goto (tgt := 303) hx hb dX12_stat_299 (by decide) ?_
          obtain ⟨p29, hcp29, hf⟩ := hf_bind hf
          have hFc := r_free hD hS hA
          refine va_calli (va_runV (As := [.int 1]) (rest := []) ⟨hx, hb, hml, hown, hts⟩ (c_X12_can l dC dI _ Q N σ 1 p29 hcp29) (cwV 1 hts hX12_stat_X12_can_v341 rfl rfl rfl (by decide +kernel) ⟨Nat.le_of_ble_eq_true rfl, Nat.le_of_ble_eq_true rfl⟩) ⟨zPre.blind, va_recv hK hP (ci := 11) (q0 := 0) rfl rfl, zPre.go hZ hP hK hD⟩ rfl rfl hl.1 rfl (lv_room (Nat.le_of_ble_eq_true rfl)) dX12_stat_303 ⟨Nat.le_of_ble_eq_true rfl, Nat.le_of_ble_eq_true rfl⟩) hS (fun q _ h => hFc q h) hFc (fun r30 u9 t9 H1 locs ht hvm hw hB hz1 hk1 hS => ?_)
          obtain ⟨hP, hK1, hD1⟩ := hB
          rw [ht] at hP
          have hD := hD1.weaken (fun _ _ _ h => hFc _ h)
          generalize H1 = H at hP hS ⊢
          obtain rfl : r30 = p29.1 := hw
          refine lv_if_eq (tgt := 346) hx hb dX12_stat_306 (by decide) (fun c31 => ?_) (fun c31 => ?_)
          ·
            replace hf := (if_pos c31).symm.trans hf
            obtain rfl := Option.some.inj hf
            exact W.vret hx hb hr (fun t ht hW => ⟨⟨(), rfl, trivial, by rw [ht]; exact hP, va_K.moved hW.alike hK, hD⟩, hS.F ht⟩) hS.2.2 dX12_stat_346
          ·
            replace hf := (if_neg c31).symm.trans hf
            exact j_X12_stat_309 l dC dI Q N R hx hb hr hml hown hts hlocks hZ hA hK p29.2 _ _ _ hf hP hD hS (lv_sub hl [0] rfl)
  ·
    replace hf := (if_neg c5).symm.trans hf
    refine lv_aload_n hx hb dX12_stat_250 rfl (lv_at hl 0 rfl) ?_
    refine rG_64 hx hb hts i_X12_stat_X12 hown hK hP (hts (.fieldLink RX12 174 "StatementRules2Model" "fk" "[I") k_X12_stat_fieldLink_RX12_174_SRModel_fk_I) dX12_stat_251 ?_
    refine lv_iload_n hx hb dX12_stat_254 rfl (lv_at hl 1 rfl) ?_
    refine rL_64 (v := (σ.a 64 ((x1 : Int32).toNatClampNeg))) hx hb hK hP b4 dX12_stat_255 rfl ?_
    refine lv_iconst (v := 5) hx hb dX12_stat_256 (by decide) ?_
    refine lv_icmp_eq (tgt := 267) hx hb dX12_stat_257 (by decide) (fun c32 => ?_) (fun c32 => ?_)
    ·
      replace hf := (if_pos c32).symm.trans hf
      obtain rfl := Option.some.inj hf
      exact W.vret hx hb hr (fun t ht hW => ⟨⟨(), rfl, trivial, by rw [ht]; exact hP, va_K.moved hW.alike hK, hD⟩, hS.F ht⟩) hS.2.2 dX12_stat_267
    ·
      replace hf := (if_neg c32).symm.trans hf
      refine lv_aload_n hx hb dX12_stat_260 rfl (lv_at hl 0 rfl) ?_
      refine lv_iconst (v := 1) hx hb dX12_stat_261 (by decide) ?_
      refine lv_iconst (v := 0) hx hb dX12_stat_262 (by decide) ?_
      obtain ⟨p33, hcp33, hf⟩ := hf_bind hf
      have hFc := r_free hD hS hA
      refine va_calli (va_runV (As := [.int 1, .int 0]) (rest := []) ⟨hx, hb, hml, hown, hts⟩ (c_X12_emit l dC dI _ Q N σ 1 0 p33 hcp33) (cwV 2 hts hX12_stat_X12_emit_v464 rfl rfl rfl (by decide +kernel) ⟨Nat.le_of_ble_eq_true rfl, Nat.le_of_ble_eq_true rfl⟩) ⟨zPre.blind, va_recv hK hP (ci := 11) (q0 := 0) rfl rfl, zPre.go hZ hP hK hD⟩ rfl rfl hl.1 rfl (lv_room (Nat.le_of_ble_eq_true rfl)) dX12_stat_263 ⟨Nat.le_of_ble_eq_true rfl, Nat.le_of_ble_eq_true rfl⟩) hS (fun q _ h => hFc q h) hFc (fun r34 u9 t9 H1 locs ht hvm hw hB hz1 hk1 hS => ?_)
      obtain ⟨hP, hK1, hD1⟩ := hB
      rw [ht] at hP
      have hD := hD1.weaken (fun _ _ _ h => hFc _ h)
      generalize H1 = H at hP hS ⊢
      obtain rfl : r34 = p33.1 := hw
      refine lv_pop hx hb dX12_stat_266 rfl ?_
      obtain rfl := Option.some.inj hf
      exact W.vret hx hb hr (fun t ht hW => ⟨⟨(), rfl, trivial, by rw [ht]; exact hP, va_K.moved hW.alike hK, hD⟩, hS.F ht⟩) hS.2.2 dX12_stat_267
set_option maxHeartbeats 4000000 in
set_option maxRecDepth 100000 in
theorem c_X12_stat (l : Launch) (dC : Nat → ClassId) (dI : Nat → Nat → Nat) (sz : Nat) (Q : RQ) (N : Nat) (σ : RS) (x1 : Int32) (R : RS) (hf : f_X12_stat N σ x1 = some R) : Met l yX12_stat wzX12_stat ({ frames := 6, cells := 0, slots := 0, locals := 360 }) (va_Pc [.ref Q.h0, .int x1] (zPre dC dI sz (rW Q σ) (rT Q))) (va_Qv (fun (_ : Unit) => True) (fun (_ : Unit) (t : State) => zPost dC dI (va_A (rW Q σ) sz) (rW Q R) (rT Q) t) (va_A (rW Q σ) sz)) 0 0 (va_A (rW Q σ) sz) := by
  refine Met.ofW (cc := cX12_stat) (maxL := 2) (ret := none) (by decide) rfl ?_
  intro p e s m args below meth c s₁ B hml hv
  obtain ⟨rfl, hsz, hZ, hP, hK, hD0⟩ := hv
  have hx := B.exec
  have hb := B.bytes
  have hr := B.returns
  have hts := atoms_spec (ws := wzX12_stat) B.pre
  have hown : s.vm.findClass RX12 = some m.cls := findClass_of_methodNamed B.named
  have hlocks := B.notSynchronized
  subst hsz
  have hD := hD0.self (sz := s.heap.size)
  generalize hAe : va_A (rW Q σ) s.heap.size = A at hD ⊢
  have hA : ∀ q : Nat, s.heap.size ≤ q → A q := fun q h => by rw [← hAe]; exact Or.inr h
  have hS : va_S A s.heap s.heap [] := va_S.rf
  have hl := lv_entry ([.ref Q.h0, .int x1]) (n := 2) (Nat.le_of_ble_eq_true rfl)
  rw [lg_entry_eq]
  generalize (lg_sl ([.ref Q.h0, .int x1]) ++ List.replicate (2 - (lg_sl ([.ref Q.h0, .int x1])).length) Slot.unset).toArray = ls at hl ⊢
  have hl : lv_has ls 2 [(0, .ref Q.h0), (1, .int x1)] := hl
  unfold f_X12_stat at hf
  refine lv_aload_n hx hb dX12_stat_0 rfl (lv_at hl 0 rfl) ?_
  refine lv_dup hx hb dX12_stat_1 rfl ?_
  refine rG_53 (v := (σ.i 53)) hx hb hts i_X12_stat_X12 hown hK hP (hts (.fieldLink RX12 494 "StatementRules2Model" "statements" "I") k_X12_stat_fieldLink_RX12_494_SRModel_statements_I) dX12_stat_2 rfl ?_
  refine lv_iconst (v := 1) hx hb dX12_stat_5 (by decide) ?_
  refine lv_iadd hx hb dX12_stat_6 ?_
  refine rP_53 hx hb hts i_X12_stat_X12 hown hK hP hD hS (hts (.fieldLink RX12 494 "StatementRules2Model" "statements" "I") k_X12_stat_fieldLink_RX12_494_SRModel_statements_I) dX12_stat_7 (fun H locs hP hD hS => ?_)
  refine lv_aload_n hx hb dX12_stat_10 rfl (lv_at hl 0 rfl) ?_
  refine rG_10 (v := (σ.i 10)) hx hb hts i_X12_stat_X12 hown hK hP (hts (.fieldLink RX12 307 "StatementRules2Model" "tok" "I") k_X12_stat_fieldLink_RX12_307_SRModel_tok_I) dX12_stat_11 rfl ?_
  refine lv_bipush (v := 123) hx hb dX12_stat_14 (by decide) ?_
  refine lv_icmp_ne (tgt := 27) hx hb dX12_stat_16 (by decide) (fun c1 => ?_) (fun c1 => ?_)
  ·
    replace hf := (if_neg c1).symm.trans hf
    refine lv_aload_n hx hb dX12_stat_27 rfl (lv_at hl 0 rfl) ?_
    refine rG_64 hx hb hts i_X12_stat_X12 hown hK hP (hts (.fieldLink RX12 174 "StatementRules2Model" "fk" "[I") k_X12_stat_fieldLink_RX12_174_SRModel_fk_I) dX12_stat_28 ?_
    refine lv_iload_n hx hb dX12_stat_31 rfl (lv_at hl 1 rfl) ?_
    refine lv_aload_n hx hb dX12_stat_32 rfl (lv_at hl 0 rfl) ?_
    refine rG_10 (v := (σ.i 10)) hx hb hts i_X12_stat_X12 hown hK hP (hts (.fieldLink RX12 307 "StatementRules2Model" "tok" "I") k_X12_stat_fieldLink_RX12_307_SRModel_tok_I) dX12_stat_33 rfl ?_
    refine lv_sipush (v := 410) hx hb dX12_stat_36 (by decide) ?_
    refine lv_icmp_eq (tgt := 52) hx hb dX12_stat_39 (by decide) (fun c2 => ?_) (fun c2 => ?_)
    ·
      replace hf := (if_pos c2).symm.trans hf
      refine lv_iconst (v := 4) hx hb dX12_stat_52 (by decide) ?_
      refine lv_goto (tgt := 239) hx hb dX12_stat_53 (by decide) ?_
      obtain ⟨b3, hf⟩ := hf_ite hf
      refine rS_64 hx hb hK hP hD hS b3 dX12_stat_239 (fun H locs hP hD hS => ?_)
      exact j_X12_stat_240 l dC dI Q N R hx hb hr hml hown hts hlocks hZ hA hK (RS.setA (RS.setI σ 53 ((σ.i 53) + 1)) 64 ((x1 : Int32).toNatClampNeg) 4) x1 _ _ _ hf hP hD hS (lv_sub hl [0, 1] rfl)
    ·
      replace hf := (if_neg c2).symm.trans hf
      refine lv_aload_n hx hb dX12_stat_42 rfl (lv_at hl 0 rfl) ?_
      refine rG_10 (v := (σ.i 10)) hx hb hts i_X12_stat_X12 hown hK hP (hts (.fieldLink RX12 307 "StatementRules2Model" "tok" "I") k_X12_stat_fieldLink_RX12_307_SRModel_tok_I) dX12_stat_43 rfl ?_
      refine lv_sipush (v := 411) hx hb dX12_stat_46 (by decide) ?_
      refine lv_icmp_ne (tgt := 56) hx hb dX12_stat_49 (by decide) (fun c35 => ?_) (fun c35 => ?_)
      ·
        replace hf := (if_neg c35).symm.trans hf
        refine lv_aload_n hx hb dX12_stat_56 rfl (lv_at hl 0 rfl) ?_
        refine rG_10 (v := (σ.i 10)) hx hb hts i_X12_stat_X12 hown hK hP (hts (.fieldLink RX12 307 "StatementRules2Model" "tok" "I") k_X12_stat_fieldLink_RX12_307_SRModel_tok_I) dX12_stat_57 rfl ?_
        refine lv_iconst (v := 2) hx hb dX12_stat_60 (by decide) ?_
        refine lv_icmp_ne (tgt := 68) hx hb dX12_stat_61 (by decide) (fun c36 => ?_) (fun c36 => ?_)
        ·
          replace hf := (if_neg c36).symm.trans hf
          refine lv_aload_n hx hb dX12_stat_68 rfl (lv_at hl 0 rfl) ?_
          refine rG_10 (v := (σ.i 10)) hx hb hts i_X12_stat_X12 hown hK hP (hts (.fieldLink RX12 307 "StatementRules2Model" "tok" "I") k_X12_stat_fieldLink_RX12_307_SRModel_tok_I) dX12_stat_69 rfl ?_
          refine lv_sipush (v := 412) hx hb dX12_stat_72 (by decide) ?_
          refine lv_icmp_eq (tgt := 98) hx hb dX12_stat_75 (by decide) (fun c37 => ?_) (fun c37 => ?_)
          ·
            replace hf := (if_pos c37).symm.trans hf
            refine lv_bipush (v := 6) hx hb dX12_stat_98 (by decide) ?_
            refine lv_goto (tgt := 239) hx hb dX12_stat_100 (by decide) ?_
            obtain ⟨b38, hf⟩ := hf_ite hf
            refine rS_64 hx hb hK hP hD hS b38 dX12_stat_239 (fun H locs hP hD hS => ?_)
            exact j_X12_stat_240 l dC dI Q N R hx hb hr hml hown hts hlocks hZ hA hK (RS.setA (RS.setI σ 53 ((σ.i 53) + 1)) 64 ((x1 : Int32).toNatClampNeg) 6) x1 _ _ _ hf hP hD hS (lv_sub hl [0, 1] rfl)
          ·
            replace hf := (if_neg c37).symm.trans hf
            refine lv_aload_n hx hb dX12_stat_78 rfl (lv_at hl 0 rfl) ?_
            refine rG_10 (v := (σ.i 10)) hx hb hts i_X12_stat_X12 hown hK hP (hts (.fieldLink RX12 307 "StatementRules2Model" "tok" "I") k_X12_stat_fieldLink_RX12_307_SRModel_tok_I) dX12_stat_79 rfl ?_
            refine lv_sipush (v := 420) hx hb dX12_stat_82 (by decide) ?_
            refine lv_icmp_eq (tgt := 98) hx hb dX12_stat_85 (by decide) (fun c39 => ?_) (fun c39 => ?_)
            ·
              replace hf := (if_pos c39).symm.trans hf
              refine lv_bipush (v := 6) hx hb dX12_stat_98 (by decide) ?_
              refine lv_goto (tgt := 239) hx hb dX12_stat_100 (by decide) ?_
              obtain ⟨b40, hf⟩ := hf_ite hf
              refine rS_64 hx hb hK hP hD hS b40 dX12_stat_239 (fun H locs hP hD hS => ?_)
              exact j_X12_stat_240 l dC dI Q N R hx hb hr hml hown hts hlocks hZ hA hK (RS.setA (RS.setI σ 53 ((σ.i 53) + 1)) 64 ((x1 : Int32).toNatClampNeg) 6) x1 _ _ _ hf hP hD hS (lv_sub hl [0, 1] rfl)
            ·
              replace hf := (if_neg c39).symm.trans hf
              refine lv_aload_n hx hb dX12_stat_88 rfl (lv_at hl 0 rfl) ?_
              refine rG_10 (v := (σ.i 10)) hx hb hts i_X12_stat_X12 hown hK hP (hts (.fieldLink RX12 307 "StatementRules2Model" "tok" "I") k_X12_stat_fieldLink_RX12_307_SRModel_tok_I) dX12_stat_89 rfl ?_
              refine lv_sipush (v := 431) hx hb dX12_stat_92 (by decide) ?_
              refine lv_icmp_ne (tgt := 103) hx hb dX12_stat_95 (by decide) (fun c41 => ?_) (fun c41 => ?_)
              ·
                replace hf := (if_neg c41).symm.trans hf
                refine lv_aload_n hx hb dX12_stat_103 rfl (lv_at hl 0 rfl) ?_
                refine rG_10 (v := (σ.i 10)) hx hb hts i_X12_stat_X12 hown hK hP (hts (.fieldLink RX12 307 "StatementRules2Model" "tok" "I") k_X12_stat_fieldLink_RX12_307_SRModel_tok_I) dX12_stat_104 rfl ?_
                refine lv_sipush (v := 421) hx hb dX12_stat_107 (by decide) ?_
                refine lv_icmp_ne (tgt := 118) hx hb dX12_stat_110 (by decide) (fun c42 => ?_) (fun c42 => ?_)
                ·
                  replace hf := (if_neg c42).symm.trans hf
                  refine lv_aload_n hx hb dX12_stat_118 rfl (lv_at hl 0 rfl) ?_
                  refine rG_10 (v := (σ.i 10)) hx hb hts i_X12_stat_X12 hown hK hP (hts (.fieldLink RX12 307 "StatementRules2Model" "tok" "I") k_X12_stat_fieldLink_RX12_307_SRModel_tok_I) dX12_stat_119 rfl ?_
                  refine lv_sipush (v := 427) hx hb dX12_stat_122 (by decide) ?_
                  refine lv_icmp_ne (tgt := 133) hx hb dX12_stat_125 (by decide) (fun c43 => ?_) (fun c43 => ?_)
                  ·
                    replace hf := (if_neg c43).symm.trans hf
                    refine lv_aload_n hx hb dX12_stat_133 rfl (lv_at hl 0 rfl) ?_
                    refine rG_10 (v := (σ.i 10)) hx hb hts i_X12_stat_X12 hown hK hP (hts (.fieldLink RX12 307 "StatementRules2Model" "tok" "I") k_X12_stat_fieldLink_RX12_307_SRModel_tok_I) dX12_stat_134 rfl ?_
                    refine lv_sipush (v := 413) hx hb dX12_stat_137 (by decide) ?_
                    refine lv_icmp_ne (tgt := 148) hx hb dX12_stat_140 (by decide) (fun c44 => ?_) (fun c44 => ?_)
                    ·
                      replace hf := (if_neg c44).symm.trans hf
                      refine lv_aload_n hx hb dX12_stat_148 rfl (lv_at hl 0 rfl) ?_
                      refine rG_10 (v := (σ.i 10)) hx hb hts i_X12_stat_X12 hown hK hP (hts (.fieldLink RX12 307 "StatementRules2Model" "tok" "I") k_X12_stat_fieldLink_RX12_307_SRModel_tok_I) dX12_stat_149 rfl ?_
                      refine lv_sipush (v := 415) hx hb dX12_stat_152 (by decide) ?_
                      refine lv_icmp_ne (tgt := 163) hx hb dX12_stat_155 (by decide) (fun c45 => ?_) (fun c45 => ?_)
                      ·
                        replace hf := (if_neg c45).symm.trans hf
                        refine lv_aload_n hx hb dX12_stat_163 rfl (lv_at hl 0 rfl) ?_
                        refine rG_10 (v := (σ.i 10)) hx hb hts i_X12_stat_X12 hown hK hP (hts (.fieldLink RX12 307 "StatementRules2Model" "tok" "I") k_X12_stat_fieldLink_RX12_307_SRModel_tok_I) dX12_stat_164 rfl ?_
                        refine lv_sipush (v := 416) hx hb dX12_stat_167 (by decide) ?_
                        refine lv_icmp_ne (tgt := 178) hx hb dX12_stat_170 (by decide) (fun c46 => ?_) (fun c46 => ?_)
                        ·
                          replace hf := (if_neg c46).symm.trans hf
                          refine lv_aload_n hx hb dX12_stat_178 rfl (lv_at hl 0 rfl) ?_
                          refine rG_10 (v := (σ.i 10)) hx hb hts i_X12_stat_X12 hown hK hP (hts (.fieldLink RX12 307 "StatementRules2Model" "tok" "I") k_X12_stat_fieldLink_RX12_307_SRModel_tok_I) dX12_stat_179 rfl ?_
                          refine lv_sipush (v := 417) hx hb dX12_stat_182 (by decide) ?_
                          refine lv_icmp_ne (tgt := 193) hx hb dX12_stat_185 (by decide) (fun c47 => ?_) (fun c47 => ?_)
                          ·
                            replace hf := (if_neg c47).symm.trans hf
                            refine lv_aload_n hx hb dX12_stat_193 rfl (lv_at hl 0 rfl) ?_
                            refine rG_10 (v := (σ.i 10)) hx hb hts i_X12_stat_X12 hown hK hP (hts (.fieldLink RX12 307 "StatementRules2Model" "tok" "I") k_X12_stat_fieldLink_RX12_307_SRModel_tok_I) dX12_stat_194 rfl ?_
                            refine lv_sipush (v := 422) hx hb dX12_stat_197 (by decide) ?_
                            refine lv_icmp_ne (tgt := 208) hx hb dX12_stat_200 (by decide) (fun c48 => ?_) (fun c48 => ?_)
                            ·
                              replace hf := (if_neg c48).symm.trans hf
                              refine lv_aload_n hx hb dX12_stat_208 rfl (lv_at hl 0 rfl) ?_
                              refine rG_10 (v := (σ.i 10)) hx hb hts i_X12_stat_X12 hown hK hP (hts (.fieldLink RX12 307 "StatementRules2Model" "tok" "I") k_X12_stat_fieldLink_RX12_307_SRModel_tok_I) dX12_stat_209 rfl ?_
                              refine lv_sipush (v := 428) hx hb dX12_stat_212 (by decide) ?_
                              refine lv_icmp_ne (tgt := 223) hx hb dX12_stat_215 (by decide) (fun c49 => ?_) (fun c49 => ?_)
                              ·
                                replace hf := (if_neg c49).symm.trans hf
                                refine lv_aload_n hx hb dX12_stat_223 rfl (lv_at hl 0 rfl) ?_
                                refine rG_10 (v := (σ.i 10)) hx hb hts i_X12_stat_X12 hown hK hP (hts (.fieldLink RX12 307 "StatementRules2Model" "tok" "I") k_X12_stat_fieldLink_RX12_307_SRModel_tok_I) dX12_stat_224 rfl ?_
                                refine lv_sipush (v := 423) hx hb dX12_stat_227 (by decide) ?_
                                refine lv_icmp_ne (tgt := 238) hx hb dX12_stat_230 (by decide) (fun c50 => ?_) (fun c50 => ?_)
                                ·
                                  replace hf := (if_neg c50).symm.trans hf
                                  refine lv_iconst (v := 2) hx hb dX12_stat_238 (by decide) ?_
                                  obtain ⟨b51, hf⟩ := hf_ite hf
                                  refine rS_64 hx hb hK hP hD hS b51 dX12_stat_239 (fun H locs hP hD hS => ?_)
                                  exact j_X12_stat_240 l dC dI Q N R hx hb hr hml hown hts hlocks hZ hA hK (RS.setA (RS.setI σ 53 ((σ.i 53) + 1)) 64 ((x1 : Int32).toNatClampNeg) 2) x1 _ _ _ hf hP hD hS (lv_sub hl [0, 1] rfl)
                                ·
                                  replace hf := (if_pos c50).symm.trans hf
                                  refine lv_bipush (v := 15) hx hb dX12_stat_233 (by decide) ?_
                                  refine lv_goto (tgt := 239) hx hb dX12_stat_235 (by decide) ?_
                                  obtain ⟨b52, hf⟩ := hf_ite hf
                                  refine rS_64 hx hb hK hP hD hS b52 dX12_stat_239 (fun H locs hP hD hS => ?_)
                                  exact j_X12_stat_240 l dC dI Q N R hx hb hr hml hown hts hlocks hZ hA hK (RS.setA (RS.setI σ 53 ((σ.i 53) + 1)) 64 ((x1 : Int32).toNatClampNeg) 15) x1 _ _ _ hf hP hD hS (lv_sub hl [0, 1] rfl)
                              ·
                                replace hf := (if_pos c49).symm.trans hf
                                refine lv_bipush (v := 14) hx hb dX12_stat_218 (by decide) ?_
                                refine lv_goto (tgt := 239) hx hb dX12_stat_220 (by decide) ?_
                                obtain ⟨b53, hf⟩ := hf_ite hf
                                refine rS_64 hx hb hK hP hD hS b53 dX12_stat_239 (fun H locs hP hD hS => ?_)
                                exact j_X12_stat_240 l dC dI Q N R hx hb hr hml hown hts hlocks hZ hA hK (RS.setA (RS.setI σ 53 ((σ.i 53) + 1)) 64 ((x1 : Int32).toNatClampNeg) 14) x1 _ _ _ hf hP hD hS (lv_sub hl [0, 1] rfl)
                            ·
                              replace hf := (if_pos c48).symm.trans hf
                              refine lv_bipush (v := 13) hx hb dX12_stat_203 (by decide) ?_
                              refine lv_goto (tgt := 239) hx hb dX12_stat_205 (by decide) ?_
                              obtain ⟨b54, hf⟩ := hf_ite hf
                              refine rS_64 hx hb hK hP hD hS b54 dX12_stat_239 (fun H locs hP hD hS => ?_)
                              exact j_X12_stat_240 l dC dI Q N R hx hb hr hml hown hts hlocks hZ hA hK (RS.setA (RS.setI σ 53 ((σ.i 53) + 1)) 64 ((x1 : Int32).toNatClampNeg) 13) x1 _ _ _ hf hP hD hS (lv_sub hl [0, 1] rfl)
                          ·
                            replace hf := (if_pos c47).symm.trans hf
                            refine lv_bipush (v := 12) hx hb dX12_stat_188 (by decide) ?_
                            refine lv_goto (tgt := 239) hx hb dX12_stat_190 (by decide) ?_
                            obtain ⟨b55, hf⟩ := hf_ite hf
                            refine rS_64 hx hb hK hP hD hS b55 dX12_stat_239 (fun H locs hP hD hS => ?_)
                            exact j_X12_stat_240 l dC dI Q N R hx hb hr hml hown hts hlocks hZ hA hK (RS.setA (RS.setI σ 53 ((σ.i 53) + 1)) 64 ((x1 : Int32).toNatClampNeg) 12) x1 _ _ _ hf hP hD hS (lv_sub hl [0, 1] rfl)
                        ·
                          replace hf := (if_pos c46).symm.trans hf
                          refine lv_bipush (v := 11) hx hb dX12_stat_173 (by decide) ?_
                          refine lv_goto (tgt := 239) hx hb dX12_stat_175 (by decide) ?_
                          obtain ⟨b56, hf⟩ := hf_ite hf
                          refine rS_64 hx hb hK hP hD hS b56 dX12_stat_239 (fun H locs hP hD hS => ?_)
                          exact j_X12_stat_240 l dC dI Q N R hx hb hr hml hown hts hlocks hZ hA hK (RS.setA (RS.setI σ 53 ((σ.i 53) + 1)) 64 ((x1 : Int32).toNatClampNeg) 11) x1 _ _ _ hf hP hD hS (lv_sub hl [0, 1] rfl)
                      ·
                        replace hf := (if_pos c45).symm.trans hf
                        refine lv_bipush (v := 10) hx hb dX12_stat_158 (by decide) ?_
                        refine lv_goto (tgt := 239) hx hb dX12_stat_160 (by decide) ?_
                        obtain ⟨b57, hf⟩ := hf_ite hf
                        refine rS_64 hx hb hK hP hD hS b57 dX12_stat_239 (fun H locs hP hD hS => ?_)
                        exact j_X12_stat_240 l dC dI Q N R hx hb hr hml hown hts hlocks hZ hA hK (RS.setA (RS.setI σ 53 ((σ.i 53) + 1)) 64 ((x1 : Int32).toNatClampNeg) 10) x1 _ _ _ hf hP hD hS (lv_sub hl [0, 1] rfl)
                    ·
                      replace hf := (if_pos c44).symm.trans hf
                      refine lv_bipush (v := 9) hx hb dX12_stat_143 (by decide) ?_
                      refine lv_goto (tgt := 239) hx hb dX12_stat_145 (by decide) ?_
                      obtain ⟨b58, hf⟩ := hf_ite hf
                      refine rS_64 hx hb hK hP hD hS b58 dX12_stat_239 (fun H locs hP hD hS => ?_)
                      exact j_X12_stat_240 l dC dI Q N R hx hb hr hml hown hts hlocks hZ hA hK (RS.setA (RS.setI σ 53 ((σ.i 53) + 1)) 64 ((x1 : Int32).toNatClampNeg) 9) x1 _ _ _ hf hP hD hS (lv_sub hl [0, 1] rfl)
                  ·
                    replace hf := (if_pos c43).symm.trans hf
                    refine lv_bipush (v := 8) hx hb dX12_stat_128 (by decide) ?_
                    refine lv_goto (tgt := 239) hx hb dX12_stat_130 (by decide) ?_
                    obtain ⟨b59, hf⟩ := hf_ite hf
                    refine rS_64 hx hb hK hP hD hS b59 dX12_stat_239 (fun H locs hP hD hS => ?_)
                    exact j_X12_stat_240 l dC dI Q N R hx hb hr hml hown hts hlocks hZ hA hK (RS.setA (RS.setI σ 53 ((σ.i 53) + 1)) 64 ((x1 : Int32).toNatClampNeg) 8) x1 _ _ _ hf hP hD hS (lv_sub hl [0, 1] rfl)
                ·
                  replace hf := (if_pos c42).symm.trans hf
                  refine lv_bipush (v := 7) hx hb dX12_stat_113 (by decide) ?_
                  refine lv_goto (tgt := 239) hx hb dX12_stat_115 (by decide) ?_
                  obtain ⟨b60, hf⟩ := hf_ite hf
                  refine rS_64 hx hb hK hP hD hS b60 dX12_stat_239 (fun H locs hP hD hS => ?_)
                  exact j_X12_stat_240 l dC dI Q N R hx hb hr hml hown hts hlocks hZ hA hK (RS.setA (RS.setI σ 53 ((σ.i 53) + 1)) 64 ((x1 : Int32).toNatClampNeg) 7) x1 _ _ _ hf hP hD hS (lv_sub hl [0, 1] rfl)
              ·
                replace hf := (if_pos c41).symm.trans hf
                refine lv_bipush (v := 6) hx hb dX12_stat_98 (by decide) ?_
                refine lv_goto (tgt := 239) hx hb dX12_stat_100 (by decide) ?_
                obtain ⟨b61, hf⟩ := hf_ite hf
                refine rS_64 hx hb hK hP hD hS b61 dX12_stat_239 (fun H locs hP hD hS => ?_)
                exact j_X12_stat_240 l dC dI Q N R hx hb hr hml hown hts hlocks hZ hA hK (RS.setA (RS.setI σ 53 ((σ.i 53) + 1)) 64 ((x1 : Int32).toNatClampNeg) 6) x1 _ _ _ hf hP hD hS (lv_sub hl [0, 1] rfl)
        ·
          replace hf := (if_pos c36).symm.trans hf
          refine lv_iconst (v := 5) hx hb dX12_stat_64 (by decide) ?_
          refine lv_goto (tgt := 239) hx hb dX12_stat_65 (by decide) ?_
          obtain ⟨b62, hf⟩ := hf_ite hf
          refine rS_64 hx hb hK hP hD hS b62 dX12_stat_239 (fun H locs hP hD hS => ?_)
          exact j_X12_stat_240 l dC dI Q N R hx hb hr hml hown hts hlocks hZ hA hK (RS.setA (RS.setI σ 53 ((σ.i 53) + 1)) 64 ((x1 : Int32).toNatClampNeg) 5) x1 _ _ _ hf hP hD hS (lv_sub hl [0, 1] rfl)
      ·
        replace hf := (if_pos c35).symm.trans hf
        refine lv_iconst (v := 4) hx hb dX12_stat_52 (by decide) ?_
        refine lv_goto (tgt := 239) hx hb dX12_stat_53 (by decide) ?_
        obtain ⟨b63, hf⟩ := hf_ite hf
        refine rS_64 hx hb hK hP hD hS b63 dX12_stat_239 (fun H locs hP hD hS => ?_)
        exact j_X12_stat_240 l dC dI Q N R hx hb hr hml hown hts hlocks hZ hA hK (RS.setA (RS.setI σ 53 ((σ.i 53) + 1)) 64 ((x1 : Int32).toNatClampNeg) 4) x1 _ _ _ hf hP hD hS (lv_sub hl [0, 1] rfl)
  ·
    replace hf := (if_pos c1).symm.trans hf
    refine lv_aload_n hx hb dX12_stat_19 rfl (lv_at hl 0 rfl) ?_
    refine rG_64 hx hb hts i_X12_stat_X12 hown hK hP (hts (.fieldLink RX12 174 "StatementRules2Model" "fk" "[I") k_X12_stat_fieldLink_RX12_174_SRModel_fk_I) dX12_stat_20 ?_
    refine lv_iload_n hx hb dX12_stat_23 rfl (lv_at hl 1 rfl) ?_
    refine lv_iconst (v := 3) hx hb dX12_stat_24 (by decide) ?_
    obtain ⟨b64, hf⟩ := hf_ite hf
    refine rS_64 hx hb hK hP hD hS b64 dX12_stat_25 (fun H locs hP hD hS => ?_)
    obtain rfl := Option.some.inj hf
    exact W.vret hx hb hr (fun t ht hW => ⟨⟨(), rfl, trivial, by rw [ht]; exact hP, va_K.moved hW.alike hK, hD⟩, hS.F ht⟩) hS.2.2 dX12_stat_26
theorem k_X12_block_fieldLink_RX12_177_SRModel_fs_I : Cond.fieldLink RX12 177 "StatementRules2Model" "fs" "[I" ∈ wzX12_block := List.mem_cons_of_mem _ (List.mem_append_left _ (List.mem_of_getElem? (i := 0) rfl))
theorem i_X12_block_X12 : ∀ w ∈ wsX120, w ∈ wzX12_block := fun _ h => List.mem_cons_of_mem _ (List.mem_append_right _ (List.mem_append_left _ (h)))
theorem k_X12_block_fieldLink_RX12_180_SRModel_fp_I : Cond.fieldLink RX12 180 "StatementRules2Model" "fp" "[I" ∈ wzX12_block := List.mem_cons_of_mem _ (List.mem_append_left _ (List.mem_of_getElem? (i := 1) rfl))
theorem k_X12_block_fieldLink_RX12_361_SRModel_seen_I : Cond.fieldLink RX12 361 "StatementRules2Model" "seen" "I" ∈ wzX12_block := List.mem_cons_of_mem _ (List.mem_append_left _ (List.mem_of_getElem? (i := 2) rfl))
theorem k_X12_block_fieldLink_RX12_387_SRModel_top_I : Cond.fieldLink RX12 387 "StatementRules2Model" "top" "I" ∈ wzX12_block := List.mem_cons_of_mem _ (List.mem_append_left _ (List.mem_of_getElem? (i := 3) rfl))
set_option maxHeartbeats 4000000 in
set_option maxRecDepth 100000 in
theorem c_X12_block (l : Launch) (dC : Nat → ClassId) (dI : Nat → Nat → Nat) (sz : Nat) (Q : RQ) (N : Nat) (σ : RS) (x1 : Int32) (R : RS) (hf : f_X12_block N σ x1 = some R) : Met l yX12_block wzX12_block ({ frames := 6, cells := 0, slots := 0, locals := 360 }) (va_Pc [.ref Q.h0, .int x1] (zPre dC dI sz (rW Q σ) (rT Q))) (va_Qv (fun (_ : Unit) => True) (fun (_ : Unit) (t : State) => zPost dC dI (va_A (rW Q σ) sz) (rW Q R) (rT Q) t) (va_A (rW Q σ) sz)) 0 0 (va_A (rW Q σ) sz) := by
  refine Met.ofW (cc := cX12_block) (maxL := 2) (ret := none) (by decide) rfl ?_
  intro p e s m args below meth c s₁ B hml hv
  obtain ⟨rfl, hsz, hZ, hP, hK, hD0⟩ := hv
  have hx := B.exec
  have hb := B.bytes
  have hr := B.returns
  have hts := atoms_spec (ws := wzX12_block) B.pre
  have hown : s.vm.findClass RX12 = some m.cls := findClass_of_methodNamed B.named
  have hlocks := B.notSynchronized
  subst hsz
  have hD := hD0.self (sz := s.heap.size)
  generalize hAe : va_A (rW Q σ) s.heap.size = A at hD ⊢
  have hA : ∀ q : Nat, s.heap.size ≤ q → A q := fun q h => by rw [← hAe]; exact Or.inr h
  have hS : va_S A s.heap s.heap [] := va_S.rf
  have hl := lv_entry ([.ref Q.h0, .int x1]) (n := 2) (Nat.le_of_ble_eq_true rfl)
  rw [lg_entry_eq]
  generalize (lg_sl ([.ref Q.h0, .int x1]) ++ List.replicate (2 - (lg_sl ([.ref Q.h0, .int x1])).length) Slot.unset).toArray = ls at hl ⊢
  have hl : lv_has ls 2 [(0, .ref Q.h0), (1, .int x1)] := hl
  unfold f_X12_block at hf
  refine lv_aload_n hx hb dX12_block_0 rfl (lv_at hl 0 rfl) ?_
  refine rG_65 hx hb hts i_X12_block_X12 hown hK hP (hts (.fieldLink RX12 177 "StatementRules2Model" "fs" "[I") k_X12_block_fieldLink_RX12_177_SRModel_fs_I) dX12_block_1 ?_
  refine lv_iload_n hx hb dX12_block_4 rfl (lv_at hl 1 rfl) ?_
  obtain ⟨b1, hf⟩ := hf_ite hf
  refine rL_65 (v := (σ.a 65 ((x1 : Int32).toNatClampNeg))) hx hb hK hP b1 dX12_block_5 rfl ?_
  refine lv_if_ne (tgt := 33) hx hb dX12_block_6 (by decide) (fun c2 => ?_) (fun c2 => ?_)
  ·
    replace hf := (if_neg c2).symm.trans hf
    refine lv_aload_n hx hb dX12_block_33 rfl (lv_at hl 0 rfl) ?_
    refine lv_bipush (v := 125) hx hb dX12_block_34 (by decide) ?_
    obtain ⟨p3, hcp3, hf⟩ := hf_bind hf
    have hFc := r_free hD hS hA
    refine va_calli (va_runV (As := [.int 125]) (rest := []) ⟨hx, hb, hml, hown, hts⟩ (c_X12_shut l dC dI _ Q N σ 125 p3 hcp3) (cwV 1 hts hX12_block_X12_shut_v468 rfl rfl rfl (by decide +kernel) ⟨Nat.le_of_ble_eq_true rfl, Nat.le_of_ble_eq_true rfl⟩) ⟨zPre.blind, va_recv hK hP (ci := 11) (q0 := 0) rfl rfl, zPre.go hZ hP hK hD⟩ rfl rfl hl.1 rfl (lv_room (Nat.le_of_ble_eq_true rfl)) dX12_block_36 ⟨Nat.le_of_ble_eq_true rfl, Nat.le_of_ble_eq_true rfl⟩) hS (fun q _ h => hFc q h) hFc (fun r4 u9 t9 H1 locs ht hvm hw hB hz1 hk1 hS => ?_)
    obtain ⟨hP, hK1, hD1⟩ := hB
    rw [ht] at hP
    have hD := hD1.weaken (fun _ _ _ h => hFc _ h)
    generalize H1 = H at hP hS ⊢
    obtain rfl : r4 = p3.1 := hw
    refine lv_pop hx hb dX12_block_39 rfl ?_
    refine lv_aload_n hx hb dX12_block_40 rfl (lv_at hl 0 rfl) ?_
    refine lv_aload_n hx hb dX12_block_41 rfl (lv_at hl 0 rfl) ?_
    refine rG_66 hx hb hts i_X12_block_X12 hown hK hP (hts (.fieldLink RX12 180 "StatementRules2Model" "fp" "[I") k_X12_block_fieldLink_RX12_180_SRModel_fp_I) dX12_block_42 ?_
    refine lv_iload_n hx hb dX12_block_45 rfl (lv_at hl 1 rfl) ?_
    refine rL_66 (v := (p3.2.a 66 ((x1 : Int32).toNatClampNeg))) hx hb hK hP b1 dX12_block_46 rfl ?_
    refine rP_38 hx hb hts i_X12_block_X12 hown hK hP hD hS (hts (.fieldLink RX12 361 "StatementRules2Model" "seen" "I") k_X12_block_fieldLink_RX12_361_SRModel_seen_I) dX12_block_47 (fun H locs hP hD hS => ?_)
    refine lv_aload_n hx hb dX12_block_50 rfl (lv_at hl 0 rfl) ?_
    refine lv_dup hx hb dX12_block_51 rfl ?_
    refine rG_63 (v := (p3.2.i 63)) hx hb hts i_X12_block_X12 hown hK hP (hts (.fieldLink RX12 387 "StatementRules2Model" "top" "I") k_X12_block_fieldLink_RX12_387_SRModel_top_I) dX12_block_52 rfl ?_
    refine lv_iconst (v := 1) hx hb dX12_block_55 (by decide) ?_
    refine lv_isub hx hb dX12_block_56 ?_
    refine rP_63 hx hb hts i_X12_block_X12 hown hK hP hD hS (hts (.fieldLink RX12 387 "StatementRules2Model" "top" "I") k_X12_block_fieldLink_RX12_387_SRModel_top_I) dX12_block_57 (fun H locs hP hD hS => ?_)
    obtain rfl := Option.some.inj hf
    exact W.vret hx hb hr (fun t ht hW => ⟨⟨(), rfl, trivial, by rw [ht]; exact hP, va_K.moved hW.alike hK, hD⟩, hS.F ht⟩) hS.2.2 dX12_block_60
  ·
    replace hf := (if_pos c2).symm.trans hf
    refine lv_aload_n hx hb dX12_block_9 rfl (lv_at hl 0 rfl) ?_
    refine lv_bipush (v := 123) hx hb dX12_block_10 (by decide) ?_
    obtain ⟨p5, hcp5, hf⟩ := hf_bind hf
    have hFc := r_free hD hS hA
    refine va_calli (va_runV (As := [.int 123]) (rest := []) ⟨hx, hb, hml, hown, hts⟩ (c_X12_open l dC dI _ Q N σ 123 p5 hcp5) (cwV 1 hts hX12_block_X12_open_v475 rfl rfl rfl (by decide +kernel) ⟨Nat.le_of_ble_eq_true rfl, Nat.le_of_ble_eq_true rfl⟩) ⟨zPre.blind, va_recv hK hP (ci := 11) (q0 := 0) rfl rfl, zPre.go hZ hP hK hD⟩ rfl rfl hl.1 rfl (lv_room (Nat.le_of_ble_eq_true rfl)) dX12_block_12 ⟨Nat.le_of_ble_eq_true rfl, Nat.le_of_ble_eq_true rfl⟩) hS (fun q _ h => hFc q h) hFc (fun r6 u9 t9 H1 locs ht hvm hw hB hz1 hk1 hS => ?_)
    obtain ⟨hP, hK1, hD1⟩ := hB
    rw [ht] at hP
    have hD := hD1.weaken (fun _ _ _ h => hFc _ h)
    generalize H1 = H at hP hS ⊢
    obtain rfl : r6 = p5.1 := hw
    refine lv_pop hx hb dX12_block_15 rfl ?_
    refine lv_aload_n hx hb dX12_block_16 rfl (lv_at hl 0 rfl) ?_
    refine rG_66 hx hb hts i_X12_block_X12 hown hK hP (hts (.fieldLink RX12 180 "StatementRules2Model" "fp" "[I") k_X12_block_fieldLink_RX12_180_SRModel_fp_I) dX12_block_17 ?_
    refine lv_iload_n hx hb dX12_block_20 rfl (lv_at hl 1 rfl) ?_
    refine lv_aload_n hx hb dX12_block_21 rfl (lv_at hl 0 rfl) ?_
    refine rG_38 (v := (p5.2.i 38)) hx hb hts i_X12_block_X12 hown hK hP (hts (.fieldLink RX12 361 "StatementRules2Model" "seen" "I") k_X12_block_fieldLink_RX12_361_SRModel_seen_I) dX12_block_22 rfl ?_
    refine rS_66 hx hb hK hP hD hS b1 dX12_block_25 (fun H locs hP hD hS => ?_)
    refine lv_aload_n hx hb dX12_block_26 rfl (lv_at hl 0 rfl) ?_
    refine lv_iconst (v := 1) hx hb dX12_block_27 (by decide) ?_
    refine lv_iconst (v := 1) hx hb dX12_block_28 (by decide) ?_
    obtain ⟨p7, hcp7, hf⟩ := hf_bind hf
    have hFc := r_free hD hS hA
    refine va_callv (va_runV (As := [.int 1, .int 1]) (rest := []) ⟨hx, hb, hml, hown, hts⟩ (c_X12_then l dC dI _ Q N (RS.setA p5.2 66 ((x1 : Int32).toNatClampNeg) (p5.2.i 38)) 1 1 p7 hcp7) (cwV 2 hts hX12_block_X12_then_v393 rfl rfl rfl (by decide +kernel) ⟨Nat.le_of_ble_eq_true rfl, Nat.le_of_ble_eq_true rfl⟩) ⟨zPre.blind, va_recv hK hP (ci := 11) (q0 := 0) rfl rfl, zPre.go hZ hP hK hD⟩ rfl rfl hl.1 rfl (lv_room (Nat.le_of_ble_eq_true rfl)) dX12_block_29 ⟨Nat.le_of_ble_eq_true rfl, Nat.le_of_ble_eq_true rfl⟩) hS (fun q _ h => hFc q h) hFc (fun u9 t9 H1 locs ht hvm hw hB hz1 hk1 hS => ?_)
    obtain ⟨hP, hK1, hD1⟩ := hB
    rw [ht] at hP
    have hD := hD1.weaken (fun _ _ _ h => hFc _ h)
    generalize H1 = H at hP hS ⊢
    obtain rfl := Option.some.inj hf
    exact W.vret hx hb hr (fun t ht hW => ⟨⟨(), rfl, trivial, by rw [ht]; exact hP, va_K.moved hW.alike hK, hD⟩, hS.F ht⟩) hS.2.2 dX12_block_32
theorem k_X12_telling_fieldLink_RX12_307_SRModel_tok_I : Cond.fieldLink RX12 307 "StatementRules2Model" "tok" "I" ∈ wzX12_telling := List.mem_cons_of_mem _ (List.mem_append_left _ (List.mem_of_getElem? (i := 0) rfl))
theorem i_X12_telling_X12 : ∀ w ∈ wsX120, w ∈ wzX12_telling := fun _ h => List.mem_cons_of_mem _ (List.mem_append_right _ (List.mem_append_left _ (h)))
theorem k_X12_telling_fieldLink_RX12_327_SRModel_name_J : Cond.fieldLink RX12 327 "StatementRules2Model" "name" "J" ∈ wzX12_telling := List.mem_cons_of_mem _ (List.mem_append_left _ (List.mem_of_getElem? (i := 1) rfl))
theorem k_X12_telling_fieldLink_RX12_500_SRModel_tellings_I : Cond.fieldLink RX12 500 "StatementRules2Model" "tellings" "I" ∈ wzX12_telling := List.mem_cons_of_mem _ (List.mem_append_left _ (List.mem_of_getElem? (i := 2) rfl))
theorem k_X12_telling_fieldLink_RX12_204_SRModel_fn_J : Cond.fieldLink RX12 204 "StatementRules2Model" "fn" "[J" ∈ wzX12_telling := List.mem_cons_of_mem _ (List.mem_append_left _ (List.mem_of_getElem? (i := 3) rfl))
theorem k_X12_telling_fieldLink_RX12_304_SRModel_from_I : Cond.fieldLink RX12 304 "StatementRules2Model" "from" "I" ∈ wzX12_telling := List.mem_cons_of_mem _ (List.mem_append_left _ (List.mem_of_getElem? (i := 4) rfl))
set_option maxHeartbeats 4000000 in
set_option maxRecDepth 100000 in
theorem j_X12_telling_22 {p : Program} {e : Env} {s : State} {m : MethodId} {args : Array Value} {below : List Frame} {meth : Method} {c : Code} {A : Nat → Prop} (l : Launch) (dC : Nat → ClassId) (dI : Nat → Nat → Nat) (Q : RQ) (N : Nat) (R : Int32 × RS) (hx : p.tables.exec = Jvm.exec) (hb : c.code = cX12_telling) (hr : meth.sig.returnType = (some .boolean)) (hml : c.maxLocals = 2) (hown : s.vm.findClass RX12 = some m.cls) (hts : ∀ w ∈ wzX12_telling, w.before args s = true) (hlocks : meth.locks = false) (hZ : zAMB s) (hA : ∀ q : Nat, s.heap.size ≤ q → A q) (hK : va_K (dC, dI) vwCl (rT Q) s) : ∀ (σ : RS) (x1 : Int32) (H : Heap) (locs : List Loc) (ls : Array Slot), f_X12_telling_22 N σ x1 = some R → va_P (dC, dI) vwCl (rW Q σ) H → va_D A (rW Q σ) → va_S A s.heap H locs → lv_has ls 2 [(0, .ref Q.h0), (1, .int x1)] → W p l e ({ frames := 4, cells := 0, slots := 0, locals := 240 }) s m args below meth c H locs 0 0 (MQ below (va_Qi (fun (r : Int32) (_ : Unit) => r = R.1) (fun (_ : Unit) (t : State) => zPost dC dI A (rW Q R.2) (rT Q) t) A) args s 0 0 A) (F0 m 22 ls []) := by
  intro σ x1 H locs ls hf hP hD hS hl
  unfold f_X12_telling_22 at hf
  refine lv_aload_n hx hb dX12_telling_22 rfl (lv_at hl 0 rfl) ?_
  refine lv_aload_n hx hb dX12_telling_23 rfl (lv_at hl 0 rfl) ?_
  refine rG_13 (v := σ.l) hx hb hts i_X12_telling_X12 hown hK hP (hts (.fieldLink RX12 327 "StatementRules2Model" "name" "J") k_X12_telling_fieldLink_RX12_327_SRModel_name_J) dX12_telling_24 rfl ?_
  obtain ⟨p5, hcp5, hf⟩ := hf_bind hf
  have hFc := r_free hD hS hA
  refine va_calli (va_runV (As := [.long σ.l]) (rest := []) ⟨hx, hb, hml, hown, hts⟩ (c_X12_seenAs l dC dI _ Q N σ σ.l p5 hcp5) (cwV 1 hts hX12_telling_X12_seenAs_v471 rfl rfl rfl (by decide +kernel) ⟨Nat.le_of_ble_eq_true rfl, Nat.le_of_ble_eq_true rfl⟩) ⟨zPre.blind, va_recv hK hP (ci := 11) (q0 := 0) rfl rfl, zPre.go hZ hP hK hD⟩ rfl rfl hl.1 rfl (lv_room (Nat.le_of_ble_eq_true rfl)) dX12_telling_27 ⟨Nat.le_of_ble_eq_true rfl, Nat.le_of_ble_eq_true rfl⟩) hS (fun q _ h => hFc q h) hFc (fun r6 u9 t9 H1 locs ht hvm hw hB hz1 hk1 hS => ?_)
  obtain ⟨hP, hK1, hD1⟩ := hB
  rw [ht] at hP
  have hD := hD1.weaken (fun _ _ _ h => hFc _ h)
  generalize H1 = H at hP hS ⊢
  obtain rfl : r6 = p5.1 := hw
  refine lv_if_lt (tgt := 44) hx hb dX12_telling_30 (by decide) (fun c7 => ?_) (fun c7 => ?_)
  ·
    replace hf := (if_pos c7).symm.trans hf
    refine lv_aload_n hx hb dX12_telling_44 rfl (lv_at hl 0 rfl) ?_
    refine lv_dup hx hb dX12_telling_45 rfl ?_
    refine rG_54 (v := (p5.2.i 54)) hx hb hts i_X12_telling_X12 hown hK hP (hts (.fieldLink RX12 500 "StatementRules2Model" "tellings" "I") k_X12_telling_fieldLink_RX12_500_SRModel_tellings_I) dX12_telling_46 rfl ?_
    refine lv_iconst (v := 1) hx hb dX12_telling_49 (by decide) ?_
    refine lv_iadd hx hb dX12_telling_50 ?_
    refine rP_54 hx hb hts i_X12_telling_X12 hown hK hP hD hS (hts (.fieldLink RX12 500 "StatementRules2Model" "tellings" "I") k_X12_telling_fieldLink_RX12_500_SRModel_tellings_I) dX12_telling_51 (fun H locs hP hD hS => ?_)
    refine lv_aload_n hx hb dX12_telling_54 rfl (lv_at hl 0 rfl) ?_
    refine rG_74 hx hb hts i_X12_telling_X12 hown hK hP (hts (.fieldLink RX12 204 "StatementRules2Model" "fn" "[J") k_X12_telling_fieldLink_RX12_204_SRModel_fn_J) dX12_telling_55 ?_
    refine lv_iload_n hx hb dX12_telling_58 rfl (lv_at hl 1 rfl) ?_
    refine lv_aload_n hx hb dX12_telling_59 rfl (lv_at hl 0 rfl) ?_
    refine rG_13 (v := p5.2.l) hx hb hts i_X12_telling_X12 hown hK hP (hts (.fieldLink RX12 327 "StatementRules2Model" "name" "J") k_X12_telling_fieldLink_RX12_327_SRModel_name_J) dX12_telling_60 rfl ?_
    obtain ⟨b8, hf⟩ := hf_ite hf
    refine rS_74 hx hb hK hP hD hS b8 dX12_telling_63 (fun H locs hP hD hS => ?_)
    refine lv_aload_n hx hb dX12_telling_64 rfl (lv_at hl 0 rfl) ?_
    obtain ⟨p9, hcp9, hf⟩ := hf_bind hf
    have hFc := r_free hD hS hA
    refine va_callv (va_runV (As := []) (rest := []) ⟨hx, hb, hml, hown, hts⟩ (c_X12_next l dC dI _ Q N (RS.setB (RS.setI p5.2 54 ((p5.2.i 54) + 1)) 74 ((x1 : Int32).toNatClampNeg) p5.2.l) p9 hcp9) (cwV 0 hts hX12_telling_X12_next_v345 rfl rfl rfl (by decide +kernel) ⟨Nat.le_of_ble_eq_true rfl, Nat.le_of_ble_eq_true rfl⟩) ⟨zPre.blind, va_recv hK hP (ci := 11) (q0 := 0) rfl rfl, zPre.go hZ hP hK hD⟩ rfl rfl hl.1 rfl (lv_room (Nat.le_of_ble_eq_true rfl)) dX12_telling_65 ⟨Nat.le_of_ble_eq_true rfl, Nat.le_of_ble_eq_true rfl⟩) hS (fun q _ h => hFc q h) hFc (fun u9 t9 H1 locs ht hvm hw hB hz1 hk1 hS => ?_)
    obtain ⟨hP, hK1, hD1⟩ := hB
    rw [ht] at hP
    have hD := hD1.weaken (fun _ _ _ h => hFc _ h)
    generalize H1 = H at hP hS ⊢
    refine lv_iconst (v := 1) hx hb dX12_telling_68 (by decide) ?_
    obtain rfl := Option.some.inj hf
    exact W.zret (v := 1) hx hb hr (rfl) (fun t ht hW => ⟨⟨1, (), rfl, rfl, by rw [ht]; exact hP, va_K.moved hW.alike hK, hD⟩, hS.F ht⟩) hS.2.2 dX12_telling_69
  ·
    replace hf := (if_neg c7).symm.trans hf
    refine lv_aload_n hx hb dX12_telling_33 rfl (lv_at hl 0 rfl) ?_
    refine lv_iconst (v := 4) hx hb dX12_telling_34 (by decide) ?_
    refine lv_aload_n hx hb dX12_telling_35 rfl (lv_at hl 0 rfl) ?_
    refine rG_11 (v := (p5.2.i 11)) hx hb hts i_X12_telling_X12 hown hK hP (hts (.fieldLink RX12 304 "StatementRules2Model" "from" "I") k_X12_telling_fieldLink_RX12_304_SRModel_from_I) dX12_telling_36 rfl ?_
    obtain ⟨p11, hcp11, hf⟩ := hf_bind hf
    have hFc := r_free hD hS hA
    refine va_callv (va_runV (As := [.int 4, .int (p5.2.i 11)]) (rest := []) ⟨hx, hb, hml, hown, hts⟩ (c_X12_fail l dC dI _ Q N p5.2 4 (p5.2.i 11) p11 hcp11) (cwV 2 hts hX12_telling_X12_fail_v337 rfl rfl rfl (by decide +kernel) ⟨Nat.le_of_ble_eq_true rfl, Nat.le_of_ble_eq_true rfl⟩) ⟨zPre.blind, va_recv hK hP (ci := 11) (q0 := 0) rfl rfl, zPre.go hZ hP hK hD⟩ rfl rfl hl.1 rfl (lv_room (Nat.le_of_ble_eq_true rfl)) dX12_telling_39 ⟨Nat.le_of_ble_eq_true rfl, Nat.le_of_ble_eq_true rfl⟩) hS (fun q _ h => hFc q h) hFc (fun u9 t9 H1 locs ht hvm hw hB hz1 hk1 hS => ?_)
    obtain ⟨hP, hK1, hD1⟩ := hB
    rw [ht] at hP
    have hD := hD1.weaken (fun _ _ _ h => hFc _ h)
    generalize H1 = H at hP hS ⊢
    refine lv_iconst (v := 0) hx hb dX12_telling_42 (by decide) ?_
    obtain rfl := Option.some.inj hf
    exact W.zret (v := 0) hx hb hr (rfl) (fun t ht hW => ⟨⟨0, (), rfl, rfl, by rw [ht]; exact hP, va_K.moved hW.alike hK, hD⟩, hS.F ht⟩) hS.2.2 dX12_telling_43
set_option maxHeartbeats 4000000 in
set_option maxRecDepth 100000 in
theorem j_X12_telling_20 {p : Program} {e : Env} {s : State} {m : MethodId} {args : Array Value} {below : List Frame} {meth : Method} {c : Code} {A : Nat → Prop} (l : Launch) (dC : Nat → ClassId) (dI : Nat → Nat → Nat) (Q : RQ) (N : Nat) (R : Int32 × RS) (hx : p.tables.exec = Jvm.exec) (hb : c.code = cX12_telling) (hr : meth.sig.returnType = (some .boolean)) (hml : c.maxLocals = 2) (hown : s.vm.findClass RX12 = some m.cls) (hts : ∀ w ∈ wzX12_telling, w.before args s = true) (hlocks : meth.locks = false) (hZ : zAMB s) (hA : ∀ q : Nat, s.heap.size ≤ q → A q) (hK : va_K (dC, dI) vwCl (rT Q) s) : ∀ (σ : RS) (H : Heap) (locs : List Loc) (ls : Array Slot), f_X12_telling_20 N σ = some R → va_P (dC, dI) vwCl (rW Q σ) H → va_D A (rW Q σ) → va_S A s.heap H locs → lv_has ls 2 [] → W p l e ({ frames := 4, cells := 0, slots := 0, locals := 240 }) s m args below meth c H locs 0 0 (MQ below (va_Qi (fun (r : Int32) (_ : Unit) => r = R.1) (fun (_ : Unit) (t : State) => zPost dC dI A (rW Q R.2) (rT Q) t) A) args s 0 0 A) (F0 m 20 ls []) := by
  intro σ  H locs ls hf hP hD hS hl
  unfold f_X12_telling_20 at hf
  refine lv_iconst (v := 0) hx hb dX12_telling_20 (by decide) ?_
  obtain rfl := Option.some.inj hf
  exact W.zret (v := 0) hx hb hr (rfl) (fun t ht hW => ⟨⟨0, (), rfl, rfl, by rw [ht]; exact hP, va_K.moved hW.alike hK, hD⟩, hS.F ht⟩) hS.2.2 dX12_telling_21
set_option maxHeartbeats 4000000 in
set_option maxRecDepth 100000 in
theorem c_X12_telling (l : Launch) (dC : Nat → ClassId) (dI : Nat → Nat → Nat) (sz : Nat) (Q : RQ) (N : Nat) (σ : RS) (x1 : Int32) (R : Int32 × RS) (hf : f_X12_telling N σ x1 = some R) : Met l yX12_telling wzX12_telling ({ frames := 4, cells := 0, slots := 0, locals := 240 }) (va_Pc [.ref Q.h0, .int x1] (zPre dC dI sz (rW Q σ) (rT Q))) (va_Qi (fun (r : Int32) (_ : Unit) => r = R.1) (fun (_ : Unit) (t : State) => zPost dC dI (va_A (rW Q σ) sz) (rW Q R.2) (rT Q) t) (va_A (rW Q σ) sz)) 0 0 (va_A (rW Q σ) sz) := by
  refine Met.ofW (cc := cX12_telling) (maxL := 2) (ret := (some .boolean)) (by decide) rfl ?_
  intro p e s m args below meth c s₁ B hml hv
  obtain ⟨rfl, hsz, hZ, hP, hK, hD0⟩ := hv
  have hx := B.exec
  have hb := B.bytes
  have hr := B.returns
  have hts := atoms_spec (ws := wzX12_telling) B.pre
  have hown : s.vm.findClass RX12 = some m.cls := findClass_of_methodNamed B.named
  have hlocks := B.notSynchronized
  subst hsz
  have hD := hD0.self (sz := s.heap.size)
  generalize hAe : va_A (rW Q σ) s.heap.size = A at hD ⊢
  have hA : ∀ q : Nat, s.heap.size ≤ q → A q := fun q h => by rw [← hAe]; exact Or.inr h
  have hS : va_S A s.heap s.heap [] := va_S.rf
  have hl := lv_entry ([.ref Q.h0, .int x1]) (n := 2) (Nat.le_of_ble_eq_true rfl)
  rw [lg_entry_eq]
  generalize (lg_sl ([.ref Q.h0, .int x1]) ++ List.replicate (2 - (lg_sl ([.ref Q.h0, .int x1])).length) Slot.unset).toArray = ls at hl ⊢
  have hl : lv_has ls 2 [(0, .ref Q.h0), (1, .int x1)] := hl
  unfold f_X12_telling at hf
  refine lv_aload_n hx hb dX12_telling_0 rfl (lv_at hl 0 rfl) ?_
  refine lv_aload_n hx hb dX12_telling_1 rfl (lv_at hl 0 rfl) ?_
  refine rG_10 (v := (σ.i 10)) hx hb hts i_X12_telling_X12 hown hK hP (hts (.fieldLink RX12 307 "StatementRules2Model" "tok" "I") k_X12_telling_fieldLink_RX12_307_SRModel_tok_I) dX12_telling_2 rfl ?_
  refine lv_iconst (v := 2) hx hb dX12_telling_5 (by decide) ?_
  refine lv_icmp_ne (tgt := 13) hx hb dX12_telling_6 (by decide) (fun c1 => ?_) (fun c1 => ?_)
  ·
    replace hf := (if_neg c1).symm.trans hf
    refine lv_iconst (v := 0) hx hb dX12_telling_13 (by decide) ?_
    obtain ⟨p2, hcp2, hf⟩ := hf_bind hf
    have hFc := r_free hD hS hA
    refine va_calli (va_runV (As := [.int 0]) (rest := []) ⟨hx, hb, hml, hown, hts⟩ (c_X12_can l dC dI _ Q N σ 0 p2 hcp2) (cwV 1 hts hX12_telling_X12_can_v341 rfl rfl rfl (by decide +kernel) ⟨Nat.le_of_ble_eq_true rfl, Nat.le_of_ble_eq_true rfl⟩) ⟨zPre.blind, va_recv hK hP (ci := 11) (q0 := 0) rfl rfl, zPre.go hZ hP hK hD⟩ rfl rfl hl.1 rfl (lv_room (Nat.le_of_ble_eq_true rfl)) dX12_telling_14 ⟨Nat.le_of_ble_eq_true rfl, Nat.le_of_ble_eq_true rfl⟩) hS (fun q _ h => hFc q h) hFc (fun r3 u9 t9 H1 locs ht hvm hw hB hz1 hk1 hS => ?_)
    obtain ⟨hP, hK1, hD1⟩ := hB
    rw [ht] at hP
    have hD := hD1.weaken (fun _ _ _ h => hFc _ h)
    generalize H1 = H at hP hS ⊢
    obtain rfl : r3 = p2.1 := hw
    refine lv_if_ne (tgt := 22) hx hb dX12_telling_17 (by decide) (fun c4 => ?_) (fun c4 => ?_)
    ·
      replace hf := (if_neg c4).symm.trans hf
      exact j_X12_telling_22 l dC dI Q N R hx hb hr hml hown hts hlocks hZ hA hK p2.2 x1 _ _ _ hf hP hD hS (lv_sub hl [0, 1] rfl)
    ·
      replace hf := (if_pos c4).symm.trans hf
      exact j_X12_telling_20 l dC dI Q N R hx hb hr hml hown hts hlocks hZ hA hK p2.2 _ _ _ hf hP hD hS (lv_sub hl [] rfl)
  ·
    replace hf := (if_pos c1).symm.trans hf
    refine lv_iconst (v := 1) hx hb dX12_telling_9 (by decide) ?_
    refine lv_goto (tgt := 14) hx hb dX12_telling_10 (by decide) ?_
    obtain ⟨p13, hcp13, hf⟩ := hf_bind hf
    have hFc := r_free hD hS hA
    refine va_calli (va_runV (As := [.int 1]) (rest := []) ⟨hx, hb, hml, hown, hts⟩ (c_X12_can l dC dI _ Q N σ 1 p13 hcp13) (cwV 1 hts hX12_telling_X12_can_v341 rfl rfl rfl (by decide +kernel) ⟨Nat.le_of_ble_eq_true rfl, Nat.le_of_ble_eq_true rfl⟩) ⟨zPre.blind, va_recv hK hP (ci := 11) (q0 := 0) rfl rfl, zPre.go hZ hP hK hD⟩ rfl rfl hl.1 rfl (lv_room (Nat.le_of_ble_eq_true rfl)) dX12_telling_14 ⟨Nat.le_of_ble_eq_true rfl, Nat.le_of_ble_eq_true rfl⟩) hS (fun q _ h => hFc q h) hFc (fun r14 u9 t9 H1 locs ht hvm hw hB hz1 hk1 hS => ?_)
    obtain ⟨hP, hK1, hD1⟩ := hB
    rw [ht] at hP
    have hD := hD1.weaken (fun _ _ _ h => hFc _ h)
    generalize H1 = H at hP hS ⊢
    obtain rfl : r14 = p13.1 := hw
    refine lv_if_ne (tgt := 22) hx hb dX12_telling_17 (by decide) (fun c15 => ?_) (fun c15 => ?_)
    ·
      replace hf := (if_neg c15).symm.trans hf
      exact j_X12_telling_22 l dC dI Q N R hx hb hr hml hown hts hlocks hZ hA hK p13.2 x1 _ _ _ hf hP hD hS (lv_sub hl [0, 1] rfl)
    ·
      replace hf := (if_pos c15).symm.trans hf
      exact j_X12_telling_20 l dC dI Q N R hx hb hr hml hown hts hlocks hZ hA hK p13.2 _ _ _ hf hP hD hS (lv_sub hl [] rfl)
theorem k_X12_tell_fieldLink_RX12_177_SRModel_fs_I : Cond.fieldLink RX12 177 "StatementRules2Model" "fs" "[I" ∈ wzX12_tell := List.mem_cons_of_mem _ (List.mem_append_left _ (List.mem_of_getElem? (i := 0) rfl))
theorem i_X12_tell_X12 : ∀ w ∈ wsX120, w ∈ wzX12_tell := fun _ h => List.mem_cons_of_mem _ (List.mem_append_right _ (List.mem_append_left _ (h)))
theorem k_X12_tell_fieldLink_RX12_204_SRModel_fn_J : Cond.fieldLink RX12 204 "StatementRules2Model" "fn" "[J" ∈ wzX12_tell := List.mem_cons_of_mem _ (List.mem_append_left _ (List.mem_of_getElem? (i := 1) rfl))
theorem k_X12_tell_fieldLink_RX12_291_SRModel_fault_I : Cond.fieldLink RX12 291 "StatementRules2Model" "fault" "I" ∈ wzX12_tell := List.mem_cons_of_mem _ (List.mem_append_left _ (List.mem_of_getElem? (i := 2) rfl))
set_option maxHeartbeats 4000000 in
set_option maxRecDepth 100000 in
theorem c_X12_tell (l : Launch) (dC : Nat → ClassId) (dI : Nat → Nat → Nat) (sz : Nat) (Q : RQ) (N : Nat) (σ : RS) (x1 : Int32) (R : RS) (hf : f_X12_tell N σ x1 = some R) : Met l yX12_tell wzX12_tell ({ frames := 5, cells := 0, slots := 0, locals := 300 }) (va_Pc [.ref Q.h0, .int x1] (zPre dC dI sz (rW Q σ) (rT Q))) (va_Qv (fun (_ : Unit) => True) (fun (_ : Unit) (t : State) => zPost dC dI (va_A (rW Q σ) sz) (rW Q R) (rT Q) t) (va_A (rW Q σ) sz)) 0 0 (va_A (rW Q σ) sz) := by
  refine Met.ofW (cc := cX12_tell) (maxL := 2) (ret := none) (by decide) rfl ?_
  intro p e s m args below meth c s₁ B hml hv
  obtain ⟨rfl, hsz, hZ, hP, hK, hD0⟩ := hv
  have hx := B.exec
  have hb := B.bytes
  have hr := B.returns
  have hts := atoms_spec (ws := wzX12_tell) B.pre
  have hown : s.vm.findClass RX12 = some m.cls := findClass_of_methodNamed B.named
  have hlocks := B.notSynchronized
  subst hsz
  have hD := hD0.self (sz := s.heap.size)
  generalize hAe : va_A (rW Q σ) s.heap.size = A at hD ⊢
  have hA : ∀ q : Nat, s.heap.size ≤ q → A q := fun q h => by rw [← hAe]; exact Or.inr h
  have hS : va_S A s.heap s.heap [] := va_S.rf
  have hl := lv_entry ([.ref Q.h0, .int x1]) (n := 2) (Nat.le_of_ble_eq_true rfl)
  rw [lg_entry_eq]
  generalize (lg_sl ([.ref Q.h0, .int x1]) ++ List.replicate (2 - (lg_sl ([.ref Q.h0, .int x1])).length) Slot.unset).toArray = ls at hl ⊢
  have hl : lv_has ls 2 [(0, .ref Q.h0), (1, .int x1)] := hl
  unfold f_X12_tell at hf
  refine lv_aload_n hx hb dX12_tell_0 rfl (lv_at hl 0 rfl) ?_
  refine rG_65 hx hb hts i_X12_tell_X12 hown hK hP (hts (.fieldLink RX12 177 "StatementRules2Model" "fs" "[I") k_X12_tell_fieldLink_RX12_177_SRModel_fs_I) dX12_tell_1 ?_
  refine lv_iload_n hx hb dX12_tell_4 rfl (lv_at hl 1 rfl) ?_
  obtain ⟨b1, hf⟩ := hf_ite hf
  refine rL_65 (v := (σ.a 65 ((x1 : Int32).toNatClampNeg))) hx hb hK hP b1 dX12_tell_5 rfl ?_
  refine lv_if_ne (tgt := 43) hx hb dX12_tell_6 (by decide) (fun c2 => ?_) (fun c2 => ?_)
  ·
    replace hf := (if_neg c2).symm.trans hf
    refine lv_aload_n hx hb dX12_tell_43 rfl (lv_at hl 0 rfl) ?_
    refine lv_iconst (v := 5) hx hb dX12_tell_44 (by decide) ?_
    refine lv_aload_n hx hb dX12_tell_45 rfl (lv_at hl 0 rfl) ?_
    refine lv_aload_n hx hb dX12_tell_46 rfl (lv_at hl 0 rfl) ?_
    refine rG_74 hx hb hts i_X12_tell_X12 hown hK hP (hts (.fieldLink RX12 204 "StatementRules2Model" "fn" "[J") k_X12_tell_fieldLink_RX12_204_SRModel_fn_J) dX12_tell_47 ?_
    refine lv_iload_n hx hb dX12_tell_50 rfl (lv_at hl 1 rfl) ?_
    refine rL_74 (v := (σ.b 74 ((x1 : Int32).toNatClampNeg))) hx hb hK hP b1 dX12_tell_51 rfl ?_
    refine lv_iconst (v := 0) hx hb dX12_tell_52 (by decide) ?_
    obtain ⟨p3, hcp3, hf⟩ := hf_bind hf
    have hFc := r_free hD hS hA
    refine va_calli (va_runV (As := [.long (σ.b 74 ((x1 : Int32).toNatClampNeg)), .int 0]) (rest := [.int 5, .ref Q.h0]) ⟨hx, hb, hml, hown, hts⟩ (c_X12_see l dC dI _ Q N σ (σ.b 74 ((x1 : Int32).toNatClampNeg)) 0 p3 hcp3) (cwV 2 hts hX12_tell_X12_see_v506 rfl rfl rfl (by decide +kernel) ⟨Nat.le_of_ble_eq_true rfl, Nat.le_of_ble_eq_true rfl⟩) ⟨zPre.blind, va_recv hK hP (ci := 11) (q0 := 0) rfl rfl, zPre.go hZ hP hK hD⟩ rfl rfl hl.1 rfl (lv_room (Nat.le_of_ble_eq_true rfl)) dX12_tell_53 ⟨Nat.le_of_ble_eq_true rfl, Nat.le_of_ble_eq_true rfl⟩) hS (fun q _ h => hFc q h) hFc (fun r4 u9 t9 H1 locs ht hvm hw hB hz1 hk1 hS => ?_)
    obtain ⟨hP, hK1, hD1⟩ := hB
    rw [ht] at hP
    have hD := hD1.weaken (fun _ _ _ h => hFc _ h)
    generalize H1 = H at hP hS ⊢
    obtain rfl : r4 = p3.1 := hw
    obtain ⟨p5, hcp5, hf⟩ := hf_bind hf
    have hFc := r_free hD hS hA
    refine va_calli (va_runV (As := [.int 5, .int p3.1]) (rest := []) ⟨hx, hb, hml, hown, hts⟩ (c_X12_emit l dC dI _ Q N p3.2 5 p3.1 p5 hcp5) (cwV 2 hts hX12_tell_X12_emit_v464 rfl rfl rfl (by decide +kernel) ⟨Nat.le_of_ble_eq_true rfl, Nat.le_of_ble_eq_true rfl⟩) ⟨zPre.blind, va_recv hK hP (ci := 11) (q0 := 0) rfl rfl, zPre.go hZ hP hK hD⟩ rfl rfl hl.1 rfl (lv_room (Nat.le_of_ble_eq_true rfl)) dX12_tell_56 ⟨Nat.le_of_ble_eq_true rfl, Nat.le_of_ble_eq_true rfl⟩) hS (fun q _ h => hFc q h) hFc (fun r6 u9 t9 H1 locs ht hvm hw hB hz1 hk1 hS => ?_)
    obtain ⟨hP, hK1, hD1⟩ := hB
    rw [ht] at hP
    have hD := hD1.weaken (fun _ _ _ h => hFc _ h)
    generalize H1 = H at hP hS ⊢
    obtain rfl : r6 = p5.1 := hw
    refine lv_pop hx hb dX12_tell_59 rfl ?_
    refine lv_aload_n hx hb dX12_tell_60 rfl (lv_at hl 0 rfl) ?_
    refine lv_bipush (v := 59) hx hb dX12_tell_61 (by decide) ?_
    obtain ⟨p7, hcp7, hf⟩ := hf_bind hf
    have hFc := r_free hD hS hA
    refine va_calli (va_runV (As := [.int 59]) (rest := []) ⟨hx, hb, hml, hown, hts⟩ (c_X12_need l dC dI _ Q N p5.2 59 p7 hcp7) (cwV 1 hts hX12_tell_X12_need_v355 rfl rfl rfl (by decide +kernel) ⟨Nat.le_of_ble_eq_true rfl, Nat.le_of_ble_eq_true rfl⟩) ⟨zPre.blind, va_recv hK hP (ci := 11) (q0 := 0) rfl rfl, zPre.go hZ hP hK hD⟩ rfl rfl hl.1 rfl (lv_room (Nat.le_of_ble_eq_true rfl)) dX12_tell_63 ⟨Nat.le_of_ble_eq_true rfl, Nat.le_of_ble_eq_true rfl⟩) hS (fun q _ h => hFc q h) hFc (fun r8 u9 t9 H1 locs ht hvm hw hB hz1 hk1 hS => ?_)
    obtain ⟨hP, hK1, hD1⟩ := hB
    rw [ht] at hP
    have hD := hD1.weaken (fun _ _ _ h => hFc _ h)
    generalize H1 = H at hP hS ⊢
    obtain rfl : r8 = p7.1 := hw
    refine lv_pop hx hb dX12_tell_66 rfl ?_
    refine lv_aload_n hx hb dX12_tell_67 rfl (lv_at hl 0 rfl) ?_
    refine lv_iconst (v := 1) hx hb dX12_tell_68 (by decide) ?_
    obtain ⟨p9, hcp9, hf⟩ := hf_bind hf
    have hFc := r_free hD hS hA
    refine va_callv (va_runV (As := [.int 1]) (rest := []) ⟨hx, hb, hml, hown, hts⟩ (c_X12_over l dC dI _ Q N p7.2 1 p9 hcp9) (cwV 1 hts hX12_tell_X12_over_v490 rfl rfl rfl (by decide +kernel) ⟨Nat.le_of_ble_eq_true rfl, Nat.le_of_ble_eq_true rfl⟩) ⟨zPre.blind, va_recv hK hP (ci := 11) (q0 := 0) rfl rfl, zPre.go hZ hP hK hD⟩ rfl rfl hl.1 rfl (lv_room (Nat.le_of_ble_eq_true rfl)) dX12_tell_69 ⟨Nat.le_of_ble_eq_true rfl, Nat.le_of_ble_eq_true rfl⟩) hS (fun q _ h => hFc q h) hFc (fun u9 t9 H1 locs ht hvm hw hB hz1 hk1 hS => ?_)
    obtain ⟨hP, hK1, hD1⟩ := hB
    rw [ht] at hP
    have hD := hD1.weaken (fun _ _ _ h => hFc _ h)
    generalize H1 = H at hP hS ⊢
    obtain rfl := Option.some.inj hf
    exact W.vret hx hb hr (fun t ht hW => ⟨⟨(), rfl, trivial, by rw [ht]; exact hP, va_K.moved hW.alike hK, hD⟩, hS.F ht⟩) hS.2.2 dX12_tell_72
  ·
    replace hf := (if_pos c2).symm.trans hf
    refine lv_aload_n hx hb dX12_tell_9 rfl (lv_at hl 0 rfl) ?_
    obtain ⟨p11, hcp11, hf⟩ := hf_bind hf
    have hFc := r_free hD hS hA
    refine va_callv (va_runV (As := []) (rest := []) ⟨hx, hb, hml, hown, hts⟩ (c_X12_next l dC dI _ Q N σ p11 hcp11) (cwV 0 hts hX12_tell_X12_next_v345 rfl rfl rfl (by decide +kernel) ⟨Nat.le_of_ble_eq_true rfl, Nat.le_of_ble_eq_true rfl⟩) ⟨zPre.blind, va_recv hK hP (ci := 11) (q0 := 0) rfl rfl, zPre.go hZ hP hK hD⟩ rfl rfl hl.1 rfl (lv_room (Nat.le_of_ble_eq_true rfl)) dX12_tell_10 ⟨Nat.le_of_ble_eq_true rfl, Nat.le_of_ble_eq_true rfl⟩) hS (fun q _ h => hFc q h) hFc (fun u9 t9 H1 locs ht hvm hw hB hz1 hk1 hS => ?_)
    obtain ⟨hP, hK1, hD1⟩ := hB
    rw [ht] at hP
    have hD := hD1.weaken (fun _ _ _ h => hFc _ h)
    generalize H1 = H at hP hS ⊢
    refine lv_aload_n hx hb dX12_tell_13 rfl (lv_at hl 0 rfl) ?_
    refine rG_15 (v := (p11.i 15)) hx hb hts i_X12_tell_X12 hown hK hP (hts (.fieldLink RX12 291 "StatementRules2Model" "fault" "I") k_X12_tell_fieldLink_RX12_291_SRModel_fault_I) dX12_tell_14 rfl ?_
    refine lv_if_ne (tgt := 42) hx hb dX12_tell_17 (by decide) (fun c13 => ?_) (fun c13 => ?_)
    ·
      replace hf := (if_neg c13).symm.trans hf
      obtain rfl := Option.some.inj hf
      exact W.vret hx hb hr (fun t ht hW => ⟨⟨(), rfl, trivial, by rw [ht]; exact hP, va_K.moved hW.alike hK, hD⟩, hS.F ht⟩) hS.2.2 dX12_tell_42
    ·
      replace hf := (if_pos c13).symm.trans hf
      refine lv_aload_n hx hb dX12_tell_20 rfl (lv_at hl 0 rfl) ?_
      refine lv_iload_n hx hb dX12_tell_21 rfl (lv_at hl 1 rfl) ?_
      obtain ⟨p14, hcp14, hf⟩ := hf_bind hf
      have hFc := r_free hD hS hA
      refine va_calli (va_runV (As := [.int x1]) (rest := []) ⟨hx, hb, hml, hown, hts⟩ (c_X12_telling l dC dI _ Q N p11 x1 p14 hcp14) (cwV 1 hts hX12_tell_X12_telling_v503 rfl rfl rfl (by decide +kernel) ⟨Nat.le_of_ble_eq_true rfl, Nat.le_of_ble_eq_true rfl⟩) ⟨zPre.blind, va_recv hK hP (ci := 11) (q0 := 0) rfl rfl, zPre.go hZ hP hK hD⟩ rfl rfl hl.1 rfl (lv_room (Nat.le_of_ble_eq_true rfl)) dX12_tell_22 ⟨Nat.le_of_ble_eq_true rfl, Nat.le_of_ble_eq_true rfl⟩) hS (fun q _ h => hFc q h) hFc (fun r15 u9 t9 H1 locs ht hvm hw hB hz1 hk1 hS => ?_)
      obtain ⟨hP, hK1, hD1⟩ := hB
      rw [ht] at hP
      have hD := hD1.weaken (fun _ _ _ h => hFc _ h)
      generalize H1 = H at hP hS ⊢
      obtain rfl : r15 = p14.1 := hw
      refine lv_if_eq (tgt := 42) hx hb dX12_tell_25 (by decide) (fun c16 => ?_) (fun c16 => ?_)
      ·
        replace hf := (if_pos c16).symm.trans hf
        obtain rfl := Option.some.inj hf
        exact W.vret hx hb hr (fun t ht hW => ⟨⟨(), rfl, trivial, by rw [ht]; exact hP, va_K.moved hW.alike hK, hD⟩, hS.F ht⟩) hS.2.2 dX12_tell_42
      ·
        replace hf := (if_neg c16).symm.trans hf
        refine lv_aload_n hx hb dX12_tell_28 rfl (lv_at hl 0 rfl) ?_
        refine lv_bipush (v := 61) hx hb dX12_tell_29 (by decide) ?_
        obtain ⟨p17, hcp17, hf⟩ := hf_bind hf
        have hFc := r_free hD hS hA
        refine va_calli (va_runV (As := [.int 61]) (rest := []) ⟨hx, hb, hml, hown, hts⟩ (c_X12_need l dC dI _ Q N p14.2 61 p17 hcp17) (cwV 1 hts hX12_tell_X12_need_v355 rfl rfl rfl (by decide +kernel) ⟨Nat.le_of_ble_eq_true rfl, Nat.le_of_ble_eq_true rfl⟩) ⟨zPre.blind, va_recv hK hP (ci := 11) (q0 := 0) rfl rfl, zPre.go hZ hP hK hD⟩ rfl rfl hl.1 rfl (lv_room (Nat.le_of_ble_eq_true rfl)) dX12_tell_31 ⟨Nat.le_of_ble_eq_true rfl, Nat.le_of_ble_eq_true rfl⟩) hS (fun q _ h => hFc q h) hFc (fun r18 u9 t9 H1 locs ht hvm hw hB hz1 hk1 hS => ?_)
        obtain ⟨hP, hK1, hD1⟩ := hB
        rw [ht] at hP
        have hD := hD1.weaken (fun _ _ _ h => hFc _ h)
        generalize H1 = H at hP hS ⊢
        obtain rfl : r18 = p17.1 := hw
        refine lv_pop hx hb dX12_tell_34 rfl ?_
        refine lv_aload_n hx hb dX12_tell_35 rfl (lv_at hl 0 rfl) ?_
        refine lv_iconst (v := 1) hx hb dX12_tell_36 (by decide) ?_
        refine lv_bipush (v := 16) hx hb dX12_tell_37 (by decide) ?_
        obtain ⟨p19, hcp19, hf⟩ := hf_bind hf
        have hFc := r_free hD hS hA
        refine va_callv (va_runV (As := [.int 1, .int 16]) (rest := []) ⟨hx, hb, hml, hown, hts⟩ (c_X12_then l dC dI _ Q N p17.2 1 16 p19 hcp19) (cwV 2 hts hX12_tell_X12_then_v393 rfl rfl rfl (by decide +kernel) ⟨Nat.le_of_ble_eq_true rfl, Nat.le_of_ble_eq_true rfl⟩) ⟨zPre.blind, va_recv hK hP (ci := 11) (q0 := 0) rfl rfl, zPre.go hZ hP hK hD⟩ rfl rfl hl.1 rfl (lv_room (Nat.le_of_ble_eq_true rfl)) dX12_tell_39 ⟨Nat.le_of_ble_eq_true rfl, Nat.le_of_ble_eq_true rfl⟩) hS (fun q _ h => hFc q h) hFc (fun u9 t9 H1 locs ht hvm hw hB hz1 hk1 hS => ?_)
        obtain ⟨hP, hK1, hD1⟩ := hB
        rw [ht] at hP
        have hD := hD1.weaken (fun _ _ _ h => hFc _ h)
        generalize H1 = H at hP hS ⊢
        obtain rfl := Option.some.inj hf
        exact W.vret hx hb hr (fun t ht hW => ⟨⟨(), rfl, trivial, by rw [ht]; exact hP, va_K.moved hW.alike hK, hD⟩, hS.F ht⟩) hS.2.2 dX12_tell_42
theorem k_X12_label_fieldLink_RX12_367_SRModel_goals_I : Cond.fieldLink RX12 367 "StatementRules2Model" "goals" "I" ∈ wzX12_label := List.mem_cons_of_mem _ (List.mem_append_left _ (List.mem_of_getElem? (i := 0) rfl))
theorem i_X12_label_X12 : ∀ w ∈ wsX120, w ∈ wzX12_label := fun _ h => List.mem_cons_of_mem _ (List.mem_append_right _ (List.mem_append_left _ (h)))
theorem k_X12_label_fieldLink_RX12_180_SRModel_fp_I : Cond.fieldLink RX12 180 "StatementRules2Model" "fp" "[I" ∈ wzX12_label := List.mem_cons_of_mem _ (List.mem_append_left _ (List.mem_of_getElem? (i := 1) rfl))
theorem k_X12_label_fieldLink_RX12_307_SRModel_tok_I : Cond.fieldLink RX12 307 "StatementRules2Model" "tok" "I" ∈ wzX12_label := List.mem_cons_of_mem _ (List.mem_append_left _ (List.mem_of_getElem? (i := 2) rfl))
theorem k_X12_label_fieldLink_RX12_141_SRModel_goalLoop_I : Cond.fieldLink RX12 141 "StatementRules2Model" "goalLoop" "[I" ∈ wzX12_label := List.mem_cons_of_mem _ (List.mem_append_left _ (List.mem_of_getElem? (i := 3) rfl))
theorem k_X12_label_fieldLink_RX12_135_SRModel_goalSort_I : Cond.fieldLink RX12 135 "StatementRules2Model" "goalSort" "[I" ∈ wzX12_label := List.mem_cons_of_mem _ (List.mem_append_left _ (List.mem_of_getElem? (i := 4) rfl))
theorem k_X12_label_fieldLink_RX12_138_SRModel_goalName_J : Cond.fieldLink RX12 138 "StatementRules2Model" "goalName" "[J" ∈ wzX12_label := List.mem_cons_of_mem _ (List.mem_append_left _ (List.mem_of_getElem? (i := 5) rfl))
set_option maxHeartbeats 4000000 in
set_option maxRecDepth 100000 in
theorem j_X12_label_188 {p : Program} {e : Env} {s : State} {m : MethodId} {args : Array Value} {below : List Frame} {meth : Method} {c : Code} {A : Nat → Prop} (l : Launch) (dC : Nat → ClassId) (dI : Nat → Nat → Nat) (Q : RQ) (N : Nat) (R : RS) (hx : p.tables.exec = Jvm.exec) (hb : c.code = cX12_label) (hr : meth.sig.returnType = none) (hml : c.maxLocals = 7) (hown : s.vm.findClass RX12 = some m.cls) (hts : ∀ w ∈ wzX12_label, w.before args s = true) (hlocks : meth.locks = false) (hZ : zAMB s) (hA : ∀ q : Nat, s.heap.size ≤ q → A q) (hK : va_K (dC, dI) vwCl (rT Q) s) : ∀ (σ : RS) (H : Heap) (locs : List Loc) (ls : Array Slot), f_X12_label_188 N σ = some R → va_P (dC, dI) vwCl (rW Q σ) H → va_D A (rW Q σ) → va_S A s.heap H locs → lv_has ls 7 [(0, .ref Q.h0)] → W p l e ({ frames := 4, cells := 0, slots := 0, locals := 240 }) s m args below meth c H locs 0 0 (MQ below (va_Qv (fun (_ : Unit) => True) (fun (_ : Unit) (t : State) => zPost dC dI A (rW Q R) (rT Q) t) A) args s 0 0 A) (F0 m 188 ls []) := by
  intro σ  H locs ls hf hP hD hS hl
  unfold f_X12_label_188 at hf
  refine lv_aload_n hx hb dX12_label_188 rfl (lv_at hl 0 rfl) ?_
  refine lv_iconst (v := 1) hx hb dX12_label_189 (by decide) ?_
  obtain ⟨p10, hcp10, hf⟩ := hf_bind hf
  have hFc := r_free hD hS hA
  refine va_callv (va_runV (As := [.int 1]) (rest := []) ⟨hx, hb, hml, hown, hts⟩ (c_X12_body l dC dI _ Q N σ 1 p10 hcp10) (cwV 1 hts hX12_label_X12_body_v521 rfl rfl rfl (by decide +kernel) ⟨Nat.le_of_ble_eq_true rfl, Nat.le_of_ble_eq_true rfl⟩) ⟨zPre.blind, va_recv hK hP (ci := 11) (q0 := 0) rfl rfl, zPre.go hZ hP hK hD⟩ rfl rfl hl.1 rfl (lv_room (Nat.le_of_ble_eq_true rfl)) dX12_label_190 ⟨Nat.le_of_ble_eq_true rfl, Nat.le_of_ble_eq_true rfl⟩) hS (fun q _ h => hFc q h) hFc (fun u9 t9 H1 locs ht hvm hw hB hz1 hk1 hS => ?_)
  obtain ⟨hP, hK1, hD1⟩ := hB
  rw [ht] at hP
  have hD := hD1.weaken (fun _ _ _ h => hFc _ h)
  generalize H1 = H at hP hS ⊢
  obtain rfl := Option.some.inj hf
  exact W.vret hx hb hr (fun t ht hW => ⟨⟨(), rfl, trivial, by rw [ht]; exact hP, va_K.moved hW.alike hK, hD⟩, hS.F ht⟩) hS.2.2 dX12_label_193
set_option maxHeartbeats 4000000 in
set_option maxRecDepth 100000 in
theorem j_X12_label_168 {p : Program} {e : Env} {s : State} {m : MethodId} {args : Array Value} {below : List Frame} {meth : Method} {c : Code} {A : Nat → Prop} (l : Launch) (dC : Nat → ClassId) (dI : Nat → Nat → Nat) (Q : RQ) (N : Nat) (R : RS) (hx : p.tables.exec = Jvm.exec) (hb : c.code = cX12_label) (hr : meth.sig.returnType = none) (hml : c.maxLocals = 7) (hown : s.vm.findClass RX12 = some m.cls) (hts : ∀ w ∈ wzX12_label, w.before args s = true) (hlocks : meth.locks = false) (hZ : zAMB s) (hA : ∀ q : Nat, s.heap.size ≤ q → A q) (hK : va_K (dC, dI) vwCl (rT Q) s) : ∀ (σ : RS) (H : Heap) (locs : List Loc) (ls : Array Slot), f_X12_label_168 N σ = some R → va_P (dC, dI) vwCl (rW Q σ) H → va_D A (rW Q σ) → va_S A s.heap H locs → lv_has ls 7 [(0, .ref Q.h0)] → W p l e ({ frames := 4, cells := 0, slots := 0, locals := 240 }) s m args below meth c H locs 0 0 (MQ below (va_Qv (fun (_ : Unit) => True) (fun (_ : Unit) (t : State) => zPost dC dI A (rW Q R) (rT Q) t) A) args s 0 0 A) (F0 m 168 ls []) := by
  intro σ  H locs ls hf hP hD hS hl
  unfold f_X12_label_168 at hf
  refine lv_goto (tgt := 188) hx hb dX12_label_168 (by decide) ?_
  exact j_X12_label_188 l dC dI Q N R hx hb hr hml hown hts hlocks hZ hA hK σ _ _ _ hf hP hD hS (lv_sub hl [0] rfl)
set_option maxHeartbeats 4000000 in
set_option maxRecDepth 100000 in
theorem j_X12_label_125 {p : Program} {e : Env} {s : State} {m : MethodId} {args : Array Value} {below : List Frame} {meth : Method} {c : Code} {A : Nat → Prop} (l : Launch) (dC : Nat → ClassId) (dI : Nat → Nat → Nat) (Q : RQ) (N : Nat) (R : RS) (hx : p.tables.exec = Jvm.exec) (hb : c.code = cX12_label) (hr : meth.sig.returnType = none) (hml : c.maxLocals = 7) (hown : s.vm.findClass RX12 = some m.cls) (hts : ∀ w ∈ wzX12_label, w.before args s = true) (hlocks : meth.locks = false) (hZ : zAMB s) (hA : ∀ q : Nat, s.heap.size ≤ q → A q) (hK : va_K (dC, dI) vwCl (rT Q) s) : ∀ (n9 : Nat), ∀ (σ : RS) (x6 : Int32) (H : Heap) (locs : List Loc) (ls : Array Slot), f_X12_label_125 N n9 σ x6 = some R → va_P (dC, dI) vwCl (rW Q σ) H → va_D A (rW Q σ) → va_S A s.heap H locs → lv_has ls 7 [(0, .ref Q.h0), (6, .int x6)] → W p l e ({ frames := 4, cells := 0, slots := 0, locals := 240 }) s m args below meth c H locs 0 0 (MQ below (va_Qv (fun (_ : Unit) => True) (fun (_ : Unit) (t : State) => zPost dC dI A (rW Q R) (rT Q) t) A) args s 0 0 A) (F0 m 125 ls []) := by
  intro n9
  induction n9 with
  | zero => intro σ x6 H locs ls hf; exact absurd hf (by intro h9; cases h9)
  | succ n9 ih =>
    intro σ x6 H locs ls hf hP hD hS hl
    replace hf : b_X12_label_125 N (f_X12_label_125 N n9) σ x6 = some R := hf
    unfold b_X12_label_125 at hf
    refine lv_iload hx hb dX12_label_125 (lv_at hl 1 rfl) ?_
    refine lv_if_lt (tgt := 168) hx hb dX12_label_127 (by decide) (fun c9 => ?_) (fun c9 => ?_)
    ·
      replace hf := (if_pos c9).symm.trans hf
      exact j_X12_label_168 l dC dI Q N R hx hb hr hml hown hts hlocks hZ hA hK σ _ _ _ hf hP hD hS (lv_sub hl [0] rfl)
    ·
      replace hf := (if_neg c9).symm.trans hf
      refine lv_aload_n hx hb dX12_label_130 rfl (lv_at hl 0 rfl) ?_
      refine rG_44 hx hb hts i_X12_label_X12 hown hK hP (hts (.fieldLink RX12 135 "StatementRules2Model" "goalSort" "[I") k_X12_label_fieldLink_RX12_135_SRModel_goalSort_I) dX12_label_131 ?_
      refine lv_iload hx hb dX12_label_134 (lv_at hl 1 rfl) ?_
      obtain ⟨b12, hf⟩ := hf_ite hf
      refine rL_44 (v := (σ.a 44 ((x6 : Int32).toNatClampNeg))) hx hb hK hP b12 dX12_label_136 rfl ?_
      refine lv_iconst (v := 2) hx hb dX12_label_137 (by decide) ?_
      refine lv_icmp_ne (tgt := 168) hx hb dX12_label_138 (by decide) (fun c13 => ?_) (fun c13 => ?_)
      ·
        replace hf := (if_neg c13).symm.trans hf
        exact j_X12_label_168 l dC dI Q N R hx hb hr hml hown hts hlocks hZ hA hK σ _ _ _ hf hP hD hS (lv_sub hl [0] rfl)
      ·
        replace hf := (if_pos c13).symm.trans hf
        refine lv_aload_n hx hb dX12_label_141 rfl (lv_at hl 0 rfl) ?_
        refine rG_46 hx hb hts i_X12_label_X12 hown hK hP (hts (.fieldLink RX12 141 "StatementRules2Model" "goalLoop" "[I") k_X12_label_fieldLink_RX12_141_SRModel_goalLoop_I) dX12_label_142 ?_
        refine lv_iload hx hb dX12_label_145 (lv_at hl 1 rfl) ?_
        refine rL_46 (v := (σ.a 46 ((x6 : Int32).toNatClampNeg))) hx hb hK hP b12 dX12_label_147 rfl ?_
        refine lv_bipush (v := (-2)) hx hb dX12_label_148 (by decide) ?_
        refine lv_icmp_ne (tgt := 168) hx hb dX12_label_150 (by decide) (fun c14 => ?_) (fun c14 => ?_)
        ·
          replace hf := (if_neg c14).symm.trans hf
          exact j_X12_label_168 l dC dI Q N R hx hb hr hml hown hts hlocks hZ hA hK σ _ _ _ hf hP hD hS (lv_sub hl [0] rfl)
        ·
          replace hf := (if_pos c14).symm.trans hf
          refine lv_aload_n hx hb dX12_label_153 rfl (lv_at hl 0 rfl) ?_
          refine rG_46 hx hb hts i_X12_label_X12 hown hK hP (hts (.fieldLink RX12 141 "StatementRules2Model" "goalLoop" "[I") k_X12_label_fieldLink_RX12_141_SRModel_goalLoop_I) dX12_label_154 ?_
          refine lv_iload hx hb dX12_label_157 (lv_at hl 1 rfl) ?_
          refine lv_bipush (v := (-3)) hx hb dX12_label_159 (by decide) ?_
          refine rS_46 hx hb hK hP hD hS b12 dX12_label_161 (fun H locs hP hD hS => ?_)
          refine lv_iinc (v := (x6 + (-1))) (lv' := [(6, .int (x6 + (-1))), (0, .ref Q.h0)]) hx hb dX12_label_162 hl (k := 1) rfl rfl (by decide) rfl (fun ls hl => ?_)
          refine lv_goto (tgt := 125) hx hb dX12_label_165 (by decide) ?_
          exact ih (RS.setA σ 46 ((x6 : Int32).toNatClampNeg) (-3)) (x6 + (-1)) _ _ _ hf hP hD hS (lv_sub hl [1, 0] rfl)
set_option maxHeartbeats 4000000 in
set_option maxRecDepth 100000 in
theorem j_X12_label_110 {p : Program} {e : Env} {s : State} {m : MethodId} {args : Array Value} {below : List Frame} {meth : Method} {c : Code} {A : Nat → Prop} (l : Launch) (dC : Nat → ClassId) (dI : Nat → Nat → Nat) (Q : RQ) (N : Nat) (R : RS) (hx : p.tables.exec = Jvm.exec) (hb : c.code = cX12_label) (hr : meth.sig.returnType = none) (hml : c.maxLocals = 7) (hown : s.vm.findClass RX12 = some m.cls) (hts : ∀ w ∈ wzX12_label, w.before args s = true) (hlocks : meth.locks = false) (hZ : zAMB s) (hA : ∀ q : Nat, s.heap.size ≤ q → A q) (hK : va_K (dC, dI) vwCl (rT Q) s) : ∀ (σ : RS) (x5 : Int32) (H : Heap) (locs : List Loc) (ls : Array Slot), f_X12_label_110 N σ x5 = some R → va_P (dC, dI) vwCl (rW Q σ) H → va_D A (rW Q σ) → va_S A s.heap H locs → lv_has ls 7 [(0, .ref Q.h0), (5, .int x5)] → W p l e ({ frames := 4, cells := 0, slots := 0, locals := 240 }) s m args below meth c H locs 0 0 (MQ below (va_Qv (fun (_ : Unit) => True) (fun (_ : Unit) (t : State) => zPost dC dI A (rW Q R) (rT Q) t) A) args s 0 0 A) (F0 m 110 ls []) := by
  intro σ x5 H locs ls hf hP hD hS hl
  unfold f_X12_label_110 at hf
  refine lv_aload_n hx hb dX12_label_110 rfl (lv_at hl 0 rfl) ?_
  refine rG_46 hx hb hts i_X12_label_X12 hown hK hP (hts (.fieldLink RX12 141 "StatementRules2Model" "goalLoop" "[I") k_X12_label_fieldLink_RX12_141_SRModel_goalLoop_I) dX12_label_111 ?_
  refine lv_iload hx hb dX12_label_114 (lv_at hl 1 rfl) ?_
  refine lv_bipush (v := (-3)) hx hb dX12_label_116 (by decide) ?_
  obtain ⟨b8, hf⟩ := hf_ite hf
  refine rS_46 hx hb hK hP hD hS b8 dX12_label_118 (fun H locs hP hD hS => ?_)
  refine lv_iload hx hb dX12_label_119 (lv_at hl 1 rfl) ?_
  refine lv_iconst (v := 1) hx hb dX12_label_121 (by decide) ?_
  refine lv_isub hx hb dX12_label_122 ?_
  refine lv_istore (lv' := [(6, .int (x5 - 1)), (0, .ref Q.h0), (5, .int x5)]) hx hb dX12_label_123 hl (by decide) rfl (fun ls hl => ?_)
  exact j_X12_label_125 l dC dI Q N R hx hb hr hml hown hts hlocks hZ hA hK N (RS.setA σ 46 ((x5 : Int32).toNatClampNeg) (-3)) (x5 - 1) _ _ _ hf hP hD hS (lv_sub hl [1, 0] rfl)
set_option maxHeartbeats 4000000 in
set_option maxRecDepth 100000 in
theorem j_X12_label_60 {p : Program} {e : Env} {s : State} {m : MethodId} {args : Array Value} {below : List Frame} {meth : Method} {c : Code} {A : Nat → Prop} (l : Launch) (dC : Nat → ClassId) (dI : Nat → Nat → Nat) (Q : RQ) (N : Nat) (R : RS) (hx : p.tables.exec = Jvm.exec) (hb : c.code = cX12_label) (hr : meth.sig.returnType = none) (hml : c.maxLocals = 7) (hown : s.vm.findClass RX12 = some m.cls) (hts : ∀ w ∈ wzX12_label, w.before args s = true) (hlocks : meth.locks = false) (hZ : zAMB s) (hA : ∀ q : Nat, s.heap.size ≤ q → A q) (hK : va_K (dC, dI) vwCl (rT Q) s) : ∀ (σ : RS) (x1 : Int32) (x2 : Int64) (H : Heap) (locs : List Loc) (ls : Array Slot), f_X12_label_60 N σ x1 x2 = some R → va_P (dC, dI) vwCl (rW Q σ) H → va_D A (rW Q σ) → va_S A s.heap H locs → lv_has ls 7 [(0, .ref Q.h0), (1, .int x1), (2, .long x2)] → W p l e ({ frames := 4, cells := 0, slots := 0, locals := 240 }) s m args below meth c H locs 0 0 (MQ below (va_Qv (fun (_ : Unit) => True) (fun (_ : Unit) (t : State) => zPost dC dI A (rW Q R) (rT Q) t) A) args s 0 0 A) (F0 m 60 ls []) := by
  intro σ x1 x2 H locs ls hf hP hD hS hl
  unfold f_X12_label_60 at hf
  refine lv_aload_n hx hb dX12_label_60 rfl (lv_at hl 0 rfl) ?_
  refine lv_iconst (v := 2) hx hb dX12_label_61 (by decide) ?_
  refine lv_lload_n hx hb dX12_label_62 rfl (lv_at hl 2 rfl) ?_
  obtain ⟨p2, hcp2, hf⟩ := hf_bind hf
  have hFc := r_free hD hS hA
  refine va_calli (va_runV (As := [.int 2, .long x2]) (rest := []) ⟨hx, hb, hml, hown, hts⟩ (c_X12_goal l dC dI _ Q N σ 2 x2 p2 hcp2) (cwV 2 hts hX12_label_X12_goal_v373 rfl rfl rfl (by decide +kernel) ⟨Nat.le_of_ble_eq_true rfl, Nat.le_of_ble_eq_true rfl⟩) ⟨zPre.blind, va_recv hK hP (ci := 11) (q0 := 0) rfl rfl, zPre.go hZ hP hK hD⟩ rfl rfl hl.1 rfl (lv_room (Nat.le_of_ble_eq_true rfl)) dX12_label_63 ⟨Nat.le_of_ble_eq_true rfl, Nat.le_of_ble_eq_true rfl⟩) hS (fun q _ h => hFc q h) hFc (fun r3 u9 t9 H1 locs ht hvm hw hB hz1 hk1 hS => ?_)
  obtain ⟨hP, hK1, hD1⟩ := hB
  rw [ht] at hP
  have hD := hD1.weaken (fun _ _ _ h => hFc _ h)
  generalize H1 = H at hP hS ⊢
  obtain rfl : r3 = p2.1 := hw
  refine lv_istore (lv' := [(5, .int p2.1), (0, .ref Q.h0), (1, .int x1), (2, .long x2)]) hx hb dX12_label_66 hl (by decide) rfl (fun ls hl => ?_)
  refine lv_aload_n hx hb dX12_label_68 rfl (lv_at hl 1 rfl) ?_
  refine rG_66 hx hb hts i_X12_label_X12 hown hK hP (hts (.fieldLink RX12 180 "StatementRules2Model" "fp" "[I") k_X12_label_fieldLink_RX12_180_SRModel_fp_I) dX12_label_69 ?_
  refine lv_iload_n hx hb dX12_label_72 rfl (lv_at hl 2 rfl) ?_
  refine lv_iload hx hb dX12_label_73 (lv_at hl 0 rfl) ?_
  obtain ⟨b4, hf⟩ := hf_ite hf
  refine rS_66 hx hb hK hP hD hS b4 dX12_label_75 (fun H locs hP hD hS => ?_)
  refine lv_aload_n hx hb dX12_label_76 rfl (lv_at hl 1 rfl) ?_
  obtain ⟨p5, hcp5, hf⟩ := hf_bind hf
  have hFc := r_free hD hS hA
  refine va_callv (va_runV (As := []) (rest := []) ⟨hx, hb, hml, hown, hts⟩ (c_X12_next l dC dI _ Q N (RS.setA p2.2 66 ((x1 : Int32).toNatClampNeg) p2.1) p5 hcp5) (cwV 0 hts hX12_label_X12_next_v345 rfl rfl rfl (by decide +kernel) ⟨Nat.le_of_ble_eq_true rfl, Nat.le_of_ble_eq_true rfl⟩) ⟨zPre.blind, va_recv hK hP (ci := 11) (q0 := 0) rfl rfl, zPre.go hZ hP hK hD⟩ rfl rfl hl.1 rfl (lv_room (Nat.le_of_ble_eq_true rfl)) dX12_label_77 ⟨Nat.le_of_ble_eq_true rfl, Nat.le_of_ble_eq_true rfl⟩) hS (fun q _ h => hFc q h) hFc (fun u9 t9 H1 locs ht hvm hw hB hz1 hk1 hS => ?_)
  obtain ⟨hP, hK1, hD1⟩ := hB
  rw [ht] at hP
  have hD := hD1.weaken (fun _ _ _ h => hFc _ h)
  generalize H1 = H at hP hS ⊢
  refine lv_aload_n hx hb dX12_label_80 rfl (lv_at hl 1 rfl) ?_
  refine rG_10 (v := (p5.i 10)) hx hb hts i_X12_label_X12 hown hK hP (hts (.fieldLink RX12 307 "StatementRules2Model" "tok" "I") k_X12_label_fieldLink_RX12_307_SRModel_tok_I) dX12_label_81 rfl ?_
  refine lv_sipush (v := 415) hx hb dX12_label_84 (by decide) ?_
  refine lv_icmp_eq (tgt := 110) hx hb dX12_label_87 (by decide) (fun c7 => ?_) (fun c7 => ?_)
  ·
    replace hf := (if_pos c7).symm.trans hf
    exact j_X12_label_110 l dC dI Q N R hx hb hr hml hown hts hlocks hZ hA hK p5 p2.1 _ _ _ hf hP hD hS (lv_sub hl [1, 0] rfl)
  ·
    replace hf := (if_neg c7).symm.trans hf
    refine lv_aload_n hx hb dX12_label_90 rfl (lv_at hl 1 rfl) ?_
    refine rG_10 (v := (p5.i 10)) hx hb hts i_X12_label_X12 hown hK hP (hts (.fieldLink RX12 307 "StatementRules2Model" "tok" "I") k_X12_label_fieldLink_RX12_307_SRModel_tok_I) dX12_label_91 rfl ?_
    refine lv_sipush (v := 416) hx hb dX12_label_94 (by decide) ?_
    refine lv_icmp_eq (tgt := 110) hx hb dX12_label_97 (by decide) (fun c15 => ?_) (fun c15 => ?_)
    ·
      replace hf := (if_pos c15).symm.trans hf
      exact j_X12_label_110 l dC dI Q N R hx hb hr hml hown hts hlocks hZ hA hK p5 p2.1 _ _ _ hf hP hD hS (lv_sub hl [1, 0] rfl)
    ·
      replace hf := (if_neg c15).symm.trans hf
      refine lv_aload_n hx hb dX12_label_100 rfl (lv_at hl 1 rfl) ?_
      refine rG_10 (v := (p5.i 10)) hx hb hts i_X12_label_X12 hown hK hP (hts (.fieldLink RX12 307 "StatementRules2Model" "tok" "I") k_X12_label_fieldLink_RX12_307_SRModel_tok_I) dX12_label_101 rfl ?_
      refine lv_sipush (v := 417) hx hb dX12_label_104 (by decide) ?_
      refine lv_icmp_ne (tgt := 171) hx hb dX12_label_107 (by decide) (fun c16 => ?_) (fun c16 => ?_)
      ·
        replace hf := (if_neg c16).symm.trans hf
        refine lv_aload_n hx hb dX12_label_171 rfl (lv_at hl 1 rfl) ?_
        refine rG_10 (v := (p5.i 10)) hx hb hts i_X12_label_X12 hown hK hP (hts (.fieldLink RX12 307 "StatementRules2Model" "tok" "I") k_X12_label_fieldLink_RX12_307_SRModel_tok_I) dX12_label_172 rfl ?_
        refine lv_iconst (v := 2) hx hb dX12_label_175 (by decide) ?_
        refine lv_icmp_ne (tgt := 188) hx hb dX12_label_176 (by decide) (fun c17 => ?_) (fun c17 => ?_)
        ·
          replace hf := (if_neg c17).symm.trans hf
          exact j_X12_label_188 l dC dI Q N R hx hb hr hml hown hts hlocks hZ hA hK p5 _ _ _ hf hP hD hS (lv_sub hl [1] rfl)
        ·
          replace hf := (if_pos c17).symm.trans hf
          refine lv_aload_n hx hb dX12_label_179 rfl (lv_at hl 1 rfl) ?_
          refine rG_46 hx hb hts i_X12_label_X12 hown hK hP (hts (.fieldLink RX12 141 "StatementRules2Model" "goalLoop" "[I") k_X12_label_fieldLink_RX12_141_SRModel_goalLoop_I) dX12_label_180 ?_
          refine lv_iload hx hb dX12_label_183 (lv_at hl 0 rfl) ?_
          refine lv_bipush (v := (-2)) hx hb dX12_label_185 (by decide) ?_
          obtain ⟨b18, hf⟩ := hf_ite hf
          refine rS_46 hx hb hK hP hD hS b18 dX12_label_187 (fun H locs hP hD hS => ?_)
          exact j_X12_label_188 l dC dI Q N R hx hb hr hml hown hts hlocks hZ hA hK (RS.setA p5 46 ((p2.1 : Int32).toNatClampNeg) (-2)) _ _ _ hf hP hD hS (lv_sub hl [1] rfl)
      ·
        replace hf := (if_pos c16).symm.trans hf
        exact j_X12_label_110 l dC dI Q N R hx hb hr hml hown hts hlocks hZ hA hK p5 p2.1 _ _ _ hf hP hD hS (lv_sub hl [1, 0] rfl)
set_option maxHeartbeats 4000000 in
set_option maxRecDepth 100000 in
theorem j_X12_label_8 {p : Program} {e : Env} {s : State} {m : MethodId} {args : Array Value} {below : List Frame} {meth : Method} {c : Code} {A : Nat → Prop} (l : Launch) (dC : Nat → ClassId) (dI : Nat → Nat → Nat) (Q : RQ) (N : Nat) (R : RS) (hx : p.tables.exec = Jvm.exec) (hb : c.code = cX12_label) (hr : meth.sig.returnType = none) (hml : c.maxLocals = 7) (hown : s.vm.findClass RX12 = some m.cls) (hts : ∀ w ∈ wzX12_label, w.before args s = true) (hlocks : meth.locks = false) (hZ : zAMB s) (hA : ∀ q : Nat, s.heap.size ≤ q → A q) (hK : va_K (dC, dI) vwCl (rT Q) s) : ∀ (n9 : Nat), ∀ (σ : RS) (x1 : Int32) (x2 : Int64) (x4 : Int32) (x5 : Int32) (H : Heap) (locs : List Loc) (ls : Array Slot), f_X12_label_8 N n9 σ x1 x2 x4 x5 = some R → va_P (dC, dI) vwCl (rW Q σ) H → va_D A (rW Q σ) → va_S A s.heap H locs → lv_has ls 7 [(0, .ref Q.h0), (1, .int x1), (2, .long x2), (4, .int x4), (5, .int x5)] → W p l e ({ frames := 4, cells := 0, slots := 0, locals := 240 }) s m args below meth c H locs 0 0 (MQ below (va_Qv (fun (_ : Unit) => True) (fun (_ : Unit) (t : State) => zPost dC dI A (rW Q R) (rT Q) t) A) args s 0 0 A) (F0 m 8 ls []) := by
  intro n9
  induction n9 with
  | zero => intro σ x1 x2 x4 x5 H locs ls hf; exact absurd hf (by intro h9; cases h9)
  | succ n9 ih =>
    intro σ x1 x2 x4 x5 H locs ls hf hP hD hS hl
    replace hf : b_X12_label_8 N (f_X12_label_8 N n9) σ x1 x2 x4 x5 = some R := hf
    unfold b_X12_label_8 at hf
    refine lv_iload hx hb dX12_label_8 (lv_at hl 4 rfl) ?_
    refine lv_if_lt (tgt := 60) hx hb dX12_label_10 (by decide) (fun c1 => ?_) (fun c1 => ?_)
    ·
      replace hf := (if_pos c1).symm.trans hf
      exact j_X12_label_60 l dC dI Q N R hx hb hr hml hown hts hlocks hZ hA hK σ x1 x2 _ _ _ hf hP hD hS (lv_sub hl [0, 1, 2] rfl)
    ·
      replace hf := (if_neg c1).symm.trans hf
      refine lv_aload_n hx hb dX12_label_13 rfl (lv_at hl 0 rfl) ?_
      refine rG_44 hx hb hts i_X12_label_X12 hown hK hP (hts (.fieldLink RX12 135 "StatementRules2Model" "goalSort" "[I") k_X12_label_fieldLink_RX12_135_SRModel_goalSort_I) dX12_label_14 ?_
      refine lv_iload hx hb dX12_label_17 (lv_at hl 4 rfl) ?_
      obtain ⟨b19, hf⟩ := hf_ite hf
      refine rL_44 (v := (σ.a 44 ((x5 : Int32).toNatClampNeg))) hx hb hK hP b19 dX12_label_19 rfl ?_
      refine lv_iconst (v := 3) hx hb dX12_label_20 (by decide) ?_
      refine lv_icmp_eq (tgt := 60) hx hb dX12_label_21 (by decide) (fun c20 => ?_) (fun c20 => ?_)
      ·
        replace hf := (if_pos c20).symm.trans hf
        exact j_X12_label_60 l dC dI Q N R hx hb hr hml hown hts hlocks hZ hA hK σ x1 x2 _ _ _ hf hP hD hS (lv_sub hl [0, 1, 2] rfl)
      ·
        replace hf := (if_neg c20).symm.trans hf
        refine lv_aload_n hx hb dX12_label_24 rfl (lv_at hl 0 rfl) ?_
        refine rG_44 hx hb hts i_X12_label_X12 hown hK hP (hts (.fieldLink RX12 135 "StatementRules2Model" "goalSort" "[I") k_X12_label_fieldLink_RX12_135_SRModel_goalSort_I) dX12_label_25 ?_
        refine lv_iload hx hb dX12_label_28 (lv_at hl 4 rfl) ?_
        refine rL_44 (v := (σ.a 44 ((x5 : Int32).toNatClampNeg))) hx hb hK hP b19 dX12_label_30 rfl ?_
        refine lv_iconst (v := 2) hx hb dX12_label_31 (by decide) ?_
        refine lv_icmp_ne (tgt := 54) hx hb dX12_label_32 (by decide) (fun c21 => ?_) (fun c21 => ?_)
        ·
          replace hf := (if_neg c21).symm.trans hf
          refine lv_iinc (v := (x5 + (-1))) (lv' := [(5, .int (x5 + (-1))), (0, .ref Q.h0), (1, .int x1), (2, .long x2), (4, .int x4)]) hx hb dX12_label_54 hl (k := 4) rfl rfl (by decide) rfl (fun ls hl => ?_)
          refine lv_goto (tgt := 8) hx hb dX12_label_57 (by decide) ?_
          exact ih σ x1 x2 x4 (x5 + (-1)) _ _ _ hf hP hD hS (lv_sub hl [1, 2, 3, 4, 0] rfl)
        ·
          replace hf := (if_pos c21).symm.trans hf
          refine lv_aload_n hx hb dX12_label_35 rfl (lv_at hl 0 rfl) ?_
          refine rG_45 hx hb hts i_X12_label_X12 hown hK hP (hts (.fieldLink RX12 138 "StatementRules2Model" "goalName" "[J") k_X12_label_fieldLink_RX12_138_SRModel_goalName_J) dX12_label_36 ?_
          refine lv_iload hx hb dX12_label_39 (lv_at hl 4 rfl) ?_
          refine rL_45 (v := (σ.b 45 ((x5 : Int32).toNatClampNeg))) hx hb hK hP b19 dX12_label_41 rfl ?_
          refine lv_lload_n hx hb dX12_label_42 rfl (lv_at hl 2 rfl) ?_
          refine W.lcmp hx hb dX12_label_43 ?_
          refine lv_if_ne (tgt := 54) hx hb dX12_label_44 (by decide) (fun c22 => ?_) (fun c22 => ?_)
          ·
            replace hf := (if_neg c22).symm.trans hf
            refine lv_iinc (v := (x5 + (-1))) (lv' := [(5, .int (x5 + (-1))), (0, .ref Q.h0), (1, .int x1), (2, .long x2), (4, .int x4)]) hx hb dX12_label_54 hl (k := 4) rfl rfl (by decide) rfl (fun ls hl => ?_)
            refine lv_goto (tgt := 8) hx hb dX12_label_57 (by decide) ?_
            exact ih σ x1 x2 x4 (x5 + (-1)) _ _ _ hf hP hD hS (lv_sub hl [1, 2, 3, 4, 0] rfl)
          ·
            replace hf := (if_pos c22).symm.trans hf
            refine lv_aload_n hx hb dX12_label_47 rfl (lv_at hl 0 rfl) ?_
            refine lv_iconst (v := 4) hx hb dX12_label_48 (by decide) ?_
            refine lv_iload hx hb dX12_label_49 (lv_at hl 3 rfl) ?_
            obtain ⟨p23, hcp23, hf⟩ := hf_bind hf
            have hFc := r_free hD hS hA
            refine va_callv (va_runV (As := [.int 4, .int x4]) (rest := []) ⟨hx, hb, hml, hown, hts⟩ (c_X12_fail l dC dI _ Q N σ 4 x4 p23 hcp23) (cwV 2 hts hX12_label_X12_fail_v337 rfl rfl rfl (by decide +kernel) ⟨Nat.le_of_ble_eq_true rfl, Nat.le_of_ble_eq_true rfl⟩) ⟨zPre.blind, va_recv hK hP (ci := 11) (q0 := 0) rfl rfl, zPre.go hZ hP hK hD⟩ rfl rfl hl.1 rfl (lv_room (Nat.le_of_ble_eq_true rfl)) dX12_label_51 ⟨Nat.le_of_ble_eq_true rfl, Nat.le_of_ble_eq_true rfl⟩) hS (fun q _ h => hFc q h) hFc (fun u9 t9 H1 locs ht hvm hw hB hz1 hk1 hS => ?_)
            obtain ⟨hP, hK1, hD1⟩ := hB
            rw [ht] at hP
            have hD := hD1.weaken (fun _ _ _ h => hFc _ h)
            generalize H1 = H at hP hS ⊢
            refine lv_iinc (v := (x5 + (-1))) (lv' := [(5, .int (x5 + (-1))), (0, .ref Q.h0), (1, .int x1), (2, .long x2), (4, .int x4)]) hx hb dX12_label_54 hl (k := 4) rfl rfl (by decide) rfl (fun ls hl => ?_)
            refine lv_goto (tgt := 8) hx hb dX12_label_57 (by decide) ?_
            exact ih p23 x1 x2 x4 (x5 + (-1)) _ _ _ hf hP hD hS (lv_sub hl [1, 2, 3, 4, 0] rfl)
set_option maxHeartbeats 4000000 in
set_option maxRecDepth 100000 in
theorem c_X12_label (l : Launch) (dC : Nat → ClassId) (dI : Nat → Nat → Nat) (sz : Nat) (Q : RQ) (N : Nat) (σ : RS) (x1 : Int32) (x2 : Int64) (x4 : Int32) (R : RS) (hf : f_X12_label N σ x1 x2 x4 = some R) : Met l yX12_label wzX12_label ({ frames := 4, cells := 0, slots := 0, locals := 240 }) (va_Pc [.ref Q.h0, .int x1, .long x2, .int x4] (zPre dC dI sz (rW Q σ) (rT Q))) (va_Qv (fun (_ : Unit) => True) (fun (_ : Unit) (t : State) => zPost dC dI (va_A (rW Q σ) sz) (rW Q R) (rT Q) t) (va_A (rW Q σ) sz)) 0 0 (va_A (rW Q σ) sz) := by
  refine Met.ofW (cc := cX12_label) (maxL := 7) (ret := none) (by decide) rfl ?_
  intro p e s m args below meth c s₁ B hml hv
  obtain ⟨rfl, hsz, hZ, hP, hK, hD0⟩ := hv
  have hx := B.exec
  have hb := B.bytes
  have hr := B.returns
  have hts := atoms_spec (ws := wzX12_label) B.pre
  have hown : s.vm.findClass RX12 = some m.cls := findClass_of_methodNamed B.named
  have hlocks := B.notSynchronized
  subst hsz
  have hD := hD0.self (sz := s.heap.size)
  generalize hAe : va_A (rW Q σ) s.heap.size = A at hD ⊢
  have hA : ∀ q : Nat, s.heap.size ≤ q → A q := fun q h => by rw [← hAe]; exact Or.inr h
  have hS : va_S A s.heap s.heap [] := va_S.rf
  have hl := lv_entry ([.ref Q.h0, .int x1, .long x2, .int x4]) (n := 7) (Nat.le_of_ble_eq_true rfl)
  rw [lg_entry_eq]
  generalize (lg_sl ([.ref Q.h0, .int x1, .long x2, .int x4]) ++ List.replicate (7 - (lg_sl ([.ref Q.h0, .int x1, .long x2, .int x4])).length) Slot.unset).toArray = ls at hl ⊢
  have hl : lv_has ls 7 [(0, .ref Q.h0), (1, .int x1), (2, .long x2), (4, .int x4)] := hl
  unfold f_X12_label at hf
  refine lv_aload_n hx hb dX12_label_0 rfl (lv_at hl 0 rfl) ?_
  refine rG_43 (v := (σ.i 43)) hx hb hts i_X12_label_X12 hown hK hP (hts (.fieldLink RX12 367 "StatementRules2Model" "goals" "I") k_X12_label_fieldLink_RX12_367_SRModel_goals_I) dX12_label_1 rfl ?_
  refine lv_iconst (v := 1) hx hb dX12_label_4 (by decide) ?_
  refine lv_isub hx hb dX12_label_5 ?_
  refine lv_istore (lv' := [(5, .int ((σ.i 43) - 1)), (0, .ref Q.h0), (1, .int x1), (2, .long x2), (4, .int x4)]) hx hb dX12_label_6 hl (by decide) rfl (fun ls hl => ?_)
  exact j_X12_label_8 l dC dI Q N R hx hb hr hml hown hts hlocks hZ hA hK N σ x1 x2 x4 ((σ.i 43) - 1) _ _ _ hf hP hD hS (lv_sub hl [1, 2, 3, 4, 0] rfl)
end
