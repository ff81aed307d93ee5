theorem k_X12_need_fieldLink_RX12_291_SRModel_fault_I : Cond.fieldLink RX12 291 "StatementRules2Model" "fault" "I" ∈ wzX12_need := List.mem_cons_of_mem _ (List.mem_append_left _ (List.mem_of_getElem? (i := 0) rfl))
theorem i_X12_need_X12 : ∀ w ∈ wsX120, w ∈ wzX12_need := fun _ h => List.mem_cons_of_mem _ (List.mem_append_right _ (List.mem_append_left _ (h)))
theorem k_X12_need_fieldLink_RX12_307_SRModel_tok_I : Cond.fieldLink RX12 307 "StatementRules2Model" "tok" "I" ∈ wzX12_need := List.mem_cons_of_mem _ (List.mem_append_left _ (List.mem_of_getElem? (i := 1) rfl))
set_option maxHeartbeats 4000000 in
set_option maxRecDepth 100000 in
theorem j_X12_need_31 {p : Program} {e : Env} {s : State} {m : MethodId} {args : Array Value} {below : List Frame} {meth : Method} {c : Code} {A : Nat → Prop} (l : Launch) (dC : Nat → ClassId) (dI : Nat → Nat → Nat) (Q : RQ) (N : Nat) (R : Int32 × RS) (hx : p.tables.exec = Jvm.exec) (hb : c.code = cX12_need) (hr : meth.sig.returnType = (some .boolean)) (hml : c.maxLocals = 2) (hown : s.vm.findClass RX12 = some m.cls) (hts : ∀ w ∈ wzX12_need, w.before args s = true) (hlocks : meth.locks = false) (hZ : zAMB s) (hA : ∀ q : Nat, s.heap.size ≤ q → A q) (hK : va_K (dC, dI) vwCl (rT Q) s) : ∀ (σ : RS) (H : Heap) (locs : List Loc) (ls : Array Slot), f_X12_need_31 N σ = some R → va_P (dC, dI) vwCl (rW Q σ) H → va_D A (rW Q σ) → va_S A s.heap H locs → lv_has ls 2 [(0, .ref Q.h0)] → W p l e ({ frames := 4, cells := 0, slots := 0, locals := 240 }) s m args below meth c H locs 0 0 (MQ below (va_Qi (fun (r : Int32) (_ : Unit) => r = R.1) (fun (_ : Unit) (t : State) => zPost dC dI A (rW Q R.2) (rT Q) t) A) args s 0 0 A) (F0 m 31 ls []) := by
  intro σ  H locs ls hf hP hD hS hl
  unfold f_X12_need_31 at hf
  refine lv_aload_n hx hb dX12_need_31 rfl (lv_at hl 0 rfl) ?_
  refine rG_15 (v := (σ.i 15)) hx hb hts i_X12_need_X12 hown hK hP (hts (.fieldLink RX12 291 "StatementRules2Model" "fault" "I") k_X12_need_fieldLink_RX12_291_SRModel_fault_I) dX12_need_32 rfl ?_
  refine lv_if_ne (tgt := 42) hx hb dX12_need_35 (by decide) (fun c2 => ?_) (fun c2 => ?_)
  ·
    replace hf := (if_neg c2).symm.trans hf
    refine lv_iconst (v := 0) hx hb dX12_need_42 (by decide) ?_
    obtain rfl := Option.some.inj hf
    exact W.zret (v := 0) hx hb hr (rfl) (fun t ht hW => ⟨⟨0, (), rfl, rfl, by rw [ht]; exact hP, va_K.moved hW.alike hK, hD⟩, hS.F ht⟩) hS.2.2 dX12_need_43
  ·
    replace hf := (if_pos c2).symm.trans hf
    refine lv_iconst (v := 1) hx hb dX12_need_38 (by decide) ?_
    refine lv_goto (tgt := 43) hx hb dX12_need_39 (by decide) ?_
    obtain rfl := Option.some.inj hf
    exact W.zret (v := 1) hx hb hr (rfl) (fun t ht hW => ⟨⟨1, (), rfl, rfl, by rw [ht]; exact hP, va_K.moved hW.alike hK, hD⟩, hS.F ht⟩) hS.2.2 dX12_need_43
set_option maxHeartbeats 4000000 in
set_option maxRecDepth 100000 in
theorem j_X12_need_27 {p : Program} {e : Env} {s : State} {m : MethodId} {args : Array Value} {below : List Frame} {meth : Method} {c : Code} {A : Nat → Prop} (l : Launch) (dC : Nat → ClassId) (dI : Nat → Nat → Nat) (Q : RQ) (N : Nat) (R : Int32 × RS) (hx : p.tables.exec = Jvm.exec) (hb : c.code = cX12_need) (hr : meth.sig.returnType = (some .boolean)) (hml : c.maxLocals = 2) (hown : s.vm.findClass RX12 = some m.cls) (hts : ∀ w ∈ wzX12_need, w.before args s = true) (hlocks : meth.locks = false) (hZ : zAMB s) (hA : ∀ q : Nat, s.heap.size ≤ q → A q) (hK : va_K (dC, dI) vwCl (rT Q) s) : ∀ (σ : RS) (H : Heap) (locs : List Loc) (ls : Array Slot), f_X12_need_27 N σ = some R → va_P (dC, dI) vwCl (rW Q σ) H → va_D A (rW Q σ) → va_S A s.heap H locs → lv_has ls 2 [(0, .ref Q.h0)] → W p l e ({ frames := 4, cells := 0, slots := 0, locals := 240 }) s m args below meth c H locs 0 0 (MQ below (va_Qi (fun (r : Int32) (_ : Unit) => r = R.1) (fun (_ : Unit) (t : State) => zPost dC dI A (rW Q R.2) (rT Q) t) A) args s 0 0 A) (F0 m 27 ls []) := by
  intro σ  H locs ls hf hP hD hS hl
  unfold f_X12_need_27 at hf
  refine lv_aload_n hx hb dX12_need_27 rfl (lv_at hl 0 rfl) ?_
  obtain ⟨p7, hcp7, hf⟩ := hf_bind hf
  have hFc := r_free hD hS hA
  refine va_callv (va_runV (As := []) (rest := []) ⟨hx, hb, hml, hown, hts⟩ (c_X12_next l dC dI _ Q N σ p7 hcp7) (cwV 0 hts hX12_need_X12_next_v345 rfl rfl rfl (by decide +kernel) ⟨Nat.le_of_ble_eq_true rfl, Nat.le_of_ble_eq_true rfl⟩) ⟨zPre.blind, va_recv hK hP (ci := 11) (q0 := 0) rfl rfl, zPre.go hZ hP hK hD⟩ rfl rfl hl.1 rfl (lv_room (Nat.le_of_ble_eq_true rfl)) dX12_need_28 ⟨Nat.le_of_ble_eq_true rfl, Nat.le_of_ble_eq_true rfl⟩) hS (fun q _ h => hFc q h) hFc (fun u9 t9 H1 locs ht hvm hw hB hz1 hk1 hS => ?_)
  obtain ⟨hP, hK1, hD1⟩ := hB
  rw [ht] at hP
  have hD := hD1.weaken (fun _ _ _ h => hFc _ h)
  generalize H1 = H at hP hS ⊢
  exact j_X12_need_31 l dC dI Q N R hx hb hr hml hown hts hlocks hZ hA hK p7 _ _ _ hf hP hD hS (lv_sub hl [0] rfl)
set_option maxHeartbeats 4000000 in
set_option maxRecDepth 100000 in
theorem c_X12_need (l : Launch) (dC : Nat → ClassId) (dI : Nat → Nat → Nat) (sz : Nat) (Q : RQ) (N : Nat) (σ : RS) (x1 : Int32) (R : Int32 × RS) (hf : f_X12_need N σ x1 = some R) : Met l yX12_need wzX12_need ({ frames := 4, cells := 0, slots := 0, locals := 240 }) (va_Pc [.ref Q.h0, .int x1] (zPre dC dI sz (rW Q σ) (rT Q))) (va_Qi (fun (r : Int32) (_ : Unit) => r = R.1) (fun (_ : Unit) (t : State) => zPost dC dI (va_A (rW Q σ) sz) (rW Q R.2) (rT Q) t) (va_A (rW Q σ) sz)) 0 0 (va_A (rW Q σ) sz) := by
  refine Met.ofW (cc := cX12_need) (maxL := 2) (ret := (some .boolean)) (by decide) rfl ?_
  intro p e s m args below meth c s₁ B hml hv
  obtain ⟨rfl, hsz, hZ, hP, hK, hD0⟩ := hv
  have hx := B.exec
  have hb := B.bytes
  have hr := B.returns
  have hts := atoms_spec (ws := wzX12_need) B.pre
  have hown : s.vm.findClass RX12 = some m.cls := findClass_of_methodNamed B.named
  have hlocks := B.notSynchronized
  subst hsz
  have hD := hD0.self (sz := s.heap.size)
  generalize hAe : va_A (rW Q σ) s.heap.size = A at hD ⊢
  have hA : ∀ q : Nat, s.heap.size ≤ q → A q := fun q h => by rw [← hAe]; exact Or.inr h
  have hS : va_S A s.heap s.heap [] := va_S.rf
  have hl := lv_entry ([.ref Q.h0, .int x1]) (n := 2) (Nat.le_of_ble_eq_true rfl)
  rw [lg_entry_eq]
  generalize (lg_sl ([.ref Q.h0, .int x1]) ++ List.replicate (2 - (lg_sl ([.ref Q.h0, .int x1])).length) Slot.unset).toArray = ls at hl ⊢
  have hl : lv_has ls 2 [(0, .ref Q.h0), (1, .int x1)] := hl
  unfold f_X12_need at hf
  refine lv_aload_n hx hb dX12_need_0 rfl (lv_at hl 0 rfl) ?_
  refine rG_15 (v := (σ.i 15)) hx hb hts i_X12_need_X12 hown hK hP (hts (.fieldLink RX12 291 "StatementRules2Model" "fault" "I") k_X12_need_fieldLink_RX12_291_SRModel_fault_I) dX12_need_1 rfl ?_
  refine lv_if_ne (tgt := 31) hx hb dX12_need_4 (by decide) (fun c1 => ?_) (fun c1 => ?_)
  ·
    replace hf := (if_neg c1).symm.trans hf
    exact j_X12_need_31 l dC dI Q N R hx hb hr hml hown hts hlocks hZ hA hK σ _ _ _ hf hP hD hS (lv_sub hl [0] rfl)
  ·
    replace hf := (if_pos c1).symm.trans hf
    refine lv_aload_n hx hb dX12_need_7 rfl (lv_at hl 0 rfl) ?_
    refine lv_aload_n hx hb dX12_need_8 rfl (lv_at hl 0 rfl) ?_
    refine rG_10 (v := (σ.i 10)) hx hb hts i_X12_need_X12 hown hK hP (hts (.fieldLink RX12 307 "StatementRules2Model" "tok" "I") k_X12_need_fieldLink_RX12_307_SRModel_tok_I) dX12_need_9 rfl ?_
    refine lv_iload_n hx hb dX12_need_12 rfl (lv_at hl 1 rfl) ?_
    refine lv_icmp_ne (tgt := 20) hx hb dX12_need_13 (by decide) (fun c3 => ?_) (fun c3 => ?_)
    ·
      replace hf := (if_neg c3).symm.trans hf
      refine lv_iconst (v := 0) hx hb dX12_need_20 (by decide) ?_
      obtain ⟨p4, hcp4, hf⟩ := hf_bind hf
      have hFc := r_free hD hS hA
      refine va_calli (va_runV (As := [.int 0]) (rest := []) ⟨hx, hb, hml, hown, hts⟩ (c_X12_can l dC dI _ Q N σ 0 p4 hcp4) (cwV 1 hts hX12_need_X12_can_v341 rfl rfl rfl (by decide +kernel) ⟨Nat.le_of_ble_eq_true rfl, Nat.le_of_ble_eq_true rfl⟩) ⟨zPre.blind, va_recv hK hP (ci := 11) (q0 := 0) rfl rfl, zPre.go hZ hP hK hD⟩ rfl rfl hl.1 rfl (lv_room (Nat.le_of_ble_eq_true rfl)) dX12_need_21 ⟨Nat.le_of_ble_eq_true rfl, Nat.le_of_ble_eq_true rfl⟩) hS (fun q _ h => hFc q h) hFc (fun r5 u9 t9 H1 locs ht hvm hw hB hz1 hk1 hS => ?_)
      obtain ⟨hP, hK1, hD1⟩ := hB
      rw [ht] at hP
      have hD := hD1.weaken (fun _ _ _ h => hFc _ h)
      generalize H1 = H at hP hS ⊢
      obtain rfl : r5 = p4.1 := hw
      refine lv_if_eq (tgt := 31) hx hb dX12_need_24 (by decide) (fun c6 => ?_) (fun c6 => ?_)
      ·
        replace hf := (if_pos c6).symm.trans hf
        exact j_X12_need_31 l dC dI Q N R hx hb hr hml hown hts hlocks hZ hA hK p4.2 _ _ _ hf hP hD hS (lv_sub hl [0] rfl)
      ·
        replace hf := (if_neg c6).symm.trans hf
        exact j_X12_need_27 l dC dI Q N R hx hb hr hml hown hts hlocks hZ hA hK p4.2 _ _ _ hf hP hD hS (lv_sub hl [0] rfl)
    ·
      replace hf := (if_pos c3).symm.trans hf
      refine lv_iconst (v := 1) hx hb dX12_need_16 (by decide) ?_
      refine lv_goto (tgt := 21) hx hb dX12_need_17 (by decide) ?_
      obtain ⟨p9, hcp9, hf⟩ := hf_bind hf
      have hFc := r_free hD hS hA
      refine va_calli (va_runV (As := [.int 1]) (rest := []) ⟨hx, hb, hml, hown, hts⟩ (c_X12_can l dC dI _ Q N σ 1 p9 hcp9) (cwV 1 hts hX12_need_X12_can_v341 rfl rfl rfl (by decide +kernel) ⟨Nat.le_of_ble_eq_true rfl, Nat.le_of_ble_eq_true rfl⟩) ⟨zPre.blind, va_recv hK hP (ci := 11) (q0 := 0) rfl rfl, zPre.go hZ hP hK hD⟩ rfl rfl hl.1 rfl (lv_room (Nat.le_of_ble_eq_true rfl)) dX12_need_21 ⟨Nat.le_of_ble_eq_true rfl, Nat.le_of_ble_eq_true rfl⟩) hS (fun q _ h => hFc q h) hFc (fun r10 u9 t9 H1 locs ht hvm hw hB hz1 hk1 hS => ?_)
      obtain ⟨hP, hK1, hD1⟩ := hB
      rw [ht] at hP
      have hD := hD1.weaken (fun _ _ _ h => hFc _ h)
      generalize H1 = H at hP hS ⊢
      obtain rfl : r10 = p9.1 := hw
      refine lv_if_eq (tgt := 31) hx hb dX12_need_24 (by decide) (fun c11 => ?_) (fun c11 => ?_)
      ·
        replace hf := (if_pos c11).symm.trans hf
        exact j_X12_need_31 l dC dI Q N R hx hb hr hml hown hts hlocks hZ hA hK p9.2 _ _ _ hf hP hD hS (lv_sub hl [0] rfl)
      ·
        replace hf := (if_neg c11).symm.trans hf
        exact j_X12_need_27 l dC dI Q N R hx hb hr hml hown hts hlocks hZ hA hK p9.2 _ _ _ hf hP hD hS (lv_sub hl [0] rfl)
theorem k_X12_opens_fieldLink_RX12_348_SRModel_opened_I : Cond.fieldLink RX12 348 "StatementRules2Model" "opened" "I" ∈ wzX12_opens := List.mem_cons_of_mem _ (List.mem_append_left _ (List.mem_of_getElem? (i := 0) rfl))
theorem i_X12_opens_X12 : ∀ w ∈ wsX120, w ∈ wzX12_opens := fun _ h => List.mem_cons_of_mem _ (List.mem_append_right _ (List.mem_append_left _ (h)))
theorem k_X12_opens_fieldLink_RX12_291_SRModel_fault_I : Cond.fieldLink RX12 291 "StatementRules2Model" "fault" "I" ∈ wzX12_opens := List.mem_cons_of_mem _ (List.mem_append_left _ (List.mem_of_getElem? (i := 1) rfl))
theorem k_X12_opens_fieldLink_RX12_304_SRModel_from_I : Cond.fieldLink RX12 304 "StatementRules2Model" "from" "I" ∈ wzX12_opens := List.mem_cons_of_mem _ (List.mem_append_left _ (List.mem_of_getElem? (i := 2) rfl))
set_option maxHeartbeats 4000000 in
set_option maxRecDepth 100000 in
theorem j_X12_opens_29 {p : Program} {e : Env} {s : State} {m : MethodId} {args : Array Value} {below : List Frame} {meth : Method} {c : Code} {A : Nat → Prop} (l : Launch) (dC : Nat → ClassId) (dI : Nat → Nat → Nat) (Q : RQ) (N : Nat) (R : Int32 × RS) (hx : p.tables.exec = Jvm.exec) (hb : c.code = cX12_opens) (hr : meth.sig.returnType = (some .boolean)) (hml : c.maxLocals = 1) (hown : s.vm.findClass RX12 = some m.cls) (hts : ∀ w ∈ wzX12_opens, w.before args s = true) (hlocks : meth.locks = false) (hZ : zAMB s) (hA : ∀ q : Nat, s.heap.size ≤ q → A q) (hK : va_K (dC, dI) vwCl (rT Q) s) : ∀ (σ : RS) (H : Heap) (locs : List Loc) (ls : Array Slot), f_X12_opens_29 N σ = some R → va_P (dC, dI) vwCl (rW Q σ) H → va_D A (rW Q σ) → va_S A s.heap H locs → lv_has ls 1 [(0, .ref Q.h0)] → W p l e ({ frames := 2, cells := 0, slots := 0, locals := 120 }) s m args below meth c H locs 0 0 (MQ below (va_Qi (fun (r : Int32) (_ : Unit) => r = R.1) (fun (_ : Unit) (t : State) => zPost dC dI A (rW Q R.2) (rT Q) t) A) args s 0 0 A) (F0 m 29 ls []) := by
  intro σ  H locs ls hf hP hD hS hl
  unfold f_X12_opens_29 at hf
  refine lv_aload_n hx hb dX12_opens_29 rfl (lv_at hl 0 rfl) ?_
  refine rG_15 (v := (σ.i 15)) hx hb hts i_X12_opens_X12 hown hK hP (hts (.fieldLink RX12 291 "StatementRules2Model" "fault" "I") k_X12_opens_fieldLink_RX12_291_SRModel_fault_I) dX12_opens_30 rfl ?_
  refine lv_if_ne (tgt := 40) hx hb dX12_opens_33 (by decide) (fun c2 => ?_) (fun c2 => ?_)
  ·
    replace hf := (if_neg c2).symm.trans hf
    refine lv_iconst (v := 0) hx hb dX12_opens_40 (by decide) ?_
    obtain rfl := Option.some.inj hf
    exact W.zret (v := 0) hx hb hr (rfl) (fun t ht hW => ⟨⟨0, (), rfl, rfl, by rw [ht]; exact hP, va_K.moved hW.alike hK, hD⟩, hS.F ht⟩) hS.2.2 dX12_opens_41
  ·
    replace hf := (if_pos c2).symm.trans hf
    refine lv_iconst (v := 1) hx hb dX12_opens_36 (by decide) ?_
    refine lv_goto (tgt := 41) hx hb dX12_opens_37 (by decide) ?_
    obtain rfl := Option.some.inj hf
    exact W.zret (v := 1) hx hb hr (rfl) (fun t ht hW => ⟨⟨1, (), rfl, rfl, by rw [ht]; exact hP, va_K.moved hW.alike hK, hD⟩, hS.F ht⟩) hS.2.2 dX12_opens_41
set_option maxHeartbeats 4000000 in
set_option maxRecDepth 100000 in
theorem c_X12_opens (l : Launch) (dC : Nat → ClassId) (dI : Nat → Nat → Nat) (sz : Nat) (Q : RQ) (N : Nat) (σ : RS) (R : Int32 × RS) (hf : f_X12_opens N σ = some R) : Met l yX12_opens wzX12_opens ({ frames := 2, cells := 0, slots := 0, locals := 120 }) (va_Pc [.ref Q.h0] (zPre dC dI sz (rW Q σ) (rT Q))) (va_Qi (fun (r : Int32) (_ : Unit) => r = R.1) (fun (_ : Unit) (t : State) => zPost dC dI (va_A (rW Q σ) sz) (rW Q R.2) (rT Q) t) (va_A (rW Q σ) sz)) 0 0 (va_A (rW Q σ) sz) := by
  refine Met.ofW (cc := cX12_opens) (maxL := 1) (ret := (some .boolean)) (by decide) rfl ?_
  intro p e s m args below meth c s₁ B hml hv
  obtain ⟨rfl, hsz, hZ, hP, hK, hD0⟩ := hv
  have hx := B.exec
  have hb := B.bytes
  have hr := B.returns
  have hts := atoms_spec (ws := wzX12_opens) B.pre
  have hown : s.vm.findClass RX12 = some m.cls := findClass_of_methodNamed B.named
  have hlocks := B.notSynchronized
  subst hsz
  have hD := hD0.self (sz := s.heap.size)
  generalize hAe : va_A (rW Q σ) s.heap.size = A at hD ⊢
  have hA : ∀ q : Nat, s.heap.size ≤ q → A q := fun q h => by rw [← hAe]; exact Or.inr h
  have hS : va_S A s.heap s.heap [] := va_S.rf
  have hl := lv_entry ([.ref Q.h0]) (n := 1) (Nat.le_of_ble_eq_true rfl)
  rw [lg_entry_eq]
  generalize (lg_sl ([.ref Q.h0]) ++ List.replicate (1 - (lg_sl ([.ref Q.h0])).length) Slot.unset).toArray = ls at hl ⊢
  have hl : lv_has ls 1 [(0, .ref Q.h0)] := hl
  unfold f_X12_opens at hf
  refine lv_aload_n hx hb dX12_opens_0 rfl (lv_at hl 0 rfl) ?_
  refine lv_dup hx hb dX12_opens_1 rfl ?_
  refine rG_19 (v := (σ.i 19)) hx hb hts i_X12_opens_X12 hown hK hP (hts (.fieldLink RX12 348 "StatementRules2Model" "opened" "I") k_X12_opens_fieldLink_RX12_348_SRModel_opened_I) dX12_opens_2 rfl ?_
  refine lv_iconst (v := 1) hx hb dX12_opens_5 (by decide) ?_
  refine lv_iadd hx hb dX12_opens_6 ?_
  refine rP_19 hx hb hts i_X12_opens_X12 hown hK hP hD hS (hts (.fieldLink RX12 348 "StatementRules2Model" "opened" "I") k_X12_opens_fieldLink_RX12_348_SRModel_opened_I) dX12_opens_7 (fun H locs hP hD hS => ?_)
  refine lv_aload_n hx hb dX12_opens_10 rfl (lv_at hl 0 rfl) ?_
  refine rG_19 (v := ((σ.i 19) + 1)) hx hb hts i_X12_opens_X12 hown hK hP (hts (.fieldLink RX12 348 "StatementRules2Model" "opened" "I") k_X12_opens_fieldLink_RX12_348_SRModel_opened_I) dX12_opens_11 rfl ?_
  refine lv_bipush (v := 20) hx hb dX12_opens_14 (by decide) ?_
  refine lv_icmp_le (tgt := 29) hx hb dX12_opens_16 (by decide) (fun c1 => ?_) (fun c1 => ?_)
  ·
    replace hf := (if_pos c1).symm.trans hf
    exact j_X12_opens_29 l dC dI Q N R hx hb hr hml hown hts hlocks hZ hA hK (RS.setI σ 19 ((σ.i 19) + 1)) _ _ _ hf hP hD hS (lv_sub hl [0] rfl)
  ·
    replace hf := (if_neg c1).symm.trans hf
    refine lv_aload_n hx hb dX12_opens_19 rfl (lv_at hl 0 rfl) ?_
    refine lv_bipush (v := 6) hx hb dX12_opens_20 (by decide) ?_
    refine lv_aload_n hx hb dX12_opens_22 rfl (lv_at hl 0 rfl) ?_
    refine rG_11 (v := (σ.i 11)) hx hb hts i_X12_opens_X12 hown hK hP (hts (.fieldLink RX12 304 "StatementRules2Model" "from" "I") k_X12_opens_fieldLink_RX12_304_SRModel_from_I) dX12_opens_23 rfl ?_
    obtain ⟨p3, hcp3, hf⟩ := hf_bind hf
    have hFc := r_free hD hS hA
    refine va_callv (va_runV (As := [.int 6, .int (σ.i 11)]) (rest := []) ⟨hx, hb, hml, hown, hts⟩ (c_X12_fail l dC dI _ Q N (RS.setI σ 19 ((σ.i 19) + 1)) 6 (σ.i 11) p3 hcp3) (cwV 2 hts hX12_opens_X12_fail_v337 rfl rfl rfl (by decide +kernel) ⟨Nat.le_of_ble_eq_true rfl, Nat.le_of_ble_eq_true rfl⟩) ⟨zPre.blind, va_recv hK hP (ci := 11) (q0 := 0) rfl rfl, zPre.go hZ hP hK hD⟩ rfl rfl hl.1 rfl (lv_room (Nat.le_of_ble_eq_true rfl)) dX12_opens_26 ⟨Nat.le_of_ble_eq_true rfl, Nat.le_of_ble_eq_true rfl⟩) hS (fun q _ h => hFc q h) hFc (fun u9 t9 H1 locs ht hvm hw hB hz1 hk1 hS => ?_)
    obtain ⟨hP, hK1, hD1⟩ := hB
    rw [ht] at hP
    have hD := hD1.weaken (fun _ _ _ h => hFc _ h)
    generalize H1 = H at hP hS ⊢
    exact j_X12_opens_29 l dC dI Q N R hx hb hr hml hown hts hlocks hZ hA hK p3 _ _ _ hf hP hD hS (lv_sub hl [0] rfl)
theorem k_X12_open_fieldLink_RX12_291_SRModel_fault_I : Cond.fieldLink RX12 291 "StatementRules2Model" "fault" "I" ∈ wzX12_open := List.mem_cons_of_mem _ (List.mem_append_left _ (List.mem_of_getElem? (i := 0) rfl))
theorem i_X12_open_X12 : ∀ w ∈ wsX120, w ∈ wzX12_open := fun _ h => List.mem_cons_of_mem _ (List.mem_append_right _ (List.mem_append_left _ (h)))
theorem k_X12_open_fieldLink_RX12_307_SRModel_tok_I : Cond.fieldLink RX12 307 "StatementRules2Model" "tok" "I" ∈ wzX12_open := List.mem_cons_of_mem _ (List.mem_append_left _ (List.mem_of_getElem? (i := 1) rfl))
set_option maxHeartbeats 4000000 in
set_option maxRecDepth 100000 in
theorem j_X12_open_38 {p : Program} {e : Env} {s : State} {m : MethodId} {args : Array Value} {below : List Frame} {meth : Method} {c : Code} {A : Nat → Prop} (l : Launch) (dC : Nat → ClassId) (dI : Nat → Nat → Nat) (Q : RQ) (N : Nat) (R : Int32 × RS) (hx : p.tables.exec = Jvm.exec) (hb : c.code = cX12_open) (hr : meth.sig.returnType = (some .boolean)) (hml : c.maxLocals = 2) (hown : s.vm.findClass RX12 = some m.cls) (hts : ∀ w ∈ wzX12_open, w.before args s = true) (hlocks : meth.locks = false) (hZ : zAMB s) (hA : ∀ q : Nat, s.heap.size ≤ q → A q) (hK : va_K (dC, dI) vwCl (rT Q) s) : ∀ (σ : RS) (H : Heap) (locs : List Loc) (ls : Array Slot), f_X12_open_38 N σ = some R → va_P (dC, dI) vwCl (rW Q σ) H → va_D A (rW Q σ) → va_S A s.heap H locs → lv_has ls 2 [(0, .ref Q.h0)] → W p l e ({ frames := 4, cells := 0, slots := 0, locals := 240 }) s m args below meth c H locs 0 0 (MQ below (va_Qi (fun (r : Int32) (_ : Unit) => r = R.1) (fun (_ : Unit) (t : State) => zPost dC dI A (rW Q R.2) (rT Q) t) A) args s 0 0 A) (F0 m 38 ls []) := by
  intro σ  H locs ls hf hP hD hS hl
  unfold f_X12_open_38 at hf
  refine lv_aload_n hx hb dX12_open_38 rfl (lv_at hl 0 rfl) ?_
  refine rG_15 (v := (σ.i 15)) hx hb hts i_X12_open_X12 hown hK hP (hts (.fieldLink RX12 291 "StatementRules2Model" "fault" "I") k_X12_open_fieldLink_RX12_291_SRModel_fault_I) dX12_open_39 rfl ?_
  refine lv_if_ne (tgt := 49) hx hb dX12_open_42 (by decide) (fun c2 => ?_) (fun c2 => ?_)
  ·
    replace hf := (if_neg c2).symm.trans hf
    refine lv_iconst (v := 0) hx hb dX12_open_49 (by decide) ?_
    obtain rfl := Option.some.inj hf
    exact W.zret (v := 0) hx hb hr (rfl) (fun t ht hW => ⟨⟨0, (), rfl, rfl, by rw [ht]; exact hP, va_K.moved hW.alike hK, hD⟩, hS.F ht⟩) hS.2.2 dX12_open_50
  ·
    replace hf := (if_pos c2).symm.trans hf
    refine lv_iconst (v := 1) hx hb dX12_open_45 (by decide) ?_
    refine lv_goto (tgt := 50) hx hb dX12_open_46 (by decide) ?_
    obtain rfl := Option.some.inj hf
    exact W.zret (v := 1) hx hb hr (rfl) (fun t ht hW => ⟨⟨1, (), rfl, rfl, by rw [ht]; exact hP, va_K.moved hW.alike hK, hD⟩, hS.F ht⟩) hS.2.2 dX12_open_50
set_option maxHeartbeats 4000000 in
set_option maxRecDepth 100000 in
theorem j_X12_open_27 {p : Program} {e : Env} {s : State} {m : MethodId} {args : Array Value} {below : List Frame} {meth : Method} {c : Code} {A : Nat → Prop} (l : Launch) (dC : Nat → ClassId) (dI : Nat → Nat → Nat) (Q : RQ) (N : Nat) (R : Int32 × RS) (hx : p.tables.exec = Jvm.exec) (hb : c.code = cX12_open) (hr : meth.sig.returnType = (some .boolean)) (hml : c.maxLocals = 2) (hown : s.vm.findClass RX12 = some m.cls) (hts : ∀ w ∈ wzX12_open, w.before args s = true) (hlocks : meth.locks = false) (hZ : zAMB s) (hA : ∀ q : Nat, s.heap.size ≤ q → A q) (hK : va_K (dC, dI) vwCl (rT Q) s) : ∀ (σ : RS) (H : Heap) (locs : List Loc) (ls : Array Slot), f_X12_open_27 N σ = some R → va_P (dC, dI) vwCl (rW Q σ) H → va_D A (rW Q σ) → va_S A s.heap H locs → lv_has ls 2 [(0, .ref Q.h0)] → W p l e ({ frames := 4, cells := 0, slots := 0, locals := 240 }) s m args below meth c H locs 0 0 (MQ below (va_Qi (fun (r : Int32) (_ : Unit) => r = R.1) (fun (_ : Unit) (t : State) => zPost dC dI A (rW Q R.2) (rT Q) t) A) args s 0 0 A) (F0 m 27 ls []) := by
  intro σ  H locs ls hf hP hD hS hl
  unfold f_X12_open_27 at hf
  refine lv_aload_n hx hb dX12_open_27 rfl (lv_at hl 0 rfl) ?_
  obtain ⟨p7, hcp7, hf⟩ := hf_bind hf
  have hFc := r_free hD hS hA
  refine va_calli (va_runV (As := []) (rest := []) ⟨hx, hb, hml, hown, hts⟩ (c_X12_opens l dC dI _ Q N σ p7 hcp7) (cwV 0 hts hX12_open_X12_opens_v351 rfl rfl rfl (by decide +kernel) ⟨Nat.le_of_ble_eq_true rfl, Nat.le_of_ble_eq_true rfl⟩) ⟨zPre.blind, va_recv hK hP (ci := 11) (q0 := 0) rfl rfl, zPre.go hZ hP hK hD⟩ rfl rfl hl.1 rfl (lv_room (Nat.le_of_ble_eq_true rfl)) dX12_open_28 ⟨Nat.le_of_ble_eq_true rfl, Nat.le_of_ble_eq_true rfl⟩) hS (fun q _ h => hFc q h) hFc (fun r8 u9 t9 H1 locs ht hvm hw hB hz1 hk1 hS => ?_)
  obtain ⟨hP, hK1, hD1⟩ := hB
  rw [ht] at hP
  have hD := hD1.weaken (fun _ _ _ h => hFc _ h)
  generalize H1 = H at hP hS ⊢
  obtain rfl : r8 = p7.1 := hw
  refine lv_if_eq (tgt := 38) hx hb dX12_open_31 (by decide) (fun c9 => ?_) (fun c9 => ?_)
  ·
    replace hf := (if_pos c9).symm.trans hf
    exact j_X12_open_38 l dC dI Q N R hx hb hr hml hown hts hlocks hZ hA hK p7.2 _ _ _ hf hP hD hS (lv_sub hl [0] rfl)
  ·
    replace hf := (if_neg c9).symm.trans hf
    refine lv_aload_n hx hb dX12_open_34 rfl (lv_at hl 0 rfl) ?_
    obtain ⟨p10, hcp10, hf⟩ := hf_bind hf
    have hFc := r_free hD hS hA
    refine va_callv (va_runV (As := []) (rest := []) ⟨hx, hb, hml, hown, hts⟩ (c_X12_next l dC dI _ Q N p7.2 p10 hcp10) (cwV 0 hts hX12_open_X12_next_v345 rfl rfl rfl (by decide +kernel) ⟨Nat.le_of_ble_eq_true rfl, Nat.le_of_ble_eq_true rfl⟩) ⟨zPre.blind, va_recv hK hP (ci := 11) (q0 := 0) rfl rfl, zPre.go hZ hP hK hD⟩ rfl rfl hl.1 rfl (lv_room (Nat.le_of_ble_eq_true rfl)) dX12_open_35 ⟨Nat.le_of_ble_eq_true rfl, Nat.le_of_ble_eq_true rfl⟩) hS (fun q _ h => hFc q h) hFc (fun u9 t9 H1 locs ht hvm hw hB hz1 hk1 hS => ?_)
    obtain ⟨hP, hK1, hD1⟩ := hB
    rw [ht] at hP
    have hD := hD1.weaken (fun _ _ _ h => hFc _ h)
    generalize H1 = H at hP hS ⊢
    exact j_X12_open_38 l dC dI Q N R hx hb hr hml hown hts hlocks hZ hA hK p10 _ _ _ hf hP hD hS (lv_sub hl [0] rfl)
set_option maxHeartbeats 4000000 in
set_option maxRecDepth 100000 in
theorem c_X12_open (l : Launch) (dC : Nat → ClassId) (dI : Nat → Nat → Nat) (sz : Nat) (Q : RQ) (N : Nat) (σ : RS) (x1 : Int32) (R : Int32 × RS) (hf : f_X12_open N σ x1 = some R) : Met l yX12_open wzX12_open ({ frames := 4, cells := 0, slots := 0, locals := 240 }) (va_Pc [.ref Q.h0, .int x1] (zPre dC dI sz (rW Q σ) (rT Q))) (va_Qi (fun (r : Int32) (_ : Unit) => r = R.1) (fun (_ : Unit) (t : State) => zPost dC dI (va_A (rW Q σ) sz) (rW Q R.2) (rT Q) t) (va_A (rW Q σ) sz)) 0 0 (va_A (rW Q σ) sz) := by
  refine Met.ofW (cc := cX12_open) (maxL := 2) (ret := (some .boolean)) (by decide) rfl ?_
  intro p e s m args below meth c s₁ B hml hv
  obtain ⟨rfl, hsz, hZ, hP, hK, hD0⟩ := hv
  have hx := B.exec
  have hb := B.bytes
  have hr := B.returns
  have hts := atoms_spec (ws := wzX12_open) B.pre
  have hown : s.vm.findClass RX12 = some m.cls := findClass_of_methodNamed B.named
  have hlocks := B.notSynchronized
  subst hsz
  have hD := hD0.self (sz := s.heap.size)
  generalize hAe : va_A (rW Q σ) s.heap.size = A at hD ⊢
  have hA : ∀ q : Nat, s.heap.size ≤ q → A q := fun q h => by rw [← hAe]; exact Or.inr h
  have hS : va_S A s.heap s.heap [] := va_S.rf
  have hl := lv_entry ([.ref Q.h0, .int x1]) (n := 2) (Nat.le_of_ble_eq_true rfl)
  rw [lg_entry_eq]
  generalize (lg_sl ([.ref Q.h0, .int x1]) ++ List.replicate (2 - (lg_sl ([.ref Q.h0, .int x1])).length) Slot.unset).toArray = ls at hl ⊢
  have hl : lv_has ls 2 [(0, .ref Q.h0), (1, .int x1)] := hl
  unfold f_X12_open at hf
  refine lv_aload_n hx hb dX12_open_0 rfl (lv_at hl 0 rfl) ?_
  refine rG_15 (v := (σ.i 15)) hx hb hts i_X12_open_X12 hown hK hP (hts (.fieldLink RX12 291 "StatementRules2Model" "fault" "I") k_X12_open_fieldLink_RX12_291_SRModel_fault_I) dX12_open_1 rfl ?_
  refine lv_if_ne (tgt := 38) hx hb dX12_open_4 (by decide) (fun c1 => ?_) (fun c1 => ?_)
  ·
    replace hf := (if_neg c1).symm.trans hf
    exact j_X12_open_38 l dC dI Q N R hx hb hr hml hown hts hlocks hZ hA hK σ _ _ _ hf hP hD hS (lv_sub hl [0] rfl)
  ·
    replace hf := (if_pos c1).symm.trans hf
    refine lv_aload_n hx hb dX12_open_7 rfl (lv_at hl 0 rfl) ?_
    refine lv_aload_n hx hb dX12_open_8 rfl (lv_at hl 0 rfl) ?_
    refine rG_10 (v := (σ.i 10)) hx hb hts i_X12_open_X12 hown hK hP (hts (.fieldLink RX12 307 "StatementRules2Model" "tok" "I") k_X12_open_fieldLink_RX12_307_SRModel_tok_I) dX12_open_9 rfl ?_
    refine lv_iload_n hx hb dX12_open_12 rfl (lv_at hl 1 rfl) ?_
    refine lv_icmp_ne (tgt := 20) hx hb dX12_open_13 (by decide) (fun c3 => ?_) (fun c3 => ?_)
    ·
      replace hf := (if_neg c3).symm.trans hf
      refine lv_iconst (v := 0) hx hb dX12_open_20 (by decide) ?_
      obtain ⟨p4, hcp4, hf⟩ := hf_bind hf
      have hFc := r_free hD hS hA
      refine va_calli (va_runV (As := [.int 0]) (rest := []) ⟨hx, hb, hml, hown, hts⟩ (c_X12_can l dC dI _ Q N σ 0 p4 hcp4) (cwV 1 hts hX12_open_X12_can_v341 rfl rfl rfl (by decide +kernel) ⟨Nat.le_of_ble_eq_true rfl, Nat.le_of_ble_eq_true rfl⟩) ⟨zPre.blind, va_recv hK hP (ci := 11) (q0 := 0) rfl rfl, zPre.go hZ hP hK hD⟩ rfl rfl hl.1 rfl (lv_room (Nat.le_of_ble_eq_true rfl)) dX12_open_21 ⟨Nat.le_of_ble_eq_true rfl, Nat.le_of_ble_eq_true rfl⟩) hS (fun q _ h => hFc q h) hFc (fun r5 u9 t9 H1 locs ht hvm hw hB hz1 hk1 hS => ?_)
      obtain ⟨hP, hK1, hD1⟩ := hB
      rw [ht] at hP
      have hD := hD1.weaken (fun _ _ _ h => hFc _ h)
      generalize H1 = H at hP hS ⊢
      obtain rfl : r5 = p4.1 := hw
      refine lv_if_eq (tgt := 38) hx hb dX12_open_24 (by decide) (fun c6 => ?_) (fun c6 => ?_)
      ·
        replace hf := (if_pos c6).symm.trans hf
        exact j_X12_open_38 l dC dI Q N R hx hb hr hml hown hts hlocks hZ hA hK p4.2 _ _ _ hf hP hD hS (lv_sub hl [0] rfl)
      ·
        replace hf := (if_neg c6).symm.trans hf
        exact j_X12_open_27 l dC dI Q N R hx hb hr hml hown hts hlocks hZ hA hK p4.2 _ _ _ hf hP hD hS (lv_sub hl [0] rfl)
    ·
      replace hf := (if_pos c3).symm.trans hf
      refine lv_iconst (v := 1) hx hb dX12_open_16 (by decide) ?_
      refine lv_goto (tgt := 21) hx hb dX12_open_17 (by decide) ?_
      obtain ⟨p12, hcp12, hf⟩ := hf_bind hf
      have hFc := r_free hD hS hA
      refine va_calli (va_runV (As := [.int 1]) (rest := []) ⟨hx, hb, hml, hown, hts⟩ (c_X12_can l dC dI _ Q N σ 1 p12 hcp12) (cwV 1 hts hX12_open_X12_can_v341 rfl rfl rfl (by decide +kernel) ⟨Nat.le_of_ble_eq_true rfl, Nat.le_of_ble_eq_true rfl⟩) ⟨zPre.blind, va_recv hK hP (ci := 11) (q0 := 0) rfl rfl, zPre.go hZ hP hK hD⟩ rfl rfl hl.1 rfl (lv_room (Nat.le_of_ble_eq_true rfl)) dX12_open_21 ⟨Nat.le_of_ble_eq_true rfl, Nat.le_of_ble_eq_true rfl⟩) hS (fun q _ h => hFc q h) hFc (fun r13 u9 t9 H1 locs ht hvm hw hB hz1 hk1 hS => ?_)
      obtain ⟨hP, hK1, hD1⟩ := hB
      rw [ht] at hP
      have hD := hD1.weaken (fun _ _ _ h => hFc _ h)
      generalize H1 = H at hP hS ⊢
      obtain rfl : r13 = p12.1 := hw
      refine lv_if_eq (tgt := 38) hx hb dX12_open_24 (by decide) (fun c14 => ?_) (fun c14 => ?_)
      ·
        replace hf := (if_pos c14).symm.trans hf
        exact j_X12_open_38 l dC dI Q N R hx hb hr hml hown hts hlocks hZ hA hK p12.2 _ _ _ hf hP hD hS (lv_sub hl [0] rfl)
      ·
        replace hf := (if_neg c14).symm.trans hf
        exact j_X12_open_27 l dC dI Q N R hx hb hr hml hown hts hlocks hZ hA hK p12.2 _ _ _ hf hP hD hS (lv_sub hl [0] rfl)
theorem k_X12_shut_fieldLink_RX12_291_SRModel_fault_I : Cond.fieldLink RX12 291 "StatementRules2Model" "fault" "I" ∈ wzX12_shut := List.mem_cons_of_mem _ (List.mem_append_left _ (List.mem_of_getElem? (i := 0) rfl))
theorem i_X12_shut_X12 : ∀ w ∈ wsX120, w ∈ wzX12_shut := fun _ h => List.mem_cons_of_mem _ (List.mem_append_right _ (List.mem_append_left _ (h)))
theorem k_X12_shut_fieldLink_RX12_348_SRModel_opened_I : Cond.fieldLink RX12 348 "StatementRules2Model" "opened" "I" ∈ wzX12_shut := List.mem_cons_of_mem _ (List.mem_append_left _ (List.mem_of_getElem? (i := 1) rfl))
set_option maxHeartbeats 4000000 in
set_option maxRecDepth 100000 in
theorem j_X12_shut_18 {p : Program} {e : Env} {s : State} {m : MethodId} {args : Array Value} {below : List Frame} {meth : Method} {c : Code} {A : Nat → Prop} (l : Launch) (dC : Nat → ClassId) (dI : Nat → Nat → Nat) (Q : RQ) (N : Nat) (R : Int32 × RS) (hx : p.tables.exec = Jvm.exec) (hb : c.code = cX12_shut) (hr : meth.sig.returnType = (some .boolean)) (hml : c.maxLocals = 2) (hown : s.vm.findClass RX12 = some m.cls) (hts : ∀ w ∈ wzX12_shut, w.before args s = true) (hlocks : meth.locks = false) (hZ : zAMB s) (hA : ∀ q : Nat, s.heap.size ≤ q → A q) (hK : va_K (dC, dI) vwCl (rT Q) s) : ∀ (σ : RS) (H : Heap) (locs : List Loc) (ls : Array Slot), f_X12_shut_18 N σ = some R → va_P (dC, dI) vwCl (rW Q σ) H → va_D A (rW Q σ) → va_S A s.heap H locs → lv_has ls 2 [(0, .ref Q.h0)] → W p l e ({ frames := 5, cells := 0, slots := 0, locals := 300 }) s m args below meth c H locs 0 0 (MQ below (va_Qi (fun (r : Int32) (_ : Unit) => r = R.1) (fun (_ : Unit) (t : State) => zPost dC dI A (rW Q R.2) (rT Q) t) A) args s 0 0 A) (F0 m 18 ls []) := by
  intro σ  H locs ls hf hP hD hS hl
  unfold f_X12_shut_18 at hf
  refine lv_aload_n hx hb dX12_shut_18 rfl (lv_at hl 0 rfl) ?_
  refine rG_15 (v := (σ.i 15)) hx hb hts i_X12_shut_X12 hown hK hP (hts (.fieldLink RX12 291 "StatementRules2Model" "fault" "I") k_X12_shut_fieldLink_RX12_291_SRModel_fault_I) dX12_shut_19 rfl ?_
  refine lv_if_ne (tgt := 29) hx hb dX12_shut_22 (by decide) (fun c4 => ?_) (fun c4 => ?_)
  ·
    replace hf := (if_neg c4).symm.trans hf
    refine lv_iconst (v := 0) hx hb dX12_shut_29 (by decide) ?_
    obtain rfl := Option.some.inj hf
    exact W.zret (v := 0) hx hb hr (rfl) (fun t ht hW => ⟨⟨0, (), rfl, rfl, by rw [ht]; exact hP, va_K.moved hW.alike hK, hD⟩, hS.F ht⟩) hS.2.2 dX12_shut_30
  ·
    replace hf := (if_pos c4).symm.trans hf
    refine lv_iconst (v := 1) hx hb dX12_shut_25 (by decide) ?_
    refine lv_goto (tgt := 30) hx hb dX12_shut_26 (by decide) ?_
    obtain rfl := Option.some.inj hf
    exact W.zret (v := 1) hx hb hr (rfl) (fun t ht hW => ⟨⟨1, (), rfl, rfl, by rw [ht]; exact hP, va_K.moved hW.alike hK, hD⟩, hS.F ht⟩) hS.2.2 dX12_shut_30
set_option maxHeartbeats 4000000 in
set_option maxRecDepth 100000 in
theorem c_X12_shut (l : Launch) (dC : Nat → ClassId) (dI : Nat → Nat → Nat) (sz : Nat) (Q : RQ) (N : Nat) (σ : RS) (x1 : Int32) (R : Int32 × RS) (hf : f_X12_shut N σ x1 = some R) : Met l yX12_shut wzX12_shut ({ frames := 5, cells := 0, slots := 0, locals := 300 }) (va_Pc [.ref Q.h0, .int x1] (zPre dC dI sz (rW Q σ) (rT Q))) (va_Qi (fun (r : Int32) (_ : Unit) => r = R.1) (fun (_ : Unit) (t : State) => zPost dC dI (va_A (rW Q σ) sz) (rW Q R.2) (rT Q) t) (va_A (rW Q σ) sz)) 0 0 (va_A (rW Q σ) sz) := by
  refine Met.ofW (cc := cX12_shut) (maxL := 2) (ret := (some .boolean)) (by decide) rfl ?_
  intro p e s m args below meth c s₁ B hml hv
  obtain ⟨rfl, hsz, hZ, hP, hK, hD0⟩ := hv
  have hx := B.exec
  have hb := B.bytes
  have hr := B.returns
  have hts := atoms_spec (ws := wzX12_shut) B.pre
  have hown : s.vm.findClass RX12 = some m.cls := findClass_of_methodNamed B.named
  have hlocks := B.notSynchronized
  subst hsz
  have hD := hD0.self (sz := s.heap.size)
  generalize hAe : va_A (rW Q σ) s.heap.size = A at hD ⊢
  have hA : ∀ q : Nat, s.heap.size ≤ q → A q := fun q h => by rw [← hAe]; exact Or.inr h
  have hS : va_S A s.heap s.heap [] := va_S.rf
  have hl := lv_entry ([.ref Q.h0, .int x1]) (n := 2) (Nat.le_of_ble_eq_true rfl)
  rw [lg_entry_eq]
  generalize (lg_sl ([.ref Q.h0, .int x1]) ++ List.replicate (2 - (lg_sl ([.ref Q.h0, .int x1])).length) Slot.unset).toArray = ls at hl ⊢
  have hl : lv_has ls 2 [(0, .ref Q.h0), (1, .int x1)] := hl
  unfold f_X12_shut at hf
  refine lv_aload_n hx hb dX12_shut_0 rfl (lv_at hl 0 rfl) ?_
  refine lv_iload_n hx hb dX12_shut_1 rfl (lv_at hl 1 rfl) ?_
  obtain ⟨p1, hcp1, hf⟩ := hf_bind hf
  have hFc := r_free hD hS hA
  refine va_calli (va_runV (As := [.int x1]) (rest := []) ⟨hx, hb, hml, hown, hts⟩ (c_X12_need l dC dI _ Q N σ x1 p1 hcp1) (cwV 1 hts hX12_shut_X12_need_v355 rfl rfl rfl (by decide +kernel) ⟨Nat.le_of_ble_eq_true rfl, Nat.le_of_ble_eq_true rfl⟩) ⟨zPre.blind, va_recv hK hP (ci := 11) (q0 := 0) rfl rfl, zPre.go hZ hP hK hD⟩ rfl rfl hl.1 rfl (lv_room (Nat.le_of_ble_eq_true rfl)) dX12_shut_2 ⟨Nat.le_of_ble_eq_true rfl, Nat.le_of_ble_eq_true rfl⟩) hS (fun q _ h => hFc q h) hFc (fun r2 u9 t9 H1 locs ht hvm hw hB hz1 hk1 hS => ?_)
  obtain ⟨hP, hK1, hD1⟩ := hB
  rw [ht] at hP
  have hD := hD1.weaken (fun _ _ _ h => hFc _ h)
  generalize H1 = H at hP hS ⊢
  obtain rfl : r2 = p1.1 := hw
  refine lv_if_eq (tgt := 18) hx hb dX12_shut_5 (by decide) (fun c3 => ?_) (fun c3 => ?_)
  ·
    replace hf := (if_pos c3).symm.trans hf
    exact j_X12_shut_18 l dC dI Q N R hx hb hr hml hown hts hlocks hZ hA hK p1.2 _ _ _ hf hP hD hS (lv_sub hl [0] rfl)
  ·
    replace hf := (if_neg c3).symm.trans hf
    refine lv_aload_n hx hb dX12_shut_8 rfl (lv_at hl 0 rfl) ?_
    refine lv_dup hx hb dX12_shut_9 rfl ?_
    refine rG_19 (v := (p1.2.i 19)) hx hb hts i_X12_shut_X12 hown hK hP (hts (.fieldLink RX12 348 "StatementRules2Model" "opened" "I") k_X12_shut_fieldLink_RX12_348_SRModel_opened_I) dX12_shut_10 rfl ?_
    refine lv_iconst (v := 1) hx hb dX12_shut_13 (by decide) ?_
    refine lv_isub hx hb dX12_shut_14 ?_
    refine rP_19 hx hb hts i_X12_shut_X12 hown hK hP hD hS (hts (.fieldLink RX12 348 "StatementRules2Model" "opened" "I") k_X12_shut_fieldLink_RX12_348_SRModel_opened_I) dX12_shut_15 (fun H locs hP hD hS => ?_)
    exact j_X12_shut_18 l dC dI Q N R hx hb hr hml hown hts hlocks hZ hA hK (RS.setI p1.2 19 ((p1.2.i 19) - 1)) _ _ _ hf hP hD hS (lv_sub hl [0] rfl)
theorem k_X12_emit_fieldLink_RX12_358_SRModel_codes_I : Cond.fieldLink RX12 358 "StatementRules2Model" "codes" "I" ∈ wzX12_emit := List.mem_cons_of_mem _ (List.mem_append_left _ (List.mem_of_getElem? (i := 0) rfl))
theorem i_X12_emit_X12 : ∀ w ∈ wsX120, w ∈ wzX12_emit := fun _ h => List.mem_cons_of_mem _ (List.mem_append_right _ (List.mem_append_left _ (h)))
theorem k_X12_emit_fieldLink_RX12_84_SRModel_op_I : Cond.fieldLink RX12 84 "StatementRules2Model" "op" "[I" ∈ wzX12_emit := List.mem_cons_of_mem _ (List.mem_append_left _ (List.mem_of_getElem? (i := 1) rfl))
theorem k_X12_emit_fieldLink_RX12_87_SRModel_ix_I : Cond.fieldLink RX12 87 "StatementRules2Model" "ix" "[I" ∈ wzX12_emit := List.mem_cons_of_mem _ (List.mem_append_left _ (List.mem_of_getElem? (i := 2) rfl))
theorem k_X12_emit_fieldLink_RX12_90_SRModel_iy_I : Cond.fieldLink RX12 90 "StatementRules2Model" "iy" "[I" ∈ wzX12_emit := List.mem_cons_of_mem _ (List.mem_append_left _ (List.mem_of_getElem? (i := 3) rfl))
set_option maxHeartbeats 4000000 in
set_option maxRecDepth 100000 in
theorem j_X12_emit_21 {p : Program} {e : Env} {s : State} {m : MethodId} {args : Array Value} {below : List Frame} {meth : Method} {c : Code} {A : Nat → Prop} (l : Launch) (dC : Nat → ClassId) (dI : Nat → Nat → Nat) (Q : RQ) (N : Nat) (R : Int32 × RS) (hx : p.tables.exec = Jvm.exec) (hb : c.code = cX12_emit) (hr : meth.sig.returnType = (some .int)) (hml : c.maxLocals = 4) (hown : s.vm.findClass RX12 = some m.cls) (hts : ∀ w ∈ wzX12_emit, w.before args s = true) (hlocks : meth.locks = false) (hZ : zAMB s) (hA : ∀ q : Nat, s.heap.size ≤ q → A q) (hK : va_K (dC, dI) vwCl (rT Q) s) : ∀ (σ : RS) (x1 : Int32) (x2 : Int32) (x3 : Int32) (H : Heap) (locs : List Loc) (ls : Array Slot), f_X12_emit_21 N σ x1 x2 x3 = some R → va_P (dC, dI) vwCl (rW Q σ) H → va_D A (rW Q σ) → va_S A s.heap H locs → lv_has ls 4 [(0, .ref Q.h0), (1, .int x1), (2, .int x2), (3, .int x3)] → W p l e ({ frames := 1, cells := 0, slots := 0, locals := 60 }) s m args below meth c H locs 0 0 (MQ below (va_Qi (fun (r : Int32) (_ : Unit) => r = R.1) (fun (_ : Unit) (t : State) => zPost dC dI A (rW Q R.2) (rT Q) t) A) args s 0 0 A) (F0 m 21 ls []) := by
  intro σ x1 x2 x3 H locs ls hf hP hD hS hl
  unfold f_X12_emit_21 at hf
  refine lv_aload_n hx hb dX12_emit_21 rfl (lv_at hl 0 rfl) ?_
  refine rG_21 hx hb hts i_X12_emit_X12 hown hK hP (hts (.fieldLink RX12 84 "StatementRules2Model" "op" "[I") k_X12_emit_fieldLink_RX12_84_SRModel_op_I) dX12_emit_22 ?_
  refine lv_iload_n hx hb dX12_emit_25 rfl (lv_at hl 3 rfl) ?_
  refine lv_iload_n hx hb dX12_emit_26 rfl (lv_at hl 1 rfl) ?_
  obtain ⟨b2, hf⟩ := hf_ite hf
  refine rS_21 hx hb hK hP hD hS b2 dX12_emit_27 (fun H locs hP hD hS => ?_)
  refine lv_aload_n hx hb dX12_emit_28 rfl (lv_at hl 0 rfl) ?_
  refine rG_22 hx hb hts i_X12_emit_X12 hown hK hP (hts (.fieldLink RX12 87 "StatementRules2Model" "ix" "[I") k_X12_emit_fieldLink_RX12_87_SRModel_ix_I) dX12_emit_29 ?_
  refine lv_iload_n hx hb dX12_emit_32 rfl (lv_at hl 3 rfl) ?_
  refine lv_iload_n hx hb dX12_emit_33 rfl (lv_at hl 2 rfl) ?_
  refine rS_22 hx hb hK hP hD hS b2 dX12_emit_34 (fun H locs hP hD hS => ?_)
  refine lv_aload_n hx hb dX12_emit_35 rfl (lv_at hl 0 rfl) ?_
  refine rG_23 hx hb hts i_X12_emit_X12 hown hK hP (hts (.fieldLink RX12 90 "StatementRules2Model" "iy" "[I") k_X12_emit_fieldLink_RX12_90_SRModel_iy_I) dX12_emit_36 ?_
  refine lv_iload_n hx hb dX12_emit_39 rfl (lv_at hl 3 rfl) ?_
  refine lv_iconst (v := 0) hx hb dX12_emit_40 (by decide) ?_
  refine rS_23 hx hb hK hP hD hS b2 dX12_emit_41 (fun H locs hP hD hS => ?_)
  refine lv_aload_n hx hb dX12_emit_42 rfl (lv_at hl 0 rfl) ?_
  refine lv_iload_n hx hb dX12_emit_43 rfl (lv_at hl 3 rfl) ?_
  refine lv_iconst (v := 1) hx hb dX12_emit_44 (by decide) ?_
  refine lv_iadd hx hb dX12_emit_45 ?_
  refine rP_20 hx hb hts i_X12_emit_X12 hown hK hP hD hS (hts (.fieldLink RX12 358 "StatementRules2Model" "codes" "I") k_X12_emit_fieldLink_RX12_358_SRModel_codes_I) dX12_emit_46 (fun H locs hP hD hS => ?_)
  refine lv_iload_n hx hb dX12_emit_49 rfl (lv_at hl 3 rfl) ?_
  obtain rfl := Option.some.inj hf
  exact W.iret (v := x3) hx hb hr (fun t ht hW => ⟨⟨x3, (), rfl, rfl, by rw [ht]; exact hP, va_K.moved hW.alike hK, hD⟩, hS.F ht⟩) hS.2.2 dX12_emit_50
set_option maxHeartbeats 4000000 in
set_option maxRecDepth 100000 in
theorem c_X12_emit (l : Launch) (dC : Nat → ClassId) (dI : Nat → Nat → Nat) (sz : Nat) (Q : RQ) (N : Nat) (σ : RS) (x1 : Int32) (x2 : Int32) (R : Int32 × RS) (hf : f_X12_emit N σ x1 x2 = some R) : Met l yX12_emit wzX12_emit ({ frames := 1, cells := 0, slots := 0, locals := 60 }) (va_Pc [.ref Q.h0, .int x1, .int x2] (zPre dC dI sz (rW Q σ) (rT Q))) (va_Qi (fun (r : Int32) (_ : Unit) => r = R.1) (fun (_ : Unit) (t : State) => zPost dC dI (va_A (rW Q σ) sz) (rW Q R.2) (rT Q) t) (va_A (rW Q σ) sz)) 0 0 (va_A (rW Q σ) sz) := by
  refine Met.ofW (cc := cX12_emit) (maxL := 4) (ret := (some .int)) (by decide) rfl ?_
  intro p e s m args below meth c s₁ B hml hv
  obtain ⟨rfl, hsz, hZ, hP, hK, hD0⟩ := hv
  have hx := B.exec
  have hb := B.bytes
  have hr := B.returns
  have hts := atoms_spec (ws := wzX12_emit) B.pre
  have hown : s.vm.findClass RX12 = some m.cls := findClass_of_methodNamed B.named
  have hlocks := B.notSynchronized
  subst hsz
  have hD := hD0.self (sz := s.heap.size)
  generalize hAe : va_A (rW Q σ) s.heap.size = A at hD ⊢
  have hA : ∀ q : Nat, s.heap.size ≤ q → A q := fun q h => by rw [← hAe]; exact Or.inr h
  have hS : va_S A s.heap s.heap [] := va_S.rf
  have hl := lv_entry ([.ref Q.h0, .int x1, .int x2]) (n := 4) (Nat.le_of_ble_eq_true rfl)
  rw [lg_entry_eq]
  generalize (lg_sl ([.ref Q.h0, .int x1, .int x2]) ++ List.replicate (4 - (lg_sl ([.ref Q.h0, .int x1, .int x2])).length) Slot.unset).toArray = ls at hl ⊢
  have hl : lv_has ls 4 [(0, .ref Q.h0), (1, .int x1), (2, .int x2)] := hl
  unfold f_X12_emit at hf
  refine lv_aload_n hx hb dX12_emit_0 rfl (lv_at hl 0 rfl) ?_
  refine rG_20 (v := (σ.i 20)) hx hb hts i_X12_emit_X12 hown hK hP (hts (.fieldLink RX12 358 "StatementRules2Model" "codes" "I") k_X12_emit_fieldLink_RX12_358_SRModel_codes_I) dX12_emit_1 rfl ?_
  refine lv_sipush (v := 3000) hx hb dX12_emit_4 (by decide) ?_
  refine lv_icmp_ge (tgt := 17) hx hb dX12_emit_7 (by decide) (fun c1 => ?_) (fun c1 => ?_)
  ·
    replace hf := (if_pos c1).symm.trans hf
    refine lv_sipush (v := 2999) hx hb dX12_emit_17 (by decide) ?_
    refine lv_istore_n (lv' := [(3, .int 2999), (0, .ref Q.h0), (1, .int x1), (2, .int x2)]) hx hb dX12_emit_20 rfl hl (by decide) rfl (fun ls hl => ?_)
    exact j_X12_emit_21 l dC dI Q N R hx hb hr hml hown hts hlocks hZ hA hK σ x1 x2 2999 _ _ _ hf hP hD hS (lv_sub hl [1, 2, 3, 0] rfl)
  ·
    replace hf := (if_neg c1).symm.trans hf
    refine lv_aload_n hx hb dX12_emit_10 rfl (lv_at hl 0 rfl) ?_
    refine rG_20 (v := (σ.i 20)) hx hb hts i_X12_emit_X12 hown hK hP (hts (.fieldLink RX12 358 "StatementRules2Model" "codes" "I") k_X12_emit_fieldLink_RX12_358_SRModel_codes_I) dX12_emit_11 rfl ?_
    refine lv_goto (tgt := 20) hx hb dX12_emit_14 (by decide) ?_
    refine lv_istore_n (lv' := [(3, .int (σ.i 20)), (0, .ref Q.h0), (1, .int x1), (2, .int x2)]) hx hb dX12_emit_20 rfl hl (by decide) rfl (fun ls hl => ?_)
    exact j_X12_emit_21 l dC dI Q N R hx hb hr hml hown hts hlocks hZ hA hK σ x1 x2 (σ.i 20) _ _ _ hf hP hD hS (lv_sub hl [1, 2, 3, 0] rfl)
theorem k_X12_seenAs_fieldLink_RX12_361_SRModel_seen_I : Cond.fieldLink RX12 361 "StatementRules2Model" "seen" "I" ∈ wzX12_seenAs := List.mem_cons_of_mem _ (List.mem_append_left _ (List.mem_of_getElem? (i := 0) rfl))
theorem i_X12_seenAs_X12 : ∀ w ∈ wsX120, w ∈ wzX12_seenAs := fun _ h => List.mem_cons_of_mem _ (List.mem_append_right _ (List.mem_append_left _ (h)))
theorem k_X12_seenAs_fieldLink_RX12_126_SRModel_seenName_J : Cond.fieldLink RX12 126 "StatementRules2Model" "seenName" "[J" ∈ wzX12_seenAs := List.mem_cons_of_mem _ (List.mem_append_left _ (List.mem_of_getElem? (i := 1) rfl))
set_option maxHeartbeats 4000000 in
set_option maxRecDepth 100000 in
theorem j_X12_seenAs_7 {p : Program} {e : Env} {s : State} {m : MethodId} {args : Array Value} {below : List Frame} {meth : Method} {c : Code} {A : Nat → Prop} (l : Launch) (dC : Nat → ClassId) (dI : Nat → Nat → Nat) (Q : RQ) (N : Nat) (R : Int32 × RS) (hx : p.tables.exec = Jvm.exec) (hb : c.code = cX12_seenAs) (hr : meth.sig.returnType = (some .int)) (hml : c.maxLocals = 4) (hown : s.vm.findClass RX12 = some m.cls) (hts : ∀ w ∈ wzX12_seenAs, w.before args s = true) (hlocks : meth.locks = false) (hZ : zAMB s) (hA : ∀ q : Nat, s.heap.size ≤ q → A q) (hK : va_K (dC, dI) vwCl (rT Q) s) : ∀ (n9 : Nat), ∀ (σ : RS) (x1 : Int64) (x3 : Int32) (H : Heap) (locs : List Loc) (ls : Array Slot), f_X12_seenAs_7 N n9 σ x1 x3 = some R → va_P (dC, dI) vwCl (rW Q σ) H → va_D A (rW Q σ) → va_S A s.heap H locs → lv_has ls 4 [(0, .ref Q.h0), (1, .long x1), (3, .int x3)] → W p l e ({ frames := 1, cells := 0, slots := 0, locals := 60 }) s m args below meth c H locs 0 0 (MQ below (va_Qi (fun (r : Int32) (_ : Unit) => r = R.1) (fun (_ : Unit) (t : State) => zPost dC dI A (rW Q R.2) (rT Q) t) A) args s 0 0 A) (F0 m 7 ls []) := by
  intro n9
  induction n9 with
  | zero => intro σ x1 x3 H locs ls hf; exact absurd hf (by intro h9; cases h9)
  | succ n9 ih =>
    intro σ x1 x3 H locs ls hf hP hD hS hl
    replace hf : b_X12_seenAs_7 N (f_X12_seenAs_7 N n9) σ x1 x3 = some R := hf
    unfold b_X12_seenAs_7 at hf
    refine lv_iload_n hx hb dX12_seenAs_7 rfl (lv_at hl 2 rfl) ?_
    refine lv_if_lt (tgt := 30) hx hb dX12_seenAs_8 (by decide) (fun c1 => ?_) (fun c1 => ?_)
    ·
      replace hf := (if_pos c1).symm.trans hf
      refine lv_iconst (v := (-1)) hx hb dX12_seenAs_30 (by decide) ?_
      obtain rfl := Option.some.inj hf
      exact W.iret (v := (-1)) hx hb hr (fun t ht hW => ⟨⟨(-1), (), rfl, rfl, by rw [ht]; exact hP, va_K.moved hW.alike hK, hD⟩, hS.F ht⟩) hS.2.2 dX12_seenAs_31
    ·
      replace hf := (if_neg c1).symm.trans hf
      refine lv_aload_n hx hb dX12_seenAs_11 rfl (lv_at hl 0 rfl) ?_
      refine rG_39 hx hb hts i_X12_seenAs_X12 hown hK hP (hts (.fieldLink RX12 126 "StatementRules2Model" "seenName" "[J") k_X12_seenAs_fieldLink_RX12_126_SRModel_seenName_J) dX12_seenAs_12 ?_
      refine lv_iload_n hx hb dX12_seenAs_15 rfl (lv_at hl 2 rfl) ?_
      obtain ⟨b2, hf⟩ := hf_ite hf
      refine rL_39 (v := (σ.b 39 ((x3 : Int32).toNatClampNeg))) hx hb hK hP b2 dX12_seenAs_16 rfl ?_
      refine lv_lload_n hx hb dX12_seenAs_17 rfl (lv_at hl 1 rfl) ?_
      refine W.lcmp hx hb dX12_seenAs_18 ?_
      refine lv_if_ne (tgt := 24) hx hb dX12_seenAs_19 (by decide) (fun c3 => ?_) (fun c3 => ?_)
      ·
        replace hf := (if_neg c3).symm.trans hf
        refine lv_iinc (v := (x3 + (-1))) (lv' := [(3, .int (x3 + (-1))), (0, .ref Q.h0), (1, .long x1)]) hx hb dX12_seenAs_24 hl (k := 2) rfl rfl (by decide) rfl (fun ls hl => ?_)
        refine lv_goto (tgt := 7) hx hb dX12_seenAs_27 (by decide) ?_
        exact ih σ x1 (x3 + (-1)) _ _ _ hf hP hD hS (lv_sub hl [1, 2, 0] rfl)
      ·
        replace hf := (if_pos c3).symm.trans hf
        refine lv_iload_n hx hb dX12_seenAs_22 rfl (lv_at hl 2 rfl) ?_
        obtain rfl := Option.some.inj hf
        exact W.iret (v := x3) hx hb hr (fun t ht hW => ⟨⟨x3, (), rfl, rfl, by rw [ht]; exact hP, va_K.moved hW.alike hK, hD⟩, hS.F ht⟩) hS.2.2 dX12_seenAs_23
set_option maxHeartbeats 4000000 in
set_option maxRecDepth 100000 in
theorem c_X12_seenAs (l : Launch) (dC : Nat → ClassId) (dI : Nat → Nat → Nat) (sz : Nat) (Q : RQ) (N : Nat) (σ : RS) (x1 : Int64) (R : Int32 × RS) (hf : f_X12_seenAs N σ x1 = some R) : Met l yX12_seenAs wzX12_seenAs ({ frames := 1, cells := 0, slots := 0, locals := 60 }) (va_Pc [.ref Q.h0, .long x1] (zPre dC dI sz (rW Q σ) (rT Q))) (va_Qi (fun (r : Int32) (_ : Unit) => r = R.1) (fun (_ : Unit) (t : State) => zPost dC dI (va_A (rW Q σ) sz) (rW Q R.2) (rT Q) t) (va_A (rW Q σ) sz)) 0 0 (va_A (rW Q σ) sz) := by
  refine Met.ofW (cc := cX12_seenAs) (maxL := 4) (ret := (some .int)) (by decide) rfl ?_
  intro p e s m args below meth c s₁ B hml hv
  obtain ⟨rfl, hsz, hZ, hP, hK, hD0⟩ := hv
  have hx := B.exec
  have hb := B.bytes
  have hr := B.returns
  have hts := atoms_spec (ws := wzX12_seenAs) B.pre
  have hown : s.vm.findClass RX12 = some m.cls := findClass_of_methodNamed B.named
  have hlocks := B.notSynchronized
  subst hsz
  have hD := hD0.self (sz := s.heap.size)
  generalize hAe : va_A (rW Q σ) s.heap.size = A at hD ⊢
  have hA : ∀ q : Nat, s.heap.size ≤ q → A q := fun q h => by rw [← hAe]; exact Or.inr h
  have hS : va_S A s.heap s.heap [] := va_S.rf
  have hl := lv_entry ([.ref Q.h0, .long x1]) (n := 4) (Nat.le_of_ble_eq_true rfl)
  rw [lg_entry_eq]
  generalize (lg_sl ([.ref Q.h0, .long x1]) ++ List.replicate (4 - (lg_sl ([.ref Q.h0, .long x1])).length) Slot.unset).toArray = ls at hl ⊢
  have hl : lv_has ls 4 [(0, .ref Q.h0), (1, .long x1)] := hl
  unfold f_X12_seenAs at hf
  refine lv_aload_n hx hb dX12_seenAs_0 rfl (lv_at hl 0 rfl) ?_
  refine rG_38 (v := (σ.i 38)) hx hb hts i_X12_seenAs_X12 hown hK hP (hts (.fieldLink RX12 361 "StatementRules2Model" "seen" "I") k_X12_seenAs_fieldLink_RX12_361_SRModel_seen_I) dX12_seenAs_1 rfl ?_
  refine lv_iconst (v := 1) hx hb dX12_seenAs_4 (by decide) ?_
  refine lv_isub hx hb dX12_seenAs_5 ?_
  refine lv_istore_n (lv' := [(3, .int ((σ.i 38) - 1)), (0, .ref Q.h0), (1, .long x1)]) hx hb dX12_seenAs_6 rfl hl (by decide) rfl (fun ls hl => ?_)
  exact j_X12_seenAs_7 l dC dI Q N R hx hb hr hml hown hts hlocks hZ hA hK N σ x1 ((σ.i 38) - 1) _ _ _ hf hP hD hS (lv_sub hl [1, 2, 0] rfl)
theorem k_X12_see_fieldLink_RX12_126_SRModel_seenName_J : Cond.fieldLink RX12 126 "StatementRules2Model" "seenName" "[J" ∈ wzX12_see := List.mem_cons_of_mem _ (List.mem_append_left _ (List.mem_of_getElem? (i := 0) rfl))
theorem i_X12_see_X12 : ∀ w ∈ wsX120, w ∈ wzX12_see := fun _ h => List.mem_cons_of_mem _ (List.mem_append_right _ (List.mem_append_left _ (h)))
theorem k_X12_see_fieldLink_RX12_361_SRModel_seen_I : Cond.fieldLink RX12 361 "StatementRules2Model" "seen" "I" ∈ wzX12_see := List.mem_cons_of_mem _ (List.mem_append_left _ (List.mem_of_getElem? (i := 1) rfl))
theorem k_X12_see_fieldLink_RX12_129_SRModel_seenSlot_I : Cond.fieldLink RX12 129 "StatementRules2Model" "seenSlot" "[I" ∈ wzX12_see := List.mem_cons_of_mem _ (List.mem_append_left _ (List.mem_of_getElem? (i := 2) rfl))
theorem k_X12_see_fieldLink_RX12_364_SRModel_slots_I : Cond.fieldLink RX12 364 "StatementRules2Model" "slots" "I" ∈ wzX12_see := List.mem_cons_of_mem _ (List.mem_append_left _ (List.mem_of_getElem? (i := 3) rfl))
theorem k_X12_see_fieldLink_RX12_132_SRModel_seenCaught_Z : Cond.fieldLink RX12 132 "StatementRules2Model" "seenCaught" "[Z" ∈ wzX12_see := List.mem_cons_of_mem _ (List.mem_append_left _ (List.mem_of_getElem? (i := 4) rfl))
set_option maxHeartbeats 4000000 in
set_option maxRecDepth 100000 in
theorem c_X12_see (l : Launch) (dC : Nat → ClassId) (dI : Nat → Nat → Nat) (sz : Nat) (Q : RQ) (N : Nat) (σ : RS) (x1 : Int64) (x3 : Int32) (R : Int32 × RS) (hf : f_X12_see N σ x1 x3 = some R) : Met l yX12_see wzX12_see ({ frames := 1, cells := 0, slots := 0, locals := 60 }) (va_Pc [.ref Q.h0, .long x1, .int x3] (zPre dC dI sz (rW Q σ) (rT Q))) (va_Qi (fun (r : Int32) (_ : Unit) => r = R.1) (fun (_ : Unit) (t : State) => zPost dC dI (va_A (rW Q σ) sz) (rW Q R.2) (rT Q) t) (va_A (rW Q σ) sz)) 0 0 (va_A (rW Q σ) sz) := by
  refine Met.ofW (cc := cX12_see) (maxL := 4) (ret := (some .int)) (by decide) rfl ?_
  intro p e s m args below meth c s₁ B hml hv
  obtain ⟨rfl, hsz, hZ, hP, hK, hD0⟩ := hv
  have hx := B.exec
  have hb := B.bytes
  have hr := B.returns
  have hts := atoms_spec (ws := wzX12_see) B.pre
  have hown : s.vm.findClass RX12 = some m.cls := findClass_of_methodNamed B.named
  have hlocks := B.notSynchronized
  subst hsz
  have hD := hD0.self (sz := s.heap.size)
  generalize hAe : va_A (rW Q σ) s.heap.size = A at hD ⊢
  have hA : ∀ q : Nat, s.heap.size ≤ q → A q := fun q h => by rw [← hAe]; exact Or.inr h
  have hS : va_S A s.heap s.heap [] := va_S.rf
  have hl := lv_entry ([.ref Q.h0, .long x1, .int x3]) (n := 4) (Nat.le_of_ble_eq_true rfl)
  rw [lg_entry_eq]
  generalize (lg_sl ([.ref Q.h0, .long x1, .int x3]) ++ List.replicate (4 - (lg_sl ([.ref Q.h0, .long x1, .int x3])).length) Slot.unset).toArray = ls at hl ⊢
  have hl : lv_has ls 4 [(0, .ref Q.h0), (1, .long x1), (3, .int x3)] := hl
  unfold f_X12_see at hf
  refine lv_aload_n hx hb dX12_see_0 rfl (lv_at hl 0 rfl) ?_
  refine rG_39 hx hb hts i_X12_see_X12 hown hK hP (hts (.fieldLink RX12 126 "StatementRules2Model" "seenName" "[J") k_X12_see_fieldLink_RX12_126_SRModel_seenName_J) dX12_see_1 ?_
  refine lv_aload_n hx hb dX12_see_4 rfl (lv_at hl 0 rfl) ?_
  refine rG_38 (v := (σ.i 38)) hx hb hts i_X12_see_X12 hown hK hP (hts (.fieldLink RX12 361 "StatementRules2Model" "seen" "I") k_X12_see_fieldLink_RX12_361_SRModel_seen_I) dX12_see_5 rfl ?_
  refine lv_lload_n hx hb dX12_see_8 rfl (lv_at hl 1 rfl) ?_
  obtain ⟨b1, hf⟩ := hf_ite hf
  refine rS_39 hx hb hK hP hD hS b1 dX12_see_9 (fun H locs hP hD hS => ?_)
  refine lv_aload_n hx hb dX12_see_10 rfl (lv_at hl 0 rfl) ?_
  refine rG_40 hx hb hts i_X12_see_X12 hown hK hP (hts (.fieldLink RX12 129 "StatementRules2Model" "seenSlot" "[I") k_X12_see_fieldLink_RX12_129_SRModel_seenSlot_I) dX12_see_11 ?_
  refine lv_aload_n hx hb dX12_see_14 rfl (lv_at hl 0 rfl) ?_
  refine rG_38 (v := (σ.i 38)) hx hb hts i_X12_see_X12 hown hK hP (hts (.fieldLink RX12 361 "StatementRules2Model" "seen" "I") k_X12_see_fieldLink_RX12_361_SRModel_seen_I) dX12_see_15 rfl ?_
  refine lv_aload_n hx hb dX12_see_18 rfl (lv_at hl 0 rfl) ?_
  refine rG_42 (v := (σ.i 42)) hx hb hts i_X12_see_X12 hown hK hP (hts (.fieldLink RX12 364 "StatementRules2Model" "slots" "I") k_X12_see_fieldLink_RX12_364_SRModel_slots_I) dX12_see_19 rfl ?_
  refine rS_40 hx hb hK hP hD hS b1 dX12_see_22 (fun H locs hP hD hS => ?_)
  refine lv_aload_n hx hb dX12_see_23 rfl (lv_at hl 0 rfl) ?_
  refine rG_41 hx hb hts i_X12_see_X12 hown hK hP (hts (.fieldLink RX12 132 "StatementRules2Model" "seenCaught" "[Z") k_X12_see_fieldLink_RX12_132_SRModel_seenCaught_Z) dX12_see_24 ?_
  refine lv_aload_n hx hb dX12_see_27 rfl (lv_at hl 0 rfl) ?_
  refine rG_38 (v := (σ.i 38)) hx hb hts i_X12_see_X12 hown hK hP (hts (.fieldLink RX12 361 "StatementRules2Model" "seen" "I") k_X12_see_fieldLink_RX12_361_SRModel_seen_I) dX12_see_28 rfl ?_
  refine lv_iload_n hx hb dX12_see_31 rfl (lv_at hl 2 rfl) ?_
  refine rS_41 (v := (vp_nar .boolean x3)) hx hb hK hP hD hS b1 dX12_see_32 rfl (fun H locs hP hD hS => ?_)
  refine lv_aload_n hx hb dX12_see_33 rfl (lv_at hl 0 rfl) ?_
  refine lv_dup hx hb dX12_see_34 rfl ?_
  refine rG_38 (v := (σ.i 38)) hx hb hts i_X12_see_X12 hown hK hP (hts (.fieldLink RX12 361 "StatementRules2Model" "seen" "I") k_X12_see_fieldLink_RX12_361_SRModel_seen_I) dX12_see_35 rfl ?_
  refine lv_iconst (v := 1) hx hb dX12_see_38 (by decide) ?_
  refine lv_iadd hx hb dX12_see_39 ?_
  refine rP_38 hx hb hts i_X12_see_X12 hown hK hP hD hS (hts (.fieldLink RX12 361 "StatementRules2Model" "seen" "I") k_X12_see_fieldLink_RX12_361_SRModel_seen_I) dX12_see_40 (fun H locs hP hD hS => ?_)
  refine lv_aload_n hx hb dX12_see_43 rfl (lv_at hl 0 rfl) ?_
  refine lv_dup hx hb dX12_see_44 rfl ?_
  refine rG_42 (v := (σ.i 42)) hx hb hts i_X12_see_X12 hown hK hP (hts (.fieldLink RX12 364 "StatementRules2Model" "slots" "I") k_X12_see_fieldLink_RX12_364_SRModel_slots_I) dX12_see_45 rfl ?_
  refine lv_iconst (v := 1) hx hb dX12_see_48 (by decide) ?_
  refine lv_iadd hx hb dX12_see_49 ?_
  refine rP_42 hx hb hts i_X12_see_X12 hown hK hP hD hS (hts (.fieldLink RX12 364 "StatementRules2Model" "slots" "I") k_X12_see_fieldLink_RX12_364_SRModel_slots_I) dX12_see_50 (fun H locs hP hD hS => ?_)
  refine lv_aload_n hx hb dX12_see_53 rfl (lv_at hl 0 rfl) ?_
  refine rG_42 (v := ((σ.i 42) + 1)) hx hb hts i_X12_see_X12 hown hK hP (hts (.fieldLink RX12 364 "StatementRules2Model" "slots" "I") k_X12_see_fieldLink_RX12_364_SRModel_slots_I) dX12_see_54 rfl ?_
  refine lv_iconst (v := 1) hx hb dX12_see_57 (by decide) ?_
  refine lv_isub hx hb dX12_see_58 ?_
  obtain rfl := Option.some.inj hf
  exact W.iret (v := (((σ.i 42) + 1) - 1)) hx hb hr (fun t ht hW => ⟨⟨(((σ.i 42) + 1) - 1), (), rfl, rfl, by rw [ht]; exact hP, va_K.moved hW.alike hK, hD⟩, hS.F ht⟩) hS.2.2 dX12_see_59
theorem k_X12_goal_fieldLink_RX12_135_SRModel_goalSort_I : Cond.fieldLink RX12 135 "StatementRules2Model" "goalSort" "[I" ∈ wzX12_goal := List.mem_cons_of_mem _ (List.mem_append_left _ (List.mem_of_getElem? (i := 0) rfl))
theorem i_X12_goal_X12 : ∀ w ∈ wsX120, w ∈ wzX12_goal := fun _ h => List.mem_cons_of_mem _ (List.mem_append_right _ (List.mem_append_left _ (h)))
theorem k_X12_goal_fieldLink_RX12_367_SRModel_goals_I : Cond.fieldLink RX12 367 "StatementRules2Model" "goals" "I" ∈ wzX12_goal := List.mem_cons_of_mem _ (List.mem_append_left _ (List.mem_of_getElem? (i := 1) rfl))
theorem k_X12_goal_fieldLink_RX12_138_SRModel_goalName_J : Cond.fieldLink RX12 138 "StatementRules2Model" "goalName" "[J" ∈ wzX12_goal := List.mem_cons_of_mem _ (List.mem_append_left _ (List.mem_of_getElem? (i := 2) rfl))
theorem k_X12_goal_fieldLink_RX12_141_SRModel_goalLoop_I : Cond.fieldLink RX12 141 "StatementRules2Model" "goalLoop" "[I" ∈ wzX12_goal := List.mem_cons_of_mem _ (List.mem_append_left _ (List.mem_of_getElem? (i := 3) rfl))
theorem k_X12_goal_fieldLink_RX12_144_SRModel_goalDepth_I : Cond.fieldLink RX12 144 "StatementRules2Model" "goalDepth" "[I" ∈ wzX12_goal := List.mem_cons_of_mem _ (List.mem_append_left _ (List.mem_of_getElem? (i := 4) rfl))
theorem k_X12_goal_fieldLink_RX12_370_SRModel_depth_I : Cond.fieldLink RX12 370 "StatementRules2Model" "depth" "I" ∈ wzX12_goal := List.mem_cons_of_mem _ (List.mem_append_left _ (List.mem_of_getElem? (i := 5) rfl))
theorem k_X12_goal_fieldLink_RX12_147_SRModel_breaks_I : Cond.fieldLink RX12 147 "StatementRules2Model" "breaks" "[I" ∈ wzX12_goal := List.mem_cons_of_mem _ (List.mem_append_left _ (List.mem_of_getElem? (i := 6) rfl))
theorem k_X12_goal_fieldLink_RX12_150_SRModel_continues_I : Cond.fieldLink RX12 150 "StatementRules2Model" "continues" "[I" ∈ wzX12_goal := List.mem_cons_of_mem _ (List.mem_append_left _ (List.mem_of_getElem? (i := 7) rfl))
theorem k_X12_goal_fieldLink_RX12_153_SRModel_broken_Z : Cond.fieldLink RX12 153 "StatementRules2Model" "broken" "[Z" ∈ wzX12_goal := List.mem_cons_of_mem _ (List.mem_append_left _ (List.mem_of_getElem? (i := 8) rfl))
theorem k_X12_goal_fieldLink_RX12_156_SRModel_continued_Z : Cond.fieldLink RX12 156 "StatementRules2Model" "continued" "[Z" ∈ wzX12_goal := List.mem_cons_of_mem _ (List.mem_append_left _ (List.mem_of_getElem? (i := 9) rfl))
set_option maxHeartbeats 4000000 in
set_option maxRecDepth 100000 in
theorem c_X12_goal (l : Launch) (dC : Nat → ClassId) (dI : Nat → Nat → Nat) (sz : Nat) (Q : RQ) (N : Nat) (σ : RS) (x1 : Int32) (x2 : Int64) (R : Int32 × RS) (hf : f_X12_goal N σ x1 x2 = some R) : Met l yX12_goal wzX12_goal ({ frames := 1, cells := 0, slots := 0, locals := 60 }) (va_Pc [.ref Q.h0, .int x1, .long x2] (zPre dC dI sz (rW Q σ) (rT Q))) (va_Qi (fun (r : Int32) (_ : Unit) => r = R.1) (fun (_ : Unit) (t : State) => zPost dC dI (va_A (rW Q σ) sz) (rW Q R.2) (rT Q) t) (va_A (rW Q σ) sz)) 0 0 (va_A (rW Q σ) sz) := by
  refine Met.ofW (cc := cX12_goal) (maxL := 4) (ret := (some .int)) (by decide) rfl ?_
  intro p e s m args below meth c s₁ B hml hv
  obtain ⟨rfl, hsz, hZ, hP, hK, hD0⟩ := hv
  have hx := B.exec
  have hb := B.bytes
  have hr := B.returns
  have hts := atoms_spec (ws := wzX12_goal) B.pre
  have hown : s.vm.findClass RX12 = some m.cls := findClass_of_methodNamed B.named
  have hlocks := B.notSynchronized
  subst hsz
  have hD := hD0.self (sz := s.heap.size)
  generalize hAe : va_A (rW Q σ) s.heap.size = A at hD ⊢
  have hA : ∀ q : Nat, s.heap.size ≤ q → A q := fun q h => by rw [← hAe]; exact Or.inr h
  have hS : va_S A s.heap s.heap [] := va_S.rf
  have hl := lv_entry ([.ref Q.h0, .int x1, .long x2]) (n := 4) (Nat.le_of_ble_eq_true rfl)
  rw [lg_entry_eq]
  generalize (lg_sl ([.ref Q.h0, .int x1, .long x2]) ++ List.replicate (4 - (lg_sl ([.ref Q.h0, .int x1, .long x2])).length) Slot.unset).toArray = ls at hl ⊢
  have hl : lv_has ls 4 [(0, .ref Q.h0), (1, .int x1), (2, .long x2)] := hl
  unfold f_X12_goal at hf
  refine lv_aload_n hx hb dX12_goal_0 rfl (lv_at hl 0 rfl) ?_
  refine rG_44 hx hb hts i_X12_goal_X12 hown hK hP (hts (.fieldLink RX12 135 "StatementRules2Model" "goalSort" "[I") k_X12_goal_fieldLink_RX12_135_SRModel_goalSort_I) dX12_goal_1 ?_
  refine lv_aload_n hx hb dX12_goal_4 rfl (lv_at hl 0 rfl) ?_
  refine rG_43 (v := (σ.i 43)) hx hb hts i_X12_goal_X12 hown hK hP (hts (.fieldLink RX12 367 "StatementRules2Model" "goals" "I") k_X12_goal_fieldLink_RX12_367_SRModel_goals_I) dX12_goal_5 rfl ?_
  refine lv_iload_n hx hb dX12_goal_8 rfl (lv_at hl 1 rfl) ?_
  obtain ⟨b1, hf⟩ := hf_ite hf
  refine rS_44 hx hb hK hP hD hS b1 dX12_goal_9 (fun H locs hP hD hS => ?_)
  refine lv_aload_n hx hb dX12_goal_10 rfl (lv_at hl 0 rfl) ?_
  refine rG_45 hx hb hts i_X12_goal_X12 hown hK hP (hts (.fieldLink RX12 138 "StatementRules2Model" "goalName" "[J") k_X12_goal_fieldLink_RX12_138_SRModel_goalName_J) dX12_goal_11 ?_
  refine lv_aload_n hx hb dX12_goal_14 rfl (lv_at hl 0 rfl) ?_
  refine rG_43 (v := (σ.i 43)) hx hb hts i_X12_goal_X12 hown hK hP (hts (.fieldLink RX12 367 "StatementRules2Model" "goals" "I") k_X12_goal_fieldLink_RX12_367_SRModel_goals_I) dX12_goal_15 rfl ?_
  refine lv_lload_n hx hb dX12_goal_18 rfl (lv_at hl 2 rfl) ?_
  refine rS_45 hx hb hK hP hD hS b1 dX12_goal_19 (fun H locs hP hD hS => ?_)
  refine lv_aload_n hx hb dX12_goal_20 rfl (lv_at hl 0 rfl) ?_
  refine rG_46 hx hb hts i_X12_goal_X12 hown hK hP (hts (.fieldLink RX12 141 "StatementRules2Model" "goalLoop" "[I") k_X12_goal_fieldLink_RX12_141_SRModel_goalLoop_I) dX12_goal_21 ?_
  refine lv_aload_n hx hb dX12_goal_24 rfl (lv_at hl 0 rfl) ?_
  refine rG_43 (v := (σ.i 43)) hx hb hts i_X12_goal_X12 hown hK hP (hts (.fieldLink RX12 367 "StatementRules2Model" "goals" "I") k_X12_goal_fieldLink_RX12_367_SRModel_goals_I) dX12_goal_25 rfl ?_
  refine lv_iconst (v := (-1)) hx hb dX12_goal_28 (by decide) ?_
  refine rS_46 hx hb hK hP hD hS b1 dX12_goal_29 (fun H locs hP hD hS => ?_)
  refine lv_aload_n hx hb dX12_goal_30 rfl (lv_at hl 0 rfl) ?_
  refine rG_47 hx hb hts i_X12_goal_X12 hown hK hP (hts (.fieldLink RX12 144 "StatementRules2Model" "goalDepth" "[I") k_X12_goal_fieldLink_RX12_144_SRModel_goalDepth_I) dX12_goal_31 ?_
  refine lv_aload_n hx hb dX12_goal_34 rfl (lv_at hl 0 rfl) ?_
  refine rG_43 (v := (σ.i 43)) hx hb hts i_X12_goal_X12 hown hK hP (hts (.fieldLink RX12 367 "StatementRules2Model" "goals" "I") k_X12_goal_fieldLink_RX12_367_SRModel_goals_I) dX12_goal_35 rfl ?_
  refine lv_aload_n hx hb dX12_goal_38 rfl (lv_at hl 0 rfl) ?_
  refine rG_52 (v := (σ.i 52)) hx hb hts i_X12_goal_X12 hown hK hP (hts (.fieldLink RX12 370 "StatementRules2Model" "depth" "I") k_X12_goal_fieldLink_RX12_370_SRModel_depth_I) dX12_goal_39 rfl ?_
  refine rS_47 hx hb hK hP hD hS b1 dX12_goal_42 (fun H locs hP hD hS => ?_)
  refine lv_aload_n hx hb dX12_goal_43 rfl (lv_at hl 0 rfl) ?_
  refine rG_48 hx hb hts i_X12_goal_X12 hown hK hP (hts (.fieldLink RX12 147 "StatementRules2Model" "breaks" "[I") k_X12_goal_fieldLink_RX12_147_SRModel_breaks_I) dX12_goal_44 ?_
  refine lv_aload_n hx hb dX12_goal_47 rfl (lv_at hl 0 rfl) ?_
  refine rG_43 (v := (σ.i 43)) hx hb hts i_X12_goal_X12 hown hK hP (hts (.fieldLink RX12 367 "StatementRules2Model" "goals" "I") k_X12_goal_fieldLink_RX12_367_SRModel_goals_I) dX12_goal_48 rfl ?_
  refine lv_iconst (v := (-1)) hx hb dX12_goal_51 (by decide) ?_
  refine rS_48 hx hb hK hP hD hS b1 dX12_goal_52 (fun H locs hP hD hS => ?_)
  refine lv_aload_n hx hb dX12_goal_53 rfl (lv_at hl 0 rfl) ?_
  refine rG_49 hx hb hts i_X12_goal_X12 hown hK hP (hts (.fieldLink RX12 150 "StatementRules2Model" "continues" "[I") k_X12_goal_fieldLink_RX12_150_SRModel_continues_I) dX12_goal_54 ?_
  refine lv_aload_n hx hb dX12_goal_57 rfl (lv_at hl 0 rfl) ?_
  refine rG_43 (v := (σ.i 43)) hx hb hts i_X12_goal_X12 hown hK hP (hts (.fieldLink RX12 367 "StatementRules2Model" "goals" "I") k_X12_goal_fieldLink_RX12_367_SRModel_goals_I) dX12_goal_58 rfl ?_
  refine lv_iconst (v := (-1)) hx hb dX12_goal_61 (by decide) ?_
  refine rS_49 hx hb hK hP hD hS b1 dX12_goal_62 (fun H locs hP hD hS => ?_)
  refine lv_aload_n hx hb dX12_goal_63 rfl (lv_at hl 0 rfl) ?_
  refine rG_50 hx hb hts i_X12_goal_X12 hown hK hP (hts (.fieldLink RX12 153 "StatementRules2Model" "broken" "[Z") k_X12_goal_fieldLink_RX12_153_SRModel_broken_Z) dX12_goal_64 ?_
  refine lv_aload_n hx hb dX12_goal_67 rfl (lv_at hl 0 rfl) ?_
  refine rG_43 (v := (σ.i 43)) hx hb hts i_X12_goal_X12 hown hK hP (hts (.fieldLink RX12 367 "StatementRules2Model" "goals" "I") k_X12_goal_fieldLink_RX12_367_SRModel_goals_I) dX12_goal_68 rfl ?_
  refine lv_iconst (v := 0) hx hb dX12_goal_71 (by decide) ?_
  refine rS_50 (v := 0) hx hb hK hP hD hS b1 dX12_goal_72 rfl (fun H locs hP hD hS => ?_)
  refine lv_aload_n hx hb dX12_goal_73 rfl (lv_at hl 0 rfl) ?_
  refine rG_51 hx hb hts i_X12_goal_X12 hown hK hP (hts (.fieldLink RX12 156 "StatementRules2Model" "continued" "[Z") k_X12_goal_fieldLink_RX12_156_SRModel_continued_Z) dX12_goal_74 ?_
  refine lv_aload_n hx hb dX12_goal_77 rfl (lv_at hl 0 rfl) ?_
  refine rG_43 (v := (σ.i 43)) hx hb hts i_X12_goal_X12 hown hK hP (hts (.fieldLink RX12 367 "StatementRules2Model" "goals" "I") k_X12_goal_fieldLink_RX12_367_SRModel_goals_I) dX12_goal_78 rfl ?_
  refine lv_iconst (v := 0) hx hb dX12_goal_81 (by decide) ?_
  refine rS_51 (v := 0) hx hb hK hP hD hS b1 dX12_goal_82 rfl (fun H locs hP hD hS => ?_)
  refine lv_aload_n hx hb dX12_goal_83 rfl (lv_at hl 0 rfl) ?_
  refine lv_dup hx hb dX12_goal_84 rfl ?_
  refine rG_43 (v := (σ.i 43)) hx hb hts i_X12_goal_X12 hown hK hP (hts (.fieldLink RX12 367 "StatementRules2Model" "goals" "I") k_X12_goal_fieldLink_RX12_367_SRModel_goals_I) dX12_goal_85 rfl ?_
  refine lv_iconst (v := 1) hx hb dX12_goal_88 (by decide) ?_
  refine lv_iadd hx hb dX12_goal_89 ?_
  refine rP_43 hx hb hts i_X12_goal_X12 hown hK hP hD hS (hts (.fieldLink RX12 367 "StatementRules2Model" "goals" "I") k_X12_goal_fieldLink_RX12_367_SRModel_goals_I) dX12_goal_90 (fun H locs hP hD hS => ?_)
  refine lv_aload_n hx hb dX12_goal_93 rfl (lv_at hl 0 rfl) ?_
  refine rG_43 (v := ((σ.i 43) + 1)) hx hb hts i_X12_goal_X12 hown hK hP (hts (.fieldLink RX12 367 "StatementRules2Model" "goals" "I") k_X12_goal_fieldLink_RX12_367_SRModel_goals_I) dX12_goal_94 rfl ?_
  refine lv_iconst (v := 1) hx hb dX12_goal_97 (by decide) ?_
  refine lv_isub hx hb dX12_goal_98 ?_
  obtain rfl := Option.some.inj hf
  exact W.iret (v := (((σ.i 43) + 1) - 1)) hx hb hr (fun t ht hW => ⟨⟨(((σ.i 43) + 1) - 1), (), rfl, rfl, by rw [ht]; exact hP, va_K.moved hW.alike hK, hD⟩, hS.F ht⟩) hS.2.2 dX12_goal_99
theorem k_X12_loopGoal_fieldLink_RX12_135_SRModel_goalSort_I : Cond.fieldLink RX12 135 "StatementRules2Model" "goalSort" "[I" ∈ wzX12_loopGoal := List.mem_cons_of_mem _ (List.mem_append_left _ (List.mem_of_getElem? (i := 0) rfl))
theorem i_X12_loopGoal_X12 : ∀ w ∈ wsX120, w ∈ wzX12_loopGoal := fun _ h => List.mem_cons_of_mem _ (List.mem_append_right _ (List.mem_append_left _ (h)))
theorem k_X12_loopGoal_fieldLink_RX12_141_SRModel_goalLoop_I : Cond.fieldLink RX12 141 "StatementRules2Model" "goalLoop" "[I" ∈ wzX12_loopGoal := List.mem_cons_of_mem _ (List.mem_append_left _ (List.mem_of_getElem? (i := 1) rfl))
set_option maxHeartbeats 4000000 in
set_option maxRecDepth 100000 in
theorem j_X12_loopGoal_49 {p : Program} {e : Env} {s : State} {m : MethodId} {args : Array Value} {below : List Frame} {meth : Method} {c : Code} {A : Nat → Prop} (l : Launch) (dC : Nat → ClassId) (dI : Nat → Nat → Nat) (Q : RQ) (N : Nat) (R : Int32 × RS) (hx : p.tables.exec = Jvm.exec) (hb : c.code = cX12_loopGoal) (hr : meth.sig.returnType = (some .int)) (hml : c.maxLocals = 3) (hown : s.vm.findClass RX12 = some m.cls) (hts : ∀ w ∈ wzX12_loopGoal, w.before args s = true) (hlocks : meth.locks = false) (hZ : zAMB s) (hA : ∀ q : Nat, s.heap.size ≤ q → A q) (hK : va_K (dC, dI) vwCl (rT Q) s) : ∀ (σ : RS) (x1 : Int32) (H : Heap) (locs : List Loc) (ls : Array Slot), f_X12_loopGoal_49 N σ x1 = some R → va_P (dC, dI) vwCl (rW Q σ) H → va_D A (rW Q σ) → va_S A s.heap H locs → lv_has ls 3 [(1, .int x1)] → W p l e ({ frames := 2, cells := 0, slots := 0, locals := 120 }) s m args below meth c H locs 0 0 (MQ below (va_Qi (fun (r : Int32) (_ : Unit) => r = R.1) (fun (_ : Unit) (t : State) => zPost dC dI A (rW Q R.2) (rT Q) t) A) args s 0 0 A) (F0 m 49 ls []) := by
  intro σ x1 H locs ls hf hP hD hS hl
  unfold f_X12_loopGoal_49 at hf
  refine lv_iload_n hx hb dX12_loopGoal_49 rfl (lv_at hl 0 rfl) ?_
  obtain rfl := Option.some.inj hf
  exact W.iret (v := x1) hx hb hr (fun t ht hW => ⟨⟨x1, (), rfl, rfl, by rw [ht]; exact hP, va_K.moved hW.alike hK, hD⟩, hS.F ht⟩) hS.2.2 dX12_loopGoal_50
set_option maxHeartbeats 4000000 in
set_option maxRecDepth 100000 in
theorem j_X12_loopGoal_11 {p : Program} {e : Env} {s : State} {m : MethodId} {args : Array Value} {below : List Frame} {meth : Method} {c : Code} {A : Nat → Prop} (l : Launch) (dC : Nat → ClassId) (dI : Nat → Nat → Nat) (Q : RQ) (N : Nat) (R : Int32 × RS) (hx : p.tables.exec = Jvm.exec) (hb : c.code = cX12_loopGoal) (hr : meth.sig.returnType = (some .int)) (hml : c.maxLocals = 3) (hown : s.vm.findClass RX12 = some m.cls) (hts : ∀ w ∈ wzX12_loopGoal, w.before args s = true) (hlocks : meth.locks = false) (hZ : zAMB s) (hA : ∀ q : Nat, s.heap.size ≤ q → A q) (hK : va_K (dC, dI) vwCl (rT Q) s) : ∀ (n9 : Nat), ∀ (σ : RS) (x1 : Int32) (x2 : Int32) (H : Heap) (locs : List Loc) (ls : Array Slot), f_X12_loopGoal_11 N n9 σ x1 x2 = some R → va_P (dC, dI) vwCl (rW Q σ) H → va_D A (rW Q σ) → va_S A s.heap H locs → lv_has ls 3 [(0, .ref Q.h0), (1, .int x1), (2, .int x2)] → W p l e ({ frames := 2, cells := 0, slots := 0, locals := 120 }) s m args below meth c H locs 0 0 (MQ below (va_Qi (fun (r : Int32) (_ : Unit) => r = R.1) (fun (_ : Unit) (t : State) => zPost dC dI A (rW Q R.2) (rT Q) t) A) args s 0 0 A) (F0 m 11 ls []) := by
  intro n9
  induction n9 with
  | zero => intro σ x1 x2 H locs ls hf; exact absurd hf (by intro h9; cases h9)
  | succ n9 ih =>
    intro σ x1 x2 H locs ls hf hP hD hS hl
    replace hf : b_X12_loopGoal_11 N (f_X12_loopGoal_11 N n9) σ x1 x2 = some R := hf
    unfold b_X12_loopGoal_11 at hf
    refine lv_iload_n hx hb dX12_loopGoal_11 rfl (lv_at hl 2 rfl) ?_
    refine lv_if_lt (tgt := 49) hx hb dX12_loopGoal_12 (by decide) (fun c3 => ?_) (fun c3 => ?_)
    ·
      replace hf := (if_pos c3).symm.trans hf
      exact j_X12_loopGoal_49 l dC dI Q N R hx hb hr hml hown hts hlocks hZ hA hK σ x1 _ _ _ hf hP hD hS (lv_sub hl [1] rfl)
    ·
      replace hf := (if_neg c3).symm.trans hf
      refine lv_aload_n hx hb dX12_loopGoal_15 rfl (lv_at hl 0 rfl) ?_
      refine rG_44 hx hb hts i_X12_loopGoal_X12 hown hK hP (hts (.fieldLink RX12 135 "StatementRules2Model" "goalSort" "[I") k_X12_loopGoal_fieldLink_RX12_135_SRModel_goalSort_I) dX12_loopGoal_16 ?_
      refine lv_iload_n hx hb dX12_loopGoal_19 rfl (lv_at hl 2 rfl) ?_
      obtain ⟨b4, hf⟩ := hf_ite hf
      refine rL_44 (v := (σ.a 44 ((x2 : Int32).toNatClampNeg))) hx hb hK hP b4 dX12_loopGoal_20 rfl ?_
      refine lv_iconst (v := 2) hx hb dX12_loopGoal_21 (by decide) ?_
      refine lv_icmp_ne (tgt := 49) hx hb dX12_loopGoal_22 (by decide) (fun c5 => ?_) (fun c5 => ?_)
      ·
        replace hf := (if_neg c5).symm.trans hf
        exact j_X12_loopGoal_49 l dC dI Q N R hx hb hr hml hown hts hlocks hZ hA hK σ x1 _ _ _ hf hP hD hS (lv_sub hl [1] rfl)
      ·
        replace hf := (if_pos c5).symm.trans hf
        refine lv_aload_n hx hb dX12_loopGoal_25 rfl (lv_at hl 0 rfl) ?_
        refine rG_46 hx hb hts i_X12_loopGoal_X12 hown hK hP (hts (.fieldLink RX12 141 "StatementRules2Model" "goalLoop" "[I") k_X12_loopGoal_fieldLink_RX12_141_SRModel_goalLoop_I) dX12_loopGoal_26 ?_
        refine lv_iload_n hx hb dX12_loopGoal_29 rfl (lv_at hl 2 rfl) ?_
        refine rL_46 (v := (σ.a 46 ((x2 : Int32).toNatClampNeg))) hx hb hK hP b4 dX12_loopGoal_30 rfl ?_
        refine lv_bipush (v := (-3)) hx hb dX12_loopGoal_31 (by decide) ?_
        refine lv_icmp_ne (tgt := 49) hx hb dX12_loopGoal_33 (by decide) (fun c6 => ?_) (fun c6 => ?_)
        ·
          replace hf := (if_neg c6).symm.trans hf
          exact j_X12_loopGoal_49 l dC dI Q N R hx hb hr hml hown hts hlocks hZ hA hK σ x1 _ _ _ hf hP hD hS (lv_sub hl [1] rfl)
        ·
          replace hf := (if_pos c6).symm.trans hf
          refine lv_aload_n hx hb dX12_loopGoal_36 rfl (lv_at hl 0 rfl) ?_
          refine rG_46 hx hb hts i_X12_loopGoal_X12 hown hK hP (hts (.fieldLink RX12 141 "StatementRules2Model" "goalLoop" "[I") k_X12_loopGoal_fieldLink_RX12_141_SRModel_goalLoop_I) dX12_loopGoal_37 ?_
          refine lv_iload_n hx hb dX12_loopGoal_40 rfl (lv_at hl 2 rfl) ?_
          refine lv_iload_n hx hb dX12_loopGoal_41 rfl (lv_at hl 1 rfl) ?_
          refine rS_46 hx hb hK hP hD hS b4 dX12_loopGoal_42 (fun H locs hP hD hS => ?_)
          refine lv_iinc (v := (x2 + (-1))) (lv' := [(2, .int (x2 + (-1))), (0, .ref Q.h0), (1, .int x1)]) hx hb dX12_loopGoal_43 hl (k := 2) rfl rfl (by decide) rfl (fun ls hl => ?_)
          refine lv_goto (tgt := 11) hx hb dX12_loopGoal_46 (by decide) ?_
          exact ih (RS.setA σ 46 ((x2 : Int32).toNatClampNeg) x1) x1 (x2 + (-1)) _ _ _ hf hP hD hS (lv_sub hl [1, 2, 0] rfl)
set_option maxHeartbeats 4000000 in
set_option maxRecDepth 100000 in
theorem c_X12_loopGoal (l : Launch) (dC : Nat → ClassId) (dI : Nat → Nat → Nat) (sz : Nat) (Q : RQ) (N : Nat) (σ : RS) (R : Int32 × RS) (hf : f_X12_loopGoal N σ = some R) : Met l yX12_loopGoal wzX12_loopGoal ({ frames := 2, cells := 0, slots := 0, locals := 120 }) (va_Pc [.ref Q.h0] (zPre dC dI sz (rW Q σ) (rT Q))) (va_Qi (fun (r : Int32) (_ : Unit) => r = R.1) (fun (_ : Unit) (t : State) => zPost dC dI (va_A (rW Q σ) sz) (rW Q R.2) (rT Q) t) (va_A (rW Q σ) sz)) 0 0 (va_A (rW Q σ) sz) := by
  refine Met.ofW (cc := cX12_loopGoal) (maxL := 3) (ret := (some .int)) (by decide) rfl ?_
  intro p e s m args below meth c s₁ B hml hv
  obtain ⟨rfl, hsz, hZ, hP, hK, hD0⟩ := hv
  have hx := B.exec
  have hb := B.bytes
  have hr := B.returns
  have hts := atoms_spec (ws := wzX12_loopGoal) B.pre
  have hown : s.vm.findClass RX12 = some m.cls := findClass_of_methodNamed B.named
  have hlocks := B.notSynchronized
  subst hsz
  have hD := hD0.self (sz := s.heap.size)
  generalize hAe : va_A (rW Q σ) s.heap.size = A at hD ⊢
  have hA : ∀ q : Nat, s.heap.size ≤ q → A q := fun q h => by rw [← hAe]; exact Or.inr h
  have hS : va_S A s.heap s.heap [] := va_S.rf
  have hl := lv_entry ([.ref Q.h0]) (n := 3) (Nat.le_of_ble_eq_true rfl)
  rw [lg_entry_eq]
  generalize (lg_sl ([.ref Q.h0]) ++ List.replicate (3 - (lg_sl ([.ref Q.h0])).length) Slot.unset).toArray = ls at hl ⊢
  have hl : lv_has ls 3 [(0, .ref Q.h0)] := hl
  unfold f_X12_loopGoal at hf
  refine lv_aload_n hx hb dX12_loopGoal_0 rfl (lv_at hl 0 rfl) ?_
  refine lv_iconst (v := 0) hx hb dX12_loopGoal_1 (by decide) ?_
  refine lv_lconst (v := 0) hx hb dX12_loopGoal_2 (by decide) ?_
  obtain ⟨p1, hcp1, hf⟩ := hf_bind hf
  have hFc := r_free hD hS hA
  refine va_calli (va_runV (As := [.int 0, .long 0]) (rest := []) ⟨hx, hb, hml, hown, hts⟩ (c_X12_goal l dC dI _ Q N σ 0 0 p1 hcp1) (cwV 2 hts hX12_loopGoal_X12_goal_v373 rfl rfl rfl (by decide +kernel) ⟨Nat.le_of_ble_eq_true rfl, Nat.le_of_ble_eq_true rfl⟩) ⟨zPre.blind, va_recv hK hP (ci := 11) (q0 := 0) rfl rfl, zPre.go hZ hP hK hD⟩ rfl rfl hl.1 rfl (lv_room (Nat.le_of_ble_eq_true rfl)) dX12_loopGoal_3 ⟨Nat.le_of_ble_eq_true rfl, Nat.le_of_ble_eq_true rfl⟩) hS (fun q _ h => hFc q h) hFc (fun r2 u9 t9 H1 locs ht hvm hw hB hz1 hk1 hS => ?_)
  obtain ⟨hP, hK1, hD1⟩ := hB
  rw [ht] at hP
  have hD := hD1.weaken (fun _ _ _ h => hFc _ h)
  generalize H1 = H at hP hS ⊢
  obtain rfl : r2 = p1.1 := hw
  refine lv_istore_n (lv' := [(1, .int p1.1), (0, .ref Q.h0)]) hx hb dX12_loopGoal_6 rfl hl (by decide) rfl (fun ls hl => ?_)
  refine lv_iload_n hx hb dX12_loopGoal_7 rfl (lv_at hl 0 rfl) ?_
  refine lv_iconst (v := 1) hx hb dX12_loopGoal_8 (by decide) ?_
  refine lv_isub hx hb dX12_loopGoal_9 ?_
  refine lv_istore_n (lv' := [(2, .int (p1.1 - 1)), (1, .int p1.1), (0, .ref Q.h0)]) hx hb dX12_loopGoal_10 rfl hl (by decide) rfl (fun ls hl => ?_)
  exact j_X12_loopGoal_11 l dC dI Q N R hx hb hr hml hown hts hlocks hZ hA hK N p1.2 p1.1 (p1.1 - 1) _ _ _ hf hP hD hS (lv_sub hl [2, 1, 0] rfl)
theorem k_X12_patch_fieldLink_RX12_87_SRModel_ix_I : Cond.fieldLink RX12 87 "StatementRules2Model" "ix" "[I" ∈ wzX12_patch := List.mem_cons_of_mem _ (List.mem_append_left _ (List.mem_of_getElem? (i := 0) rfl))
theorem i_X12_patch_X12 : ∀ w ∈ wsX120, w ∈ wzX12_patch := fun _ h => List.mem_cons_of_mem _ (List.mem_append_right _ (List.mem_append_left _ (h)))
set_option maxHeartbeats 4000000 in
set_option maxRecDepth 100000 in
theorem j_X12_patch_2 {p : Program} {e : Env} {s : State} {m : MethodId} {args : Array Value} {below : List Frame} {meth : Method} {c : Code} {A : Nat → Prop} (l : Launch) (dC : Nat → ClassId) (dI : Nat → Nat → Nat) (Q : RQ) (N : Nat) (R : RS) (hx : p.tables.exec = Jvm.exec) (hb : c.code = cX12_patch) (hr : meth.sig.returnType = none) (hml : c.maxLocals = 5) (hown : s.vm.findClass RX12 = some m.cls) (hts : ∀ w ∈ wzX12_patch, w.before args s = true) (hlocks : meth.locks = false) (hZ : zAMB s) (hA : ∀ q : Nat, s.heap.size ≤ q → A q) (hK : va_K (dC, dI) vwCl (rT Q) s) : ∀ (n9 : Nat), ∀ (σ : RS) (x2 : Int32) (x3 : Int32) (H : Heap) (locs : List Loc) (ls : Array Slot), f_X12_patch_2 N n9 σ x2 x3 = some R → va_P (dC, dI) vwCl (rW Q σ) H → va_D A (rW Q σ) → va_S A s.heap H locs → lv_has ls 5 [(0, .ref Q.h0), (2, .int x2), (3, .int x3)] → W p l e ({ frames := 1, cells := 0, slots := 0, locals := 60 }) s m args below meth c H locs 0 0 (MQ below (va_Qv (fun (_ : Unit) => True) (fun (_ : Unit) (t : State) => zPost dC dI A (rW Q R) (rT Q) t) A) args s 0 0 A) (F0 m 2 ls []) := by
  intro n9
  induction n9 with
  | zero => intro σ x2 x3 H locs ls hf; exact absurd hf (by intro h9; cases h9)
  | succ n9 ih =>
    intro σ x2 x3 H locs ls hf hP hD hS hl
    replace hf : b_X12_patch_2 N (f_X12_patch_2 N n9) σ x2 x3 = some R := hf
    unfold b_X12_patch_2 at hf
    refine lv_iload_n hx hb dX12_patch_2 rfl (lv_at hl 2 rfl) ?_
    refine lv_if_lt (tgt := 27) hx hb dX12_patch_3 (by decide) (fun c1 => ?_) (fun c1 => ?_)
    ·
      replace hf := (if_pos c1).symm.trans hf
      obtain rfl := Option.some.inj hf
      exact W.vret hx hb hr (fun t ht hW => ⟨⟨(), rfl, trivial, by rw [ht]; exact hP, va_K.moved hW.alike hK, hD⟩, hS.F ht⟩) hS.2.2 dX12_patch_27
    ·
      replace hf := (if_neg c1).symm.trans hf
      refine lv_aload_n hx hb dX12_patch_6 rfl (lv_at hl 0 rfl) ?_
      refine rG_22 hx hb hts i_X12_patch_X12 hown hK hP (hts (.fieldLink RX12 87 "StatementRules2Model" "ix" "[I") k_X12_patch_fieldLink_RX12_87_SRModel_ix_I) dX12_patch_7 ?_
      refine lv_iload_n hx hb dX12_patch_10 rfl (lv_at hl 2 rfl) ?_
      obtain ⟨b2, hf⟩ := hf_ite hf
      refine rL_22 (v := (σ.a 22 ((x3 : Int32).toNatClampNeg))) hx hb hK hP b2 dX12_patch_11 rfl ?_
      refine lv_istore (lv' := [(4, .int (σ.a 22 ((x3 : Int32).toNatClampNeg))), (0, .ref Q.h0), (2, .int x2), (3, .int x3)]) hx hb dX12_patch_12 hl (by decide) rfl (fun ls hl => ?_)
      refine lv_aload_n hx hb dX12_patch_14 rfl (lv_at hl 1 rfl) ?_
      refine rG_22 hx hb hts i_X12_patch_X12 hown hK hP (hts (.fieldLink RX12 87 "StatementRules2Model" "ix" "[I") k_X12_patch_fieldLink_RX12_87_SRModel_ix_I) dX12_patch_15 ?_
      refine lv_iload_n hx hb dX12_patch_18 rfl (lv_at hl 3 rfl) ?_
      refine lv_iload_n hx hb dX12_patch_19 rfl (lv_at hl 2 rfl) ?_
      refine rS_22 hx hb hK hP hD hS b2 dX12_patch_20 (fun H locs hP hD hS => ?_)
      refine lv_iload hx hb dX12_patch_21 (lv_at hl 0 rfl) ?_
      refine lv_istore_n (lv' := [(3, .int (σ.a 22 ((x3 : Int32).toNatClampNeg))), (4, .int (σ.a 22 ((x3 : Int32).toNatClampNeg))), (0, .ref Q.h0), (2, .int x2)]) hx hb dX12_patch_23 rfl hl (by decide) rfl (fun ls hl => ?_)
      refine lv_goto (tgt := 2) hx hb dX12_patch_24 (by decide) ?_
      exact ih (RS.setA σ 22 ((x3 : Int32).toNatClampNeg) x2) x2 (σ.a 22 ((x3 : Int32).toNatClampNeg)) _ _ _ hf hP hD hS (lv_sub hl [2, 3, 0] rfl)
set_option maxHeartbeats 4000000 in
set_option maxRecDepth 100000 in
theorem c_X12_patch (l : Launch) (dC : Nat → ClassId) (dI : Nat → Nat → Nat) (sz : Nat) (Q : RQ) (N : Nat) (σ : RS) (x1 : Int32) (x2 : Int32) (R : RS) (hf : f_X12_patch N σ x1 x2 = some R) : Met l yX12_patch wzX12_patch ({ frames := 1, cells := 0, slots := 0, locals := 60 }) (va_Pc [.ref Q.h0, .int x1, .int x2] (zPre dC dI sz (rW Q σ) (rT Q))) (va_Qv (fun (_ : Unit) => True) (fun (_ : Unit) (t : State) => zPost dC dI (va_A (rW Q σ) sz) (rW Q R) (rT Q) t) (va_A (rW Q σ) sz)) 0 0 (va_A (rW Q σ) sz) := by
  refine Met.ofW (cc := cX12_patch) (maxL := 5) (ret := none) (by decide) rfl ?_
  intro p e s m args below meth c s₁ B hml hv
  obtain ⟨rfl, hsz, hZ, hP, hK, hD0⟩ := hv
  have hx := B.exec
  have hb := B.bytes
  have hr := B.returns
  have hts := atoms_spec (ws := wzX12_patch) B.pre
  have hown : s.vm.findClass RX12 = some m.cls := findClass_of_methodNamed B.named
  have hlocks := B.notSynchronized
  subst hsz
  have hD := hD0.self (sz := s.heap.size)
  generalize hAe : va_A (rW Q σ) s.heap.size = A at hD ⊢
  have hA : ∀ q : Nat, s.heap.size ≤ q → A q := fun q h => by rw [← hAe]; exact Or.inr h
  have hS : va_S A s.heap s.heap [] := va_S.rf
  have hl := lv_entry ([.ref Q.h0, .int x1, .int x2]) (n := 5) (Nat.le_of_ble_eq_true rfl)
  rw [lg_entry_eq]
  generalize (lg_sl ([.ref Q.h0, .int x1, .int x2]) ++ List.replicate (5 - (lg_sl ([.ref Q.h0, .int x1, .int x2])).length) Slot.unset).toArray = ls at hl ⊢
  have hl : lv_has ls 5 [(0, .ref Q.h0), (1, .int x1), (2, .int x2)] := hl
  unfold f_X12_patch at hf
  refine lv_iload_n hx hb dX12_patch_0 rfl (lv_at hl 1 rfl) ?_
  refine lv_istore_n (lv' := [(3, .int x1), (0, .ref Q.h0), (1, .int x1), (2, .int x2)]) hx hb dX12_patch_1 rfl hl (by decide) rfl (fun ls hl => ?_)
  exact j_X12_patch_2 l dC dI Q N R hx hb hr hml hown hts hlocks hZ hA hK N σ x2 x1 _ _ _ hf hP hD hS (lv_sub hl [1, 3, 0] rfl)
theorem k_X12_goes_fieldLink_RX12_156_SRModel_continued_Z : Cond.fieldLink RX12 156 "StatementRules2Model" "continued" "[Z" ∈ wzX12_goes := List.mem_cons_of_mem _ (List.mem_append_left _ (List.mem_of_getElem? (i := 0) rfl))
theorem i_X12_goes_X12 : ∀ w ∈ wsX120, w ∈ wzX12_goes := fun _ h => List.mem_cons_of_mem _ (List.mem_append_right _ (List.mem_append_left _ (h)))
theorem k_X12_goes_fieldLink_RX12_153_SRModel_broken_Z : Cond.fieldLink RX12 153 "StatementRules2Model" "broken" "[Z" ∈ wzX12_goes := List.mem_cons_of_mem _ (List.mem_append_left _ (List.mem_of_getElem? (i := 1) rfl))
set_option maxHeartbeats 4000000 in
set_option maxRecDepth 100000 in
theorem c_X12_goes (l : Launch) (dC : Nat → ClassId) (dI : Nat → Nat → Nat) (sz : Nat) (Q : RQ) (N : Nat) (σ : RS) (x1 : Int32) (x2 : Int32) (R : RS) (hf : f_X12_goes N σ x1 x2 = some R) : Met l yX12_goes wzX12_goes ({ frames := 1, cells := 0, slots := 0, locals := 60 }) (va_Pc [.ref Q.h0, .int x1, .int x2] (zPre dC dI sz (rW Q σ) (rT Q))) (va_Qv (fun (_ : Unit) => True) (fun (_ : Unit) (t : State) => zPost dC dI (va_A (rW Q σ) sz) (rW Q R) (rT Q) t) (va_A (rW Q σ) sz)) 0 0 (va_A (rW Q σ) sz) := by
  refine Met.ofW (cc := cX12_goes) (maxL := 3) (ret := none) (by decide) rfl ?_
  intro p e s m args below meth c s₁ B hml hv
  obtain ⟨rfl, hsz, hZ, hP, hK, hD0⟩ := hv
  have hx := B.exec
  have hb := B.bytes
  have hr := B.returns
  have hts := atoms_spec (ws := wzX12_goes) B.pre
  have hown : s.vm.findClass RX12 = some m.cls := findClass_of_methodNamed B.named
  have hlocks := B.notSynchronized
  subst hsz
  have hD := hD0.self (sz := s.heap.size)
  generalize hAe : va_A (rW Q σ) s.heap.size = A at hD ⊢
  have hA : ∀ q : Nat, s.heap.size ≤ q → A q := fun q h => by rw [← hAe]; exact Or.inr h
  have hS : va_S A s.heap s.heap [] := va_S.rf
  have hl := lv_entry ([.ref Q.h0, .int x1, .int x2]) (n := 3) (Nat.le_of_ble_eq_true rfl)
  rw [lg_entry_eq]
  generalize (lg_sl ([.ref Q.h0, .int x1, .int x2]) ++ List.replicate (3 - (lg_sl ([.ref Q.h0, .int x1, .int x2])).length) Slot.unset).toArray = ls at hl ⊢
  have hl : lv_has ls 3 [(0, .ref Q.h0), (1, .int x1), (2, .int x2)] := hl
  unfold f_X12_goes at hf
  refine lv_iload_n hx hb dX12_goes_0 rfl (lv_at hl 2 rfl) ?_
  refine lv_if_eq (tgt := 14) hx hb dX12_goes_1 (by decide) (fun c1 => ?_) (fun c1 => ?_)
  ·
    replace hf := (if_pos c1).symm.trans hf
    refine lv_aload_n hx hb dX12_goes_14 rfl (lv_at hl 0 rfl) ?_
    refine rG_51 hx hb hts i_X12_goes_X12 hown hK hP (hts (.fieldLink RX12 156 "StatementRules2Model" "continued" "[Z") k_X12_goes_fieldLink_RX12_156_SRModel_continued_Z) dX12_goes_15 ?_
    refine lv_iload_n hx hb dX12_goes_18 rfl (lv_at hl 1 rfl) ?_
    refine lv_iconst (v := 1) hx hb dX12_goes_19 (by decide) ?_
    obtain ⟨b2, hf⟩ := hf_ite hf
    refine rS_51 (v := 1) hx hb hK hP hD hS b2 dX12_goes_20 rfl (fun H locs hP hD hS => ?_)
    obtain rfl := Option.some.inj hf
    exact W.vret hx hb hr (fun t ht hW => ⟨⟨(), rfl, trivial, by rw [ht]; exact hP, va_K.moved hW.alike hK, hD⟩, hS.F ht⟩) hS.2.2 dX12_goes_21
  ·
    replace hf := (if_neg c1).symm.trans hf
    refine lv_aload_n hx hb dX12_goes_4 rfl (lv_at hl 0 rfl) ?_
    refine rG_50 hx hb hts i_X12_goes_X12 hown hK hP (hts (.fieldLink RX12 153 "StatementRules2Model" "broken" "[Z") k_X12_goes_fieldLink_RX12_153_SRModel_broken_Z) dX12_goes_5 ?_
    refine lv_iload_n hx hb dX12_goes_8 rfl (lv_at hl 1 rfl) ?_
    refine lv_iconst (v := 1) hx hb dX12_goes_9 (by decide) ?_
    obtain ⟨b3, hf⟩ := hf_ite hf
    refine rS_50 (v := 1) hx hb hK hP hD hS b3 dX12_goes_10 rfl (fun H locs hP hD hS => ?_)
    refine lv_goto (tgt := 21) hx hb dX12_goes_11 (by decide) ?_
    obtain rfl := Option.some.inj hf
    exact W.vret hx hb hr (fun t ht hW => ⟨⟨(), rfl, trivial, by rw [ht]; exact hP, va_K.moved hW.alike hK, hD⟩, hS.F ht⟩) hS.2.2 dX12_goes_21
theorem k_X12_pend_fieldLink_RX12_377_SRModel_walls_I : Cond.fieldLink RX12 377 "StatementRules2Model" "walls" "I" ∈ wzX12_pend := List.mem_cons_of_mem _ (List.mem_append_left _ (List.mem_of_getElem? (i := 0) rfl))
theorem i_X12_pend_X12 : ∀ w ∈ wsX120, w ∈ wzX12_pend := fun _ h => List.mem_cons_of_mem _ (List.mem_append_right _ (List.mem_append_left _ (h)))
theorem k_X12_pend_fieldLink_RX12_162_SRModel_wallGoals_I : Cond.fieldLink RX12 162 "StatementRules2Model" "wallGoals" "[I" ∈ wzX12_pend := List.mem_cons_of_mem _ (List.mem_append_left _ (List.mem_of_getElem? (i := 1) rfl))
theorem k_X12_pend_fieldLink_RX12_165_SRModel_pendGoal_I : Cond.fieldLink RX12 165 "StatementRules2Model" "pendGoal" "[I" ∈ wzX12_pend := List.mem_cons_of_mem _ (List.mem_append_left _ (List.mem_of_getElem? (i := 2) rfl))
theorem k_X12_pend_fieldLink_RX12_384_SRModel_pends_I : Cond.fieldLink RX12 384 "StatementRules2Model" "pends" "I" ∈ wzX12_pend := List.mem_cons_of_mem _ (List.mem_append_left _ (List.mem_of_getElem? (i := 3) rfl))
theorem k_X12_pend_fieldLink_RX12_168_SRModel_pendBreak_Z : Cond.fieldLink RX12 168 "StatementRules2Model" "pendBreak" "[Z" ∈ wzX12_pend := List.mem_cons_of_mem _ (List.mem_append_left _ (List.mem_of_getElem? (i := 4) rfl))
theorem k_X12_pend_fieldLink_RX12_171_SRModel_pendTry_I : Cond.fieldLink RX12 171 "StatementRules2Model" "pendTry" "[I" ∈ wzX12_pend := List.mem_cons_of_mem _ (List.mem_append_left _ (List.mem_of_getElem? (i := 5) rfl))
theorem k_X12_pend_fieldLink_RX12_159_SRModel_wallTry_I : Cond.fieldLink RX12 159 "StatementRules2Model" "wallTry" "[I" ∈ wzX12_pend := List.mem_cons_of_mem _ (List.mem_append_left _ (List.mem_of_getElem? (i := 6) rfl))
set_option maxHeartbeats 4000000 in
set_option maxRecDepth 100000 in
theorem j_X12_pend_22 {p : Program} {e : Env} {s : State} {m : MethodId} {args : Array Value} {below : List Frame} {meth : Method} {c : Code} {A : Nat → Prop} (l : Launch) (dC : Nat → ClassId) (dI : Nat → Nat → Nat) (Q : RQ) (N : Nat) (R : RS) (hx : p.tables.exec = Jvm.exec) (hb : c.code = cX12_pend) (hr : meth.sig.returnType = none) (hml : c.maxLocals = 3) (hown : s.vm.findClass RX12 = some m.cls) (hts : ∀ w ∈ wzX12_pend, w.before args s = true) (hlocks : meth.locks = false) (hZ : zAMB s) (hA : ∀ q : Nat, s.heap.size ≤ q → A q) (hK : va_K (dC, dI) vwCl (rT Q) s) : ∀ (σ : RS) (x1 : Int32) (x2 : Int32) (H : Heap) (locs : List Loc) (ls : Array Slot), f_X12_pend_22 N σ x1 x2 = some R → va_P (dC, dI) vwCl (rW Q σ) H → va_D A (rW Q σ) → va_S A s.heap H locs → lv_has ls 3 [(0, .ref Q.h0), (1, .int x1), (2, .int x2)] → W p l e ({ frames := 2, cells := 0, slots := 0, locals := 120 }) s m args below meth c H locs 0 0 (MQ below (va_Qv (fun (_ : Unit) => True) (fun (_ : Unit) (t : State) => zPost dC dI A (rW Q R) (rT Q) t) A) args s 0 0 A) (F0 m 22 ls []) := by
  intro σ x1 x2 H locs ls hf hP hD hS hl
  unfold f_X12_pend_22 at hf
  refine lv_aload_n hx hb dX12_pend_22 rfl (lv_at hl 0 rfl) ?_
  refine lv_iload_n hx hb dX12_pend_23 rfl (lv_at hl 1 rfl) ?_
  refine lv_iload_n hx hb dX12_pend_24 rfl (lv_at hl 2 rfl) ?_
  obtain ⟨p2, hcp2, hf⟩ := hf_bind hf
  have hFc := r_free hD hS hA
  refine va_callv (va_runV (As := [.int x1, .int x2]) (rest := []) ⟨hx, hb, hml, hown, hts⟩ (c_X12_goes l dC dI _ Q N σ x1 x2 p2 hcp2) (cwV 2 hts hX12_pend_X12_goes_v380 rfl rfl rfl (by decide +kernel) ⟨Nat.le_of_ble_eq_true rfl, Nat.le_of_ble_eq_true rfl⟩) ⟨zPre.blind, va_recv hK hP (ci := 11) (q0 := 0) rfl rfl, zPre.go hZ hP hK hD⟩ rfl rfl hl.1 rfl (lv_room (Nat.le_of_ble_eq_true rfl)) dX12_pend_25 ⟨Nat.le_of_ble_eq_true rfl, Nat.le_of_ble_eq_true rfl⟩) hS (fun q _ h => hFc q h) hFc (fun u9 t9 H1 locs ht hvm hw hB hz1 hk1 hS => ?_)
  obtain ⟨hP, hK1, hD1⟩ := hB
  rw [ht] at hP
  have hD := hD1.weaken (fun _ _ _ h => hFc _ h)
  generalize H1 = H at hP hS ⊢
  obtain rfl := Option.some.inj hf
  exact W.vret hx hb hr (fun t ht hW => ⟨⟨(), rfl, trivial, by rw [ht]; exact hP, va_K.moved hW.alike hK, hD⟩, hS.F ht⟩) hS.2.2 dX12_pend_28
set_option maxHeartbeats 4000000 in
set_option maxRecDepth 100000 in
theorem c_X12_pend (l : Launch) (dC : Nat → ClassId) (dI : Nat → Nat → Nat) (sz : Nat) (Q : RQ) (N : Nat) (σ : RS) (x1 : Int32) (x2 : Int32) (R : RS) (hf : f_X12_pend N σ x1 x2 = some R) : Met l yX12_pend wzX12_pend ({ frames := 2, cells := 0, slots := 0, locals := 120 }) (va_Pc [.ref Q.h0, .int x1, .int x2] (zPre dC dI sz (rW Q σ) (rT Q))) (va_Qv (fun (_ : Unit) => True) (fun (_ : Unit) (t : State) => zPost dC dI (va_A (rW Q σ) sz) (rW Q R) (rT Q) t) (va_A (rW Q σ) sz)) 0 0 (va_A (rW Q σ) sz) := by
  refine Met.ofW (cc := cX12_pend) (maxL := 3) (ret := none) (by decide) rfl ?_
  intro p e s m args below meth c s₁ B hml hv
  obtain ⟨rfl, hsz, hZ, hP, hK, hD0⟩ := hv
  have hx := B.exec
  have hb := B.bytes
  have hr := B.returns
  have hts := atoms_spec (ws := wzX12_pend) B.pre
  have hown : s.vm.findClass RX12 = some m.cls := findClass_of_methodNamed B.named
  have hlocks := B.notSynchronized
  subst hsz
  have hD := hD0.self (sz := s.heap.size)
  generalize hAe : va_A (rW Q σ) s.heap.size = A at hD ⊢
  have hA : ∀ q : Nat, s.heap.size ≤ q → A q := fun q h => by rw [← hAe]; exact Or.inr h
  have hS : va_S A s.heap s.heap [] := va_S.rf
  have hl := lv_entry ([.ref Q.h0, .int x1, .int x2]) (n := 3) (Nat.le_of_ble_eq_true rfl)
  rw [lg_entry_eq]
  generalize (lg_sl ([.ref Q.h0, .int x1, .int x2]) ++ List.replicate (3 - (lg_sl ([.ref Q.h0, .int x1, .int x2])).length) Slot.unset).toArray = ls at hl ⊢
  have hl : lv_has ls 3 [(0, .ref Q.h0), (1, .int x1), (2, .int x2)] := hl
  unfold f_X12_pend at hf
  refine lv_aload_n hx hb dX12_pend_0 rfl (lv_at hl 0 rfl) ?_
  refine rG_56 (v := (σ.i 56)) hx hb hts i_X12_pend_X12 hown hK hP (hts (.fieldLink RX12 377 "StatementRules2Model" "walls" "I") k_X12_pend_fieldLink_RX12_377_SRModel_walls_I) dX12_pend_1 rfl ?_
  refine lv_if_eq (tgt := 22) hx hb dX12_pend_4 (by decide) (fun c1 => ?_) (fun c1 => ?_)
  ·
    replace hf := (if_pos c1).symm.trans hf
    exact j_X12_pend_22 l dC dI Q N R hx hb hr hml hown hts hlocks hZ hA hK σ x1 x2 _ _ _ hf hP hD hS (lv_sub hl [0, 1, 2] rfl)
  ·
    replace hf := (if_neg c1).symm.trans hf
    refine lv_iload_n hx hb dX12_pend_7 rfl (lv_at hl 1 rfl) ?_
    refine lv_aload_n hx hb dX12_pend_8 rfl (lv_at hl 0 rfl) ?_
    refine rG_58 hx hb hts i_X12_pend_X12 hown hK hP (hts (.fieldLink RX12 162 "StatementRules2Model" "wallGoals" "[I") k_X12_pend_fieldLink_RX12_162_SRModel_wallGoals_I) dX12_pend_9 ?_
    refine lv_aload_n hx hb dX12_pend_12 rfl (lv_at hl 0 rfl) ?_
    refine rG_56 (v := (σ.i 56)) hx hb hts i_X12_pend_X12 hown hK hP (hts (.fieldLink RX12 377 "StatementRules2Model" "walls" "I") k_X12_pend_fieldLink_RX12_377_SRModel_walls_I) dX12_pend_13 rfl ?_
    refine lv_iconst (v := 1) hx hb dX12_pend_16 (by decide) ?_
    refine lv_isub hx hb dX12_pend_17 ?_
    obtain ⟨b4, hf⟩ := hf_ite hf
    refine rL_58 (v := (σ.a 58 ((((σ.i 56) - 1) : Int32).toNatClampNeg))) hx hb hK hP b4 dX12_pend_18 rfl ?_
    refine lv_icmp_lt (tgt := 29) hx hb dX12_pend_19 (by decide) (fun c5 => ?_) (fun c5 => ?_)
    ·
      replace hf := (if_pos c5).symm.trans hf
      refine lv_aload_n hx hb dX12_pend_29 rfl (lv_at hl 0 rfl) ?_
      refine rG_60 hx hb hts i_X12_pend_X12 hown hK hP (hts (.fieldLink RX12 165 "StatementRules2Model" "pendGoal" "[I") k_X12_pend_fieldLink_RX12_165_SRModel_pendGoal_I) dX12_pend_30 ?_
      refine lv_aload_n hx hb dX12_pend_33 rfl (lv_at hl 0 rfl) ?_
      refine rG_59 (v := (σ.i 59)) hx hb hts i_X12_pend_X12 hown hK hP (hts (.fieldLink RX12 384 "StatementRules2Model" "pends" "I") k_X12_pend_fieldLink_RX12_384_SRModel_pends_I) dX12_pend_34 rfl ?_
      refine lv_iload_n hx hb dX12_pend_37 rfl (lv_at hl 1 rfl) ?_
      obtain ⟨b6, hf⟩ := hf_ite hf
      refine rS_60 hx hb hK hP hD hS b6 dX12_pend_38 (fun H locs hP hD hS => ?_)
      refine lv_aload_n hx hb dX12_pend_39 rfl (lv_at hl 0 rfl) ?_
      refine rG_61 hx hb hts i_X12_pend_X12 hown hK hP (hts (.fieldLink RX12 168 "StatementRules2Model" "pendBreak" "[Z") k_X12_pend_fieldLink_RX12_168_SRModel_pendBreak_Z) dX12_pend_40 ?_
      refine lv_aload_n hx hb dX12_pend_43 rfl (lv_at hl 0 rfl) ?_
      refine rG_59 (v := (σ.i 59)) hx hb hts i_X12_pend_X12 hown hK hP (hts (.fieldLink RX12 384 "StatementRules2Model" "pends" "I") k_X12_pend_fieldLink_RX12_384_SRModel_pends_I) dX12_pend_44 rfl ?_
      refine lv_iload_n hx hb dX12_pend_47 rfl (lv_at hl 2 rfl) ?_
      refine rS_61 (v := (vp_nar .boolean x2)) hx hb hK hP hD hS b6 dX12_pend_48 rfl (fun H locs hP hD hS => ?_)
      refine lv_aload_n hx hb dX12_pend_49 rfl (lv_at hl 0 rfl) ?_
      refine rG_62 hx hb hts i_X12_pend_X12 hown hK hP (hts (.fieldLink RX12 171 "StatementRules2Model" "pendTry" "[I") k_X12_pend_fieldLink_RX12_171_SRModel_pendTry_I) dX12_pend_50 ?_
      refine lv_aload_n hx hb dX12_pend_53 rfl (lv_at hl 0 rfl) ?_
      refine rG_59 (v := (σ.i 59)) hx hb hts i_X12_pend_X12 hown hK hP (hts (.fieldLink RX12 384 "StatementRules2Model" "pends" "I") k_X12_pend_fieldLink_RX12_384_SRModel_pends_I) dX12_pend_54 rfl ?_
      refine lv_aload_n hx hb dX12_pend_57 rfl (lv_at hl 0 rfl) ?_
      refine rG_57 hx hb hts i_X12_pend_X12 hown hK hP (hts (.fieldLink RX12 159 "StatementRules2Model" "wallTry" "[I") k_X12_pend_fieldLink_RX12_159_SRModel_wallTry_I) dX12_pend_58 ?_
      refine lv_aload_n hx hb dX12_pend_61 rfl (lv_at hl 0 rfl) ?_
      refine rG_56 (v := (σ.i 56)) hx hb hts i_X12_pend_X12 hown hK hP (hts (.fieldLink RX12 377 "StatementRules2Model" "walls" "I") k_X12_pend_fieldLink_RX12_377_SRModel_walls_I) dX12_pend_62 rfl ?_
      refine lv_iconst (v := 1) hx hb dX12_pend_65 (by decide) ?_
      refine lv_isub hx hb dX12_pend_66 ?_
      refine rL_57 (v := (σ.a 57 ((((σ.i 56) - 1) : Int32).toNatClampNeg))) hx hb hK hP b4 dX12_pend_67 rfl ?_
      refine rS_62 hx hb hK hP hD hS b6 dX12_pend_68 (fun H locs hP hD hS => ?_)
      refine lv_aload_n hx hb dX12_pend_69 rfl (lv_at hl 0 rfl) ?_
      refine lv_dup hx hb dX12_pend_70 rfl ?_
      refine rG_59 (v := (σ.i 59)) hx hb hts i_X12_pend_X12 hown hK hP (hts (.fieldLink RX12 384 "StatementRules2Model" "pends" "I") k_X12_pend_fieldLink_RX12_384_SRModel_pends_I) dX12_pend_71 rfl ?_
      refine lv_iconst (v := 1) hx hb dX12_pend_74 (by decide) ?_
      refine lv_iadd hx hb dX12_pend_75 ?_
      refine rP_59 hx hb hts i_X12_pend_X12 hown hK hP hD hS (hts (.fieldLink RX12 384 "StatementRules2Model" "pends" "I") k_X12_pend_fieldLink_RX12_384_SRModel_pends_I) dX12_pend_76 (fun H locs hP hD hS => ?_)
      obtain rfl := Option.some.inj hf
      exact W.vret hx hb hr (fun t ht hW => ⟨⟨(), rfl, trivial, by rw [ht]; exact hP, va_K.moved hW.alike hK, hD⟩, hS.F ht⟩) hS.2.2 dX12_pend_79
    ·
      replace hf := (if_neg c5).symm.trans hf
      exact j_X12_pend_22 l dC dI Q N R hx hb hr hml hown hts hlocks hZ hA hK σ x1 x2 _ _ _ hf hP hD hS (lv_sub hl [0, 1, 2] rfl)
