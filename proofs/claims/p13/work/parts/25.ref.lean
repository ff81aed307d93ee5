theorem k_X12_got_fieldLink_RX12_132_SRModel_seenCaught_Z : Cond.fieldLink RX12 132 "StatementRules2Model" "seenCaught" "[Z" ∈ wzX12_got := List.mem_cons_of_mem _ (List.mem_append_left _ (List.mem_of_getElem? (i := 0) rfl))
theorem i_X12_got_X12 : ∀ w ∈ wsX120, w ∈ wzX12_got := fun _ h => List.mem_cons_of_mem _ (List.mem_append_right _ (List.mem_append_left _ (h)))
theorem k_X12_got_fieldLink_RX12_129_SRModel_seenSlot_I : Cond.fieldLink RX12 129 "StatementRules2Model" "seenSlot" "[I" ∈ wzX12_got := List.mem_cons_of_mem _ (List.mem_append_left _ (List.mem_of_getElem? (i := 1) rfl))
set_option maxHeartbeats 4000000 in
set_option maxRecDepth 100000 in
theorem j_X12_got_22 {p : Program} {e : Env} {s : State} {m : MethodId} {args : Array Value} {below : List Frame} {meth : Method} {c : Code} {A : Nat → Prop} (l : Launch) (dC : Nat → ClassId) (dI : Nat → Nat → Nat) (Q : RQ) (N : Nat) (R : Int32 × RS) (hx : p.tables.exec = Jvm.exec) (hb : c.code = cX12_got) (hr : meth.sig.returnType = (some .int)) (hml : c.maxLocals = 5) (hown : s.vm.findClass RX12 = some m.cls) (hts : ∀ w ∈ wzX12_got, w.before args s = true) (hlocks : meth.locks = false) (hZ : zAMB s) (hA : ∀ q : Nat, s.heap.size ≤ q → A q) (hK : va_K (dC, dI) vwCl (rT Q) s) : ∀ (σ : RS) (x3 : Int32) (H : Heap) (locs : List Loc) (ls : Array Slot), f_X12_got_22 N σ x3 = some R → va_P (dC, dI) vwCl (rW Q σ) H → va_D A (rW Q σ) → va_S A s.heap H locs → lv_has ls 5 [(0, .ref Q.h0), (3, .int x3)] → W p l e ({ frames := 2, cells := 0, slots := 0, locals := 120 }) s m args below meth c H locs 0 0 (MQ below (va_Qi (fun (r : Int32) (_ : Unit) => r = R.1) (fun (_ : Unit) (t : State) => zPost dC dI A (rW Q R.2) (rT Q) t) A) args s 0 0 A) (F0 m 22 ls []) := by
  intro σ x3 H locs ls hf hP hD hS hl
  unfold f_X12_got_22 at hf
  refine lv_aload_n hx hb dX12_got_22 rfl (lv_at hl 0 rfl) ?_
  refine lv_iconst (v := 3) hx hb dX12_got_23 (by decide) ?_
  refine lv_iload_n hx hb dX12_got_24 rfl (lv_at hl 1 rfl) ?_
  obtain ⟨p4, hcp4, hf⟩ := hf_bind hf
  have hFc := r_free hD hS hA
  refine va_callv (va_runV (As := [.int 3, .int x3]) (rest := []) ⟨hx, hb, hml, hown, hts⟩ (c_X12_fail l dC dI _ Q N σ 3 x3 p4 hcp4) (cwV 2 hts hX12_got_X12_fail_v337 rfl rfl rfl (by decide +kernel) ⟨Nat.le_of_ble_eq_true rfl, Nat.le_of_ble_eq_true rfl⟩) ⟨zPre.blind, va_recv hK hP (ci := 11) (q0 := 0) rfl rfl, zPre.go hZ hP hK hD⟩ rfl rfl hl.1 rfl (lv_room (Nat.le_of_ble_eq_true rfl)) dX12_got_25 ⟨Nat.le_of_ble_eq_true rfl, Nat.le_of_ble_eq_true rfl⟩) hS (fun q _ h => hFc q h) hFc (fun u9 t9 H1 locs ht hvm hw hB hz1 hk1 hS => ?_)
  obtain ⟨hP, hK1, hD1⟩ := hB
  rw [ht] at hP
  have hD := hD1.weaken (fun _ _ _ h => hFc _ h)
  generalize H1 = H at hP hS ⊢
  refine lv_iconst (v := (-1)) hx hb dX12_got_28 (by decide) ?_
  obtain rfl := Option.some.inj hf
  exact W.iret (v := (-1)) hx hb hr (fun t ht hW => ⟨⟨(-1), (), rfl, rfl, by rw [ht]; exact hP, va_K.moved hW.alike hK, hD⟩, hS.F ht⟩) hS.2.2 dX12_got_29
set_option maxHeartbeats 4000000 in
set_option maxRecDepth 100000 in
theorem c_X12_got (l : Launch) (dC : Nat → ClassId) (dI : Nat → Nat → Nat) (sz : Nat) (Q : RQ) (N : Nat) (σ : RS) (x1 : Int64) (x3 : Int32) (R : Int32 × RS) (hf : f_X12_got N σ x1 x3 = some R) : Met l yX12_got wzX12_got ({ frames := 2, cells := 0, slots := 0, locals := 120 }) (va_Pc [.ref Q.h0, .long x1, .int x3] (zPre dC dI sz (rW Q σ) (rT Q))) (va_Qi (fun (r : Int32) (_ : Unit) => r = R.1) (fun (_ : Unit) (t : State) => zPost dC dI (va_A (rW Q σ) sz) (rW Q R.2) (rT Q) t) (va_A (rW Q σ) sz)) 0 0 (va_A (rW Q σ) sz) := by
  refine Met.ofW (cc := cX12_got) (maxL := 5) (ret := (some .int)) (by decide) rfl ?_
  intro p e s m args below meth c s₁ B hml hv
  obtain ⟨rfl, hsz, hZ, hP, hK, hD0⟩ := hv
  have hx := B.exec
  have hb := B.bytes
  have hr := B.returns
  have hts := atoms_spec (ws := wzX12_got) B.pre
  have hown : s.vm.findClass RX12 = some m.cls := findClass_of_methodNamed B.named
  have hlocks := B.notSynchronized
  subst hsz
  have hD := hD0.self (sz := s.heap.size)
  generalize hAe : va_A (rW Q σ) s.heap.size = A at hD ⊢
  have hA : ∀ q : Nat, s.heap.size ≤ q → A q := fun q h => by rw [← hAe]; exact Or.inr h
  have hS : va_S A s.heap s.heap [] := va_S.rf
  have hl := lv_entry ([.ref Q.h0, .long x1, .int x3]) (n := 5) (Nat.le_of_ble_eq_true rfl)
  rw [lg_entry_eq]
  generalize (lg_sl ([.ref Q.h0, .long x1, .int x3]) ++ List.replicate (5 - (lg_sl ([.ref Q.h0, .long x1, .int x3])).length) Slot.unset).toArray = ls at hl ⊢
  have hl : lv_has ls 5 [(0, .ref Q.h0), (1, .long x1), (3, .int x3)] := hl
  unfold f_X12_got at hf
  refine lv_aload_n hx hb dX12_got_0 rfl (lv_at hl 0 rfl) ?_
  refine lv_lload_n hx hb dX12_got_1 rfl (lv_at hl 1 rfl) ?_
  obtain ⟨p1, hcp1, hf⟩ := hf_bind hf
  have hFc := r_free hD hS hA
  refine va_calli (va_runV (As := [.long x1]) (rest := []) ⟨hx, hb, hml, hown, hts⟩ (c_X12_seenAs l dC dI _ Q N σ x1 p1 hcp1) (cwV 1 hts hX12_got_X12_seenAs_v471 rfl rfl rfl (by decide +kernel) ⟨Nat.le_of_ble_eq_true rfl, Nat.le_of_ble_eq_true rfl⟩) ⟨zPre.blind, va_recv hK hP (ci := 11) (q0 := 0) rfl rfl, zPre.go hZ hP hK hD⟩ rfl rfl hl.1 rfl (lv_room (Nat.le_of_ble_eq_true rfl)) dX12_got_2 ⟨Nat.le_of_ble_eq_true rfl, Nat.le_of_ble_eq_true rfl⟩) hS (fun q _ h => hFc q h) hFc (fun r2 u9 t9 H1 locs ht hvm hw hB hz1 hk1 hS => ?_)
  obtain ⟨hP, hK1, hD1⟩ := hB
  rw [ht] at hP
  have hD := hD1.weaken (fun _ _ _ h => hFc _ h)
  generalize H1 = H at hP hS ⊢
  obtain rfl : r2 = p1.1 := hw
  refine lv_istore (lv' := [(4, .int p1.1), (0, .ref Q.h0), (1, .long x1), (3, .int x3)]) hx hb dX12_got_5 hl (by decide) rfl (fun ls hl => ?_)
  refine lv_iload hx hb dX12_got_7 (lv_at hl 0 rfl) ?_
  refine lv_if_lt (tgt := 22) hx hb dX12_got_9 (by decide) (fun c3 => ?_) (fun c3 => ?_)
  ·
    replace hf := (if_pos c3).symm.trans hf
    exact j_X12_got_22 l dC dI Q N R hx hb hr hml hown hts hlocks hZ hA hK p1.2 x3 _ _ _ hf hP hD hS (lv_sub hl [1, 3] rfl)
  ·
    replace hf := (if_neg c3).symm.trans hf
    refine lv_aload_n hx hb dX12_got_12 rfl (lv_at hl 1 rfl) ?_
    refine rG_41 hx hb hts i_X12_got_X12 hown hK hP (hts (.fieldLink RX12 132 "StatementRules2Model" "seenCaught" "[Z") k_X12_got_fieldLink_RX12_132_SRModel_seenCaught_Z) dX12_got_13 ?_
    refine lv_iload hx hb dX12_got_16 (lv_at hl 0 rfl) ?_
    obtain ⟨b6, hf⟩ := hf_ite hf
    refine rL_41 (v := (p1.2.a 41 ((p1.1 : Int32).toNatClampNeg))) hx hb hK hP b6 dX12_got_18 rfl ?_
    refine lv_if_eq (tgt := 30) hx hb dX12_got_19 (by decide) (fun c7 => ?_) (fun c7 => ?_)
    ·
      replace hf := (if_pos c7).symm.trans hf
      refine lv_aload_n hx hb dX12_got_30 rfl (lv_at hl 1 rfl) ?_
      refine rG_40 hx hb hts i_X12_got_X12 hown hK hP (hts (.fieldLink RX12 129 "StatementRules2Model" "seenSlot" "[I") k_X12_got_fieldLink_RX12_129_SRModel_seenSlot_I) dX12_got_31 ?_
      refine lv_iload hx hb dX12_got_34 (lv_at hl 0 rfl) ?_
      refine rL_40 (v := (p1.2.a 40 ((p1.1 : Int32).toNatClampNeg))) hx hb hK hP b6 dX12_got_36 rfl ?_
      obtain rfl := Option.some.inj hf
      exact W.iret (v := (p1.2.a 40 ((p1.1 : Int32).toNatClampNeg))) hx hb hr (fun t ht hW => ⟨⟨(p1.2.a 40 ((p1.1 : Int32).toNatClampNeg)), (), rfl, rfl, by rw [ht]; exact hP, va_K.moved hW.alike hK, hD⟩, hS.F ht⟩) hS.2.2 dX12_got_37
    ·
      replace hf := (if_neg c7).symm.trans hf
      exact j_X12_got_22 l dC dI Q N R hx hb hr hml hown hts hlocks hZ hA hK p1.2 x3 _ _ _ hf hP hD hS (lv_sub hl [1, 3] rfl)
theorem k_X12_named_fieldLink_RX12_177_SRModel_fs_I : Cond.fieldLink RX12 177 "StatementRules2Model" "fs" "[I" ∈ wzX12_named := List.mem_cons_of_mem _ (List.mem_append_left _ (List.mem_of_getElem? (i := 0) rfl))
theorem i_X12_named_X12 : ∀ w ∈ wsX120, w ∈ wzX12_named := fun _ h => List.mem_cons_of_mem _ (List.mem_append_right _ (List.mem_append_left _ (h)))
theorem k_X12_named_fieldLink_RX12_327_SRModel_name_J : Cond.fieldLink RX12 327 "StatementRules2Model" "name" "J" ∈ wzX12_named := List.mem_cons_of_mem _ (List.mem_append_left _ (List.mem_of_getElem? (i := 1) rfl))
theorem k_X12_named_fieldLink_RX12_304_SRModel_from_I : Cond.fieldLink RX12 304 "StatementRules2Model" "from" "I" ∈ wzX12_named := List.mem_cons_of_mem _ (List.mem_append_left _ (List.mem_of_getElem? (i := 2) rfl))
theorem k_X12_named_fieldLink_RX12_307_SRModel_tok_I : Cond.fieldLink RX12 307 "StatementRules2Model" "tok" "I" ∈ wzX12_named := List.mem_cons_of_mem _ (List.mem_append_left _ (List.mem_of_getElem? (i := 3) rfl))
theorem k_X12_named_fieldLink_RX12_291_SRModel_fault_I : Cond.fieldLink RX12 291 "StatementRules2Model" "fault" "I" ∈ wzX12_named := List.mem_cons_of_mem _ (List.mem_append_left _ (List.mem_of_getElem? (i := 4) rfl))
theorem k_X12_named_fieldLink_RX12_180_SRModel_fp_I : Cond.fieldLink RX12 180 "StatementRules2Model" "fp" "[I" ∈ wzX12_named := List.mem_cons_of_mem _ (List.mem_append_left _ (List.mem_of_getElem? (i := 5) rfl))
theorem k_X12_named_fieldLink_RX12_147_SRModel_breaks_I : Cond.fieldLink RX12 147 "StatementRules2Model" "breaks" "[I" ∈ wzX12_named := List.mem_cons_of_mem _ (List.mem_append_left _ (List.mem_of_getElem? (i := 6) rfl))
theorem k_X12_named_fieldLink_RX12_358_SRModel_codes_I : Cond.fieldLink RX12 358 "StatementRules2Model" "codes" "I" ∈ wzX12_named := List.mem_cons_of_mem _ (List.mem_append_left _ (List.mem_of_getElem? (i := 7) rfl))
theorem k_X12_named_fieldLink_RX12_367_SRModel_goals_I : Cond.fieldLink RX12 367 "StatementRules2Model" "goals" "I" ∈ wzX12_named := List.mem_cons_of_mem _ (List.mem_append_left _ (List.mem_of_getElem? (i := 8) rfl))
theorem k_X12_named_fieldLink_RX12_396_SRModel_res_Z : Cond.fieldLink RX12 396 "StatementRules2Model" "res" "Z" ∈ wzX12_named := List.mem_cons_of_mem _ (List.mem_append_left _ (List.mem_of_getElem? (i := 9) rfl))
theorem k_X12_named_fieldLink_RX12_153_SRModel_broken_Z : Cond.fieldLink RX12 153 "StatementRules2Model" "broken" "[Z" ∈ wzX12_named := List.mem_cons_of_mem _ (List.mem_append_left _ (List.mem_of_getElem? (i := 10) rfl))
set_option maxHeartbeats 4000000 in
set_option maxRecDepth 100000 in
theorem j_X12_named_207 {p : Program} {e : Env} {s : State} {m : MethodId} {args : Array Value} {below : List Frame} {meth : Method} {c : Code} {A : Nat → Prop} (l : Launch) (dC : Nat → ClassId) (dI : Nat → Nat → Nat) (Q : RQ) (N : Nat) (R : RS) (hx : p.tables.exec = Jvm.exec) (hb : c.code = cX12_named) (hr : meth.sig.returnType = none) (hml : c.maxLocals = 7) (hown : s.vm.findClass RX12 = some m.cls) (hts : ∀ w ∈ wzX12_named, w.before args s = true) (hlocks : meth.locks = false) (hZ : zAMB s) (hA : ∀ q : Nat, s.heap.size ≤ q → A q) (hK : va_K (dC, dI) vwCl (rT Q) s) : ∀ (σ : RS) (x1 : Int32) (x5 : Int32) (x6 : Int32) (H : Heap) (locs : List Loc) (ls : Array Slot), f_X12_named_207 N σ x1 x5 x6 = some R → va_P (dC, dI) vwCl (rW Q σ) H → va_D A (rW Q σ) → va_S A s.heap H locs → lv_has ls 7 [(0, .ref Q.h0), (1, .int x1), (5, .int x5), (6, .int x6)] → W p l e ({ frames := 5, cells := 0, slots := 0, locals := 300 }) s m args below meth c H locs 0 0 (MQ below (va_Qv (fun (_ : Unit) => True) (fun (_ : Unit) (t : State) => zPost dC dI A (rW Q R) (rT Q) t) A) args s 0 0 A) (F0 m 207 ls []) := by
  intro σ x1 x5 x6 H locs ls hf hP hD hS hl
  unfold f_X12_named_207 at hf
  refine lv_aload_n hx hb dX12_named_207 rfl (lv_at hl 0 rfl) ?_
  obtain ⟨p17, hcp17, hf⟩ := hf_bind hf
  have hFc := r_free hD hS hA
  refine va_callv (va_runV (As := []) (rest := []) ⟨hx, hb, hml, hown, hts⟩ (c_X12_next l dC dI _ Q N σ p17 hcp17) (cwV 0 hts hX12_named_X12_next_v345 rfl rfl rfl (by decide +kernel) ⟨Nat.le_of_ble_eq_true rfl, Nat.le_of_ble_eq_true rfl⟩) ⟨zPre.blind, va_recv hK hP (ci := 11) (q0 := 0) rfl rfl, zPre.go hZ hP hK hD⟩ rfl rfl hl.1 rfl (lv_room (Nat.le_of_ble_eq_true rfl)) dX12_named_208 ⟨Nat.le_of_ble_eq_true rfl, Nat.le_of_ble_eq_true rfl⟩) hS (fun q _ h => hFc q h) hFc (fun u9 t9 H1 locs ht hvm hw hB hz1 hk1 hS => ?_)
  obtain ⟨hP, hK1, hD1⟩ := hB
  rw [ht] at hP
  have hD := hD1.weaken (fun _ _ _ h => hFc _ h)
  generalize H1 = H at hP hS ⊢
  refine lv_iload hx hb dX12_named_211 (lv_at hl 3 rfl) ?_
  refine lv_if_eq (tgt := 240) hx hb dX12_named_213 (by decide) (fun c19 => ?_) (fun c19 => ?_)
  ·
    replace hf := (if_pos c19).symm.trans hf
    refine lv_aload_n hx hb dX12_named_240 rfl (lv_at hl 0 rfl) ?_
    refine rG_66 hx hb hts i_X12_named_X12 hown hK hP (hts (.fieldLink RX12 180 "StatementRules2Model" "fp" "[I") k_X12_named_fieldLink_RX12_180_SRModel_fp_I) dX12_named_241 ?_
    refine lv_iload_n hx hb dX12_named_244 rfl (lv_at hl 1 rfl) ?_
    refine lv_iload hx hb dX12_named_245 (lv_at hl 2 rfl) ?_
    obtain ⟨b20, hf⟩ := hf_ite hf
    refine rS_66 hx hb hK hP hD hS b20 dX12_named_247 (fun H locs hP hD hS => ?_)
    refine lv_aload_n hx hb dX12_named_248 rfl (lv_at hl 0 rfl) ?_
    refine lv_iconst (v := 2) hx hb dX12_named_249 (by decide) ?_
    refine lv_bipush (v := 16) hx hb dX12_named_250 (by decide) ?_
    obtain ⟨p21, hcp21, hf⟩ := hf_bind hf
    have hFc := r_free hD hS hA
    refine va_callv (va_runV (As := [.int 2, .int 16]) (rest := []) ⟨hx, hb, hml, hown, hts⟩ (c_X12_then l dC dI _ Q N (RS.setA p17 66 ((x1 : Int32).toNatClampNeg) x5) 2 16 p21 hcp21) (cwV 2 hts hX12_named_X12_then_v393 rfl rfl rfl (by decide +kernel) ⟨Nat.le_of_ble_eq_true rfl, Nat.le_of_ble_eq_true rfl⟩) ⟨zPre.blind, va_recv hK hP (ci := 11) (q0 := 0) rfl rfl, zPre.go hZ hP hK hD⟩ rfl rfl hl.1 rfl (lv_room (Nat.le_of_ble_eq_true rfl)) dX12_named_252 ⟨Nat.le_of_ble_eq_true rfl, Nat.le_of_ble_eq_true rfl⟩) hS (fun q _ h => hFc q h) hFc (fun u9 t9 H1 locs ht hvm hw hB hz1 hk1 hS => ?_)
    obtain ⟨hP, hK1, hD1⟩ := hB
    rw [ht] at hP
    have hD := hD1.weaken (fun _ _ _ h => hFc _ h)
    generalize H1 = H at hP hS ⊢
    obtain rfl := Option.some.inj hf
    exact W.vret hx hb hr (fun t ht hW => ⟨⟨(), rfl, trivial, by rw [ht]; exact hP, va_K.moved hW.alike hK, hD⟩, hS.F ht⟩) hS.2.2 dX12_named_255
  ·
    replace hf := (if_neg c19).symm.trans hf
    refine lv_aload_n hx hb dX12_named_216 rfl (lv_at hl 0 rfl) ?_
    refine lv_bipush (v := 6) hx hb dX12_named_217 (by decide) ?_
    refine lv_iload hx hb dX12_named_219 (lv_at hl 2 rfl) ?_
    obtain ⟨p23, hcp23, hf⟩ := hf_bind hf
    have hFc := r_free hD hS hA
    refine va_calli (va_runV (As := [.int 6, .int x5]) (rest := []) ⟨hx, hb, hml, hown, hts⟩ (c_X12_emit l dC dI _ Q N p17 6 x5 p23 hcp23) (cwV 2 hts hX12_named_X12_emit_v464 rfl rfl rfl (by decide +kernel) ⟨Nat.le_of_ble_eq_true rfl, Nat.le_of_ble_eq_true rfl⟩) ⟨zPre.blind, va_recv hK hP (ci := 11) (q0 := 0) rfl rfl, zPre.go hZ hP hK hD⟩ rfl rfl hl.1 rfl (lv_room (Nat.le_of_ble_eq_true rfl)) dX12_named_221 ⟨Nat.le_of_ble_eq_true rfl, Nat.le_of_ble_eq_true rfl⟩) hS (fun q _ h => hFc q h) hFc (fun r24 u9 t9 H1 locs ht hvm hw hB hz1 hk1 hS => ?_)
    obtain ⟨hP, hK1, hD1⟩ := hB
    rw [ht] at hP
    have hD := hD1.weaken (fun _ _ _ h => hFc _ h)
    generalize H1 = H at hP hS ⊢
    obtain rfl : r24 = p23.1 := hw
    refine lv_pop hx hb dX12_named_224 rfl ?_
    refine lv_aload_n hx hb dX12_named_225 rfl (lv_at hl 0 rfl) ?_
    refine lv_bipush (v := 59) hx hb dX12_named_226 (by decide) ?_
    obtain ⟨p25, hcp25, hf⟩ := hf_bind hf
    have hFc := r_free hD hS hA
    refine va_calli (va_runV (As := [.int 59]) (rest := []) ⟨hx, hb, hml, hown, hts⟩ (c_X12_need l dC dI _ Q N p23.2 59 p25 hcp25) (cwV 1 hts hX12_named_X12_need_v355 rfl rfl rfl (by decide +kernel) ⟨Nat.le_of_ble_eq_true rfl, Nat.le_of_ble_eq_true rfl⟩) ⟨zPre.blind, va_recv hK hP (ci := 11) (q0 := 0) rfl rfl, zPre.go hZ hP hK hD⟩ rfl rfl hl.1 rfl (lv_room (Nat.le_of_ble_eq_true rfl)) dX12_named_228 ⟨Nat.le_of_ble_eq_true rfl, Nat.le_of_ble_eq_true rfl⟩) hS (fun q _ h => hFc q h) hFc (fun r26 u9 t9 H1 locs ht hvm hw hB hz1 hk1 hS => ?_)
    obtain ⟨hP, hK1, hD1⟩ := hB
    rw [ht] at hP
    have hD := hD1.weaken (fun _ _ _ h => hFc _ h)
    generalize H1 = H at hP hS ⊢
    obtain rfl : r26 = p25.1 := hw
    refine lv_pop hx hb dX12_named_231 rfl ?_
    refine lv_aload_n hx hb dX12_named_232 rfl (lv_at hl 0 rfl) ?_
    refine lv_iconst (v := 1) hx hb dX12_named_233 (by decide) ?_
    obtain ⟨p27, hcp27, hf⟩ := hf_bind hf
    have hFc := r_free hD hS hA
    refine va_callv (va_runV (As := [.int 1]) (rest := []) ⟨hx, hb, hml, hown, hts⟩ (c_X12_over l dC dI _ Q N p25.2 1 p27 hcp27) (cwV 1 hts hX12_named_X12_over_v490 rfl rfl rfl (by decide +kernel) ⟨Nat.le_of_ble_eq_true rfl, Nat.le_of_ble_eq_true rfl⟩) ⟨zPre.blind, va_recv hK hP (ci := 11) (q0 := 0) rfl rfl, zPre.go hZ hP hK hD⟩ rfl rfl hl.1 rfl (lv_room (Nat.le_of_ble_eq_true rfl)) dX12_named_234 ⟨Nat.le_of_ble_eq_true rfl, Nat.le_of_ble_eq_true rfl⟩) hS (fun q _ h => hFc q h) hFc (fun u9 t9 H1 locs ht hvm hw hB hz1 hk1 hS => ?_)
    obtain ⟨hP, hK1, hD1⟩ := hB
    rw [ht] at hP
    have hD := hD1.weaken (fun _ _ _ h => hFc _ h)
    generalize H1 = H at hP hS ⊢
    refine lv_goto (tgt := 255) hx hb dX12_named_237 (by decide) ?_
    obtain rfl := Option.some.inj hf
    exact W.vret hx hb hr (fun t ht hW => ⟨⟨(), rfl, trivial, by rw [ht]; exact hP, va_K.moved hW.alike hK, hD⟩, hS.F ht⟩) hS.2.2 dX12_named_255
set_option maxHeartbeats 4000000 in
set_option maxRecDepth 100000 in
theorem j_X12_named_183 {p : Program} {e : Env} {s : State} {m : MethodId} {args : Array Value} {below : List Frame} {meth : Method} {c : Code} {A : Nat → Prop} (l : Launch) (dC : Nat → ClassId) (dI : Nat → Nat → Nat) (Q : RQ) (N : Nat) (R : RS) (hx : p.tables.exec = Jvm.exec) (hb : c.code = cX12_named) (hr : meth.sig.returnType = none) (hml : c.maxLocals = 7) (hown : s.vm.findClass RX12 = some m.cls) (hts : ∀ w ∈ wzX12_named, w.before args s = true) (hlocks : meth.locks = false) (hZ : zAMB s) (hA : ∀ q : Nat, s.heap.size ≤ q → A q) (hK : va_K (dC, dI) vwCl (rT Q) s) : ∀ (σ : RS) (x1 : Int32) (x5 : Int32) (H : Heap) (locs : List Loc) (ls : Array Slot), f_X12_named_183 N σ x1 x5 = some R → va_P (dC, dI) vwCl (rW Q σ) H → va_D A (rW Q σ) → va_S A s.heap H locs → lv_has ls 7 [(0, .ref Q.h0), (1, .int x1), (5, .int x5)] → W p l e ({ frames := 5, cells := 0, slots := 0, locals := 300 }) s m args below meth c H locs 0 0 (MQ below (va_Qv (fun (_ : Unit) => True) (fun (_ : Unit) (t : State) => zPost dC dI A (rW Q R) (rT Q) t) A) args s 0 0 A) (F0 m 183 ls []) := by
  intro σ x1 x5 H locs ls hf hP hD hS hl
  unfold f_X12_named_183 at hf
  refine lv_aload_n hx hb dX12_named_183 rfl (lv_at hl 0 rfl) ?_
  refine lv_iconst (v := 1) hx hb dX12_named_184 (by decide) ?_
  refine lv_iconst (v := 0) hx hb dX12_named_185 (by decide) ?_
  obtain ⟨p14, hcp14, hf⟩ := hf_bind hf
  have hFc := r_free hD hS hA
  refine va_calli (va_runV (As := [.int 1, .int 0]) (rest := []) ⟨hx, hb, hml, hown, hts⟩ (c_X12_emit l dC dI _ Q N σ 1 0 p14 hcp14) (cwV 2 hts hX12_named_X12_emit_v464 rfl rfl rfl (by decide +kernel) ⟨Nat.le_of_ble_eq_true rfl, Nat.le_of_ble_eq_true rfl⟩) ⟨zPre.blind, va_recv hK hP (ci := 11) (q0 := 0) rfl rfl, zPre.go hZ hP hK hD⟩ rfl rfl hl.1 rfl (lv_room (Nat.le_of_ble_eq_true rfl)) dX12_named_186 ⟨Nat.le_of_ble_eq_true rfl, Nat.le_of_ble_eq_true rfl⟩) hS (fun q _ h => hFc q h) hFc (fun r15 u9 t9 H1 locs ht hvm hw hB hz1 hk1 hS => ?_)
  obtain ⟨hP, hK1, hD1⟩ := hB
  rw [ht] at hP
  have hD := hD1.weaken (fun _ _ _ h => hFc _ h)
  generalize H1 = H at hP hS ⊢
  obtain rfl : r15 = p14.1 := hw
  refine lv_pop hx hb dX12_named_189 rfl ?_
  refine lv_aload_n hx hb dX12_named_190 rfl (lv_at hl 0 rfl) ?_
  refine rG_10 (v := (p14.2.i 10)) hx hb hts i_X12_named_X12 hown hK hP (hts (.fieldLink RX12 307 "StatementRules2Model" "tok" "I") k_X12_named_fieldLink_RX12_307_SRModel_tok_I) dX12_named_191 rfl ?_
  refine lv_sipush (v := 307) hx hb dX12_named_194 (by decide) ?_
  refine lv_icmp_ne (tgt := 204) hx hb dX12_named_197 (by decide) (fun c16 => ?_) (fun c16 => ?_)
  ·
    replace hf := (if_neg c16).symm.trans hf
    refine lv_iconst (v := 0) hx hb dX12_named_204 (by decide) ?_
    refine lv_istore (lv' := [(6, .int 0), (0, .ref Q.h0), (1, .int x1), (5, .int x5)]) hx hb dX12_named_205 hl (by decide) rfl (fun ls hl => ?_)
    exact j_X12_named_207 l dC dI Q N R hx hb hr hml hown hts hlocks hZ hA hK p14.2 x1 x5 0 _ _ _ hf hP hD hS (lv_sub hl [1, 2, 3, 0] rfl)
  ·
    replace hf := (if_pos c16).symm.trans hf
    refine lv_iconst (v := 1) hx hb dX12_named_200 (by decide) ?_
    refine lv_goto (tgt := 205) hx hb dX12_named_201 (by decide) ?_
    refine lv_istore (lv' := [(6, .int 1), (0, .ref Q.h0), (1, .int x1), (5, .int x5)]) hx hb dX12_named_205 hl (by decide) rfl (fun ls hl => ?_)
    exact j_X12_named_207 l dC dI Q N R hx hb hr hml hown hts hlocks hZ hA hK p14.2 x1 x5 1 _ _ _ hf hP hD hS (lv_sub hl [1, 2, 3, 0] rfl)
set_option maxHeartbeats 4000000 in
set_option maxRecDepth 100000 in
theorem c_X12_named (l : Launch) (dC : Nat → ClassId) (dI : Nat → Nat → Nat) (sz : Nat) (Q : RQ) (N : Nat) (σ : RS) (x1 : Int32) (R : RS) (hf : f_X12_named N σ x1 = some R) : Met l yX12_named wzX12_named ({ frames := 5, cells := 0, slots := 0, locals := 300 }) (va_Pc [.ref Q.h0, .int x1] (zPre dC dI sz (rW Q σ) (rT Q))) (va_Qv (fun (_ : Unit) => True) (fun (_ : Unit) (t : State) => zPost dC dI (va_A (rW Q σ) sz) (rW Q R) (rT Q) t) (va_A (rW Q σ) sz)) 0 0 (va_A (rW Q σ) sz) := by
  refine Met.ofW (cc := cX12_named) (maxL := 7) (ret := none) (by decide) rfl ?_
  intro p e s m args below meth c s₁ B hml hv
  obtain ⟨rfl, hsz, hZ, hP, hK, hD0⟩ := hv
  have hx := B.exec
  have hb := B.bytes
  have hr := B.returns
  have hts := atoms_spec (ws := wzX12_named) B.pre
  have hown : s.vm.findClass RX12 = some m.cls := findClass_of_methodNamed B.named
  have hlocks := B.notSynchronized
  subst hsz
  have hD := hD0.self (sz := s.heap.size)
  generalize hAe : va_A (rW Q σ) s.heap.size = A at hD ⊢
  have hA : ∀ q : Nat, s.heap.size ≤ q → A q := fun q h => by rw [← hAe]; exact Or.inr h
  have hS : va_S A s.heap s.heap [] := va_S.rf
  have hl := lv_entry ([.ref Q.h0, .int x1]) (n := 7) (Nat.le_of_ble_eq_true rfl)
  rw [lg_entry_eq]
  generalize (lg_sl ([.ref Q.h0, .int x1]) ++ List.replicate (7 - (lg_sl ([.ref Q.h0, .int x1])).length) Slot.unset).toArray = ls at hl ⊢
  have hl : lv_has ls 7 [(0, .ref Q.h0), (1, .int x1)] := hl
  unfold f_X12_named at hf
  refine lv_aload_n hx hb dX12_named_0 rfl (lv_at hl 0 rfl) ?_
  refine rG_65 hx hb hts i_X12_named_X12 hown hK hP (hts (.fieldLink RX12 177 "StatementRules2Model" "fs" "[I") k_X12_named_fieldLink_RX12_177_SRModel_fs_I) dX12_named_1 ?_
  refine lv_iload_n hx hb dX12_named_4 rfl (lv_at hl 1 rfl) ?_
  obtain ⟨b1, hf⟩ := hf_ite hf
  refine rL_65 (v := (σ.a 65 ((x1 : Int32).toNatClampNeg))) hx hb hK hP b1 dX12_named_5 rfl ?_
  refine lv_iconst (v := 1) hx hb dX12_named_6 (by decide) ?_
  refine lv_icmp_ne (tgt := 67) hx hb dX12_named_7 (by decide) (fun c2 => ?_) (fun c2 => ?_)
  ·
    replace hf := (if_neg c2).symm.trans hf
    refine lv_aload_n hx hb dX12_named_67 rfl (lv_at hl 0 rfl) ?_
    refine rG_65 hx hb hts i_X12_named_X12 hown hK hP (hts (.fieldLink RX12 177 "StatementRules2Model" "fs" "[I") k_X12_named_fieldLink_RX12_177_SRModel_fs_I) dX12_named_68 ?_
    refine lv_iload_n hx hb dX12_named_71 rfl (lv_at hl 1 rfl) ?_
    refine rL_65 (v := (σ.a 65 ((x1 : Int32).toNatClampNeg))) hx hb hK hP b1 dX12_named_72 rfl ?_
    refine lv_iconst (v := 2) hx hb dX12_named_73 (by decide) ?_
    refine lv_icmp_ne (tgt := 102) hx hb dX12_named_74 (by decide) (fun c3 => ?_) (fun c3 => ?_)
    ·
      replace hf := (if_neg c3).symm.trans hf
      refine lv_aload_n hx hb dX12_named_102 rfl (lv_at hl 0 rfl) ?_
      refine rG_13 (v := σ.l) hx hb hts i_X12_named_X12 hown hK hP (hts (.fieldLink RX12 327 "StatementRules2Model" "name" "J") k_X12_named_fieldLink_RX12_327_SRModel_name_J) dX12_named_103 rfl ?_
      refine lv_lstore_n (lv' := [(2, .long σ.l), (0, .ref Q.h0), (1, .int x1)]) hx hb dX12_named_106 rfl hl (by decide) rfl (fun ls hl => ?_)
      refine lv_aload_n hx hb dX12_named_107 rfl (lv_at hl 1 rfl) ?_
      refine rG_11 (v := (σ.i 11)) hx hb hts i_X12_named_X12 hown hK hP (hts (.fieldLink RX12 304 "StatementRules2Model" "from" "I") k_X12_named_fieldLink_RX12_304_SRModel_from_I) dX12_named_108 rfl ?_
      refine lv_istore (lv' := [(4, .int (σ.i 11)), (2, .long σ.l), (0, .ref Q.h0), (1, .int x1)]) hx hb dX12_named_111 hl (by decide) rfl (fun ls hl => ?_)
      refine lv_aload_n hx hb dX12_named_113 rfl (lv_at hl 2 rfl) ?_
      obtain ⟨p4, hcp4, hf⟩ := hf_bind hf
      have hFc := r_free hD hS hA
      refine va_callv (va_runV (As := []) (rest := []) ⟨hx, hb, hml, hown, hts⟩ (c_X12_next l dC dI _ Q N σ p4 hcp4) (cwV 0 hts hX12_named_X12_next_v345 rfl rfl rfl (by decide +kernel) ⟨Nat.le_of_ble_eq_true rfl, Nat.le_of_ble_eq_true rfl⟩) ⟨zPre.blind, va_recv hK hP (ci := 11) (q0 := 0) rfl rfl, zPre.go hZ hP hK hD⟩ rfl rfl hl.1 rfl (lv_room (Nat.le_of_ble_eq_true rfl)) dX12_named_114 ⟨Nat.le_of_ble_eq_true rfl, Nat.le_of_ble_eq_true rfl⟩) hS (fun q _ h => hFc q h) hFc (fun u9 t9 H1 locs ht hvm hw hB hz1 hk1 hS => ?_)
      obtain ⟨hP, hK1, hD1⟩ := hB
      rw [ht] at hP
      have hD := hD1.weaken (fun _ _ _ h => hFc _ h)
      generalize H1 = H at hP hS ⊢
      refine lv_aload_n hx hb dX12_named_117 rfl (lv_at hl 2 rfl) ?_
      refine rG_10 (v := (p4.i 10)) hx hb hts i_X12_named_X12 hown hK hP (hts (.fieldLink RX12 307 "StatementRules2Model" "tok" "I") k_X12_named_fieldLink_RX12_307_SRModel_tok_I) dX12_named_118 rfl ?_
      refine lv_bipush (v := 58) hx hb dX12_named_121 (by decide) ?_
      refine lv_icmp_ne (tgt := 135) hx hb dX12_named_123 (by decide) (fun c6 => ?_) (fun c6 => ?_)
      ·
        replace hf := (if_neg c6).symm.trans hf
        refine lv_aload_n hx hb dX12_named_135 rfl (lv_at hl 2 rfl) ?_
        refine lv_lload_n hx hb dX12_named_136 rfl (lv_at hl 1 rfl) ?_
        refine lv_iload hx hb dX12_named_137 (lv_at hl 0 rfl) ?_
        obtain ⟨p7, hcp7, hf⟩ := hf_bind hf
        have hFc := r_free hD hS hA
        refine va_calli (va_runV (As := [.long σ.l, .int (σ.i 11)]) (rest := []) ⟨hx, hb, hml, hown, hts⟩ (c_X12_got l dC dI _ Q N p4 σ.l (σ.i 11) p7 hcp7) (cwV 2 hts hX12_named_X12_got_v517 rfl rfl rfl (by decide +kernel) ⟨Nat.le_of_ble_eq_true rfl, Nat.le_of_ble_eq_true rfl⟩) ⟨zPre.blind, va_recv hK hP (ci := 11) (q0 := 0) rfl rfl, zPre.go hZ hP hK hD⟩ rfl rfl hl.1 rfl (lv_room (Nat.le_of_ble_eq_true rfl)) dX12_named_139 ⟨Nat.le_of_ble_eq_true rfl, Nat.le_of_ble_eq_true rfl⟩) hS (fun q _ h => hFc q h) hFc (fun r8 u9 t9 H1 locs ht hvm hw hB hz1 hk1 hS => ?_)
        obtain ⟨hP, hK1, hD1⟩ := hB
        rw [ht] at hP
        have hD := hD1.weaken (fun _ _ _ h => hFc _ h)
        generalize H1 = H at hP hS ⊢
        obtain rfl : r8 = p7.1 := hw
        refine lv_istore (lv' := [(5, .int p7.1), (4, .int (σ.i 11)), (2, .long σ.l), (0, .ref Q.h0), (1, .int x1)]) hx hb dX12_named_142 hl (by decide) rfl (fun ls hl => ?_)
        refine lv_aload_n hx hb dX12_named_144 rfl (lv_at hl 3 rfl) ?_
        refine rG_15 (v := (p7.2.i 15)) hx hb hts i_X12_named_X12 hown hK hP (hts (.fieldLink RX12 291 "StatementRules2Model" "fault" "I") k_X12_named_fieldLink_RX12_291_SRModel_fault_I) dX12_named_145 rfl ?_
        refine lv_if_ne (tgt := 182) hx hb dX12_named_148 (by decide) (fun c9 => ?_) (fun c9 => ?_)
        ·
          replace hf := (if_neg c9).symm.trans hf
          obtain rfl := Option.some.inj hf
          exact W.vret hx hb hr (fun t ht hW => ⟨⟨(), rfl, trivial, by rw [ht]; exact hP, va_K.moved hW.alike hK, hD⟩, hS.F ht⟩) hS.2.2 dX12_named_182
        ·
          replace hf := (if_pos c9).symm.trans hf
          refine lv_aload_n hx hb dX12_named_151 rfl (lv_at hl 3 rfl) ?_
          refine lv_aload_n hx hb dX12_named_152 rfl (lv_at hl 3 rfl) ?_
          refine rG_10 (v := (p7.2.i 10)) hx hb hts i_X12_named_X12 hown hK hP (hts (.fieldLink RX12 307 "StatementRules2Model" "tok" "I") k_X12_named_fieldLink_RX12_307_SRModel_tok_I) dX12_named_153 rfl ?_
          refine lv_bipush (v := 61) hx hb dX12_named_156 (by decide) ?_
          refine lv_icmp_eq (tgt := 171) hx hb dX12_named_158 (by decide) (fun c10 => ?_) (fun c10 => ?_)
          ·
            replace hf := (if_pos c10).symm.trans hf
            refine lv_iconst (v := 1) hx hb dX12_named_171 (by decide) ?_
            refine lv_goto (tgt := 176) hx hb dX12_named_172 (by decide) ?_
            obtain ⟨p11, hcp11, hf⟩ := hf_bind hf
            have hFc := r_free hD hS hA
            refine va_calli (va_runV (As := [.int 1]) (rest := []) ⟨hx, hb, hml, hown, hts⟩ (c_X12_can l dC dI _ Q N p7.2 1 p11 hcp11) (cwV 1 hts hX12_named_X12_can_v341 rfl rfl rfl (by decide +kernel) ⟨Nat.le_of_ble_eq_true rfl, Nat.le_of_ble_eq_true rfl⟩) ⟨zPre.blind, va_recv hK hP (ci := 11) (q0 := 0) rfl rfl, zPre.go hZ hP hK hD⟩ rfl rfl hl.1 rfl (lv_room (Nat.le_of_ble_eq_true rfl)) dX12_named_176 ⟨Nat.le_of_ble_eq_true rfl, Nat.le_of_ble_eq_true rfl⟩) hS (fun q _ h => hFc q h) hFc (fun r12 u9 t9 H1 locs ht hvm hw hB hz1 hk1 hS => ?_)
            obtain ⟨hP, hK1, hD1⟩ := hB
            rw [ht] at hP
            have hD := hD1.weaken (fun _ _ _ h => hFc _ h)
            generalize H1 = H at hP hS ⊢
            obtain rfl : r12 = p11.1 := hw
            refine lv_if_ne (tgt := 183) hx hb dX12_named_179 (by decide) (fun c13 => ?_) (fun c13 => ?_)
            ·
              replace hf := (if_neg c13).symm.trans hf
              exact j_X12_named_183 l dC dI Q N R hx hb hr hml hown hts hlocks hZ hA hK p11.2 x1 p7.1 _ _ _ hf hP hD hS (lv_sub hl [3, 4, 0] rfl)
            ·
              replace hf := (if_pos c13).symm.trans hf
              obtain rfl := Option.some.inj hf
              exact W.vret hx hb hr (fun t ht hW => ⟨⟨(), rfl, trivial, by rw [ht]; exact hP, va_K.moved hW.alike hK, hD⟩, hS.F ht⟩) hS.2.2 dX12_named_182
          ·
            replace hf := (if_neg c10).symm.trans hf
            refine lv_aload_n hx hb dX12_named_161 rfl (lv_at hl 3 rfl) ?_
            refine rG_10 (v := (p7.2.i 10)) hx hb hts i_X12_named_X12 hown hK hP (hts (.fieldLink RX12 307 "StatementRules2Model" "tok" "I") k_X12_named_fieldLink_RX12_307_SRModel_tok_I) dX12_named_162 rfl ?_
            refine lv_sipush (v := 307) hx hb dX12_named_165 (by decide) ?_
            refine lv_icmp_ne (tgt := 175) hx hb dX12_named_168 (by decide) (fun c29 => ?_) (fun c29 => ?_)
            ·
              replace hf := (if_neg c29).symm.trans hf
              refine lv_iconst (v := 0) hx hb dX12_named_175 (by decide) ?_
              obtain ⟨p30, hcp30, hf⟩ := hf_bind hf
              have hFc := r_free hD hS hA
              refine va_calli (va_runV (As := [.int 0]) (rest := []) ⟨hx, hb, hml, hown, hts⟩ (c_X12_can l dC dI _ Q N p7.2 0 p30 hcp30) (cwV 1 hts hX12_named_X12_can_v341 rfl rfl rfl (by decide +kernel) ⟨Nat.le_of_ble_eq_true rfl, Nat.le_of_ble_eq_true rfl⟩) ⟨zPre.blind, va_recv hK hP (ci := 11) (q0 := 0) rfl rfl, zPre.go hZ hP hK hD⟩ rfl rfl hl.1 rfl (lv_room (Nat.le_of_ble_eq_true rfl)) dX12_named_176 ⟨Nat.le_of_ble_eq_true rfl, Nat.le_of_ble_eq_true rfl⟩) hS (fun q _ h => hFc q h) hFc (fun r31 u9 t9 H1 locs ht hvm hw hB hz1 hk1 hS => ?_)
              obtain ⟨hP, hK1, hD1⟩ := hB
              rw [ht] at hP
              have hD := hD1.weaken (fun _ _ _ h => hFc _ h)
              generalize H1 = H at hP hS ⊢
              obtain rfl : r31 = p30.1 := hw
              refine lv_if_ne (tgt := 183) hx hb dX12_named_179 (by decide) (fun c32 => ?_) (fun c32 => ?_)
              ·
                replace hf := (if_neg c32).symm.trans hf
                exact j_X12_named_183 l dC dI Q N R hx hb hr hml hown hts hlocks hZ hA hK p30.2 x1 p7.1 _ _ _ hf hP hD hS (lv_sub hl [3, 4, 0] rfl)
              ·
                replace hf := (if_pos c32).symm.trans hf
                obtain rfl := Option.some.inj hf
                exact W.vret hx hb hr (fun t ht hW => ⟨⟨(), rfl, trivial, by rw [ht]; exact hP, va_K.moved hW.alike hK, hD⟩, hS.F ht⟩) hS.2.2 dX12_named_182
            ·
              replace hf := (if_pos c29).symm.trans hf
              refine lv_iconst (v := 1) hx hb dX12_named_171 (by decide) ?_
              refine lv_goto (tgt := 176) hx hb dX12_named_172 (by decide) ?_
              obtain ⟨p33, hcp33, hf⟩ := hf_bind hf
              have hFc := r_free hD hS hA
              refine va_calli (va_runV (As := [.int 1]) (rest := []) ⟨hx, hb, hml, hown, hts⟩ (c_X12_can l dC dI _ Q N p7.2 1 p33 hcp33) (cwV 1 hts hX12_named_X12_can_v341 rfl rfl rfl (by decide +kernel) ⟨Nat.le_of_ble_eq_true rfl, Nat.le_of_ble_eq_true rfl⟩) ⟨zPre.blind, va_recv hK hP (ci := 11) (q0 := 0) rfl rfl, zPre.go hZ hP hK hD⟩ rfl rfl hl.1 rfl (lv_room (Nat.le_of_ble_eq_true rfl)) dX12_named_176 ⟨Nat.le_of_ble_eq_true rfl, Nat.le_of_ble_eq_true rfl⟩) hS (fun q _ h => hFc q h) hFc (fun r34 u9 t9 H1 locs ht hvm hw hB hz1 hk1 hS => ?_)
              obtain ⟨hP, hK1, hD1⟩ := hB
              rw [ht] at hP
              have hD := hD1.weaken (fun _ _ _ h => hFc _ h)
              generalize H1 = H at hP hS ⊢
              obtain rfl : r34 = p33.1 := hw
              refine lv_if_ne (tgt := 183) hx hb dX12_named_179 (by decide) (fun c35 => ?_) (fun c35 => ?_)
              ·
                replace hf := (if_neg c35).symm.trans hf
                exact j_X12_named_183 l dC dI Q N R hx hb hr hml hown hts hlocks hZ hA hK p33.2 x1 p7.1 _ _ _ hf hP hD hS (lv_sub hl [3, 4, 0] rfl)
              ·
                replace hf := (if_pos c35).symm.trans hf
                obtain rfl := Option.some.inj hf
                exact W.vret hx hb hr (fun t ht hW => ⟨⟨(), rfl, trivial, by rw [ht]; exact hP, va_K.moved hW.alike hK, hD⟩, hS.F ht⟩) hS.2.2 dX12_named_182
      ·
        replace hf := (if_pos c6).symm.trans hf
        refine lv_aload_n hx hb dX12_named_126 rfl (lv_at hl 2 rfl) ?_
        refine lv_iload_n hx hb dX12_named_127 rfl (lv_at hl 3 rfl) ?_
        refine lv_lload_n hx hb dX12_named_128 rfl (lv_at hl 1 rfl) ?_
        refine lv_iload hx hb dX12_named_129 (lv_at hl 0 rfl) ?_
        obtain ⟨p36, hcp36, hf⟩ := hf_bind hf
        have hFc := r_free hD hS hA
        refine va_callv (va_runV (As := [.int x1, .long σ.l, .int (σ.i 11)]) (rest := []) ⟨hx, hb, hml, hown, hts⟩ (c_X12_label l dC dI _ Q N p4 x1 σ.l (σ.i 11) p36 hcp36) (cwV 3 hts hX12_named_X12_label_v513 rfl rfl rfl (by decide +kernel) ⟨Nat.le_of_ble_eq_true rfl, Nat.le_of_ble_eq_true rfl⟩) ⟨zPre.blind, va_recv hK hP (ci := 11) (q0 := 0) rfl rfl, zPre.go hZ hP hK hD⟩ rfl rfl hl.1 rfl (lv_room (Nat.le_of_ble_eq_true rfl)) dX12_named_131 ⟨Nat.le_of_ble_eq_true rfl, Nat.le_of_ble_eq_true rfl⟩) hS (fun q _ h => hFc q h) hFc (fun u9 t9 H1 locs ht hvm hw hB hz1 hk1 hS => ?_)
        obtain ⟨hP, hK1, hD1⟩ := hB
        rw [ht] at hP
        have hD := hD1.weaken (fun _ _ _ h => hFc _ h)
        generalize H1 = H at hP hS ⊢
        obtain rfl := Option.some.inj hf
        exact W.vret hx hb hr (fun t ht hW => ⟨⟨(), rfl, trivial, by rw [ht]; exact hP, va_K.moved hW.alike hK, hD⟩, hS.F ht⟩) hS.2.2 dX12_named_134
    ·
      replace hf := (if_pos c3).symm.trans hf
      refine lv_aload_n hx hb dX12_named_77 rfl (lv_at hl 0 rfl) ?_
      refine lv_iconst (v := 5) hx hb dX12_named_78 (by decide) ?_
      refine lv_aload_n hx hb dX12_named_79 rfl (lv_at hl 0 rfl) ?_
      refine rG_66 hx hb hts i_X12_named_X12 hown hK hP (hts (.fieldLink RX12 180 "StatementRules2Model" "fp" "[I") k_X12_named_fieldLink_RX12_180_SRModel_fp_I) dX12_named_80 ?_
      refine lv_iload_n hx hb dX12_named_83 rfl (lv_at hl 1 rfl) ?_
      refine rL_66 (v := (σ.a 66 ((x1 : Int32).toNatClampNeg))) hx hb hK hP b1 dX12_named_84 rfl ?_
      obtain ⟨p38, hcp38, hf⟩ := hf_bind hf
      have hFc := r_free hD hS hA
      refine va_calli (va_runV (As := [.int 5, .int (σ.a 66 ((x1 : Int32).toNatClampNeg))]) (rest := []) ⟨hx, hb, hml, hown, hts⟩ (c_X12_emit l dC dI _ Q N σ 5 (σ.a 66 ((x1 : Int32).toNatClampNeg)) p38 hcp38) (cwV 2 hts hX12_named_X12_emit_v464 rfl rfl rfl (by decide +kernel) ⟨Nat.le_of_ble_eq_true rfl, Nat.le_of_ble_eq_true rfl⟩) ⟨zPre.blind, va_recv hK hP (ci := 11) (q0 := 0) rfl rfl, zPre.go hZ hP hK hD⟩ rfl rfl hl.1 rfl (lv_room (Nat.le_of_ble_eq_true rfl)) dX12_named_85 ⟨Nat.le_of_ble_eq_true rfl, Nat.le_of_ble_eq_true rfl⟩) hS (fun q _ h => hFc q h) hFc (fun r39 u9 t9 H1 locs ht hvm hw hB hz1 hk1 hS => ?_)
      obtain ⟨hP, hK1, hD1⟩ := hB
      rw [ht] at hP
      have hD := hD1.weaken (fun _ _ _ h => hFc _ h)
      generalize H1 = H at hP hS ⊢
      obtain rfl : r39 = p38.1 := hw
      refine lv_pop hx hb dX12_named_88 rfl ?_
      refine lv_aload_n hx hb dX12_named_89 rfl (lv_at hl 0 rfl) ?_
      refine lv_bipush (v := 59) hx hb dX12_named_90 (by decide) ?_
      obtain ⟨p40, hcp40, hf⟩ := hf_bind hf
      have hFc := r_free hD hS hA
      refine va_calli (va_runV (As := [.int 59]) (rest := []) ⟨hx, hb, hml, hown, hts⟩ (c_X12_need l dC dI _ Q N p38.2 59 p40 hcp40) (cwV 1 hts hX12_named_X12_need_v355 rfl rfl rfl (by decide +kernel) ⟨Nat.le_of_ble_eq_true rfl, Nat.le_of_ble_eq_true rfl⟩) ⟨zPre.blind, va_recv hK hP (ci := 11) (q0 := 0) rfl rfl, zPre.go hZ hP hK hD⟩ rfl rfl hl.1 rfl (lv_room (Nat.le_of_ble_eq_true rfl)) dX12_named_92 ⟨Nat.le_of_ble_eq_true rfl, Nat.le_of_ble_eq_true rfl⟩) hS (fun q _ h => hFc q h) hFc (fun r41 u9 t9 H1 locs ht hvm hw hB hz1 hk1 hS => ?_)
      obtain ⟨hP, hK1, hD1⟩ := hB
      rw [ht] at hP
      have hD := hD1.weaken (fun _ _ _ h => hFc _ h)
      generalize H1 = H at hP hS ⊢
      obtain rfl : r41 = p40.1 := hw
      refine lv_pop hx hb dX12_named_95 rfl ?_
      refine lv_aload_n hx hb dX12_named_96 rfl (lv_at hl 0 rfl) ?_
      refine lv_iconst (v := 1) hx hb dX12_named_97 (by decide) ?_
      obtain ⟨p42, hcp42, hf⟩ := hf_bind hf
      have hFc := r_free hD hS hA
      refine va_callv (va_runV (As := [.int 1]) (rest := []) ⟨hx, hb, hml, hown, hts⟩ (c_X12_over l dC dI _ Q N p40.2 1 p42 hcp42) (cwV 1 hts hX12_named_X12_over_v490 rfl rfl rfl (by decide +kernel) ⟨Nat.le_of_ble_eq_true rfl, Nat.le_of_ble_eq_true rfl⟩) ⟨zPre.blind, va_recv hK hP (ci := 11) (q0 := 0) rfl rfl, zPre.go hZ hP hK hD⟩ rfl rfl hl.1 rfl (lv_room (Nat.le_of_ble_eq_true rfl)) dX12_named_98 ⟨Nat.le_of_ble_eq_true rfl, Nat.le_of_ble_eq_true rfl⟩) hS (fun q _ h => hFc q h) hFc (fun u9 t9 H1 locs ht hvm hw hB hz1 hk1 hS => ?_)
      obtain ⟨hP, hK1, hD1⟩ := hB
      rw [ht] at hP
      have hD := hD1.weaken (fun _ _ _ h => hFc _ h)
      generalize H1 = H at hP hS ⊢
      obtain rfl := Option.some.inj hf
      exact W.vret hx hb hr (fun t ht hW => ⟨⟨(), rfl, trivial, by rw [ht]; exact hP, va_K.moved hW.alike hK, hD⟩, hS.F ht⟩) hS.2.2 dX12_named_101
  ·
    replace hf := (if_pos c2).symm.trans hf
    refine lv_aload_n hx hb dX12_named_10 rfl (lv_at hl 0 rfl) ?_
    refine rG_66 hx hb hts i_X12_named_X12 hown hK hP (hts (.fieldLink RX12 180 "StatementRules2Model" "fp" "[I") k_X12_named_fieldLink_RX12_180_SRModel_fp_I) dX12_named_11 ?_
    refine lv_iload_n hx hb dX12_named_14 rfl (lv_at hl 1 rfl) ?_
    refine rL_66 (v := (σ.a 66 ((x1 : Int32).toNatClampNeg))) hx hb hK hP b1 dX12_named_15 rfl ?_
    refine lv_istore_n (lv' := [(2, .int (σ.a 66 ((x1 : Int32).toNatClampNeg))), (0, .ref Q.h0), (1, .int x1)]) hx hb dX12_named_16 rfl hl (by decide) rfl (fun ls hl => ?_)
    refine lv_aload_n hx hb dX12_named_17 rfl (lv_at hl 1 rfl) ?_
    refine lv_aload_n hx hb dX12_named_18 rfl (lv_at hl 1 rfl) ?_
    refine rG_48 hx hb hts i_X12_named_X12 hown hK hP (hts (.fieldLink RX12 147 "StatementRules2Model" "breaks" "[I") k_X12_named_fieldLink_RX12_147_SRModel_breaks_I) dX12_named_19 ?_
    refine lv_iload_n hx hb dX12_named_22 rfl (lv_at hl 0 rfl) ?_
    obtain ⟨b44, hf⟩ := hf_ite hf
    refine rL_48 (v := (σ.a 48 (((σ.a 66 ((x1 : Int32).toNatClampNeg)) : Int32).toNatClampNeg))) hx hb hK hP b44 dX12_named_23 rfl ?_
    refine lv_aload_n hx hb dX12_named_24 rfl (lv_at hl 1 rfl) ?_
    refine rG_20 (v := (σ.i 20)) hx hb hts i_X12_named_X12 hown hK hP (hts (.fieldLink RX12 358 "StatementRules2Model" "codes" "I") k_X12_named_fieldLink_RX12_358_SRModel_codes_I) dX12_named_25 rfl ?_
    obtain ⟨p45, hcp45, hf⟩ := hf_bind hf
    have hFc := r_free hD hS hA
    refine va_callv (va_runV (As := [.int (σ.a 48 (((σ.a 66 ((x1 : Int32).toNatClampNeg)) : Int32).toNatClampNeg)), .int (σ.i 20)]) (rest := []) ⟨hx, hb, hml, hown, hts⟩ (c_X12_patch l dC dI _ Q N σ (σ.a 48 (((σ.a 66 ((x1 : Int32).toNatClampNeg)) : Int32).toNatClampNeg)) (σ.i 20) p45 hcp45) (cwV 2 hts hX12_named_X12_patch_v510 rfl rfl rfl (by decide +kernel) ⟨Nat.le_of_ble_eq_true rfl, Nat.le_of_ble_eq_true rfl⟩) ⟨zPre.blind, va_recv hK hP (ci := 11) (q0 := 0) rfl rfl, zPre.go hZ hP hK hD⟩ rfl rfl hl.1 rfl (lv_room (Nat.le_of_ble_eq_true rfl)) dX12_named_28 ⟨Nat.le_of_ble_eq_true rfl, Nat.le_of_ble_eq_true rfl⟩) hS (fun q _ h => hFc q h) hFc (fun u9 t9 H1 locs ht hvm hw hB hz1 hk1 hS => ?_)
    obtain ⟨hP, hK1, hD1⟩ := hB
    rw [ht] at hP
    have hD := hD1.weaken (fun _ _ _ h => hFc _ h)
    generalize H1 = H at hP hS ⊢
    refine lv_aload_n hx hb dX12_named_31 rfl (lv_at hl 1 rfl) ?_
    refine lv_dup hx hb dX12_named_32 rfl ?_
    refine rG_43 (v := (p45.i 43)) hx hb hts i_X12_named_X12 hown hK hP (hts (.fieldLink RX12 367 "StatementRules2Model" "goals" "I") k_X12_named_fieldLink_RX12_367_SRModel_goals_I) dX12_named_33 rfl ?_
    refine lv_iconst (v := 1) hx hb dX12_named_36 (by decide) ?_
    refine lv_isub hx hb dX12_named_37 ?_
    refine rP_43 hx hb hts i_X12_named_X12 hown hK hP hD hS (hts (.fieldLink RX12 367 "StatementRules2Model" "goals" "I") k_X12_named_fieldLink_RX12_367_SRModel_goals_I) dX12_named_38 (fun H locs hP hD hS => ?_)
    refine lv_aload_n hx hb dX12_named_41 rfl (lv_at hl 1 rfl) ?_
    refine lv_aload_n hx hb dX12_named_42 rfl (lv_at hl 1 rfl) ?_
    refine rG_75 (v := (p45.i 75)) hx hb hts i_X12_named_X12 hown hK hP (hts (.fieldLink RX12 396 "StatementRules2Model" "res" "Z") k_X12_named_fieldLink_RX12_396_SRModel_res_Z) dX12_named_43 rfl ?_
    refine lv_if_ne (tgt := 58) hx hb dX12_named_46 (by decide) (fun c47 => ?_) (fun c47 => ?_)
    ·
      replace hf := (if_neg c47).symm.trans hf
      refine lv_iconst (v := 1) hx hb dX12_named_58 (by decide) ?_
      refine lv_goto (tgt := 63) hx hb dX12_named_59 (by decide) ?_
      obtain ⟨p48, hcp48, hf⟩ := hf_bind hf
      have hFc := r_free hD hS hA
      refine va_callv (va_runV (As := [.int 1]) (rest := []) ⟨hx, hb, hml, hown, hts⟩ (c_X12_over l dC dI _ Q N (RS.setI p45 43 ((p45.i 43) - 1)) 1 p48 hcp48) (cwV 1 hts hX12_named_X12_over_v490 rfl rfl rfl (by decide +kernel) ⟨Nat.le_of_ble_eq_true rfl, Nat.le_of_ble_eq_true rfl⟩) ⟨zPre.blind, va_recv hK hP (ci := 11) (q0 := 0) rfl rfl, zPre.go hZ hP hK hD⟩ rfl rfl hl.1 rfl (lv_room (Nat.le_of_ble_eq_true rfl)) dX12_named_63 ⟨Nat.le_of_ble_eq_true rfl, Nat.le_of_ble_eq_true rfl⟩) hS (fun q _ h => hFc q h) hFc (fun u9 t9 H1 locs ht hvm hw hB hz1 hk1 hS => ?_)
      obtain ⟨hP, hK1, hD1⟩ := hB
      rw [ht] at hP
      have hD := hD1.weaken (fun _ _ _ h => hFc _ h)
      generalize H1 = H at hP hS ⊢
      obtain rfl := Option.some.inj hf
      exact W.vret hx hb hr (fun t ht hW => ⟨⟨(), rfl, trivial, by rw [ht]; exact hP, va_K.moved hW.alike hK, hD⟩, hS.F ht⟩) hS.2.2 dX12_named_66
    ·
      replace hf := (if_pos c47).symm.trans hf
      refine lv_aload_n hx hb dX12_named_49 rfl (lv_at hl 1 rfl) ?_
      refine rG_50 hx hb hts i_X12_named_X12 hown hK hP (hts (.fieldLink RX12 153 "StatementRules2Model" "broken" "[Z") k_X12_named_fieldLink_RX12_153_SRModel_broken_Z) dX12_named_50 ?_
      refine lv_iload_n hx hb dX12_named_53 rfl (lv_at hl 0 rfl) ?_
      refine rL_50 (v := (p45.a 50 (((σ.a 66 ((x1 : Int32).toNatClampNeg)) : Int32).toNatClampNeg))) hx hb hK hP b44 dX12_named_54 rfl ?_
      refine lv_if_eq (tgt := 62) hx hb dX12_named_55 (by decide) (fun c50 => ?_) (fun c50 => ?_)
      ·
        replace hf := (if_pos c50).symm.trans hf
        refine lv_iconst (v := 0) hx hb dX12_named_62 (by decide) ?_
        obtain ⟨p51, hcp51, hf⟩ := hf_bind hf
        have hFc := r_free hD hS hA
        refine va_callv (va_runV (As := [.int 0]) (rest := []) ⟨hx, hb, hml, hown, hts⟩ (c_X12_over l dC dI _ Q N (RS.setI p45 43 ((p45.i 43) - 1)) 0 p51 hcp51) (cwV 1 hts hX12_named_X12_over_v490 rfl rfl rfl (by decide +kernel) ⟨Nat.le_of_ble_eq_true rfl, Nat.le_of_ble_eq_true rfl⟩) ⟨zPre.blind, va_recv hK hP (ci := 11) (q0 := 0) rfl rfl, zPre.go hZ hP hK hD⟩ rfl rfl hl.1 rfl (lv_room (Nat.le_of_ble_eq_true rfl)) dX12_named_63 ⟨Nat.le_of_ble_eq_true rfl, Nat.le_of_ble_eq_true rfl⟩) hS (fun q _ h => hFc q h) hFc (fun u9 t9 H1 locs ht hvm hw hB hz1 hk1 hS => ?_)
        obtain ⟨hP, hK1, hD1⟩ := hB
        rw [ht] at hP
        have hD := hD1.weaken (fun _ _ _ h => hFc _ h)
        generalize H1 = H at hP hS ⊢
        obtain rfl := Option.some.inj hf
        exact W.vret hx hb hr (fun t ht hW => ⟨⟨(), rfl, trivial, by rw [ht]; exact hP, va_K.moved hW.alike hK, hD⟩, hS.F ht⟩) hS.2.2 dX12_named_66
      ·
        replace hf := (if_neg c50).symm.trans hf
        refine lv_iconst (v := 1) hx hb dX12_named_58 (by decide) ?_
        refine lv_goto (tgt := 63) hx hb dX12_named_59 (by decide) ?_
        obtain ⟨p53, hcp53, hf⟩ := hf_bind hf
        have hFc := r_free hD hS hA
        refine va_callv (va_runV (As := [.int 1]) (rest := []) ⟨hx, hb, hml, hown, hts⟩ (c_X12_over l dC dI _ Q N (RS.setI p45 43 ((p45.i 43) - 1)) 1 p53 hcp53) (cwV 1 hts hX12_named_X12_over_v490 rfl rfl rfl (by decide +kernel) ⟨Nat.le_of_ble_eq_true rfl, Nat.le_of_ble_eq_true rfl⟩) ⟨zPre.blind, va_recv hK hP (ci := 11) (q0 := 0) rfl rfl, zPre.go hZ hP hK hD⟩ rfl rfl hl.1 rfl (lv_room (Nat.le_of_ble_eq_true rfl)) dX12_named_63 ⟨Nat.le_of_ble_eq_true rfl, Nat.le_of_ble_eq_true rfl⟩) hS (fun q _ h => hFc q h) hFc (fun u9 t9 H1 locs ht hvm hw hB hz1 hk1 hS => ?_)
        obtain ⟨hP, hK1, hD1⟩ := hB
        rw [ht] at hP
        have hD := hD1.weaken (fun _ _ _ h => hFc _ h)
        generalize H1 = H at hP hS ⊢
        obtain rfl := Option.some.inj hf
        exact W.vret hx hb hr (fun t ht hW => ⟨⟨(), rfl, trivial, by rw [ht]; exact hP, va_K.moved hW.alike hK, hD⟩, hS.F ht⟩) hS.2.2 dX12_named_66
theorem k_X12_isInArms_fieldLink_RX12_367_SRModel_goals_I : Cond.fieldLink RX12 367 "StatementRules2Model" "goals" "I" ∈ wzX12_isInArms := List.mem_cons_of_mem _ (List.mem_append_left _ (List.mem_of_getElem? (i := 0) rfl))
theorem i_X12_isInArms_X12 : ∀ w ∈ wsX120, w ∈ wzX12_isInArms := fun _ h => List.mem_cons_of_mem _ (List.mem_append_right _ (List.mem_append_left _ (h)))
theorem k_X12_isInArms_fieldLink_RX12_135_SRModel_goalSort_I : Cond.fieldLink RX12 135 "StatementRules2Model" "goalSort" "[I" ∈ wzX12_isInArms := List.mem_cons_of_mem _ (List.mem_append_left _ (List.mem_of_getElem? (i := 1) rfl))
set_option maxHeartbeats 4000000 in
set_option maxRecDepth 100000 in
theorem j_X12_isInArms_2 {p : Program} {e : Env} {s : State} {m : MethodId} {args : Array Value} {below : List Frame} {meth : Method} {c : Code} {A : Nat → Prop} (l : Launch) (dC : Nat → ClassId) (dI : Nat → Nat → Nat) (Q : RQ) (N : Nat) (R : Int32 × RS) (hx : p.tables.exec = Jvm.exec) (hb : c.code = cX12_isInArms) (hr : meth.sig.returnType = (some .boolean)) (hml : c.maxLocals = 2) (hown : s.vm.findClass RX12 = some m.cls) (hts : ∀ w ∈ wzX12_isInArms, w.before args s = true) (hlocks : meth.locks = false) (hZ : zAMB s) (hA : ∀ q : Nat, s.heap.size ≤ q → A q) (hK : va_K (dC, dI) vwCl (rT Q) s) : ∀ (n9 : Nat), ∀ (σ : RS) (x1 : Int32) (H : Heap) (locs : List Loc) (ls : Array Slot), f_X12_isInArms_2 N n9 σ x1 = some R → va_P (dC, dI) vwCl (rW Q σ) H → va_D A (rW Q σ) → va_S A s.heap H locs → lv_has ls 2 [(0, .ref Q.h0), (1, .int x1)] → W p l e ({ frames := 1, cells := 0, slots := 0, locals := 60 }) s m args below meth c H locs 0 0 (MQ below (va_Qi (fun (r : Int32) (_ : Unit) => r = R.1) (fun (_ : Unit) (t : State) => zPost dC dI A (rW Q R.2) (rT Q) t) A) args s 0 0 A) (F0 m 2 ls []) := by
  intro n9
  induction n9 with
  | zero => intro σ x1 H locs ls hf; exact absurd hf (by intro h9; cases h9)
  | succ n9 ih =>
    intro σ x1 H locs ls hf hP hD hS hl
    replace hf : b_X12_isInArms_2 N (f_X12_isInArms_2 N n9) σ x1 = some R := hf
    unfold b_X12_isInArms_2 at hf
    refine lv_iload_n hx hb dX12_isInArms_2 rfl (lv_at hl 1 rfl) ?_
    refine lv_aload_n hx hb dX12_isInArms_3 rfl (lv_at hl 0 rfl) ?_
    refine rG_43 (v := (σ.i 43)) hx hb hts i_X12_isInArms_X12 hown hK hP (hts (.fieldLink RX12 367 "StatementRules2Model" "goals" "I") k_X12_isInArms_fieldLink_RX12_367_SRModel_goals_I) dX12_isInArms_4 rfl ?_
    refine lv_icmp_ge (tgt := 28) hx hb dX12_isInArms_7 (by decide) (fun c1 => ?_) (fun c1 => ?_)
    ·
      replace hf := (if_pos c1).symm.trans hf
      refine lv_iconst (v := 0) hx hb dX12_isInArms_28 (by decide) ?_
      obtain rfl := Option.some.inj hf
      exact W.zret (v := 0) hx hb hr (rfl) (fun t ht hW => ⟨⟨0, (), rfl, rfl, by rw [ht]; exact hP, va_K.moved hW.alike hK, hD⟩, hS.F ht⟩) hS.2.2 dX12_isInArms_29
    ·
      replace hf := (if_neg c1).symm.trans hf
      refine lv_aload_n hx hb dX12_isInArms_10 rfl (lv_at hl 0 rfl) ?_
      refine rG_44 hx hb hts i_X12_isInArms_X12 hown hK hP (hts (.fieldLink RX12 135 "StatementRules2Model" "goalSort" "[I") k_X12_isInArms_fieldLink_RX12_135_SRModel_goalSort_I) dX12_isInArms_11 ?_
      refine lv_iload_n hx hb dX12_isInArms_14 rfl (lv_at hl 1 rfl) ?_
      obtain ⟨b2, hf⟩ := hf_ite hf
      refine rL_44 (v := (σ.a 44 ((x1 : Int32).toNatClampNeg))) hx hb hK hP b2 dX12_isInArms_15 rfl ?_
      refine lv_iconst (v := 3) hx hb dX12_isInArms_16 (by decide) ?_
      refine lv_icmp_ne (tgt := 22) hx hb dX12_isInArms_17 (by decide) (fun c3 => ?_) (fun c3 => ?_)
      ·
        replace hf := (if_neg c3).symm.trans hf
        refine lv_iinc (v := (x1 + 1)) (lv' := [(1, .int (x1 + 1)), (0, .ref Q.h0)]) hx hb dX12_isInArms_22 hl (k := 1) rfl rfl (by decide) rfl (fun ls hl => ?_)
        refine lv_goto (tgt := 2) hx hb dX12_isInArms_25 (by decide) ?_
        exact ih σ (x1 + 1) _ _ _ hf hP hD hS (lv_sub hl [1, 0] rfl)
      ·
        replace hf := (if_pos c3).symm.trans hf
        refine lv_iconst (v := 1) hx hb dX12_isInArms_20 (by decide) ?_
        obtain rfl := Option.some.inj hf
        exact W.zret (v := 1) hx hb hr (rfl) (fun t ht hW => ⟨⟨1, (), rfl, rfl, by rw [ht]; exact hP, va_K.moved hW.alike hK, hD⟩, hS.F ht⟩) hS.2.2 dX12_isInArms_21
set_option maxHeartbeats 4000000 in
set_option maxRecDepth 100000 in
theorem c_X12_isInArms (l : Launch) (dC : Nat → ClassId) (dI : Nat → Nat → Nat) (sz : Nat) (Q : RQ) (N : Nat) (σ : RS) (R : Int32 × RS) (hf : f_X12_isInArms N σ = some R) : Met l yX12_isInArms wzX12_isInArms ({ frames := 1, cells := 0, slots := 0, locals := 60 }) (va_Pc [.ref Q.h0] (zPre dC dI sz (rW Q σ) (rT Q))) (va_Qi (fun (r : Int32) (_ : Unit) => r = R.1) (fun (_ : Unit) (t : State) => zPost dC dI (va_A (rW Q σ) sz) (rW Q R.2) (rT Q) t) (va_A (rW Q σ) sz)) 0 0 (va_A (rW Q σ) sz) := by
  refine Met.ofW (cc := cX12_isInArms) (maxL := 2) (ret := (some .boolean)) (by decide) rfl ?_
  intro p e s m args below meth c s₁ B hml hv
  obtain ⟨rfl, hsz, hZ, hP, hK, hD0⟩ := hv
  have hx := B.exec
  have hb := B.bytes
  have hr := B.returns
  have hts := atoms_spec (ws := wzX12_isInArms) B.pre
  have hown : s.vm.findClass RX12 = some m.cls := findClass_of_methodNamed B.named
  have hlocks := B.notSynchronized
  subst hsz
  have hD := hD0.self (sz := s.heap.size)
  generalize hAe : va_A (rW Q σ) s.heap.size = A at hD ⊢
  have hA : ∀ q : Nat, s.heap.size ≤ q → A q := fun q h => by rw [← hAe]; exact Or.inr h
  have hS : va_S A s.heap s.heap [] := va_S.rf
  have hl := lv_entry ([.ref Q.h0]) (n := 2) (Nat.le_of_ble_eq_true rfl)
  rw [lg_entry_eq]
  generalize (lg_sl ([.ref Q.h0]) ++ List.replicate (2 - (lg_sl ([.ref Q.h0])).length) Slot.unset).toArray = ls at hl ⊢
  have hl : lv_has ls 2 [(0, .ref Q.h0)] := hl
  unfold f_X12_isInArms at hf
  refine lv_iconst (v := 0) hx hb dX12_isInArms_0 (by decide) ?_
  refine lv_istore_n (lv' := [(1, .int 0), (0, .ref Q.h0)]) hx hb dX12_isInArms_1 rfl hl (by decide) rfl (fun ls hl => ?_)
  exact j_X12_isInArms_2 l dC dI Q N R hx hb hr hml hown hts hlocks hZ hA hK N σ 0 _ _ _ hf hP hD hS (lv_sub hl [1, 0] rfl)
theorem k_X12_ending_fieldLink_RX12_177_SRModel_fs_I : Cond.fieldLink RX12 177 "StatementRules2Model" "fs" "[I" ∈ wzX12_ending := List.mem_cons_of_mem _ (List.mem_append_left _ (List.mem_of_getElem? (i := 0) rfl))
theorem i_X12_ending_X12 : ∀ w ∈ wsX120, w ∈ wzX12_ending := fun _ h => List.mem_cons_of_mem _ (List.mem_append_right _ (List.mem_append_left _ (h)))
theorem k_X12_ending_fieldLink_RX12_180_SRModel_fp_I : Cond.fieldLink RX12 180 "StatementRules2Model" "fp" "[I" ∈ wzX12_ending := List.mem_cons_of_mem _ (List.mem_append_left _ (List.mem_of_getElem? (i := 1) rfl))
theorem k_X12_ending_fieldLink_RX12_367_SRModel_goals_I : Cond.fieldLink RX12 367 "StatementRules2Model" "goals" "I" ∈ wzX12_ending := List.mem_cons_of_mem _ (List.mem_append_left _ (List.mem_of_getElem? (i := 2) rfl))
theorem k_X12_ending_fieldLink_RX12_90_SRModel_iy_I : Cond.fieldLink RX12 90 "StatementRules2Model" "iy" "[I" ∈ wzX12_ending := List.mem_cons_of_mem _ (List.mem_append_left _ (List.mem_of_getElem? (i := 3) rfl))
theorem k_X12_ending_fieldLink_RX12_135_SRModel_goalSort_I : Cond.fieldLink RX12 135 "StatementRules2Model" "goalSort" "[I" ∈ wzX12_ending := List.mem_cons_of_mem _ (List.mem_append_left _ (List.mem_of_getElem? (i := 4) rfl))
theorem k_X12_ending_fieldLink_RX12_144_SRModel_goalDepth_I : Cond.fieldLink RX12 144 "StatementRules2Model" "goalDepth" "[I" ∈ wzX12_ending := List.mem_cons_of_mem _ (List.mem_append_left _ (List.mem_of_getElem? (i := 5) rfl))
theorem k_X12_ending_fieldLink_RX12_307_SRModel_tok_I : Cond.fieldLink RX12 307 "StatementRules2Model" "tok" "I" ∈ wzX12_ending := List.mem_cons_of_mem _ (List.mem_append_left _ (List.mem_of_getElem? (i := 6) rfl))
theorem k_X12_ending_fieldLink_RX12_304_SRModel_from_I : Cond.fieldLink RX12 304 "StatementRules2Model" "from" "I" ∈ wzX12_ending := List.mem_cons_of_mem _ (List.mem_append_left _ (List.mem_of_getElem? (i := 7) rfl))
set_option maxHeartbeats 4000000 in
set_option maxRecDepth 100000 in
theorem j_X12_ending_119 {p : Program} {e : Env} {s : State} {m : MethodId} {args : Array Value} {below : List Frame} {meth : Method} {c : Code} {A : Nat → Prop} (l : Launch) (dC : Nat → ClassId) (dI : Nat → Nat → Nat) (Q : RQ) (N : Nat) (R : RS) (hx : p.tables.exec = Jvm.exec) (hb : c.code = cX12_ending) (hr : meth.sig.returnType = none) (hml : c.maxLocals = 4) (hown : s.vm.findClass RX12 = some m.cls) (hts : ∀ w ∈ wzX12_ending, w.before args s = true) (hlocks : meth.locks = false) (hZ : zAMB s) (hA : ∀ q : Nat, s.heap.size ≤ q → A q) (hK : va_K (dC, dI) vwCl (rT Q) s) : ∀ (n9 : Nat), ∀ (σ : RS) (x1 : Int32) (x2 : Int32) (x3 : Int32) (H : Heap) (locs : List Loc) (ls : Array Slot), f_X12_ending_119 N n9 σ x1 x2 x3 = some R → va_P (dC, dI) vwCl (rW Q σ) H → va_D A (rW Q σ) → va_S A s.heap H locs → lv_has ls 4 [(0, .ref Q.h0), (1, .int x1), (2, .int x2), (3, .int x3)] → W p l e ({ frames := 5, cells := 0, slots := 0, locals := 300 }) s m args below meth c H locs 0 0 (MQ below (va_Qv (fun (_ : Unit) => True) (fun (_ : Unit) (t : State) => zPost dC dI A (rW Q R) (rT Q) t) A) args s 0 0 A) (F0 m 119 ls []) := by
  intro n9
  induction n9 with
  | zero => intro σ x1 x2 x3 H locs ls hf; exact absurd hf (by intro h9; cases h9)
  | succ n9 ih =>
    intro σ x1 x2 x3 H locs ls hf hP hD hS hl
    replace hf : b_X12_ending_119 N (f_X12_ending_119 N n9) σ x1 x2 x3 = some R := hf
    unfold b_X12_ending_119 at hf
    refine lv_iload_n hx hb dX12_ending_119 rfl (lv_at hl 3 rfl) ?_
    refine lv_aload_n hx hb dX12_ending_120 rfl (lv_at hl 0 rfl) ?_
    refine rG_43 (v := (σ.i 43)) hx hb hts i_X12_ending_X12 hown hK hP (hts (.fieldLink RX12 367 "StatementRules2Model" "goals" "I") k_X12_ending_fieldLink_RX12_367_SRModel_goals_I) dX12_ending_121 rfl ?_
    refine lv_icmp_ge (tgt := 164) hx hb dX12_ending_124 (by decide) (fun c7 => ?_) (fun c7 => ?_)
    ·
      replace hf := (if_pos c7).symm.trans hf
      refine lv_aload_n hx hb dX12_ending_164 rfl (lv_at hl 0 rfl) ?_
      refine lv_bipush (v := 59) hx hb dX12_ending_165 (by decide) ?_
      obtain ⟨p8, hcp8, hf⟩ := hf_bind hf
      have hFc := r_free hD hS hA
      refine va_calli (va_runV (As := [.int 59]) (rest := []) ⟨hx, hb, hml, hown, hts⟩ (c_X12_need l dC dI _ Q N σ 59 p8 hcp8) (cwV 1 hts hX12_ending_X12_need_v355 rfl rfl rfl (by decide +kernel) ⟨Nat.le_of_ble_eq_true rfl, Nat.le_of_ble_eq_true rfl⟩) ⟨zPre.blind, va_recv hK hP (ci := 11) (q0 := 0) rfl rfl, zPre.go hZ hP hK hD⟩ rfl rfl hl.1 rfl (lv_room (Nat.le_of_ble_eq_true rfl)) dX12_ending_167 ⟨Nat.le_of_ble_eq_true rfl, Nat.le_of_ble_eq_true rfl⟩) hS (fun q _ h => hFc q h) hFc (fun r9 u9 t9 H1 locs ht hvm hw hB hz1 hk1 hS => ?_)
      obtain ⟨hP, hK1, hD1⟩ := hB
      rw [ht] at hP
      have hD := hD1.weaken (fun _ _ _ h => hFc _ h)
      generalize H1 = H at hP hS ⊢
      obtain rfl : r9 = p8.1 := hw
      refine lv_pop hx hb dX12_ending_170 rfl ?_
      refine lv_aload_n hx hb dX12_ending_171 rfl (lv_at hl 0 rfl) ?_
      refine lv_aload_n hx hb dX12_ending_172 rfl (lv_at hl 0 rfl) ?_
      refine rG_66 hx hb hts i_X12_ending_X12 hown hK hP (hts (.fieldLink RX12 180 "StatementRules2Model" "fp" "[I") k_X12_ending_fieldLink_RX12_180_SRModel_fp_I) dX12_ending_173 ?_
      refine lv_iload_n hx hb dX12_ending_176 rfl (lv_at hl 1 rfl) ?_
      obtain ⟨b10, hf⟩ := hf_ite hf
      refine rL_66 (v := (p8.2.a 66 ((x1 : Int32).toNatClampNeg))) hx hb hK hP b10 dX12_ending_177 rfl ?_
      refine lv_sipush (v := 412) hx hb dX12_ending_178 (by decide) ?_
      refine lv_icmp_ne (tgt := 188) hx hb dX12_ending_181 (by decide) (fun c11 => ?_) (fun c11 => ?_)
      ·
        replace hf := (if_neg c11).symm.trans hf
        refine lv_iconst (v := 0) hx hb dX12_ending_188 (by decide) ?_
        obtain ⟨p12, hcp12, hf⟩ := hf_bind hf
        have hFc := r_free hD hS hA
        refine va_callv (va_runV (As := [.int 0]) (rest := []) ⟨hx, hb, hml, hown, hts⟩ (c_X12_over l dC dI _ Q N p8.2 0 p12 hcp12) (cwV 1 hts hX12_ending_X12_over_v490 rfl rfl rfl (by decide +kernel) ⟨Nat.le_of_ble_eq_true rfl, Nat.le_of_ble_eq_true rfl⟩) ⟨zPre.blind, va_recv hK hP (ci := 11) (q0 := 0) rfl rfl, zPre.go hZ hP hK hD⟩ rfl rfl hl.1 rfl (lv_room (Nat.le_of_ble_eq_true rfl)) dX12_ending_189 ⟨Nat.le_of_ble_eq_true rfl, Nat.le_of_ble_eq_true rfl⟩) hS (fun q _ h => hFc q h) hFc (fun u9 t9 H1 locs ht hvm hw hB hz1 hk1 hS => ?_)
        obtain ⟨hP, hK1, hD1⟩ := hB
        rw [ht] at hP
        have hD := hD1.weaken (fun _ _ _ h => hFc _ h)
        generalize H1 = H at hP hS ⊢
        obtain rfl := Option.some.inj hf
        exact W.vret hx hb hr (fun t ht hW => ⟨⟨(), rfl, trivial, by rw [ht]; exact hP, va_K.moved hW.alike hK, hD⟩, hS.F ht⟩) hS.2.2 dX12_ending_192
      ·
        replace hf := (if_pos c11).symm.trans hf
        refine lv_iconst (v := 1) hx hb dX12_ending_184 (by decide) ?_
        refine lv_goto (tgt := 189) hx hb dX12_ending_185 (by decide) ?_
        obtain ⟨p14, hcp14, hf⟩ := hf_bind hf
        have hFc := r_free hD hS hA
        refine va_callv (va_runV (As := [.int 1]) (rest := []) ⟨hx, hb, hml, hown, hts⟩ (c_X12_over l dC dI _ Q N p8.2 1 p14 hcp14) (cwV 1 hts hX12_ending_X12_over_v490 rfl rfl rfl (by decide +kernel) ⟨Nat.le_of_ble_eq_true rfl, Nat.le_of_ble_eq_true rfl⟩) ⟨zPre.blind, va_recv hK hP (ci := 11) (q0 := 0) rfl rfl, zPre.go hZ hP hK hD⟩ rfl rfl hl.1 rfl (lv_room (Nat.le_of_ble_eq_true rfl)) dX12_ending_189 ⟨Nat.le_of_ble_eq_true rfl, Nat.le_of_ble_eq_true rfl⟩) hS (fun q _ h => hFc q h) hFc (fun u9 t9 H1 locs ht hvm hw hB hz1 hk1 hS => ?_)
        obtain ⟨hP, hK1, hD1⟩ := hB
        rw [ht] at hP
        have hD := hD1.weaken (fun _ _ _ h => hFc _ h)
        generalize H1 = H at hP hS ⊢
        obtain rfl := Option.some.inj hf
        exact W.vret hx hb hr (fun t ht hW => ⟨⟨(), rfl, trivial, by rw [ht]; exact hP, va_K.moved hW.alike hK, hD⟩, hS.F ht⟩) hS.2.2 dX12_ending_192
    ·
      replace hf := (if_neg c7).symm.trans hf
      refine lv_aload_n hx hb dX12_ending_127 rfl (lv_at hl 0 rfl) ?_
      refine rG_23 hx hb hts i_X12_ending_X12 hown hK hP (hts (.fieldLink RX12 90 "StatementRules2Model" "iy" "[I") k_X12_ending_fieldLink_RX12_90_SRModel_iy_I) dX12_ending_128 ?_
      refine lv_iload_n hx hb dX12_ending_131 rfl (lv_at hl 2 rfl) ?_
      refine lv_aload_n hx hb dX12_ending_132 rfl (lv_at hl 0 rfl) ?_
      refine rG_44 hx hb hts i_X12_ending_X12 hown hK hP (hts (.fieldLink RX12 135 "StatementRules2Model" "goalSort" "[I") k_X12_ending_fieldLink_RX12_135_SRModel_goalSort_I) dX12_ending_133 ?_
      refine lv_iload_n hx hb dX12_ending_136 rfl (lv_at hl 3 rfl) ?_
      obtain ⟨b16, hf⟩ := hf_ite hf
      refine rL_44 (v := (σ.a 44 ((x3 : Int32).toNatClampNeg))) hx hb hK hP b16 dX12_ending_137 rfl ?_
      refine lv_iconst (v := 3) hx hb dX12_ending_138 (by decide) ?_
      refine lv_icmp_ne (tgt := 151) hx hb dX12_ending_139 (by decide) (fun c17 => ?_) (fun c17 => ?_)
      ·
        replace hf := (if_neg c17).symm.trans hf
        refine lv_aload_n hx hb dX12_ending_151 rfl (lv_at hl 0 rfl) ?_
        refine rG_23 hx hb hts i_X12_ending_X12 hown hK hP (hts (.fieldLink RX12 90 "StatementRules2Model" "iy" "[I") k_X12_ending_fieldLink_RX12_90_SRModel_iy_I) dX12_ending_152 ?_
        refine lv_iload_n hx hb dX12_ending_155 rfl (lv_at hl 2 rfl) ?_
        obtain ⟨b18, hf⟩ := hf_ite hf
        refine rL_23 (v := (σ.a 23 ((x2 : Int32).toNatClampNeg))) hx hb hK hP b18 dX12_ending_156 rfl ?_
        refine rS_23 hx hb hK hP hD hS b18 dX12_ending_157 (fun H locs hP hD hS => ?_)
        refine lv_iinc (v := (x3 + 1)) (lv' := [(3, .int (x3 + 1)), (0, .ref Q.h0), (1, .int x1), (2, .int x2)]) hx hb dX12_ending_158 hl (k := 3) rfl rfl (by decide) rfl (fun ls hl => ?_)
        refine lv_goto (tgt := 119) hx hb dX12_ending_161 (by decide) ?_
        exact ih (RS.setA σ 23 ((x2 : Int32).toNatClampNeg) (σ.a 23 ((x2 : Int32).toNatClampNeg))) x1 x2 (x3 + 1) _ _ _ hf hP hD hS (lv_sub hl [1, 2, 3, 0] rfl)
      ·
        replace hf := (if_pos c17).symm.trans hf
        refine lv_aload_n hx hb dX12_ending_142 rfl (lv_at hl 0 rfl) ?_
        refine rG_47 hx hb hts i_X12_ending_X12 hown hK hP (hts (.fieldLink RX12 144 "StatementRules2Model" "goalDepth" "[I") k_X12_ending_fieldLink_RX12_144_SRModel_goalDepth_I) dX12_ending_143 ?_
        refine lv_iload_n hx hb dX12_ending_146 rfl (lv_at hl 3 rfl) ?_
        refine rL_47 (v := (σ.a 47 ((x3 : Int32).toNatClampNeg))) hx hb hK hP b16 dX12_ending_147 rfl ?_
        refine lv_goto (tgt := 157) hx hb dX12_ending_148 (by decide) ?_
        obtain ⟨b19, hf⟩ := hf_ite hf
        refine rS_23 hx hb hK hP hD hS b19 dX12_ending_157 (fun H locs hP hD hS => ?_)
        refine lv_iinc (v := (x3 + 1)) (lv' := [(3, .int (x3 + 1)), (0, .ref Q.h0), (1, .int x1), (2, .int x2)]) hx hb dX12_ending_158 hl (k := 3) rfl rfl (by decide) rfl (fun ls hl => ?_)
        refine lv_goto (tgt := 119) hx hb dX12_ending_161 (by decide) ?_
        exact ih (RS.setA σ 23 ((x2 : Int32).toNatClampNeg) (σ.a 47 ((x3 : Int32).toNatClampNeg))) x1 x2 (x3 + 1) _ _ _ hf hP hD hS (lv_sub hl [1, 2, 3, 0] rfl)
set_option maxHeartbeats 4000000 in
set_option maxRecDepth 100000 in
theorem j_X12_ending_117 {p : Program} {e : Env} {s : State} {m : MethodId} {args : Array Value} {below : List Frame} {meth : Method} {c : Code} {A : Nat → Prop} (l : Launch) (dC : Nat → ClassId) (dI : Nat → Nat → Nat) (Q : RQ) (N : Nat) (R : RS) (hx : p.tables.exec = Jvm.exec) (hb : c.code = cX12_ending) (hr : meth.sig.returnType = none) (hml : c.maxLocals = 4) (hown : s.vm.findClass RX12 = some m.cls) (hts : ∀ w ∈ wzX12_ending, w.before args s = true) (hlocks : meth.locks = false) (hZ : zAMB s) (hA : ∀ q : Nat, s.heap.size ≤ q → A q) (hK : va_K (dC, dI) vwCl (rT Q) s) : ∀ (σ : RS) (x1 : Int32) (x2 : Int32) (H : Heap) (locs : List Loc) (ls : Array Slot), f_X12_ending_117 N σ x1 x2 = some R → va_P (dC, dI) vwCl (rW Q σ) H → va_D A (rW Q σ) → va_S A s.heap H locs → lv_has ls 4 [(0, .ref Q.h0), (1, .int x1), (2, .int x2)] → W p l e ({ frames := 5, cells := 0, slots := 0, locals := 300 }) s m args below meth c H locs 0 0 (MQ below (va_Qv (fun (_ : Unit) => True) (fun (_ : Unit) (t : State) => zPost dC dI A (rW Q R) (rT Q) t) A) args s 0 0 A) (F0 m 117 ls []) := by
  intro σ x1 x2 H locs ls hf hP hD hS hl
  unfold f_X12_ending_117 at hf
  refine lv_iconst (v := 0) hx hb dX12_ending_117 (by decide) ?_
  refine lv_istore_n (lv' := [(3, .int 0), (0, .ref Q.h0), (1, .int x1), (2, .int x2)]) hx hb dX12_ending_118 rfl hl (by decide) rfl (fun ls hl => ?_)
  exact j_X12_ending_119 l dC dI Q N R hx hb hr hml hown hts hlocks hZ hA hK N σ x1 x2 0 _ _ _ hf hP hD hS (lv_sub hl [1, 2, 3, 0] rfl)
set_option maxHeartbeats 4000000 in
set_option maxRecDepth 100000 in
theorem j_X12_ending_63 {p : Program} {e : Env} {s : State} {m : MethodId} {args : Array Value} {below : List Frame} {meth : Method} {c : Code} {A : Nat → Prop} (l : Launch) (dC : Nat → ClassId) (dI : Nat → Nat → Nat) (Q : RQ) (N : Nat) (R : RS) (hx : p.tables.exec = Jvm.exec) (hb : c.code = cX12_ending) (hr : meth.sig.returnType = none) (hml : c.maxLocals = 4) (hown : s.vm.findClass RX12 = some m.cls) (hts : ∀ w ∈ wzX12_ending, w.before args s = true) (hlocks : meth.locks = false) (hZ : zAMB s) (hA : ∀ q : Nat, s.heap.size ≤ q → A q) (hK : va_K (dC, dI) vwCl (rT Q) s) : ∀ (σ : RS) (H : Heap) (locs : List Loc) (ls : Array Slot), f_X12_ending_63 N σ = some R → va_P (dC, dI) vwCl (rW Q σ) H → va_D A (rW Q σ) → va_S A s.heap H locs → lv_has ls 4 [(0, .ref Q.h0)] → W p l e ({ frames := 5, cells := 0, slots := 0, locals := 300 }) s m args below meth c H locs 0 0 (MQ below (va_Qv (fun (_ : Unit) => True) (fun (_ : Unit) (t : State) => zPost dC dI A (rW Q R) (rT Q) t) A) args s 0 0 A) (F0 m 63 ls []) := by
  intro σ  H locs ls hf hP hD hS hl
  unfold f_X12_ending_63 at hf
  refine lv_aload_n hx hb dX12_ending_63 rfl (lv_at hl 0 rfl) ?_
  obtain ⟨p26, hcp26, hf⟩ := hf_bind hf
  have hFc := r_free hD hS hA
  refine va_callv (va_runV (As := []) (rest := []) ⟨hx, hb, hml, hown, hts⟩ (c_X12_next l dC dI _ Q N σ p26 hcp26) (cwV 0 hts hX12_ending_X12_next_v345 rfl rfl rfl (by decide +kernel) ⟨Nat.le_of_ble_eq_true rfl, Nat.le_of_ble_eq_true rfl⟩) ⟨zPre.blind, va_recv hK hP (ci := 11) (q0 := 0) rfl rfl, zPre.go hZ hP hK hD⟩ rfl rfl hl.1 rfl (lv_room (Nat.le_of_ble_eq_true rfl)) dX12_ending_64 ⟨Nat.le_of_ble_eq_true rfl, Nat.le_of_ble_eq_true rfl⟩) hS (fun q _ h => hFc q h) hFc (fun u9 t9 H1 locs ht hvm hw hB hz1 hk1 hS => ?_)
  obtain ⟨hP, hK1, hD1⟩ := hB
  rw [ht] at hP
  have hD := hD1.weaken (fun _ _ _ h => hFc _ h)
  generalize H1 = H at hP hS ⊢
  refine lv_aload_n hx hb dX12_ending_67 rfl (lv_at hl 0 rfl) ?_
  refine lv_iconst (v := 1) hx hb dX12_ending_68 (by decide) ?_
  refine lv_bipush (v := 16) hx hb dX12_ending_69 (by decide) ?_
  obtain ⟨p28, hcp28, hf⟩ := hf_bind hf
  have hFc := r_free hD hS hA
  refine va_callv (va_runV (As := [.int 1, .int 16]) (rest := []) ⟨hx, hb, hml, hown, hts⟩ (c_X12_then l dC dI _ Q N p26 1 16 p28 hcp28) (cwV 2 hts hX12_ending_X12_then_v393 rfl rfl rfl (by decide +kernel) ⟨Nat.le_of_ble_eq_true rfl, Nat.le_of_ble_eq_true rfl⟩) ⟨zPre.blind, va_recv hK hP (ci := 11) (q0 := 0) rfl rfl, zPre.go hZ hP hK hD⟩ rfl rfl hl.1 rfl (lv_room (Nat.le_of_ble_eq_true rfl)) dX12_ending_71 ⟨Nat.le_of_ble_eq_true rfl, Nat.le_of_ble_eq_true rfl⟩) hS (fun q _ h => hFc q h) hFc (fun u9 t9 H1 locs ht hvm hw hB hz1 hk1 hS => ?_)
  obtain ⟨hP, hK1, hD1⟩ := hB
  rw [ht] at hP
  have hD := hD1.weaken (fun _ _ _ h => hFc _ h)
  generalize H1 = H at hP hS ⊢
  obtain rfl := Option.some.inj hf
  exact W.vret hx hb hr (fun t ht hW => ⟨⟨(), rfl, trivial, by rw [ht]; exact hP, va_K.moved hW.alike hK, hD⟩, hS.F ht⟩) hS.2.2 dX12_ending_74
set_option maxHeartbeats 4000000 in
set_option maxRecDepth 100000 in
theorem j_X12_ending_53 {p : Program} {e : Env} {s : State} {m : MethodId} {args : Array Value} {below : List Frame} {meth : Method} {c : Code} {A : Nat → Prop} (l : Launch) (dC : Nat → ClassId) (dI : Nat → Nat → Nat) (Q : RQ) (N : Nat) (R : RS) (hx : p.tables.exec = Jvm.exec) (hb : c.code = cX12_ending) (hr : meth.sig.returnType = none) (hml : c.maxLocals = 4) (hown : s.vm.findClass RX12 = some m.cls) (hts : ∀ w ∈ wzX12_ending, w.before args s = true) (hlocks : meth.locks = false) (hZ : zAMB s) (hA : ∀ q : Nat, s.heap.size ≤ q → A q) (hK : va_K (dC, dI) vwCl (rT Q) s) : ∀ (σ : RS) (H : Heap) (locs : List Loc) (ls : Array Slot), f_X12_ending_53 N σ = some R → va_P (dC, dI) vwCl (rW Q σ) H → va_D A (rW Q σ) → va_S A s.heap H locs → lv_has ls 4 [(0, .ref Q.h0)] → W p l e ({ frames := 5, cells := 0, slots := 0, locals := 300 }) s m args below meth c H locs 0 0 (MQ below (va_Qv (fun (_ : Unit) => True) (fun (_ : Unit) (t : State) => zPost dC dI A (rW Q R) (rT Q) t) A) args s 0 0 A) (F0 m 53 ls []) := by
  intro σ  H locs ls hf hP hD hS hl
  unfold f_X12_ending_53 at hf
  refine lv_aload_n hx hb dX12_ending_53 rfl (lv_at hl 0 rfl) ?_
  refine lv_iconst (v := 5) hx hb dX12_ending_54 (by decide) ?_
  refine lv_aload_n hx hb dX12_ending_55 rfl (lv_at hl 0 rfl) ?_
  refine rG_11 (v := (σ.i 11)) hx hb hts i_X12_ending_X12 hown hK hP (hts (.fieldLink RX12 304 "StatementRules2Model" "from" "I") k_X12_ending_fieldLink_RX12_304_SRModel_from_I) dX12_ending_56 rfl ?_
  obtain ⟨p33, hcp33, hf⟩ := hf_bind hf
  have hFc := r_free hD hS hA
  refine va_callv (va_runV (As := [.int 5, .int (σ.i 11)]) (rest := []) ⟨hx, hb, hml, hown, hts⟩ (c_X12_fail l dC dI _ Q N σ 5 (σ.i 11) p33 hcp33) (cwV 2 hts hX12_ending_X12_fail_v337 rfl rfl rfl (by decide +kernel) ⟨Nat.le_of_ble_eq_true rfl, Nat.le_of_ble_eq_true rfl⟩) ⟨zPre.blind, va_recv hK hP (ci := 11) (q0 := 0) rfl rfl, zPre.go hZ hP hK hD⟩ rfl rfl hl.1 rfl (lv_room (Nat.le_of_ble_eq_true rfl)) dX12_ending_59 ⟨Nat.le_of_ble_eq_true rfl, Nat.le_of_ble_eq_true rfl⟩) hS (fun q _ h => hFc q h) hFc (fun u9 t9 H1 locs ht hvm hw hB hz1 hk1 hS => ?_)
  obtain ⟨hP, hK1, hD1⟩ := hB
  rw [ht] at hP
  have hD := hD1.weaken (fun _ _ _ h => hFc _ h)
  generalize H1 = H at hP hS ⊢
  obtain rfl := Option.some.inj hf
  exact W.vret hx hb hr (fun t ht hW => ⟨⟨(), rfl, trivial, by rw [ht]; exact hP, va_K.moved hW.alike hK, hD⟩, hS.F ht⟩) hS.2.2 dX12_ending_62
set_option maxHeartbeats 4000000 in
set_option maxRecDepth 100000 in
theorem j_X12_ending_36 {p : Program} {e : Env} {s : State} {m : MethodId} {args : Array Value} {below : List Frame} {meth : Method} {c : Code} {A : Nat → Prop} (l : Launch) (dC : Nat → ClassId) (dI : Nat → Nat → Nat) (Q : RQ) (N : Nat) (R : RS) (hx : p.tables.exec = Jvm.exec) (hb : c.code = cX12_ending) (hr : meth.sig.returnType = none) (hml : c.maxLocals = 4) (hown : s.vm.findClass RX12 = some m.cls) (hts : ∀ w ∈ wzX12_ending, w.before args s = true) (hlocks : meth.locks = false) (hZ : zAMB s) (hA : ∀ q : Nat, s.heap.size ≤ q → A q) (hK : va_K (dC, dI) vwCl (rT Q) s) : ∀ (σ : RS) (H : Heap) (locs : List Loc) (ls : Array Slot), f_X12_ending_36 N σ = some R → va_P (dC, dI) vwCl (rW Q σ) H → va_D A (rW Q σ) → va_S A s.heap H locs → lv_has ls 4 [(0, .ref Q.h0)] → W p l e ({ frames := 5, cells := 0, slots := 0, locals := 300 }) s m args below meth c H locs 0 0 (MQ below (va_Qv (fun (_ : Unit) => True) (fun (_ : Unit) (t : State) => zPost dC dI A (rW Q R) (rT Q) t) A) args s 0 0 A) (F0 m 36 ls []) := by
  intro σ  H locs ls hf hP hD hS hl
  unfold f_X12_ending_36 at hf
  refine lv_aload_n hx hb dX12_ending_36 rfl (lv_at hl 0 rfl) ?_
  refine rG_10 (v := (σ.i 10)) hx hb hts i_X12_ending_X12 hown hK hP (hts (.fieldLink RX12 307 "StatementRules2Model" "tok" "I") k_X12_ending_fieldLink_RX12_307_SRModel_tok_I) dX12_ending_37 rfl ?_
  refine lv_sipush (v := 431) hx hb dX12_ending_40 (by decide) ?_
  refine lv_icmp_ne (tgt := 63) hx hb dX12_ending_43 (by decide) (fun c25 => ?_) (fun c25 => ?_)
  ·
    replace hf := (if_neg c25).symm.trans hf
    exact j_X12_ending_63 l dC dI Q N R hx hb hr hml hown hts hlocks hZ hA hK σ _ _ _ hf hP hD hS (lv_sub hl [0] rfl)
  ·
    replace hf := (if_pos c25).symm.trans hf
    refine lv_aload_n hx hb dX12_ending_46 rfl (lv_at hl 0 rfl) ?_
    obtain ⟨p30, hcp30, hf⟩ := hf_bind hf
    have hFc := r_free hD hS hA
    refine va_calli (va_runV (As := []) (rest := []) ⟨hx, hb, hml, hown, hts⟩ (c_X12_isInArms l dC dI _ Q N σ p30 hcp30) (cwV 0 hts hX12_ending_X12_isInArms_v524 rfl rfl rfl (by decide +kernel) ⟨Nat.le_of_ble_eq_true rfl, Nat.le_of_ble_eq_true rfl⟩) ⟨zPre.blind, va_recv hK hP (ci := 11) (q0 := 0) rfl rfl, zPre.go hZ hP hK hD⟩ rfl rfl hl.1 rfl (lv_room (Nat.le_of_ble_eq_true rfl)) dX12_ending_47 ⟨Nat.le_of_ble_eq_true rfl, Nat.le_of_ble_eq_true rfl⟩) hS (fun q _ h => hFc q h) hFc (fun r31 u9 t9 H1 locs ht hvm hw hB hz1 hk1 hS => ?_)
    obtain ⟨hP, hK1, hD1⟩ := hB
    rw [ht] at hP
    have hD := hD1.weaken (fun _ _ _ h => hFc _ h)
    generalize H1 = H at hP hS ⊢
    obtain rfl : r31 = p30.1 := hw
    refine lv_if_ne (tgt := 63) hx hb dX12_ending_50 (by decide) (fun c32 => ?_) (fun c32 => ?_)
    ·
      replace hf := (if_neg c32).symm.trans hf
      exact j_X12_ending_63 l dC dI Q N R hx hb hr hml hown hts hlocks hZ hA hK p30.2 _ _ _ hf hP hD hS (lv_sub hl [0] rfl)
    ·
      replace hf := (if_pos c32).symm.trans hf
      exact j_X12_ending_53 l dC dI Q N R hx hb hr hml hown hts hlocks hZ hA hK p30.2 _ _ _ hf hP hD hS (lv_sub hl [0] rfl)
set_option maxHeartbeats 4000000 in
set_option maxRecDepth 100000 in
theorem c_X12_ending (l : Launch) (dC : Nat → ClassId) (dI : Nat → Nat → Nat) (sz : Nat) (Q : RQ) (N : Nat) (σ : RS) (x1 : Int32) (R : RS) (hf : f_X12_ending N σ x1 = some R) : Met l yX12_ending wzX12_ending ({ frames := 5, cells := 0, slots := 0, locals := 300 }) (va_Pc [.ref Q.h0, .int x1] (zPre dC dI sz (rW Q σ) (rT Q))) (va_Qv (fun (_ : Unit) => True) (fun (_ : Unit) (t : State) => zPost dC dI (va_A (rW Q σ) sz) (rW Q R) (rT Q) t) (va_A (rW Q σ) sz)) 0 0 (va_A (rW Q σ) sz) := by
  refine Met.ofW (cc := cX12_ending) (maxL := 4) (ret := none) (by decide) rfl ?_
  intro p e s m args below meth c s₁ B hml hv
  obtain ⟨rfl, hsz, hZ, hP, hK, hD0⟩ := hv
  have hx := B.exec
  have hb := B.bytes
  have hr := B.returns
  have hts := atoms_spec (ws := wzX12_ending) B.pre
  have hown : s.vm.findClass RX12 = some m.cls := findClass_of_methodNamed B.named
  have hlocks := B.notSynchronized
  subst hsz
  have hD := hD0.self (sz := s.heap.size)
  generalize hAe : va_A (rW Q σ) s.heap.size = A at hD ⊢
  have hA : ∀ q : Nat, s.heap.size ≤ q → A q := fun q h => by rw [← hAe]; exact Or.inr h
  have hS : va_S A s.heap s.heap [] := va_S.rf
  have hl := lv_entry ([.ref Q.h0, .int x1]) (n := 4) (Nat.le_of_ble_eq_true rfl)
  rw [lg_entry_eq]
  generalize (lg_sl ([.ref Q.h0, .int x1]) ++ List.replicate (4 - (lg_sl ([.ref Q.h0, .int x1])).length) Slot.unset).toArray = ls at hl ⊢
  have hl : lv_has ls 4 [(0, .ref Q.h0), (1, .int x1)] := hl
  unfold f_X12_ending at hf
  refine lv_aload_n hx hb dX12_ending_0 rfl (lv_at hl 0 rfl) ?_
  refine rG_65 hx hb hts i_X12_ending_X12 hown hK hP (hts (.fieldLink RX12 177 "StatementRules2Model" "fs" "[I") k_X12_ending_fieldLink_RX12_177_SRModel_fs_I) dX12_ending_1 ?_
  refine lv_iload_n hx hb dX12_ending_4 rfl (lv_at hl 1 rfl) ?_
  obtain ⟨b1, hf⟩ := hf_ite hf
  refine rL_65 (v := (σ.a 65 ((x1 : Int32).toNatClampNeg))) hx hb hK hP b1 dX12_ending_5 rfl ?_
  refine lv_if_ne (tgt := 75) hx hb dX12_ending_6 (by decide) (fun c2 => ?_) (fun c2 => ?_)
  ·
    replace hf := (if_neg c2).symm.trans hf
    refine lv_aload_n hx hb dX12_ending_75 rfl (lv_at hl 0 rfl) ?_
    refine lv_aload_n hx hb dX12_ending_76 rfl (lv_at hl 0 rfl) ?_
    refine rG_66 hx hb hts i_X12_ending_X12 hown hK hP (hts (.fieldLink RX12 180 "StatementRules2Model" "fp" "[I") k_X12_ending_fieldLink_RX12_180_SRModel_fp_I) dX12_ending_77 ?_
    refine lv_iload_n hx hb dX12_ending_80 rfl (lv_at hl 1 rfl) ?_
    refine rL_66 (v := (σ.a 66 ((x1 : Int32).toNatClampNeg))) hx hb hK hP b1 dX12_ending_81 rfl ?_
    refine lv_sipush (v := 412) hx hb dX12_ending_82 (by decide) ?_
    refine lv_icmp_ne (tgt := 93) hx hb dX12_ending_85 (by decide) (fun c3 => ?_) (fun c3 => ?_)
    ·
      replace hf := (if_neg c3).symm.trans hf
      refine lv_aload_n hx hb dX12_ending_93 rfl (lv_at hl 0 rfl) ?_
      refine rG_66 hx hb hts i_X12_ending_X12 hown hK hP (hts (.fieldLink RX12 180 "StatementRules2Model" "fp" "[I") k_X12_ending_fieldLink_RX12_180_SRModel_fp_I) dX12_ending_94 ?_
      refine lv_iload_n hx hb dX12_ending_97 rfl (lv_at hl 1 rfl) ?_
      refine rL_66 (v := (σ.a 66 ((x1 : Int32).toNatClampNeg))) hx hb hK hP b1 dX12_ending_98 rfl ?_
      refine lv_sipush (v := 420) hx hb dX12_ending_99 (by decide) ?_
      refine lv_icmp_ne (tgt := 110) hx hb dX12_ending_102 (by decide) (fun c4 => ?_) (fun c4 => ?_)
      ·
        replace hf := (if_neg c4).symm.trans hf
        refine lv_bipush (v := 18) hx hb dX12_ending_110 (by decide) ?_
        refine lv_iconst (v := 0) hx hb dX12_ending_112 (by decide) ?_
        obtain ⟨p5, hcp5, hf⟩ := hf_bind hf
        have hFc := r_free hD hS hA
        refine va_calli (va_runV (As := [.int 18, .int 0]) (rest := []) ⟨hx, hb, hml, hown, hts⟩ (c_X12_emit l dC dI _ Q N σ 18 0 p5 hcp5) (cwV 2 hts hX12_ending_X12_emit_v464 rfl rfl rfl (by decide +kernel) ⟨Nat.le_of_ble_eq_true rfl, Nat.le_of_ble_eq_true rfl⟩) ⟨zPre.blind, va_recv hK hP (ci := 11) (q0 := 0) rfl rfl, zPre.go hZ hP hK hD⟩ rfl rfl hl.1 rfl (lv_room (Nat.le_of_ble_eq_true rfl)) dX12_ending_113 ⟨Nat.le_of_ble_eq_true rfl, Nat.le_of_ble_eq_true rfl⟩) hS (fun q _ h => hFc q h) hFc (fun r6 u9 t9 H1 locs ht hvm hw hB hz1 hk1 hS => ?_)
        obtain ⟨hP, hK1, hD1⟩ := hB
        rw [ht] at hP
        have hD := hD1.weaken (fun _ _ _ h => hFc _ h)
        generalize H1 = H at hP hS ⊢
        obtain rfl : r6 = p5.1 := hw
        refine lv_istore_n (lv' := [(2, .int p5.1), (0, .ref Q.h0), (1, .int x1)]) hx hb dX12_ending_116 rfl hl (by decide) rfl (fun ls hl => ?_)
        exact j_X12_ending_117 l dC dI Q N R hx hb hr hml hown hts hlocks hZ hA hK p5.2 x1 p5.1 _ _ _ hf hP hD hS (lv_sub hl [1, 2, 0] rfl)
      ·
        replace hf := (if_pos c4).symm.trans hf
        refine lv_bipush (v := 17) hx hb dX12_ending_105 (by decide) ?_
        refine lv_goto (tgt := 112) hx hb dX12_ending_107 (by decide) ?_
        refine lv_iconst (v := 0) hx hb dX12_ending_112 (by decide) ?_
        obtain ⟨p20, hcp20, hf⟩ := hf_bind hf
        have hFc := r_free hD hS hA
        refine va_calli (va_runV (As := [.int 17, .int 0]) (rest := []) ⟨hx, hb, hml, hown, hts⟩ (c_X12_emit l dC dI _ Q N σ 17 0 p20 hcp20) (cwV 2 hts hX12_ending_X12_emit_v464 rfl rfl rfl (by decide +kernel) ⟨Nat.le_of_ble_eq_true rfl, Nat.le_of_ble_eq_true rfl⟩) ⟨zPre.blind, va_recv hK hP (ci := 11) (q0 := 0) rfl rfl, zPre.go hZ hP hK hD⟩ rfl rfl hl.1 rfl (lv_room (Nat.le_of_ble_eq_true rfl)) dX12_ending_113 ⟨Nat.le_of_ble_eq_true rfl, Nat.le_of_ble_eq_true rfl⟩) hS (fun q _ h => hFc q h) hFc (fun r21 u9 t9 H1 locs ht hvm hw hB hz1 hk1 hS => ?_)
        obtain ⟨hP, hK1, hD1⟩ := hB
        rw [ht] at hP
        have hD := hD1.weaken (fun _ _ _ h => hFc _ h)
        generalize H1 = H at hP hS ⊢
        obtain rfl : r21 = p20.1 := hw
        refine lv_istore_n (lv' := [(2, .int p20.1), (0, .ref Q.h0), (1, .int x1)]) hx hb dX12_ending_116 rfl hl (by decide) rfl (fun ls hl => ?_)
        exact j_X12_ending_117 l dC dI Q N R hx hb hr hml hown hts hlocks hZ hA hK p20.2 x1 p20.1 _ _ _ hf hP hD hS (lv_sub hl [1, 2, 0] rfl)
    ·
      replace hf := (if_pos c3).symm.trans hf
      refine lv_bipush (v := 16) hx hb dX12_ending_88 (by decide) ?_
      refine lv_goto (tgt := 112) hx hb dX12_ending_90 (by decide) ?_
      refine lv_iconst (v := 0) hx hb dX12_ending_112 (by decide) ?_
      obtain ⟨p22, hcp22, hf⟩ := hf_bind hf
      have hFc := r_free hD hS hA
      refine va_calli (va_runV (As := [.int 16, .int 0]) (rest := []) ⟨hx, hb, hml, hown, hts⟩ (c_X12_emit l dC dI _ Q N σ 16 0 p22 hcp22) (cwV 2 hts hX12_ending_X12_emit_v464 rfl rfl rfl (by decide +kernel) ⟨Nat.le_of_ble_eq_true rfl, Nat.le_of_ble_eq_true rfl⟩) ⟨zPre.blind, va_recv hK hP (ci := 11) (q0 := 0) rfl rfl, zPre.go hZ hP hK hD⟩ rfl rfl hl.1 rfl (lv_room (Nat.le_of_ble_eq_true rfl)) dX12_ending_113 ⟨Nat.le_of_ble_eq_true rfl, Nat.le_of_ble_eq_true rfl⟩) hS (fun q _ h => hFc q h) hFc (fun r23 u9 t9 H1 locs ht hvm hw hB hz1 hk1 hS => ?_)
      obtain ⟨hP, hK1, hD1⟩ := hB
      rw [ht] at hP
      have hD := hD1.weaken (fun _ _ _ h => hFc _ h)
      generalize H1 = H at hP hS ⊢
      obtain rfl : r23 = p22.1 := hw
      refine lv_istore_n (lv' := [(2, .int p22.1), (0, .ref Q.h0), (1, .int x1)]) hx hb dX12_ending_116 rfl hl (by decide) rfl (fun ls hl => ?_)
      exact j_X12_ending_117 l dC dI Q N R hx hb hr hml hown hts hlocks hZ hA hK p22.2 x1 p22.1 _ _ _ hf hP hD hS (lv_sub hl [1, 2, 0] rfl)
  ·
    replace hf := (if_pos c2).symm.trans hf
    refine lv_aload_n hx hb dX12_ending_9 rfl (lv_at hl 0 rfl) ?_
    refine rG_66 hx hb hts i_X12_ending_X12 hown hK hP (hts (.fieldLink RX12 180 "StatementRules2Model" "fp" "[I") k_X12_ending_fieldLink_RX12_180_SRModel_fp_I) dX12_ending_10 ?_
    refine lv_iload_n hx hb dX12_ending_13 rfl (lv_at hl 1 rfl) ?_
    refine lv_aload_n hx hb dX12_ending_14 rfl (lv_at hl 0 rfl) ?_
    refine rG_10 (v := (σ.i 10)) hx hb hts i_X12_ending_X12 hown hK hP (hts (.fieldLink RX12 307 "StatementRules2Model" "tok" "I") k_X12_ending_fieldLink_RX12_307_SRModel_tok_I) dX12_ending_15 rfl ?_
    refine rS_66 hx hb hK hP hD hS b1 dX12_ending_18 (fun H locs hP hD hS => ?_)
    refine lv_aload_n hx hb dX12_ending_19 rfl (lv_at hl 0 rfl) ?_
    refine rG_10 (v := (σ.i 10)) hx hb hts i_X12_ending_X12 hown hK hP (hts (.fieldLink RX12 307 "StatementRules2Model" "tok" "I") k_X12_ending_fieldLink_RX12_307_SRModel_tok_I) dX12_ending_20 rfl ?_
    refine lv_sipush (v := 420) hx hb dX12_ending_23 (by decide) ?_
    refine lv_icmp_ne (tgt := 36) hx hb dX12_ending_26 (by decide) (fun c24 => ?_) (fun c24 => ?_)
    ·
      replace hf := (if_neg c24).symm.trans hf
      exact j_X12_ending_36 l dC dI Q N R hx hb hr hml hown hts hlocks hZ hA hK (RS.setA σ 66 ((x1 : Int32).toNatClampNeg) (σ.i 10)) _ _ _ hf hP hD hS (lv_sub hl [0] rfl)
    ·
      replace hf := (if_pos c24).symm.trans hf
      refine lv_aload_n hx hb dX12_ending_29 rfl (lv_at hl 0 rfl) ?_
      obtain ⟨p35, hcp35, hf⟩ := hf_bind hf
      have hFc := r_free hD hS hA
      refine va_calli (va_runV (As := []) (rest := []) ⟨hx, hb, hml, hown, hts⟩ (c_X12_isInArms l dC dI _ Q N (RS.setA σ 66 ((x1 : Int32).toNatClampNeg) (σ.i 10)) p35 hcp35) (cwV 0 hts hX12_ending_X12_isInArms_v524 rfl rfl rfl (by decide +kernel) ⟨Nat.le_of_ble_eq_true rfl, Nat.le_of_ble_eq_true rfl⟩) ⟨zPre.blind, va_recv hK hP (ci := 11) (q0 := 0) rfl rfl, zPre.go hZ hP hK hD⟩ rfl rfl hl.1 rfl (lv_room (Nat.le_of_ble_eq_true rfl)) dX12_ending_30 ⟨Nat.le_of_ble_eq_true rfl, Nat.le_of_ble_eq_true rfl⟩) hS (fun q _ h => hFc q h) hFc (fun r36 u9 t9 H1 locs ht hvm hw hB hz1 hk1 hS => ?_)
      obtain ⟨hP, hK1, hD1⟩ := hB
      rw [ht] at hP
      have hD := hD1.weaken (fun _ _ _ h => hFc _ h)
      generalize H1 = H at hP hS ⊢
      obtain rfl : r36 = p35.1 := hw
      refine lv_if_ne (tgt := 53) hx hb dX12_ending_33 (by decide) (fun c37 => ?_) (fun c37 => ?_)
      ·
        replace hf := (if_neg c37).symm.trans hf
        exact j_X12_ending_53 l dC dI Q N R hx hb hr hml hown hts hlocks hZ hA hK p35.2 _ _ _ hf hP hD hS (lv_sub hl [0] rfl)
      ·
        replace hf := (if_pos c37).symm.trans hf
        exact j_X12_ending_36 l dC dI Q N R hx hb hr hml hown hts hlocks hZ hA hK p35.2 _ _ _ hf hP hD hS (lv_sub hl [0] rfl)
theorem k_X12_throwing_fieldLink_RX12_177_SRModel_fs_I : Cond.fieldLink RX12 177 "StatementRules2Model" "fs" "[I" ∈ wzX12_throwing := List.mem_cons_of_mem _ (List.mem_append_left _ (List.mem_of_getElem? (i := 0) rfl))
theorem i_X12_throwing_X12 : ∀ w ∈ wsX120, w ∈ wzX12_throwing := fun _ h => List.mem_cons_of_mem _ (List.mem_append_right _ (List.mem_append_left _ (h)))
theorem k_X12_throwing_fieldLink_RX12_307_SRModel_tok_I : Cond.fieldLink RX12 307 "StatementRules2Model" "tok" "I" ∈ wzX12_throwing := List.mem_cons_of_mem _ (List.mem_append_left _ (List.mem_of_getElem? (i := 1) rfl))
theorem k_X12_throwing_fieldLink_RX12_327_SRModel_name_J : Cond.fieldLink RX12 327 "StatementRules2Model" "name" "J" ∈ wzX12_throwing := List.mem_cons_of_mem _ (List.mem_append_left _ (List.mem_of_getElem? (i := 2) rfl))
theorem k_X12_throwing_fieldLink_RX12_304_SRModel_from_I : Cond.fieldLink RX12 304 "StatementRules2Model" "from" "I" ∈ wzX12_throwing := List.mem_cons_of_mem _ (List.mem_append_left _ (List.mem_of_getElem? (i := 3) rfl))
theorem k_X12_throwing_fieldLink_RX12_132_SRModel_seenCaught_Z : Cond.fieldLink RX12 132 "StatementRules2Model" "seenCaught" "[Z" ∈ wzX12_throwing := List.mem_cons_of_mem _ (List.mem_append_left _ (List.mem_of_getElem? (i := 4) rfl))
theorem k_X12_throwing_fieldLink_RX12_129_SRModel_seenSlot_I : Cond.fieldLink RX12 129 "StatementRules2Model" "seenSlot" "[I" ∈ wzX12_throwing := List.mem_cons_of_mem _ (List.mem_append_left _ (List.mem_of_getElem? (i := 5) rfl))
theorem k_X12_throwing_fieldLink_RX12_314_SRModel_number_I : Cond.fieldLink RX12 314 "StatementRules2Model" "number" "I" ∈ wzX12_throwing := List.mem_cons_of_mem _ (List.mem_append_left _ (List.mem_of_getElem? (i := 6) rfl))
theorem k_X12_throwing_fieldLink_RX12_13_SRModel_kinds_I : Cond.fieldLink RX12 13 "StatementRules2Model" "kinds" "I" ∈ wzX12_throwing := List.mem_cons_of_mem _ (List.mem_append_left _ (List.mem_of_getElem? (i := 7) rfl))
theorem k_X12_throwing_fieldLink_RX12_180_SRModel_fp_I : Cond.fieldLink RX12 180 "StatementRules2Model" "fp" "[I" ∈ wzX12_throwing := List.mem_cons_of_mem _ (List.mem_append_left _ (List.mem_of_getElem? (i := 8) rfl))
set_option maxHeartbeats 4000000 in
set_option maxRecDepth 100000 in
theorem j_X12_throwing_142 {p : Program} {e : Env} {s : State} {m : MethodId} {args : Array Value} {below : List Frame} {meth : Method} {c : Code} {A : Nat → Prop} (l : Launch) (dC : Nat → ClassId) (dI : Nat → Nat → Nat) (Q : RQ) (N : Nat) (R : RS) (hx : p.tables.exec = Jvm.exec) (hb : c.code = cX12_throwing) (hr : meth.sig.returnType = none) (hml : c.maxLocals = 3) (hown : s.vm.findClass RX12 = some m.cls) (hts : ∀ w ∈ wzX12_throwing, w.before args s = true) (hlocks : meth.locks = false) (hZ : zAMB s) (hA : ∀ q : Nat, s.heap.size ≤ q → A q) (hK : va_K (dC, dI) vwCl (rT Q) s) : ∀ (σ : RS) (H : Heap) (locs : List Loc) (ls : Array Slot), f_X12_throwing_142 N σ = some R → va_P (dC, dI) vwCl (rW Q σ) H → va_D A (rW Q σ) → va_S A s.heap H locs → lv_has ls 3 [(0, .ref Q.h0)] → W p l e ({ frames := 5, cells := 0, slots := 0, locals := 300 }) s m args below meth c H locs 0 0 (MQ below (va_Qv (fun (_ : Unit) => True) (fun (_ : Unit) (t : State) => zPost dC dI A (rW Q R) (rT Q) t) A) args s 0 0 A) (F0 m 142 ls []) := by
  intro σ  H locs ls hf hP hD hS hl
  unfold f_X12_throwing_142 at hf
  refine lv_aload_n hx hb dX12_throwing_142 rfl (lv_at hl 0 rfl) ?_
  refine lv_iconst (v := 3) hx hb dX12_throwing_143 (by decide) ?_
  refine lv_aload_n hx hb dX12_throwing_144 rfl (lv_at hl 0 rfl) ?_
  refine rG_11 (v := (σ.i 11)) hx hb hts i_X12_throwing_X12 hown hK hP (hts (.fieldLink RX12 304 "StatementRules2Model" "from" "I") k_X12_throwing_fieldLink_RX12_304_SRModel_from_I) dX12_throwing_145 rfl ?_
  obtain ⟨p13, hcp13, hf⟩ := hf_bind hf
  have hFc := r_free hD hS hA
  refine va_callv (va_runV (As := [.int 3, .int (σ.i 11)]) (rest := []) ⟨hx, hb, hml, hown, hts⟩ (c_X12_fail l dC dI _ Q N σ 3 (σ.i 11) p13 hcp13) (cwV 2 hts hX12_throwing_X12_fail_v337 rfl rfl rfl (by decide +kernel) ⟨Nat.le_of_ble_eq_true rfl, Nat.le_of_ble_eq_true rfl⟩) ⟨zPre.blind, va_recv hK hP (ci := 11) (q0 := 0) rfl rfl, zPre.go hZ hP hK hD⟩ rfl rfl hl.1 rfl (lv_room (Nat.le_of_ble_eq_true rfl)) dX12_throwing_148 ⟨Nat.le_of_ble_eq_true rfl, Nat.le_of_ble_eq_true rfl⟩) hS (fun q _ h => hFc q h) hFc (fun u9 t9 H1 locs ht hvm hw hB hz1 hk1 hS => ?_)
  obtain ⟨hP, hK1, hD1⟩ := hB
  rw [ht] at hP
  have hD := hD1.weaken (fun _ _ _ h => hFc _ h)
  generalize H1 = H at hP hS ⊢
  obtain rfl := Option.some.inj hf
  exact W.vret hx hb hr (fun t ht hW => ⟨⟨(), rfl, trivial, by rw [ht]; exact hP, va_K.moved hW.alike hK, hD⟩, hS.F ht⟩) hS.2.2 dX12_throwing_151
set_option maxHeartbeats 4000000 in
set_option maxRecDepth 100000 in
theorem j_X12_throwing_69 {p : Program} {e : Env} {s : State} {m : MethodId} {args : Array Value} {below : List Frame} {meth : Method} {c : Code} {A : Nat → Prop} (l : Launch) (dC : Nat → ClassId) (dI : Nat → Nat → Nat) (Q : RQ) (N : Nat) (R : RS) (hx : p.tables.exec = Jvm.exec) (hb : c.code = cX12_throwing) (hr : meth.sig.returnType = none) (hml : c.maxLocals = 3) (hown : s.vm.findClass RX12 = some m.cls) (hts : ∀ w ∈ wzX12_throwing, w.before args s = true) (hlocks : meth.locks = false) (hZ : zAMB s) (hA : ∀ q : Nat, s.heap.size ≤ q → A q) (hK : va_K (dC, dI) vwCl (rT Q) s) : ∀ (σ : RS) (x1 : Int32) (H : Heap) (locs : List Loc) (ls : Array Slot), f_X12_throwing_69 N σ x1 = some R → va_P (dC, dI) vwCl (rW Q σ) H → va_D A (rW Q σ) → va_S A s.heap H locs → lv_has ls 3 [(0, .ref Q.h0), (1, .int x1)] → W p l e ({ frames := 5, cells := 0, slots := 0, locals := 300 }) s m args below meth c H locs 0 0 (MQ below (va_Qv (fun (_ : Unit) => True) (fun (_ : Unit) (t : State) => zPost dC dI A (rW Q R) (rT Q) t) A) args s 0 0 A) (F0 m 69 ls []) := by
  intro σ x1 H locs ls hf hP hD hS hl
  unfold f_X12_throwing_69 at hf
  refine lv_aload_n hx hb dX12_throwing_69 rfl (lv_at hl 0 rfl) ?_
  refine rG_10 (v := (σ.i 10)) hx hb hts i_X12_throwing_X12 hown hK hP (hts (.fieldLink RX12 307 "StatementRules2Model" "tok" "I") k_X12_throwing_fieldLink_RX12_307_SRModel_tok_I) dX12_throwing_70 rfl ?_
  refine lv_iconst (v := 5) hx hb dX12_throwing_73 (by decide) ?_
  refine lv_icmp_ne (tgt := 120) hx hb dX12_throwing_74 (by decide) (fun c9 => ?_) (fun c9 => ?_)
  ·
    replace hf := (if_neg c9).symm.trans hf
    refine lv_aload_n hx hb dX12_throwing_120 rfl (lv_at hl 0 rfl) ?_
    refine lv_aload_n hx hb dX12_throwing_121 rfl (lv_at hl 0 rfl) ?_
    refine rG_13 (v := σ.l) hx hb hts i_X12_throwing_X12 hown hK hP (hts (.fieldLink RX12 327 "StatementRules2Model" "name" "J") k_X12_throwing_fieldLink_RX12_327_SRModel_name_J) dX12_throwing_122 rfl ?_
    obtain ⟨p10, hcp10, hf⟩ := hf_bind hf
    have hFc := r_free hD hS hA
    refine va_calli (va_runV (As := [.long σ.l]) (rest := []) ⟨hx, hb, hml, hown, hts⟩ (c_X12_seenAs l dC dI _ Q N σ σ.l p10 hcp10) (cwV 1 hts hX12_throwing_X12_seenAs_v471 rfl rfl rfl (by decide +kernel) ⟨Nat.le_of_ble_eq_true rfl, Nat.le_of_ble_eq_true rfl⟩) ⟨zPre.blind, va_recv hK hP (ci := 11) (q0 := 0) rfl rfl, zPre.go hZ hP hK hD⟩ rfl rfl hl.1 rfl (lv_room (Nat.le_of_ble_eq_true rfl)) dX12_throwing_125 ⟨Nat.le_of_ble_eq_true rfl, Nat.le_of_ble_eq_true rfl⟩) hS (fun q _ h => hFc q h) hFc (fun r11 u9 t9 H1 locs ht hvm hw hB hz1 hk1 hS => ?_)
    obtain ⟨hP, hK1, hD1⟩ := hB
    rw [ht] at hP
    have hD := hD1.weaken (fun _ _ _ h => hFc _ h)
    generalize H1 = H at hP hS ⊢
    obtain rfl : r11 = p10.1 := hw
    refine lv_istore_n (lv' := [(2, .int p10.1), (0, .ref Q.h0), (1, .int x1)]) hx hb dX12_throwing_128 rfl hl (by decide) rfl (fun ls hl => ?_)
    refine lv_iload_n hx hb dX12_throwing_129 rfl (lv_at hl 0 rfl) ?_
    refine lv_if_lt (tgt := 142) hx hb dX12_throwing_130 (by decide) (fun c12 => ?_) (fun c12 => ?_)
    ·
      replace hf := (if_pos c12).symm.trans hf
      exact j_X12_throwing_142 l dC dI Q N R hx hb hr hml hown hts hlocks hZ hA hK p10.2 _ _ _ hf hP hD hS (lv_sub hl [1] rfl)
    ·
      replace hf := (if_neg c12).symm.trans hf
      refine lv_aload_n hx hb dX12_throwing_133 rfl (lv_at hl 1 rfl) ?_
      refine rG_41 hx hb hts i_X12_throwing_X12 hown hK hP (hts (.fieldLink RX12 132 "StatementRules2Model" "seenCaught" "[Z") k_X12_throwing_fieldLink_RX12_132_SRModel_seenCaught_Z) dX12_throwing_134 ?_
      refine lv_iload_n hx hb dX12_throwing_137 rfl (lv_at hl 0 rfl) ?_
      obtain ⟨b15, hf⟩ := hf_ite hf
      refine rL_41 (v := (p10.2.a 41 ((p10.1 : Int32).toNatClampNeg))) hx hb hK hP b15 dX12_throwing_138 rfl ?_
      refine lv_if_ne (tgt := 152) hx hb dX12_throwing_139 (by decide) (fun c16 => ?_) (fun c16 => ?_)
      ·
        replace hf := (if_neg c16).symm.trans hf
        refine lv_aload_n hx hb dX12_throwing_152 rfl (lv_at hl 1 rfl) ?_
        refine lv_bipush (v := 21) hx hb dX12_throwing_153 (by decide) ?_
        refine lv_aload_n hx hb dX12_throwing_155 rfl (lv_at hl 1 rfl) ?_
        refine rG_40 hx hb hts i_X12_throwing_X12 hown hK hP (hts (.fieldLink RX12 129 "StatementRules2Model" "seenSlot" "[I") k_X12_throwing_fieldLink_RX12_129_SRModel_seenSlot_I) dX12_throwing_156 ?_
        refine lv_iload_n hx hb dX12_throwing_159 rfl (lv_at hl 0 rfl) ?_
        refine rL_40 (v := (p10.2.a 40 ((p10.1 : Int32).toNatClampNeg))) hx hb hK hP b15 dX12_throwing_160 rfl ?_
        obtain ⟨p17, hcp17, hf⟩ := hf_bind hf
        have hFc := r_free hD hS hA
        refine va_calli (va_runV (As := [.int 21, .int (p10.2.a 40 ((p10.1 : Int32).toNatClampNeg))]) (rest := []) ⟨hx, hb, hml, hown, hts⟩ (c_X12_emit l dC dI _ Q N p10.2 21 (p10.2.a 40 ((p10.1 : Int32).toNatClampNeg)) p17 hcp17) (cwV 2 hts hX12_throwing_X12_emit_v464 rfl rfl rfl (by decide +kernel) ⟨Nat.le_of_ble_eq_true rfl, Nat.le_of_ble_eq_true rfl⟩) ⟨zPre.blind, va_recv hK hP (ci := 11) (q0 := 0) rfl rfl, zPre.go hZ hP hK hD⟩ rfl rfl hl.1 rfl (lv_room (Nat.le_of_ble_eq_true rfl)) dX12_throwing_161 ⟨Nat.le_of_ble_eq_true rfl, Nat.le_of_ble_eq_true rfl⟩) hS (fun q _ h => hFc q h) hFc (fun r18 u9 t9 H1 locs ht hvm hw hB hz1 hk1 hS => ?_)
        obtain ⟨hP, hK1, hD1⟩ := hB
        rw [ht] at hP
        have hD := hD1.weaken (fun _ _ _ h => hFc _ h)
        generalize H1 = H at hP hS ⊢
        obtain rfl : r18 = p17.1 := hw
        refine lv_pop hx hb dX12_throwing_164 rfl ?_
        refine lv_aload_n hx hb dX12_throwing_165 rfl (lv_at hl 1 rfl) ?_
        obtain ⟨p19, hcp19, hf⟩ := hf_bind hf
        have hFc := r_free hD hS hA
        refine va_callv (va_runV (As := []) (rest := []) ⟨hx, hb, hml, hown, hts⟩ (c_X12_next l dC dI _ Q N p17.2 p19 hcp19) (cwV 0 hts hX12_throwing_X12_next_v345 rfl rfl rfl (by decide +kernel) ⟨Nat.le_of_ble_eq_true rfl, Nat.le_of_ble_eq_true rfl⟩) ⟨zPre.blind, va_recv hK hP (ci := 11) (q0 := 0) rfl rfl, zPre.go hZ hP hK hD⟩ rfl rfl hl.1 rfl (lv_room (Nat.le_of_ble_eq_true rfl)) dX12_throwing_166 ⟨Nat.le_of_ble_eq_true rfl, Nat.le_of_ble_eq_true rfl⟩) hS (fun q _ h => hFc q h) hFc (fun u9 t9 H1 locs ht hvm hw hB hz1 hk1 hS => ?_)
        obtain ⟨hP, hK1, hD1⟩ := hB
        rw [ht] at hP
        have hD := hD1.weaken (fun _ _ _ h => hFc _ h)
        generalize H1 = H at hP hS ⊢
        refine lv_aload_n hx hb dX12_throwing_169 rfl (lv_at hl 1 rfl) ?_
        refine lv_bipush (v := 59) hx hb dX12_throwing_170 (by decide) ?_
        obtain ⟨p21, hcp21, hf⟩ := hf_bind hf
        have hFc := r_free hD hS hA
        refine va_calli (va_runV (As := [.int 59]) (rest := []) ⟨hx, hb, hml, hown, hts⟩ (c_X12_need l dC dI _ Q N p19 59 p21 hcp21) (cwV 1 hts hX12_throwing_X12_need_v355 rfl rfl rfl (by decide +kernel) ⟨Nat.le_of_ble_eq_true rfl, Nat.le_of_ble_eq_true rfl⟩) ⟨zPre.blind, va_recv hK hP (ci := 11) (q0 := 0) rfl rfl, zPre.go hZ hP hK hD⟩ rfl rfl hl.1 rfl (lv_room (Nat.le_of_ble_eq_true rfl)) dX12_throwing_172 ⟨Nat.le_of_ble_eq_true rfl, Nat.le_of_ble_eq_true rfl⟩) hS (fun q _ h => hFc q h) hFc (fun r22 u9 t9 H1 locs ht hvm hw hB hz1 hk1 hS => ?_)
        obtain ⟨hP, hK1, hD1⟩ := hB
        rw [ht] at hP
        have hD := hD1.weaken (fun _ _ _ h => hFc _ h)
        generalize H1 = H at hP hS ⊢
        obtain rfl : r22 = p21.1 := hw
        refine lv_pop hx hb dX12_throwing_175 rfl ?_
        refine lv_aload_n hx hb dX12_throwing_176 rfl (lv_at hl 1 rfl) ?_
        refine lv_iconst (v := 0) hx hb dX12_throwing_177 (by decide) ?_
        obtain ⟨p23, hcp23, hf⟩ := hf_bind hf
        have hFc := r_free hD hS hA
        refine va_callv (va_runV (As := [.int 0]) (rest := []) ⟨hx, hb, hml, hown, hts⟩ (c_X12_over l dC dI _ Q N p21.2 0 p23 hcp23) (cwV 1 hts hX12_throwing_X12_over_v490 rfl rfl rfl (by decide +kernel) ⟨Nat.le_of_ble_eq_true rfl, Nat.le_of_ble_eq_true rfl⟩) ⟨zPre.blind, va_recv hK hP (ci := 11) (q0 := 0) rfl rfl, zPre.go hZ hP hK hD⟩ rfl rfl hl.1 rfl (lv_room (Nat.le_of_ble_eq_true rfl)) dX12_throwing_178 ⟨Nat.le_of_ble_eq_true rfl, Nat.le_of_ble_eq_true rfl⟩) hS (fun q _ h => hFc q h) hFc (fun u9 t9 H1 locs ht hvm hw hB hz1 hk1 hS => ?_)
        obtain ⟨hP, hK1, hD1⟩ := hB
        rw [ht] at hP
        have hD := hD1.weaken (fun _ _ _ h => hFc _ h)
        generalize H1 = H at hP hS ⊢
        obtain rfl := Option.some.inj hf
        exact W.vret hx hb hr (fun t ht hW => ⟨⟨(), rfl, trivial, by rw [ht]; exact hP, va_K.moved hW.alike hK, hD⟩, hS.F ht⟩) hS.2.2 dX12_throwing_181
      ·
        replace hf := (if_pos c16).symm.trans hf
        exact j_X12_throwing_142 l dC dI Q N R hx hb hr hml hown hts hlocks hZ hA hK p10.2 _ _ _ hf hP hD hS (lv_sub hl [1] rfl)
  ·
    replace hf := (if_pos c9).symm.trans hf
    refine lv_aload_n hx hb dX12_throwing_77 rfl (lv_at hl 0 rfl) ?_
    refine rG_14 (v := (σ.i 14)) hx hb hts i_X12_throwing_X12 hown hK hP (hts (.fieldLink RX12 314 "StatementRules2Model" "number" "I") k_X12_throwing_fieldLink_RX12_314_SRModel_number_I) dX12_throwing_78 rfl ?_
    refine lv_aload_n hx hb dX12_throwing_81 rfl (lv_at hl 0 rfl) ?_
    refine rG_3 (v := (σ.i 3)) hx hb hts i_X12_throwing_X12 hown hK hP (hts (.fieldLink RX12 13 "StatementRules2Model" "kinds" "I") k_X12_throwing_fieldLink_RX12_13_SRModel_kinds_I) dX12_throwing_82 rfl ?_
    refine lv_icmp_lt (tgt := 98) hx hb dX12_throwing_85 (by decide) (fun c25 => ?_) (fun c25 => ?_)
    ·
      replace hf := (if_pos c25).symm.trans hf
      refine lv_aload_n hx hb dX12_throwing_98 rfl (lv_at hl 0 rfl) ?_
      refine rG_66 hx hb hts i_X12_throwing_X12 hown hK hP (hts (.fieldLink RX12 180 "StatementRules2Model" "fp" "[I") k_X12_throwing_fieldLink_RX12_180_SRModel_fp_I) dX12_throwing_99 ?_
      refine lv_iload_n hx hb dX12_throwing_102 rfl (lv_at hl 1 rfl) ?_
      refine lv_aload_n hx hb dX12_throwing_103 rfl (lv_at hl 0 rfl) ?_
      refine rG_14 (v := (σ.i 14)) hx hb hts i_X12_throwing_X12 hown hK hP (hts (.fieldLink RX12 314 "StatementRules2Model" "number" "I") k_X12_throwing_fieldLink_RX12_314_SRModel_number_I) dX12_throwing_104 rfl ?_
      obtain ⟨b26, hf⟩ := hf_ite hf
      refine rS_66 hx hb hK hP hD hS b26 dX12_throwing_107 (fun H locs hP hD hS => ?_)
      refine lv_aload_n hx hb dX12_throwing_108 rfl (lv_at hl 0 rfl) ?_
      obtain ⟨p27, hcp27, hf⟩ := hf_bind hf
      have hFc := r_free hD hS hA
      refine va_callv (va_runV (As := []) (rest := []) ⟨hx, hb, hml, hown, hts⟩ (c_X12_next l dC dI _ Q N (RS.setA σ 66 ((x1 : Int32).toNatClampNeg) (σ.i 14)) p27 hcp27) (cwV 0 hts hX12_throwing_X12_next_v345 rfl rfl rfl (by decide +kernel) ⟨Nat.le_of_ble_eq_true rfl, Nat.le_of_ble_eq_true rfl⟩) ⟨zPre.blind, va_recv hK hP (ci := 11) (q0 := 0) rfl rfl, zPre.go hZ hP hK hD⟩ rfl rfl hl.1 rfl (lv_room (Nat.le_of_ble_eq_true rfl)) dX12_throwing_109 ⟨Nat.le_of_ble_eq_true rfl, Nat.le_of_ble_eq_true rfl⟩) hS (fun q _ h => hFc q h) hFc (fun u9 t9 H1 locs ht hvm hw hB hz1 hk1 hS => ?_)
      obtain ⟨hP, hK1, hD1⟩ := hB
      rw [ht] at hP
      have hD := hD1.weaken (fun _ _ _ h => hFc _ h)
      generalize H1 = H at hP hS ⊢
      refine lv_aload_n hx hb dX12_throwing_112 rfl (lv_at hl 0 rfl) ?_
      refine lv_iconst (v := 1) hx hb dX12_throwing_113 (by decide) ?_
      refine lv_bipush (v := 16) hx hb dX12_throwing_114 (by decide) ?_
      obtain ⟨p29, hcp29, hf⟩ := hf_bind hf
      have hFc := r_free hD hS hA
      refine va_callv (va_runV (As := [.int 1, .int 16]) (rest := []) ⟨hx, hb, hml, hown, hts⟩ (c_X12_then l dC dI _ Q N p27 1 16 p29 hcp29) (cwV 2 hts hX12_throwing_X12_then_v393 rfl rfl rfl (by decide +kernel) ⟨Nat.le_of_ble_eq_true rfl, Nat.le_of_ble_eq_true rfl⟩) ⟨zPre.blind, va_recv hK hP (ci := 11) (q0 := 0) rfl rfl, zPre.go hZ hP hK hD⟩ rfl rfl hl.1 rfl (lv_room (Nat.le_of_ble_eq_true rfl)) dX12_throwing_116 ⟨Nat.le_of_ble_eq_true rfl, Nat.le_of_ble_eq_true rfl⟩) hS (fun q _ h => hFc q h) hFc (fun u9 t9 H1 locs ht hvm hw hB hz1 hk1 hS => ?_)
      obtain ⟨hP, hK1, hD1⟩ := hB
      rw [ht] at hP
      have hD := hD1.weaken (fun _ _ _ h => hFc _ h)
      generalize H1 = H at hP hS ⊢
      obtain rfl := Option.some.inj hf
      exact W.vret hx hb hr (fun t ht hW => ⟨⟨(), rfl, trivial, by rw [ht]; exact hP, va_K.moved hW.alike hK, hD⟩, hS.F ht⟩) hS.2.2 dX12_throwing_119
    ·
      replace hf := (if_neg c25).symm.trans hf
      refine lv_aload_n hx hb dX12_throwing_88 rfl (lv_at hl 0 rfl) ?_
      refine lv_iconst (v := 3) hx hb dX12_throwing_89 (by decide) ?_
      refine lv_aload_n hx hb dX12_throwing_90 rfl (lv_at hl 0 rfl) ?_
      refine rG_11 (v := (σ.i 11)) hx hb hts i_X12_throwing_X12 hown hK hP (hts (.fieldLink RX12 304 "StatementRules2Model" "from" "I") k_X12_throwing_fieldLink_RX12_304_SRModel_from_I) dX12_throwing_91 rfl ?_
      obtain ⟨p31, hcp31, hf⟩ := hf_bind hf
      have hFc := r_free hD hS hA
      refine va_callv (va_runV (As := [.int 3, .int (σ.i 11)]) (rest := []) ⟨hx, hb, hml, hown, hts⟩ (c_X12_fail l dC dI _ Q N σ 3 (σ.i 11) p31 hcp31) (cwV 2 hts hX12_throwing_X12_fail_v337 rfl rfl rfl (by decide +kernel) ⟨Nat.le_of_ble_eq_true rfl, Nat.le_of_ble_eq_true rfl⟩) ⟨zPre.blind, va_recv hK hP (ci := 11) (q0 := 0) rfl rfl, zPre.go hZ hP hK hD⟩ rfl rfl hl.1 rfl (lv_room (Nat.le_of_ble_eq_true rfl)) dX12_throwing_94 ⟨Nat.le_of_ble_eq_true rfl, Nat.le_of_ble_eq_true rfl⟩) hS (fun q _ h => hFc q h) hFc (fun u9 t9 H1 locs ht hvm hw hB hz1 hk1 hS => ?_)
      obtain ⟨hP, hK1, hD1⟩ := hB
      rw [ht] at hP
      have hD := hD1.weaken (fun _ _ _ h => hFc _ h)
      generalize H1 = H at hP hS ⊢
      obtain rfl := Option.some.inj hf
      exact W.vret hx hb hr (fun t ht hW => ⟨⟨(), rfl, trivial, by rw [ht]; exact hP, va_K.moved hW.alike hK, hD⟩, hS.F ht⟩) hS.2.2 dX12_throwing_97
set_option maxHeartbeats 4000000 in
set_option maxRecDepth 100000 in
theorem c_X12_throwing (l : Launch) (dC : Nat → ClassId) (dI : Nat → Nat → Nat) (sz : Nat) (Q : RQ) (N : Nat) (σ : RS) (x1 : Int32) (R : RS) (hf : f_X12_throwing N σ x1 = some R) : Met l yX12_throwing wzX12_throwing ({ frames := 5, cells := 0, slots := 0, locals := 300 }) (va_Pc [.ref Q.h0, .int x1] (zPre dC dI sz (rW Q σ) (rT Q))) (va_Qv (fun (_ : Unit) => True) (fun (_ : Unit) (t : State) => zPost dC dI (va_A (rW Q σ) sz) (rW Q R) (rT Q) t) (va_A (rW Q σ) sz)) 0 0 (va_A (rW Q σ) sz) := by
  refine Met.ofW (cc := cX12_throwing) (maxL := 3) (ret := none) (by decide) rfl ?_
  intro p e s m args below meth c s₁ B hml hv
  obtain ⟨rfl, hsz, hZ, hP, hK, hD0⟩ := hv
  have hx := B.exec
  have hb := B.bytes
  have hr := B.returns
  have hts := atoms_spec (ws := wzX12_throwing) B.pre
  have hown : s.vm.findClass RX12 = some m.cls := findClass_of_methodNamed B.named
  have hlocks := B.notSynchronized
  subst hsz
  have hD := hD0.self (sz := s.heap.size)
  generalize hAe : va_A (rW Q σ) s.heap.size = A at hD ⊢
  have hA : ∀ q : Nat, s.heap.size ≤ q → A q := fun q h => by rw [← hAe]; exact Or.inr h
  have hS : va_S A s.heap s.heap [] := va_S.rf
  have hl := lv_entry ([.ref Q.h0, .int x1]) (n := 3) (Nat.le_of_ble_eq_true rfl)
  rw [lg_entry_eq]
  generalize (lg_sl ([.ref Q.h0, .int x1]) ++ List.replicate (3 - (lg_sl ([.ref Q.h0, .int x1])).length) Slot.unset).toArray = ls at hl ⊢
  have hl : lv_has ls 3 [(0, .ref Q.h0), (1, .int x1)] := hl
  unfold f_X12_throwing at hf
  refine lv_aload_n hx hb dX12_throwing_0 rfl (lv_at hl 0 rfl) ?_
  refine rG_65 hx hb hts i_X12_throwing_X12 hown hK hP (hts (.fieldLink RX12 177 "StatementRules2Model" "fs" "[I") k_X12_throwing_fieldLink_RX12_177_SRModel_fs_I) dX12_throwing_1 ?_
  refine lv_iload_n hx hb dX12_throwing_4 rfl (lv_at hl 1 rfl) ?_
  obtain ⟨b1, hf⟩ := hf_ite hf
  refine rL_65 (v := (σ.a 65 ((x1 : Int32).toNatClampNeg))) hx hb hK hP b1 dX12_throwing_5 rfl ?_
  refine lv_iconst (v := 1) hx hb dX12_throwing_6 (by decide) ?_
  refine lv_icmp_ne (tgt := 36) hx hb dX12_throwing_7 (by decide) (fun c2 => ?_) (fun c2 => ?_)
  ·
    replace hf := (if_neg c2).symm.trans hf
    refine lv_aload_n hx hb dX12_throwing_36 rfl (lv_at hl 0 rfl) ?_
    obtain ⟨p3, hcp3, hf⟩ := hf_bind hf
    have hFc := r_free hD hS hA
    refine va_callv (va_runV (As := []) (rest := []) ⟨hx, hb, hml, hown, hts⟩ (c_X12_next l dC dI _ Q N σ p3 hcp3) (cwV 0 hts hX12_throwing_X12_next_v345 rfl rfl rfl (by decide +kernel) ⟨Nat.le_of_ble_eq_true rfl, Nat.le_of_ble_eq_true rfl⟩) ⟨zPre.blind, va_recv hK hP (ci := 11) (q0 := 0) rfl rfl, zPre.go hZ hP hK hD⟩ rfl rfl hl.1 rfl (lv_room (Nat.le_of_ble_eq_true rfl)) dX12_throwing_37 ⟨Nat.le_of_ble_eq_true rfl, Nat.le_of_ble_eq_true rfl⟩) hS (fun q _ h => hFc q h) hFc (fun u9 t9 H1 locs ht hvm hw hB hz1 hk1 hS => ?_)
    obtain ⟨hP, hK1, hD1⟩ := hB
    rw [ht] at hP
    have hD := hD1.weaken (fun _ _ _ h => hFc _ h)
    generalize H1 = H at hP hS ⊢
    refine lv_aload_n hx hb dX12_throwing_40 rfl (lv_at hl 0 rfl) ?_
    refine lv_aload_n hx hb dX12_throwing_41 rfl (lv_at hl 0 rfl) ?_
    refine rG_10 (v := (p3.i 10)) hx hb hts i_X12_throwing_X12 hown hK hP (hts (.fieldLink RX12 307 "StatementRules2Model" "tok" "I") k_X12_throwing_fieldLink_RX12_307_SRModel_tok_I) dX12_throwing_42 rfl ?_
    refine lv_iconst (v := 5) hx hb dX12_throwing_45 (by decide) ?_
    refine lv_icmp_eq (tgt := 57) hx hb dX12_throwing_46 (by decide) (fun c5 => ?_) (fun c5 => ?_)
    ·
      replace hf := (if_pos c5).symm.trans hf
      refine lv_iconst (v := 1) hx hb dX12_throwing_57 (by decide) ?_
      refine lv_goto (tgt := 62) hx hb dX12_throwing_58 (by decide) ?_
      obtain ⟨p6, hcp6, hf⟩ := hf_bind hf
      have hFc := r_free hD hS hA
      refine va_calli (va_runV (As := [.int 1]) (rest := []) ⟨hx, hb, hml, hown, hts⟩ (c_X12_can l dC dI _ Q N p3 1 p6 hcp6) (cwV 1 hts hX12_throwing_X12_can_v341 rfl rfl rfl (by decide +kernel) ⟨Nat.le_of_ble_eq_true rfl, Nat.le_of_ble_eq_true rfl⟩) ⟨zPre.blind, va_recv hK hP (ci := 11) (q0 := 0) rfl rfl, zPre.go hZ hP hK hD⟩ rfl rfl hl.1 rfl (lv_room (Nat.le_of_ble_eq_true rfl)) dX12_throwing_62 ⟨Nat.le_of_ble_eq_true rfl, Nat.le_of_ble_eq_true rfl⟩) hS (fun q _ h => hFc q h) hFc (fun r7 u9 t9 H1 locs ht hvm hw hB hz1 hk1 hS => ?_)
      obtain ⟨hP, hK1, hD1⟩ := hB
      rw [ht] at hP
      have hD := hD1.weaken (fun _ _ _ h => hFc _ h)
      generalize H1 = H at hP hS ⊢
      obtain rfl : r7 = p6.1 := hw
      refine lv_if_ne (tgt := 69) hx hb dX12_throwing_65 (by decide) (fun c8 => ?_) (fun c8 => ?_)
      ·
        replace hf := (if_neg c8).symm.trans hf
        exact j_X12_throwing_69 l dC dI Q N R hx hb hr hml hown hts hlocks hZ hA hK p6.2 x1 _ _ _ hf hP hD hS (lv_sub hl [0, 1] rfl)
      ·
        replace hf := (if_pos c8).symm.trans hf
        obtain rfl := Option.some.inj hf
        exact W.vret hx hb hr (fun t ht hW => ⟨⟨(), rfl, trivial, by rw [ht]; exact hP, va_K.moved hW.alike hK, hD⟩, hS.F ht⟩) hS.2.2 dX12_throwing_68
    ·
      replace hf := (if_neg c5).symm.trans hf
      refine lv_aload_n hx hb dX12_throwing_49 rfl (lv_at hl 0 rfl) ?_
      refine rG_10 (v := (p3.i 10)) hx hb hts i_X12_throwing_X12 hown hK hP (hts (.fieldLink RX12 307 "StatementRules2Model" "tok" "I") k_X12_throwing_fieldLink_RX12_307_SRModel_tok_I) dX12_throwing_50 rfl ?_
      refine lv_iconst (v := 2) hx hb dX12_throwing_53 (by decide) ?_
      refine lv_icmp_ne (tgt := 61) hx hb dX12_throwing_54 (by decide) (fun c33 => ?_) (fun c33 => ?_)
      ·
        replace hf := (if_neg c33).symm.trans hf
        refine lv_iconst (v := 0) hx hb dX12_throwing_61 (by decide) ?_
        obtain ⟨p34, hcp34, hf⟩ := hf_bind hf
        have hFc := r_free hD hS hA
        refine va_calli (va_runV (As := [.int 0]) (rest := []) ⟨hx, hb, hml, hown, hts⟩ (c_X12_can l dC dI _ Q N p3 0 p34 hcp34) (cwV 1 hts hX12_throwing_X12_can_v341 rfl rfl rfl (by decide +kernel) ⟨Nat.le_of_ble_eq_true rfl, Nat.le_of_ble_eq_true rfl⟩) ⟨zPre.blind, va_recv hK hP (ci := 11) (q0 := 0) rfl rfl, zPre.go hZ hP hK hD⟩ rfl rfl hl.1 rfl (lv_room (Nat.le_of_ble_eq_true rfl)) dX12_throwing_62 ⟨Nat.le_of_ble_eq_true rfl, Nat.le_of_ble_eq_true rfl⟩) hS (fun q _ h => hFc q h) hFc (fun r35 u9 t9 H1 locs ht hvm hw hB hz1 hk1 hS => ?_)
        obtain ⟨hP, hK1, hD1⟩ := hB
        rw [ht] at hP
        have hD := hD1.weaken (fun _ _ _ h => hFc _ h)
        generalize H1 = H at hP hS ⊢
        obtain rfl : r35 = p34.1 := hw
        refine lv_if_ne (tgt := 69) hx hb dX12_throwing_65 (by decide) (fun c36 => ?_) (fun c36 => ?_)
        ·
          replace hf := (if_neg c36).symm.trans hf
          exact j_X12_throwing_69 l dC dI Q N R hx hb hr hml hown hts hlocks hZ hA hK p34.2 x1 _ _ _ hf hP hD hS (lv_sub hl [0, 1] rfl)
        ·
          replace hf := (if_pos c36).symm.trans hf
          obtain rfl := Option.some.inj hf
          exact W.vret hx hb hr (fun t ht hW => ⟨⟨(), rfl, trivial, by rw [ht]; exact hP, va_K.moved hW.alike hK, hD⟩, hS.F ht⟩) hS.2.2 dX12_throwing_68
      ·
        replace hf := (if_pos c33).symm.trans hf
        refine lv_iconst (v := 1) hx hb dX12_throwing_57 (by decide) ?_
        refine lv_goto (tgt := 62) hx hb dX12_throwing_58 (by decide) ?_
        obtain ⟨p37, hcp37, hf⟩ := hf_bind hf
        have hFc := r_free hD hS hA
        refine va_calli (va_runV (As := [.int 1]) (rest := []) ⟨hx, hb, hml, hown, hts⟩ (c_X12_can l dC dI _ Q N p3 1 p37 hcp37) (cwV 1 hts hX12_throwing_X12_can_v341 rfl rfl rfl (by decide +kernel) ⟨Nat.le_of_ble_eq_true rfl, Nat.le_of_ble_eq_true rfl⟩) ⟨zPre.blind, va_recv hK hP (ci := 11) (q0 := 0) rfl rfl, zPre.go hZ hP hK hD⟩ rfl rfl hl.1 rfl (lv_room (Nat.le_of_ble_eq_true rfl)) dX12_throwing_62 ⟨Nat.le_of_ble_eq_true rfl, Nat.le_of_ble_eq_true rfl⟩) hS (fun q _ h => hFc q h) hFc (fun r38 u9 t9 H1 locs ht hvm hw hB hz1 hk1 hS => ?_)
        obtain ⟨hP, hK1, hD1⟩ := hB
        rw [ht] at hP
        have hD := hD1.weaken (fun _ _ _ h => hFc _ h)
        generalize H1 = H at hP hS ⊢
        obtain rfl : r38 = p37.1 := hw
        refine lv_if_ne (tgt := 69) hx hb dX12_throwing_65 (by decide) (fun c39 => ?_) (fun c39 => ?_)
        ·
          replace hf := (if_neg c39).symm.trans hf
          exact j_X12_throwing_69 l dC dI Q N R hx hb hr hml hown hts hlocks hZ hA hK p37.2 x1 _ _ _ hf hP hD hS (lv_sub hl [0, 1] rfl)
        ·
          replace hf := (if_pos c39).symm.trans hf
          obtain rfl := Option.some.inj hf
          exact W.vret hx hb hr (fun t ht hW => ⟨⟨(), rfl, trivial, by rw [ht]; exact hP, va_K.moved hW.alike hK, hD⟩, hS.F ht⟩) hS.2.2 dX12_throwing_68
  ·
    replace hf := (if_pos c2).symm.trans hf
    refine lv_aload_n hx hb dX12_throwing_10 rfl (lv_at hl 0 rfl) ?_
    refine lv_bipush (v := 19) hx hb dX12_throwing_11 (by decide) ?_
    refine lv_aload_n hx hb dX12_throwing_13 rfl (lv_at hl 0 rfl) ?_
    refine rG_66 hx hb hts i_X12_throwing_X12 hown hK hP (hts (.fieldLink RX12 180 "StatementRules2Model" "fp" "[I") k_X12_throwing_fieldLink_RX12_180_SRModel_fp_I) dX12_throwing_14 ?_
    refine lv_iload_n hx hb dX12_throwing_17 rfl (lv_at hl 1 rfl) ?_
    refine rL_66 (v := (σ.a 66 ((x1 : Int32).toNatClampNeg))) hx hb hK hP b1 dX12_throwing_18 rfl ?_
    obtain ⟨p40, hcp40, hf⟩ := hf_bind hf
    have hFc := r_free hD hS hA
    refine va_calli (va_runV (As := [.int 19, .int (σ.a 66 ((x1 : Int32).toNatClampNeg))]) (rest := []) ⟨hx, hb, hml, hown, hts⟩ (c_X12_emit l dC dI _ Q N σ 19 (σ.a 66 ((x1 : Int32).toNatClampNeg)) p40 hcp40) (cwV 2 hts hX12_throwing_X12_emit_v464 rfl rfl rfl (by decide +kernel) ⟨Nat.le_of_ble_eq_true rfl, Nat.le_of_ble_eq_true rfl⟩) ⟨zPre.blind, va_recv hK hP (ci := 11) (q0 := 0) rfl rfl, zPre.go hZ hP hK hD⟩ rfl rfl hl.1 rfl (lv_room (Nat.le_of_ble_eq_true rfl)) dX12_throwing_19 ⟨Nat.le_of_ble_eq_true rfl, Nat.le_of_ble_eq_true rfl⟩) hS (fun q _ h => hFc q h) hFc (fun r41 u9 t9 H1 locs ht hvm hw hB hz1 hk1 hS => ?_)
    obtain ⟨hP, hK1, hD1⟩ := hB
    rw [ht] at hP
    have hD := hD1.weaken (fun _ _ _ h => hFc _ h)
    generalize H1 = H at hP hS ⊢
    obtain rfl : r41 = p40.1 := hw
    refine lv_pop hx hb dX12_throwing_22 rfl ?_
    refine lv_aload_n hx hb dX12_throwing_23 rfl (lv_at hl 0 rfl) ?_
    refine lv_bipush (v := 59) hx hb dX12_throwing_24 (by decide) ?_
    obtain ⟨p42, hcp42, hf⟩ := hf_bind hf
    have hFc := r_free hD hS hA
    refine va_calli (va_runV (As := [.int 59]) (rest := []) ⟨hx, hb, hml, hown, hts⟩ (c_X12_need l dC dI _ Q N p40.2 59 p42 hcp42) (cwV 1 hts hX12_throwing_X12_need_v355 rfl rfl rfl (by decide +kernel) ⟨Nat.le_of_ble_eq_true rfl, Nat.le_of_ble_eq_true rfl⟩) ⟨zPre.blind, va_recv hK hP (ci := 11) (q0 := 0) rfl rfl, zPre.go hZ hP hK hD⟩ rfl rfl hl.1 rfl (lv_room (Nat.le_of_ble_eq_true rfl)) dX12_throwing_26 ⟨Nat.le_of_ble_eq_true rfl, Nat.le_of_ble_eq_true rfl⟩) hS (fun q _ h => hFc q h) hFc (fun r43 u9 t9 H1 locs ht hvm hw hB hz1 hk1 hS => ?_)
    obtain ⟨hP, hK1, hD1⟩ := hB
    rw [ht] at hP
    have hD := hD1.weaken (fun _ _ _ h => hFc _ h)
    generalize H1 = H at hP hS ⊢
    obtain rfl : r43 = p42.1 := hw
    refine lv_pop hx hb dX12_throwing_29 rfl ?_
    refine lv_aload_n hx hb dX12_throwing_30 rfl (lv_at hl 0 rfl) ?_
    refine lv_iconst (v := 0) hx hb dX12_throwing_31 (by decide) ?_
    obtain ⟨p44, hcp44, hf⟩ := hf_bind hf
    have hFc := r_free hD hS hA
    refine va_callv (va_runV (As := [.int 0]) (rest := []) ⟨hx, hb, hml, hown, hts⟩ (c_X12_over l dC dI _ Q N p42.2 0 p44 hcp44) (cwV 1 hts hX12_throwing_X12_over_v490 rfl rfl rfl (by decide +kernel) ⟨Nat.le_of_ble_eq_true rfl, Nat.le_of_ble_eq_true rfl⟩) ⟨zPre.blind, va_recv hK hP (ci := 11) (q0 := 0) rfl rfl, zPre.go hZ hP hK hD⟩ rfl rfl hl.1 rfl (lv_room (Nat.le_of_ble_eq_true rfl)) dX12_throwing_32 ⟨Nat.le_of_ble_eq_true rfl, Nat.le_of_ble_eq_true rfl⟩) hS (fun q _ h => hFc q h) hFc (fun u9 t9 H1 locs ht hvm hw hB hz1 hk1 hS => ?_)
    obtain ⟨hP, hK1, hD1⟩ := hB
    rw [ht] at hP
    have hD := hD1.weaken (fun _ _ _ h => hFc _ h)
    generalize H1 = H at hP hS ⊢
    obtain rfl := Option.some.inj hf
    exact W.vret hx hb hr (fun t ht hW => ⟨⟨(), rfl, trivial, by rw [ht]; exact hP, va_K.moved hW.alike hK, hD⟩, hS.F ht⟩) hS.2.2 dX12_throwing_35
