theorem k_X12_both_fieldLink_RX12_177_SRModel_fs_I : Cond.fieldLink RX12 177 "StatementRules2Model" "fs" "[I" ∈ wzX12_both := List.mem_cons_of_mem _ (List.mem_append_left _ (List.mem_of_getElem? (i := 0) rfl))
theorem i_X12_both_X12 : ∀ w ∈ wsX120, w ∈ wzX12_both := fun _ h => List.mem_cons_of_mem _ (List.mem_append_right _ (List.mem_append_left _ (h)))
theorem k_X12_both_fieldLink_RX12_307_SRModel_tok_I : Cond.fieldLink RX12 307 "StatementRules2Model" "tok" "I" ∈ wzX12_both := List.mem_cons_of_mem _ (List.mem_append_left _ (List.mem_of_getElem? (i := 1) rfl))
theorem k_X12_both_fieldLink_RX12_387_SRModel_top_I : Cond.fieldLink RX12 387 "StatementRules2Model" "top" "I" ∈ wzX12_both := List.mem_cons_of_mem _ (List.mem_append_left _ (List.mem_of_getElem? (i := 2) rfl))
theorem k_X12_both_fieldLink_RX12_180_SRModel_fp_I : Cond.fieldLink RX12 180 "StatementRules2Model" "fp" "[I" ∈ wzX12_both := List.mem_cons_of_mem _ (List.mem_append_left _ (List.mem_of_getElem? (i := 3) rfl))
theorem k_X12_both_fieldLink_RX12_87_SRModel_ix_I : Cond.fieldLink RX12 87 "StatementRules2Model" "ix" "[I" ∈ wzX12_both := List.mem_cons_of_mem _ (List.mem_append_left _ (List.mem_of_getElem? (i := 4) rfl))
theorem k_X12_both_fieldLink_RX12_358_SRModel_codes_I : Cond.fieldLink RX12 358 "StatementRules2Model" "codes" "I" ∈ wzX12_both := List.mem_cons_of_mem _ (List.mem_append_left _ (List.mem_of_getElem? (i := 5) rfl))
set_option maxHeartbeats 4000000 in
set_option maxRecDepth 100000 in
theorem j_X12_both_41 {p : Program} {e : Env} {s : State} {m : MethodId} {args : Array Value} {below : List Frame} {meth : Method} {c : Code} {A : Nat → Prop} (l : Launch) (dC : Nat → ClassId) (dI : Nat → Nat → Nat) (Q : RQ) (N : Nat) (R : RS) (hx : p.tables.exec = Jvm.exec) (hb : c.code = cX12_both) (hr : meth.sig.returnType = none) (hml : c.maxLocals = 5) (hown : s.vm.findClass RX12 = some m.cls) (hts : ∀ w ∈ wzX12_both, w.before args s = true) (hlocks : meth.locks = false) (hZ : zAMB s) (hA : ∀ q : Nat, s.heap.size ≤ q → A q) (hK : va_K (dC, dI) vwCl (rT Q) s) : ∀ (σ : RS) (x1 : Int32) (x2 : Int32) (x3 : Int32) (x4 : Int32) (H : Heap) (locs : List Loc) (ls : Array Slot), f_X12_both_41 N σ x1 x2 x3 x4 = some R → va_P (dC, dI) vwCl (rW Q σ) H → va_D A (rW Q σ) → va_S A s.heap H locs → lv_has ls 5 [(0, .ref Q.h0), (1, .int x1), (2, .int x2), (3, .int x3), (4, .int x4)] → W p l e ({ frames := 4, cells := 0, slots := 0, locals := 240 }) s m args below meth c H locs 0 0 (MQ below (va_Qv (fun (_ : Unit) => True) (fun (_ : Unit) (t : State) => zPost dC dI A (rW Q R) (rT Q) t) A) args s 0 0 A) (F0 m 41 ls []) := by
  intro σ x1 x2 x3 x4 H locs ls hf hP hD hS hl
  unfold f_X12_both_41 at hf
  refine lv_aload_n hx hb dX12_both_41 rfl (lv_at hl 0 rfl) ?_
  refine rG_10 (v := (σ.i 10)) hx hb hts i_X12_both_X12 hown hK hP (hts (.fieldLink RX12 307 "StatementRules2Model" "tok" "I") k_X12_both_fieldLink_RX12_307_SRModel_tok_I) dX12_both_42 rfl ?_
  refine lv_iload_n hx hb dX12_both_45 rfl (lv_at hl 3 rfl) ?_
  refine lv_icmp_ne (tgt := 75) hx hb dX12_both_46 (by decide) (fun c4 => ?_) (fun c4 => ?_)
  ·
    replace hf := (if_neg c4).symm.trans hf
    refine lv_aload_n hx hb dX12_both_75 rfl (lv_at hl 0 rfl) ?_
    refine lv_dup hx hb dX12_both_76 rfl ?_
    refine rG_63 (v := (σ.i 63)) hx hb hts i_X12_both_X12 hown hK hP (hts (.fieldLink RX12 387 "StatementRules2Model" "top" "I") k_X12_both_fieldLink_RX12_387_SRModel_top_I) dX12_both_77 rfl ?_
    refine lv_iconst (v := 1) hx hb dX12_both_80 (by decide) ?_
    refine lv_isub hx hb dX12_both_81 ?_
    refine rP_63 hx hb hts i_X12_both_X12 hown hK hP hD hS (hts (.fieldLink RX12 387 "StatementRules2Model" "top" "I") k_X12_both_fieldLink_RX12_387_SRModel_top_I) dX12_both_82 (fun H locs hP hD hS => ?_)
    obtain rfl := Option.some.inj hf
    exact W.vret hx hb hr (fun t ht hW => ⟨⟨(), rfl, trivial, by rw [ht]; exact hP, va_K.moved hW.alike hK, hD⟩, hS.F ht⟩) hS.2.2 dX12_both_85
  ·
    replace hf := (if_pos c4).symm.trans hf
    refine lv_aload_n hx hb dX12_both_49 rfl (lv_at hl 0 rfl) ?_
    obtain ⟨p5, hcp5, hf⟩ := hf_bind hf
    have hFc := r_free hD hS hA
    refine va_callv (va_runV (As := []) (rest := []) ⟨hx, hb, hml, hown, hts⟩ (c_X12_next l dC dI _ Q N σ p5 hcp5) (cwV 0 hts hX12_both_X12_next_v345 rfl rfl rfl (by decide +kernel) ⟨Nat.le_of_ble_eq_true rfl, Nat.le_of_ble_eq_true rfl⟩) ⟨zPre.blind, va_recv hK hP (ci := 11) (q0 := 0) rfl rfl, zPre.go hZ hP hK hD⟩ rfl rfl hl.1 rfl (lv_room (Nat.le_of_ble_eq_true rfl)) dX12_both_50 ⟨Nat.le_of_ble_eq_true rfl, Nat.le_of_ble_eq_true rfl⟩) hS (fun q _ h => hFc q h) hFc (fun u9 t9 H1 locs ht hvm hw hB hz1 hk1 hS => ?_)
    obtain ⟨hP, hK1, hD1⟩ := hB
    rw [ht] at hP
    have hD := hD1.weaken (fun _ _ _ h => hFc _ h)
    generalize H1 = H at hP hS ⊢
    refine lv_aload_n hx hb dX12_both_53 rfl (lv_at hl 0 rfl) ?_
    refine rG_66 hx hb hts i_X12_both_X12 hown hK hP (hts (.fieldLink RX12 180 "StatementRules2Model" "fp" "[I") k_X12_both_fieldLink_RX12_180_SRModel_fp_I) dX12_both_54 ?_
    refine lv_iload_n hx hb dX12_both_57 rfl (lv_at hl 1 rfl) ?_
    refine lv_aload_n hx hb dX12_both_58 rfl (lv_at hl 0 rfl) ?_
    refine lv_iload hx hb dX12_both_59 (lv_at hl 4 rfl) ?_
    refine lv_iconst (v := 0) hx hb dX12_both_61 (by decide) ?_
    obtain ⟨p7, hcp7, hf⟩ := hf_bind hf
    have hFc := r_free hD hS hA
    refine va_calli (va_runV (As := [.int x4, .int 0]) (rest := [.int x1, .ref (Q.q 66)]) ⟨hx, hb, hml, hown, hts⟩ (c_X12_emit l dC dI _ Q N p5 x4 0 p7 hcp7) (cwV 2 hts hX12_both_X12_emit_v464 rfl rfl rfl (by decide +kernel) ⟨Nat.le_of_ble_eq_true rfl, Nat.le_of_ble_eq_true rfl⟩) ⟨zPre.blind, va_recv hK hP (ci := 11) (q0 := 0) rfl rfl, zPre.go hZ hP hK hD⟩ rfl rfl hl.1 rfl (lv_room (Nat.le_of_ble_eq_true rfl)) dX12_both_62 ⟨Nat.le_of_ble_eq_true rfl, Nat.le_of_ble_eq_true rfl⟩) hS (fun q _ h => hFc q h) hFc (fun r8 u9 t9 H1 locs ht hvm hw hB hz1 hk1 hS => ?_)
    obtain ⟨hP, hK1, hD1⟩ := hB
    rw [ht] at hP
    have hD := hD1.weaken (fun _ _ _ h => hFc _ h)
    generalize H1 = H at hP hS ⊢
    obtain rfl : r8 = p7.1 := hw
    obtain ⟨b9, hf⟩ := hf_ite hf
    refine rS_66 hx hb hK hP hD hS b9 dX12_both_65 (fun H locs hP hD hS => ?_)
    refine lv_aload_n hx hb dX12_both_66 rfl (lv_at hl 0 rfl) ?_
    refine lv_iconst (v := 2) hx hb dX12_both_67 (by decide) ?_
    refine lv_iload_n hx hb dX12_both_68 rfl (lv_at hl 2 rfl) ?_
    obtain ⟨p10, hcp10, hf⟩ := hf_bind hf
    have hFc := r_free hD hS hA
    refine va_callv (va_runV (As := [.int 2, .int x2]) (rest := []) ⟨hx, hb, hml, hown, hts⟩ (c_X12_then l dC dI _ Q N (RS.setA p7.2 66 ((x1 : Int32).toNatClampNeg) p7.1) 2 x2 p10 hcp10) (cwV 2 hts hX12_both_X12_then_v393 rfl rfl rfl (by decide +kernel) ⟨Nat.le_of_ble_eq_true rfl, Nat.le_of_ble_eq_true rfl⟩) ⟨zPre.blind, va_recv hK hP (ci := 11) (q0 := 0) rfl rfl, zPre.go hZ hP hK hD⟩ rfl rfl hl.1 rfl (lv_room (Nat.le_of_ble_eq_true rfl)) dX12_both_69 ⟨Nat.le_of_ble_eq_true rfl, Nat.le_of_ble_eq_true rfl⟩) hS (fun q _ h => hFc q h) hFc (fun u9 t9 H1 locs ht hvm hw hB hz1 hk1 hS => ?_)
    obtain ⟨hP, hK1, hD1⟩ := hB
    rw [ht] at hP
    have hD := hD1.weaken (fun _ _ _ h => hFc _ h)
    generalize H1 = H at hP hS ⊢
    refine lv_goto (tgt := 85) hx hb dX12_both_72 (by decide) ?_
    obtain rfl := Option.some.inj hf
    exact W.vret hx hb hr (fun t ht hW => ⟨⟨(), rfl, trivial, by rw [ht]; exact hP, va_K.moved hW.alike hK, hD⟩, hS.F ht⟩) hS.2.2 dX12_both_85
set_option maxHeartbeats 4000000 in
set_option maxRecDepth 100000 in
theorem c_X12_both (l : Launch) (dC : Nat → ClassId) (dI : Nat → Nat → Nat) (sz : Nat) (Q : RQ) (N : Nat) (σ : RS) (x1 : Int32) (x2 : Int32) (x3 : Int32) (x4 : Int32) (R : RS) (hf : f_X12_both N σ x1 x2 x3 x4 = some R) : Met l yX12_both wzX12_both ({ frames := 4, cells := 0, slots := 0, locals := 240 }) (va_Pc [.ref Q.h0, .int x1, .int x2, .int x3, .int x4] (zPre dC dI sz (rW Q σ) (rT Q))) (va_Qv (fun (_ : Unit) => True) (fun (_ : Unit) (t : State) => zPost dC dI (va_A (rW Q σ) sz) (rW Q R) (rT Q) t) (va_A (rW Q σ) sz)) 0 0 (va_A (rW Q σ) sz) := by
  refine Met.ofW (cc := cX12_both) (maxL := 5) (ret := none) (by decide) rfl ?_
  intro p e s m args below meth c s₁ B hml hv
  obtain ⟨rfl, hsz, hZ, hP, hK, hD0⟩ := hv
  have hx := B.exec
  have hb := B.bytes
  have hr := B.returns
  have hts := atoms_spec (ws := wzX12_both) B.pre
  have hown : s.vm.findClass RX12 = some m.cls := findClass_of_methodNamed B.named
  have hlocks := B.notSynchronized
  subst hsz
  have hD := hD0.self (sz := s.heap.size)
  generalize hAe : va_A (rW Q σ) s.heap.size = A at hD ⊢
  have hA : ∀ q : Nat, s.heap.size ≤ q → A q := fun q h => by rw [← hAe]; exact Or.inr h
  have hS : va_S A s.heap s.heap [] := va_S.rf
  have hl := lv_entry ([.ref Q.h0, .int x1, .int x2, .int x3, .int x4]) (n := 5) (Nat.le_of_ble_eq_true rfl)
  rw [lg_entry_eq]
  generalize (lg_sl ([.ref Q.h0, .int x1, .int x2, .int x3, .int x4]) ++ List.replicate (5 - (lg_sl ([.ref Q.h0, .int x1, .int x2, .int x3, .int x4])).length) Slot.unset).toArray = ls at hl ⊢
  have hl : lv_has ls 5 [(0, .ref Q.h0), (1, .int x1), (2, .int x2), (3, .int x3), (4, .int x4)] := hl
  unfold f_X12_both at hf
  refine lv_aload_n hx hb dX12_both_0 rfl (lv_at hl 0 rfl) ?_
  refine rG_65 hx hb hts i_X12_both_X12 hown hK hP (hts (.fieldLink RX12 177 "StatementRules2Model" "fs" "[I") k_X12_both_fieldLink_RX12_177_SRModel_fs_I) dX12_both_1 ?_
  refine lv_iload_n hx hb dX12_both_4 rfl (lv_at hl 1 rfl) ?_
  obtain ⟨b1, hf⟩ := hf_ite hf
  refine rL_65 (v := (σ.a 65 ((x1 : Int32).toNatClampNeg))) hx hb hK hP b1 dX12_both_5 rfl ?_
  refine lv_if_ne (tgt := 16) hx hb dX12_both_6 (by decide) (fun c2 => ?_) (fun c2 => ?_)
  ·
    replace hf := (if_neg c2).symm.trans hf
    refine lv_aload_n hx hb dX12_both_16 rfl (lv_at hl 0 rfl) ?_
    refine rG_65 hx hb hts i_X12_both_X12 hown hK hP (hts (.fieldLink RX12 177 "StatementRules2Model" "fs" "[I") k_X12_both_fieldLink_RX12_177_SRModel_fs_I) dX12_both_17 ?_
    refine lv_iload_n hx hb dX12_both_20 rfl (lv_at hl 1 rfl) ?_
    refine rL_65 (v := (σ.a 65 ((x1 : Int32).toNatClampNeg))) hx hb hK hP b1 dX12_both_21 rfl ?_
    refine lv_iconst (v := 2) hx hb dX12_both_22 (by decide) ?_
    refine lv_icmp_ne (tgt := 41) hx hb dX12_both_23 (by decide) (fun c3 => ?_) (fun c3 => ?_)
    ·
      replace hf := (if_neg c3).symm.trans hf
      exact j_X12_both_41 l dC dI Q N R hx hb hr hml hown hts hlocks hZ hA hK σ x1 x2 x3 x4 _ _ _ hf hP hD hS (lv_sub hl [0, 1, 2, 3, 4] rfl)
    ·
      replace hf := (if_pos c3).symm.trans hf
      refine lv_aload_n hx hb dX12_both_26 rfl (lv_at hl 0 rfl) ?_
      refine rG_22 hx hb hts i_X12_both_X12 hown hK hP (hts (.fieldLink RX12 87 "StatementRules2Model" "ix" "[I") k_X12_both_fieldLink_RX12_87_SRModel_ix_I) dX12_both_27 ?_
      refine lv_aload_n hx hb dX12_both_30 rfl (lv_at hl 0 rfl) ?_
      refine rG_66 hx hb hts i_X12_both_X12 hown hK hP (hts (.fieldLink RX12 180 "StatementRules2Model" "fp" "[I") k_X12_both_fieldLink_RX12_180_SRModel_fp_I) dX12_both_31 ?_
      refine lv_iload_n hx hb dX12_both_34 rfl (lv_at hl 1 rfl) ?_
      refine rL_66 (v := (σ.a 66 ((x1 : Int32).toNatClampNeg))) hx hb hK hP b1 dX12_both_35 rfl ?_
      refine lv_aload_n hx hb dX12_both_36 rfl (lv_at hl 0 rfl) ?_
      refine rG_20 (v := (σ.i 20)) hx hb hts i_X12_both_X12 hown hK hP (hts (.fieldLink RX12 358 "StatementRules2Model" "codes" "I") k_X12_both_fieldLink_RX12_358_SRModel_codes_I) dX12_both_37 rfl ?_
      obtain ⟨b12, hf⟩ := hf_ite hf
      refine rS_22 hx hb hK hP hD hS b12 dX12_both_40 (fun H locs hP hD hS => ?_)
      exact j_X12_both_41 l dC dI Q N R hx hb hr hml hown hts hlocks hZ hA hK (RS.setA σ 22 (((σ.a 66 ((x1 : Int32).toNatClampNeg)) : Int32).toNatClampNeg) (σ.i 20)) x1 x2 x3 x4 _ _ _ hf hP hD hS (lv_sub hl [0, 1, 2, 3, 4] rfl)
  ·
    replace hf := (if_pos c2).symm.trans hf
    refine lv_aload_n hx hb dX12_both_9 rfl (lv_at hl 0 rfl) ?_
    refine lv_iconst (v := 1) hx hb dX12_both_10 (by decide) ?_
    refine lv_iload_n hx hb dX12_both_11 rfl (lv_at hl 2 rfl) ?_
    obtain ⟨p13, hcp13, hf⟩ := hf_bind hf
    have hFc := r_free hD hS hA
    refine va_callv (va_runV (As := [.int 1, .int x2]) (rest := []) ⟨hx, hb, hml, hown, hts⟩ (c_X12_then l dC dI _ Q N σ 1 x2 p13 hcp13) (cwV 2 hts hX12_both_X12_then_v393 rfl rfl rfl (by decide +kernel) ⟨Nat.le_of_ble_eq_true rfl, Nat.le_of_ble_eq_true rfl⟩) ⟨zPre.blind, va_recv hK hP (ci := 11) (q0 := 0) rfl rfl, zPre.go hZ hP hK hD⟩ rfl rfl hl.1 rfl (lv_room (Nat.le_of_ble_eq_true rfl)) dX12_both_12 ⟨Nat.le_of_ble_eq_true rfl, Nat.le_of_ble_eq_true rfl⟩) hS (fun q _ h => hFc q h) hFc (fun u9 t9 H1 locs ht hvm hw hB hz1 hk1 hS => ?_)
    obtain ⟨hP, hK1, hD1⟩ := hB
    rw [ht] at hP
    have hD := hD1.weaken (fun _ _ _ h => hFc _ h)
    generalize H1 = H at hP hS ⊢
    obtain rfl := Option.some.inj hf
    exact W.vret hx hb hr (fun t ht hW => ⟨⟨(), rfl, trivial, by rw [ht]; exact hP, va_K.moved hW.alike hK, hD⟩, hS.F ht⟩) hS.2.2 dX12_both_15
theorem k_X12_one_fieldLink_RX12_177_SRModel_fs_I : Cond.fieldLink RX12 177 "StatementRules2Model" "fs" "[I" ∈ wzX12_one := List.mem_cons_of_mem _ (List.mem_append_left _ (List.mem_of_getElem? (i := 0) rfl))
theorem i_X12_one_X12 : ∀ w ∈ wsX120, w ∈ wzX12_one := fun _ h => List.mem_cons_of_mem _ (List.mem_append_right _ (List.mem_append_left _ (h)))
theorem k_X12_one_fieldLink_RX12_307_SRModel_tok_I : Cond.fieldLink RX12 307 "StatementRules2Model" "tok" "I" ∈ wzX12_one := List.mem_cons_of_mem _ (List.mem_append_left _ (List.mem_of_getElem? (i := 1) rfl))
theorem k_X12_one_fieldLink_RX12_387_SRModel_top_I : Cond.fieldLink RX12 387 "StatementRules2Model" "top" "I" ∈ wzX12_one := List.mem_cons_of_mem _ (List.mem_append_left _ (List.mem_of_getElem? (i := 2) rfl))
theorem k_X12_one_fieldLink_RX12_348_SRModel_opened_I : Cond.fieldLink RX12 348 "StatementRules2Model" "opened" "I" ∈ wzX12_one := List.mem_cons_of_mem _ (List.mem_append_left _ (List.mem_of_getElem? (i := 3) rfl))
theorem k_X12_one_fieldLink_RX12_180_SRModel_fp_I : Cond.fieldLink RX12 180 "StatementRules2Model" "fp" "[I" ∈ wzX12_one := List.mem_cons_of_mem _ (List.mem_append_left _ (List.mem_of_getElem? (i := 4) rfl))
set_option maxHeartbeats 4000000 in
set_option maxRecDepth 100000 in
theorem j_X12_one_133 {p : Program} {e : Env} {s : State} {m : MethodId} {args : Array Value} {below : List Frame} {meth : Method} {c : Code} {A : Nat → Prop} (l : Launch) (dC : Nat → ClassId) (dI : Nat → Nat → Nat) (Q : RQ) (N : Nat) (R : RS) (hx : p.tables.exec = Jvm.exec) (hb : c.code = cX12_one) (hr : meth.sig.returnType = none) (hml : c.maxLocals = 2) (hown : s.vm.findClass RX12 = some m.cls) (hts : ∀ w ∈ wzX12_one, w.before args s = true) (hlocks : meth.locks = false) (hZ : zAMB s) (hA : ∀ q : Nat, s.heap.size ≤ q → A q) (hK : va_K (dC, dI) vwCl (rT Q) s) : ∀ (σ : RS) (H : Heap) (locs : List Loc) (ls : Array Slot), f_X12_one_133 N σ = some R → va_P (dC, dI) vwCl (rW Q σ) H → va_D A (rW Q σ) → va_S A s.heap H locs → lv_has ls 2 [(0, .ref Q.h0)] → W p l e ({ frames := 6, cells := 0, slots := 0, locals := 360 }) s m args below meth c H locs 0 0 (MQ below (va_Qv (fun (_ : Unit) => True) (fun (_ : Unit) (t : State) => zPost dC dI A (rW Q R) (rT Q) t) A) args s 0 0 A) (F0 m 133 ls []) := by
  intro σ  H locs ls hf hP hD hS hl
  unfold f_X12_one_133 at hf
  refine lv_aload_n hx hb dX12_one_133 rfl (lv_at hl 0 rfl) ?_
  obtain ⟨p9, hcp9, hf⟩ := hf_bind hf
  have hFc := r_free hD hS hA
  refine va_callv (va_runV (As := []) (rest := []) ⟨hx, hb, hml, hown, hts⟩ (c_X12_next l dC dI _ Q N σ p9 hcp9) (cwV 0 hts hX12_one_X12_next_v345 rfl rfl rfl (by decide +kernel) ⟨Nat.le_of_ble_eq_true rfl, Nat.le_of_ble_eq_true rfl⟩) ⟨zPre.blind, va_recv hK hP (ci := 11) (q0 := 0) rfl rfl, zPre.go hZ hP hK hD⟩ rfl rfl hl.1 rfl (lv_room (Nat.le_of_ble_eq_true rfl)) dX12_one_134 ⟨Nat.le_of_ble_eq_true rfl, Nat.le_of_ble_eq_true rfl⟩) hS (fun q _ h => hFc q h) hFc (fun u9 t9 H1 locs ht hvm hw hB hz1 hk1 hS => ?_)
  obtain ⟨hP, hK1, hD1⟩ := hB
  rw [ht] at hP
  have hD := hD1.weaken (fun _ _ _ h => hFc _ h)
  generalize H1 = H at hP hS ⊢
  refine lv_aload_n hx hb dX12_one_137 rfl (lv_at hl 0 rfl) ?_
  refine lv_dup hx hb dX12_one_138 rfl ?_
  refine rG_63 (v := (p9.i 63)) hx hb hts i_X12_one_X12 hown hK hP (hts (.fieldLink RX12 387 "StatementRules2Model" "top" "I") k_X12_one_fieldLink_RX12_387_SRModel_top_I) dX12_one_139 rfl ?_
  refine lv_iconst (v := 1) hx hb dX12_one_142 (by decide) ?_
  refine lv_isub hx hb dX12_one_143 ?_
  refine rP_63 hx hb hts i_X12_one_X12 hown hK hP hD hS (hts (.fieldLink RX12 387 "StatementRules2Model" "top" "I") k_X12_one_fieldLink_RX12_387_SRModel_top_I) dX12_one_144 (fun H locs hP hD hS => ?_)
  refine lv_goto (tgt := 328) hx hb dX12_one_147 (by decide) ?_
  obtain rfl := Option.some.inj hf
  exact W.vret hx hb hr (fun t ht hW => ⟨⟨(), rfl, trivial, by rw [ht]; exact hP, va_K.moved hW.alike hK, hD⟩, hS.F ht⟩) hS.2.2 dX12_one_328
set_option maxHeartbeats 4000000 in
set_option maxRecDepth 100000 in
theorem j_X12_one_112 {p : Program} {e : Env} {s : State} {m : MethodId} {args : Array Value} {below : List Frame} {meth : Method} {c : Code} {A : Nat → Prop} (l : Launch) (dC : Nat → ClassId) (dI : Nat → Nat → Nat) (Q : RQ) (N : Nat) (R : RS) (hx : p.tables.exec = Jvm.exec) (hb : c.code = cX12_one) (hr : meth.sig.returnType = none) (hml : c.maxLocals = 2) (hown : s.vm.findClass RX12 = some m.cls) (hts : ∀ w ∈ wzX12_one, w.before args s = true) (hlocks : meth.locks = false) (hZ : zAMB s) (hA : ∀ q : Nat, s.heap.size ≤ q → A q) (hK : va_K (dC, dI) vwCl (rT Q) s) : ∀ (σ : RS) (H : Heap) (locs : List Loc) (ls : Array Slot), f_X12_one_112 N σ = some R → va_P (dC, dI) vwCl (rW Q σ) H → va_D A (rW Q σ) → va_S A s.heap H locs → lv_has ls 2 [(0, .ref Q.h0)] → W p l e ({ frames := 6, cells := 0, slots := 0, locals := 360 }) s m args below meth c H locs 0 0 (MQ below (va_Qv (fun (_ : Unit) => True) (fun (_ : Unit) (t : State) => zPost dC dI A (rW Q R) (rT Q) t) A) args s 0 0 A) (F0 m 112 ls []) := by
  intro σ  H locs ls hf hP hD hS hl
  unfold f_X12_one_112 at hf
  refine lv_aload_n hx hb dX12_one_112 rfl (lv_at hl 0 rfl) ?_
  refine lv_iconst (v := 2) hx hb dX12_one_113 (by decide) ?_
  refine lv_aload_n hx hb dX12_one_114 rfl (lv_at hl 0 rfl) ?_
  refine rG_10 (v := (σ.i 10)) hx hb hts i_X12_one_X12 hown hK hP (hts (.fieldLink RX12 307 "StatementRules2Model" "tok" "I") k_X12_one_fieldLink_RX12_307_SRModel_tok_I) dX12_one_115 rfl ?_
  refine lv_sipush (v := 432) hx hb dX12_one_118 (by decide) ?_
  refine lv_icmp_ne (tgt := 128) hx hb dX12_one_121 (by decide) (fun c6 => ?_) (fun c6 => ?_)
  ·
    replace hf := (if_neg c6).symm.trans hf
    refine lv_iconst (v := 0) hx hb dX12_one_128 (by decide) ?_
    obtain ⟨p7, hcp7, hf⟩ := hf_bind hf
    have hFc := r_free hD hS hA
    refine va_calli (va_runV (As := [.int 2, .int 0]) (rest := []) ⟨hx, hb, hml, hown, hts⟩ (c_X12_emit l dC dI _ Q N σ 2 0 p7 hcp7) (cwV 2 hts hX12_one_X12_emit_v464 rfl rfl rfl (by decide +kernel) ⟨Nat.le_of_ble_eq_true rfl, Nat.le_of_ble_eq_true rfl⟩) ⟨zPre.blind, va_recv hK hP (ci := 11) (q0 := 0) rfl rfl, zPre.go hZ hP hK hD⟩ rfl rfl hl.1 rfl (lv_room (Nat.le_of_ble_eq_true rfl)) dX12_one_129 ⟨Nat.le_of_ble_eq_true rfl, Nat.le_of_ble_eq_true rfl⟩) hS (fun q _ h => hFc q h) hFc (fun r8 u9 t9 H1 locs ht hvm hw hB hz1 hk1 hS => ?_)
    obtain ⟨hP, hK1, hD1⟩ := hB
    rw [ht] at hP
    have hD := hD1.weaken (fun _ _ _ h => hFc _ h)
    generalize H1 = H at hP hS ⊢
    obtain rfl : r8 = p7.1 := hw
    refine lv_pop hx hb dX12_one_132 rfl ?_
    exact j_X12_one_133 l dC dI Q N R hx hb hr hml hown hts hlocks hZ hA hK p7.2 _ _ _ hf hP hD hS (lv_sub hl [0] rfl)
  ·
    replace hf := (if_pos c6).symm.trans hf
    refine lv_iconst (v := 1) hx hb dX12_one_124 (by decide) ?_
    refine lv_goto (tgt := 129) hx hb dX12_one_125 (by decide) ?_
    obtain ⟨p11, hcp11, hf⟩ := hf_bind hf
    have hFc := r_free hD hS hA
    refine va_calli (va_runV (As := [.int 2, .int 1]) (rest := []) ⟨hx, hb, hml, hown, hts⟩ (c_X12_emit l dC dI _ Q N σ 2 1 p11 hcp11) (cwV 2 hts hX12_one_X12_emit_v464 rfl rfl rfl (by decide +kernel) ⟨Nat.le_of_ble_eq_true rfl, Nat.le_of_ble_eq_true rfl⟩) ⟨zPre.blind, va_recv hK hP (ci := 11) (q0 := 0) rfl rfl, zPre.go hZ hP hK hD⟩ rfl rfl hl.1 rfl (lv_room (Nat.le_of_ble_eq_true rfl)) dX12_one_129 ⟨Nat.le_of_ble_eq_true rfl, Nat.le_of_ble_eq_true rfl⟩) hS (fun q _ h => hFc q h) hFc (fun r12 u9 t9 H1 locs ht hvm hw hB hz1 hk1 hS => ?_)
    obtain ⟨hP, hK1, hD1⟩ := hB
    rw [ht] at hP
    have hD := hD1.weaken (fun _ _ _ h => hFc _ h)
    generalize H1 = H at hP hS ⊢
    obtain rfl : r12 = p11.1 := hw
    refine lv_pop hx hb dX12_one_132 rfl ?_
    exact j_X12_one_133 l dC dI Q N R hx hb hr hml hown hts hlocks hZ hA hK p11.2 _ _ _ hf hP hD hS (lv_sub hl [0] rfl)
set_option maxHeartbeats 4000000 in
set_option maxRecDepth 100000 in
theorem j_X12_one_281 {p : Program} {e : Env} {s : State} {m : MethodId} {args : Array Value} {below : List Frame} {meth : Method} {c : Code} {A : Nat → Prop} (l : Launch) (dC : Nat → ClassId) (dI : Nat → Nat → Nat) (Q : RQ) (N : Nat) (R : RS) (hx : p.tables.exec = Jvm.exec) (hb : c.code = cX12_one) (hr : meth.sig.returnType = none) (hml : c.maxLocals = 2) (hown : s.vm.findClass RX12 = some m.cls) (hts : ∀ w ∈ wzX12_one, w.before args s = true) (hlocks : meth.locks = false) (hZ : zAMB s) (hA : ∀ q : Nat, s.heap.size ≤ q → A q) (hK : va_K (dC, dI) vwCl (rT Q) s) : ∀ (σ : RS) (x1 : Int32) (H : Heap) (locs : List Loc) (ls : Array Slot), f_X12_one_281 N σ x1 = some R → va_P (dC, dI) vwCl (rW Q σ) H → va_D A (rW Q σ) → va_S A s.heap H locs → lv_has ls 2 [(0, .ref Q.h0), (1, .int x1)] → W p l e ({ frames := 6, cells := 0, slots := 0, locals := 360 }) s m args below meth c H locs 0 0 (MQ below (va_Qv (fun (_ : Unit) => True) (fun (_ : Unit) (t : State) => zPost dC dI A (rW Q R) (rT Q) t) A) args s 0 0 A) (F0 m 281 ls []) := by
  intro σ x1 H locs ls hf hP hD hS hl
  unfold f_X12_one_281 at hf
  refine lv_aload_n hx hb dX12_one_281 rfl (lv_at hl 0 rfl) ?_
  refine rG_66 hx hb hts i_X12_one_X12 hown hK hP (hts (.fieldLink RX12 180 "StatementRules2Model" "fp" "[I") k_X12_one_fieldLink_RX12_180_SRModel_fp_I) dX12_one_282 ?_
  refine lv_iload_n hx hb dX12_one_285 rfl (lv_at hl 1 rfl) ?_
  refine lv_aload_n hx hb dX12_one_286 rfl (lv_at hl 0 rfl) ?_
  refine rG_10 (v := (σ.i 10)) hx hb hts i_X12_one_X12 hown hK hP (hts (.fieldLink RX12 307 "StatementRules2Model" "tok" "I") k_X12_one_fieldLink_RX12_307_SRModel_tok_I) dX12_one_287 rfl ?_
  obtain ⟨b38, hf⟩ := hf_ite hf
  refine rS_66 hx hb hK hP hD hS b38 dX12_one_290 (fun H locs hP hD hS => ?_)
  refine lv_aload_n hx hb dX12_one_291 rfl (lv_at hl 0 rfl) ?_
  obtain ⟨p39, hcp39, hf⟩ := hf_bind hf
  have hFc := r_free hD hS hA
  refine va_callv (va_runV (As := []) (rest := []) ⟨hx, hb, hml, hown, hts⟩ (c_X12_next l dC dI _ Q N (RS.setA σ 66 ((x1 : Int32).toNatClampNeg) (σ.i 10)) p39 hcp39) (cwV 0 hts hX12_one_X12_next_v345 rfl rfl rfl (by decide +kernel) ⟨Nat.le_of_ble_eq_true rfl, Nat.le_of_ble_eq_true rfl⟩) ⟨zPre.blind, va_recv hK hP (ci := 11) (q0 := 0) rfl rfl, zPre.go hZ hP hK hD⟩ rfl rfl hl.1 rfl (lv_room (Nat.le_of_ble_eq_true rfl)) dX12_one_292 ⟨Nat.le_of_ble_eq_true rfl, Nat.le_of_ble_eq_true rfl⟩) hS (fun q _ h => hFc q h) hFc (fun u9 t9 H1 locs ht hvm hw hB hz1 hk1 hS => ?_)
  obtain ⟨hP, hK1, hD1⟩ := hB
  rw [ht] at hP
  have hD := hD1.weaken (fun _ _ _ h => hFc _ h)
  generalize H1 = H at hP hS ⊢
  refine lv_aload_n hx hb dX12_one_295 rfl (lv_at hl 0 rfl) ?_
  refine lv_iconst (v := 4) hx hb dX12_one_296 (by decide) ?_
  refine lv_bipush (v := 16) hx hb dX12_one_297 (by decide) ?_
  obtain ⟨p41, hcp41, hf⟩ := hf_bind hf
  have hFc := r_free hD hS hA
  refine va_callv (va_runV (As := [.int 4, .int 16]) (rest := []) ⟨hx, hb, hml, hown, hts⟩ (c_X12_then l dC dI _ Q N p39 4 16 p41 hcp41) (cwV 2 hts hX12_one_X12_then_v393 rfl rfl rfl (by decide +kernel) ⟨Nat.le_of_ble_eq_true rfl, Nat.le_of_ble_eq_true rfl⟩) ⟨zPre.blind, va_recv hK hP (ci := 11) (q0 := 0) rfl rfl, zPre.go hZ hP hK hD⟩ rfl rfl hl.1 rfl (lv_room (Nat.le_of_ble_eq_true rfl)) dX12_one_299 ⟨Nat.le_of_ble_eq_true rfl, Nat.le_of_ble_eq_true rfl⟩) hS (fun q _ h => hFc q h) hFc (fun u9 t9 H1 locs ht hvm hw hB hz1 hk1 hS => ?_)
  obtain ⟨hP, hK1, hD1⟩ := hB
  rw [ht] at hP
  have hD := hD1.weaken (fun _ _ _ h => hFc _ h)
  generalize H1 = H at hP hS ⊢
  refine lv_goto (tgt := 328) hx hb dX12_one_302 (by decide) ?_
  obtain rfl := Option.some.inj hf
  exact W.vret hx hb hr (fun t ht hW => ⟨⟨(), rfl, trivial, by rw [ht]; exact hP, va_K.moved hW.alike hK, hD⟩, hS.F ht⟩) hS.2.2 dX12_one_328
set_option maxHeartbeats 4000000 in
set_option maxRecDepth 100000 in
theorem c_X12_one (l : Launch) (dC : Nat → ClassId) (dI : Nat → Nat → Nat) (sz : Nat) (Q : RQ) (N : Nat) (σ : RS) (x1 : Int32) (R : RS) (hf : f_X12_one N σ x1 = some R) : Met l yX12_one wzX12_one ({ frames := 6, cells := 0, slots := 0, locals := 360 }) (va_Pc [.ref Q.h0, .int x1] (zPre dC dI sz (rW Q σ) (rT Q))) (va_Qv (fun (_ : Unit) => True) (fun (_ : Unit) (t : State) => zPost dC dI (va_A (rW Q σ) sz) (rW Q R) (rT Q) t) (va_A (rW Q σ) sz)) 0 0 (va_A (rW Q σ) sz) := by
  refine Met.ofW (cc := cX12_one) (maxL := 2) (ret := none) (by decide) rfl ?_
  intro p e s m args below meth c s₁ B hml hv
  obtain ⟨rfl, hsz, hZ, hP, hK, hD0⟩ := hv
  have hx := B.exec
  have hb := B.bytes
  have hr := B.returns
  have hts := atoms_spec (ws := wzX12_one) B.pre
  have hown : s.vm.findClass RX12 = some m.cls := findClass_of_methodNamed B.named
  have hlocks := B.notSynchronized
  subst hsz
  have hD := hD0.self (sz := s.heap.size)
  generalize hAe : va_A (rW Q σ) s.heap.size = A at hD ⊢
  have hA : ∀ q : Nat, s.heap.size ≤ q → A q := fun q h => by rw [← hAe]; exact Or.inr h
  have hS : va_S A s.heap s.heap [] := va_S.rf
  have hl := lv_entry ([.ref Q.h0, .int x1]) (n := 2) (Nat.le_of_ble_eq_true rfl)
  rw [lg_entry_eq]
  generalize (lg_sl ([.ref Q.h0, .int x1]) ++ List.replicate (2 - (lg_sl ([.ref Q.h0, .int x1])).length) Slot.unset).toArray = ls at hl ⊢
  have hl : lv_has ls 2 [(0, .ref Q.h0), (1, .int x1)] := hl
  unfold f_X12_one at hf
  refine lv_aload_n hx hb dX12_one_0 rfl (lv_at hl 0 rfl) ?_
  refine rG_65 hx hb hts i_X12_one_X12 hown hK hP (hts (.fieldLink RX12 177 "StatementRules2Model" "fs" "[I") k_X12_one_fieldLink_RX12_177_SRModel_fs_I) dX12_one_1 ?_
  refine lv_iload_n hx hb dX12_one_4 rfl (lv_at hl 1 rfl) ?_
  obtain ⟨b1, hf⟩ := hf_ite hf
  refine rL_65 (v := (σ.a 65 ((x1 : Int32).toNatClampNeg))) hx hb hK hP b1 dX12_one_5 rfl ?_
  by_cases c2 : (σ.a 65 ((x1 : Int32).toNatClampNeg)) = 0
  ·
    replace hf := (if_pos c2).symm.trans hf
    refine lv_tableIn (off := 30) (tgt := 36) hx hb dX12_one_6 (by rw [c2]; decide) (by rw [c2]; decide) (by rw [c2]; decide) (by decide) ?_
    refine lv_aload_n hx hb dX12_one_36 rfl (lv_at hl 0 rfl) ?_
    refine rG_10 (v := (σ.i 10)) hx hb hts i_X12_one_X12 hown hK hP (hts (.fieldLink RX12 307 "StatementRules2Model" "tok" "I") k_X12_one_fieldLink_RX12_307_SRModel_tok_I) dX12_one_37 rfl ?_
    refine lv_bipush (v := 33) hx hb dX12_one_40 (by decide) ?_
    refine lv_icmp_ne (tgt := 66) hx hb dX12_one_42 (by decide) (fun c3 => ?_) (fun c3 => ?_)
    ·
      replace hf := (if_neg c3).symm.trans hf
      refine lv_aload_n hx hb dX12_one_66 rfl (lv_at hl 0 rfl) ?_
      refine rG_10 (v := (σ.i 10)) hx hb hts i_X12_one_X12 hown hK hP (hts (.fieldLink RX12 307 "StatementRules2Model" "tok" "I") k_X12_one_fieldLink_RX12_307_SRModel_tok_I) dX12_one_67 rfl ?_
      refine lv_bipush (v := 91) hx hb dX12_one_70 (by decide) ?_
      refine lv_icmp_ne (tgt := 92) hx hb dX12_one_72 (by decide) (fun c4 => ?_) (fun c4 => ?_)
      ·
        replace hf := (if_neg c4).symm.trans hf
        refine lv_aload_n hx hb dX12_one_92 rfl (lv_at hl 0 rfl) ?_
        refine rG_10 (v := (σ.i 10)) hx hb hts i_X12_one_X12 hown hK hP (hts (.fieldLink RX12 307 "StatementRules2Model" "tok" "I") k_X12_one_fieldLink_RX12_307_SRModel_tok_I) dX12_one_93 rfl ?_
        refine lv_sipush (v := 432) hx hb dX12_one_96 (by decide) ?_
        refine lv_icmp_eq (tgt := 112) hx hb dX12_one_99 (by decide) (fun c5 => ?_) (fun c5 => ?_)
        ·
          replace hf := (if_pos c5).symm.trans hf
          exact j_X12_one_112 l dC dI Q N R hx hb hr hml hown hts hlocks hZ hA hK σ _ _ _ hf hP hD hS (lv_sub hl [0] rfl)
        ·
          replace hf := (if_neg c5).symm.trans hf
          refine lv_aload_n hx hb dX12_one_102 rfl (lv_at hl 0 rfl) ?_
          refine rG_10 (v := (σ.i 10)) hx hb hts i_X12_one_X12 hown hK hP (hts (.fieldLink RX12 307 "StatementRules2Model" "tok" "I") k_X12_one_fieldLink_RX12_307_SRModel_tok_I) dX12_one_103 rfl ?_
          refine lv_sipush (v := 433) hx hb dX12_one_106 (by decide) ?_
          refine lv_icmp_ne (tgt := 150) hx hb dX12_one_109 (by decide) (fun c13 => ?_) (fun c13 => ?_)
          ·
            replace hf := (if_neg c13).symm.trans hf
            refine lv_aload_n hx hb dX12_one_150 rfl (lv_at hl 0 rfl) ?_
            refine lv_iconst (v := 3) hx hb dX12_one_151 (by decide) ?_
            refine lv_bipush (v := 16) hx hb dX12_one_152 (by decide) ?_
            obtain ⟨p14, hcp14, hf⟩ := hf_bind hf
            have hFc := r_free hD hS hA
            refine va_callv (va_runV (As := [.int 3, .int 16]) (rest := []) ⟨hx, hb, hml, hown, hts⟩ (c_X12_then l dC dI _ Q N σ 3 16 p14 hcp14) (cwV 2 hts hX12_one_X12_then_v393 rfl rfl rfl (by decide +kernel) ⟨Nat.le_of_ble_eq_true rfl, Nat.le_of_ble_eq_true rfl⟩) ⟨zPre.blind, va_recv hK hP (ci := 11) (q0 := 0) rfl rfl, zPre.go hZ hP hK hD⟩ rfl rfl hl.1 rfl (lv_room (Nat.le_of_ble_eq_true rfl)) dX12_one_154 ⟨Nat.le_of_ble_eq_true rfl, Nat.le_of_ble_eq_true rfl⟩) hS (fun q _ h => hFc q h) hFc (fun u9 t9 H1 locs ht hvm hw hB hz1 hk1 hS => ?_)
            obtain ⟨hP, hK1, hD1⟩ := hB
            rw [ht] at hP
            have hD := hD1.weaken (fun _ _ _ h => hFc _ h)
            generalize H1 = H at hP hS ⊢
            refine lv_goto (tgt := 328) hx hb dX12_one_157 (by decide) ?_
            obtain rfl := Option.some.inj hf
            exact W.vret hx hb hr (fun t ht hW => ⟨⟨(), rfl, trivial, by rw [ht]; exact hP, va_K.moved hW.alike hK, hD⟩, hS.F ht⟩) hS.2.2 dX12_one_328
          ·
            replace hf := (if_pos c13).symm.trans hf
            exact j_X12_one_112 l dC dI Q N R hx hb hr hml hown hts hlocks hZ hA hK σ _ _ _ hf hP hD hS (lv_sub hl [0] rfl)
      ·
        replace hf := (if_pos c4).symm.trans hf
        refine lv_aload_n hx hb dX12_one_75 rfl (lv_at hl 0 rfl) ?_
        refine lv_bipush (v := 91) hx hb dX12_one_76 (by decide) ?_
        obtain ⟨p16, hcp16, hf⟩ := hf_bind hf
        have hFc := r_free hD hS hA
        refine va_calli (va_runV (As := [.int 91]) (rest := []) ⟨hx, hb, hml, hown, hts⟩ (c_X12_open l dC dI _ Q N σ 91 p16 hcp16) (cwV 1 hts hX12_one_X12_open_v475 rfl rfl rfl (by decide +kernel) ⟨Nat.le_of_ble_eq_true rfl, Nat.le_of_ble_eq_true rfl⟩) ⟨zPre.blind, va_recv hK hP (ci := 11) (q0 := 0) rfl rfl, zPre.go hZ hP hK hD⟩ rfl rfl hl.1 rfl (lv_room (Nat.le_of_ble_eq_true rfl)) dX12_one_78 ⟨Nat.le_of_ble_eq_true rfl, Nat.le_of_ble_eq_true rfl⟩) hS (fun q _ h => hFc q h) hFc (fun r17 u9 t9 H1 locs ht hvm hw hB hz1 hk1 hS => ?_)
        obtain ⟨hP, hK1, hD1⟩ := hB
        rw [ht] at hP
        have hD := hD1.weaken (fun _ _ _ h => hFc _ h)
        generalize H1 = H at hP hS ⊢
        obtain rfl : r17 = p16.1 := hw
        refine lv_pop hx hb dX12_one_81 rfl ?_
        refine lv_aload_n hx hb dX12_one_82 rfl (lv_at hl 0 rfl) ?_
        refine lv_iconst (v := 2) hx hb dX12_one_83 (by decide) ?_
        refine lv_bipush (v := 20) hx hb dX12_one_84 (by decide) ?_
        obtain ⟨p18, hcp18, hf⟩ := hf_bind hf
        have hFc := r_free hD hS hA
        refine va_callv (va_runV (As := [.int 2, .int 20]) (rest := []) ⟨hx, hb, hml, hown, hts⟩ (c_X12_then l dC dI _ Q N p16.2 2 20 p18 hcp18) (cwV 2 hts hX12_one_X12_then_v393 rfl rfl rfl (by decide +kernel) ⟨Nat.le_of_ble_eq_true rfl, Nat.le_of_ble_eq_true rfl⟩) ⟨zPre.blind, va_recv hK hP (ci := 11) (q0 := 0) rfl rfl, zPre.go hZ hP hK hD⟩ rfl rfl hl.1 rfl (lv_room (Nat.le_of_ble_eq_true rfl)) dX12_one_86 ⟨Nat.le_of_ble_eq_true rfl, Nat.le_of_ble_eq_true rfl⟩) hS (fun q _ h => hFc q h) hFc (fun u9 t9 H1 locs ht hvm hw hB hz1 hk1 hS => ?_)
        obtain ⟨hP, hK1, hD1⟩ := hB
        rw [ht] at hP
        have hD := hD1.weaken (fun _ _ _ h => hFc _ h)
        generalize H1 = H at hP hS ⊢
        refine lv_goto (tgt := 328) hx hb dX12_one_89 (by decide) ?_
        obtain rfl := Option.some.inj hf
        exact W.vret hx hb hr (fun t ht hW => ⟨⟨(), rfl, trivial, by rw [ht]; exact hP, va_K.moved hW.alike hK, hD⟩, hS.F ht⟩) hS.2.2 dX12_one_328
    ·
      replace hf := (if_pos c3).symm.trans hf
      refine lv_aload_n hx hb dX12_one_45 rfl (lv_at hl 0 rfl) ?_
      obtain ⟨p20, hcp20, hf⟩ := hf_bind hf
      have hFc := r_free hD hS hA
      refine va_calli (va_runV (As := []) (rest := []) ⟨hx, hb, hml, hown, hts⟩ (c_X12_opens l dC dI _ Q N σ p20 hcp20) (cwV 0 hts hX12_one_X12_opens_v351 rfl rfl rfl (by decide +kernel) ⟨Nat.le_of_ble_eq_true rfl, Nat.le_of_ble_eq_true rfl⟩) ⟨zPre.blind, va_recv hK hP (ci := 11) (q0 := 0) rfl rfl, zPre.go hZ hP hK hD⟩ rfl rfl hl.1 rfl (lv_room (Nat.le_of_ble_eq_true rfl)) dX12_one_46 ⟨Nat.le_of_ble_eq_true rfl, Nat.le_of_ble_eq_true rfl⟩) hS (fun q _ h => hFc q h) hFc (fun r21 u9 t9 H1 locs ht hvm hw hB hz1 hk1 hS => ?_)
      obtain ⟨hP, hK1, hD1⟩ := hB
      rw [ht] at hP
      have hD := hD1.weaken (fun _ _ _ h => hFc _ h)
      generalize H1 = H at hP hS ⊢
      obtain rfl : r21 = p20.1 := hw
      refine lv_if_eq (tgt := 328) hx hb dX12_one_49 (by decide) (fun c22 => ?_) (fun c22 => ?_)
      ·
        replace hf := (if_pos c22).symm.trans hf
        obtain rfl := Option.some.inj hf
        exact W.vret hx hb hr (fun t ht hW => ⟨⟨(), rfl, trivial, by rw [ht]; exact hP, va_K.moved hW.alike hK, hD⟩, hS.F ht⟩) hS.2.2 dX12_one_328
      ·
        replace hf := (if_neg c22).symm.trans hf
        refine lv_aload_n hx hb dX12_one_52 rfl (lv_at hl 0 rfl) ?_
        obtain ⟨p23, hcp23, hf⟩ := hf_bind hf
        have hFc := r_free hD hS hA
        refine va_callv (va_runV (As := []) (rest := []) ⟨hx, hb, hml, hown, hts⟩ (c_X12_next l dC dI _ Q N p20.2 p23 hcp23) (cwV 0 hts hX12_one_X12_next_v345 rfl rfl rfl (by decide +kernel) ⟨Nat.le_of_ble_eq_true rfl, Nat.le_of_ble_eq_true rfl⟩) ⟨zPre.blind, va_recv hK hP (ci := 11) (q0 := 0) rfl rfl, zPre.go hZ hP hK hD⟩ rfl rfl hl.1 rfl (lv_room (Nat.le_of_ble_eq_true rfl)) dX12_one_53 ⟨Nat.le_of_ble_eq_true rfl, Nat.le_of_ble_eq_true rfl⟩) hS (fun q _ h => hFc q h) hFc (fun u9 t9 H1 locs ht hvm hw hB hz1 hk1 hS => ?_)
        obtain ⟨hP, hK1, hD1⟩ := hB
        rw [ht] at hP
        have hD := hD1.weaken (fun _ _ _ h => hFc _ h)
        generalize H1 = H at hP hS ⊢
        refine lv_aload_n hx hb dX12_one_56 rfl (lv_at hl 0 rfl) ?_
        refine lv_iconst (v := 1) hx hb dX12_one_57 (by decide) ?_
        refine lv_bipush (v := 22) hx hb dX12_one_58 (by decide) ?_
        obtain ⟨p25, hcp25, hf⟩ := hf_bind hf
        have hFc := r_free hD hS hA
        refine va_callv (va_runV (As := [.int 1, .int 22]) (rest := []) ⟨hx, hb, hml, hown, hts⟩ (c_X12_then l dC dI _ Q N p23 1 22 p25 hcp25) (cwV 2 hts hX12_one_X12_then_v393 rfl rfl rfl (by decide +kernel) ⟨Nat.le_of_ble_eq_true rfl, Nat.le_of_ble_eq_true rfl⟩) ⟨zPre.blind, va_recv hK hP (ci := 11) (q0 := 0) rfl rfl, zPre.go hZ hP hK hD⟩ rfl rfl hl.1 rfl (lv_room (Nat.le_of_ble_eq_true rfl)) dX12_one_60 ⟨Nat.le_of_ble_eq_true rfl, Nat.le_of_ble_eq_true rfl⟩) hS (fun q _ h => hFc q h) hFc (fun u9 t9 H1 locs ht hvm hw hB hz1 hk1 hS => ?_)
        obtain ⟨hP, hK1, hD1⟩ := hB
        rw [ht] at hP
        have hD := hD1.weaken (fun _ _ _ h => hFc _ h)
        generalize H1 = H at hP hS ⊢
        refine lv_goto (tgt := 328) hx hb dX12_one_63 (by decide) ?_
        obtain rfl := Option.some.inj hf
        exact W.vret hx hb hr (fun t ht hW => ⟨⟨(), rfl, trivial, by rw [ht]; exact hP, va_K.moved hW.alike hK, hD⟩, hS.F ht⟩) hS.2.2 dX12_one_328
  replace hf := (if_neg c2).symm.trans hf
  by_cases c27 : (σ.a 65 ((x1 : Int32).toNatClampNeg)) = 1
  ·
    replace hf := (if_pos c27).symm.trans hf
    refine lv_tableIn (off := 154) (tgt := 160) hx hb dX12_one_6 (by rw [c27]; decide) (by rw [c27]; decide) (by rw [c27]; decide) (by decide) ?_
    refine lv_aload_n hx hb dX12_one_160 rfl (lv_at hl 0 rfl) ?_
    refine lv_dup hx hb dX12_one_161 rfl ?_
    refine rG_19 (v := (σ.i 19)) hx hb hts i_X12_one_X12 hown hK hP (hts (.fieldLink RX12 348 "StatementRules2Model" "opened" "I") k_X12_one_fieldLink_RX12_348_SRModel_opened_I) dX12_one_162 rfl ?_
    refine lv_iconst (v := 1) hx hb dX12_one_165 (by decide) ?_
    refine lv_isub hx hb dX12_one_166 ?_
    refine rP_19 hx hb hts i_X12_one_X12 hown hK hP hD hS (hts (.fieldLink RX12 348 "StatementRules2Model" "opened" "I") k_X12_one_fieldLink_RX12_348_SRModel_opened_I) dX12_one_167 (fun H locs hP hD hS => ?_)
    refine lv_aload_n hx hb dX12_one_170 rfl (lv_at hl 0 rfl) ?_
    refine lv_bipush (v := 10) hx hb dX12_one_171 (by decide) ?_
    refine lv_iconst (v := 0) hx hb dX12_one_173 (by decide) ?_
    obtain ⟨p28, hcp28, hf⟩ := hf_bind hf
    have hFc := r_free hD hS hA
    refine va_calli (va_runV (As := [.int 10, .int 0]) (rest := []) ⟨hx, hb, hml, hown, hts⟩ (c_X12_emit l dC dI _ Q N (RS.setI σ 19 ((σ.i 19) - 1)) 10 0 p28 hcp28) (cwV 2 hts hX12_one_X12_emit_v464 rfl rfl rfl (by decide +kernel) ⟨Nat.le_of_ble_eq_true rfl, Nat.le_of_ble_eq_true rfl⟩) ⟨zPre.blind, va_recv hK hP (ci := 11) (q0 := 0) rfl rfl, zPre.go hZ hP hK hD⟩ rfl rfl hl.1 rfl (lv_room (Nat.le_of_ble_eq_true rfl)) dX12_one_174 ⟨Nat.le_of_ble_eq_true rfl, Nat.le_of_ble_eq_true rfl⟩) hS (fun q _ h => hFc q h) hFc (fun r29 u9 t9 H1 locs ht hvm hw hB hz1 hk1 hS => ?_)
    obtain ⟨hP, hK1, hD1⟩ := hB
    rw [ht] at hP
    have hD := hD1.weaken (fun _ _ _ h => hFc _ h)
    generalize H1 = H at hP hS ⊢
    obtain rfl : r29 = p28.1 := hw
    refine lv_pop hx hb dX12_one_177 rfl ?_
    refine lv_aload_n hx hb dX12_one_178 rfl (lv_at hl 0 rfl) ?_
    refine lv_dup hx hb dX12_one_179 rfl ?_
    refine rG_63 (v := (p28.2.i 63)) hx hb hts i_X12_one_X12 hown hK hP (hts (.fieldLink RX12 387 "StatementRules2Model" "top" "I") k_X12_one_fieldLink_RX12_387_SRModel_top_I) dX12_one_180 rfl ?_
    refine lv_iconst (v := 1) hx hb dX12_one_183 (by decide) ?_
    refine lv_isub hx hb dX12_one_184 ?_
    refine rP_63 hx hb hts i_X12_one_X12 hown hK hP hD hS (hts (.fieldLink RX12 387 "StatementRules2Model" "top" "I") k_X12_one_fieldLink_RX12_387_SRModel_top_I) dX12_one_185 (fun H locs hP hD hS => ?_)
    refine lv_goto (tgt := 328) hx hb dX12_one_188 (by decide) ?_
    obtain rfl := Option.some.inj hf
    exact W.vret hx hb hr (fun t ht hW => ⟨⟨(), rfl, trivial, by rw [ht]; exact hP, va_K.moved hW.alike hK, hD⟩, hS.F ht⟩) hS.2.2 dX12_one_328
  replace hf := (if_neg c27).symm.trans hf
  by_cases c30 : (σ.a 65 ((x1 : Int32).toNatClampNeg)) = 2
  ·
    replace hf := (if_pos c30).symm.trans hf
    refine lv_tableIn (off := 185) (tgt := 191) hx hb dX12_one_6 (by rw [c30]; decide) (by rw [c30]; decide) (by rw [c30]; decide) (by decide) ?_
    refine lv_aload_n hx hb dX12_one_191 rfl (lv_at hl 0 rfl) ?_
    refine lv_bipush (v := 93) hx hb dX12_one_192 (by decide) ?_
    obtain ⟨p31, hcp31, hf⟩ := hf_bind hf
    have hFc := r_free hD hS hA
    refine va_calli (va_runV (As := [.int 93]) (rest := []) ⟨hx, hb, hml, hown, hts⟩ (c_X12_shut l dC dI _ Q N σ 93 p31 hcp31) (cwV 1 hts hX12_one_X12_shut_v468 rfl rfl rfl (by decide +kernel) ⟨Nat.le_of_ble_eq_true rfl, Nat.le_of_ble_eq_true rfl⟩) ⟨zPre.blind, va_recv hK hP (ci := 11) (q0 := 0) rfl rfl, zPre.go hZ hP hK hD⟩ rfl rfl hl.1 rfl (lv_room (Nat.le_of_ble_eq_true rfl)) dX12_one_194 ⟨Nat.le_of_ble_eq_true rfl, Nat.le_of_ble_eq_true rfl⟩) hS (fun q _ h => hFc q h) hFc (fun r32 u9 t9 H1 locs ht hvm hw hB hz1 hk1 hS => ?_)
    obtain ⟨hP, hK1, hD1⟩ := hB
    rw [ht] at hP
    have hD := hD1.weaken (fun _ _ _ h => hFc _ h)
    generalize H1 = H at hP hS ⊢
    obtain rfl : r32 = p31.1 := hw
    refine lv_pop hx hb dX12_one_197 rfl ?_
    refine lv_aload_n hx hb dX12_one_198 rfl (lv_at hl 0 rfl) ?_
    refine lv_dup hx hb dX12_one_199 rfl ?_
    refine rG_63 (v := (p31.2.i 63)) hx hb hts i_X12_one_X12 hown hK hP (hts (.fieldLink RX12 387 "StatementRules2Model" "top" "I") k_X12_one_fieldLink_RX12_387_SRModel_top_I) dX12_one_200 rfl ?_
    refine lv_iconst (v := 1) hx hb dX12_one_203 (by decide) ?_
    refine lv_isub hx hb dX12_one_204 ?_
    refine rP_63 hx hb hts i_X12_one_X12 hown hK hP hD hS (hts (.fieldLink RX12 387 "StatementRules2Model" "top" "I") k_X12_one_fieldLink_RX12_387_SRModel_top_I) dX12_one_205 (fun H locs hP hD hS => ?_)
    refine lv_goto (tgt := 328) hx hb dX12_one_208 (by decide) ?_
    obtain rfl := Option.some.inj hf
    exact W.vret hx hb hr (fun t ht hW => ⟨⟨(), rfl, trivial, by rw [ht]; exact hP, va_K.moved hW.alike hK, hD⟩, hS.F ht⟩) hS.2.2 dX12_one_328
  replace hf := (if_neg c30).symm.trans hf
  by_cases c33 : (σ.a 65 ((x1 : Int32).toNatClampNeg)) = 3
  ·
    replace hf := (if_pos c33).symm.trans hf
    refine lv_tableIn (off := 205) (tgt := 211) hx hb dX12_one_6 (by rw [c33]; decide) (by rw [c33]; decide) (by rw [c33]; decide) (by decide) ?_
    refine lv_aload_n hx hb dX12_one_211 rfl (lv_at hl 0 rfl) ?_
    refine lv_aload_n hx hb dX12_one_212 rfl (lv_at hl 0 rfl) ?_
    refine rG_10 (v := (σ.i 10)) hx hb hts i_X12_one_X12 hown hK hP (hts (.fieldLink RX12 307 "StatementRules2Model" "tok" "I") k_X12_one_fieldLink_RX12_307_SRModel_tok_I) dX12_one_213 rfl ?_
    refine lv_bipush (v := 60) hx hb dX12_one_216 (by decide) ?_
    refine lv_icmp_eq (tgt := 270) hx hb dX12_one_218 (by decide) (fun c34 => ?_) (fun c34 => ?_)
    ·
      replace hf := (if_pos c34).symm.trans hf
      refine lv_iconst (v := 1) hx hb dX12_one_270 (by decide) ?_
      refine lv_goto (tgt := 275) hx hb dX12_one_271 (by decide) ?_
      obtain ⟨p35, hcp35, hf⟩ := hf_bind hf
      have hFc := r_free hD hS hA
      refine va_calli (va_runV (As := [.int 1]) (rest := []) ⟨hx, hb, hml, hown, hts⟩ (c_X12_can l dC dI _ Q N σ 1 p35 hcp35) (cwV 1 hts hX12_one_X12_can_v341 rfl rfl rfl (by decide +kernel) ⟨Nat.le_of_ble_eq_true rfl, Nat.le_of_ble_eq_true rfl⟩) ⟨zPre.blind, va_recv hK hP (ci := 11) (q0 := 0) rfl rfl, zPre.go hZ hP hK hD⟩ rfl rfl hl.1 rfl (lv_room (Nat.le_of_ble_eq_true rfl)) dX12_one_275 ⟨Nat.le_of_ble_eq_true rfl, Nat.le_of_ble_eq_true rfl⟩) hS (fun q _ h => hFc q h) hFc (fun r36 u9 t9 H1 locs ht hvm hw hB hz1 hk1 hS => ?_)
      obtain ⟨hP, hK1, hD1⟩ := hB
      rw [ht] at hP
      have hD := hD1.weaken (fun _ _ _ h => hFc _ h)
      generalize H1 = H at hP hS ⊢
      obtain rfl : r36 = p35.1 := hw
      refine lv_if_eq (tgt := 328) hx hb dX12_one_278 (by decide) (fun c37 => ?_) (fun c37 => ?_)
      ·
        replace hf := (if_pos c37).symm.trans hf
        obtain rfl := Option.some.inj hf
        exact W.vret hx hb hr (fun t ht hW => ⟨⟨(), rfl, trivial, by rw [ht]; exact hP, va_K.moved hW.alike hK, hD⟩, hS.F ht⟩) hS.2.2 dX12_one_328
      ·
        replace hf := (if_neg c37).symm.trans hf
        exact j_X12_one_281 l dC dI Q N R hx hb hr hml hown hts hlocks hZ hA hK p35.2 x1 _ _ _ hf hP hD hS (lv_sub hl [0, 1] rfl)
    ·
      replace hf := (if_neg c34).symm.trans hf
      refine lv_aload_n hx hb dX12_one_221 rfl (lv_at hl 0 rfl) ?_
      refine rG_10 (v := (σ.i 10)) hx hb hts i_X12_one_X12 hown hK hP (hts (.fieldLink RX12 307 "StatementRules2Model" "tok" "I") k_X12_one_fieldLink_RX12_307_SRModel_tok_I) dX12_one_222 rfl ?_
      refine lv_sipush (v := 300) hx hb dX12_one_225 (by decide) ?_
      refine lv_icmp_eq (tgt := 270) hx hb dX12_one_228 (by decide) (fun c43 => ?_) (fun c43 => ?_)
      ·
        replace hf := (if_pos c43).symm.trans hf
        refine lv_iconst (v := 1) hx hb dX12_one_270 (by decide) ?_
        refine lv_goto (tgt := 275) hx hb dX12_one_271 (by decide) ?_
        obtain ⟨p44, hcp44, hf⟩ := hf_bind hf
        have hFc := r_free hD hS hA
        refine va_calli (va_runV (As := [.int 1]) (rest := []) ⟨hx, hb, hml, hown, hts⟩ (c_X12_can l dC dI _ Q N σ 1 p44 hcp44) (cwV 1 hts hX12_one_X12_can_v341 rfl rfl rfl (by decide +kernel) ⟨Nat.le_of_ble_eq_true rfl, Nat.le_of_ble_eq_true rfl⟩) ⟨zPre.blind, va_recv hK hP (ci := 11) (q0 := 0) rfl rfl, zPre.go hZ hP hK hD⟩ rfl rfl hl.1 rfl (lv_room (Nat.le_of_ble_eq_true rfl)) dX12_one_275 ⟨Nat.le_of_ble_eq_true rfl, Nat.le_of_ble_eq_true rfl⟩) hS (fun q _ h => hFc q h) hFc (fun r45 u9 t9 H1 locs ht hvm hw hB hz1 hk1 hS => ?_)
        obtain ⟨hP, hK1, hD1⟩ := hB
        rw [ht] at hP
        have hD := hD1.weaken (fun _ _ _ h => hFc _ h)
        generalize H1 = H at hP hS ⊢
        obtain rfl : r45 = p44.1 := hw
        refine lv_if_eq (tgt := 328) hx hb dX12_one_278 (by decide) (fun c46 => ?_) (fun c46 => ?_)
        ·
          replace hf := (if_pos c46).symm.trans hf
          obtain rfl := Option.some.inj hf
          exact W.vret hx hb hr (fun t ht hW => ⟨⟨(), rfl, trivial, by rw [ht]; exact hP, va_K.moved hW.alike hK, hD⟩, hS.F ht⟩) hS.2.2 dX12_one_328
        ·
          replace hf := (if_neg c46).symm.trans hf
          exact j_X12_one_281 l dC dI Q N R hx hb hr hml hown hts hlocks hZ hA hK p44.2 x1 _ _ _ hf hP hD hS (lv_sub hl [0, 1] rfl)
      ·
        replace hf := (if_neg c43).symm.trans hf
        refine lv_aload_n hx hb dX12_one_231 rfl (lv_at hl 0 rfl) ?_
        refine rG_10 (v := (σ.i 10)) hx hb hts i_X12_one_X12 hown hK hP (hts (.fieldLink RX12 307 "StatementRules2Model" "tok" "I") k_X12_one_fieldLink_RX12_307_SRModel_tok_I) dX12_one_232 rfl ?_
        refine lv_bipush (v := 62) hx hb dX12_one_235 (by decide) ?_
        refine lv_icmp_eq (tgt := 270) hx hb dX12_one_237 (by decide) (fun c47 => ?_) (fun c47 => ?_)
        ·
          replace hf := (if_pos c47).symm.trans hf
          refine lv_iconst (v := 1) hx hb dX12_one_270 (by decide) ?_
          refine lv_goto (tgt := 275) hx hb dX12_one_271 (by decide) ?_
          obtain ⟨p48, hcp48, hf⟩ := hf_bind hf
          have hFc := r_free hD hS hA
          refine va_calli (va_runV (As := [.int 1]) (rest := []) ⟨hx, hb, hml, hown, hts⟩ (c_X12_can l dC dI _ Q N σ 1 p48 hcp48) (cwV 1 hts hX12_one_X12_can_v341 rfl rfl rfl (by decide +kernel) ⟨Nat.le_of_ble_eq_true rfl, Nat.le_of_ble_eq_true rfl⟩) ⟨zPre.blind, va_recv hK hP (ci := 11) (q0 := 0) rfl rfl, zPre.go hZ hP hK hD⟩ rfl rfl hl.1 rfl (lv_room (Nat.le_of_ble_eq_true rfl)) dX12_one_275 ⟨Nat.le_of_ble_eq_true rfl, Nat.le_of_ble_eq_true rfl⟩) hS (fun q _ h => hFc q h) hFc (fun r49 u9 t9 H1 locs ht hvm hw hB hz1 hk1 hS => ?_)
          obtain ⟨hP, hK1, hD1⟩ := hB
          rw [ht] at hP
          have hD := hD1.weaken (fun _ _ _ h => hFc _ h)
          generalize H1 = H at hP hS ⊢
          obtain rfl : r49 = p48.1 := hw
          refine lv_if_eq (tgt := 328) hx hb dX12_one_278 (by decide) (fun c50 => ?_) (fun c50 => ?_)
          ·
            replace hf := (if_pos c50).symm.trans hf
            obtain rfl := Option.some.inj hf
            exact W.vret hx hb hr (fun t ht hW => ⟨⟨(), rfl, trivial, by rw [ht]; exact hP, va_K.moved hW.alike hK, hD⟩, hS.F ht⟩) hS.2.2 dX12_one_328
          ·
            replace hf := (if_neg c50).symm.trans hf
            exact j_X12_one_281 l dC dI Q N R hx hb hr hml hown hts hlocks hZ hA hK p48.2 x1 _ _ _ hf hP hD hS (lv_sub hl [0, 1] rfl)
        ·
          replace hf := (if_neg c47).symm.trans hf
          refine lv_aload_n hx hb dX12_one_240 rfl (lv_at hl 0 rfl) ?_
          refine rG_10 (v := (σ.i 10)) hx hb hts i_X12_one_X12 hown hK hP (hts (.fieldLink RX12 307 "StatementRules2Model" "tok" "I") k_X12_one_fieldLink_RX12_307_SRModel_tok_I) dX12_one_241 rfl ?_
          refine lv_sipush (v := 301) hx hb dX12_one_244 (by decide) ?_
          refine lv_icmp_eq (tgt := 270) hx hb dX12_one_247 (by decide) (fun c51 => ?_) (fun c51 => ?_)
          ·
            replace hf := (if_pos c51).symm.trans hf
            refine lv_iconst (v := 1) hx hb dX12_one_270 (by decide) ?_
            refine lv_goto (tgt := 275) hx hb dX12_one_271 (by decide) ?_
            obtain ⟨p52, hcp52, hf⟩ := hf_bind hf
            have hFc := r_free hD hS hA
            refine va_calli (va_runV (As := [.int 1]) (rest := []) ⟨hx, hb, hml, hown, hts⟩ (c_X12_can l dC dI _ Q N σ 1 p52 hcp52) (cwV 1 hts hX12_one_X12_can_v341 rfl rfl rfl (by decide +kernel) ⟨Nat.le_of_ble_eq_true rfl, Nat.le_of_ble_eq_true rfl⟩) ⟨zPre.blind, va_recv hK hP (ci := 11) (q0 := 0) rfl rfl, zPre.go hZ hP hK hD⟩ rfl rfl hl.1 rfl (lv_room (Nat.le_of_ble_eq_true rfl)) dX12_one_275 ⟨Nat.le_of_ble_eq_true rfl, Nat.le_of_ble_eq_true rfl⟩) hS (fun q _ h => hFc q h) hFc (fun r53 u9 t9 H1 locs ht hvm hw hB hz1 hk1 hS => ?_)
            obtain ⟨hP, hK1, hD1⟩ := hB
            rw [ht] at hP
            have hD := hD1.weaken (fun _ _ _ h => hFc _ h)
            generalize H1 = H at hP hS ⊢
            obtain rfl : r53 = p52.1 := hw
            refine lv_if_eq (tgt := 328) hx hb dX12_one_278 (by decide) (fun c54 => ?_) (fun c54 => ?_)
            ·
              replace hf := (if_pos c54).symm.trans hf
              obtain rfl := Option.some.inj hf
              exact W.vret hx hb hr (fun t ht hW => ⟨⟨(), rfl, trivial, by rw [ht]; exact hP, va_K.moved hW.alike hK, hD⟩, hS.F ht⟩) hS.2.2 dX12_one_328
            ·
              replace hf := (if_neg c54).symm.trans hf
              exact j_X12_one_281 l dC dI Q N R hx hb hr hml hown hts hlocks hZ hA hK p52.2 x1 _ _ _ hf hP hD hS (lv_sub hl [0, 1] rfl)
          ·
            replace hf := (if_neg c51).symm.trans hf
            refine lv_aload_n hx hb dX12_one_250 rfl (lv_at hl 0 rfl) ?_
            refine rG_10 (v := (σ.i 10)) hx hb hts i_X12_one_X12 hown hK hP (hts (.fieldLink RX12 307 "StatementRules2Model" "tok" "I") k_X12_one_fieldLink_RX12_307_SRModel_tok_I) dX12_one_251 rfl ?_
            refine lv_sipush (v := 302) hx hb dX12_one_254 (by decide) ?_
            refine lv_icmp_eq (tgt := 270) hx hb dX12_one_257 (by decide) (fun c55 => ?_) (fun c55 => ?_)
            ·
              replace hf := (if_pos c55).symm.trans hf
              refine lv_iconst (v := 1) hx hb dX12_one_270 (by decide) ?_
              refine lv_goto (tgt := 275) hx hb dX12_one_271 (by decide) ?_
              obtain ⟨p56, hcp56, hf⟩ := hf_bind hf
              have hFc := r_free hD hS hA
              refine va_calli (va_runV (As := [.int 1]) (rest := []) ⟨hx, hb, hml, hown, hts⟩ (c_X12_can l dC dI _ Q N σ 1 p56 hcp56) (cwV 1 hts hX12_one_X12_can_v341 rfl rfl rfl (by decide +kernel) ⟨Nat.le_of_ble_eq_true rfl, Nat.le_of_ble_eq_true rfl⟩) ⟨zPre.blind, va_recv hK hP (ci := 11) (q0 := 0) rfl rfl, zPre.go hZ hP hK hD⟩ rfl rfl hl.1 rfl (lv_room (Nat.le_of_ble_eq_true rfl)) dX12_one_275 ⟨Nat.le_of_ble_eq_true rfl, Nat.le_of_ble_eq_true rfl⟩) hS (fun q _ h => hFc q h) hFc (fun r57 u9 t9 H1 locs ht hvm hw hB hz1 hk1 hS => ?_)
              obtain ⟨hP, hK1, hD1⟩ := hB
              rw [ht] at hP
              have hD := hD1.weaken (fun _ _ _ h => hFc _ h)
              generalize H1 = H at hP hS ⊢
              obtain rfl : r57 = p56.1 := hw
              refine lv_if_eq (tgt := 328) hx hb dX12_one_278 (by decide) (fun c58 => ?_) (fun c58 => ?_)
              ·
                replace hf := (if_pos c58).symm.trans hf
                obtain rfl := Option.some.inj hf
                exact W.vret hx hb hr (fun t ht hW => ⟨⟨(), rfl, trivial, by rw [ht]; exact hP, va_K.moved hW.alike hK, hD⟩, hS.F ht⟩) hS.2.2 dX12_one_328
              ·
                replace hf := (if_neg c58).symm.trans hf
                exact j_X12_one_281 l dC dI Q N R hx hb hr hml hown hts hlocks hZ hA hK p56.2 x1 _ _ _ hf hP hD hS (lv_sub hl [0, 1] rfl)
            ·
              replace hf := (if_neg c55).symm.trans hf
              refine lv_aload_n hx hb dX12_one_260 rfl (lv_at hl 0 rfl) ?_
              refine rG_10 (v := (σ.i 10)) hx hb hts i_X12_one_X12 hown hK hP (hts (.fieldLink RX12 307 "StatementRules2Model" "tok" "I") k_X12_one_fieldLink_RX12_307_SRModel_tok_I) dX12_one_261 rfl ?_
              refine lv_sipush (v := 303) hx hb dX12_one_264 (by decide) ?_
              refine lv_icmp_ne (tgt := 274) hx hb dX12_one_267 (by decide) (fun c59 => ?_) (fun c59 => ?_)
              ·
                replace hf := (if_neg c59).symm.trans hf
                refine lv_iconst (v := 0) hx hb dX12_one_274 (by decide) ?_
                obtain ⟨p60, hcp60, hf⟩ := hf_bind hf
                have hFc := r_free hD hS hA
                refine va_calli (va_runV (As := [.int 0]) (rest := []) ⟨hx, hb, hml, hown, hts⟩ (c_X12_can l dC dI _ Q N σ 0 p60 hcp60) (cwV 1 hts hX12_one_X12_can_v341 rfl rfl rfl (by decide +kernel) ⟨Nat.le_of_ble_eq_true rfl, Nat.le_of_ble_eq_true rfl⟩) ⟨zPre.blind, va_recv hK hP (ci := 11) (q0 := 0) rfl rfl, zPre.go hZ hP hK hD⟩ rfl rfl hl.1 rfl (lv_room (Nat.le_of_ble_eq_true rfl)) dX12_one_275 ⟨Nat.le_of_ble_eq_true rfl, Nat.le_of_ble_eq_true rfl⟩) hS (fun q _ h => hFc q h) hFc (fun r61 u9 t9 H1 locs ht hvm hw hB hz1 hk1 hS => ?_)
                obtain ⟨hP, hK1, hD1⟩ := hB
                rw [ht] at hP
                have hD := hD1.weaken (fun _ _ _ h => hFc _ h)
                generalize H1 = H at hP hS ⊢
                obtain rfl : r61 = p60.1 := hw
                refine lv_if_eq (tgt := 328) hx hb dX12_one_278 (by decide) (fun c62 => ?_) (fun c62 => ?_)
                ·
                  replace hf := (if_pos c62).symm.trans hf
                  obtain rfl := Option.some.inj hf
                  exact W.vret hx hb hr (fun t ht hW => ⟨⟨(), rfl, trivial, by rw [ht]; exact hP, va_K.moved hW.alike hK, hD⟩, hS.F ht⟩) hS.2.2 dX12_one_328
                ·
                  replace hf := (if_neg c62).symm.trans hf
                  exact j_X12_one_281 l dC dI Q N R hx hb hr hml hown hts hlocks hZ hA hK p60.2 x1 _ _ _ hf hP hD hS (lv_sub hl [0, 1] rfl)
              ·
                replace hf := (if_pos c59).symm.trans hf
                refine lv_iconst (v := 1) hx hb dX12_one_270 (by decide) ?_
                refine lv_goto (tgt := 275) hx hb dX12_one_271 (by decide) ?_
                obtain ⟨p63, hcp63, hf⟩ := hf_bind hf
                have hFc := r_free hD hS hA
                refine va_calli (va_runV (As := [.int 1]) (rest := []) ⟨hx, hb, hml, hown, hts⟩ (c_X12_can l dC dI _ Q N σ 1 p63 hcp63) (cwV 1 hts hX12_one_X12_can_v341 rfl rfl rfl (by decide +kernel) ⟨Nat.le_of_ble_eq_true rfl, Nat.le_of_ble_eq_true rfl⟩) ⟨zPre.blind, va_recv hK hP (ci := 11) (q0 := 0) rfl rfl, zPre.go hZ hP hK hD⟩ rfl rfl hl.1 rfl (lv_room (Nat.le_of_ble_eq_true rfl)) dX12_one_275 ⟨Nat.le_of_ble_eq_true rfl, Nat.le_of_ble_eq_true rfl⟩) hS (fun q _ h => hFc q h) hFc (fun r64 u9 t9 H1 locs ht hvm hw hB hz1 hk1 hS => ?_)
                obtain ⟨hP, hK1, hD1⟩ := hB
                rw [ht] at hP
                have hD := hD1.weaken (fun _ _ _ h => hFc _ h)
                generalize H1 = H at hP hS ⊢
                obtain rfl : r64 = p63.1 := hw
                refine lv_if_eq (tgt := 328) hx hb dX12_one_278 (by decide) (fun c65 => ?_) (fun c65 => ?_)
                ·
                  replace hf := (if_pos c65).symm.trans hf
                  obtain rfl := Option.some.inj hf
                  exact W.vret hx hb hr (fun t ht hW => ⟨⟨(), rfl, trivial, by rw [ht]; exact hP, va_K.moved hW.alike hK, hD⟩, hS.F ht⟩) hS.2.2 dX12_one_328
                ·
                  replace hf := (if_neg c65).symm.trans hf
                  exact j_X12_one_281 l dC dI Q N R hx hb hr hml hown hts hlocks hZ hA hK p63.2 x1 _ _ _ hf hP hD hS (lv_sub hl [0, 1] rfl)
  replace hf := (if_neg c33).symm.trans hf
  refine lv_tableOut (tgt := 305) hx hb dX12_one_6 (by have := z_ton (a := 0) c2 (by decide); have := z_ton (a := 1) c27 (by decide); have := z_ton (a := 2) c30 (by decide); have := z_ton (a := 3) c33 (by decide); omega) (by decide) ?_
  refine lv_aload_n hx hb dX12_one_305 rfl (lv_at hl 0 rfl) ?_
  refine lv_bipush (v := 9) hx hb dX12_one_306 (by decide) ?_
  refine lv_aload_n hx hb dX12_one_308 rfl (lv_at hl 0 rfl) ?_
  refine rG_66 hx hb hts i_X12_one_X12 hown hK hP (hts (.fieldLink RX12 180 "StatementRules2Model" "fp" "[I") k_X12_one_fieldLink_RX12_180_SRModel_fp_I) dX12_one_309 ?_
  refine lv_iload_n hx hb dX12_one_312 rfl (lv_at hl 1 rfl) ?_
  refine rL_66 (v := (σ.a 66 ((x1 : Int32).toNatClampNeg))) hx hb hK hP b1 dX12_one_313 rfl ?_
  obtain ⟨p66, hcp66, hf⟩ := hf_bind hf
  have hFc := r_free hD hS hA
  refine va_calli (va_runV (As := [.int 9, .int (σ.a 66 ((x1 : Int32).toNatClampNeg))]) (rest := []) ⟨hx, hb, hml, hown, hts⟩ (c_X12_emit l dC dI _ Q N σ 9 (σ.a 66 ((x1 : Int32).toNatClampNeg)) p66 hcp66) (cwV 2 hts hX12_one_X12_emit_v464 rfl rfl rfl (by decide +kernel) ⟨Nat.le_of_ble_eq_true rfl, Nat.le_of_ble_eq_true rfl⟩) ⟨zPre.blind, va_recv hK hP (ci := 11) (q0 := 0) rfl rfl, zPre.go hZ hP hK hD⟩ rfl rfl hl.1 rfl (lv_room (Nat.le_of_ble_eq_true rfl)) dX12_one_314 ⟨Nat.le_of_ble_eq_true rfl, Nat.le_of_ble_eq_true rfl⟩) hS (fun q _ h => hFc q h) hFc (fun r67 u9 t9 H1 locs ht hvm hw hB hz1 hk1 hS => ?_)
  obtain ⟨hP, hK1, hD1⟩ := hB
  rw [ht] at hP
  have hD := hD1.weaken (fun _ _ _ h => hFc _ h)
  generalize H1 = H at hP hS ⊢
  obtain rfl : r67 = p66.1 := hw
  refine lv_pop hx hb dX12_one_317 rfl ?_
  refine lv_aload_n hx hb dX12_one_318 rfl (lv_at hl 0 rfl) ?_
  refine lv_dup hx hb dX12_one_319 rfl ?_
  refine rG_63 (v := (p66.2.i 63)) hx hb hts i_X12_one_X12 hown hK hP (hts (.fieldLink RX12 387 "StatementRules2Model" "top" "I") k_X12_one_fieldLink_RX12_387_SRModel_top_I) dX12_one_320 rfl ?_
  refine lv_iconst (v := 1) hx hb dX12_one_323 (by decide) ?_
  refine lv_isub hx hb dX12_one_324 ?_
  refine rP_63 hx hb hts i_X12_one_X12 hown hK hP hD hS (hts (.fieldLink RX12 387 "StatementRules2Model" "top" "I") k_X12_one_fieldLink_RX12_387_SRModel_top_I) dX12_one_325 (fun H locs hP hD hS => ?_)
  obtain rfl := Option.some.inj hf
  exact W.vret hx hb hr (fun t ht hW => ⟨⟨(), rfl, trivial, by rw [ht]; exact hP, va_K.moved hW.alike hK, hD⟩, hS.F ht⟩) hS.2.2 dX12_one_328
theorem k_X12_thing_fieldLink_RX12_174_SRModel_fk_I : Cond.fieldLink RX12 174 "StatementRules2Model" "fk" "[I" ∈ wzX12_thing := List.mem_cons_of_mem _ (List.mem_append_left _ (List.mem_of_getElem? (i := 0) rfl))
theorem i_X12_thing_X12 : ∀ w ∈ wsX120, w ∈ wzX12_thing := fun _ h => List.mem_cons_of_mem _ (List.mem_append_right _ (List.mem_append_left _ (h)))
theorem k_X12_thing_fieldLink_RX12_307_SRModel_tok_I : Cond.fieldLink RX12 307 "StatementRules2Model" "tok" "I" ∈ wzX12_thing := List.mem_cons_of_mem _ (List.mem_append_left _ (List.mem_of_getElem? (i := 1) rfl))
set_option maxHeartbeats 4000000 in
set_option maxRecDepth 100000 in
theorem j_X12_thing_74 {p : Program} {e : Env} {s : State} {m : MethodId} {args : Array Value} {below : List Frame} {meth : Method} {c : Code} {A : Nat → Prop} (l : Launch) (dC : Nat → ClassId) (dI : Nat → Nat → Nat) (Q : RQ) (N : Nat) (R : RS) (hx : p.tables.exec = Jvm.exec) (hb : c.code = cX12_thing) (hr : meth.sig.returnType = none) (hml : c.maxLocals = 2) (hown : s.vm.findClass RX12 = some m.cls) (hts : ∀ w ∈ wzX12_thing, w.before args s = true) (hlocks : meth.locks = false) (hZ : zAMB s) (hA : ∀ q : Nat, s.heap.size ≤ q → A q) (hK : va_K (dC, dI) vwCl (rT Q) s) : ∀ (σ : RS) (H : Heap) (locs : List Loc) (ls : Array Slot), f_X12_thing_74 N σ = some R → va_P (dC, dI) vwCl (rW Q σ) H → va_D A (rW Q σ) → va_S A s.heap H locs → lv_has ls 2 [] → W p l e ({ frames := 7, cells := 0, slots := 0, locals := 420 }) s m args below meth c H locs 0 0 (MQ below (va_Qv (fun (_ : Unit) => True) (fun (_ : Unit) (t : State) => zPost dC dI A (rW Q R) (rT Q) t) A) args s 0 0 A) (F0 m 74 ls []) := by
  intro σ  H locs ls hf hP hD hS hl
  unfold f_X12_thing_74 at hf
  refine lv_goto (tgt := 170) hx hb dX12_thing_74 (by decide) ?_
  obtain rfl := Option.some.inj hf
  exact W.vret hx hb hr (fun t ht hW => ⟨⟨(), rfl, trivial, by rw [ht]; exact hP, va_K.moved hW.alike hK, hD⟩, hS.F ht⟩) hS.2.2 dX12_thing_170
set_option maxHeartbeats 4000000 in
set_option maxRecDepth 100000 in
theorem j_X12_thing_116 {p : Program} {e : Env} {s : State} {m : MethodId} {args : Array Value} {below : List Frame} {meth : Method} {c : Code} {A : Nat → Prop} (l : Launch) (dC : Nat → ClassId) (dI : Nat → Nat → Nat) (Q : RQ) (N : Nat) (R : RS) (hx : p.tables.exec = Jvm.exec) (hb : c.code = cX12_thing) (hr : meth.sig.returnType = none) (hml : c.maxLocals = 2) (hown : s.vm.findClass RX12 = some m.cls) (hts : ∀ w ∈ wzX12_thing, w.before args s = true) (hlocks : meth.locks = false) (hZ : zAMB s) (hA : ∀ q : Nat, s.heap.size ≤ q → A q) (hK : va_K (dC, dI) vwCl (rT Q) s) : ∀ (σ : RS) (H : Heap) (locs : List Loc) (ls : Array Slot), f_X12_thing_116 N σ = some R → va_P (dC, dI) vwCl (rW Q σ) H → va_D A (rW Q σ) → va_S A s.heap H locs → lv_has ls 2 [] → W p l e ({ frames := 7, cells := 0, slots := 0, locals := 420 }) s m args below meth c H locs 0 0 (MQ below (va_Qv (fun (_ : Unit) => True) (fun (_ : Unit) (t : State) => zPost dC dI A (rW Q R) (rT Q) t) A) args s 0 0 A) (F0 m 116 ls []) := by
  intro σ  H locs ls hf hP hD hS hl
  unfold f_X12_thing_116 at hf
  refine lv_goto (tgt := 170) hx hb dX12_thing_116 (by decide) ?_
  obtain rfl := Option.some.inj hf
  exact W.vret hx hb hr (fun t ht hW => ⟨⟨(), rfl, trivial, by rw [ht]; exact hP, va_K.moved hW.alike hK, hD⟩, hS.F ht⟩) hS.2.2 dX12_thing_170
set_option maxHeartbeats 4000000 in
set_option maxRecDepth 100000 in
theorem c_X12_thing (l : Launch) (dC : Nat → ClassId) (dI : Nat → Nat → Nat) (sz : Nat) (Q : RQ) (N : Nat) (σ : RS) (x1 : Int32) (R : RS) (hf : f_X12_thing N σ x1 = some R) : Met l yX12_thing wzX12_thing ({ frames := 7, cells := 0, slots := 0, locals := 420 }) (va_Pc [.ref Q.h0, .int x1] (zPre dC dI sz (rW Q σ) (rT Q))) (va_Qv (fun (_ : Unit) => True) (fun (_ : Unit) (t : State) => zPost dC dI (va_A (rW Q σ) sz) (rW Q R) (rT Q) t) (va_A (rW Q σ) sz)) 0 0 (va_A (rW Q σ) sz) := by
  refine Met.ofW (cc := cX12_thing) (maxL := 2) (ret := none) (by decide) rfl ?_
  intro p e s m args below meth c s₁ B hml hv
  obtain ⟨rfl, hsz, hZ, hP, hK, hD0⟩ := hv
  have hx := B.exec
  have hb := B.bytes
  have hr := B.returns
  have hts := atoms_spec (ws := wzX12_thing) B.pre
  have hown : s.vm.findClass RX12 = some m.cls := findClass_of_methodNamed B.named
  have hlocks := B.notSynchronized
  subst hsz
  have hD := hD0.self (sz := s.heap.size)
  generalize hAe : va_A (rW Q σ) s.heap.size = A at hD ⊢
  have hA : ∀ q : Nat, s.heap.size ≤ q → A q := fun q h => by rw [← hAe]; exact Or.inr h
  have hS : va_S A s.heap s.heap [] := va_S.rf
  have hl := lv_entry ([.ref Q.h0, .int x1]) (n := 2) (Nat.le_of_ble_eq_true rfl)
  rw [lg_entry_eq]
  generalize (lg_sl ([.ref Q.h0, .int x1]) ++ List.replicate (2 - (lg_sl ([.ref Q.h0, .int x1])).length) Slot.unset).toArray = ls at hl ⊢
  have hl : lv_has ls 2 [(0, .ref Q.h0), (1, .int x1)] := hl
  unfold f_X12_thing at hf
  refine lv_aload_n hx hb dX12_thing_0 rfl (lv_at hl 0 rfl) ?_
  refine rG_64 hx hb hts i_X12_thing_X12 hown hK hP (hts (.fieldLink RX12 174 "StatementRules2Model" "fk" "[I") k_X12_thing_fieldLink_RX12_174_SRModel_fk_I) dX12_thing_1 ?_
  refine lv_iload_n hx hb dX12_thing_4 rfl (lv_at hl 1 rfl) ?_
  obtain ⟨b1, hf⟩ := hf_ite hf
  refine rL_64 (v := (σ.a 64 ((x1 : Int32).toNatClampNeg))) hx hb hK hP b1 dX12_thing_5 rfl ?_
  by_cases c2 : (σ.a 64 ((x1 : Int32).toNatClampNeg)) = 16
  ·
    replace hf := (if_pos c2).symm.trans hf
    refine lv_tableIn (off := 38) (tgt := 44) hx hb dX12_thing_6 (by rw [c2]; decide) (by rw [c2]; decide) (by rw [c2]; decide) (by decide) ?_
    refine lv_aload_n hx hb dX12_thing_44 rfl (lv_at hl 0 rfl) ?_
    refine lv_iload_n hx hb dX12_thing_45 rfl (lv_at hl 1 rfl) ?_
    refine lv_bipush (v := 17) hx hb dX12_thing_46 (by decide) ?_
    refine lv_aload_n hx hb dX12_thing_48 rfl (lv_at hl 0 rfl) ?_
    refine rG_10 (v := (σ.i 10)) hx hb hts i_X12_thing_X12 hown hK hP (hts (.fieldLink RX12 307 "StatementRules2Model" "tok" "I") k_X12_thing_fieldLink_RX12_307_SRModel_tok_I) dX12_thing_49 rfl ?_
    refine lv_bipush (v := 43) hx hb dX12_thing_52 (by decide) ?_
    refine lv_icmp_eq (tgt := 66) hx hb dX12_thing_54 (by decide) (fun c3 => ?_) (fun c3 => ?_)
    ·
      replace hf := (if_pos c3).symm.trans hf
      refine lv_iconst (v := 1) hx hb dX12_thing_66 (by decide) ?_
      refine lv_goto (tgt := 71) hx hb dX12_thing_67 (by decide) ?_
      obtain ⟨p4, hcp4, hf⟩ := hf_bind hf
      have hFc := r_free hD hS hA
      refine va_callv (va_runV (As := [.int x1, .int 17, .int 1]) (rest := []) ⟨hx, hb, hml, hown, hts⟩ (c_X12_sums l dC dI _ Q N σ x1 17 1 p4 hcp4) (cwV 3 hts hX12_thing_X12_sums_v447 rfl rfl rfl (by decide +kernel) ⟨Nat.le_of_ble_eq_true rfl, Nat.le_of_ble_eq_true rfl⟩) ⟨zPre.blind, va_recv hK hP (ci := 11) (q0 := 0) rfl rfl, zPre.go hZ hP hK hD⟩ rfl rfl hl.1 rfl (lv_room (Nat.le_of_ble_eq_true rfl)) dX12_thing_71 ⟨Nat.le_of_ble_eq_true rfl, Nat.le_of_ble_eq_true rfl⟩) hS (fun q _ h => hFc q h) hFc (fun u9 t9 H1 locs ht hvm hw hB hz1 hk1 hS => ?_)
      obtain ⟨hP, hK1, hD1⟩ := hB
      rw [ht] at hP
      have hD := hD1.weaken (fun _ _ _ h => hFc _ h)
      generalize H1 = H at hP hS ⊢
      exact j_X12_thing_74 l dC dI Q N R hx hb hr hml hown hts hlocks hZ hA hK p4 _ _ _ hf hP hD hS (lv_sub hl [] rfl)
    ·
      replace hf := (if_neg c3).symm.trans hf
      refine lv_aload_n hx hb dX12_thing_57 rfl (lv_at hl 0 rfl) ?_
      refine rG_10 (v := (σ.i 10)) hx hb hts i_X12_thing_X12 hown hK hP (hts (.fieldLink RX12 307 "StatementRules2Model" "tok" "I") k_X12_thing_fieldLink_RX12_307_SRModel_tok_I) dX12_thing_58 rfl ?_
      refine lv_bipush (v := 45) hx hb dX12_thing_61 (by decide) ?_
      refine lv_icmp_ne (tgt := 70) hx hb dX12_thing_63 (by decide) (fun c6 => ?_) (fun c6 => ?_)
      ·
        replace hf := (if_neg c6).symm.trans hf
        refine lv_iconst (v := 0) hx hb dX12_thing_70 (by decide) ?_
        obtain ⟨p7, hcp7, hf⟩ := hf_bind hf
        have hFc := r_free hD hS hA
        refine va_callv (va_runV (As := [.int x1, .int 17, .int 0]) (rest := []) ⟨hx, hb, hml, hown, hts⟩ (c_X12_sums l dC dI _ Q N σ x1 17 0 p7 hcp7) (cwV 3 hts hX12_thing_X12_sums_v447 rfl rfl rfl (by decide +kernel) ⟨Nat.le_of_ble_eq_true rfl, Nat.le_of_ble_eq_true rfl⟩) ⟨zPre.blind, va_recv hK hP (ci := 11) (q0 := 0) rfl rfl, zPre.go hZ hP hK hD⟩ rfl rfl hl.1 rfl (lv_room (Nat.le_of_ble_eq_true rfl)) dX12_thing_71 ⟨Nat.le_of_ble_eq_true rfl, Nat.le_of_ble_eq_true rfl⟩) hS (fun q _ h => hFc q h) hFc (fun u9 t9 H1 locs ht hvm hw hB hz1 hk1 hS => ?_)
        obtain ⟨hP, hK1, hD1⟩ := hB
        rw [ht] at hP
        have hD := hD1.weaken (fun _ _ _ h => hFc _ h)
        generalize H1 = H at hP hS ⊢
        exact j_X12_thing_74 l dC dI Q N R hx hb hr hml hown hts hlocks hZ hA hK p7 _ _ _ hf hP hD hS (lv_sub hl [] rfl)
      ·
        replace hf := (if_pos c6).symm.trans hf
        refine lv_iconst (v := 1) hx hb dX12_thing_66 (by decide) ?_
        refine lv_goto (tgt := 71) hx hb dX12_thing_67 (by decide) ?_
        obtain ⟨p9, hcp9, hf⟩ := hf_bind hf
        have hFc := r_free hD hS hA
        refine va_callv (va_runV (As := [.int x1, .int 17, .int 1]) (rest := []) ⟨hx, hb, hml, hown, hts⟩ (c_X12_sums l dC dI _ Q N σ x1 17 1 p9 hcp9) (cwV 3 hts hX12_thing_X12_sums_v447 rfl rfl rfl (by decide +kernel) ⟨Nat.le_of_ble_eq_true rfl, Nat.le_of_ble_eq_true rfl⟩) ⟨zPre.blind, va_recv hK hP (ci := 11) (q0 := 0) rfl rfl, zPre.go hZ hP hK hD⟩ rfl rfl hl.1 rfl (lv_room (Nat.le_of_ble_eq_true rfl)) dX12_thing_71 ⟨Nat.le_of_ble_eq_true rfl, Nat.le_of_ble_eq_true rfl⟩) hS (fun q _ h => hFc q h) hFc (fun u9 t9 H1 locs ht hvm hw hB hz1 hk1 hS => ?_)
        obtain ⟨hP, hK1, hD1⟩ := hB
        rw [ht] at hP
        have hD := hD1.weaken (fun _ _ _ h => hFc _ h)
        generalize H1 = H at hP hS ⊢
        exact j_X12_thing_74 l dC dI Q N R hx hb hr hml hown hts hlocks hZ hA hK p9 _ _ _ hf hP hD hS (lv_sub hl [] rfl)
  replace hf := (if_neg c2).symm.trans hf
  by_cases c11 : (σ.a 64 ((x1 : Int32).toNatClampNeg)) = 17
  ·
    replace hf := (if_pos c11).symm.trans hf
    refine lv_tableIn (off := 71) (tgt := 77) hx hb dX12_thing_6 (by rw [c11]; decide) (by rw [c11]; decide) (by rw [c11]; decide) (by decide) ?_
    refine lv_aload_n hx hb dX12_thing_77 rfl (lv_at hl 0 rfl) ?_
    refine lv_iload_n hx hb dX12_thing_78 rfl (lv_at hl 1 rfl) ?_
    refine lv_bipush (v := 18) hx hb dX12_thing_79 (by decide) ?_
    refine lv_aload_n hx hb dX12_thing_81 rfl (lv_at hl 0 rfl) ?_
    refine rG_10 (v := (σ.i 10)) hx hb hts i_X12_thing_X12 hown hK hP (hts (.fieldLink RX12 307 "StatementRules2Model" "tok" "I") k_X12_thing_fieldLink_RX12_307_SRModel_tok_I) dX12_thing_82 rfl ?_
    refine lv_bipush (v := 42) hx hb dX12_thing_85 (by decide) ?_
    refine lv_icmp_eq (tgt := 108) hx hb dX12_thing_87 (by decide) (fun c12 => ?_) (fun c12 => ?_)
    ·
      replace hf := (if_pos c12).symm.trans hf
      refine lv_iconst (v := 1) hx hb dX12_thing_108 (by decide) ?_
      refine lv_goto (tgt := 113) hx hb dX12_thing_109 (by decide) ?_
      obtain ⟨p13, hcp13, hf⟩ := hf_bind hf
      have hFc := r_free hD hS hA
      refine va_callv (va_runV (As := [.int x1, .int 18, .int 1]) (rest := []) ⟨hx, hb, hml, hown, hts⟩ (c_X12_sums l dC dI _ Q N σ x1 18 1 p13 hcp13) (cwV 3 hts hX12_thing_X12_sums_v447 rfl rfl rfl (by decide +kernel) ⟨Nat.le_of_ble_eq_true rfl, Nat.le_of_ble_eq_true rfl⟩) ⟨zPre.blind, va_recv hK hP (ci := 11) (q0 := 0) rfl rfl, zPre.go hZ hP hK hD⟩ rfl rfl hl.1 rfl (lv_room (Nat.le_of_ble_eq_true rfl)) dX12_thing_113 ⟨Nat.le_of_ble_eq_true rfl, Nat.le_of_ble_eq_true rfl⟩) hS (fun q _ h => hFc q h) hFc (fun u9 t9 H1 locs ht hvm hw hB hz1 hk1 hS => ?_)
      obtain ⟨hP, hK1, hD1⟩ := hB
      rw [ht] at hP
      have hD := hD1.weaken (fun _ _ _ h => hFc _ h)
      generalize H1 = H at hP hS ⊢
      exact j_X12_thing_116 l dC dI Q N R hx hb hr hml hown hts hlocks hZ hA hK p13 _ _ _ hf hP hD hS (lv_sub hl [] rfl)
    ·
      replace hf := (if_neg c12).symm.trans hf
      refine lv_aload_n hx hb dX12_thing_90 rfl (lv_at hl 0 rfl) ?_
      refine rG_10 (v := (σ.i 10)) hx hb hts i_X12_thing_X12 hown hK hP (hts (.fieldLink RX12 307 "StatementRules2Model" "tok" "I") k_X12_thing_fieldLink_RX12_307_SRModel_tok_I) dX12_thing_91 rfl ?_
      refine lv_bipush (v := 47) hx hb dX12_thing_94 (by decide) ?_
      refine lv_icmp_eq (tgt := 108) hx hb dX12_thing_96 (by decide) (fun c15 => ?_) (fun c15 => ?_)
      ·
        replace hf := (if_pos c15).symm.trans hf
        refine lv_iconst (v := 1) hx hb dX12_thing_108 (by decide) ?_
        refine lv_goto (tgt := 113) hx hb dX12_thing_109 (by decide) ?_
        obtain ⟨p16, hcp16, hf⟩ := hf_bind hf
        have hFc := r_free hD hS hA
        refine va_callv (va_runV (As := [.int x1, .int 18, .int 1]) (rest := []) ⟨hx, hb, hml, hown, hts⟩ (c_X12_sums l dC dI _ Q N σ x1 18 1 p16 hcp16) (cwV 3 hts hX12_thing_X12_sums_v447 rfl rfl rfl (by decide +kernel) ⟨Nat.le_of_ble_eq_true rfl, Nat.le_of_ble_eq_true rfl⟩) ⟨zPre.blind, va_recv hK hP (ci := 11) (q0 := 0) rfl rfl, zPre.go hZ hP hK hD⟩ rfl rfl hl.1 rfl (lv_room (Nat.le_of_ble_eq_true rfl)) dX12_thing_113 ⟨Nat.le_of_ble_eq_true rfl, Nat.le_of_ble_eq_true rfl⟩) hS (fun q _ h => hFc q h) hFc (fun u9 t9 H1 locs ht hvm hw hB hz1 hk1 hS => ?_)
        obtain ⟨hP, hK1, hD1⟩ := hB
        rw [ht] at hP
        have hD := hD1.weaken (fun _ _ _ h => hFc _ h)
        generalize H1 = H at hP hS ⊢
        exact j_X12_thing_116 l dC dI Q N R hx hb hr hml hown hts hlocks hZ hA hK p16 _ _ _ hf hP hD hS (lv_sub hl [] rfl)
      ·
        replace hf := (if_neg c15).symm.trans hf
        refine lv_aload_n hx hb dX12_thing_99 rfl (lv_at hl 0 rfl) ?_
        refine rG_10 (v := (σ.i 10)) hx hb hts i_X12_thing_X12 hown hK hP (hts (.fieldLink RX12 307 "StatementRules2Model" "tok" "I") k_X12_thing_fieldLink_RX12_307_SRModel_tok_I) dX12_thing_100 rfl ?_
        refine lv_bipush (v := 37) hx hb dX12_thing_103 (by decide) ?_
        refine lv_icmp_ne (tgt := 112) hx hb dX12_thing_105 (by decide) (fun c18 => ?_) (fun c18 => ?_)
        ·
          replace hf := (if_neg c18).symm.trans hf
          refine lv_iconst (v := 0) hx hb dX12_thing_112 (by decide) ?_
          obtain ⟨p19, hcp19, hf⟩ := hf_bind hf
          have hFc := r_free hD hS hA
          refine va_callv (va_runV (As := [.int x1, .int 18, .int 0]) (rest := []) ⟨hx, hb, hml, hown, hts⟩ (c_X12_sums l dC dI _ Q N σ x1 18 0 p19 hcp19) (cwV 3 hts hX12_thing_X12_sums_v447 rfl rfl rfl (by decide +kernel) ⟨Nat.le_of_ble_eq_true rfl, Nat.le_of_ble_eq_true rfl⟩) ⟨zPre.blind, va_recv hK hP (ci := 11) (q0 := 0) rfl rfl, zPre.go hZ hP hK hD⟩ rfl rfl hl.1 rfl (lv_room (Nat.le_of_ble_eq_true rfl)) dX12_thing_113 ⟨Nat.le_of_ble_eq_true rfl, Nat.le_of_ble_eq_true rfl⟩) hS (fun q _ h => hFc q h) hFc (fun u9 t9 H1 locs ht hvm hw hB hz1 hk1 hS => ?_)
          obtain ⟨hP, hK1, hD1⟩ := hB
          rw [ht] at hP
          have hD := hD1.weaken (fun _ _ _ h => hFc _ h)
          generalize H1 = H at hP hS ⊢
          exact j_X12_thing_116 l dC dI Q N R hx hb hr hml hown hts hlocks hZ hA hK p19 _ _ _ hf hP hD hS (lv_sub hl [] rfl)
        ·
          replace hf := (if_pos c18).symm.trans hf
          refine lv_iconst (v := 1) hx hb dX12_thing_108 (by decide) ?_
          refine lv_goto (tgt := 113) hx hb dX12_thing_109 (by decide) ?_
          obtain ⟨p21, hcp21, hf⟩ := hf_bind hf
          have hFc := r_free hD hS hA
          refine va_callv (va_runV (As := [.int x1, .int 18, .int 1]) (rest := []) ⟨hx, hb, hml, hown, hts⟩ (c_X12_sums l dC dI _ Q N σ x1 18 1 p21 hcp21) (cwV 3 hts hX12_thing_X12_sums_v447 rfl rfl rfl (by decide +kernel) ⟨Nat.le_of_ble_eq_true rfl, Nat.le_of_ble_eq_true rfl⟩) ⟨zPre.blind, va_recv hK hP (ci := 11) (q0 := 0) rfl rfl, zPre.go hZ hP hK hD⟩ rfl rfl hl.1 rfl (lv_room (Nat.le_of_ble_eq_true rfl)) dX12_thing_113 ⟨Nat.le_of_ble_eq_true rfl, Nat.le_of_ble_eq_true rfl⟩) hS (fun q _ h => hFc q h) hFc (fun u9 t9 H1 locs ht hvm hw hB hz1 hk1 hS => ?_)
          obtain ⟨hP, hK1, hD1⟩ := hB
          rw [ht] at hP
          have hD := hD1.weaken (fun _ _ _ h => hFc _ h)
          generalize H1 = H at hP hS ⊢
          exact j_X12_thing_116 l dC dI Q N R hx hb hr hml hown hts hlocks hZ hA hK p21 _ _ _ hf hP hD hS (lv_sub hl [] rfl)
  replace hf := (if_neg c11).symm.trans hf
  by_cases c23 : (σ.a 64 ((x1 : Int32).toNatClampNeg)) = 18
  ·
    replace hf := (if_pos c23).symm.trans hf
    refine lv_tableIn (off := 113) (tgt := 119) hx hb dX12_thing_6 (by rw [c23]; decide) (by rw [c23]; decide) (by rw [c23]; decide) (by decide) ?_
    refine lv_aload_n hx hb dX12_thing_119 rfl (lv_at hl 0 rfl) ?_
    refine lv_iload_n hx hb dX12_thing_120 rfl (lv_at hl 1 rfl) ?_
    obtain ⟨p24, hcp24, hf⟩ := hf_bind hf
    have hFc := r_free hD hS hA
    refine va_callv (va_runV (As := [.int x1]) (rest := []) ⟨hx, hb, hml, hown, hts⟩ (c_X12_factor l dC dI _ Q N σ x1 p24 hcp24) (cwV 1 hts hX12_thing_X12_factor_v451 rfl rfl rfl (by decide +kernel) ⟨Nat.le_of_ble_eq_true rfl, Nat.le_of_ble_eq_true rfl⟩) ⟨zPre.blind, va_recv hK hP (ci := 11) (q0 := 0) rfl rfl, zPre.go hZ hP hK hD⟩ rfl rfl hl.1 rfl (lv_room (Nat.le_of_ble_eq_true rfl)) dX12_thing_121 ⟨Nat.le_of_ble_eq_true rfl, Nat.le_of_ble_eq_true rfl⟩) hS (fun q _ h => hFc q h) hFc (fun u9 t9 H1 locs ht hvm hw hB hz1 hk1 hS => ?_)
    obtain ⟨hP, hK1, hD1⟩ := hB
    rw [ht] at hP
    have hD := hD1.weaken (fun _ _ _ h => hFc _ h)
    generalize H1 = H at hP hS ⊢
    refine lv_goto (tgt := 170) hx hb dX12_thing_124 (by decide) ?_
    obtain rfl := Option.some.inj hf
    exact W.vret hx hb hr (fun t ht hW => ⟨⟨(), rfl, trivial, by rw [ht]; exact hP, va_K.moved hW.alike hK, hD⟩, hS.F ht⟩) hS.2.2 dX12_thing_170
  replace hf := (if_neg c23).symm.trans hf
  by_cases c26 : (σ.a 64 ((x1 : Int32).toNatClampNeg)) = 19
  ·
    replace hf := (if_pos c26).symm.trans hf
    refine lv_tableIn (off := 121) (tgt := 127) hx hb dX12_thing_6 (by rw [c26]; decide) (by rw [c26]; decide) (by rw [c26]; decide) (by decide) ?_
    refine lv_aload_n hx hb dX12_thing_127 rfl (lv_at hl 0 rfl) ?_
    refine lv_iload_n hx hb dX12_thing_128 rfl (lv_at hl 1 rfl) ?_
    obtain ⟨p27, hcp27, hf⟩ := hf_bind hf
    have hFc := r_free hD hS hA
    refine va_callv (va_runV (As := [.int x1]) (rest := []) ⟨hx, hb, hml, hown, hts⟩ (c_X12_arms l dC dI _ Q N σ x1 p27 hcp27) (cwV 1 hts hX12_thing_X12_arms_v454 rfl rfl rfl (by decide +kernel) ⟨Nat.le_of_ble_eq_true rfl, Nat.le_of_ble_eq_true rfl⟩) ⟨zPre.blind, va_recv hK hP (ci := 11) (q0 := 0) rfl rfl, zPre.go hZ hP hK hD⟩ rfl rfl hl.1 rfl (lv_room (Nat.le_of_ble_eq_true rfl)) dX12_thing_129 ⟨Nat.le_of_ble_eq_true rfl, Nat.le_of_ble_eq_true rfl⟩) hS (fun q _ h => hFc q h) hFc (fun u9 t9 H1 locs ht hvm hw hB hz1 hk1 hS => ?_)
    obtain ⟨hP, hK1, hD1⟩ := hB
    rw [ht] at hP
    have hD := hD1.weaken (fun _ _ _ h => hFc _ h)
    generalize H1 = H at hP hS ⊢
    refine lv_goto (tgt := 170) hx hb dX12_thing_132 (by decide) ?_
    obtain rfl := Option.some.inj hf
    exact W.vret hx hb hr (fun t ht hW => ⟨⟨(), rfl, trivial, by rw [ht]; exact hP, va_K.moved hW.alike hK, hD⟩, hS.F ht⟩) hS.2.2 dX12_thing_170
  replace hf := (if_neg c26).symm.trans hf
  by_cases c29 : (σ.a 64 ((x1 : Int32).toNatClampNeg)) = 20
  ·
    replace hf := (if_pos c29).symm.trans hf
    refine lv_tableIn (off := 129) (tgt := 135) hx hb dX12_thing_6 (by rw [c29]; decide) (by rw [c29]; decide) (by rw [c29]; decide) (by decide) ?_
    refine lv_aload_n hx hb dX12_thing_135 rfl (lv_at hl 0 rfl) ?_
    refine lv_iload_n hx hb dX12_thing_136 rfl (lv_at hl 1 rfl) ?_
    refine lv_bipush (v := 21) hx hb dX12_thing_137 (by decide) ?_
    refine lv_sipush (v := 305) hx hb dX12_thing_139 (by decide) ?_
    refine lv_bipush (v := 11) hx hb dX12_thing_142 (by decide) ?_
    obtain ⟨p30, hcp30, hf⟩ := hf_bind hf
    have hFc := r_free hD hS hA
    refine va_callv (va_runV (As := [.int x1, .int 21, .int 305, .int 11]) (rest := []) ⟨hx, hb, hml, hown, hts⟩ (c_X12_both l dC dI _ Q N σ x1 21 305 11 p30 hcp30) (cwV 4 hts hX12_thing_X12_both_v457 rfl rfl rfl (by decide +kernel) ⟨Nat.le_of_ble_eq_true rfl, Nat.le_of_ble_eq_true rfl⟩) ⟨zPre.blind, va_recv hK hP (ci := 11) (q0 := 0) rfl rfl, zPre.go hZ hP hK hD⟩ rfl rfl hl.1 rfl (lv_room (Nat.le_of_ble_eq_true rfl)) dX12_thing_144 ⟨Nat.le_of_ble_eq_true rfl, Nat.le_of_ble_eq_true rfl⟩) hS (fun q _ h => hFc q h) hFc (fun u9 t9 H1 locs ht hvm hw hB hz1 hk1 hS => ?_)
    obtain ⟨hP, hK1, hD1⟩ := hB
    rw [ht] at hP
    have hD := hD1.weaken (fun _ _ _ h => hFc _ h)
    generalize H1 = H at hP hS ⊢
    refine lv_goto (tgt := 170) hx hb dX12_thing_147 (by decide) ?_
    obtain rfl := Option.some.inj hf
    exact W.vret hx hb hr (fun t ht hW => ⟨⟨(), rfl, trivial, by rw [ht]; exact hP, va_K.moved hW.alike hK, hD⟩, hS.F ht⟩) hS.2.2 dX12_thing_170
  replace hf := (if_neg c29).symm.trans hf
  by_cases c32 : (σ.a 64 ((x1 : Int32).toNatClampNeg)) = 21
  ·
    replace hf := (if_pos c32).symm.trans hf
    refine lv_tableIn (off := 144) (tgt := 150) hx hb dX12_thing_6 (by rw [c32]; decide) (by rw [c32]; decide) (by rw [c32]; decide) (by decide) ?_
    refine lv_aload_n hx hb dX12_thing_150 rfl (lv_at hl 0 rfl) ?_
    refine lv_iload_n hx hb dX12_thing_151 rfl (lv_at hl 1 rfl) ?_
    refine lv_bipush (v := 22) hx hb dX12_thing_152 (by decide) ?_
    refine lv_sipush (v := 304) hx hb dX12_thing_154 (by decide) ?_
    refine lv_bipush (v := 12) hx hb dX12_thing_157 (by decide) ?_
    obtain ⟨p33, hcp33, hf⟩ := hf_bind hf
    have hFc := r_free hD hS hA
    refine va_callv (va_runV (As := [.int x1, .int 22, .int 304, .int 12]) (rest := []) ⟨hx, hb, hml, hown, hts⟩ (c_X12_both l dC dI _ Q N σ x1 22 304 12 p33 hcp33) (cwV 4 hts hX12_thing_X12_both_v457 rfl rfl rfl (by decide +kernel) ⟨Nat.le_of_ble_eq_true rfl, Nat.le_of_ble_eq_true rfl⟩) ⟨zPre.blind, va_recv hK hP (ci := 11) (q0 := 0) rfl rfl, zPre.go hZ hP hK hD⟩ rfl rfl hl.1 rfl (lv_room (Nat.le_of_ble_eq_true rfl)) dX12_thing_159 ⟨Nat.le_of_ble_eq_true rfl, Nat.le_of_ble_eq_true rfl⟩) hS (fun q _ h => hFc q h) hFc (fun u9 t9 H1 locs ht hvm hw hB hz1 hk1 hS => ?_)
    obtain ⟨hP, hK1, hD1⟩ := hB
    rw [ht] at hP
    have hD := hD1.weaken (fun _ _ _ h => hFc _ h)
    generalize H1 = H at hP hS ⊢
    refine lv_goto (tgt := 170) hx hb dX12_thing_162 (by decide) ?_
    obtain rfl := Option.some.inj hf
    exact W.vret hx hb hr (fun t ht hW => ⟨⟨(), rfl, trivial, by rw [ht]; exact hP, va_K.moved hW.alike hK, hD⟩, hS.F ht⟩) hS.2.2 dX12_thing_170
  replace hf := (if_neg c32).symm.trans hf
  refine lv_tableOut (tgt := 165) hx hb dX12_thing_6 (by have := z_ton (a := 16) c2 (by decide); have := z_ton (a := 17) c11 (by decide); have := z_ton (a := 18) c23 (by decide); have := z_ton (a := 19) c26 (by decide); have := z_ton (a := 20) c29 (by decide); have := z_ton (a := 21) c32 (by decide); omega) (by decide) ?_
  refine lv_aload_n hx hb dX12_thing_165 rfl (lv_at hl 0 rfl) ?_
  refine lv_iload_n hx hb dX12_thing_166 rfl (lv_at hl 1 rfl) ?_
  obtain ⟨p35, hcp35, hf⟩ := hf_bind hf
  have hFc := r_free hD hS hA
  refine va_callv (va_runV (As := [.int x1]) (rest := []) ⟨hx, hb, hml, hown, hts⟩ (c_X12_one l dC dI _ Q N σ x1 p35 hcp35) (cwV 1 hts hX12_thing_X12_one_v461 rfl rfl rfl (by decide +kernel) ⟨Nat.le_of_ble_eq_true rfl, Nat.le_of_ble_eq_true rfl⟩) ⟨zPre.blind, va_recv hK hP (ci := 11) (q0 := 0) rfl rfl, zPre.go hZ hP hK hD⟩ rfl rfl hl.1 rfl (lv_room (Nat.le_of_ble_eq_true rfl)) dX12_thing_167 ⟨Nat.le_of_ble_eq_true rfl, Nat.le_of_ble_eq_true rfl⟩) hS (fun q _ h => hFc q h) hFc (fun u9 t9 H1 locs ht hvm hw hB hz1 hk1 hS => ?_)
  obtain ⟨hP, hK1, hD1⟩ := hB
  rw [ht] at hP
  have hD := hD1.weaken (fun _ _ _ h => hFc _ h)
  generalize H1 = H at hP hS ⊢
  obtain rfl := Option.some.inj hf
  exact W.vret hx hb hr (fun t ht hW => ⟨⟨(), rfl, trivial, by rw [ht]; exact hP, va_K.moved hW.alike hK, hD⟩, hS.F ht⟩) hS.2.2 dX12_thing_170
theorem k_X12_parse_fieldLink_RX12_387_SRModel_top_I : Cond.fieldLink RX12 387 "StatementRules2Model" "top" "I" ∈ wzX12_parse := List.mem_cons_of_mem _ (List.mem_append_left _ (List.mem_of_getElem? (i := 0) rfl))
theorem i_X12_parse_X12 : ∀ w ∈ wsX120, w ∈ wzX12_parse := fun _ h => List.mem_cons_of_mem _ (List.mem_append_right _ (List.mem_append_left _ (h)))
theorem k_X12_parse_fieldLink_RX12_291_SRModel_fault_I : Cond.fieldLink RX12 291 "StatementRules2Model" "fault" "I" ∈ wzX12_parse := List.mem_cons_of_mem _ (List.mem_append_left _ (List.mem_of_getElem? (i := 1) rfl))
theorem k_X12_parse_fieldLink_RX12_174_SRModel_fk_I : Cond.fieldLink RX12 174 "StatementRules2Model" "fk" "[I" ∈ wzX12_parse := List.mem_cons_of_mem _ (List.mem_append_left _ (List.mem_of_getElem? (i := 2) rfl))
set_option maxHeartbeats 4000000 in
set_option maxRecDepth 100000 in
theorem j_X12_parse_10 {p : Program} {e : Env} {s : State} {m : MethodId} {args : Array Value} {below : List Frame} {meth : Method} {c : Code} {A : Nat → Prop} (l : Launch) (dC : Nat → ClassId) (dI : Nat → Nat → Nat) (Q : RQ) (N : Nat) (R : RS) (hx : p.tables.exec = Jvm.exec) (hb : c.code = cX12_parse) (hr : meth.sig.returnType = none) (hml : c.maxLocals = 1) (hown : s.vm.findClass RX12 = some m.cls) (hts : ∀ w ∈ wzX12_parse, w.before args s = true) (hlocks : meth.locks = false) (hZ : zAMB s) (hA : ∀ q : Nat, s.heap.size ≤ q → A q) (hK : va_K (dC, dI) vwCl (rT Q) s) : ∀ (n9 : Nat), ∀ (σ : RS) (H : Heap) (locs : List Loc) (ls : Array Slot), f_X12_parse_10 N n9 σ = some R → va_P (dC, dI) vwCl (rW Q σ) H → va_D A (rW Q σ) → va_S A s.heap H locs → lv_has ls 1 [(0, .ref Q.h0)] → W p l e ({ frames := 8, cells := 0, slots := 0, locals := 480 }) s m args below meth c H locs 0 0 (MQ below (va_Qv (fun (_ : Unit) => True) (fun (_ : Unit) (t : State) => zPost dC dI A (rW Q R) (rT Q) t) A) args s 0 0 A) (F0 m 10 ls []) := by
  intro n9
  induction n9 with
  | zero => intro σ  H locs ls hf; exact absurd hf (by intro h9; cases h9)
  | succ n9 ih =>
    intro σ  H locs ls hf hP hD hS hl
    replace hf : b_X12_parse_10 N (f_X12_parse_10 N n9) σ  = some R := hf
    unfold b_X12_parse_10 at hf
    refine lv_aload_n hx hb dX12_parse_10 rfl (lv_at hl 0 rfl) ?_
    refine rG_63 (v := (σ.i 63)) hx hb hts i_X12_parse_X12 hown hK hP (hts (.fieldLink RX12 387 "StatementRules2Model" "top" "I") k_X12_parse_fieldLink_RX12_387_SRModel_top_I) dX12_parse_11 rfl ?_
    refine lv_if_lt (tgt := 284) hx hb dX12_parse_14 (by decide) (fun c3 => ?_) (fun c3 => ?_)
    ·
      replace hf := (if_pos c3).symm.trans hf
      obtain rfl := Option.some.inj hf
      exact W.vret hx hb hr (fun t ht hW => ⟨⟨(), rfl, trivial, by rw [ht]; exact hP, va_K.moved hW.alike hK, hD⟩, hS.F ht⟩) hS.2.2 dX12_parse_284
    ·
      replace hf := (if_neg c3).symm.trans hf
      refine lv_aload_n hx hb dX12_parse_17 rfl (lv_at hl 0 rfl) ?_
      refine rG_15 (v := (σ.i 15)) hx hb hts i_X12_parse_X12 hown hK hP (hts (.fieldLink RX12 291 "StatementRules2Model" "fault" "I") k_X12_parse_fieldLink_RX12_291_SRModel_fault_I) dX12_parse_18 rfl ?_
      refine lv_if_ne (tgt := 284) hx hb dX12_parse_21 (by decide) (fun c4 => ?_) (fun c4 => ?_)
      ·
        replace hf := (if_neg c4).symm.trans hf
        obtain rfl := Option.some.inj hf
        exact W.vret hx hb hr (fun t ht hW => ⟨⟨(), rfl, trivial, by rw [ht]; exact hP, va_K.moved hW.alike hK, hD⟩, hS.F ht⟩) hS.2.2 dX12_parse_284
      ·
        replace hf := (if_pos c4).symm.trans hf
        refine lv_aload_n hx hb dX12_parse_24 rfl (lv_at hl 0 rfl) ?_
        refine rG_64 hx hb hts i_X12_parse_X12 hown hK hP (hts (.fieldLink RX12 174 "StatementRules2Model" "fk" "[I") k_X12_parse_fieldLink_RX12_174_SRModel_fk_I) dX12_parse_25 ?_
        refine lv_aload_n hx hb dX12_parse_28 rfl (lv_at hl 0 rfl) ?_
        refine rG_63 (v := (σ.i 63)) hx hb hts i_X12_parse_X12 hown hK hP (hts (.fieldLink RX12 387 "StatementRules2Model" "top" "I") k_X12_parse_fieldLink_RX12_387_SRModel_top_I) dX12_parse_29 rfl ?_
        obtain ⟨b5, hf⟩ := hf_ite hf
        refine rL_64 (v := (σ.a 64 (((σ.i 63) : Int32).toNatClampNeg))) hx hb hK hP b5 dX12_parse_32 rfl ?_
        by_cases c6 : (σ.a 64 (((σ.i 63) : Int32).toNatClampNeg)) = 1
        ·
          replace hf := (if_pos c6).symm.trans hf
          refine lv_tableIn (off := 75) (tgt := 108) hx hb dX12_parse_33 (by rw [c6]; decide) (by rw [c6]; decide) (by rw [c6]; decide) (by decide) ?_
          refine lv_aload_n hx hb dX12_parse_108 rfl (lv_at hl 0 rfl) ?_
          refine lv_aload_n hx hb dX12_parse_109 rfl (lv_at hl 0 rfl) ?_
          refine rG_63 (v := (σ.i 63)) hx hb hts i_X12_parse_X12 hown hK hP (hts (.fieldLink RX12 387 "StatementRules2Model" "top" "I") k_X12_parse_fieldLink_RX12_387_SRModel_top_I) dX12_parse_110 rfl ?_
          obtain ⟨p7, hcp7, hf⟩ := hf_bind hf
          have hFc := r_free hD hS hA
          refine va_callv (va_runV (As := [.int (σ.i 63)]) (rest := []) ⟨hx, hb, hml, hown, hts⟩ (c_X12_list l dC dI _ Q N σ (σ.i 63) p7 hcp7) (cwV 1 hts hX12_parse_X12_list_v399 rfl rfl rfl (by decide +kernel) ⟨Nat.le_of_ble_eq_true rfl, Nat.le_of_ble_eq_true rfl⟩) ⟨zPre.blind, va_recv hK hP (ci := 11) (q0 := 0) rfl rfl, zPre.go hZ hP hK hD⟩ rfl rfl hl.1 rfl (lv_room (Nat.le_of_ble_eq_true rfl)) dX12_parse_113 ⟨Nat.le_of_ble_eq_true rfl, Nat.le_of_ble_eq_true rfl⟩) hS (fun q _ h => hFc q h) hFc (fun u9 t9 H1 locs ht hvm hw hB hz1 hk1 hS => ?_)
          obtain ⟨hP, hK1, hD1⟩ := hB
          rw [ht] at hP
          have hD := hD1.weaken (fun _ _ _ h => hFc _ h)
          generalize H1 = H at hP hS ⊢
          refine lv_goto (tgt := 10) hx hb dX12_parse_116 (by decide) ?_
          exact ih p7 _ _ _ hf hP hD hS (lv_sub hl [0] rfl)
        replace hf := (if_neg c6).symm.trans hf
        by_cases c9 : (σ.a 64 (((σ.i 63) : Int32).toNatClampNeg)) = 2
        ·
          replace hf := (if_pos c9).symm.trans hf
          refine lv_tableIn (off := 86) (tgt := 119) hx hb dX12_parse_33 (by rw [c9]; decide) (by rw [c9]; decide) (by rw [c9]; decide) (by decide) ?_
          refine lv_aload_n hx hb dX12_parse_119 rfl (lv_at hl 0 rfl) ?_
          refine lv_aload_n hx hb dX12_parse_120 rfl (lv_at hl 0 rfl) ?_
          refine rG_63 (v := (σ.i 63)) hx hb hts i_X12_parse_X12 hown hK hP (hts (.fieldLink RX12 387 "StatementRules2Model" "top" "I") k_X12_parse_fieldLink_RX12_387_SRModel_top_I) dX12_parse_121 rfl ?_
          obtain ⟨p10, hcp10, hf⟩ := hf_bind hf
          have hFc := r_free hD hS hA
          refine va_callv (va_runV (As := [.int (σ.i 63)]) (rest := []) ⟨hx, hb, hml, hown, hts⟩ (c_X12_stat l dC dI _ Q N σ (σ.i 63) p10 hcp10) (cwV 1 hts hX12_parse_X12_stat_v402 rfl rfl rfl (by decide +kernel) ⟨Nat.le_of_ble_eq_true rfl, Nat.le_of_ble_eq_true rfl⟩) ⟨zPre.blind, va_recv hK hP (ci := 11) (q0 := 0) rfl rfl, zPre.go hZ hP hK hD⟩ rfl rfl hl.1 rfl (lv_room (Nat.le_of_ble_eq_true rfl)) dX12_parse_124 ⟨Nat.le_of_ble_eq_true rfl, Nat.le_of_ble_eq_true rfl⟩) hS (fun q _ h => hFc q h) hFc (fun u9 t9 H1 locs ht hvm hw hB hz1 hk1 hS => ?_)
          obtain ⟨hP, hK1, hD1⟩ := hB
          rw [ht] at hP
          have hD := hD1.weaken (fun _ _ _ h => hFc _ h)
          generalize H1 = H at hP hS ⊢
          refine lv_goto (tgt := 10) hx hb dX12_parse_127 (by decide) ?_
          exact ih p10 _ _ _ hf hP hD hS (lv_sub hl [0] rfl)
        replace hf := (if_neg c9).symm.trans hf
        by_cases c12 : (σ.a 64 (((σ.i 63) : Int32).toNatClampNeg)) = 3
        ·
          replace hf := (if_pos c12).symm.trans hf
          refine lv_tableIn (off := 97) (tgt := 130) hx hb dX12_parse_33 (by rw [c12]; decide) (by rw [c12]; decide) (by rw [c12]; decide) (by decide) ?_
          refine lv_aload_n hx hb dX12_parse_130 rfl (lv_at hl 0 rfl) ?_
          refine lv_aload_n hx hb dX12_parse_131 rfl (lv_at hl 0 rfl) ?_
          refine rG_63 (v := (σ.i 63)) hx hb hts i_X12_parse_X12 hown hK hP (hts (.fieldLink RX12 387 "StatementRules2Model" "top" "I") k_X12_parse_fieldLink_RX12_387_SRModel_top_I) dX12_parse_132 rfl ?_
          obtain ⟨p13, hcp13, hf⟩ := hf_bind hf
          have hFc := r_free hD hS hA
          refine va_callv (va_runV (As := [.int (σ.i 63)]) (rest := []) ⟨hx, hb, hml, hown, hts⟩ (c_X12_block l dC dI _ Q N σ (σ.i 63) p13 hcp13) (cwV 1 hts hX12_parse_X12_block_v405 rfl rfl rfl (by decide +kernel) ⟨Nat.le_of_ble_eq_true rfl, Nat.le_of_ble_eq_true rfl⟩) ⟨zPre.blind, va_recv hK hP (ci := 11) (q0 := 0) rfl rfl, zPre.go hZ hP hK hD⟩ rfl rfl hl.1 rfl (lv_room (Nat.le_of_ble_eq_true rfl)) dX12_parse_135 ⟨Nat.le_of_ble_eq_true rfl, Nat.le_of_ble_eq_true rfl⟩) hS (fun q _ h => hFc q h) hFc (fun u9 t9 H1 locs ht hvm hw hB hz1 hk1 hS => ?_)
          obtain ⟨hP, hK1, hD1⟩ := hB
          rw [ht] at hP
          have hD := hD1.weaken (fun _ _ _ h => hFc _ h)
          generalize H1 = H at hP hS ⊢
          refine lv_goto (tgt := 10) hx hb dX12_parse_138 (by decide) ?_
          exact ih p13 _ _ _ hf hP hD hS (lv_sub hl [0] rfl)
        replace hf := (if_neg c12).symm.trans hf
        by_cases c15 : (σ.a 64 (((σ.i 63) : Int32).toNatClampNeg)) = 4
        ·
          replace hf := (if_pos c15).symm.trans hf
          refine lv_tableIn (off := 108) (tgt := 141) hx hb dX12_parse_33 (by rw [c15]; decide) (by rw [c15]; decide) (by rw [c15]; decide) (by decide) ?_
          refine lv_aload_n hx hb dX12_parse_141 rfl (lv_at hl 0 rfl) ?_
          refine lv_aload_n hx hb dX12_parse_142 rfl (lv_at hl 0 rfl) ?_
          refine rG_63 (v := (σ.i 63)) hx hb hts i_X12_parse_X12 hown hK hP (hts (.fieldLink RX12 387 "StatementRules2Model" "top" "I") k_X12_parse_fieldLink_RX12_387_SRModel_top_I) dX12_parse_143 rfl ?_
          obtain ⟨p16, hcp16, hf⟩ := hf_bind hf
          have hFc := r_free hD hS hA
          refine va_callv (va_runV (As := [.int (σ.i 63)]) (rest := []) ⟨hx, hb, hml, hown, hts⟩ (c_X12_tell l dC dI _ Q N σ (σ.i 63) p16 hcp16) (cwV 1 hts hX12_parse_X12_tell_v408 rfl rfl rfl (by decide +kernel) ⟨Nat.le_of_ble_eq_true rfl, Nat.le_of_ble_eq_true rfl⟩) ⟨zPre.blind, va_recv hK hP (ci := 11) (q0 := 0) rfl rfl, zPre.go hZ hP hK hD⟩ rfl rfl hl.1 rfl (lv_room (Nat.le_of_ble_eq_true rfl)) dX12_parse_146 ⟨Nat.le_of_ble_eq_true rfl, Nat.le_of_ble_eq_true rfl⟩) hS (fun q _ h => hFc q h) hFc (fun u9 t9 H1 locs ht hvm hw hB hz1 hk1 hS => ?_)
          obtain ⟨hP, hK1, hD1⟩ := hB
          rw [ht] at hP
          have hD := hD1.weaken (fun _ _ _ h => hFc _ h)
          generalize H1 = H at hP hS ⊢
          refine lv_goto (tgt := 10) hx hb dX12_parse_149 (by decide) ?_
          exact ih p16 _ _ _ hf hP hD hS (lv_sub hl [0] rfl)
        replace hf := (if_neg c15).symm.trans hf
        by_cases c18 : (σ.a 64 (((σ.i 63) : Int32).toNatClampNeg)) = 5
        ·
          replace hf := (if_pos c18).symm.trans hf
          refine lv_tableIn (off := 119) (tgt := 152) hx hb dX12_parse_33 (by rw [c18]; decide) (by rw [c18]; decide) (by rw [c18]; decide) (by decide) ?_
          refine lv_aload_n hx hb dX12_parse_152 rfl (lv_at hl 0 rfl) ?_
          refine lv_aload_n hx hb dX12_parse_153 rfl (lv_at hl 0 rfl) ?_
          refine rG_63 (v := (σ.i 63)) hx hb hts i_X12_parse_X12 hown hK hP (hts (.fieldLink RX12 387 "StatementRules2Model" "top" "I") k_X12_parse_fieldLink_RX12_387_SRModel_top_I) dX12_parse_154 rfl ?_
          obtain ⟨p19, hcp19, hf⟩ := hf_bind hf
          have hFc := r_free hD hS hA
          refine va_callv (va_runV (As := [.int (σ.i 63)]) (rest := []) ⟨hx, hb, hml, hown, hts⟩ (c_X12_named l dC dI _ Q N σ (σ.i 63) p19 hcp19) (cwV 1 hts hX12_parse_X12_named_v411 rfl rfl rfl (by decide +kernel) ⟨Nat.le_of_ble_eq_true rfl, Nat.le_of_ble_eq_true rfl⟩) ⟨zPre.blind, va_recv hK hP (ci := 11) (q0 := 0) rfl rfl, zPre.go hZ hP hK hD⟩ rfl rfl hl.1 rfl (lv_room (Nat.le_of_ble_eq_true rfl)) dX12_parse_157 ⟨Nat.le_of_ble_eq_true rfl, Nat.le_of_ble_eq_true rfl⟩) hS (fun q _ h => hFc q h) hFc (fun u9 t9 H1 locs ht hvm hw hB hz1 hk1 hS => ?_)
          obtain ⟨hP, hK1, hD1⟩ := hB
          rw [ht] at hP
          have hD := hD1.weaken (fun _ _ _ h => hFc _ h)
          generalize H1 = H at hP hS ⊢
          refine lv_goto (tgt := 10) hx hb dX12_parse_160 (by decide) ?_
          exact ih p19 _ _ _ hf hP hD hS (lv_sub hl [0] rfl)
        replace hf := (if_neg c18).symm.trans hf
        by_cases c21 : (σ.a 64 (((σ.i 63) : Int32).toNatClampNeg)) = 6
        ·
          replace hf := (if_pos c21).symm.trans hf
          refine lv_tableIn (off := 130) (tgt := 163) hx hb dX12_parse_33 (by rw [c21]; decide) (by rw [c21]; decide) (by rw [c21]; decide) (by decide) ?_
          refine lv_aload_n hx hb dX12_parse_163 rfl (lv_at hl 0 rfl) ?_
          refine lv_aload_n hx hb dX12_parse_164 rfl (lv_at hl 0 rfl) ?_
          refine rG_63 (v := (σ.i 63)) hx hb hts i_X12_parse_X12 hown hK hP (hts (.fieldLink RX12 387 "StatementRules2Model" "top" "I") k_X12_parse_fieldLink_RX12_387_SRModel_top_I) dX12_parse_165 rfl ?_
          obtain ⟨p22, hcp22, hf⟩ := hf_bind hf
          have hFc := r_free hD hS hA
          refine va_callv (va_runV (As := [.int (σ.i 63)]) (rest := []) ⟨hx, hb, hml, hown, hts⟩ (c_X12_ending l dC dI _ Q N σ (σ.i 63) p22 hcp22) (cwV 1 hts hX12_parse_X12_ending_v414 rfl rfl rfl (by decide +kernel) ⟨Nat.le_of_ble_eq_true rfl, Nat.le_of_ble_eq_true rfl⟩) ⟨zPre.blind, va_recv hK hP (ci := 11) (q0 := 0) rfl rfl, zPre.go hZ hP hK hD⟩ rfl rfl hl.1 rfl (lv_room (Nat.le_of_ble_eq_true rfl)) dX12_parse_168 ⟨Nat.le_of_ble_eq_true rfl, Nat.le_of_ble_eq_true rfl⟩) hS (fun q _ h => hFc q h) hFc (fun u9 t9 H1 locs ht hvm hw hB hz1 hk1 hS => ?_)
          obtain ⟨hP, hK1, hD1⟩ := hB
          rw [ht] at hP
          have hD := hD1.weaken (fun _ _ _ h => hFc _ h)
          generalize H1 = H at hP hS ⊢
          refine lv_goto (tgt := 10) hx hb dX12_parse_171 (by decide) ?_
          exact ih p22 _ _ _ hf hP hD hS (lv_sub hl [0] rfl)
        replace hf := (if_neg c21).symm.trans hf
        by_cases c24 : (σ.a 64 (((σ.i 63) : Int32).toNatClampNeg)) = 7
        ·
          replace hf := (if_pos c24).symm.trans hf
          refine lv_tableIn (off := 141) (tgt := 174) hx hb dX12_parse_33 (by rw [c24]; decide) (by rw [c24]; decide) (by rw [c24]; decide) (by decide) ?_
          refine lv_aload_n hx hb dX12_parse_174 rfl (lv_at hl 0 rfl) ?_
          refine lv_aload_n hx hb dX12_parse_175 rfl (lv_at hl 0 rfl) ?_
          refine rG_63 (v := (σ.i 63)) hx hb hts i_X12_parse_X12 hown hK hP (hts (.fieldLink RX12 387 "StatementRules2Model" "top" "I") k_X12_parse_fieldLink_RX12_387_SRModel_top_I) dX12_parse_176 rfl ?_
          obtain ⟨p25, hcp25, hf⟩ := hf_bind hf
          have hFc := r_free hD hS hA
          refine va_callv (va_runV (As := [.int (σ.i 63)]) (rest := []) ⟨hx, hb, hml, hown, hts⟩ (c_X12_throwing l dC dI _ Q N σ (σ.i 63) p25 hcp25) (cwV 1 hts hX12_parse_X12_throwing_v417 rfl rfl rfl (by decide +kernel) ⟨Nat.le_of_ble_eq_true rfl, Nat.le_of_ble_eq_true rfl⟩) ⟨zPre.blind, va_recv hK hP (ci := 11) (q0 := 0) rfl rfl, zPre.go hZ hP hK hD⟩ rfl rfl hl.1 rfl (lv_room (Nat.le_of_ble_eq_true rfl)) dX12_parse_179 ⟨Nat.le_of_ble_eq_true rfl, Nat.le_of_ble_eq_true rfl⟩) hS (fun q _ h => hFc q h) hFc (fun u9 t9 H1 locs ht hvm hw hB hz1 hk1 hS => ?_)
          obtain ⟨hP, hK1, hD1⟩ := hB
          rw [ht] at hP
          have hD := hD1.weaken (fun _ _ _ h => hFc _ h)
          generalize H1 = H at hP hS ⊢
          refine lv_goto (tgt := 10) hx hb dX12_parse_182 (by decide) ?_
          exact ih p25 _ _ _ hf hP hD hS (lv_sub hl [0] rfl)
        replace hf := (if_neg c24).symm.trans hf
        by_cases c27 : (σ.a 64 (((σ.i 63) : Int32).toNatClampNeg)) = 8
        ·
          replace hf := (if_pos c27).symm.trans hf
          refine lv_tableIn (off := 152) (tgt := 185) hx hb dX12_parse_33 (by rw [c27]; decide) (by rw [c27]; decide) (by rw [c27]; decide) (by decide) ?_
          refine lv_aload_n hx hb dX12_parse_185 rfl (lv_at hl 0 rfl) ?_
          refine lv_aload_n hx hb dX12_parse_186 rfl (lv_at hl 0 rfl) ?_
          refine rG_63 (v := (σ.i 63)) hx hb hts i_X12_parse_X12 hown hK hP (hts (.fieldLink RX12 387 "StatementRules2Model" "top" "I") k_X12_parse_fieldLink_RX12_387_SRModel_top_I) dX12_parse_187 rfl ?_
          obtain ⟨p28, hcp28, hf⟩ := hf_bind hf
          have hFc := r_free hD hS hA
          refine va_callv (va_runV (As := [.int (σ.i 63)]) (rest := []) ⟨hx, hb, hml, hown, hts⟩ (c_X12_asserted l dC dI _ Q N σ (σ.i 63) p28 hcp28) (cwV 1 hts hX12_parse_X12_asserted_v420 rfl rfl rfl (by decide +kernel) ⟨Nat.le_of_ble_eq_true rfl, Nat.le_of_ble_eq_true rfl⟩) ⟨zPre.blind, va_recv hK hP (ci := 11) (q0 := 0) rfl rfl, zPre.go hZ hP hK hD⟩ rfl rfl hl.1 rfl (lv_room (Nat.le_of_ble_eq_true rfl)) dX12_parse_190 ⟨Nat.le_of_ble_eq_true rfl, Nat.le_of_ble_eq_true rfl⟩) hS (fun q _ h => hFc q h) hFc (fun u9 t9 H1 locs ht hvm hw hB hz1 hk1 hS => ?_)
          obtain ⟨hP, hK1, hD1⟩ := hB
          rw [ht] at hP
          have hD := hD1.weaken (fun _ _ _ h => hFc _ h)
          generalize H1 = H at hP hS ⊢
          refine lv_goto (tgt := 10) hx hb dX12_parse_193 (by decide) ?_
          exact ih p28 _ _ _ hf hP hD hS (lv_sub hl [0] rfl)
        replace hf := (if_neg c27).symm.trans hf
        by_cases c30 : (σ.a 64 (((σ.i 63) : Int32).toNatClampNeg)) = 9
        ·
          replace hf := (if_pos c30).symm.trans hf
          refine lv_tableIn (off := 163) (tgt := 196) hx hb dX12_parse_33 (by rw [c30]; decide) (by rw [c30]; decide) (by rw [c30]; decide) (by decide) ?_
          refine lv_aload_n hx hb dX12_parse_196 rfl (lv_at hl 0 rfl) ?_
          refine lv_aload_n hx hb dX12_parse_197 rfl (lv_at hl 0 rfl) ?_
          refine rG_63 (v := (σ.i 63)) hx hb hts i_X12_parse_X12 hown hK hP (hts (.fieldLink RX12 387 "StatementRules2Model" "top" "I") k_X12_parse_fieldLink_RX12_387_SRModel_top_I) dX12_parse_198 rfl ?_
          obtain ⟨p31, hcp31, hf⟩ := hf_bind hf
          have hFc := r_free hD hS hA
          refine va_callv (va_runV (As := [.int (σ.i 63)]) (rest := []) ⟨hx, hb, hml, hown, hts⟩ (c_X12_branch l dC dI _ Q N σ (σ.i 63) p31 hcp31) (cwV 1 hts hX12_parse_X12_branch_v423 rfl rfl rfl (by decide +kernel) ⟨Nat.le_of_ble_eq_true rfl, Nat.le_of_ble_eq_true rfl⟩) ⟨zPre.blind, va_recv hK hP (ci := 11) (q0 := 0) rfl rfl, zPre.go hZ hP hK hD⟩ rfl rfl hl.1 rfl (lv_room (Nat.le_of_ble_eq_true rfl)) dX12_parse_201 ⟨Nat.le_of_ble_eq_true rfl, Nat.le_of_ble_eq_true rfl⟩) hS (fun q _ h => hFc q h) hFc (fun u9 t9 H1 locs ht hvm hw hB hz1 hk1 hS => ?_)
          obtain ⟨hP, hK1, hD1⟩ := hB
          rw [ht] at hP
          have hD := hD1.weaken (fun _ _ _ h => hFc _ h)
          generalize H1 = H at hP hS ⊢
          refine lv_goto (tgt := 10) hx hb dX12_parse_204 (by decide) ?_
          exact ih p31 _ _ _ hf hP hD hS (lv_sub hl [0] rfl)
        replace hf := (if_neg c30).symm.trans hf
        by_cases c33 : (σ.a 64 (((σ.i 63) : Int32).toNatClampNeg)) = 10
        ·
          replace hf := (if_pos c33).symm.trans hf
          refine lv_tableIn (off := 174) (tgt := 207) hx hb dX12_parse_33 (by rw [c33]; decide) (by rw [c33]; decide) (by rw [c33]; decide) (by decide) ?_
          refine lv_aload_n hx hb dX12_parse_207 rfl (lv_at hl 0 rfl) ?_
          refine lv_aload_n hx hb dX12_parse_208 rfl (lv_at hl 0 rfl) ?_
          refine rG_63 (v := (σ.i 63)) hx hb hts i_X12_parse_X12 hown hK hP (hts (.fieldLink RX12 387 "StatementRules2Model" "top" "I") k_X12_parse_fieldLink_RX12_387_SRModel_top_I) dX12_parse_209 rfl ?_
          obtain ⟨p34, hcp34, hf⟩ := hf_bind hf
          have hFc := r_free hD hS hA
          refine va_callv (va_runV (As := [.int (σ.i 63)]) (rest := []) ⟨hx, hb, hml, hown, hts⟩ (c_X12_whiles l dC dI _ Q N σ (σ.i 63) p34 hcp34) (cwV 1 hts hX12_parse_X12_whiles_v426 rfl rfl rfl (by decide +kernel) ⟨Nat.le_of_ble_eq_true rfl, Nat.le_of_ble_eq_true rfl⟩) ⟨zPre.blind, va_recv hK hP (ci := 11) (q0 := 0) rfl rfl, zPre.go hZ hP hK hD⟩ rfl rfl hl.1 rfl (lv_room (Nat.le_of_ble_eq_true rfl)) dX12_parse_212 ⟨Nat.le_of_ble_eq_true rfl, Nat.le_of_ble_eq_true rfl⟩) hS (fun q _ h => hFc q h) hFc (fun u9 t9 H1 locs ht hvm hw hB hz1 hk1 hS => ?_)
          obtain ⟨hP, hK1, hD1⟩ := hB
          rw [ht] at hP
          have hD := hD1.weaken (fun _ _ _ h => hFc _ h)
          generalize H1 = H at hP hS ⊢
          refine lv_goto (tgt := 10) hx hb dX12_parse_215 (by decide) ?_
          exact ih p34 _ _ _ hf hP hD hS (lv_sub hl [0] rfl)
        replace hf := (if_neg c33).symm.trans hf
        by_cases c36 : (σ.a 64 (((σ.i 63) : Int32).toNatClampNeg)) = 11
        ·
          replace hf := (if_pos c36).symm.trans hf
          refine lv_tableIn (off := 185) (tgt := 218) hx hb dX12_parse_33 (by rw [c36]; decide) (by rw [c36]; decide) (by rw [c36]; decide) (by decide) ?_
          refine lv_aload_n hx hb dX12_parse_218 rfl (lv_at hl 0 rfl) ?_
          refine lv_aload_n hx hb dX12_parse_219 rfl (lv_at hl 0 rfl) ?_
          refine rG_63 (v := (σ.i 63)) hx hb hts i_X12_parse_X12 hown hK hP (hts (.fieldLink RX12 387 "StatementRules2Model" "top" "I") k_X12_parse_fieldLink_RX12_387_SRModel_top_I) dX12_parse_220 rfl ?_
          obtain ⟨p37, hcp37, hf⟩ := hf_bind hf
          have hFc := r_free hD hS hA
          refine va_callv (va_runV (As := [.int (σ.i 63)]) (rest := []) ⟨hx, hb, hml, hown, hts⟩ (c_X12_repeats l dC dI _ Q N σ (σ.i 63) p37 hcp37) (cwV 1 hts hX12_parse_X12_repeats_v429 rfl rfl rfl (by decide +kernel) ⟨Nat.le_of_ble_eq_true rfl, Nat.le_of_ble_eq_true rfl⟩) ⟨zPre.blind, va_recv hK hP (ci := 11) (q0 := 0) rfl rfl, zPre.go hZ hP hK hD⟩ rfl rfl hl.1 rfl (lv_room (Nat.le_of_ble_eq_true rfl)) dX12_parse_223 ⟨Nat.le_of_ble_eq_true rfl, Nat.le_of_ble_eq_true rfl⟩) hS (fun q _ h => hFc q h) hFc (fun u9 t9 H1 locs ht hvm hw hB hz1 hk1 hS => ?_)
          obtain ⟨hP, hK1, hD1⟩ := hB
          rw [ht] at hP
          have hD := hD1.weaken (fun _ _ _ h => hFc _ h)
          generalize H1 = H at hP hS ⊢
          refine lv_goto (tgt := 10) hx hb dX12_parse_226 (by decide) ?_
          exact ih p37 _ _ _ hf hP hD hS (lv_sub hl [0] rfl)
        replace hf := (if_neg c36).symm.trans hf
        by_cases c39 : (σ.a 64 (((σ.i 63) : Int32).toNatClampNeg)) = 12
        ·
          replace hf := (if_pos c39).symm.trans hf
          refine lv_tableIn (off := 196) (tgt := 229) hx hb dX12_parse_33 (by rw [c39]; decide) (by rw [c39]; decide) (by rw [c39]; decide) (by decide) ?_
          refine lv_aload_n hx hb dX12_parse_229 rfl (lv_at hl 0 rfl) ?_
          refine lv_aload_n hx hb dX12_parse_230 rfl (lv_at hl 0 rfl) ?_
          refine rG_63 (v := (σ.i 63)) hx hb hts i_X12_parse_X12 hown hK hP (hts (.fieldLink RX12 387 "StatementRules2Model" "top" "I") k_X12_parse_fieldLink_RX12_387_SRModel_top_I) dX12_parse_231 rfl ?_
          obtain ⟨p40, hcp40, hf⟩ := hf_bind hf
          have hFc := r_free hD hS hA
          refine va_callv (va_runV (As := [.int (σ.i 63)]) (rest := []) ⟨hx, hb, hml, hown, hts⟩ (c_X12_fors l dC dI _ Q N σ (σ.i 63) p40 hcp40) (cwV 1 hts hX12_parse_X12_fors_v432 rfl rfl rfl (by decide +kernel) ⟨Nat.le_of_ble_eq_true rfl, Nat.le_of_ble_eq_true rfl⟩) ⟨zPre.blind, va_recv hK hP (ci := 11) (q0 := 0) rfl rfl, zPre.go hZ hP hK hD⟩ rfl rfl hl.1 rfl (lv_room (Nat.le_of_ble_eq_true rfl)) dX12_parse_234 ⟨Nat.le_of_ble_eq_true rfl, Nat.le_of_ble_eq_true rfl⟩) hS (fun q _ h => hFc q h) hFc (fun u9 t9 H1 locs ht hvm hw hB hz1 hk1 hS => ?_)
          obtain ⟨hP, hK1, hD1⟩ := hB
          rw [ht] at hP
          have hD := hD1.weaken (fun _ _ _ h => hFc _ h)
          generalize H1 = H at hP hS ⊢
          refine lv_goto (tgt := 10) hx hb dX12_parse_237 (by decide) ?_
          exact ih p40 _ _ _ hf hP hD hS (lv_sub hl [0] rfl)
        replace hf := (if_neg c39).symm.trans hf
        by_cases c42 : (σ.a 64 (((σ.i 63) : Int32).toNatClampNeg)) = 13
        ·
          replace hf := (if_pos c42).symm.trans hf
          refine lv_tableIn (off := 207) (tgt := 240) hx hb dX12_parse_33 (by rw [c42]; decide) (by rw [c42]; decide) (by rw [c42]; decide) (by decide) ?_
          refine lv_aload_n hx hb dX12_parse_240 rfl (lv_at hl 0 rfl) ?_
          refine lv_aload_n hx hb dX12_parse_241 rfl (lv_at hl 0 rfl) ?_
          refine rG_63 (v := (σ.i 63)) hx hb hts i_X12_parse_X12 hown hK hP (hts (.fieldLink RX12 387 "StatementRules2Model" "top" "I") k_X12_parse_fieldLink_RX12_387_SRModel_top_I) dX12_parse_242 rfl ?_
          obtain ⟨p43, hcp43, hf⟩ := hf_bind hf
          have hFc := r_free hD hS hA
          refine va_callv (va_runV (As := [.int (σ.i 63)]) (rest := []) ⟨hx, hb, hml, hown, hts⟩ (c_X12_lock l dC dI _ Q N σ (σ.i 63) p43 hcp43) (cwV 1 hts hX12_parse_X12_lock_v435 rfl rfl rfl (by decide +kernel) ⟨Nat.le_of_ble_eq_true rfl, Nat.le_of_ble_eq_true rfl⟩) ⟨zPre.blind, va_recv hK hP (ci := 11) (q0 := 0) rfl rfl, zPre.go hZ hP hK hD⟩ rfl rfl hl.1 rfl (lv_room (Nat.le_of_ble_eq_true rfl)) dX12_parse_245 ⟨Nat.le_of_ble_eq_true rfl, Nat.le_of_ble_eq_true rfl⟩) hS (fun q _ h => hFc q h) hFc (fun u9 t9 H1 locs ht hvm hw hB hz1 hk1 hS => ?_)
          obtain ⟨hP, hK1, hD1⟩ := hB
          rw [ht] at hP
          have hD := hD1.weaken (fun _ _ _ h => hFc _ h)
          generalize H1 = H at hP hS ⊢
          refine lv_goto (tgt := 10) hx hb dX12_parse_248 (by decide) ?_
          exact ih p43 _ _ _ hf hP hD hS (lv_sub hl [0] rfl)
        replace hf := (if_neg c42).symm.trans hf
        by_cases c45 : (σ.a 64 (((σ.i 63) : Int32).toNatClampNeg)) = 14
        ·
          replace hf := (if_pos c45).symm.trans hf
          refine lv_tableIn (off := 218) (tgt := 251) hx hb dX12_parse_33 (by rw [c45]; decide) (by rw [c45]; decide) (by rw [c45]; decide) (by decide) ?_
          refine lv_aload_n hx hb dX12_parse_251 rfl (lv_at hl 0 rfl) ?_
          refine lv_aload_n hx hb dX12_parse_252 rfl (lv_at hl 0 rfl) ?_
          refine rG_63 (v := (σ.i 63)) hx hb hts i_X12_parse_X12 hown hK hP (hts (.fieldLink RX12 387 "StatementRules2Model" "top" "I") k_X12_parse_fieldLink_RX12_387_SRModel_top_I) dX12_parse_253 rfl ?_
          obtain ⟨p46, hcp46, hf⟩ := hf_bind hf
          have hFc := r_free hD hS hA
          refine va_callv (va_runV (As := [.int (σ.i 63)]) (rest := []) ⟨hx, hb, hml, hown, hts⟩ (c_X12_groups l dC dI _ Q N σ (σ.i 63) p46 hcp46) (cwV 1 hts hX12_parse_X12_groups_v438 rfl rfl rfl (by decide +kernel) ⟨Nat.le_of_ble_eq_true rfl, Nat.le_of_ble_eq_true rfl⟩) ⟨zPre.blind, va_recv hK hP (ci := 11) (q0 := 0) rfl rfl, zPre.go hZ hP hK hD⟩ rfl rfl hl.1 rfl (lv_room (Nat.le_of_ble_eq_true rfl)) dX12_parse_256 ⟨Nat.le_of_ble_eq_true rfl, Nat.le_of_ble_eq_true rfl⟩) hS (fun q _ h => hFc q h) hFc (fun u9 t9 H1 locs ht hvm hw hB hz1 hk1 hS => ?_)
          obtain ⟨hP, hK1, hD1⟩ := hB
          rw [ht] at hP
          have hD := hD1.weaken (fun _ _ _ h => hFc _ h)
          generalize H1 = H at hP hS ⊢
          refine lv_goto (tgt := 10) hx hb dX12_parse_259 (by decide) ?_
          exact ih p46 _ _ _ hf hP hD hS (lv_sub hl [0] rfl)
        replace hf := (if_neg c45).symm.trans hf
        by_cases c48 : (σ.a 64 (((σ.i 63) : Int32).toNatClampNeg)) = 15
        ·
          replace hf := (if_pos c48).symm.trans hf
          refine lv_tableIn (off := 229) (tgt := 262) hx hb dX12_parse_33 (by rw [c48]; decide) (by rw [c48]; decide) (by rw [c48]; decide) (by decide) ?_
          refine lv_aload_n hx hb dX12_parse_262 rfl (lv_at hl 0 rfl) ?_
          refine lv_aload_n hx hb dX12_parse_263 rfl (lv_at hl 0 rfl) ?_
          refine rG_63 (v := (σ.i 63)) hx hb hts i_X12_parse_X12 hown hK hP (hts (.fieldLink RX12 387 "StatementRules2Model" "top" "I") k_X12_parse_fieldLink_RX12_387_SRModel_top_I) dX12_parse_264 rfl ?_
          obtain ⟨p49, hcp49, hf⟩ := hf_bind hf
          have hFc := r_free hD hS hA
          refine va_callv (va_runV (As := [.int (σ.i 63)]) (rest := []) ⟨hx, hb, hml, hown, hts⟩ (c_X12_trying l dC dI _ Q N σ (σ.i 63) p49 hcp49) (cwV 1 hts hX12_parse_X12_trying_v441 rfl rfl rfl (by decide +kernel) ⟨Nat.le_of_ble_eq_true rfl, Nat.le_of_ble_eq_true rfl⟩) ⟨zPre.blind, va_recv hK hP (ci := 11) (q0 := 0) rfl rfl, zPre.go hZ hP hK hD⟩ rfl rfl hl.1 rfl (lv_room (Nat.le_of_ble_eq_true rfl)) dX12_parse_267 ⟨Nat.le_of_ble_eq_true rfl, Nat.le_of_ble_eq_true rfl⟩) hS (fun q _ h => hFc q h) hFc (fun u9 t9 H1 locs ht hvm hw hB hz1 hk1 hS => ?_)
          obtain ⟨hP, hK1, hD1⟩ := hB
          rw [ht] at hP
          have hD := hD1.weaken (fun _ _ _ h => hFc _ h)
          generalize H1 = H at hP hS ⊢
          refine lv_goto (tgt := 10) hx hb dX12_parse_270 (by decide) ?_
          exact ih p49 _ _ _ hf hP hD hS (lv_sub hl [0] rfl)
        replace hf := (if_neg c48).symm.trans hf
        refine lv_tableOut (tgt := 273) hx hb dX12_parse_33 (by have := z_ton (a := 1) c6 (by decide); have := z_ton (a := 2) c9 (by decide); have := z_ton (a := 3) c12 (by decide); have := z_ton (a := 4) c15 (by decide); have := z_ton (a := 5) c18 (by decide); have := z_ton (a := 6) c21 (by decide); have := z_ton (a := 7) c24 (by decide); have := z_ton (a := 8) c27 (by decide); have := z_ton (a := 9) c30 (by decide); have := z_ton (a := 10) c33 (by decide); have := z_ton (a := 11) c36 (by decide); have := z_ton (a := 12) c39 (by decide); have := z_ton (a := 13) c42 (by decide); have := z_ton (a := 14) c45 (by decide); have := z_ton (a := 15) c48 (by decide); omega) (by decide) ?_
        refine lv_aload_n hx hb dX12_parse_273 rfl (lv_at hl 0 rfl) ?_
        refine lv_aload_n hx hb dX12_parse_274 rfl (lv_at hl 0 rfl) ?_
        refine rG_63 (v := (σ.i 63)) hx hb hts i_X12_parse_X12 hown hK hP (hts (.fieldLink RX12 387 "StatementRules2Model" "top" "I") k_X12_parse_fieldLink_RX12_387_SRModel_top_I) dX12_parse_275 rfl ?_
        obtain ⟨p51, hcp51, hf⟩ := hf_bind hf
        have hFc := r_free hD hS hA
        refine va_callv (va_runV (As := [.int (σ.i 63)]) (rest := []) ⟨hx, hb, hml, hown, hts⟩ (c_X12_thing l dC dI _ Q N σ (σ.i 63) p51 hcp51) (cwV 1 hts hX12_parse_X12_thing_v444 rfl rfl rfl (by decide +kernel) ⟨Nat.le_of_ble_eq_true rfl, Nat.le_of_ble_eq_true rfl⟩) ⟨zPre.blind, va_recv hK hP (ci := 11) (q0 := 0) rfl rfl, zPre.go hZ hP hK hD⟩ rfl rfl hl.1 rfl (lv_room (Nat.le_of_ble_eq_true rfl)) dX12_parse_278 ⟨Nat.le_of_ble_eq_true rfl, Nat.le_of_ble_eq_true rfl⟩) hS (fun q _ h => hFc q h) hFc (fun u9 t9 H1 locs ht hvm hw hB hz1 hk1 hS => ?_)
        obtain ⟨hP, hK1, hD1⟩ := hB
        rw [ht] at hP
        have hD := hD1.weaken (fun _ _ _ h => hFc _ h)
        generalize H1 = H at hP hS ⊢
        refine lv_goto (tgt := 10) hx hb dX12_parse_281 (by decide) ?_
        exact ih p51 _ _ _ hf hP hD hS (lv_sub hl [0] rfl)
set_option maxHeartbeats 4000000 in
set_option maxRecDepth 100000 in
theorem c_X12_parse (l : Launch) (dC : Nat → ClassId) (dI : Nat → Nat → Nat) (sz : Nat) (Q : RQ) (N : Nat) (σ : RS) (R : RS) (hf : f_X12_parse N σ = some R) : Met l yX12_parse wzX12_parse ({ frames := 8, cells := 0, slots := 0, locals := 480 }) (va_Pc [.ref Q.h0] (zPre dC dI sz (rW Q σ) (rT Q))) (va_Qv (fun (_ : Unit) => True) (fun (_ : Unit) (t : State) => zPost dC dI (va_A (rW Q σ) sz) (rW Q R) (rT Q) t) (va_A (rW Q σ) sz)) 0 0 (va_A (rW Q σ) sz) := by
  refine Met.ofW (cc := cX12_parse) (maxL := 1) (ret := none) (by decide) rfl ?_
  intro p e s m args below meth c s₁ B hml hv
  obtain ⟨rfl, hsz, hZ, hP, hK, hD0⟩ := hv
  have hx := B.exec
  have hb := B.bytes
  have hr := B.returns
  have hts := atoms_spec (ws := wzX12_parse) B.pre
  have hown : s.vm.findClass RX12 = some m.cls := findClass_of_methodNamed B.named
  have hlocks := B.notSynchronized
  subst hsz
  have hD := hD0.self (sz := s.heap.size)
  generalize hAe : va_A (rW Q σ) s.heap.size = A at hD ⊢
  have hA : ∀ q : Nat, s.heap.size ≤ q → A q := fun q h => by rw [← hAe]; exact Or.inr h
  have hS : va_S A s.heap s.heap [] := va_S.rf
  have hl := lv_entry ([.ref Q.h0]) (n := 1) (Nat.le_of_ble_eq_true rfl)
  rw [lg_entry_eq]
  generalize (lg_sl ([.ref Q.h0]) ++ List.replicate (1 - (lg_sl ([.ref Q.h0])).length) Slot.unset).toArray = ls at hl ⊢
  have hl : lv_has ls 1 [(0, .ref Q.h0)] := hl
  unfold f_X12_parse at hf
  refine lv_aload_n hx hb dX12_parse_0 rfl (lv_at hl 0 rfl) ?_
  refine lv_iconst (v := (-1)) hx hb dX12_parse_1 (by decide) ?_
  refine rP_63 hx hb hts i_X12_parse_X12 hown hK hP hD hS (hts (.fieldLink RX12 387 "StatementRules2Model" "top" "I") k_X12_parse_fieldLink_RX12_387_SRModel_top_I) dX12_parse_2 (fun H locs hP hD hS => ?_)
  refine lv_aload_n hx hb dX12_parse_5 rfl (lv_at hl 0 rfl) ?_
  refine lv_iconst (v := 1) hx hb dX12_parse_6 (by decide) ?_
  obtain ⟨p1, hcp1, hf⟩ := hf_bind hf
  have hFc := r_free hD hS hA
  refine va_callv (va_runV (As := [.int 1]) (rest := []) ⟨hx, hb, hml, hown, hts⟩ (c_X12_push l dC dI _ Q N (RS.setI σ 63 (-1)) 1 p1 hcp1) (cwV 1 hts hX12_parse_X12_push_v390 rfl rfl rfl (by decide +kernel) ⟨Nat.le_of_ble_eq_true rfl, Nat.le_of_ble_eq_true rfl⟩) ⟨zPre.blind, va_recv hK hP (ci := 11) (q0 := 0) rfl rfl, zPre.go hZ hP hK hD⟩ rfl rfl hl.1 rfl (lv_room (Nat.le_of_ble_eq_true rfl)) dX12_parse_7 ⟨Nat.le_of_ble_eq_true rfl, Nat.le_of_ble_eq_true rfl⟩) hS (fun q _ h => hFc q h) hFc (fun u9 t9 H1 locs ht hvm hw hB hz1 hk1 hS => ?_)
  obtain ⟨hP, hK1, hD1⟩ := hB
  rw [ht] at hP
  have hD := hD1.weaken (fun _ _ _ h => hFc _ h)
  generalize H1 = H at hP hS ⊢
  exact j_X12_parse_10 l dC dI Q N R hx hb hr hml hown hts hlocks hZ hA hK N p1 _ _ _ hf hP hD hS (lv_sub hl [0] rfl)
