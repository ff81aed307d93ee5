theorem k_X12_finals_fieldLink_RX12_108_SRModel_tryFinal_I : Cond.fieldLink RX12 108 "StatementRules2Model" "tryFinal" "[I" ∈ wzX12_finals := List.mem_cons_of_mem _ (List.mem_append_left _ (List.mem_of_getElem? (i := 0) rfl))
theorem i_X12_finals_X12 : ∀ w ∈ wsX120, w ∈ wzX12_finals := fun _ h => List.mem_cons_of_mem _ (List.mem_append_right _ (List.mem_append_left _ (h)))
theorem k_X12_finals_fieldLink_RX12_246_SRModel_ra_I : Cond.fieldLink RX12 246 "StatementRules2Model" "ra" "[I" ∈ wzX12_finals := List.mem_cons_of_mem _ (List.mem_append_left _ (List.mem_of_getElem? (i := 1) rfl))
theorem k_X12_finals_fieldLink_RX12_258_SRModel_rHow_I : Cond.fieldLink RX12 258 "StatementRules2Model" "rHow" "[I" ∈ wzX12_finals := List.mem_cons_of_mem _ (List.mem_append_left _ (List.mem_of_getElem? (i := 2) rfl))
theorem k_X12_finals_fieldLink_RX12_597_SRModel_how_I : Cond.fieldLink RX12 597 "StatementRules2Model" "how" "I" ∈ wzX12_finals := List.mem_cons_of_mem _ (List.mem_append_left _ (List.mem_of_getElem? (i := 3) rfl))
theorem k_X12_finals_fieldLink_RX12_261_SRModel_rTo_I : Cond.fieldLink RX12 261 "StatementRules2Model" "rTo" "[I" ∈ wzX12_finals := List.mem_cons_of_mem _ (List.mem_append_left _ (List.mem_of_getElem? (i := 4) rfl))
theorem k_X12_finals_fieldLink_RX12_609_SRModel_goTo_I : Cond.fieldLink RX12 609 "StatementRules2Model" "goTo" "I" ∈ wzX12_finals := List.mem_cons_of_mem _ (List.mem_append_left _ (List.mem_of_getElem? (i := 5) rfl))
theorem k_X12_finals_fieldLink_RX12_264_SRModel_rDepth_I : Cond.fieldLink RX12 264 "StatementRules2Model" "rDepth" "[I" ∈ wzX12_finals := List.mem_cons_of_mem _ (List.mem_append_left _ (List.mem_of_getElem? (i := 6) rfl))
theorem k_X12_finals_fieldLink_RX12_612_SRModel_goDepth_I : Cond.fieldLink RX12 612 "StatementRules2Model" "goDepth" "I" ∈ wzX12_finals := List.mem_cons_of_mem _ (List.mem_append_left _ (List.mem_of_getElem? (i := 7) rfl))
theorem k_X12_finals_fieldLink_RX12_267_SRModel_rValue_I : Cond.fieldLink RX12 267 "StatementRules2Model" "rValue" "[I" ∈ wzX12_finals := List.mem_cons_of_mem _ (List.mem_append_left _ (List.mem_of_getElem? (i := 8) rfl))
theorem k_X12_finals_fieldLink_RX12_615_SRModel_value_I : Cond.fieldLink RX12 615 "StatementRules2Model" "value" "I" ∈ wzX12_finals := List.mem_cons_of_mem _ (List.mem_append_left _ (List.mem_of_getElem? (i := 9) rfl))
theorem k_X12_finals_fieldLink_RX12_270_SRModel_rThing_I : Cond.fieldLink RX12 270 "StatementRules2Model" "rThing" "[I" ∈ wzX12_finals := List.mem_cons_of_mem _ (List.mem_append_left _ (List.mem_of_getElem? (i := 10) rfl))
theorem k_X12_finals_fieldLink_RX12_595_SRModel_thing_I : Cond.fieldLink RX12 595 "StatementRules2Model" "thing" "I" ∈ wzX12_finals := List.mem_cons_of_mem _ (List.mem_append_left _ (List.mem_of_getElem? (i := 11) rfl))
theorem k_X12_finals_fieldLink_RX12_249_SRModel_rb_I : Cond.fieldLink RX12 249 "StatementRules2Model" "rb" "[I" ∈ wzX12_finals := List.mem_cons_of_mem _ (List.mem_append_left _ (List.mem_of_getElem? (i := 12) rfl))
theorem k_X12_finals_fieldLink_RX12_255_SRModel_rHigh_I : Cond.fieldLink RX12 255 "StatementRules2Model" "rHigh" "[I" ∈ wzX12_finals := List.mem_cons_of_mem _ (List.mem_append_left _ (List.mem_of_getElem? (i := 13) rfl))
theorem k_X12_finals_fieldLink_RX12_589_SRModel_high_I : Cond.fieldLink RX12 589 "StatementRules2Model" "high" "I" ∈ wzX12_finals := List.mem_cons_of_mem _ (List.mem_append_left _ (List.mem_of_getElem? (i := 14) rfl))
theorem k_X12_finals_fieldLink_RX12_618_SRModel_pc_I : Cond.fieldLink RX12 618 "StatementRules2Model" "pc" "I" ∈ wzX12_finals := List.mem_cons_of_mem _ (List.mem_append_left _ (List.mem_of_getElem? (i := 15) rfl))
set_option maxHeartbeats 4000000 in
set_option maxRecDepth 100000 in
theorem c_X12_finals (l : Launch) (dC : Nat → ClassId) (dI : Nat → Nat → Nat) (sz : Nat) (Q : RQ) (N : Nat) (σ : RS) (x1 : Int32) (R : Int32 × RS) (hf : f_X12_finals N σ x1 = some R) : Met l yX12_finals wzX12_finals ({ frames := 1, cells := 0, slots := 0, locals := 60 }) (va_Pc [.ref Q.h0, .int x1] (zPre dC dI sz (rW Q σ) (rT Q))) (va_Qi (fun (r : Int32) (_ : Unit) => r = R.1) (fun (_ : Unit) (t : State) => zPost dC dI (va_A (rW Q σ) sz) (rW Q R.2) (rT Q) t) (va_A (rW Q σ) sz)) 0 0 (va_A (rW Q σ) sz) := by
  refine Met.ofW (cc := cX12_finals) (maxL := 3) (ret := (some .boolean)) (by decide) rfl ?_
  intro p e s m args below meth c s₁ B hml hv
  obtain ⟨rfl, hsz, hZ, hP, hK, hD0⟩ := hv
  have hx := B.exec
  have hb := B.bytes
  have hr := B.returns
  have hts := atoms_spec (ws := wzX12_finals) B.pre
  have hown : s.vm.findClass RX12 = some m.cls := findClass_of_methodNamed B.named
  have hlocks := B.notSynchronized
  subst hsz
  have hD := hD0.self (sz := s.heap.size)
  generalize hAe : va_A (rW Q σ) s.heap.size = A at hD ⊢
  have hA : ∀ q : Nat, s.heap.size ≤ q → A q := fun q h => by rw [← hAe]; exact Or.inr h
  have hS : va_S A s.heap s.heap [] := va_S.rf
  have hl := lv_entry ([.ref Q.h0, .int x1]) (n := 3) (Nat.le_of_ble_eq_true rfl)
  rw [lg_entry_eq]
  generalize (lg_sl ([.ref Q.h0, .int x1]) ++ List.replicate (3 - (lg_sl ([.ref Q.h0, .int x1])).length) Slot.unset).toArray = ls at hl ⊢
  have hl : lv_has ls 3 [(0, .ref Q.h0), (1, .int x1)] := hl
  unfold f_X12_finals at hf
  refine lv_aload_n hx hb dX12_finals_0 rfl (lv_at hl 0 rfl) ?_
  refine rG_31 hx hb hts i_X12_finals_X12 hown hK hP (hts (.fieldLink RX12 108 "StatementRules2Model" "tryFinal" "[I") k_X12_finals_fieldLink_RX12_108_SRModel_tryFinal_I) dX12_finals_1 ?_
  refine lv_aload_n hx hb dX12_finals_4 rfl (lv_at hl 0 rfl) ?_
  refine rG_101 hx hb hts i_X12_finals_X12 hown hK hP (hts (.fieldLink RX12 246 "StatementRules2Model" "ra" "[I") k_X12_finals_fieldLink_RX12_246_SRModel_ra_I) dX12_finals_5 ?_
  refine lv_iload_n hx hb dX12_finals_8 rfl (lv_at hl 1 rfl) ?_
  obtain ⟨b1, hf⟩ := hf_ite hf
  refine rL_101 (v := (σ.a 101 ((x1 : Int32).toNatClampNeg))) hx hb hK hP b1 dX12_finals_9 rfl ?_
  obtain ⟨b2, hf⟩ := hf_ite hf
  refine rL_31 (v := (σ.a 31 (((σ.a 101 ((x1 : Int32).toNatClampNeg)) : Int32).toNatClampNeg))) hx hb hK hP b2 dX12_finals_10 rfl ?_
  refine lv_istore_n (lv' := [(2, .int (σ.a 31 (((σ.a 101 ((x1 : Int32).toNatClampNeg)) : Int32).toNatClampNeg))), (0, .ref Q.h0), (1, .int x1)]) hx hb dX12_finals_11 rfl hl (by decide) rfl (fun ls hl => ?_)
  refine lv_iload_n hx hb dX12_finals_12 rfl (lv_at hl 0 rfl) ?_
  refine lv_if_ge (tgt := 18) hx hb dX12_finals_13 (by decide) (fun c3 => ?_) (fun c3 => ?_)
  ·
    replace hf := (if_pos c3).symm.trans hf
    refine lv_aload_n hx hb dX12_finals_18 rfl (lv_at hl 1 rfl) ?_
    refine rG_105 hx hb hts i_X12_finals_X12 hown hK hP (hts (.fieldLink RX12 258 "StatementRules2Model" "rHow" "[I") k_X12_finals_fieldLink_RX12_258_SRModel_rHow_I) dX12_finals_19 ?_
    refine lv_iload_n hx hb dX12_finals_22 rfl (lv_at hl 2 rfl) ?_
    refine lv_aload_n hx hb dX12_finals_23 rfl (lv_at hl 1 rfl) ?_
    refine rG_110 (v := (σ.i 110)) hx hb hts i_X12_finals_X12 hown hK hP (hts (.fieldLink RX12 597 "StatementRules2Model" "how" "I") k_X12_finals_fieldLink_RX12_597_SRModel_how_I) dX12_finals_24 rfl ?_
    refine rS_105 hx hb hK hP hD hS b1 dX12_finals_27 (fun H locs hP hD hS => ?_)
    refine lv_aload_n hx hb dX12_finals_28 rfl (lv_at hl 1 rfl) ?_
    refine rG_106 hx hb hts i_X12_finals_X12 hown hK hP (hts (.fieldLink RX12 261 "StatementRules2Model" "rTo" "[I") k_X12_finals_fieldLink_RX12_261_SRModel_rTo_I) dX12_finals_29 ?_
    refine lv_iload_n hx hb dX12_finals_32 rfl (lv_at hl 2 rfl) ?_
    refine lv_aload_n hx hb dX12_finals_33 rfl (lv_at hl 1 rfl) ?_
    refine rG_111 (v := (σ.i 111)) hx hb hts i_X12_finals_X12 hown hK hP (hts (.fieldLink RX12 609 "StatementRules2Model" "goTo" "I") k_X12_finals_fieldLink_RX12_609_SRModel_goTo_I) dX12_finals_34 rfl ?_
    refine rS_106 hx hb hK hP hD hS b1 dX12_finals_37 (fun H locs hP hD hS => ?_)
    refine lv_aload_n hx hb dX12_finals_38 rfl (lv_at hl 1 rfl) ?_
    refine rG_107 hx hb hts i_X12_finals_X12 hown hK hP (hts (.fieldLink RX12 264 "StatementRules2Model" "rDepth" "[I") k_X12_finals_fieldLink_RX12_264_SRModel_rDepth_I) dX12_finals_39 ?_
    refine lv_iload_n hx hb dX12_finals_42 rfl (lv_at hl 2 rfl) ?_
    refine lv_aload_n hx hb dX12_finals_43 rfl (lv_at hl 1 rfl) ?_
    refine rG_112 (v := (σ.i 112)) hx hb hts i_X12_finals_X12 hown hK hP (hts (.fieldLink RX12 612 "StatementRules2Model" "goDepth" "I") k_X12_finals_fieldLink_RX12_612_SRModel_goDepth_I) dX12_finals_44 rfl ?_
    refine rS_107 hx hb hK hP hD hS b1 dX12_finals_47 (fun H locs hP hD hS => ?_)
    refine lv_aload_n hx hb dX12_finals_48 rfl (lv_at hl 1 rfl) ?_
    refine rG_108 hx hb hts i_X12_finals_X12 hown hK hP (hts (.fieldLink RX12 267 "StatementRules2Model" "rValue" "[I") k_X12_finals_fieldLink_RX12_267_SRModel_rValue_I) dX12_finals_49 ?_
    refine lv_iload_n hx hb dX12_finals_52 rfl (lv_at hl 2 rfl) ?_
    refine lv_aload_n hx hb dX12_finals_53 rfl (lv_at hl 1 rfl) ?_
    refine rG_113 (v := (σ.i 113)) hx hb hts i_X12_finals_X12 hown hK hP (hts (.fieldLink RX12 615 "StatementRules2Model" "value" "I") k_X12_finals_fieldLink_RX12_615_SRModel_value_I) dX12_finals_54 rfl ?_
    refine rS_108 hx hb hK hP hD hS b1 dX12_finals_57 (fun H locs hP hD hS => ?_)
    refine lv_aload_n hx hb dX12_finals_58 rfl (lv_at hl 1 rfl) ?_
    refine rG_109 hx hb hts i_X12_finals_X12 hown hK hP (hts (.fieldLink RX12 270 "StatementRules2Model" "rThing" "[I") k_X12_finals_fieldLink_RX12_270_SRModel_rThing_I) dX12_finals_59 ?_
    refine lv_iload_n hx hb dX12_finals_62 rfl (lv_at hl 2 rfl) ?_
    refine lv_aload_n hx hb dX12_finals_63 rfl (lv_at hl 1 rfl) ?_
    refine rG_114 (v := (σ.i 114)) hx hb hts i_X12_finals_X12 hown hK hP (hts (.fieldLink RX12 595 "StatementRules2Model" "thing" "I") k_X12_finals_fieldLink_RX12_595_SRModel_thing_I) dX12_finals_64 rfl ?_
    refine rS_109 hx hb hK hP hD hS b1 dX12_finals_67 (fun H locs hP hD hS => ?_)
    refine lv_aload_n hx hb dX12_finals_68 rfl (lv_at hl 1 rfl) ?_
    refine rG_102 hx hb hts i_X12_finals_X12 hown hK hP (hts (.fieldLink RX12 249 "StatementRules2Model" "rb" "[I") k_X12_finals_fieldLink_RX12_249_SRModel_rb_I) dX12_finals_69 ?_
    refine lv_iload_n hx hb dX12_finals_72 rfl (lv_at hl 2 rfl) ?_
    refine lv_iconst (v := 2) hx hb dX12_finals_73 (by decide) ?_
    refine rS_102 hx hb hK hP hD hS b1 dX12_finals_74 (fun H locs hP hD hS => ?_)
    refine lv_aload_n hx hb dX12_finals_75 rfl (lv_at hl 1 rfl) ?_
    refine lv_aload_n hx hb dX12_finals_76 rfl (lv_at hl 1 rfl) ?_
    refine rG_104 hx hb hts i_X12_finals_X12 hown hK hP (hts (.fieldLink RX12 255 "StatementRules2Model" "rHigh" "[I") k_X12_finals_fieldLink_RX12_255_SRModel_rHigh_I) dX12_finals_77 ?_
    refine lv_iload_n hx hb dX12_finals_80 rfl (lv_at hl 2 rfl) ?_
    refine rL_104 (v := (σ.a 104 ((x1 : Int32).toNatClampNeg))) hx hb hK hP b1 dX12_finals_81 rfl ?_
    refine rP_93 hx hb hts i_X12_finals_X12 hown hK hP hD hS (hts (.fieldLink RX12 589 "StatementRules2Model" "high" "I") k_X12_finals_fieldLink_RX12_589_SRModel_high_I) dX12_finals_82 (fun H locs hP hD hS => ?_)
    refine lv_aload_n hx hb dX12_finals_85 rfl (lv_at hl 1 rfl) ?_
    refine lv_iload_n hx hb dX12_finals_86 rfl (lv_at hl 0 rfl) ?_
    refine rP_92 hx hb hts i_X12_finals_X12 hown hK hP hD hS (hts (.fieldLink RX12 618 "StatementRules2Model" "pc" "I") k_X12_finals_fieldLink_RX12_618_SRModel_pc_I) dX12_finals_87 (fun H locs hP hD hS => ?_)
    refine lv_iconst (v := 1) hx hb dX12_finals_90 (by decide) ?_
    obtain rfl := Option.some.inj hf
    exact W.zret (v := 1) hx hb hr (rfl) (fun t ht hW => ⟨⟨1, (), rfl, rfl, by rw [ht]; exact hP, va_K.moved hW.alike hK, hD⟩, hS.F ht⟩) hS.2.2 dX12_finals_91
  ·
    replace hf := (if_neg c3).symm.trans hf
    refine lv_iconst (v := 0) hx hb dX12_finals_16 (by decide) ?_
    obtain rfl := Option.some.inj hf
    exact W.zret (v := 0) hx hb hr (rfl) (fun t ht hW => ⟨⟨0, (), rfl, rfl, by rw [ht]; exact hP, va_K.moved hW.alike hK, hD⟩, hS.F ht⟩) hS.2.2 dX12_finals_17
theorem k_X12_isCaught_fieldLink_RX12_105_SRModel_tryCatch_I : Cond.fieldLink RX12 105 "StatementRules2Model" "tryCatch" "[I" ∈ wzX12_isCaught := List.mem_cons_of_mem _ (List.mem_append_left _ (List.mem_of_getElem? (i := 0) rfl))
theorem i_X12_isCaught_X12 : ∀ w ∈ wsX120, w ∈ wzX12_isCaught := fun _ h => List.mem_cons_of_mem _ (List.mem_append_right _ (List.mem_append_left _ (h)))
theorem k_X12_isCaught_fieldLink_RX12_246_SRModel_ra_I : Cond.fieldLink RX12 246 "StatementRules2Model" "ra" "[I" ∈ wzX12_isCaught := List.mem_cons_of_mem _ (List.mem_append_left _ (List.mem_of_getElem? (i := 1) rfl))
theorem k_X12_isCaught_fieldLink_RX12_216_SRModel_thingKind_I : Cond.fieldLink RX12 216 "StatementRules2Model" "thingKind" "[I" ∈ wzX12_isCaught := List.mem_cons_of_mem _ (List.mem_append_left _ (List.mem_of_getElem? (i := 2) rfl))
theorem k_X12_isCaught_fieldLink_RX12_595_SRModel_thing_I : Cond.fieldLink RX12 595 "StatementRules2Model" "thing" "I" ∈ wzX12_isCaught := List.mem_cons_of_mem _ (List.mem_append_left _ (List.mem_of_getElem? (i := 3) rfl))
theorem k_X12_isCaught_fieldLink_RX12_114_SRModel_catchKind_I : Cond.fieldLink RX12 114 "StatementRules2Model" "catchKind" "[I" ∈ wzX12_isCaught := List.mem_cons_of_mem _ (List.mem_append_left _ (List.mem_of_getElem? (i := 4) rfl))
theorem k_X12_isCaught_fieldLink_RX12_123_SRModel_catchNext_I : Cond.fieldLink RX12 123 "StatementRules2Model" "catchNext" "[I" ∈ wzX12_isCaught := List.mem_cons_of_mem _ (List.mem_append_left _ (List.mem_of_getElem? (i := 5) rfl))
theorem k_X12_isCaught_fieldLink_RX12_213_SRModel_vals_I : Cond.fieldLink RX12 213 "StatementRules2Model" "vals" "[I" ∈ wzX12_isCaught := List.mem_cons_of_mem _ (List.mem_append_left _ (List.mem_of_getElem? (i := 6) rfl))
theorem k_X12_isCaught_fieldLink_RX12_120_SRModel_catchSlot_I : Cond.fieldLink RX12 120 "StatementRules2Model" "catchSlot" "[I" ∈ wzX12_isCaught := List.mem_cons_of_mem _ (List.mem_append_left _ (List.mem_of_getElem? (i := 7) rfl))
theorem k_X12_isCaught_fieldLink_RX12_249_SRModel_rb_I : Cond.fieldLink RX12 249 "StatementRules2Model" "rb" "[I" ∈ wzX12_isCaught := List.mem_cons_of_mem _ (List.mem_append_left _ (List.mem_of_getElem? (i := 8) rfl))
theorem k_X12_isCaught_fieldLink_RX12_255_SRModel_rHigh_I : Cond.fieldLink RX12 255 "StatementRules2Model" "rHigh" "[I" ∈ wzX12_isCaught := List.mem_cons_of_mem _ (List.mem_append_left _ (List.mem_of_getElem? (i := 9) rfl))
theorem k_X12_isCaught_fieldLink_RX12_589_SRModel_high_I : Cond.fieldLink RX12 589 "StatementRules2Model" "high" "I" ∈ wzX12_isCaught := List.mem_cons_of_mem _ (List.mem_append_left _ (List.mem_of_getElem? (i := 10) rfl))
theorem k_X12_isCaught_fieldLink_RX12_117_SRModel_catchAt_I : Cond.fieldLink RX12 117 "StatementRules2Model" "catchAt" "[I" ∈ wzX12_isCaught := List.mem_cons_of_mem _ (List.mem_append_left _ (List.mem_of_getElem? (i := 11) rfl))
theorem k_X12_isCaught_fieldLink_RX12_618_SRModel_pc_I : Cond.fieldLink RX12 618 "StatementRules2Model" "pc" "I" ∈ wzX12_isCaught := List.mem_cons_of_mem _ (List.mem_append_left _ (List.mem_of_getElem? (i := 12) rfl))
set_option maxHeartbeats 4000000 in
set_option maxRecDepth 100000 in
theorem j_X12_isCaught_12 {p : Program} {e : Env} {s : State} {m : MethodId} {args : Array Value} {below : List Frame} {meth : Method} {c : Code} {A : Nat → Prop} (l : Launch) (dC : Nat → ClassId) (dI : Nat → Nat → Nat) (Q : RQ) (N : Nat) (R : Int32 × RS) (hx : p.tables.exec = Jvm.exec) (hb : c.code = cX12_isCaught) (hr : meth.sig.returnType = (some .boolean)) (hml : c.maxLocals = 3) (hown : s.vm.findClass RX12 = some m.cls) (hts : ∀ w ∈ wzX12_isCaught, w.before args s = true) (hlocks : meth.locks = false) (hZ : zAMB s) (hA : ∀ q : Nat, s.heap.size ≤ q → A q) (hK : va_K (dC, dI) vwCl (rT Q) s) : ∀ (n9 : Nat), ∀ (σ : RS) (x1 : Int32) (x2 : Int32) (H : Heap) (locs : List Loc) (ls : Array Slot), f_X12_isCaught_12 N n9 σ x1 x2 = some R → va_P (dC, dI) vwCl (rW Q σ) H → va_D A (rW Q σ) → va_S A s.heap H locs → lv_has ls 3 [(0, .ref Q.h0), (1, .int x1), (2, .int x2)] → W p l e ({ frames := 2, cells := 0, slots := 0, locals := 120 }) s m args below meth c H locs 0 0 (MQ below (va_Qi (fun (r : Int32) (_ : Unit) => r = R.1) (fun (_ : Unit) (t : State) => zPost dC dI A (rW Q R.2) (rT Q) t) A) args s 0 0 A) (F0 m 12 ls []) := by
  intro n9
  induction n9 with
  | zero => intro σ x1 x2 H locs ls hf; exact absurd hf (by intro h9; cases h9)
  | succ n9 ih =>
    intro σ x1 x2 H locs ls hf hP hD hS hl
    replace hf : b_X12_isCaught_12 N (f_X12_isCaught_12 N n9) σ x1 x2 = some R := hf
    unfold b_X12_isCaught_12 at hf
    refine lv_iload_n hx hb dX12_isCaught_12 rfl (lv_at hl 2 rfl) ?_
    refine lv_if_lt (tgt := 92) hx hb dX12_isCaught_13 (by decide) (fun c3 => ?_) (fun c3 => ?_)
    ·
      replace hf := (if_pos c3).symm.trans hf
      refine lv_iconst (v := 0) hx hb dX12_isCaught_92 (by decide) ?_
      obtain rfl := Option.some.inj hf
      exact W.zret (v := 0) hx hb hr (rfl) (fun t ht hW => ⟨⟨0, (), rfl, rfl, by rw [ht]; exact hP, va_K.moved hW.alike hK, hD⟩, hS.F ht⟩) hS.2.2 dX12_isCaught_93
    ·
      replace hf := (if_neg c3).symm.trans hf
      refine lv_aload_n hx hb dX12_isCaught_16 rfl (lv_at hl 0 rfl) ?_
      refine lv_aload_n hx hb dX12_isCaught_17 rfl (lv_at hl 0 rfl) ?_
      refine rG_86 hx hb hts i_X12_isCaught_X12 hown hK hP (hts (.fieldLink RX12 216 "StatementRules2Model" "thingKind" "[I") k_X12_isCaught_fieldLink_RX12_216_SRModel_thingKind_I) dX12_isCaught_18 ?_
      refine lv_aload_n hx hb dX12_isCaught_21 rfl (lv_at hl 0 rfl) ?_
      refine rG_114 (v := (σ.i 114)) hx hb hts i_X12_isCaught_X12 hown hK hP (hts (.fieldLink RX12 595 "StatementRules2Model" "thing" "I") k_X12_isCaught_fieldLink_RX12_595_SRModel_thing_I) dX12_isCaught_22 rfl ?_
      obtain ⟨b4, hf⟩ := hf_ite hf
      refine rL_86 (v := (σ.a 86 (((σ.i 114) : Int32).toNatClampNeg))) hx hb hK hP b4 dX12_isCaught_25 rfl ?_
      refine lv_aload_n hx hb dX12_isCaught_26 rfl (lv_at hl 0 rfl) ?_
      refine rG_34 hx hb hts i_X12_isCaught_X12 hown hK hP (hts (.fieldLink RX12 114 "StatementRules2Model" "catchKind" "[I") k_X12_isCaught_fieldLink_RX12_114_SRModel_catchKind_I) dX12_isCaught_27 ?_
      refine lv_iload_n hx hb dX12_isCaught_30 rfl (lv_at hl 2 rfl) ?_
      obtain ⟨b5, hf⟩ := hf_ite hf
      refine rL_34 (v := (σ.a 34 ((x2 : Int32).toNatClampNeg))) hx hb hK hP b5 dX12_isCaught_31 rfl ?_
      obtain ⟨p6, hcp6, hf⟩ := hf_bind hf
      have hFc := r_free hD hS hA
      refine va_calli (va_runV (As := [.int (σ.a 86 (((σ.i 114) : Int32).toNatClampNeg)), .int (σ.a 34 ((x2 : Int32).toNatClampNeg))]) (rest := []) ⟨hx, hb, hml, hown, hts⟩ (c_X12_isUnder l dC dI _ Q N σ (σ.a 86 (((σ.i 114) : Int32).toNatClampNeg)) (σ.a 34 ((x2 : Int32).toNatClampNeg)) p6 hcp6) (cwV 2 hts hX12_isCaught_X12_isUnder_v283 rfl rfl rfl (by decide +kernel) ⟨Nat.le_of_ble_eq_true rfl, Nat.le_of_ble_eq_true rfl⟩) ⟨zPre.blind, va_recv hK hP (ci := 11) (q0 := 0) rfl rfl, zPre.go hZ hP hK hD⟩ rfl rfl hl.1 rfl (lv_room (Nat.le_of_ble_eq_true rfl)) dX12_isCaught_32 ⟨Nat.le_of_ble_eq_true rfl, Nat.le_of_ble_eq_true rfl⟩) hS (fun q _ h => hFc q h) hFc (fun r7 u9 t9 H1 locs ht hvm hw hB hz1 hk1 hS => ?_)
      obtain ⟨hP, hK1, hD1⟩ := hB
      rw [ht] at hP
      have hD := hD1.weaken (fun _ _ _ h => hFc _ h)
      generalize H1 = H at hP hS ⊢
      obtain rfl : r7 = p6.1 := hw
      refine lv_if_eq (tgt := 82) hx hb dX12_isCaught_35 (by decide) (fun c8 => ?_) (fun c8 => ?_)
      ·
        replace hf := (if_pos c8).symm.trans hf
        refine lv_aload_n hx hb dX12_isCaught_82 rfl (lv_at hl 0 rfl) ?_
        refine rG_37 hx hb hts i_X12_isCaught_X12 hown hK hP (hts (.fieldLink RX12 123 "StatementRules2Model" "catchNext" "[I") k_X12_isCaught_fieldLink_RX12_123_SRModel_catchNext_I) dX12_isCaught_83 ?_
        refine lv_iload_n hx hb dX12_isCaught_86 rfl (lv_at hl 2 rfl) ?_
        refine rL_37 (v := (p6.2.a 37 ((x2 : Int32).toNatClampNeg))) hx hb hK hP b5 dX12_isCaught_87 rfl ?_
        refine lv_istore_n (lv' := [(2, .int (p6.2.a 37 ((x2 : Int32).toNatClampNeg))), (0, .ref Q.h0), (1, .int x1)]) hx hb dX12_isCaught_88 rfl hl (by decide) rfl (fun ls hl => ?_)
        refine lv_goto (tgt := 12) hx hb dX12_isCaught_89 (by decide) ?_
        exact ih p6.2 x1 (p6.2.a 37 ((x2 : Int32).toNatClampNeg)) _ _ _ hf hP hD hS (lv_sub hl [1, 2, 0] rfl)
      ·
        replace hf := (if_neg c8).symm.trans hf
        refine lv_aload_n hx hb dX12_isCaught_38 rfl (lv_at hl 0 rfl) ?_
        refine rG_84 hx hb hts i_X12_isCaught_X12 hown hK hP (hts (.fieldLink RX12 213 "StatementRules2Model" "vals" "[I") k_X12_isCaught_fieldLink_RX12_213_SRModel_vals_I) dX12_isCaught_39 ?_
        refine lv_aload_n hx hb dX12_isCaught_42 rfl (lv_at hl 0 rfl) ?_
        refine rG_36 hx hb hts i_X12_isCaught_X12 hown hK hP (hts (.fieldLink RX12 120 "StatementRules2Model" "catchSlot" "[I") k_X12_isCaught_fieldLink_RX12_120_SRModel_catchSlot_I) dX12_isCaught_43 ?_
        refine lv_iload_n hx hb dX12_isCaught_46 rfl (lv_at hl 2 rfl) ?_
        refine rL_36 (v := (p6.2.a 36 ((x2 : Int32).toNatClampNeg))) hx hb hK hP b5 dX12_isCaught_47 rfl ?_
        refine lv_aload_n hx hb dX12_isCaught_48 rfl (lv_at hl 0 rfl) ?_
        refine rG_114 (v := (p6.2.i 114)) hx hb hts i_X12_isCaught_X12 hown hK hP (hts (.fieldLink RX12 595 "StatementRules2Model" "thing" "I") k_X12_isCaught_fieldLink_RX12_595_SRModel_thing_I) dX12_isCaught_49 rfl ?_
        obtain ⟨b9, hf⟩ := hf_ite hf
        refine rS_84 hx hb hK hP hD hS b9 dX12_isCaught_52 (fun H locs hP hD hS => ?_)
        refine lv_aload_n hx hb dX12_isCaught_53 rfl (lv_at hl 0 rfl) ?_
        refine rG_102 hx hb hts i_X12_isCaught_X12 hown hK hP (hts (.fieldLink RX12 249 "StatementRules2Model" "rb" "[I") k_X12_isCaught_fieldLink_RX12_249_SRModel_rb_I) dX12_isCaught_54 ?_
        refine lv_iload_n hx hb dX12_isCaught_57 rfl (lv_at hl 1 rfl) ?_
        refine lv_iconst (v := 1) hx hb dX12_isCaught_58 (by decide) ?_
        obtain ⟨b10, hf⟩ := hf_ite hf
        refine rS_102 hx hb hK hP hD hS b10 dX12_isCaught_59 (fun H locs hP hD hS => ?_)
        refine lv_aload_n hx hb dX12_isCaught_60 rfl (lv_at hl 0 rfl) ?_
        refine lv_aload_n hx hb dX12_isCaught_61 rfl (lv_at hl 0 rfl) ?_
        refine rG_104 hx hb hts i_X12_isCaught_X12 hown hK hP (hts (.fieldLink RX12 255 "StatementRules2Model" "rHigh" "[I") k_X12_isCaught_fieldLink_RX12_255_SRModel_rHigh_I) dX12_isCaught_62 ?_
        refine lv_iload_n hx hb dX12_isCaught_65 rfl (lv_at hl 1 rfl) ?_
        refine rL_104 (v := (p6.2.a 104 ((x1 : Int32).toNatClampNeg))) hx hb hK hP b10 dX12_isCaught_66 rfl ?_
        refine rP_93 hx hb hts i_X12_isCaught_X12 hown hK hP hD hS (hts (.fieldLink RX12 589 "StatementRules2Model" "high" "I") k_X12_isCaught_fieldLink_RX12_589_SRModel_high_I) dX12_isCaught_67 (fun H locs hP hD hS => ?_)
        refine lv_aload_n hx hb dX12_isCaught_70 rfl (lv_at hl 0 rfl) ?_
        refine lv_aload_n hx hb dX12_isCaught_71 rfl (lv_at hl 0 rfl) ?_
        refine rG_35 hx hb hts i_X12_isCaught_X12 hown hK hP (hts (.fieldLink RX12 117 "StatementRules2Model" "catchAt" "[I") k_X12_isCaught_fieldLink_RX12_117_SRModel_catchAt_I) dX12_isCaught_72 ?_
        refine lv_iload_n hx hb dX12_isCaught_75 rfl (lv_at hl 2 rfl) ?_
        refine rL_35 (v := (p6.2.a 35 ((x2 : Int32).toNatClampNeg))) hx hb hK hP b5 dX12_isCaught_76 rfl ?_
        refine rP_92 hx hb hts i_X12_isCaught_X12 hown hK hP hD hS (hts (.fieldLink RX12 618 "StatementRules2Model" "pc" "I") k_X12_isCaught_fieldLink_RX12_618_SRModel_pc_I) dX12_isCaught_77 (fun H locs hP hD hS => ?_)
        refine lv_iconst (v := 1) hx hb dX12_isCaught_80 (by decide) ?_
        obtain rfl := Option.some.inj hf
        exact W.zret (v := 1) hx hb hr (rfl) (fun t ht hW => ⟨⟨1, (), rfl, rfl, by rw [ht]; exact hP, va_K.moved hW.alike hK, hD⟩, hS.F ht⟩) hS.2.2 dX12_isCaught_81
set_option maxHeartbeats 4000000 in
set_option maxRecDepth 100000 in
theorem c_X12_isCaught (l : Launch) (dC : Nat → ClassId) (dI : Nat → Nat → Nat) (sz : Nat) (Q : RQ) (N : Nat) (σ : RS) (x1 : Int32) (R : Int32 × RS) (hf : f_X12_isCaught N σ x1 = some R) : Met l yX12_isCaught wzX12_isCaught ({ frames := 2, cells := 0, slots := 0, locals := 120 }) (va_Pc [.ref Q.h0, .int x1] (zPre dC dI sz (rW Q σ) (rT Q))) (va_Qi (fun (r : Int32) (_ : Unit) => r = R.1) (fun (_ : Unit) (t : State) => zPost dC dI (va_A (rW Q σ) sz) (rW Q R.2) (rT Q) t) (va_A (rW Q σ) sz)) 0 0 (va_A (rW Q σ) sz) := by
  refine Met.ofW (cc := cX12_isCaught) (maxL := 3) (ret := (some .boolean)) (by decide) rfl ?_
  intro p e s m args below meth c s₁ B hml hv
  obtain ⟨rfl, hsz, hZ, hP, hK, hD0⟩ := hv
  have hx := B.exec
  have hb := B.bytes
  have hr := B.returns
  have hts := atoms_spec (ws := wzX12_isCaught) B.pre
  have hown : s.vm.findClass RX12 = some m.cls := findClass_of_methodNamed B.named
  have hlocks := B.notSynchronized
  subst hsz
  have hD := hD0.self (sz := s.heap.size)
  generalize hAe : va_A (rW Q σ) s.heap.size = A at hD ⊢
  have hA : ∀ q : Nat, s.heap.size ≤ q → A q := fun q h => by rw [← hAe]; exact Or.inr h
  have hS : va_S A s.heap s.heap [] := va_S.rf
  have hl := lv_entry ([.ref Q.h0, .int x1]) (n := 3) (Nat.le_of_ble_eq_true rfl)
  rw [lg_entry_eq]
  generalize (lg_sl ([.ref Q.h0, .int x1]) ++ List.replicate (3 - (lg_sl ([.ref Q.h0, .int x1])).length) Slot.unset).toArray = ls at hl ⊢
  have hl : lv_has ls 3 [(0, .ref Q.h0), (1, .int x1)] := hl
  unfold f_X12_isCaught at hf
  refine lv_aload_n hx hb dX12_isCaught_0 rfl (lv_at hl 0 rfl) ?_
  refine rG_30 hx hb hts i_X12_isCaught_X12 hown hK hP (hts (.fieldLink RX12 105 "StatementRules2Model" "tryCatch" "[I") k_X12_isCaught_fieldLink_RX12_105_SRModel_tryCatch_I) dX12_isCaught_1 ?_
  refine lv_aload_n hx hb dX12_isCaught_4 rfl (lv_at hl 0 rfl) ?_
  refine rG_101 hx hb hts i_X12_isCaught_X12 hown hK hP (hts (.fieldLink RX12 246 "StatementRules2Model" "ra" "[I") k_X12_isCaught_fieldLink_RX12_246_SRModel_ra_I) dX12_isCaught_5 ?_
  refine lv_iload_n hx hb dX12_isCaught_8 rfl (lv_at hl 1 rfl) ?_
  obtain ⟨b1, hf⟩ := hf_ite hf
  refine rL_101 (v := (σ.a 101 ((x1 : Int32).toNatClampNeg))) hx hb hK hP b1 dX12_isCaught_9 rfl ?_
  obtain ⟨b2, hf⟩ := hf_ite hf
  refine rL_30 (v := (σ.a 30 (((σ.a 101 ((x1 : Int32).toNatClampNeg)) : Int32).toNatClampNeg))) hx hb hK hP b2 dX12_isCaught_10 rfl ?_
  refine lv_istore_n (lv' := [(2, .int (σ.a 30 (((σ.a 101 ((x1 : Int32).toNatClampNeg)) : Int32).toNatClampNeg))), (0, .ref Q.h0), (1, .int x1)]) hx hb dX12_isCaught_11 rfl hl (by decide) rfl (fun ls hl => ?_)
  exact j_X12_isCaught_12 l dC dI Q N R hx hb hr hml hown hts hlocks hZ hA hK N σ x1 (σ.a 30 (((σ.a 101 ((x1 : Int32).toNatClampNeg)) : Int32).toNatClampNeg)) _ _ _ hf hP hD hS (lv_sub hl [1, 2, 0] rfl)
theorem k_X12_leave_fieldLink_RX12_586_SRModel_recs_I : Cond.fieldLink RX12 586 "StatementRules2Model" "recs" "I" ∈ wzX12_leave := List.mem_cons_of_mem _ (List.mem_append_left _ (List.mem_of_getElem? (i := 0) rfl))
theorem i_X12_leave_X12 : ∀ w ∈ wsX120, w ∈ wzX12_leave := fun _ h => List.mem_cons_of_mem _ (List.mem_append_right _ (List.mem_append_left _ (h)))
theorem k_X12_leave_fieldLink_RX12_597_SRModel_how_I : Cond.fieldLink RX12 597 "StatementRules2Model" "how" "I" ∈ wzX12_leave := List.mem_cons_of_mem _ (List.mem_append_left _ (List.mem_of_getElem? (i := 1) rfl))
theorem k_X12_leave_fieldLink_RX12_612_SRModel_goDepth_I : Cond.fieldLink RX12 612 "StatementRules2Model" "goDepth" "I" ∈ wzX12_leave := List.mem_cons_of_mem _ (List.mem_append_left _ (List.mem_of_getElem? (i := 2) rfl))
theorem k_X12_leave_fieldLink_RX12_609_SRModel_goTo_I : Cond.fieldLink RX12 609 "StatementRules2Model" "goTo" "I" ∈ wzX12_leave := List.mem_cons_of_mem _ (List.mem_append_left _ (List.mem_of_getElem? (i := 3) rfl))
theorem k_X12_leave_fieldLink_RX12_618_SRModel_pc_I : Cond.fieldLink RX12 618 "StatementRules2Model" "pc" "I" ∈ wzX12_leave := List.mem_cons_of_mem _ (List.mem_append_left _ (List.mem_of_getElem? (i := 4) rfl))
theorem k_X12_leave_fieldLink_RX12_243_SRModel_rk_I : Cond.fieldLink RX12 243 "StatementRules2Model" "rk" "[I" ∈ wzX12_leave := List.mem_cons_of_mem _ (List.mem_append_left _ (List.mem_of_getElem? (i := 5) rfl))
theorem k_X12_leave_fieldLink_RX12_249_SRModel_rb_I : Cond.fieldLink RX12 249 "StatementRules2Model" "rb" "[I" ∈ wzX12_leave := List.mem_cons_of_mem _ (List.mem_append_left _ (List.mem_of_getElem? (i := 6) rfl))
theorem k_X12_leave_fieldLink_RX12_246_SRModel_ra_I : Cond.fieldLink RX12 246 "StatementRules2Model" "ra" "[I" ∈ wzX12_leave := List.mem_cons_of_mem _ (List.mem_append_left _ (List.mem_of_getElem? (i := 7) rfl))
theorem k_X12_leave_fieldLink_RX12_621_SRModel_waiting_I : Cond.fieldLink RX12 621 "StatementRules2Model" "waiting" "I" ∈ wzX12_leave := List.mem_cons_of_mem _ (List.mem_append_left _ (List.mem_of_getElem? (i := 8) rfl))
theorem k_X12_leave_fieldLink_RX12_231_SRModel_held_I : Cond.fieldLink RX12 231 "StatementRules2Model" "held" "[I" ∈ wzX12_leave := List.mem_cons_of_mem _ (List.mem_append_left _ (List.mem_of_getElem? (i := 9) rfl))
theorem k_X12_leave_fieldLink_RX12_636_SRModel_ended_I : Cond.fieldLink RX12 636 "StatementRules2Model" "ended" "I" ∈ wzX12_leave := List.mem_cons_of_mem _ (List.mem_append_left _ (List.mem_of_getElem? (i := 10) rfl))
theorem k_X12_leave_fieldLink_RX12_255_SRModel_rHigh_I : Cond.fieldLink RX12 255 "StatementRules2Model" "rHigh" "[I" ∈ wzX12_leave := List.mem_cons_of_mem _ (List.mem_append_left _ (List.mem_of_getElem? (i := 11) rfl))
theorem k_X12_leave_fieldLink_RX12_589_SRModel_high_I : Cond.fieldLink RX12 589 "StatementRules2Model" "high" "I" ∈ wzX12_leave := List.mem_cons_of_mem _ (List.mem_append_left _ (List.mem_of_getElem? (i := 12) rfl))
theorem k_X12_leave_fieldLink_RX12_615_SRModel_value_I : Cond.fieldLink RX12 615 "StatementRules2Model" "value" "I" ∈ wzX12_leave := List.mem_cons_of_mem _ (List.mem_append_left _ (List.mem_of_getElem? (i := 13) rfl))
theorem k_X12_leave_fieldLink_RX12_90_SRModel_iy_I : Cond.fieldLink RX12 90 "StatementRules2Model" "iy" "[I" ∈ wzX12_leave := List.mem_cons_of_mem _ (List.mem_append_left _ (List.mem_of_getElem? (i := 14) rfl))
set_option maxHeartbeats 4000000 in
set_option maxRecDepth 100000 in
theorem j_X12_leave_0 {p : Program} {e : Env} {s : State} {m : MethodId} {args : Array Value} {below : List Frame} {meth : Method} {c : Code} {A : Nat → Prop} (l : Launch) (dC : Nat → ClassId) (dI : Nat → Nat → Nat) (Q : RQ) (N : Nat) (R : RS) (hx : p.tables.exec = Jvm.exec) (hb : c.code = cX12_leave) (hr : meth.sig.returnType = none) (hml : c.maxLocals = 2) (hown : s.vm.findClass RX12 = some m.cls) (hts : ∀ w ∈ wzX12_leave, w.before args s = true) (hlocks : meth.locks = false) (hZ : zAMB s) (hA : ∀ q : Nat, s.heap.size ≤ q → A q) (hK : va_K (dC, dI) vwCl (rT Q) s) : ∀ (n9 : Nat), ∀ (σ : RS) (H : Heap) (locs : List Loc) (ls : Array Slot), f_X12_leave_0 N n9 σ = some R → va_P (dC, dI) vwCl (rW Q σ) H → va_D A (rW Q σ) → va_S A s.heap H locs → lv_has ls 2 [(0, .ref Q.h0)] → W p l e ({ frames := 3, cells := 0, slots := 0, locals := 180 }) s m args below meth c H locs 0 0 (MQ below (va_Qv (fun (_ : Unit) => True) (fun (_ : Unit) (t : State) => zPost dC dI A (rW Q R) (rT Q) t) A) args s 0 0 A) (F0 m 0 ls []) := by
  intro n9
  induction n9 with
  | zero => intro σ  H locs ls hf; exact absurd hf (by intro h9; cases h9)
  | succ n9 ih =>
    intro σ  H locs ls hf hP hD hS hl
    replace hf : b_X12_leave_0 N (f_X12_leave_0 N n9) σ  = some R := hf
    unfold b_X12_leave_0 at hf
    refine lv_aload_n hx hb dX12_leave_0 rfl (lv_at hl 0 rfl) ?_
    refine rG_99 (v := (σ.i 99)) hx hb hts i_X12_leave_X12 hown hK hP (hts (.fieldLink RX12 586 "StatementRules2Model" "recs" "I") k_X12_leave_fieldLink_RX12_586_SRModel_recs_I) dX12_leave_1 rfl ?_
    refine lv_aload_n hx hb dX12_leave_4 rfl (lv_at hl 0 rfl) ?_
    refine rG_110 (v := (σ.i 110)) hx hb hts i_X12_leave_X12 hown hK hP (hts (.fieldLink RX12 597 "StatementRules2Model" "how" "I") k_X12_leave_fieldLink_RX12_597_SRModel_how_I) dX12_leave_5 rfl ?_
    refine lv_iconst (v := 1) hx hb dX12_leave_8 (by decide) ?_
    refine lv_icmp_eq (tgt := 20) hx hb dX12_leave_9 (by decide) (fun c1 => ?_) (fun c1 => ?_)
    ·
      replace hf := (if_pos c1).symm.trans hf
      refine lv_aload_n hx hb dX12_leave_20 rfl (lv_at hl 0 rfl) ?_
      refine rG_112 (v := (σ.i 112)) hx hb hts i_X12_leave_X12 hown hK hP (hts (.fieldLink RX12 612 "StatementRules2Model" "goDepth" "I") k_X12_leave_fieldLink_RX12_612_SRModel_goDepth_I) dX12_leave_21 rfl ?_
      refine lv_goto (tgt := 28) hx hb dX12_leave_24 (by decide) ?_
      refine lv_icmp_le (tgt := 173) hx hb dX12_leave_28 (by decide) (fun c2 => ?_) (fun c2 => ?_)
      ·
        replace hf := (if_pos c2).symm.trans hf
        refine lv_aload_n hx hb dX12_leave_173 rfl (lv_at hl 0 rfl) ?_
        refine rG_110 (v := (σ.i 110)) hx hb hts i_X12_leave_X12 hown hK hP (hts (.fieldLink RX12 597 "StatementRules2Model" "how" "I") k_X12_leave_fieldLink_RX12_597_SRModel_how_I) dX12_leave_174 rfl ?_
        refine lv_iconst (v := 1) hx hb dX12_leave_177 (by decide) ?_
        refine lv_icmp_ne (tgt := 192) hx hb dX12_leave_178 (by decide) (fun c9 => absurd c1 c9) (fun _ => ?_)
        refine lv_aload_n hx hb dX12_leave_181 rfl (lv_at hl 0 rfl) ?_
        refine lv_aload_n hx hb dX12_leave_182 rfl (lv_at hl 0 rfl) ?_
        refine rG_111 (v := (σ.i 111)) hx hb hts i_X12_leave_X12 hown hK hP (hts (.fieldLink RX12 609 "StatementRules2Model" "goTo" "I") k_X12_leave_fieldLink_RX12_609_SRModel_goTo_I) dX12_leave_183 rfl ?_
        refine rP_92 hx hb hts i_X12_leave_X12 hown hK hP hD hS (hts (.fieldLink RX12 618 "StatementRules2Model" "pc" "I") k_X12_leave_fieldLink_RX12_618_SRModel_pc_I) dX12_leave_186 (fun H locs hP hD hS => ?_)
        refine lv_goto (tgt := 265) hx hb dX12_leave_189 (by decide) ?_
        obtain rfl := Option.some.inj hf
        exact W.vret hx hb hr (fun t ht hW => ⟨⟨(), rfl, trivial, by rw [ht]; exact hP, va_K.moved hW.alike hK, hD⟩, hS.F ht⟩) hS.2.2 dX12_leave_265
      ·
        replace hf := (if_neg c2).symm.trans hf
        refine lv_aload_n hx hb dX12_leave_31 rfl (lv_at hl 0 rfl) ?_
        refine rG_99 (v := (σ.i 99)) hx hb hts i_X12_leave_X12 hown hK hP (hts (.fieldLink RX12 586 "StatementRules2Model" "recs" "I") k_X12_leave_fieldLink_RX12_586_SRModel_recs_I) dX12_leave_32 rfl ?_
        refine lv_iconst (v := 1) hx hb dX12_leave_35 (by decide) ?_
        refine lv_isub hx hb dX12_leave_36 ?_
        refine lv_istore_n (lv' := [(1, .int ((σ.i 99) - 1)), (0, .ref Q.h0)]) hx hb dX12_leave_37 rfl hl (by decide) rfl (fun ls hl => ?_)
        refine lv_aload_n hx hb dX12_leave_38 rfl (lv_at hl 1 rfl) ?_
        refine rG_100 hx hb hts i_X12_leave_X12 hown hK hP (hts (.fieldLink RX12 243 "StatementRules2Model" "rk" "[I") k_X12_leave_fieldLink_RX12_243_SRModel_rk_I) dX12_leave_39 ?_
        refine lv_iload_n hx hb dX12_leave_42 rfl (lv_at hl 0 rfl) ?_
        obtain ⟨b4, hf⟩ := hf_ite hf
        refine rL_100 (v := (σ.a 100 ((((σ.i 99) - 1) : Int32).toNatClampNeg))) hx hb hK hP b4 dX12_leave_43 rfl ?_
        refine lv_iconst (v := 1) hx hb dX12_leave_44 (by decide) ?_
        refine lv_icmp_ne (tgt := 77) hx hb dX12_leave_45 (by decide) (fun c5 => ?_) (fun c5 => ?_)
        ·
          replace hf := (if_neg c5).symm.trans hf
          refine lv_aload_n hx hb dX12_leave_77 rfl (lv_at hl 1 rfl) ?_
          refine rG_100 hx hb hts i_X12_leave_X12 hown hK hP (hts (.fieldLink RX12 243 "StatementRules2Model" "rk" "[I") k_X12_leave_fieldLink_RX12_243_SRModel_rk_I) dX12_leave_78 ?_
          refine lv_iload_n hx hb dX12_leave_81 rfl (lv_at hl 0 rfl) ?_
          refine rL_100 (v := (σ.a 100 ((((σ.i 99) - 1) : Int32).toNatClampNeg))) hx hb hK hP b4 dX12_leave_82 rfl ?_
          refine lv_iconst (v := 2) hx hb dX12_leave_83 (by decide) ?_
          refine lv_icmp_ne (tgt := 100) hx hb dX12_leave_84 (by decide) (fun c6 => ?_) (fun c6 => ?_)
          ·
            replace hf := (if_neg c6).symm.trans hf
            refine lv_aload_n hx hb dX12_leave_100 rfl (lv_at hl 1 rfl) ?_
            refine rG_100 hx hb hts i_X12_leave_X12 hown hK hP (hts (.fieldLink RX12 243 "StatementRules2Model" "rk" "[I") k_X12_leave_fieldLink_RX12_243_SRModel_rk_I) dX12_leave_101 ?_
            refine lv_iload_n hx hb dX12_leave_104 rfl (lv_at hl 0 rfl) ?_
            refine rL_100 (v := (σ.a 100 ((((σ.i 99) - 1) : Int32).toNatClampNeg))) hx hb hK hP b4 dX12_leave_105 rfl ?_
            refine lv_iconst (v := 4) hx hb dX12_leave_106 (by decide) ?_
            refine lv_icmp_ne (tgt := 160) hx hb dX12_leave_107 (by decide) (fun c7 => ?_) (fun c7 => ?_)
            ·
              replace hf := (if_neg c7).symm.trans hf
              refine lv_aload_n hx hb dX12_leave_160 rfl (lv_at hl 1 rfl) ?_
              refine lv_dup hx hb dX12_leave_161 rfl ?_
              refine rG_99 (v := (σ.i 99)) hx hb hts i_X12_leave_X12 hown hK hP (hts (.fieldLink RX12 586 "StatementRules2Model" "recs" "I") k_X12_leave_fieldLink_RX12_586_SRModel_recs_I) dX12_leave_162 rfl ?_
              refine lv_iconst (v := 1) hx hb dX12_leave_165 (by decide) ?_
              refine lv_isub hx hb dX12_leave_166 ?_
              refine rP_99 hx hb hts i_X12_leave_X12 hown hK hP hD hS (hts (.fieldLink RX12 586 "StatementRules2Model" "recs" "I") k_X12_leave_fieldLink_RX12_586_SRModel_recs_I) dX12_leave_167 (fun H locs hP hD hS => ?_)
              refine lv_goto (tgt := 0) hx hb dX12_leave_170 (by decide) ?_
              exact ih (RS.setI σ 99 ((σ.i 99) - 1)) _ _ _ hf hP hD hS (lv_sub hl [1] rfl)
            ·
              replace hf := (if_pos c7).symm.trans hf
              refine lv_aload_n hx hb dX12_leave_110 rfl (lv_at hl 1 rfl) ?_
              refine rG_102 hx hb hts i_X12_leave_X12 hown hK hP (hts (.fieldLink RX12 249 "StatementRules2Model" "rb" "[I") k_X12_leave_fieldLink_RX12_249_SRModel_rb_I) dX12_leave_111 ?_
              refine lv_iload_n hx hb dX12_leave_114 rfl (lv_at hl 0 rfl) ?_
              refine rL_102 (v := (σ.a 102 ((((σ.i 99) - 1) : Int32).toNatClampNeg))) hx hb hK hP b4 dX12_leave_115 rfl ?_
              refine lv_if_ne (tgt := 141) hx hb dX12_leave_116 (by decide) (fun c8 => ?_) (fun c8 => ?_)
              ·
                replace hf := (if_neg c8).symm.trans hf
                refine lv_aload_n hx hb dX12_leave_141 rfl (lv_at hl 1 rfl) ?_
                refine rG_102 hx hb hts i_X12_leave_X12 hown hK hP (hts (.fieldLink RX12 249 "StatementRules2Model" "rb" "[I") k_X12_leave_fieldLink_RX12_249_SRModel_rb_I) dX12_leave_142 ?_
                refine lv_iload_n hx hb dX12_leave_145 rfl (lv_at hl 0 rfl) ?_
                refine rL_102 (v := (σ.a 102 ((((σ.i 99) - 1) : Int32).toNatClampNeg))) hx hb hK hP b4 dX12_leave_146 rfl ?_
                refine lv_iconst (v := 2) hx hb dX12_leave_147 (by decide) ?_
                refine lv_icmp_ge (tgt := 160) hx hb dX12_leave_148 (by decide) (fun c9 => ?_) (fun c9 => ?_)
                ·
                  replace hf := (if_pos c9).symm.trans hf
                  refine lv_aload_n hx hb dX12_leave_160 rfl (lv_at hl 1 rfl) ?_
                  refine lv_dup hx hb dX12_leave_161 rfl ?_
                  refine rG_99 (v := (σ.i 99)) hx hb hts i_X12_leave_X12 hown hK hP (hts (.fieldLink RX12 586 "StatementRules2Model" "recs" "I") k_X12_leave_fieldLink_RX12_586_SRModel_recs_I) dX12_leave_162 rfl ?_
                  refine lv_iconst (v := 1) hx hb dX12_leave_165 (by decide) ?_
                  refine lv_isub hx hb dX12_leave_166 ?_
                  refine rP_99 hx hb hts i_X12_leave_X12 hown hK hP hD hS (hts (.fieldLink RX12 586 "StatementRules2Model" "recs" "I") k_X12_leave_fieldLink_RX12_586_SRModel_recs_I) dX12_leave_167 (fun H locs hP hD hS => ?_)
                  refine lv_goto (tgt := 0) hx hb dX12_leave_170 (by decide) ?_
                  exact ih (RS.setI σ 99 ((σ.i 99) - 1)) _ _ _ hf hP hD hS (lv_sub hl [1] rfl)
                ·
                  replace hf := (if_neg c9).symm.trans hf
                  refine lv_aload_n hx hb dX12_leave_151 rfl (lv_at hl 1 rfl) ?_
                  refine lv_iload_n hx hb dX12_leave_152 rfl (lv_at hl 0 rfl) ?_
                  obtain ⟨p10, hcp10, hf⟩ := hf_bind hf
                  have hFc := r_free hD hS hA
                  refine va_calli (va_runV (As := [.int ((σ.i 99) - 1)]) (rest := []) ⟨hx, hb, hml, hown, hts⟩ (c_X12_finals l dC dI _ Q N σ ((σ.i 99) - 1) p10 hcp10) (cwV 1 hts hX12_leave_X12_finals_v630 rfl rfl rfl (by decide +kernel) ⟨Nat.le_of_ble_eq_true rfl, Nat.le_of_ble_eq_true rfl⟩) ⟨zPre.blind, va_recv hK hP (ci := 11) (q0 := 0) rfl rfl, zPre.go hZ hP hK hD⟩ rfl rfl hl.1 rfl (lv_room (Nat.le_of_ble_eq_true rfl)) dX12_leave_153 ⟨Nat.le_of_ble_eq_true rfl, Nat.le_of_ble_eq_true rfl⟩) hS (fun q _ h => hFc q h) hFc (fun r11 u9 t9 H1 locs ht hvm hw hB hz1 hk1 hS => ?_)
                  obtain ⟨hP, hK1, hD1⟩ := hB
                  rw [ht] at hP
                  have hD := hD1.weaken (fun _ _ _ h => hFc _ h)
                  generalize H1 = H at hP hS ⊢
                  obtain rfl : r11 = p10.1 := hw
                  refine lv_if_eq (tgt := 160) hx hb dX12_leave_156 (by decide) (fun c12 => ?_) (fun c12 => ?_)
                  ·
                    replace hf := (if_pos c12).symm.trans hf
                    refine lv_aload_n hx hb dX12_leave_160 rfl (lv_at hl 1 rfl) ?_
                    refine lv_dup hx hb dX12_leave_161 rfl ?_
                    refine rG_99 (v := (p10.2.i 99)) hx hb hts i_X12_leave_X12 hown hK hP (hts (.fieldLink RX12 586 "StatementRules2Model" "recs" "I") k_X12_leave_fieldLink_RX12_586_SRModel_recs_I) dX12_leave_162 rfl ?_
                    refine lv_iconst (v := 1) hx hb dX12_leave_165 (by decide) ?_
                    refine lv_isub hx hb dX12_leave_166 ?_
                    refine rP_99 hx hb hts i_X12_leave_X12 hown hK hP hD hS (hts (.fieldLink RX12 586 "StatementRules2Model" "recs" "I") k_X12_leave_fieldLink_RX12_586_SRModel_recs_I) dX12_leave_167 (fun H locs hP hD hS => ?_)
                    refine lv_goto (tgt := 0) hx hb dX12_leave_170 (by decide) ?_
                    exact ih (RS.setI p10.2 99 ((p10.2.i 99) - 1)) _ _ _ hf hP hD hS (lv_sub hl [1] rfl)
                  ·
                    replace hf := (if_neg c12).symm.trans hf
                    obtain rfl := Option.some.inj hf
                    exact W.vret hx hb hr (fun t ht hW => ⟨⟨(), rfl, trivial, by rw [ht]; exact hP, va_K.moved hW.alike hK, hD⟩, hS.F ht⟩) hS.2.2 dX12_leave_159
              ·
                replace hf := (if_pos c8).symm.trans hf
                refine lv_aload_n hx hb dX12_leave_119 rfl (lv_at hl 1 rfl) ?_
                refine lv_iload_n hx hb dX12_leave_120 rfl (lv_at hl 0 rfl) ?_
                obtain ⟨p13, hcp13, hf⟩ := hf_bind hf
                have hFc := r_free hD hS hA
                refine va_callv (va_runV (As := [.int ((σ.i 99) - 1)]) (rest := []) ⟨hx, hb, hml, hown, hts⟩ (c_X12_closeAll l dC dI _ Q N σ ((σ.i 99) - 1) p13 hcp13) (cwV 1 hts hX12_leave_X12_closeAll_v624 rfl rfl rfl (by decide +kernel) ⟨Nat.le_of_ble_eq_true rfl, Nat.le_of_ble_eq_true rfl⟩) ⟨zPre.blind, va_recv hK hP (ci := 11) (q0 := 0) rfl rfl, zPre.go hZ hP hK hD⟩ rfl rfl hl.1 rfl (lv_room (Nat.le_of_ble_eq_true rfl)) dX12_leave_121 ⟨Nat.le_of_ble_eq_true rfl, Nat.le_of_ble_eq_true rfl⟩) hS (fun q _ h => hFc q h) hFc (fun u9 t9 H1 locs ht hvm hw hB hz1 hk1 hS => ?_)
                obtain ⟨hP, hK1, hD1⟩ := hB
                rw [ht] at hP
                have hD := hD1.weaken (fun _ _ _ h => hFc _ h)
                generalize H1 = H at hP hS ⊢
                refine lv_aload_n hx hb dX12_leave_124 rfl (lv_at hl 1 rfl) ?_
                refine rG_110 (v := (p13.i 110)) hx hb hts i_X12_leave_X12 hown hK hP (hts (.fieldLink RX12 597 "StatementRules2Model" "how" "I") k_X12_leave_fieldLink_RX12_597_SRModel_how_I) dX12_leave_125 rfl ?_
                refine lv_iconst (v := 3) hx hb dX12_leave_128 (by decide) ?_
                refine lv_icmp_ne (tgt := 141) hx hb dX12_leave_129 (by decide) (fun c15 => ?_) (fun c15 => ?_)
                ·
                  replace hf := (if_neg c15).symm.trans hf
                  refine lv_aload_n hx hb dX12_leave_141 rfl (lv_at hl 1 rfl) ?_
                  refine rG_102 hx hb hts i_X12_leave_X12 hown hK hP (hts (.fieldLink RX12 249 "StatementRules2Model" "rb" "[I") k_X12_leave_fieldLink_RX12_249_SRModel_rb_I) dX12_leave_142 ?_
                  refine lv_iload_n hx hb dX12_leave_145 rfl (lv_at hl 0 rfl) ?_
                  refine rL_102 (v := (p13.a 102 ((((σ.i 99) - 1) : Int32).toNatClampNeg))) hx hb hK hP b4 dX12_leave_146 rfl ?_
                  refine lv_iconst (v := 2) hx hb dX12_leave_147 (by decide) ?_
                  refine lv_icmp_ge (tgt := 160) hx hb dX12_leave_148 (by decide) (fun c16 => ?_) (fun c16 => ?_)
                  ·
                    replace hf := (if_pos c16).symm.trans hf
                    refine lv_aload_n hx hb dX12_leave_160 rfl (lv_at hl 1 rfl) ?_
                    refine lv_dup hx hb dX12_leave_161 rfl ?_
                    refine rG_99 (v := (p13.i 99)) hx hb hts i_X12_leave_X12 hown hK hP (hts (.fieldLink RX12 586 "StatementRules2Model" "recs" "I") k_X12_leave_fieldLink_RX12_586_SRModel_recs_I) dX12_leave_162 rfl ?_
                    refine lv_iconst (v := 1) hx hb dX12_leave_165 (by decide) ?_
                    refine lv_isub hx hb dX12_leave_166 ?_
                    refine rP_99 hx hb hts i_X12_leave_X12 hown hK hP hD hS (hts (.fieldLink RX12 586 "StatementRules2Model" "recs" "I") k_X12_leave_fieldLink_RX12_586_SRModel_recs_I) dX12_leave_167 (fun H locs hP hD hS => ?_)
                    refine lv_goto (tgt := 0) hx hb dX12_leave_170 (by decide) ?_
                    exact ih (RS.setI p13 99 ((p13.i 99) - 1)) _ _ _ hf hP hD hS (lv_sub hl [1] rfl)
                  ·
                    replace hf := (if_neg c16).symm.trans hf
                    refine lv_aload_n hx hb dX12_leave_151 rfl (lv_at hl 1 rfl) ?_
                    refine lv_iload_n hx hb dX12_leave_152 rfl (lv_at hl 0 rfl) ?_
                    obtain ⟨p17, hcp17, hf⟩ := hf_bind hf
                    have hFc := r_free hD hS hA
                    refine va_calli (va_runV (As := [.int ((σ.i 99) - 1)]) (rest := []) ⟨hx, hb, hml, hown, hts⟩ (c_X12_finals l dC dI _ Q N p13 ((σ.i 99) - 1) p17 hcp17) (cwV 1 hts hX12_leave_X12_finals_v630 rfl rfl rfl (by decide +kernel) ⟨Nat.le_of_ble_eq_true rfl, Nat.le_of_ble_eq_true rfl⟩) ⟨zPre.blind, va_recv hK hP (ci := 11) (q0 := 0) rfl rfl, zPre.go hZ hP hK hD⟩ rfl rfl hl.1 rfl (lv_room (Nat.le_of_ble_eq_true rfl)) dX12_leave_153 ⟨Nat.le_of_ble_eq_true rfl, Nat.le_of_ble_eq_true rfl⟩) hS (fun q _ h => hFc q h) hFc (fun r18 u9 t9 H1 locs ht hvm hw hB hz1 hk1 hS => ?_)
                    obtain ⟨hP, hK1, hD1⟩ := hB
                    rw [ht] at hP
                    have hD := hD1.weaken (fun _ _ _ h => hFc _ h)
                    generalize H1 = H at hP hS ⊢
                    obtain rfl : r18 = p17.1 := hw
                    refine lv_if_eq (tgt := 160) hx hb dX12_leave_156 (by decide) (fun c19 => ?_) (fun c19 => ?_)
                    ·
                      replace hf := (if_pos c19).symm.trans hf
                      refine lv_aload_n hx hb dX12_leave_160 rfl (lv_at hl 1 rfl) ?_
                      refine lv_dup hx hb dX12_leave_161 rfl ?_
                      refine rG_99 (v := (p17.2.i 99)) hx hb hts i_X12_leave_X12 hown hK hP (hts (.fieldLink RX12 586 "StatementRules2Model" "recs" "I") k_X12_leave_fieldLink_RX12_586_SRModel_recs_I) dX12_leave_162 rfl ?_
                      refine lv_iconst (v := 1) hx hb dX12_leave_165 (by decide) ?_
                      refine lv_isub hx hb dX12_leave_166 ?_
                      refine rP_99 hx hb hts i_X12_leave_X12 hown hK hP hD hS (hts (.fieldLink RX12 586 "StatementRules2Model" "recs" "I") k_X12_leave_fieldLink_RX12_586_SRModel_recs_I) dX12_leave_167 (fun H locs hP hD hS => ?_)
                      refine lv_goto (tgt := 0) hx hb dX12_leave_170 (by decide) ?_
                      exact ih (RS.setI p17.2 99 ((p17.2.i 99) - 1)) _ _ _ hf hP hD hS (lv_sub hl [1] rfl)
                    ·
                      replace hf := (if_neg c19).symm.trans hf
                      obtain rfl := Option.some.inj hf
                      exact W.vret hx hb hr (fun t ht hW => ⟨⟨(), rfl, trivial, by rw [ht]; exact hP, va_K.moved hW.alike hK, hD⟩, hS.F ht⟩) hS.2.2 dX12_leave_159
                ·
                  replace hf := (if_pos c15).symm.trans hf
                  refine lv_aload_n hx hb dX12_leave_132 rfl (lv_at hl 1 rfl) ?_
                  refine lv_iload_n hx hb dX12_leave_133 rfl (lv_at hl 0 rfl) ?_
                  obtain ⟨p20, hcp20, hf⟩ := hf_bind hf
                  have hFc := r_free hD hS hA
                  refine va_calli (va_runV (As := [.int ((σ.i 99) - 1)]) (rest := []) ⟨hx, hb, hml, hown, hts⟩ (c_X12_isCaught l dC dI _ Q N p13 ((σ.i 99) - 1) p20 hcp20) (cwV 1 hts hX12_leave_X12_isCaught_v627 rfl rfl rfl (by decide +kernel) ⟨Nat.le_of_ble_eq_true rfl, Nat.le_of_ble_eq_true rfl⟩) ⟨zPre.blind, va_recv hK hP (ci := 11) (q0 := 0) rfl rfl, zPre.go hZ hP hK hD⟩ rfl rfl hl.1 rfl (lv_room (Nat.le_of_ble_eq_true rfl)) dX12_leave_134 ⟨Nat.le_of_ble_eq_true rfl, Nat.le_of_ble_eq_true rfl⟩) hS (fun q _ h => hFc q h) hFc (fun r21 u9 t9 H1 locs ht hvm hw hB hz1 hk1 hS => ?_)
                  obtain ⟨hP, hK1, hD1⟩ := hB
                  rw [ht] at hP
                  have hD := hD1.weaken (fun _ _ _ h => hFc _ h)
                  generalize H1 = H at hP hS ⊢
                  obtain rfl : r21 = p20.1 := hw
                  refine lv_if_eq (tgt := 141) hx hb dX12_leave_137 (by decide) (fun c22 => ?_) (fun c22 => ?_)
                  ·
                    replace hf := (if_pos c22).symm.trans hf
                    refine lv_aload_n hx hb dX12_leave_141 rfl (lv_at hl 1 rfl) ?_
                    refine rG_102 hx hb hts i_X12_leave_X12 hown hK hP (hts (.fieldLink RX12 249 "StatementRules2Model" "rb" "[I") k_X12_leave_fieldLink_RX12_249_SRModel_rb_I) dX12_leave_142 ?_
                    refine lv_iload_n hx hb dX12_leave_145 rfl (lv_at hl 0 rfl) ?_
                    refine rL_102 (v := (p20.2.a 102 ((((σ.i 99) - 1) : Int32).toNatClampNeg))) hx hb hK hP b4 dX12_leave_146 rfl ?_
                    refine lv_iconst (v := 2) hx hb dX12_leave_147 (by decide) ?_
                    refine lv_icmp_ge (tgt := 160) hx hb dX12_leave_148 (by decide) (fun c23 => ?_) (fun c23 => ?_)
                    ·
                      replace hf := (if_pos c23).symm.trans hf
                      refine lv_aload_n hx hb dX12_leave_160 rfl (lv_at hl 1 rfl) ?_
                      refine lv_dup hx hb dX12_leave_161 rfl ?_
                      refine rG_99 (v := (p20.2.i 99)) hx hb hts i_X12_leave_X12 hown hK hP (hts (.fieldLink RX12 586 "StatementRules2Model" "recs" "I") k_X12_leave_fieldLink_RX12_586_SRModel_recs_I) dX12_leave_162 rfl ?_
                      refine lv_iconst (v := 1) hx hb dX12_leave_165 (by decide) ?_
                      refine lv_isub hx hb dX12_leave_166 ?_
                      refine rP_99 hx hb hts i_X12_leave_X12 hown hK hP hD hS (hts (.fieldLink RX12 586 "StatementRules2Model" "recs" "I") k_X12_leave_fieldLink_RX12_586_SRModel_recs_I) dX12_leave_167 (fun H locs hP hD hS => ?_)
                      refine lv_goto (tgt := 0) hx hb dX12_leave_170 (by decide) ?_
                      exact ih (RS.setI p20.2 99 ((p20.2.i 99) - 1)) _ _ _ hf hP hD hS (lv_sub hl [1] rfl)
                    ·
                      replace hf := (if_neg c23).symm.trans hf
                      refine lv_aload_n hx hb dX12_leave_151 rfl (lv_at hl 1 rfl) ?_
                      refine lv_iload_n hx hb dX12_leave_152 rfl (lv_at hl 0 rfl) ?_
                      obtain ⟨p24, hcp24, hf⟩ := hf_bind hf
                      have hFc := r_free hD hS hA
                      refine va_calli (va_runV (As := [.int ((σ.i 99) - 1)]) (rest := []) ⟨hx, hb, hml, hown, hts⟩ (c_X12_finals l dC dI _ Q N p20.2 ((σ.i 99) - 1) p24 hcp24) (cwV 1 hts hX12_leave_X12_finals_v630 rfl rfl rfl (by decide +kernel) ⟨Nat.le_of_ble_eq_true rfl, Nat.le_of_ble_eq_true rfl⟩) ⟨zPre.blind, va_recv hK hP (ci := 11) (q0 := 0) rfl rfl, zPre.go hZ hP hK hD⟩ rfl rfl hl.1 rfl (lv_room (Nat.le_of_ble_eq_true rfl)) dX12_leave_153 ⟨Nat.le_of_ble_eq_true rfl, Nat.le_of_ble_eq_true rfl⟩) hS (fun q _ h => hFc q h) hFc (fun r25 u9 t9 H1 locs ht hvm hw hB hz1 hk1 hS => ?_)
                      obtain ⟨hP, hK1, hD1⟩ := hB
                      rw [ht] at hP
                      have hD := hD1.weaken (fun _ _ _ h => hFc _ h)
                      generalize H1 = H at hP hS ⊢
                      obtain rfl : r25 = p24.1 := hw
                      refine lv_if_eq (tgt := 160) hx hb dX12_leave_156 (by decide) (fun c26 => ?_) (fun c26 => ?_)
                      ·
                        replace hf := (if_pos c26).symm.trans hf
                        refine lv_aload_n hx hb dX12_leave_160 rfl (lv_at hl 1 rfl) ?_
                        refine lv_dup hx hb dX12_leave_161 rfl ?_
                        refine rG_99 (v := (p24.2.i 99)) hx hb hts i_X12_leave_X12 hown hK hP (hts (.fieldLink RX12 586 "StatementRules2Model" "recs" "I") k_X12_leave_fieldLink_RX12_586_SRModel_recs_I) dX12_leave_162 rfl ?_
                        refine lv_iconst (v := 1) hx hb dX12_leave_165 (by decide) ?_
                        refine lv_isub hx hb dX12_leave_166 ?_
                        refine rP_99 hx hb hts i_X12_leave_X12 hown hK hP hD hS (hts (.fieldLink RX12 586 "StatementRules2Model" "recs" "I") k_X12_leave_fieldLink_RX12_586_SRModel_recs_I) dX12_leave_167 (fun H locs hP hD hS => ?_)
                        refine lv_goto (tgt := 0) hx hb dX12_leave_170 (by decide) ?_
                        exact ih (RS.setI p24.2 99 ((p24.2.i 99) - 1)) _ _ _ hf hP hD hS (lv_sub hl [1] rfl)
                      ·
                        replace hf := (if_neg c26).symm.trans hf
                        obtain rfl := Option.some.inj hf
                        exact W.vret hx hb hr (fun t ht hW => ⟨⟨(), rfl, trivial, by rw [ht]; exact hP, va_K.moved hW.alike hK, hD⟩, hS.F ht⟩) hS.2.2 dX12_leave_159
                  ·
                    replace hf := (if_neg c22).symm.trans hf
                    obtain rfl := Option.some.inj hf
                    exact W.vret hx hb hr (fun t ht hW => ⟨⟨(), rfl, trivial, by rw [ht]; exact hP, va_K.moved hW.alike hK, hD⟩, hS.F ht⟩) hS.2.2 dX12_leave_140
          ·
            replace hf := (if_pos c6).symm.trans hf
            refine lv_aload_n hx hb dX12_leave_87 rfl (lv_at hl 1 rfl) ?_
            refine lv_aload_n hx hb dX12_leave_88 rfl (lv_at hl 1 rfl) ?_
            refine rG_101 hx hb hts i_X12_leave_X12 hown hK hP (hts (.fieldLink RX12 246 "StatementRules2Model" "ra" "[I") k_X12_leave_fieldLink_RX12_246_SRModel_ra_I) dX12_leave_89 ?_
            refine lv_iload_n hx hb dX12_leave_92 rfl (lv_at hl 0 rfl) ?_
            refine rL_101 (v := (σ.a 101 ((((σ.i 99) - 1) : Int32).toNatClampNeg))) hx hb hK hP b4 dX12_leave_93 rfl ?_
            refine rP_97 hx hb hts i_X12_leave_X12 hown hK hP hD hS (hts (.fieldLink RX12 621 "StatementRules2Model" "waiting" "I") k_X12_leave_fieldLink_RX12_621_SRModel_waiting_I) dX12_leave_94 (fun H locs hP hD hS => ?_)
            refine lv_goto (tgt := 160) hx hb dX12_leave_97 (by decide) ?_
            refine lv_aload_n hx hb dX12_leave_160 rfl (lv_at hl 1 rfl) ?_
            refine lv_dup hx hb dX12_leave_161 rfl ?_
            refine rG_99 (v := (σ.i 99)) hx hb hts i_X12_leave_X12 hown hK hP (hts (.fieldLink RX12 586 "StatementRules2Model" "recs" "I") k_X12_leave_fieldLink_RX12_586_SRModel_recs_I) dX12_leave_162 rfl ?_
            refine lv_iconst (v := 1) hx hb dX12_leave_165 (by decide) ?_
            refine lv_isub hx hb dX12_leave_166 ?_
            refine rP_99 hx hb hts i_X12_leave_X12 hown hK hP hD hS (hts (.fieldLink RX12 586 "StatementRules2Model" "recs" "I") k_X12_leave_fieldLink_RX12_586_SRModel_recs_I) dX12_leave_167 (fun H locs hP hD hS => ?_)
            refine lv_goto (tgt := 0) hx hb dX12_leave_170 (by decide) ?_
            exact ih (RS.setI (RS.setI σ 97 (σ.a 101 ((((σ.i 99) - 1) : Int32).toNatClampNeg))) 99 ((σ.i 99) - 1)) _ _ _ hf hP hD hS (lv_sub hl [1] rfl)
        ·
          replace hf := (if_pos c5).symm.trans hf
          refine lv_aload_n hx hb dX12_leave_48 rfl (lv_at hl 1 rfl) ?_
          refine lv_iconst (v := 4) hx hb dX12_leave_49 (by decide) ?_
          refine lv_aload_n hx hb dX12_leave_50 rfl (lv_at hl 1 rfl) ?_
          refine rG_101 hx hb hts i_X12_leave_X12 hown hK hP (hts (.fieldLink RX12 246 "StatementRules2Model" "ra" "[I") k_X12_leave_fieldLink_RX12_246_SRModel_ra_I) dX12_leave_51 ?_
          refine lv_iload_n hx hb dX12_leave_54 rfl (lv_at hl 0 rfl) ?_
          refine rL_101 (v := (σ.a 101 ((((σ.i 99) - 1) : Int32).toNatClampNeg))) hx hb hK hP b4 dX12_leave_55 rfl ?_
          obtain ⟨p27, hcp27, hf⟩ := hf_bind hf
          have hFc := r_free hD hS hA
          refine va_callv (va_runV (As := [.int 4, .int (σ.a 101 ((((σ.i 99) - 1) : Int32).toNatClampNeg))]) (rest := []) ⟨hx, hb, hml, hown, hts⟩ (c_X12_row l dC dI _ Q N σ 4 (σ.a 101 ((((σ.i 99) - 1) : Int32).toNatClampNeg)) p27 hcp27) (cwV 2 hts hX12_leave_X12_row_v603 rfl rfl rfl (by decide +kernel) ⟨Nat.le_of_ble_eq_true rfl, Nat.le_of_ble_eq_true rfl⟩) ⟨zPre.blind, va_recv hK hP (ci := 11) (q0 := 0) rfl rfl, zPre.go hZ hP hK hD⟩ rfl rfl hl.1 rfl (lv_room (Nat.le_of_ble_eq_true rfl)) dX12_leave_56 ⟨Nat.le_of_ble_eq_true rfl, Nat.le_of_ble_eq_true rfl⟩) hS (fun q _ h => hFc q h) hFc (fun u9 t9 H1 locs ht hvm hw hB hz1 hk1 hS => ?_)
          obtain ⟨hP, hK1, hD1⟩ := hB
          rw [ht] at hP
          have hD := hD1.weaken (fun _ _ _ h => hFc _ h)
          generalize H1 = H at hP hS ⊢
          refine lv_aload_n hx hb dX12_leave_59 rfl (lv_at hl 1 rfl) ?_
          refine rG_91 hx hb hts i_X12_leave_X12 hown hK hP (hts (.fieldLink RX12 231 "StatementRules2Model" "held" "[I") k_X12_leave_fieldLink_RX12_231_SRModel_held_I) dX12_leave_60 ?_
          refine lv_aload_n hx hb dX12_leave_63 rfl (lv_at hl 1 rfl) ?_
          refine rG_101 hx hb hts i_X12_leave_X12 hown hK hP (hts (.fieldLink RX12 246 "StatementRules2Model" "ra" "[I") k_X12_leave_fieldLink_RX12_246_SRModel_ra_I) dX12_leave_64 ?_
          refine lv_iload_n hx hb dX12_leave_67 rfl (lv_at hl 0 rfl) ?_
          refine rL_101 (v := (p27.a 101 ((((σ.i 99) - 1) : Int32).toNatClampNeg))) hx hb hK hP b4 dX12_leave_68 rfl ?_
          refine lv_dup2_11 hx hb dX12_leave_69 rfl rfl ?_
          obtain ⟨b29, hf⟩ := hf_ite hf
          refine rL_91 (v := (p27.a 91 (((p27.a 101 ((((σ.i 99) - 1) : Int32).toNatClampNeg)) : Int32).toNatClampNeg))) hx hb hK hP b29 dX12_leave_70 rfl ?_
          refine lv_iconst (v := 1) hx hb dX12_leave_71 (by decide) ?_
          refine lv_isub hx hb dX12_leave_72 ?_
          refine rS_91 hx hb hK hP hD hS b29 dX12_leave_73 (fun H locs hP hD hS => ?_)
          refine lv_goto (tgt := 160) hx hb dX12_leave_74 (by decide) ?_
          refine lv_aload_n hx hb dX12_leave_160 rfl (lv_at hl 1 rfl) ?_
          refine lv_dup hx hb dX12_leave_161 rfl ?_
          refine rG_99 (v := (p27.i 99)) hx hb hts i_X12_leave_X12 hown hK hP (hts (.fieldLink RX12 586 "StatementRules2Model" "recs" "I") k_X12_leave_fieldLink_RX12_586_SRModel_recs_I) dX12_leave_162 rfl ?_
          refine lv_iconst (v := 1) hx hb dX12_leave_165 (by decide) ?_
          refine lv_isub hx hb dX12_leave_166 ?_
          refine rP_99 hx hb hts i_X12_leave_X12 hown hK hP hD hS (hts (.fieldLink RX12 586 "StatementRules2Model" "recs" "I") k_X12_leave_fieldLink_RX12_586_SRModel_recs_I) dX12_leave_167 (fun H locs hP hD hS => ?_)
          refine lv_goto (tgt := 0) hx hb dX12_leave_170 (by decide) ?_
          exact ih (RS.setI (RS.setA p27 91 (((p27.a 101 ((((σ.i 99) - 1) : Int32).toNatClampNeg)) : Int32).toNatClampNeg) ((p27.a 91 (((p27.a 101 ((((σ.i 99) - 1) : Int32).toNatClampNeg)) : Int32).toNatClampNeg)) - 1)) 99 ((p27.i 99) - 1)) _ _ _ hf hP hD hS (lv_sub hl [1] rfl)
    ·
      replace hf := (if_neg c1).symm.trans hf
      refine lv_aload_n hx hb dX12_leave_12 rfl (lv_at hl 0 rfl) ?_
      refine rG_110 (v := (σ.i 110)) hx hb hts i_X12_leave_X12 hown hK hP (hts (.fieldLink RX12 597 "StatementRules2Model" "how" "I") k_X12_leave_fieldLink_RX12_597_SRModel_how_I) dX12_leave_13 rfl ?_
      refine lv_iconst (v := 4) hx hb dX12_leave_16 (by decide) ?_
      refine lv_icmp_ne (tgt := 27) hx hb dX12_leave_17 (by decide) (fun c30 => ?_) (fun c30 => ?_)
      ·
        replace hf := (if_neg c30).symm.trans hf
        refine lv_iconst (v := 0) hx hb dX12_leave_27 (by decide) ?_
        refine lv_icmp_le (tgt := 173) hx hb dX12_leave_28 (by decide) (fun c31 => ?_) (fun c31 => ?_)
        ·
          replace hf := (if_pos c31).symm.trans hf
          refine lv_aload_n hx hb dX12_leave_173 rfl (lv_at hl 0 rfl) ?_
          refine rG_110 (v := (σ.i 110)) hx hb hts i_X12_leave_X12 hown hK hP (hts (.fieldLink RX12 597 "StatementRules2Model" "how" "I") k_X12_leave_fieldLink_RX12_597_SRModel_how_I) dX12_leave_174 rfl ?_
          refine lv_iconst (v := 1) hx hb dX12_leave_177 (by decide) ?_
          refine lv_icmp_ne (tgt := 192) hx hb dX12_leave_178 (by decide) (fun _ => ?_) (fun c9 => absurd c9 c1)
          refine lv_aload_n hx hb dX12_leave_192 rfl (lv_at hl 0 rfl) ?_
          refine rG_110 (v := (σ.i 110)) hx hb hts i_X12_leave_X12 hown hK hP (hts (.fieldLink RX12 597 "StatementRules2Model" "how" "I") k_X12_leave_fieldLink_RX12_597_SRModel_how_I) dX12_leave_193 rfl ?_
          refine lv_iconst (v := 4) hx hb dX12_leave_196 (by decide) ?_
          refine lv_icmp_ne (tgt := 252) hx hb dX12_leave_197 (by decide) (fun _ => ?_) (fun c9 => absurd c9 c30)
          refine lv_aload_n hx hb dX12_leave_252 rfl (lv_at hl 0 rfl) ?_
          refine lv_aload_n hx hb dX12_leave_253 rfl (lv_at hl 0 rfl) ?_
          refine rG_110 (v := (σ.i 110)) hx hb hts i_X12_leave_X12 hown hK hP (hts (.fieldLink RX12 597 "StatementRules2Model" "how" "I") k_X12_leave_fieldLink_RX12_597_SRModel_how_I) dX12_leave_254 rfl ?_
          refine rP_115 hx hb hts i_X12_leave_X12 hown hK hP hD hS (hts (.fieldLink RX12 636 "StatementRules2Model" "ended" "I") k_X12_leave_fieldLink_RX12_636_SRModel_ended_I) dX12_leave_257 (fun H locs hP hD hS => ?_)
          refine lv_aload_n hx hb dX12_leave_260 rfl (lv_at hl 0 rfl) ?_
          refine lv_iconst (v := (-1)) hx hb dX12_leave_261 (by decide) ?_
          refine rP_92 hx hb hts i_X12_leave_X12 hown hK hP hD hS (hts (.fieldLink RX12 618 "StatementRules2Model" "pc" "I") k_X12_leave_fieldLink_RX12_618_SRModel_pc_I) dX12_leave_262 (fun H locs hP hD hS => ?_)
          obtain rfl := Option.some.inj hf
          exact W.vret hx hb hr (fun t ht hW => ⟨⟨(), rfl, trivial, by rw [ht]; exact hP, va_K.moved hW.alike hK, hD⟩, hS.F ht⟩) hS.2.2 dX12_leave_265
        ·
          replace hf := (if_neg c31).symm.trans hf
          refine lv_aload_n hx hb dX12_leave_31 rfl (lv_at hl 0 rfl) ?_
          refine rG_99 (v := (σ.i 99)) hx hb hts i_X12_leave_X12 hown hK hP (hts (.fieldLink RX12 586 "StatementRules2Model" "recs" "I") k_X12_leave_fieldLink_RX12_586_SRModel_recs_I) dX12_leave_32 rfl ?_
          refine lv_iconst (v := 1) hx hb dX12_leave_35 (by decide) ?_
          refine lv_isub hx hb dX12_leave_36 ?_
          refine lv_istore_n (lv' := [(1, .int ((σ.i 99) - 1)), (0, .ref Q.h0)]) hx hb dX12_leave_37 rfl hl (by decide) rfl (fun ls hl => ?_)
          refine lv_aload_n hx hb dX12_leave_38 rfl (lv_at hl 1 rfl) ?_
          refine rG_100 hx hb hts i_X12_leave_X12 hown hK hP (hts (.fieldLink RX12 243 "StatementRules2Model" "rk" "[I") k_X12_leave_fieldLink_RX12_243_SRModel_rk_I) dX12_leave_39 ?_
          refine lv_iload_n hx hb dX12_leave_42 rfl (lv_at hl 0 rfl) ?_
          obtain ⟨b34, hf⟩ := hf_ite hf
          refine rL_100 (v := (σ.a 100 ((((σ.i 99) - 1) : Int32).toNatClampNeg))) hx hb hK hP b34 dX12_leave_43 rfl ?_
          refine lv_iconst (v := 1) hx hb dX12_leave_44 (by decide) ?_
          refine lv_icmp_ne (tgt := 77) hx hb dX12_leave_45 (by decide) (fun c35 => ?_) (fun c35 => ?_)
          ·
            replace hf := (if_neg c35).symm.trans hf
            refine lv_aload_n hx hb dX12_leave_77 rfl (lv_at hl 1 rfl) ?_
            refine rG_100 hx hb hts i_X12_leave_X12 hown hK hP (hts (.fieldLink RX12 243 "StatementRules2Model" "rk" "[I") k_X12_leave_fieldLink_RX12_243_SRModel_rk_I) dX12_leave_78 ?_
            refine lv_iload_n hx hb dX12_leave_81 rfl (lv_at hl 0 rfl) ?_
            refine rL_100 (v := (σ.a 100 ((((σ.i 99) - 1) : Int32).toNatClampNeg))) hx hb hK hP b34 dX12_leave_82 rfl ?_
            refine lv_iconst (v := 2) hx hb dX12_leave_83 (by decide) ?_
            refine lv_icmp_ne (tgt := 100) hx hb dX12_leave_84 (by decide) (fun c36 => ?_) (fun c36 => ?_)
            ·
              replace hf := (if_neg c36).symm.trans hf
              refine lv_aload_n hx hb dX12_leave_100 rfl (lv_at hl 1 rfl) ?_
              refine rG_100 hx hb hts i_X12_leave_X12 hown hK hP (hts (.fieldLink RX12 243 "StatementRules2Model" "rk" "[I") k_X12_leave_fieldLink_RX12_243_SRModel_rk_I) dX12_leave_101 ?_
              refine lv_iload_n hx hb dX12_leave_104 rfl (lv_at hl 0 rfl) ?_
              refine rL_100 (v := (σ.a 100 ((((σ.i 99) - 1) : Int32).toNatClampNeg))) hx hb hK hP b34 dX12_leave_105 rfl ?_
              refine lv_iconst (v := 4) hx hb dX12_leave_106 (by decide) ?_
              refine lv_icmp_ne (tgt := 160) hx hb dX12_leave_107 (by decide) (fun c37 => ?_) (fun c37 => ?_)
              ·
                replace hf := (if_neg c37).symm.trans hf
                refine lv_aload_n hx hb dX12_leave_160 rfl (lv_at hl 1 rfl) ?_
                refine lv_dup hx hb dX12_leave_161 rfl ?_
                refine rG_99 (v := (σ.i 99)) hx hb hts i_X12_leave_X12 hown hK hP (hts (.fieldLink RX12 586 "StatementRules2Model" "recs" "I") k_X12_leave_fieldLink_RX12_586_SRModel_recs_I) dX12_leave_162 rfl ?_
                refine lv_iconst (v := 1) hx hb dX12_leave_165 (by decide) ?_
                refine lv_isub hx hb dX12_leave_166 ?_
                refine rP_99 hx hb hts i_X12_leave_X12 hown hK hP hD hS (hts (.fieldLink RX12 586 "StatementRules2Model" "recs" "I") k_X12_leave_fieldLink_RX12_586_SRModel_recs_I) dX12_leave_167 (fun H locs hP hD hS => ?_)
                refine lv_goto (tgt := 0) hx hb dX12_leave_170 (by decide) ?_
                exact ih (RS.setI σ 99 ((σ.i 99) - 1)) _ _ _ hf hP hD hS (lv_sub hl [1] rfl)
              ·
                replace hf := (if_pos c37).symm.trans hf
                refine lv_aload_n hx hb dX12_leave_110 rfl (lv_at hl 1 rfl) ?_
                refine rG_102 hx hb hts i_X12_leave_X12 hown hK hP (hts (.fieldLink RX12 249 "StatementRules2Model" "rb" "[I") k_X12_leave_fieldLink_RX12_249_SRModel_rb_I) dX12_leave_111 ?_
                refine lv_iload_n hx hb dX12_leave_114 rfl (lv_at hl 0 rfl) ?_
                refine rL_102 (v := (σ.a 102 ((((σ.i 99) - 1) : Int32).toNatClampNeg))) hx hb hK hP b34 dX12_leave_115 rfl ?_
                refine lv_if_ne (tgt := 141) hx hb dX12_leave_116 (by decide) (fun c38 => ?_) (fun c38 => ?_)
                ·
                  replace hf := (if_neg c38).symm.trans hf
                  refine lv_aload_n hx hb dX12_leave_141 rfl (lv_at hl 1 rfl) ?_
                  refine rG_102 hx hb hts i_X12_leave_X12 hown hK hP (hts (.fieldLink RX12 249 "StatementRules2Model" "rb" "[I") k_X12_leave_fieldLink_RX12_249_SRModel_rb_I) dX12_leave_142 ?_
                  refine lv_iload_n hx hb dX12_leave_145 rfl (lv_at hl 0 rfl) ?_
                  refine rL_102 (v := (σ.a 102 ((((σ.i 99) - 1) : Int32).toNatClampNeg))) hx hb hK hP b34 dX12_leave_146 rfl ?_
                  refine lv_iconst (v := 2) hx hb dX12_leave_147 (by decide) ?_
                  refine lv_icmp_ge (tgt := 160) hx hb dX12_leave_148 (by decide) (fun c39 => ?_) (fun c39 => ?_)
                  ·
                    replace hf := (if_pos c39).symm.trans hf
                    refine lv_aload_n hx hb dX12_leave_160 rfl (lv_at hl 1 rfl) ?_
                    refine lv_dup hx hb dX12_leave_161 rfl ?_
                    refine rG_99 (v := (σ.i 99)) hx hb hts i_X12_leave_X12 hown hK hP (hts (.fieldLink RX12 586 "StatementRules2Model" "recs" "I") k_X12_leave_fieldLink_RX12_586_SRModel_recs_I) dX12_leave_162 rfl ?_
                    refine lv_iconst (v := 1) hx hb dX12_leave_165 (by decide) ?_
                    refine lv_isub hx hb dX12_leave_166 ?_
                    refine rP_99 hx hb hts i_X12_leave_X12 hown hK hP hD hS (hts (.fieldLink RX12 586 "StatementRules2Model" "recs" "I") k_X12_leave_fieldLink_RX12_586_SRModel_recs_I) dX12_leave_167 (fun H locs hP hD hS => ?_)
                    refine lv_goto (tgt := 0) hx hb dX12_leave_170 (by decide) ?_
                    exact ih (RS.setI σ 99 ((σ.i 99) - 1)) _ _ _ hf hP hD hS (lv_sub hl [1] rfl)
                  ·
                    replace hf := (if_neg c39).symm.trans hf
                    refine lv_aload_n hx hb dX12_leave_151 rfl (lv_at hl 1 rfl) ?_
                    refine lv_iload_n hx hb dX12_leave_152 rfl (lv_at hl 0 rfl) ?_
                    obtain ⟨p40, hcp40, hf⟩ := hf_bind hf
                    have hFc := r_free hD hS hA
                    refine va_calli (va_runV (As := [.int ((σ.i 99) - 1)]) (rest := []) ⟨hx, hb, hml, hown, hts⟩ (c_X12_finals l dC dI _ Q N σ ((σ.i 99) - 1) p40 hcp40) (cwV 1 hts hX12_leave_X12_finals_v630 rfl rfl rfl (by decide +kernel) ⟨Nat.le_of_ble_eq_true rfl, Nat.le_of_ble_eq_true rfl⟩) ⟨zPre.blind, va_recv hK hP (ci := 11) (q0 := 0) rfl rfl, zPre.go hZ hP hK hD⟩ rfl rfl hl.1 rfl (lv_room (Nat.le_of_ble_eq_true rfl)) dX12_leave_153 ⟨Nat.le_of_ble_eq_true rfl, Nat.le_of_ble_eq_true rfl⟩) hS (fun q _ h => hFc q h) hFc (fun r41 u9 t9 H1 locs ht hvm hw hB hz1 hk1 hS => ?_)
                    obtain ⟨hP, hK1, hD1⟩ := hB
                    rw [ht] at hP
                    have hD := hD1.weaken (fun _ _ _ h => hFc _ h)
                    generalize H1 = H at hP hS ⊢
                    obtain rfl : r41 = p40.1 := hw
                    refine lv_if_eq (tgt := 160) hx hb dX12_leave_156 (by decide) (fun c42 => ?_) (fun c42 => ?_)
                    ·
                      replace hf := (if_pos c42).symm.trans hf
                      refine lv_aload_n hx hb dX12_leave_160 rfl (lv_at hl 1 rfl) ?_
                      refine lv_dup hx hb dX12_leave_161 rfl ?_
                      refine rG_99 (v := (p40.2.i 99)) hx hb hts i_X12_leave_X12 hown hK hP (hts (.fieldLink RX12 586 "StatementRules2Model" "recs" "I") k_X12_leave_fieldLink_RX12_586_SRModel_recs_I) dX12_leave_162 rfl ?_
                      refine lv_iconst (v := 1) hx hb dX12_leave_165 (by decide) ?_
                      refine lv_isub hx hb dX12_leave_166 ?_
                      refine rP_99 hx hb hts i_X12_leave_X12 hown hK hP hD hS (hts (.fieldLink RX12 586 "StatementRules2Model" "recs" "I") k_X12_leave_fieldLink_RX12_586_SRModel_recs_I) dX12_leave_167 (fun H locs hP hD hS => ?_)
                      refine lv_goto (tgt := 0) hx hb dX12_leave_170 (by decide) ?_
                      exact ih (RS.setI p40.2 99 ((p40.2.i 99) - 1)) _ _ _ hf hP hD hS (lv_sub hl [1] rfl)
                    ·
                      replace hf := (if_neg c42).symm.trans hf
                      obtain rfl := Option.some.inj hf
                      exact W.vret hx hb hr (fun t ht hW => ⟨⟨(), rfl, trivial, by rw [ht]; exact hP, va_K.moved hW.alike hK, hD⟩, hS.F ht⟩) hS.2.2 dX12_leave_159
                ·
                  replace hf := (if_pos c38).symm.trans hf
                  refine lv_aload_n hx hb dX12_leave_119 rfl (lv_at hl 1 rfl) ?_
                  refine lv_iload_n hx hb dX12_leave_120 rfl (lv_at hl 0 rfl) ?_
                  obtain ⟨p43, hcp43, hf⟩ := hf_bind hf
                  have hFc := r_free hD hS hA
                  refine va_callv (va_runV (As := [.int ((σ.i 99) - 1)]) (rest := []) ⟨hx, hb, hml, hown, hts⟩ (c_X12_closeAll l dC dI _ Q N σ ((σ.i 99) - 1) p43 hcp43) (cwV 1 hts hX12_leave_X12_closeAll_v624 rfl rfl rfl (by decide +kernel) ⟨Nat.le_of_ble_eq_true rfl, Nat.le_of_ble_eq_true rfl⟩) ⟨zPre.blind, va_recv hK hP (ci := 11) (q0 := 0) rfl rfl, zPre.go hZ hP hK hD⟩ rfl rfl hl.1 rfl (lv_room (Nat.le_of_ble_eq_true rfl)) dX12_leave_121 ⟨Nat.le_of_ble_eq_true rfl, Nat.le_of_ble_eq_true rfl⟩) hS (fun q _ h => hFc q h) hFc (fun u9 t9 H1 locs ht hvm hw hB hz1 hk1 hS => ?_)
                  obtain ⟨hP, hK1, hD1⟩ := hB
                  rw [ht] at hP
                  have hD := hD1.weaken (fun _ _ _ h => hFc _ h)
                  generalize H1 = H at hP hS ⊢
                  refine lv_aload_n hx hb dX12_leave_124 rfl (lv_at hl 1 rfl) ?_
                  refine rG_110 (v := (p43.i 110)) hx hb hts i_X12_leave_X12 hown hK hP (hts (.fieldLink RX12 597 "StatementRules2Model" "how" "I") k_X12_leave_fieldLink_RX12_597_SRModel_how_I) dX12_leave_125 rfl ?_
                  refine lv_iconst (v := 3) hx hb dX12_leave_128 (by decide) ?_
                  refine lv_icmp_ne (tgt := 141) hx hb dX12_leave_129 (by decide) (fun c45 => ?_) (fun c45 => ?_)
                  ·
                    replace hf := (if_neg c45).symm.trans hf
                    refine lv_aload_n hx hb dX12_leave_141 rfl (lv_at hl 1 rfl) ?_
                    refine rG_102 hx hb hts i_X12_leave_X12 hown hK hP (hts (.fieldLink RX12 249 "StatementRules2Model" "rb" "[I") k_X12_leave_fieldLink_RX12_249_SRModel_rb_I) dX12_leave_142 ?_
                    refine lv_iload_n hx hb dX12_leave_145 rfl (lv_at hl 0 rfl) ?_
                    refine rL_102 (v := (p43.a 102 ((((σ.i 99) - 1) : Int32).toNatClampNeg))) hx hb hK hP b34 dX12_leave_146 rfl ?_
                    refine lv_iconst (v := 2) hx hb dX12_leave_147 (by decide) ?_
                    refine lv_icmp_ge (tgt := 160) hx hb dX12_leave_148 (by decide) (fun c46 => ?_) (fun c46 => ?_)
                    ·
                      replace hf := (if_pos c46).symm.trans hf
                      refine lv_aload_n hx hb dX12_leave_160 rfl (lv_at hl 1 rfl) ?_
                      refine lv_dup hx hb dX12_leave_161 rfl ?_
                      refine rG_99 (v := (p43.i 99)) hx hb hts i_X12_leave_X12 hown hK hP (hts (.fieldLink RX12 586 "StatementRules2Model" "recs" "I") k_X12_leave_fieldLink_RX12_586_SRModel_recs_I) dX12_leave_162 rfl ?_
                      refine lv_iconst (v := 1) hx hb dX12_leave_165 (by decide) ?_
                      refine lv_isub hx hb dX12_leave_166 ?_
                      refine rP_99 hx hb hts i_X12_leave_X12 hown hK hP hD hS (hts (.fieldLink RX12 586 "StatementRules2Model" "recs" "I") k_X12_leave_fieldLink_RX12_586_SRModel_recs_I) dX12_leave_167 (fun H locs hP hD hS => ?_)
                      refine lv_goto (tgt := 0) hx hb dX12_leave_170 (by decide) ?_
                      exact ih (RS.setI p43 99 ((p43.i 99) - 1)) _ _ _ hf hP hD hS (lv_sub hl [1] rfl)
                    ·
                      replace hf := (if_neg c46).symm.trans hf
                      refine lv_aload_n hx hb dX12_leave_151 rfl (lv_at hl 1 rfl) ?_
                      refine lv_iload_n hx hb dX12_leave_152 rfl (lv_at hl 0 rfl) ?_
                      obtain ⟨p47, hcp47, hf⟩ := hf_bind hf
                      have hFc := r_free hD hS hA
                      refine va_calli (va_runV (As := [.int ((σ.i 99) - 1)]) (rest := []) ⟨hx, hb, hml, hown, hts⟩ (c_X12_finals l dC dI _ Q N p43 ((σ.i 99) - 1) p47 hcp47) (cwV 1 hts hX12_leave_X12_finals_v630 rfl rfl rfl (by decide +kernel) ⟨Nat.le_of_ble_eq_true rfl, Nat.le_of_ble_eq_true rfl⟩) ⟨zPre.blind, va_recv hK hP (ci := 11) (q0 := 0) rfl rfl, zPre.go hZ hP hK hD⟩ rfl rfl hl.1 rfl (lv_room (Nat.le_of_ble_eq_true rfl)) dX12_leave_153 ⟨Nat.le_of_ble_eq_true rfl, Nat.le_of_ble_eq_true rfl⟩) hS (fun q _ h => hFc q h) hFc (fun r48 u9 t9 H1 locs ht hvm hw hB hz1 hk1 hS => ?_)
                      obtain ⟨hP, hK1, hD1⟩ := hB
                      rw [ht] at hP
                      have hD := hD1.weaken (fun _ _ _ h => hFc _ h)
                      generalize H1 = H at hP hS ⊢
                      obtain rfl : r48 = p47.1 := hw
                      refine lv_if_eq (tgt := 160) hx hb dX12_leave_156 (by decide) (fun c49 => ?_) (fun c49 => ?_)
                      ·
                        replace hf := (if_pos c49).symm.trans hf
                        refine lv_aload_n hx hb dX12_leave_160 rfl (lv_at hl 1 rfl) ?_
                        refine lv_dup hx hb dX12_leave_161 rfl ?_
                        refine rG_99 (v := (p47.2.i 99)) hx hb hts i_X12_leave_X12 hown hK hP (hts (.fieldLink RX12 586 "StatementRules2Model" "recs" "I") k_X12_leave_fieldLink_RX12_586_SRModel_recs_I) dX12_leave_162 rfl ?_
                        refine lv_iconst (v := 1) hx hb dX12_leave_165 (by decide) ?_
                        refine lv_isub hx hb dX12_leave_166 ?_
                        refine rP_99 hx hb hts i_X12_leave_X12 hown hK hP hD hS (hts (.fieldLink RX12 586 "StatementRules2Model" "recs" "I") k_X12_leave_fieldLink_RX12_586_SRModel_recs_I) dX12_leave_167 (fun H locs hP hD hS => ?_)
                        refine lv_goto (tgt := 0) hx hb dX12_leave_170 (by decide) ?_
                        exact ih (RS.setI p47.2 99 ((p47.2.i 99) - 1)) _ _ _ hf hP hD hS (lv_sub hl [1] rfl)
                      ·
                        replace hf := (if_neg c49).symm.trans hf
                        obtain rfl := Option.some.inj hf
                        exact W.vret hx hb hr (fun t ht hW => ⟨⟨(), rfl, trivial, by rw [ht]; exact hP, va_K.moved hW.alike hK, hD⟩, hS.F ht⟩) hS.2.2 dX12_leave_159
                  ·
                    replace hf := (if_pos c45).symm.trans hf
                    refine lv_aload_n hx hb dX12_leave_132 rfl (lv_at hl 1 rfl) ?_
                    refine lv_iload_n hx hb dX12_leave_133 rfl (lv_at hl 0 rfl) ?_
                    obtain ⟨p50, hcp50, hf⟩ := hf_bind hf
                    have hFc := r_free hD hS hA
                    refine va_calli (va_runV (As := [.int ((σ.i 99) - 1)]) (rest := []) ⟨hx, hb, hml, hown, hts⟩ (c_X12_isCaught l dC dI _ Q N p43 ((σ.i 99) - 1) p50 hcp50) (cwV 1 hts hX12_leave_X12_isCaught_v627 rfl rfl rfl (by decide +kernel) ⟨Nat.le_of_ble_eq_true rfl, Nat.le_of_ble_eq_true rfl⟩) ⟨zPre.blind, va_recv hK hP (ci := 11) (q0 := 0) rfl rfl, zPre.go hZ hP hK hD⟩ rfl rfl hl.1 rfl (lv_room (Nat.le_of_ble_eq_true rfl)) dX12_leave_134 ⟨Nat.le_of_ble_eq_true rfl, Nat.le_of_ble_eq_true rfl⟩) hS (fun q _ h => hFc q h) hFc (fun r51 u9 t9 H1 locs ht hvm hw hB hz1 hk1 hS => ?_)
                    obtain ⟨hP, hK1, hD1⟩ := hB
                    rw [ht] at hP
                    have hD := hD1.weaken (fun _ _ _ h => hFc _ h)
                    generalize H1 = H at hP hS ⊢
                    obtain rfl : r51 = p50.1 := hw
                    refine lv_if_eq (tgt := 141) hx hb dX12_leave_137 (by decide) (fun c52 => ?_) (fun c52 => ?_)
                    ·
                      replace hf := (if_pos c52).symm.trans hf
                      refine lv_aload_n hx hb dX12_leave_141 rfl (lv_at hl 1 rfl) ?_
                      refine rG_102 hx hb hts i_X12_leave_X12 hown hK hP (hts (.fieldLink RX12 249 "StatementRules2Model" "rb" "[I") k_X12_leave_fieldLink_RX12_249_SRModel_rb_I) dX12_leave_142 ?_
                      refine lv_iload_n hx hb dX12_leave_145 rfl (lv_at hl 0 rfl) ?_
                      refine rL_102 (v := (p50.2.a 102 ((((σ.i 99) - 1) : Int32).toNatClampNeg))) hx hb hK hP b34 dX12_leave_146 rfl ?_
                      refine lv_iconst (v := 2) hx hb dX12_leave_147 (by decide) ?_
                      refine lv_icmp_ge (tgt := 160) hx hb dX12_leave_148 (by decide) (fun c53 => ?_) (fun c53 => ?_)
                      ·
                        replace hf := (if_pos c53).symm.trans hf
                        refine lv_aload_n hx hb dX12_leave_160 rfl (lv_at hl 1 rfl) ?_
                        refine lv_dup hx hb dX12_leave_161 rfl ?_
                        refine rG_99 (v := (p50.2.i 99)) hx hb hts i_X12_leave_X12 hown hK hP (hts (.fieldLink RX12 586 "StatementRules2Model" "recs" "I") k_X12_leave_fieldLink_RX12_586_SRModel_recs_I) dX12_leave_162 rfl ?_
                        refine lv_iconst (v := 1) hx hb dX12_leave_165 (by decide) ?_
                        refine lv_isub hx hb dX12_leave_166 ?_
                        refine rP_99 hx hb hts i_X12_leave_X12 hown hK hP hD hS (hts (.fieldLink RX12 586 "StatementRules2Model" "recs" "I") k_X12_leave_fieldLink_RX12_586_SRModel_recs_I) dX12_leave_167 (fun H locs hP hD hS => ?_)
                        refine lv_goto (tgt := 0) hx hb dX12_leave_170 (by decide) ?_
                        exact ih (RS.setI p50.2 99 ((p50.2.i 99) - 1)) _ _ _ hf hP hD hS (lv_sub hl [1] rfl)
                      ·
                        replace hf := (if_neg c53).symm.trans hf
                        refine lv_aload_n hx hb dX12_leave_151 rfl (lv_at hl 1 rfl) ?_
                        refine lv_iload_n hx hb dX12_leave_152 rfl (lv_at hl 0 rfl) ?_
                        obtain ⟨p54, hcp54, hf⟩ := hf_bind hf
                        have hFc := r_free hD hS hA
                        refine va_calli (va_runV (As := [.int ((σ.i 99) - 1)]) (rest := []) ⟨hx, hb, hml, hown, hts⟩ (c_X12_finals l dC dI _ Q N p50.2 ((σ.i 99) - 1) p54 hcp54) (cwV 1 hts hX12_leave_X12_finals_v630 rfl rfl rfl (by decide +kernel) ⟨Nat.le_of_ble_eq_true rfl, Nat.le_of_ble_eq_true rfl⟩) ⟨zPre.blind, va_recv hK hP (ci := 11) (q0 := 0) rfl rfl, zPre.go hZ hP hK hD⟩ rfl rfl hl.1 rfl (lv_room (Nat.le_of_ble_eq_true rfl)) dX12_leave_153 ⟨Nat.le_of_ble_eq_true rfl, Nat.le_of_ble_eq_true rfl⟩) hS (fun q _ h => hFc q h) hFc (fun r55 u9 t9 H1 locs ht hvm hw hB hz1 hk1 hS => ?_)
                        obtain ⟨hP, hK1, hD1⟩ := hB
                        rw [ht] at hP
                        have hD := hD1.weaken (fun _ _ _ h => hFc _ h)
                        generalize H1 = H at hP hS ⊢
                        obtain rfl : r55 = p54.1 := hw
                        refine lv_if_eq (tgt := 160) hx hb dX12_leave_156 (by decide) (fun c56 => ?_) (fun c56 => ?_)
                        ·
                          replace hf := (if_pos c56).symm.trans hf
                          refine lv_aload_n hx hb dX12_leave_160 rfl (lv_at hl 1 rfl) ?_
                          refine lv_dup hx hb dX12_leave_161 rfl ?_
                          refine rG_99 (v := (p54.2.i 99)) hx hb hts i_X12_leave_X12 hown hK hP (hts (.fieldLink RX12 586 "StatementRules2Model" "recs" "I") k_X12_leave_fieldLink_RX12_586_SRModel_recs_I) dX12_leave_162 rfl ?_
                          refine lv_iconst (v := 1) hx hb dX12_leave_165 (by decide) ?_
                          refine lv_isub hx hb dX12_leave_166 ?_
                          refine rP_99 hx hb hts i_X12_leave_X12 hown hK hP hD hS (hts (.fieldLink RX12 586 "StatementRules2Model" "recs" "I") k_X12_leave_fieldLink_RX12_586_SRModel_recs_I) dX12_leave_167 (fun H locs hP hD hS => ?_)
                          refine lv_goto (tgt := 0) hx hb dX12_leave_170 (by decide) ?_
                          exact ih (RS.setI p54.2 99 ((p54.2.i 99) - 1)) _ _ _ hf hP hD hS (lv_sub hl [1] rfl)
                        ·
                          replace hf := (if_neg c56).symm.trans hf
                          obtain rfl := Option.some.inj hf
                          exact W.vret hx hb hr (fun t ht hW => ⟨⟨(), rfl, trivial, by rw [ht]; exact hP, va_K.moved hW.alike hK, hD⟩, hS.F ht⟩) hS.2.2 dX12_leave_159
                    ·
                      replace hf := (if_neg c52).symm.trans hf
                      obtain rfl := Option.some.inj hf
                      exact W.vret hx hb hr (fun t ht hW => ⟨⟨(), rfl, trivial, by rw [ht]; exact hP, va_K.moved hW.alike hK, hD⟩, hS.F ht⟩) hS.2.2 dX12_leave_140
            ·
              replace hf := (if_pos c36).symm.trans hf
              refine lv_aload_n hx hb dX12_leave_87 rfl (lv_at hl 1 rfl) ?_
              refine lv_aload_n hx hb dX12_leave_88 rfl (lv_at hl 1 rfl) ?_
              refine rG_101 hx hb hts i_X12_leave_X12 hown hK hP (hts (.fieldLink RX12 246 "StatementRules2Model" "ra" "[I") k_X12_leave_fieldLink_RX12_246_SRModel_ra_I) dX12_leave_89 ?_
              refine lv_iload_n hx hb dX12_leave_92 rfl (lv_at hl 0 rfl) ?_
              refine rL_101 (v := (σ.a 101 ((((σ.i 99) - 1) : Int32).toNatClampNeg))) hx hb hK hP b34 dX12_leave_93 rfl ?_
              refine rP_97 hx hb hts i_X12_leave_X12 hown hK hP hD hS (hts (.fieldLink RX12 621 "StatementRules2Model" "waiting" "I") k_X12_leave_fieldLink_RX12_621_SRModel_waiting_I) dX12_leave_94 (fun H locs hP hD hS => ?_)
              refine lv_goto (tgt := 160) hx hb dX12_leave_97 (by decide) ?_
              refine lv_aload_n hx hb dX12_leave_160 rfl (lv_at hl 1 rfl) ?_
              refine lv_dup hx hb dX12_leave_161 rfl ?_
              refine rG_99 (v := (σ.i 99)) hx hb hts i_X12_leave_X12 hown hK hP (hts (.fieldLink RX12 586 "StatementRules2Model" "recs" "I") k_X12_leave_fieldLink_RX12_586_SRModel_recs_I) dX12_leave_162 rfl ?_
              refine lv_iconst (v := 1) hx hb dX12_leave_165 (by decide) ?_
              refine lv_isub hx hb dX12_leave_166 ?_
              refine rP_99 hx hb hts i_X12_leave_X12 hown hK hP hD hS (hts (.fieldLink RX12 586 "StatementRules2Model" "recs" "I") k_X12_leave_fieldLink_RX12_586_SRModel_recs_I) dX12_leave_167 (fun H locs hP hD hS => ?_)
              refine lv_goto (tgt := 0) hx hb dX12_leave_170 (by decide) ?_
              exact ih (RS.setI (RS.setI σ 97 (σ.a 101 ((((σ.i 99) - 1) : Int32).toNatClampNeg))) 99 ((σ.i 99) - 1)) _ _ _ hf hP hD hS (lv_sub hl [1] rfl)
          ·
            replace hf := (if_pos c35).symm.trans hf
            refine lv_aload_n hx hb dX12_leave_48 rfl (lv_at hl 1 rfl) ?_
            refine lv_iconst (v := 4) hx hb dX12_leave_49 (by decide) ?_
            refine lv_aload_n hx hb dX12_leave_50 rfl (lv_at hl 1 rfl) ?_
            refine rG_101 hx hb hts i_X12_leave_X12 hown hK hP (hts (.fieldLink RX12 246 "StatementRules2Model" "ra" "[I") k_X12_leave_fieldLink_RX12_246_SRModel_ra_I) dX12_leave_51 ?_
            refine lv_iload_n hx hb dX12_leave_54 rfl (lv_at hl 0 rfl) ?_
            refine rL_101 (v := (σ.a 101 ((((σ.i 99) - 1) : Int32).toNatClampNeg))) hx hb hK hP b34 dX12_leave_55 rfl ?_
            obtain ⟨p57, hcp57, hf⟩ := hf_bind hf
            have hFc := r_free hD hS hA
            refine va_callv (va_runV (As := [.int 4, .int (σ.a 101 ((((σ.i 99) - 1) : Int32).toNatClampNeg))]) (rest := []) ⟨hx, hb, hml, hown, hts⟩ (c_X12_row l dC dI _ Q N σ 4 (σ.a 101 ((((σ.i 99) - 1) : Int32).toNatClampNeg)) p57 hcp57) (cwV 2 hts hX12_leave_X12_row_v603 rfl rfl rfl (by decide +kernel) ⟨Nat.le_of_ble_eq_true rfl, Nat.le_of_ble_eq_true rfl⟩) ⟨zPre.blind, va_recv hK hP (ci := 11) (q0 := 0) rfl rfl, zPre.go hZ hP hK hD⟩ rfl rfl hl.1 rfl (lv_room (Nat.le_of_ble_eq_true rfl)) dX12_leave_56 ⟨Nat.le_of_ble_eq_true rfl, Nat.le_of_ble_eq_true rfl⟩) hS (fun q _ h => hFc q h) hFc (fun u9 t9 H1 locs ht hvm hw hB hz1 hk1 hS => ?_)
            obtain ⟨hP, hK1, hD1⟩ := hB
            rw [ht] at hP
            have hD := hD1.weaken (fun _ _ _ h => hFc _ h)
            generalize H1 = H at hP hS ⊢
            refine lv_aload_n hx hb dX12_leave_59 rfl (lv_at hl 1 rfl) ?_
            refine rG_91 hx hb hts i_X12_leave_X12 hown hK hP (hts (.fieldLink RX12 231 "StatementRules2Model" "held" "[I") k_X12_leave_fieldLink_RX12_231_SRModel_held_I) dX12_leave_60 ?_
            refine lv_aload_n hx hb dX12_leave_63 rfl (lv_at hl 1 rfl) ?_
            refine rG_101 hx hb hts i_X12_leave_X12 hown hK hP (hts (.fieldLink RX12 246 "StatementRules2Model" "ra" "[I") k_X12_leave_fieldLink_RX12_246_SRModel_ra_I) dX12_leave_64 ?_
            refine lv_iload_n hx hb dX12_leave_67 rfl (lv_at hl 0 rfl) ?_
            refine rL_101 (v := (p57.a 101 ((((σ.i 99) - 1) : Int32).toNatClampNeg))) hx hb hK hP b34 dX12_leave_68 rfl ?_
            refine lv_dup2_11 hx hb dX12_leave_69 rfl rfl ?_
            obtain ⟨b59, hf⟩ := hf_ite hf
            refine rL_91 (v := (p57.a 91 (((p57.a 101 ((((σ.i 99) - 1) : Int32).toNatClampNeg)) : Int32).toNatClampNeg))) hx hb hK hP b59 dX12_leave_70 rfl ?_
            refine lv_iconst (v := 1) hx hb dX12_leave_71 (by decide) ?_
            refine lv_isub hx hb dX12_leave_72 ?_
            refine rS_91 hx hb hK hP hD hS b59 dX12_leave_73 (fun H locs hP hD hS => ?_)
            refine lv_goto (tgt := 160) hx hb dX12_leave_74 (by decide) ?_
            refine lv_aload_n hx hb dX12_leave_160 rfl (lv_at hl 1 rfl) ?_
            refine lv_dup hx hb dX12_leave_161 rfl ?_
            refine rG_99 (v := (p57.i 99)) hx hb hts i_X12_leave_X12 hown hK hP (hts (.fieldLink RX12 586 "StatementRules2Model" "recs" "I") k_X12_leave_fieldLink_RX12_586_SRModel_recs_I) dX12_leave_162 rfl ?_
            refine lv_iconst (v := 1) hx hb dX12_leave_165 (by decide) ?_
            refine lv_isub hx hb dX12_leave_166 ?_
            refine rP_99 hx hb hts i_X12_leave_X12 hown hK hP hD hS (hts (.fieldLink RX12 586 "StatementRules2Model" "recs" "I") k_X12_leave_fieldLink_RX12_586_SRModel_recs_I) dX12_leave_167 (fun H locs hP hD hS => ?_)
            refine lv_goto (tgt := 0) hx hb dX12_leave_170 (by decide) ?_
            exact ih (RS.setI (RS.setA p57 91 (((p57.a 101 ((((σ.i 99) - 1) : Int32).toNatClampNeg)) : Int32).toNatClampNeg) ((p57.a 91 (((p57.a 101 ((((σ.i 99) - 1) : Int32).toNatClampNeg)) : Int32).toNatClampNeg)) - 1)) 99 ((p57.i 99) - 1)) _ _ _ hf hP hD hS (lv_sub hl [1] rfl)
      ·
        replace hf := (if_pos c30).symm.trans hf
        refine lv_aload_n hx hb dX12_leave_20 rfl (lv_at hl 0 rfl) ?_
        refine rG_112 (v := (σ.i 112)) hx hb hts i_X12_leave_X12 hown hK hP (hts (.fieldLink RX12 612 "StatementRules2Model" "goDepth" "I") k_X12_leave_fieldLink_RX12_612_SRModel_goDepth_I) dX12_leave_21 rfl ?_
        refine lv_goto (tgt := 28) hx hb dX12_leave_24 (by decide) ?_
        refine lv_icmp_le (tgt := 173) hx hb dX12_leave_28 (by decide) (fun c60 => ?_) (fun c60 => ?_)
        ·
          replace hf := (if_pos c60).symm.trans hf
          refine lv_aload_n hx hb dX12_leave_173 rfl (lv_at hl 0 rfl) ?_
          refine rG_110 (v := (σ.i 110)) hx hb hts i_X12_leave_X12 hown hK hP (hts (.fieldLink RX12 597 "StatementRules2Model" "how" "I") k_X12_leave_fieldLink_RX12_597_SRModel_how_I) dX12_leave_174 rfl ?_
          refine lv_iconst (v := 1) hx hb dX12_leave_177 (by decide) ?_
          refine lv_icmp_ne (tgt := 192) hx hb dX12_leave_178 (by decide) (fun _ => ?_) (fun c9 => absurd c9 c1)
          refine lv_aload_n hx hb dX12_leave_192 rfl (lv_at hl 0 rfl) ?_
          refine rG_110 (v := (σ.i 110)) hx hb hts i_X12_leave_X12 hown hK hP (hts (.fieldLink RX12 597 "StatementRules2Model" "how" "I") k_X12_leave_fieldLink_RX12_597_SRModel_how_I) dX12_leave_193 rfl ?_
          refine lv_iconst (v := 4) hx hb dX12_leave_196 (by decide) ?_
          refine lv_icmp_ne (tgt := 252) hx hb dX12_leave_197 (by decide) (fun c9 => absurd c30 c9) (fun _ => ?_)
          refine lv_aload_n hx hb dX12_leave_200 rfl (lv_at hl 0 rfl) ?_
          refine lv_dup hx hb dX12_leave_201 rfl ?_
          refine rG_99 (v := (σ.i 99)) hx hb hts i_X12_leave_X12 hown hK hP (hts (.fieldLink RX12 586 "StatementRules2Model" "recs" "I") k_X12_leave_fieldLink_RX12_586_SRModel_recs_I) dX12_leave_202 rfl ?_
          refine lv_iconst (v := 1) hx hb dX12_leave_205 (by decide) ?_
          refine lv_isub hx hb dX12_leave_206 ?_
          refine rP_99 hx hb hts i_X12_leave_X12 hown hK hP hD hS (hts (.fieldLink RX12 586 "StatementRules2Model" "recs" "I") k_X12_leave_fieldLink_RX12_586_SRModel_recs_I) dX12_leave_207 (fun H locs hP hD hS => ?_)
          refine lv_aload_n hx hb dX12_leave_210 rfl (lv_at hl 0 rfl) ?_
          refine lv_aload_n hx hb dX12_leave_211 rfl (lv_at hl 0 rfl) ?_
          refine rG_104 hx hb hts i_X12_leave_X12 hown hK hP (hts (.fieldLink RX12 255 "StatementRules2Model" "rHigh" "[I") k_X12_leave_fieldLink_RX12_255_SRModel_rHigh_I) dX12_leave_212 ?_
          refine lv_aload_n hx hb dX12_leave_215 rfl (lv_at hl 0 rfl) ?_
          refine rG_99 (v := ((σ.i 99) - 1)) hx hb hts i_X12_leave_X12 hown hK hP (hts (.fieldLink RX12 586 "StatementRules2Model" "recs" "I") k_X12_leave_fieldLink_RX12_586_SRModel_recs_I) dX12_leave_216 rfl ?_
          obtain ⟨b63, hf⟩ := hf_ite hf
          refine rL_104 (v := (σ.a 104 ((((σ.i 99) - 1) : Int32).toNatClampNeg))) hx hb hK hP b63 dX12_leave_219 rfl ?_
          refine rP_93 hx hb hts i_X12_leave_X12 hown hK hP hD hS (hts (.fieldLink RX12 589 "StatementRules2Model" "high" "I") k_X12_leave_fieldLink_RX12_589_SRModel_high_I) dX12_leave_220 (fun H locs hP hD hS => ?_)
          refine lv_aload_n hx hb dX12_leave_223 rfl (lv_at hl 0 rfl) ?_
          refine lv_aload_n hx hb dX12_leave_224 rfl (lv_at hl 0 rfl) ?_
          refine rG_113 (v := (σ.i 113)) hx hb hts i_X12_leave_X12 hown hK hP (hts (.fieldLink RX12 615 "StatementRules2Model" "value" "I") k_X12_leave_fieldLink_RX12_615_SRModel_value_I) dX12_leave_225 rfl ?_
          obtain ⟨p64, hcp64, hf⟩ := hf_bind hf
          have hFc := r_free hD hS hA
          refine va_callv (va_runV (As := [.int (σ.i 113)]) (rest := []) ⟨hx, hb, hml, hown, hts⟩ (c_X12_put l dC dI _ Q N (RS.setI (RS.setI σ 99 ((σ.i 99) - 1)) 93 (σ.a 104 ((((σ.i 99) - 1) : Int32).toNatClampNeg))) (σ.i 113) p64 hcp64) (cwV 1 hts hX12_leave_X12_put_v633 rfl rfl rfl (by decide +kernel) ⟨Nat.le_of_ble_eq_true rfl, Nat.le_of_ble_eq_true rfl⟩) ⟨zPre.blind, va_recv hK hP (ci := 11) (q0 := 0) rfl rfl, zPre.go hZ hP hK hD⟩ rfl rfl hl.1 rfl (lv_room (Nat.le_of_ble_eq_true rfl)) dX12_leave_228 ⟨Nat.le_of_ble_eq_true rfl, Nat.le_of_ble_eq_true rfl⟩) hS (fun q _ h => hFc q h) hFc (fun u9 t9 H1 locs ht hvm hw hB hz1 hk1 hS => ?_)
          obtain ⟨hP, hK1, hD1⟩ := hB
          rw [ht] at hP
          have hD := hD1.weaken (fun _ _ _ h => hFc _ h)
          generalize H1 = H at hP hS ⊢
          refine lv_aload_n hx hb dX12_leave_231 rfl (lv_at hl 0 rfl) ?_
          refine lv_aload_n hx hb dX12_leave_232 rfl (lv_at hl 0 rfl) ?_
          refine rG_23 hx hb hts i_X12_leave_X12 hown hK hP (hts (.fieldLink RX12 90 "StatementRules2Model" "iy" "[I") k_X12_leave_fieldLink_RX12_90_SRModel_iy_I) dX12_leave_233 ?_
          refine lv_aload_n hx hb dX12_leave_236 rfl (lv_at hl 0 rfl) ?_
          refine rG_101 hx hb hts i_X12_leave_X12 hown hK hP (hts (.fieldLink RX12 246 "StatementRules2Model" "ra" "[I") k_X12_leave_fieldLink_RX12_246_SRModel_ra_I) dX12_leave_237 ?_
          refine lv_aload_n hx hb dX12_leave_240 rfl (lv_at hl 0 rfl) ?_
          refine rG_99 (v := (p64.i 99)) hx hb hts i_X12_leave_X12 hown hK hP (hts (.fieldLink RX12 586 "StatementRules2Model" "recs" "I") k_X12_leave_fieldLink_RX12_586_SRModel_recs_I) dX12_leave_241 rfl ?_
          obtain ⟨b66, hf⟩ := hf_ite hf
          refine rL_101 (v := (p64.a 101 (((p64.i 99) : Int32).toNatClampNeg))) hx hb hK hP b66 dX12_leave_244 rfl ?_
          obtain ⟨b67, hf⟩ := hf_ite hf
          refine rL_23 (v := (p64.a 23 (((p64.a 101 (((p64.i 99) : Int32).toNatClampNeg)) : Int32).toNatClampNeg))) hx hb hK hP b67 dX12_leave_245 rfl ?_
          refine rP_92 hx hb hts i_X12_leave_X12 hown hK hP hD hS (hts (.fieldLink RX12 618 "StatementRules2Model" "pc" "I") k_X12_leave_fieldLink_RX12_618_SRModel_pc_I) dX12_leave_246 (fun H locs hP hD hS => ?_)
          refine lv_goto (tgt := 265) hx hb dX12_leave_249 (by decide) ?_
          obtain rfl := Option.some.inj hf
          exact W.vret hx hb hr (fun t ht hW => ⟨⟨(), rfl, trivial, by rw [ht]; exact hP, va_K.moved hW.alike hK, hD⟩, hS.F ht⟩) hS.2.2 dX12_leave_265
        ·
          replace hf := (if_neg c60).symm.trans hf
          refine lv_aload_n hx hb dX12_leave_31 rfl (lv_at hl 0 rfl) ?_
          refine rG_99 (v := (σ.i 99)) hx hb hts i_X12_leave_X12 hown hK hP (hts (.fieldLink RX12 586 "StatementRules2Model" "recs" "I") k_X12_leave_fieldLink_RX12_586_SRModel_recs_I) dX12_leave_32 rfl ?_
          refine lv_iconst (v := 1) hx hb dX12_leave_35 (by decide) ?_
          refine lv_isub hx hb dX12_leave_36 ?_
          refine lv_istore_n (lv' := [(1, .int ((σ.i 99) - 1)), (0, .ref Q.h0)]) hx hb dX12_leave_37 rfl hl (by decide) rfl (fun ls hl => ?_)
          refine lv_aload_n hx hb dX12_leave_38 rfl (lv_at hl 1 rfl) ?_
          refine rG_100 hx hb hts i_X12_leave_X12 hown hK hP (hts (.fieldLink RX12 243 "StatementRules2Model" "rk" "[I") k_X12_leave_fieldLink_RX12_243_SRModel_rk_I) dX12_leave_39 ?_
          refine lv_iload_n hx hb dX12_leave_42 rfl (lv_at hl 0 rfl) ?_
          obtain ⟨b68, hf⟩ := hf_ite hf
          refine rL_100 (v := (σ.a 100 ((((σ.i 99) - 1) : Int32).toNatClampNeg))) hx hb hK hP b68 dX12_leave_43 rfl ?_
          refine lv_iconst (v := 1) hx hb dX12_leave_44 (by decide) ?_
          refine lv_icmp_ne (tgt := 77) hx hb dX12_leave_45 (by decide) (fun c69 => ?_) (fun c69 => ?_)
          ·
            replace hf := (if_neg c69).symm.trans hf
            refine lv_aload_n hx hb dX12_leave_77 rfl (lv_at hl 1 rfl) ?_
            refine rG_100 hx hb hts i_X12_leave_X12 hown hK hP (hts (.fieldLink RX12 243 "StatementRules2Model" "rk" "[I") k_X12_leave_fieldLink_RX12_243_SRModel_rk_I) dX12_leave_78 ?_
            refine lv_iload_n hx hb dX12_leave_81 rfl (lv_at hl 0 rfl) ?_
            refine rL_100 (v := (σ.a 100 ((((σ.i 99) - 1) : Int32).toNatClampNeg))) hx hb hK hP b68 dX12_leave_82 rfl ?_
            refine lv_iconst (v := 2) hx hb dX12_leave_83 (by decide) ?_
            refine lv_icmp_ne (tgt := 100) hx hb dX12_leave_84 (by decide) (fun c70 => ?_) (fun c70 => ?_)
            ·
              replace hf := (if_neg c70).symm.trans hf
              refine lv_aload_n hx hb dX12_leave_100 rfl (lv_at hl 1 rfl) ?_
              refine rG_100 hx hb hts i_X12_leave_X12 hown hK hP (hts (.fieldLink RX12 243 "StatementRules2Model" "rk" "[I") k_X12_leave_fieldLink_RX12_243_SRModel_rk_I) dX12_leave_101 ?_
              refine lv_iload_n hx hb dX12_leave_104 rfl (lv_at hl 0 rfl) ?_
              refine rL_100 (v := (σ.a 100 ((((σ.i 99) - 1) : Int32).toNatClampNeg))) hx hb hK hP b68 dX12_leave_105 rfl ?_
              refine lv_iconst (v := 4) hx hb dX12_leave_106 (by decide) ?_
              refine lv_icmp_ne (tgt := 160) hx hb dX12_leave_107 (by decide) (fun c71 => ?_) (fun c71 => ?_)
              ·
                replace hf := (if_neg c71).symm.trans hf
                refine lv_aload_n hx hb dX12_leave_160 rfl (lv_at hl 1 rfl) ?_
                refine lv_dup hx hb dX12_leave_161 rfl ?_
                refine rG_99 (v := (σ.i 99)) hx hb hts i_X12_leave_X12 hown hK hP (hts (.fieldLink RX12 586 "StatementRules2Model" "recs" "I") k_X12_leave_fieldLink_RX12_586_SRModel_recs_I) dX12_leave_162 rfl ?_
                refine lv_iconst (v := 1) hx hb dX12_leave_165 (by decide) ?_
                refine lv_isub hx hb dX12_leave_166 ?_
                refine rP_99 hx hb hts i_X12_leave_X12 hown hK hP hD hS (hts (.fieldLink RX12 586 "StatementRules2Model" "recs" "I") k_X12_leave_fieldLink_RX12_586_SRModel_recs_I) dX12_leave_167 (fun H locs hP hD hS => ?_)
                refine lv_goto (tgt := 0) hx hb dX12_leave_170 (by decide) ?_
                exact ih (RS.setI σ 99 ((σ.i 99) - 1)) _ _ _ hf hP hD hS (lv_sub hl [1] rfl)
              ·
                replace hf := (if_pos c71).symm.trans hf
                refine lv_aload_n hx hb dX12_leave_110 rfl (lv_at hl 1 rfl) ?_
                refine rG_102 hx hb hts i_X12_leave_X12 hown hK hP (hts (.fieldLink RX12 249 "StatementRules2Model" "rb" "[I") k_X12_leave_fieldLink_RX12_249_SRModel_rb_I) dX12_leave_111 ?_
                refine lv_iload_n hx hb dX12_leave_114 rfl (lv_at hl 0 rfl) ?_
                refine rL_102 (v := (σ.a 102 ((((σ.i 99) - 1) : Int32).toNatClampNeg))) hx hb hK hP b68 dX12_leave_115 rfl ?_
                refine lv_if_ne (tgt := 141) hx hb dX12_leave_116 (by decide) (fun c72 => ?_) (fun c72 => ?_)
                ·
                  replace hf := (if_neg c72).symm.trans hf
                  refine lv_aload_n hx hb dX12_leave_141 rfl (lv_at hl 1 rfl) ?_
                  refine rG_102 hx hb hts i_X12_leave_X12 hown hK hP (hts (.fieldLink RX12 249 "StatementRules2Model" "rb" "[I") k_X12_leave_fieldLink_RX12_249_SRModel_rb_I) dX12_leave_142 ?_
                  refine lv_iload_n hx hb dX12_leave_145 rfl (lv_at hl 0 rfl) ?_
                  refine rL_102 (v := (σ.a 102 ((((σ.i 99) - 1) : Int32).toNatClampNeg))) hx hb hK hP b68 dX12_leave_146 rfl ?_
                  refine lv_iconst (v := 2) hx hb dX12_leave_147 (by decide) ?_
                  refine lv_icmp_ge (tgt := 160) hx hb dX12_leave_148 (by decide) (fun c73 => ?_) (fun c73 => ?_)
                  ·
                    replace hf := (if_pos c73).symm.trans hf
                    refine lv_aload_n hx hb dX12_leave_160 rfl (lv_at hl 1 rfl) ?_
                    refine lv_dup hx hb dX12_leave_161 rfl ?_
                    refine rG_99 (v := (σ.i 99)) hx hb hts i_X12_leave_X12 hown hK hP (hts (.fieldLink RX12 586 "StatementRules2Model" "recs" "I") k_X12_leave_fieldLink_RX12_586_SRModel_recs_I) dX12_leave_162 rfl ?_
                    refine lv_iconst (v := 1) hx hb dX12_leave_165 (by decide) ?_
                    refine lv_isub hx hb dX12_leave_166 ?_
                    refine rP_99 hx hb hts i_X12_leave_X12 hown hK hP hD hS (hts (.fieldLink RX12 586 "StatementRules2Model" "recs" "I") k_X12_leave_fieldLink_RX12_586_SRModel_recs_I) dX12_leave_167 (fun H locs hP hD hS => ?_)
                    refine lv_goto (tgt := 0) hx hb dX12_leave_170 (by decide) ?_
                    exact ih (RS.setI σ 99 ((σ.i 99) - 1)) _ _ _ hf hP hD hS (lv_sub hl [1] rfl)
                  ·
                    replace hf := (if_neg c73).symm.trans hf
                    refine lv_aload_n hx hb dX12_leave_151 rfl (lv_at hl 1 rfl) ?_
                    refine lv_iload_n hx hb dX12_leave_152 rfl (lv_at hl 0 rfl) ?_
                    obtain ⟨p74, hcp74, hf⟩ := hf_bind hf
                    have hFc := r_free hD hS hA
                    refine va_calli (va_runV (As := [.int ((σ.i 99) - 1)]) (rest := []) ⟨hx, hb, hml, hown, hts⟩ (c_X12_finals l dC dI _ Q N σ ((σ.i 99) - 1) p74 hcp74) (cwV 1 hts hX12_leave_X12_finals_v630 rfl rfl rfl (by decide +kernel) ⟨Nat.le_of_ble_eq_true rfl, Nat.le_of_ble_eq_true rfl⟩) ⟨zPre.blind, va_recv hK hP (ci := 11) (q0 := 0) rfl rfl, zPre.go hZ hP hK hD⟩ rfl rfl hl.1 rfl (lv_room (Nat.le_of_ble_eq_true rfl)) dX12_leave_153 ⟨Nat.le_of_ble_eq_true rfl, Nat.le_of_ble_eq_true rfl⟩) hS (fun q _ h => hFc q h) hFc (fun r75 u9 t9 H1 locs ht hvm hw hB hz1 hk1 hS => ?_)
                    obtain ⟨hP, hK1, hD1⟩ := hB
                    rw [ht] at hP
                    have hD := hD1.weaken (fun _ _ _ h => hFc _ h)
                    generalize H1 = H at hP hS ⊢
                    obtain rfl : r75 = p74.1 := hw
                    refine lv_if_eq (tgt := 160) hx hb dX12_leave_156 (by decide) (fun c76 => ?_) (fun c76 => ?_)
                    ·
                      replace hf := (if_pos c76).symm.trans hf
                      refine lv_aload_n hx hb dX12_leave_160 rfl (lv_at hl 1 rfl) ?_
                      refine lv_dup hx hb dX12_leave_161 rfl ?_
                      refine rG_99 (v := (p74.2.i 99)) hx hb hts i_X12_leave_X12 hown hK hP (hts (.fieldLink RX12 586 "StatementRules2Model" "recs" "I") k_X12_leave_fieldLink_RX12_586_SRModel_recs_I) dX12_leave_162 rfl ?_
                      refine lv_iconst (v := 1) hx hb dX12_leave_165 (by decide) ?_
                      refine lv_isub hx hb dX12_leave_166 ?_
                      refine rP_99 hx hb hts i_X12_leave_X12 hown hK hP hD hS (hts (.fieldLink RX12 586 "StatementRules2Model" "recs" "I") k_X12_leave_fieldLink_RX12_586_SRModel_recs_I) dX12_leave_167 (fun H locs hP hD hS => ?_)
                      refine lv_goto (tgt := 0) hx hb dX12_leave_170 (by decide) ?_
                      exact ih (RS.setI p74.2 99 ((p74.2.i 99) - 1)) _ _ _ hf hP hD hS (lv_sub hl [1] rfl)
                    ·
                      replace hf := (if_neg c76).symm.trans hf
                      obtain rfl := Option.some.inj hf
                      exact W.vret hx hb hr (fun t ht hW => ⟨⟨(), rfl, trivial, by rw [ht]; exact hP, va_K.moved hW.alike hK, hD⟩, hS.F ht⟩) hS.2.2 dX12_leave_159
                ·
                  replace hf := (if_pos c72).symm.trans hf
                  refine lv_aload_n hx hb dX12_leave_119 rfl (lv_at hl 1 rfl) ?_
                  refine lv_iload_n hx hb dX12_leave_120 rfl (lv_at hl 0 rfl) ?_
                  obtain ⟨p77, hcp77, hf⟩ := hf_bind hf
                  have hFc := r_free hD hS hA
                  refine va_callv (va_runV (As := [.int ((σ.i 99) - 1)]) (rest := []) ⟨hx, hb, hml, hown, hts⟩ (c_X12_closeAll l dC dI _ Q N σ ((σ.i 99) - 1) p77 hcp77) (cwV 1 hts hX12_leave_X12_closeAll_v624 rfl rfl rfl (by decide +kernel) ⟨Nat.le_of_ble_eq_true rfl, Nat.le_of_ble_eq_true rfl⟩) ⟨zPre.blind, va_recv hK hP (ci := 11) (q0 := 0) rfl rfl, zPre.go hZ hP hK hD⟩ rfl rfl hl.1 rfl (lv_room (Nat.le_of_ble_eq_true rfl)) dX12_leave_121 ⟨Nat.le_of_ble_eq_true rfl, Nat.le_of_ble_eq_true rfl⟩) hS (fun q _ h => hFc q h) hFc (fun u9 t9 H1 locs ht hvm hw hB hz1 hk1 hS => ?_)
                  obtain ⟨hP, hK1, hD1⟩ := hB
                  rw [ht] at hP
                  have hD := hD1.weaken (fun _ _ _ h => hFc _ h)
                  generalize H1 = H at hP hS ⊢
                  refine lv_aload_n hx hb dX12_leave_124 rfl (lv_at hl 1 rfl) ?_
                  refine rG_110 (v := (p77.i 110)) hx hb hts i_X12_leave_X12 hown hK hP (hts (.fieldLink RX12 597 "StatementRules2Model" "how" "I") k_X12_leave_fieldLink_RX12_597_SRModel_how_I) dX12_leave_125 rfl ?_
                  refine lv_iconst (v := 3) hx hb dX12_leave_128 (by decide) ?_
                  refine lv_icmp_ne (tgt := 141) hx hb dX12_leave_129 (by decide) (fun c79 => ?_) (fun c79 => ?_)
                  ·
                    replace hf := (if_neg c79).symm.trans hf
                    refine lv_aload_n hx hb dX12_leave_141 rfl (lv_at hl 1 rfl) ?_
                    refine rG_102 hx hb hts i_X12_leave_X12 hown hK hP (hts (.fieldLink RX12 249 "StatementRules2Model" "rb" "[I") k_X12_leave_fieldLink_RX12_249_SRModel_rb_I) dX12_leave_142 ?_
                    refine lv_iload_n hx hb dX12_leave_145 rfl (lv_at hl 0 rfl) ?_
                    refine rL_102 (v := (p77.a 102 ((((σ.i 99) - 1) : Int32).toNatClampNeg))) hx hb hK hP b68 dX12_leave_146 rfl ?_
                    refine lv_iconst (v := 2) hx hb dX12_leave_147 (by decide) ?_
                    refine lv_icmp_ge (tgt := 160) hx hb dX12_leave_148 (by decide) (fun c80 => ?_) (fun c80 => ?_)
                    ·
                      replace hf := (if_pos c80).symm.trans hf
                      refine lv_aload_n hx hb dX12_leave_160 rfl (lv_at hl 1 rfl) ?_
                      refine lv_dup hx hb dX12_leave_161 rfl ?_
                      refine rG_99 (v := (p77.i 99)) hx hb hts i_X12_leave_X12 hown hK hP (hts (.fieldLink RX12 586 "StatementRules2Model" "recs" "I") k_X12_leave_fieldLink_RX12_586_SRModel_recs_I) dX12_leave_162 rfl ?_
                      refine lv_iconst (v := 1) hx hb dX12_leave_165 (by decide) ?_
                      refine lv_isub hx hb dX12_leave_166 ?_
                      refine rP_99 hx hb hts i_X12_leave_X12 hown hK hP hD hS (hts (.fieldLink RX12 586 "StatementRules2Model" "recs" "I") k_X12_leave_fieldLink_RX12_586_SRModel_recs_I) dX12_leave_167 (fun H locs hP hD hS => ?_)
                      refine lv_goto (tgt := 0) hx hb dX12_leave_170 (by decide) ?_
                      exact ih (RS.setI p77 99 ((p77.i 99) - 1)) _ _ _ hf hP hD hS (lv_sub hl [1] rfl)
                    ·
                      replace hf := (if_neg c80).symm.trans hf
                      refine lv_aload_n hx hb dX12_leave_151 rfl (lv_at hl 1 rfl) ?_
                      refine lv_iload_n hx hb dX12_leave_152 rfl (lv_at hl 0 rfl) ?_
                      obtain ⟨p81, hcp81, hf⟩ := hf_bind hf
                      have hFc := r_free hD hS hA
                      refine va_calli (va_runV (As := [.int ((σ.i 99) - 1)]) (rest := []) ⟨hx, hb, hml, hown, hts⟩ (c_X12_finals l dC dI _ Q N p77 ((σ.i 99) - 1) p81 hcp81) (cwV 1 hts hX12_leave_X12_finals_v630 rfl rfl rfl (by decide +kernel) ⟨Nat.le_of_ble_eq_true rfl, Nat.le_of_ble_eq_true rfl⟩) ⟨zPre.blind, va_recv hK hP (ci := 11) (q0 := 0) rfl rfl, zPre.go hZ hP hK hD⟩ rfl rfl hl.1 rfl (lv_room (Nat.le_of_ble_eq_true rfl)) dX12_leave_153 ⟨Nat.le_of_ble_eq_true rfl, Nat.le_of_ble_eq_true rfl⟩) hS (fun q _ h => hFc q h) hFc (fun r82 u9 t9 H1 locs ht hvm hw hB hz1 hk1 hS => ?_)
                      obtain ⟨hP, hK1, hD1⟩ := hB
                      rw [ht] at hP
                      have hD := hD1.weaken (fun _ _ _ h => hFc _ h)
                      generalize H1 = H at hP hS ⊢
                      obtain rfl : r82 = p81.1 := hw
                      refine lv_if_eq (tgt := 160) hx hb dX12_leave_156 (by decide) (fun c83 => ?_) (fun c83 => ?_)
                      ·
                        replace hf := (if_pos c83).symm.trans hf
                        refine lv_aload_n hx hb dX12_leave_160 rfl (lv_at hl 1 rfl) ?_
                        refine lv_dup hx hb dX12_leave_161 rfl ?_
                        refine rG_99 (v := (p81.2.i 99)) hx hb hts i_X12_leave_X12 hown hK hP (hts (.fieldLink RX12 586 "StatementRules2Model" "recs" "I") k_X12_leave_fieldLink_RX12_586_SRModel_recs_I) dX12_leave_162 rfl ?_
                        refine lv_iconst (v := 1) hx hb dX12_leave_165 (by decide) ?_
                        refine lv_isub hx hb dX12_leave_166 ?_
                        refine rP_99 hx hb hts i_X12_leave_X12 hown hK hP hD hS (hts (.fieldLink RX12 586 "StatementRules2Model" "recs" "I") k_X12_leave_fieldLink_RX12_586_SRModel_recs_I) dX12_leave_167 (fun H locs hP hD hS => ?_)
                        refine lv_goto (tgt := 0) hx hb dX12_leave_170 (by decide) ?_
                        exact ih (RS.setI p81.2 99 ((p81.2.i 99) - 1)) _ _ _ hf hP hD hS (lv_sub hl [1] rfl)
                      ·
                        replace hf := (if_neg c83).symm.trans hf
                        obtain rfl := Option.some.inj hf
                        exact W.vret hx hb hr (fun t ht hW => ⟨⟨(), rfl, trivial, by rw [ht]; exact hP, va_K.moved hW.alike hK, hD⟩, hS.F ht⟩) hS.2.2 dX12_leave_159
                  ·
                    replace hf := (if_pos c79).symm.trans hf
                    refine lv_aload_n hx hb dX12_leave_132 rfl (lv_at hl 1 rfl) ?_
                    refine lv_iload_n hx hb dX12_leave_133 rfl (lv_at hl 0 rfl) ?_
                    obtain ⟨p84, hcp84, hf⟩ := hf_bind hf
                    have hFc := r_free hD hS hA
                    refine va_calli (va_runV (As := [.int ((σ.i 99) - 1)]) (rest := []) ⟨hx, hb, hml, hown, hts⟩ (c_X12_isCaught l dC dI _ Q N p77 ((σ.i 99) - 1) p84 hcp84) (cwV 1 hts hX12_leave_X12_isCaught_v627 rfl rfl rfl (by decide +kernel) ⟨Nat.le_of_ble_eq_true rfl, Nat.le_of_ble_eq_true rfl⟩) ⟨zPre.blind, va_recv hK hP (ci := 11) (q0 := 0) rfl rfl, zPre.go hZ hP hK hD⟩ rfl rfl hl.1 rfl (lv_room (Nat.le_of_ble_eq_true rfl)) dX12_leave_134 ⟨Nat.le_of_ble_eq_true rfl, Nat.le_of_ble_eq_true rfl⟩) hS (fun q _ h => hFc q h) hFc (fun r85 u9 t9 H1 locs ht hvm hw hB hz1 hk1 hS => ?_)
                    obtain ⟨hP, hK1, hD1⟩ := hB
                    rw [ht] at hP
                    have hD := hD1.weaken (fun _ _ _ h => hFc _ h)
                    generalize H1 = H at hP hS ⊢
                    obtain rfl : r85 = p84.1 := hw
                    refine lv_if_eq (tgt := 141) hx hb dX12_leave_137 (by decide) (fun c86 => ?_) (fun c86 => ?_)
                    ·
                      replace hf := (if_pos c86).symm.trans hf
                      refine lv_aload_n hx hb dX12_leave_141 rfl (lv_at hl 1 rfl) ?_
                      refine rG_102 hx hb hts i_X12_leave_X12 hown hK hP (hts (.fieldLink RX12 249 "StatementRules2Model" "rb" "[I") k_X12_leave_fieldLink_RX12_249_SRModel_rb_I) dX12_leave_142 ?_
                      refine lv_iload_n hx hb dX12_leave_145 rfl (lv_at hl 0 rfl) ?_
                      refine rL_102 (v := (p84.2.a 102 ((((σ.i 99) - 1) : Int32).toNatClampNeg))) hx hb hK hP b68 dX12_leave_146 rfl ?_
                      refine lv_iconst (v := 2) hx hb dX12_leave_147 (by decide) ?_
                      refine lv_icmp_ge (tgt := 160) hx hb dX12_leave_148 (by decide) (fun c87 => ?_) (fun c87 => ?_)
                      ·
                        replace hf := (if_pos c87).symm.trans hf
                        refine lv_aload_n hx hb dX12_leave_160 rfl (lv_at hl 1 rfl) ?_
                        refine lv_dup hx hb dX12_leave_161 rfl ?_
                        refine rG_99 (v := (p84.2.i 99)) hx hb hts i_X12_leave_X12 hown hK hP (hts (.fieldLink RX12 586 "StatementRules2Model" "recs" "I") k_X12_leave_fieldLink_RX12_586_SRModel_recs_I) dX12_leave_162 rfl ?_
                        refine lv_iconst (v := 1) hx hb dX12_leave_165 (by decide) ?_
                        refine lv_isub hx hb dX12_leave_166 ?_
                        refine rP_99 hx hb hts i_X12_leave_X12 hown hK hP hD hS (hts (.fieldLink RX12 586 "StatementRules2Model" "recs" "I") k_X12_leave_fieldLink_RX12_586_SRModel_recs_I) dX12_leave_167 (fun H locs hP hD hS => ?_)
                        refine lv_goto (tgt := 0) hx hb dX12_leave_170 (by decide) ?_
                        exact ih (RS.setI p84.2 99 ((p84.2.i 99) - 1)) _ _ _ hf hP hD hS (lv_sub hl [1] rfl)
                      ·
                        replace hf := (if_neg c87).symm.trans hf
                        refine lv_aload_n hx hb dX12_leave_151 rfl (lv_at hl 1 rfl) ?_
                        refine lv_iload_n hx hb dX12_leave_152 rfl (lv_at hl 0 rfl) ?_
                        obtain ⟨p88, hcp88, hf⟩ := hf_bind hf
                        have hFc := r_free hD hS hA
                        refine va_calli (va_runV (As := [.int ((σ.i 99) - 1)]) (rest := []) ⟨hx, hb, hml, hown, hts⟩ (c_X12_finals l dC dI _ Q N p84.2 ((σ.i 99) - 1) p88 hcp88) (cwV 1 hts hX12_leave_X12_finals_v630 rfl rfl rfl (by decide +kernel) ⟨Nat.le_of_ble_eq_true rfl, Nat.le_of_ble_eq_true rfl⟩) ⟨zPre.blind, va_recv hK hP (ci := 11) (q0 := 0) rfl rfl, zPre.go hZ hP hK hD⟩ rfl rfl hl.1 rfl (lv_room (Nat.le_of_ble_eq_true rfl)) dX12_leave_153 ⟨Nat.le_of_ble_eq_true rfl, Nat.le_of_ble_eq_true rfl⟩) hS (fun q _ h => hFc q h) hFc (fun r89 u9 t9 H1 locs ht hvm hw hB hz1 hk1 hS => ?_)
                        obtain ⟨hP, hK1, hD1⟩ := hB
                        rw [ht] at hP
                        have hD := hD1.weaken (fun _ _ _ h => hFc _ h)
                        generalize H1 = H at hP hS ⊢
                        obtain rfl : r89 = p88.1 := hw
                        refine lv_if_eq (tgt := 160) hx hb dX12_leave_156 (by decide) (fun c90 => ?_) (fun c90 => ?_)
                        ·
                          replace hf := (if_pos c90).symm.trans hf
                          refine lv_aload_n hx hb dX12_leave_160 rfl (lv_at hl 1 rfl) ?_
                          refine lv_dup hx hb dX12_leave_161 rfl ?_
                          refine rG_99 (v := (p88.2.i 99)) hx hb hts i_X12_leave_X12 hown hK hP (hts (.fieldLink RX12 586 "StatementRules2Model" "recs" "I") k_X12_leave_fieldLink_RX12_586_SRModel_recs_I) dX12_leave_162 rfl ?_
                          refine lv_iconst (v := 1) hx hb dX12_leave_165 (by decide) ?_
                          refine lv_isub hx hb dX12_leave_166 ?_
                          refine rP_99 hx hb hts i_X12_leave_X12 hown hK hP hD hS (hts (.fieldLink RX12 586 "StatementRules2Model" "recs" "I") k_X12_leave_fieldLink_RX12_586_SRModel_recs_I) dX12_leave_167 (fun H locs hP hD hS => ?_)
                          refine lv_goto (tgt := 0) hx hb dX12_leave_170 (by decide) ?_
                          exact ih (RS.setI p88.2 99 ((p88.2.i 99) - 1)) _ _ _ hf hP hD hS (lv_sub hl [1] rfl)
                        ·
                          replace hf := (if_neg c90).symm.trans hf
                          obtain rfl := Option.some.inj hf
                          exact W.vret hx hb hr (fun t ht hW => ⟨⟨(), rfl, trivial, by rw [ht]; exact hP, va_K.moved hW.alike hK, hD⟩, hS.F ht⟩) hS.2.2 dX12_leave_159
                    ·
                      replace hf := (if_neg c86).symm.trans hf
                      obtain rfl := Option.some.inj hf
                      exact W.vret hx hb hr (fun t ht hW => ⟨⟨(), rfl, trivial, by rw [ht]; exact hP, va_K.moved hW.alike hK, hD⟩, hS.F ht⟩) hS.2.2 dX12_leave_140
            ·
              replace hf := (if_pos c70).symm.trans hf
              refine lv_aload_n hx hb dX12_leave_87 rfl (lv_at hl 1 rfl) ?_
              refine lv_aload_n hx hb dX12_leave_88 rfl (lv_at hl 1 rfl) ?_
              refine rG_101 hx hb hts i_X12_leave_X12 hown hK hP (hts (.fieldLink RX12 246 "StatementRules2Model" "ra" "[I") k_X12_leave_fieldLink_RX12_246_SRModel_ra_I) dX12_leave_89 ?_
              refine lv_iload_n hx hb dX12_leave_92 rfl (lv_at hl 0 rfl) ?_
              refine rL_101 (v := (σ.a 101 ((((σ.i 99) - 1) : Int32).toNatClampNeg))) hx hb hK hP b68 dX12_leave_93 rfl ?_
              refine rP_97 hx hb hts i_X12_leave_X12 hown hK hP hD hS (hts (.fieldLink RX12 621 "StatementRules2Model" "waiting" "I") k_X12_leave_fieldLink_RX12_621_SRModel_waiting_I) dX12_leave_94 (fun H locs hP hD hS => ?_)
              refine lv_goto (tgt := 160) hx hb dX12_leave_97 (by decide) ?_
              refine lv_aload_n hx hb dX12_leave_160 rfl (lv_at hl 1 rfl) ?_
              refine lv_dup hx hb dX12_leave_161 rfl ?_
              refine rG_99 (v := (σ.i 99)) hx hb hts i_X12_leave_X12 hown hK hP (hts (.fieldLink RX12 586 "StatementRules2Model" "recs" "I") k_X12_leave_fieldLink_RX12_586_SRModel_recs_I) dX12_leave_162 rfl ?_
              refine lv_iconst (v := 1) hx hb dX12_leave_165 (by decide) ?_
              refine lv_isub hx hb dX12_leave_166 ?_
              refine rP_99 hx hb hts i_X12_leave_X12 hown hK hP hD hS (hts (.fieldLink RX12 586 "StatementRules2Model" "recs" "I") k_X12_leave_fieldLink_RX12_586_SRModel_recs_I) dX12_leave_167 (fun H locs hP hD hS => ?_)
              refine lv_goto (tgt := 0) hx hb dX12_leave_170 (by decide) ?_
              exact ih (RS.setI (RS.setI σ 97 (σ.a 101 ((((σ.i 99) - 1) : Int32).toNatClampNeg))) 99 ((σ.i 99) - 1)) _ _ _ hf hP hD hS (lv_sub hl [1] rfl)
          ·
            replace hf := (if_pos c69).symm.trans hf
            refine lv_aload_n hx hb dX12_leave_48 rfl (lv_at hl 1 rfl) ?_
            refine lv_iconst (v := 4) hx hb dX12_leave_49 (by decide) ?_
            refine lv_aload_n hx hb dX12_leave_50 rfl (lv_at hl 1 rfl) ?_
            refine rG_101 hx hb hts i_X12_leave_X12 hown hK hP (hts (.fieldLink RX12 246 "StatementRules2Model" "ra" "[I") k_X12_leave_fieldLink_RX12_246_SRModel_ra_I) dX12_leave_51 ?_
            refine lv_iload_n hx hb dX12_leave_54 rfl (lv_at hl 0 rfl) ?_
            refine rL_101 (v := (σ.a 101 ((((σ.i 99) - 1) : Int32).toNatClampNeg))) hx hb hK hP b68 dX12_leave_55 rfl ?_
            obtain ⟨p91, hcp91, hf⟩ := hf_bind hf
            have hFc := r_free hD hS hA
            refine va_callv (va_runV (As := [.int 4, .int (σ.a 101 ((((σ.i 99) - 1) : Int32).toNatClampNeg))]) (rest := []) ⟨hx, hb, hml, hown, hts⟩ (c_X12_row l dC dI _ Q N σ 4 (σ.a 101 ((((σ.i 99) - 1) : Int32).toNatClampNeg)) p91 hcp91) (cwV 2 hts hX12_leave_X12_row_v603 rfl rfl rfl (by decide +kernel) ⟨Nat.le_of_ble_eq_true rfl, Nat.le_of_ble_eq_true rfl⟩) ⟨zPre.blind, va_recv hK hP (ci := 11) (q0 := 0) rfl rfl, zPre.go hZ hP hK hD⟩ rfl rfl hl.1 rfl (lv_room (Nat.le_of_ble_eq_true rfl)) dX12_leave_56 ⟨Nat.le_of_ble_eq_true rfl, Nat.le_of_ble_eq_true rfl⟩) hS (fun q _ h => hFc q h) hFc (fun u9 t9 H1 locs ht hvm hw hB hz1 hk1 hS => ?_)
            obtain ⟨hP, hK1, hD1⟩ := hB
            rw [ht] at hP
            have hD := hD1.weaken (fun _ _ _ h => hFc _ h)
            generalize H1 = H at hP hS ⊢
            refine lv_aload_n hx hb dX12_leave_59 rfl (lv_at hl 1 rfl) ?_
            refine rG_91 hx hb hts i_X12_leave_X12 hown hK hP (hts (.fieldLink RX12 231 "StatementRules2Model" "held" "[I") k_X12_leave_fieldLink_RX12_231_SRModel_held_I) dX12_leave_60 ?_
            refine lv_aload_n hx hb dX12_leave_63 rfl (lv_at hl 1 rfl) ?_
            refine rG_101 hx hb hts i_X12_leave_X12 hown hK hP (hts (.fieldLink RX12 246 "StatementRules2Model" "ra" "[I") k_X12_leave_fieldLink_RX12_246_SRModel_ra_I) dX12_leave_64 ?_
            refine lv_iload_n hx hb dX12_leave_67 rfl (lv_at hl 0 rfl) ?_
            refine rL_101 (v := (p91.a 101 ((((σ.i 99) - 1) : Int32).toNatClampNeg))) hx hb hK hP b68 dX12_leave_68 rfl ?_
            refine lv_dup2_11 hx hb dX12_leave_69 rfl rfl ?_
            obtain ⟨b93, hf⟩ := hf_ite hf
            refine rL_91 (v := (p91.a 91 (((p91.a 101 ((((σ.i 99) - 1) : Int32).toNatClampNeg)) : Int32).toNatClampNeg))) hx hb hK hP b93 dX12_leave_70 rfl ?_
            refine lv_iconst (v := 1) hx hb dX12_leave_71 (by decide) ?_
            refine lv_isub hx hb dX12_leave_72 ?_
            refine rS_91 hx hb hK hP hD hS b93 dX12_leave_73 (fun H locs hP hD hS => ?_)
            refine lv_goto (tgt := 160) hx hb dX12_leave_74 (by decide) ?_
            refine lv_aload_n hx hb dX12_leave_160 rfl (lv_at hl 1 rfl) ?_
            refine lv_dup hx hb dX12_leave_161 rfl ?_
            refine rG_99 (v := (p91.i 99)) hx hb hts i_X12_leave_X12 hown hK hP (hts (.fieldLink RX12 586 "StatementRules2Model" "recs" "I") k_X12_leave_fieldLink_RX12_586_SRModel_recs_I) dX12_leave_162 rfl ?_
            refine lv_iconst (v := 1) hx hb dX12_leave_165 (by decide) ?_
            refine lv_isub hx hb dX12_leave_166 ?_
            refine rP_99 hx hb hts i_X12_leave_X12 hown hK hP hD hS (hts (.fieldLink RX12 586 "StatementRules2Model" "recs" "I") k_X12_leave_fieldLink_RX12_586_SRModel_recs_I) dX12_leave_167 (fun H locs hP hD hS => ?_)
            refine lv_goto (tgt := 0) hx hb dX12_leave_170 (by decide) ?_
            exact ih (RS.setI (RS.setA p91 91 (((p91.a 101 ((((σ.i 99) - 1) : Int32).toNatClampNeg)) : Int32).toNatClampNeg) ((p91.a 91 (((p91.a 101 ((((σ.i 99) - 1) : Int32).toNatClampNeg)) : Int32).toNatClampNeg)) - 1)) 99 ((p91.i 99) - 1)) _ _ _ hf hP hD hS (lv_sub hl [1] rfl)
set_option maxHeartbeats 4000000 in
set_option maxRecDepth 100000 in
theorem c_X12_leave (l : Launch) (dC : Nat → ClassId) (dI : Nat → Nat → Nat) (sz : Nat) (Q : RQ) (N : Nat) (σ : RS) (R : RS) (hf : f_X12_leave N σ = some R) : Met l yX12_leave wzX12_leave ({ frames := 3, cells := 0, slots := 0, locals := 180 }) (va_Pc [.ref Q.h0] (zPre dC dI sz (rW Q σ) (rT Q))) (va_Qv (fun (_ : Unit) => True) (fun (_ : Unit) (t : State) => zPost dC dI (va_A (rW Q σ) sz) (rW Q R) (rT Q) t) (va_A (rW Q σ) sz)) 0 0 (va_A (rW Q σ) sz) := by
  refine Met.ofW (cc := cX12_leave) (maxL := 2) (ret := none) (by decide) rfl ?_
  intro p e s m args below meth c s₁ B hml hv
  obtain ⟨rfl, hsz, hZ, hP, hK, hD0⟩ := hv
  have hx := B.exec
  have hb := B.bytes
  have hr := B.returns
  have hts := atoms_spec (ws := wzX12_leave) B.pre
  have hown : s.vm.findClass RX12 = some m.cls := findClass_of_methodNamed B.named
  have hlocks := B.notSynchronized
  subst hsz
  have hD := hD0.self (sz := s.heap.size)
  generalize hAe : va_A (rW Q σ) s.heap.size = A at hD ⊢
  have hA : ∀ q : Nat, s.heap.size ≤ q → A q := fun q h => by rw [← hAe]; exact Or.inr h
  have hS : va_S A s.heap s.heap [] := va_S.rf
  have hl := lv_entry ([.ref Q.h0]) (n := 2) (Nat.le_of_ble_eq_true rfl)
  rw [lg_entry_eq]
  generalize (lg_sl ([.ref Q.h0]) ++ List.replicate (2 - (lg_sl ([.ref Q.h0])).length) Slot.unset).toArray = ls at hl ⊢
  have hl : lv_has ls 2 [(0, .ref Q.h0)] := hl
  unfold f_X12_leave at hf
  exact j_X12_leave_0 l dC dI Q N R hx hb hr hml hown hts hlocks hZ hA hK N σ _ _ _ hf hP hD hS (lv_sub hl [0] rfl)
