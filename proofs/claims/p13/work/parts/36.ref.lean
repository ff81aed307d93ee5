theorem k_X12_ends_fieldLink_RX12_84_SRModel_op_I : Cond.fieldLink RX12 84 "StatementRules2Model" "op" "[I" ∈ wzX12_ends := List.mem_cons_of_mem _ (List.mem_append_left _ (List.mem_of_getElem? (i := 0) rfl))
theorem i_X12_ends_X12 : ∀ w ∈ wsX120, w ∈ wzX12_ends := fun _ h => List.mem_cons_of_mem _ (List.mem_append_right _ (List.mem_append_left _ (h)))
theorem k_X12_ends_fieldLink_RX12_615_SRModel_value_I : Cond.fieldLink RX12 615 "StatementRules2Model" "value" "I" ∈ wzX12_ends := List.mem_cons_of_mem _ (List.mem_append_left _ (List.mem_of_getElem? (i := 1) rfl))
theorem k_X12_ends_fieldLink_RX12_597_SRModel_how_I : Cond.fieldLink RX12 597 "StatementRules2Model" "how" "I" ∈ wzX12_ends := List.mem_cons_of_mem _ (List.mem_append_left _ (List.mem_of_getElem? (i := 2) rfl))
theorem k_X12_ends_fieldLink_RX12_90_SRModel_iy_I : Cond.fieldLink RX12 90 "StatementRules2Model" "iy" "[I" ∈ wzX12_ends := List.mem_cons_of_mem _ (List.mem_append_left _ (List.mem_of_getElem? (i := 3) rfl))
theorem k_X12_ends_fieldLink_RX12_612_SRModel_goDepth_I : Cond.fieldLink RX12 612 "StatementRules2Model" "goDepth" "I" ∈ wzX12_ends := List.mem_cons_of_mem _ (List.mem_append_left _ (List.mem_of_getElem? (i := 4) rfl))
theorem k_X12_ends_fieldLink_RX12_213_SRModel_vals_I : Cond.fieldLink RX12 213 "StatementRules2Model" "vals" "[I" ∈ wzX12_ends := List.mem_cons_of_mem _ (List.mem_append_left _ (List.mem_of_getElem? (i := 5) rfl))
theorem k_X12_ends_fieldLink_RX12_595_SRModel_thing_I : Cond.fieldLink RX12 595 "StatementRules2Model" "thing" "I" ∈ wzX12_ends := List.mem_cons_of_mem _ (List.mem_append_left _ (List.mem_of_getElem? (i := 6) rfl))
theorem k_X12_ends_fieldLink_RX12_287_SRModel_asserting_Z : Cond.fieldLink RX12 287 "StatementRules2Model" "asserting" "Z" ∈ wzX12_ends := List.mem_cons_of_mem _ (List.mem_append_left _ (List.mem_of_getElem? (i := 7) rfl))
theorem k_X12_ends_fieldLink_RX12_618_SRModel_pc_I : Cond.fieldLink RX12 618 "StatementRules2Model" "pc" "I" ∈ wzX12_ends := List.mem_cons_of_mem _ (List.mem_append_left _ (List.mem_of_getElem? (i := 8) rfl))
theorem k_X12_ends_fieldLink_RX12_231_SRModel_held_I : Cond.fieldLink RX12 231 "StatementRules2Model" "held" "[I" ∈ wzX12_ends := List.mem_cons_of_mem _ (List.mem_append_left _ (List.mem_of_getElem? (i := 9) rfl))
theorem k_X12_ends_fieldLink_RX12_586_SRModel_recs_I : Cond.fieldLink RX12 586 "StatementRules2Model" "recs" "I" ∈ wzX12_ends := List.mem_cons_of_mem _ (List.mem_append_left _ (List.mem_of_getElem? (i := 10) rfl))
theorem k_X12_ends_fieldLink_RX12_246_SRModel_ra_I : Cond.fieldLink RX12 246 "StatementRules2Model" "ra" "[I" ∈ wzX12_ends := List.mem_cons_of_mem _ (List.mem_append_left _ (List.mem_of_getElem? (i := 11) rfl))
theorem k_X12_ends_fieldLink_RX12_96_SRModel_entryAt_I : Cond.fieldLink RX12 96 "StatementRules2Model" "entryAt" "[I" ∈ wzX12_ends := List.mem_cons_of_mem _ (List.mem_append_left _ (List.mem_of_getElem? (i := 12) rfl))
theorem k_X12_ends_fieldLink_RX12_609_SRModel_goTo_I : Cond.fieldLink RX12 609 "StatementRules2Model" "goTo" "I" ∈ wzX12_ends := List.mem_cons_of_mem _ (List.mem_append_left _ (List.mem_of_getElem? (i := 13) rfl))
set_option maxHeartbeats 4000000 in
set_option maxRecDepth 100000 in
theorem j_X12_ends_128 {p : Program} {e : Env} {s : State} {m : MethodId} {args : Array Value} {below : List Frame} {meth : Method} {c : Code} {A : Nat → Prop} (l : Launch) (dC : Nat → ClassId) (dI : Nat → Nat → Nat) (Q : RQ) (N : Nat) (R : RS) (hx : p.tables.exec = Jvm.exec) (hb : c.code = cX12_ends) (hr : meth.sig.returnType = none) (hml : c.maxLocals = 5) (hown : s.vm.findClass RX12 = some m.cls) (hts : ∀ w ∈ wzX12_ends, w.before args s = true) (hlocks : meth.locks = false) (hZ : zAMB s) (hA : ∀ q : Nat, s.heap.size ≤ q → A q) (hK : va_K (dC, dI) vwCl (rT Q) s) : ∀ (σ : RS) (x1 : Int32) (H : Heap) (locs : List Loc) (ls : Array Slot), f_X12_ends_128 N σ x1 = some R → va_P (dC, dI) vwCl (rW Q σ) H → va_D A (rW Q σ) → va_S A s.heap H locs → lv_has ls 5 [(0, .ref Q.h0), (1, .int x1)] → W p l e ({ frames := 5, cells := 0, slots := 0, locals := 300 }) s m args below meth c H locs 0 0 (MQ below (va_Qv (fun (_ : Unit) => True) (fun (_ : Unit) (t : State) => zPost dC dI A (rW Q R) (rT Q) t) A) args s 0 0 A) (F0 m 128 ls []) := by
  intro σ x1 H locs ls hf hP hD hS hl
  unfold f_X12_ends_128 at hf
  refine lv_aload_n hx hb dX12_ends_128 rfl (lv_at hl 0 rfl) ?_
  refine lv_aload_n hx hb dX12_ends_129 rfl (lv_at hl 0 rfl) ?_
  refine rG_23 hx hb hts i_X12_ends_X12 hown hK hP (hts (.fieldLink RX12 90 "StatementRules2Model" "iy" "[I") k_X12_ends_fieldLink_RX12_90_SRModel_iy_I) dX12_ends_130 ?_
  refine lv_iload_n hx hb dX12_ends_133 rfl (lv_at hl 1 rfl) ?_
  obtain ⟨b6, hf⟩ := hf_ite hf
  refine rL_23 (v := (σ.a 23 ((x1 : Int32).toNatClampNeg))) hx hb hK hP b6 dX12_ends_134 rfl ?_
  refine rP_112 hx hb hts i_X12_ends_X12 hown hK hP hD hS (hts (.fieldLink RX12 612 "StatementRules2Model" "goDepth" "I") k_X12_ends_fieldLink_RX12_612_SRModel_goDepth_I) dX12_ends_135 (fun H locs hP hD hS => ?_)
  refine lv_aload_n hx hb dX12_ends_138 rfl (lv_at hl 0 rfl) ?_
  obtain ⟨p7, hcp7, hf⟩ := hf_bind hf
  have hFc := r_free hD hS hA
  refine va_callv (va_runV (As := []) (rest := []) ⟨hx, hb, hml, hown, hts⟩ (c_X12_leave l dC dI _ Q N (RS.setI σ 112 (σ.a 23 ((x1 : Int32).toNatClampNeg))) p7 hcp7) (cwV 0 hts hX12_ends_X12_leave_v648 rfl rfl rfl (by decide +kernel) ⟨Nat.le_of_ble_eq_true rfl, Nat.le_of_ble_eq_true rfl⟩) ⟨zPre.blind, va_recv hK hP (ci := 11) (q0 := 0) rfl rfl, zPre.go hZ hP hK hD⟩ rfl rfl hl.1 rfl (lv_room (Nat.le_of_ble_eq_true rfl)) dX12_ends_139 ⟨Nat.le_of_ble_eq_true rfl, Nat.le_of_ble_eq_true rfl⟩) hS (fun q _ h => hFc q h) hFc (fun u9 t9 H1 locs ht hvm hw hB hz1 hk1 hS => ?_)
  obtain ⟨hP, hK1, hD1⟩ := hB
  rw [ht] at hP
  have hD := hD1.weaken (fun _ _ _ h => hFc _ h)
  generalize H1 = H at hP hS ⊢
  refine lv_goto (tgt := 425) hx hb dX12_ends_142 (by decide) ?_
  obtain rfl := Option.some.inj hf
  exact W.vret hx hb hr (fun t ht hW => ⟨⟨(), rfl, trivial, by rw [ht]; exact hP, va_K.moved hW.alike hK, hD⟩, hS.F ht⟩) hS.2.2 dX12_ends_425
set_option maxHeartbeats 4000000 in
set_option maxRecDepth 100000 in
theorem j_X12_ends_242 {p : Program} {e : Env} {s : State} {m : MethodId} {args : Array Value} {below : List Frame} {meth : Method} {c : Code} {A : Nat → Prop} (l : Launch) (dC : Nat → ClassId) (dI : Nat → Nat → Nat) (Q : RQ) (N : Nat) (R : RS) (hx : p.tables.exec = Jvm.exec) (hb : c.code = cX12_ends) (hr : meth.sig.returnType = none) (hml : c.maxLocals = 5) (hown : s.vm.findClass RX12 = some m.cls) (hts : ∀ w ∈ wzX12_ends, w.before args s = true) (hlocks : meth.locks = false) (hZ : zAMB s) (hA : ∀ q : Nat, s.heap.size ≤ q → A q) (hK : va_K (dC, dI) vwCl (rT Q) s) : ∀ (σ : RS) (H : Heap) (locs : List Loc) (ls : Array Slot), f_X12_ends_242 N σ = some R → va_P (dC, dI) vwCl (rW Q σ) H → va_D A (rW Q σ) → va_S A s.heap H locs → lv_has ls 5 [] → W p l e ({ frames := 5, cells := 0, slots := 0, locals := 300 }) s m args below meth c H locs 0 0 (MQ below (va_Qv (fun (_ : Unit) => True) (fun (_ : Unit) (t : State) => zPost dC dI A (rW Q R) (rT Q) t) A) args s 0 0 A) (F0 m 242 ls []) := by
  intro σ  H locs ls hf hP hD hS hl
  unfold f_X12_ends_242 at hf
  refine lv_goto (tgt := 425) hx hb dX12_ends_242 (by decide) ?_
  obtain rfl := Option.some.inj hf
  exact W.vret hx hb hr (fun t ht hW => ⟨⟨(), rfl, trivial, by rw [ht]; exact hP, va_K.moved hW.alike hK, hD⟩, hS.F ht⟩) hS.2.2 dX12_ends_425
set_option maxHeartbeats 4000000 in
set_option maxRecDepth 100000 in
theorem j_X12_ends_351 {p : Program} {e : Env} {s : State} {m : MethodId} {args : Array Value} {below : List Frame} {meth : Method} {c : Code} {A : Nat → Prop} (l : Launch) (dC : Nat → ClassId) (dI : Nat → Nat → Nat) (Q : RQ) (N : Nat) (R : RS) (hx : p.tables.exec = Jvm.exec) (hb : c.code = cX12_ends) (hr : meth.sig.returnType = none) (hml : c.maxLocals = 5) (hown : s.vm.findClass RX12 = some m.cls) (hts : ∀ w ∈ wzX12_ends, w.before args s = true) (hlocks : meth.locks = false) (hZ : zAMB s) (hA : ∀ q : Nat, s.heap.size ≤ q → A q) (hK : va_K (dC, dI) vwCl (rT Q) s) : ∀ (σ : RS) (H : Heap) (locs : List Loc) (ls : Array Slot), f_X12_ends_351 N σ = some R → va_P (dC, dI) vwCl (rW Q σ) H → va_D A (rW Q σ) → va_S A s.heap H locs → lv_has ls 5 [] → W p l e ({ frames := 5, cells := 0, slots := 0, locals := 300 }) s m args below meth c H locs 0 0 (MQ below (va_Qv (fun (_ : Unit) => True) (fun (_ : Unit) (t : State) => zPost dC dI A (rW Q R) (rT Q) t) A) args s 0 0 A) (F0 m 351 ls []) := by
  intro σ  H locs ls hf hP hD hS hl
  unfold f_X12_ends_351 at hf
  refine lv_goto (tgt := 425) hx hb dX12_ends_351 (by decide) ?_
  obtain rfl := Option.some.inj hf
  exact W.vret hx hb hr (fun t ht hW => ⟨⟨(), rfl, trivial, by rw [ht]; exact hP, va_K.moved hW.alike hK, hD⟩, hS.F ht⟩) hS.2.2 dX12_ends_425
set_option maxHeartbeats 4000000 in
set_option maxRecDepth 100000 in
theorem c_X12_ends (l : Launch) (dC : Nat → ClassId) (dI : Nat → Nat → Nat) (sz : Nat) (Q : RQ) (N : Nat) (σ : RS) (x1 : Int32) (x2 : Int32) (R : RS) (hf : f_X12_ends N σ x1 x2 = some R) : Met l yX12_ends wzX12_ends ({ frames := 5, cells := 0, slots := 0, locals := 300 }) (va_Pc [.ref Q.h0, .int x1, .int x2] (zPre dC dI sz (rW Q σ) (rT Q))) (va_Qv (fun (_ : Unit) => True) (fun (_ : Unit) (t : State) => zPost dC dI (va_A (rW Q σ) sz) (rW Q R) (rT Q) t) (va_A (rW Q σ) sz)) 0 0 (va_A (rW Q σ) sz) := by
  refine Met.ofW (cc := cX12_ends) (maxL := 5) (ret := none) (by decide) rfl ?_
  intro p e s m args below meth c s₁ B hml hv
  obtain ⟨rfl, hsz, hZ, hP, hK, hD0⟩ := hv
  have hx := B.exec
  have hb := B.bytes
  have hr := B.returns
  have hts := atoms_spec (ws := wzX12_ends) B.pre
  have hown : s.vm.findClass RX12 = some m.cls := findClass_of_methodNamed B.named
  have hlocks := B.notSynchronized
  subst hsz
  have hD := hD0.self (sz := s.heap.size)
  generalize hAe : va_A (rW Q σ) s.heap.size = A at hD ⊢
  have hA : ∀ q : Nat, s.heap.size ≤ q → A q := fun q h => by rw [← hAe]; exact Or.inr h
  have hS : va_S A s.heap s.heap [] := va_S.rf
  have hl := lv_entry ([.ref Q.h0, .int x1, .int x2]) (n := 5) (Nat.le_of_ble_eq_true rfl)
  rw [lg_entry_eq]
  generalize (lg_sl ([.ref Q.h0, .int x1, .int x2]) ++ List.replicate (5 - (lg_sl ([.ref Q.h0, .int x1, .int x2])).length) Slot.unset).toArray = ls at hl ⊢
  have hl : lv_has ls 5 [(0, .ref Q.h0), (1, .int x1), (2, .int x2)] := hl
  unfold f_X12_ends at hf
  refine lv_aload_n hx hb dX12_ends_0 rfl (lv_at hl 0 rfl) ?_
  refine rG_21 hx hb hts i_X12_ends_X12 hown hK hP (hts (.fieldLink RX12 84 "StatementRules2Model" "op" "[I") k_X12_ends_fieldLink_RX12_84_SRModel_op_I) dX12_ends_1 ?_
  refine lv_iload_n hx hb dX12_ends_4 rfl (lv_at hl 1 rfl) ?_
  obtain ⟨b1, hf⟩ := hf_ite hf
  refine rL_21 (v := (σ.a 21 ((x1 : Int32).toNatClampNeg))) hx hb hK hP b1 dX12_ends_5 rfl ?_
  by_cases c2 : (σ.a 21 ((x1 : Int32).toNatClampNeg)) = 17
  ·
    replace hf := (if_pos c2).symm.trans hf
    refine lv_tableIn (off := 94) (tgt := 100) hx hb dX12_ends_6 (by rw [c2]; decide) (by rw [c2]; decide) (by rw [c2]; decide) (by decide) ?_
    refine lv_aload_n hx hb dX12_ends_100 rfl (lv_at hl 0 rfl) ?_
    refine lv_aload_n hx hb dX12_ends_101 rfl (lv_at hl 0 rfl) ?_
    obtain ⟨p3, hcp3, hf⟩ := hf_bind hf
    have hFc := r_free hD hS hA
    refine va_calli (va_runV (As := []) (rest := [.ref Q.h0]) ⟨hx, hb, hml, hown, hts⟩ (c_X12_take l dC dI _ Q N σ p3 hcp3) (cwV 0 hts hX12_ends_X12_take_v645 rfl rfl rfl (by decide +kernel) ⟨Nat.le_of_ble_eq_true rfl, Nat.le_of_ble_eq_true rfl⟩) ⟨zPre.blind, va_recv hK hP (ci := 11) (q0 := 0) rfl rfl, zPre.go hZ hP hK hD⟩ rfl rfl hl.1 rfl (lv_room (Nat.le_of_ble_eq_true rfl)) dX12_ends_102 ⟨Nat.le_of_ble_eq_true rfl, Nat.le_of_ble_eq_true rfl⟩) hS (fun q _ h => hFc q h) hFc (fun r4 u9 t9 H1 locs ht hvm hw hB hz1 hk1 hS => ?_)
    obtain ⟨hP, hK1, hD1⟩ := hB
    rw [ht] at hP
    have hD := hD1.weaken (fun _ _ _ h => hFc _ h)
    generalize H1 = H at hP hS ⊢
    obtain rfl : r4 = p3.1 := hw
    refine rP_113 hx hb hts i_X12_ends_X12 hown hK hP hD hS (hts (.fieldLink RX12 615 "StatementRules2Model" "value" "I") k_X12_ends_fieldLink_RX12_615_SRModel_value_I) dX12_ends_105 (fun H locs hP hD hS => ?_)
    refine lv_aload_n hx hb dX12_ends_108 rfl (lv_at hl 0 rfl) ?_
    refine lv_aload_n hx hb dX12_ends_109 rfl (lv_at hl 0 rfl) ?_
    refine rG_21 hx hb hts i_X12_ends_X12 hown hK hP (hts (.fieldLink RX12 84 "StatementRules2Model" "op" "[I") k_X12_ends_fieldLink_RX12_84_SRModel_op_I) dX12_ends_110 ?_
    refine lv_iload_n hx hb dX12_ends_113 rfl (lv_at hl 1 rfl) ?_
    refine rL_21 (v := (p3.2.a 21 ((x1 : Int32).toNatClampNeg))) hx hb hK hP b1 dX12_ends_114 rfl ?_
    refine lv_bipush (v := 17) hx hb dX12_ends_115 (by decide) ?_
    refine lv_icmp_ne (tgt := 124) hx hb dX12_ends_117 (by decide) (fun c5 => ?_) (fun c5 => ?_)
    ·
      replace hf := (if_neg c5).symm.trans hf
      refine lv_iconst (v := 4) hx hb dX12_ends_124 (by decide) ?_
      refine rP_110 hx hb hts i_X12_ends_X12 hown hK hP hD hS (hts (.fieldLink RX12 597 "StatementRules2Model" "how" "I") k_X12_ends_fieldLink_RX12_597_SRModel_how_I) dX12_ends_125 (fun H locs hP hD hS => ?_)
      exact j_X12_ends_128 l dC dI Q N R hx hb hr hml hown hts hlocks hZ hA hK (RS.setI (RS.setI p3.2 113 p3.1) 110 4) x1 _ _ _ hf hP hD hS (lv_sub hl [0, 1] rfl)
    ·
      replace hf := (if_pos c5).symm.trans hf
      refine lv_iconst (v := 2) hx hb dX12_ends_120 (by decide) ?_
      refine lv_goto (tgt := 125) hx hb dX12_ends_121 (by decide) ?_
      refine rP_110 hx hb hts i_X12_ends_X12 hown hK hP hD hS (hts (.fieldLink RX12 597 "StatementRules2Model" "how" "I") k_X12_ends_fieldLink_RX12_597_SRModel_how_I) dX12_ends_125 (fun H locs hP hD hS => ?_)
      exact j_X12_ends_128 l dC dI Q N R hx hb hr hml hown hts hlocks hZ hA hK (RS.setI (RS.setI p3.2 113 p3.1) 110 2) x1 _ _ _ hf hP hD hS (lv_sub hl [0, 1] rfl)
  replace hf := (if_neg c2).symm.trans hf
  by_cases c9 : (σ.a 21 ((x1 : Int32).toNatClampNeg)) = 18
  ·
    replace hf := (if_pos c9).symm.trans hf
    refine lv_tableIn (off := 94) (tgt := 100) hx hb dX12_ends_6 (by rw [c9]; decide) (by rw [c9]; decide) (by rw [c9]; decide) (by decide) ?_
    refine lv_aload_n hx hb dX12_ends_100 rfl (lv_at hl 0 rfl) ?_
    refine lv_aload_n hx hb dX12_ends_101 rfl (lv_at hl 0 rfl) ?_
    obtain ⟨p10, hcp10, hf⟩ := hf_bind hf
    have hFc := r_free hD hS hA
    refine va_calli (va_runV (As := []) (rest := [.ref Q.h0]) ⟨hx, hb, hml, hown, hts⟩ (c_X12_take l dC dI _ Q N σ p10 hcp10) (cwV 0 hts hX12_ends_X12_take_v645 rfl rfl rfl (by decide +kernel) ⟨Nat.le_of_ble_eq_true rfl, Nat.le_of_ble_eq_true rfl⟩) ⟨zPre.blind, va_recv hK hP (ci := 11) (q0 := 0) rfl rfl, zPre.go hZ hP hK hD⟩ rfl rfl hl.1 rfl (lv_room (Nat.le_of_ble_eq_true rfl)) dX12_ends_102 ⟨Nat.le_of_ble_eq_true rfl, Nat.le_of_ble_eq_true rfl⟩) hS (fun q _ h => hFc q h) hFc (fun r11 u9 t9 H1 locs ht hvm hw hB hz1 hk1 hS => ?_)
    obtain ⟨hP, hK1, hD1⟩ := hB
    rw [ht] at hP
    have hD := hD1.weaken (fun _ _ _ h => hFc _ h)
    generalize H1 = H at hP hS ⊢
    obtain rfl : r11 = p10.1 := hw
    refine rP_113 hx hb hts i_X12_ends_X12 hown hK hP hD hS (hts (.fieldLink RX12 615 "StatementRules2Model" "value" "I") k_X12_ends_fieldLink_RX12_615_SRModel_value_I) dX12_ends_105 (fun H locs hP hD hS => ?_)
    refine lv_aload_n hx hb dX12_ends_108 rfl (lv_at hl 0 rfl) ?_
    refine lv_aload_n hx hb dX12_ends_109 rfl (lv_at hl 0 rfl) ?_
    refine rG_21 hx hb hts i_X12_ends_X12 hown hK hP (hts (.fieldLink RX12 84 "StatementRules2Model" "op" "[I") k_X12_ends_fieldLink_RX12_84_SRModel_op_I) dX12_ends_110 ?_
    refine lv_iload_n hx hb dX12_ends_113 rfl (lv_at hl 1 rfl) ?_
    refine rL_21 (v := (p10.2.a 21 ((x1 : Int32).toNatClampNeg))) hx hb hK hP b1 dX12_ends_114 rfl ?_
    refine lv_bipush (v := 17) hx hb dX12_ends_115 (by decide) ?_
    refine lv_icmp_ne (tgt := 124) hx hb dX12_ends_117 (by decide) (fun c12 => ?_) (fun c12 => ?_)
    ·
      replace hf := (if_neg c12).symm.trans hf
      refine lv_iconst (v := 4) hx hb dX12_ends_124 (by decide) ?_
      refine rP_110 hx hb hts i_X12_ends_X12 hown hK hP hD hS (hts (.fieldLink RX12 597 "StatementRules2Model" "how" "I") k_X12_ends_fieldLink_RX12_597_SRModel_how_I) dX12_ends_125 (fun H locs hP hD hS => ?_)
      exact j_X12_ends_128 l dC dI Q N R hx hb hr hml hown hts hlocks hZ hA hK (RS.setI (RS.setI p10.2 113 p10.1) 110 4) x1 _ _ _ hf hP hD hS (lv_sub hl [0, 1] rfl)
    ·
      replace hf := (if_pos c12).symm.trans hf
      refine lv_iconst (v := 2) hx hb dX12_ends_120 (by decide) ?_
      refine lv_goto (tgt := 125) hx hb dX12_ends_121 (by decide) ?_
      refine rP_110 hx hb hts i_X12_ends_X12 hown hK hP hD hS (hts (.fieldLink RX12 597 "StatementRules2Model" "how" "I") k_X12_ends_fieldLink_RX12_597_SRModel_how_I) dX12_ends_125 (fun H locs hP hD hS => ?_)
      exact j_X12_ends_128 l dC dI Q N R hx hb hr hml hown hts hlocks hZ hA hK (RS.setI (RS.setI p10.2 113 p10.1) 110 2) x1 _ _ _ hf hP hD hS (lv_sub hl [0, 1] rfl)
  replace hf := (if_neg c9).symm.trans hf
  by_cases c13 : (σ.a 21 ((x1 : Int32).toNatClampNeg)) = 19
  ·
    replace hf := (if_pos c13).symm.trans hf
    refine lv_tableIn (off := 166) (tgt := 172) hx hb dX12_ends_6 (by rw [c13]; decide) (by rw [c13]; decide) (by rw [c13]; decide) (by decide) ?_
    refine lv_aload_n hx hb dX12_ends_172 rfl (lv_at hl 0 rfl) ?_
    refine lv_iload_n hx hb dX12_ends_173 rfl (lv_at hl 2 rfl) ?_
    refine lv_aload_n hx hb dX12_ends_174 rfl (lv_at hl 0 rfl) ?_
    obtain ⟨p14, hcp14, hf⟩ := hf_bind hf
    have hFc := r_free hD hS hA
    refine va_calli (va_runV (As := []) (rest := [.int x2, .ref Q.h0]) ⟨hx, hb, hml, hown, hts⟩ (c_X12_take l dC dI _ Q N σ p14 hcp14) (cwV 0 hts hX12_ends_X12_take_v645 rfl rfl rfl (by decide +kernel) ⟨Nat.le_of_ble_eq_true rfl, Nat.le_of_ble_eq_true rfl⟩) ⟨zPre.blind, va_recv hK hP (ci := 11) (q0 := 0) rfl rfl, zPre.go hZ hP hK hD⟩ rfl rfl hl.1 rfl (lv_room (Nat.le_of_ble_eq_true rfl)) dX12_ends_175 ⟨Nat.le_of_ble_eq_true rfl, Nat.le_of_ble_eq_true rfl⟩) hS (fun q _ h => hFc q h) hFc (fun r15 u9 t9 H1 locs ht hvm hw hB hz1 hk1 hS => ?_)
    obtain ⟨hP, hK1, hD1⟩ := hB
    rw [ht] at hP
    have hD := hD1.weaken (fun _ _ _ h => hFc _ h)
    generalize H1 = H at hP hS ⊢
    obtain rfl : r15 = p14.1 := hw
    obtain ⟨p16, hcp16, hf⟩ := hf_bind hf
    have hFc := r_free hD hS hA
    refine va_callv (va_runV (As := [.int x2, .int p14.1]) (rest := []) ⟨hx, hb, hml, hown, hts⟩ (c_X12_raise l dC dI _ Q N p14.2 x2 p14.1 p16 hcp16) (cwV 2 hts hX12_ends_X12_raise_v606 rfl rfl rfl (by decide +kernel) ⟨Nat.le_of_ble_eq_true rfl, Nat.le_of_ble_eq_true rfl⟩) ⟨zPre.blind, va_recv hK hP (ci := 11) (q0 := 0) rfl rfl, zPre.go hZ hP hK hD⟩ rfl rfl hl.1 rfl (lv_room (Nat.le_of_ble_eq_true rfl)) dX12_ends_178 ⟨Nat.le_of_ble_eq_true rfl, Nat.le_of_ble_eq_true rfl⟩) hS (fun q _ h => hFc q h) hFc (fun u9 t9 H1 locs ht hvm hw hB hz1 hk1 hS => ?_)
    obtain ⟨hP, hK1, hD1⟩ := hB
    rw [ht] at hP
    have hD := hD1.weaken (fun _ _ _ h => hFc _ h)
    generalize H1 = H at hP hS ⊢
    refine lv_aload_n hx hb dX12_ends_181 rfl (lv_at hl 0 rfl) ?_
    obtain ⟨p18, hcp18, hf⟩ := hf_bind hf
    have hFc := r_free hD hS hA
    refine va_callv (va_runV (As := []) (rest := []) ⟨hx, hb, hml, hown, hts⟩ (c_X12_leave l dC dI _ Q N p16 p18 hcp18) (cwV 0 hts hX12_ends_X12_leave_v648 rfl rfl rfl (by decide +kernel) ⟨Nat.le_of_ble_eq_true rfl, Nat.le_of_ble_eq_true rfl⟩) ⟨zPre.blind, va_recv hK hP (ci := 11) (q0 := 0) rfl rfl, zPre.go hZ hP hK hD⟩ rfl rfl hl.1 rfl (lv_room (Nat.le_of_ble_eq_true rfl)) dX12_ends_182 ⟨Nat.le_of_ble_eq_true rfl, Nat.le_of_ble_eq_true rfl⟩) hS (fun q _ h => hFc q h) hFc (fun u9 t9 H1 locs ht hvm hw hB hz1 hk1 hS => ?_)
    obtain ⟨hP, hK1, hD1⟩ := hB
    rw [ht] at hP
    have hD := hD1.weaken (fun _ _ _ h => hFc _ h)
    generalize H1 = H at hP hS ⊢
    refine lv_goto (tgt := 425) hx hb dX12_ends_185 (by decide) ?_
    obtain rfl := Option.some.inj hf
    exact W.vret hx hb hr (fun t ht hW => ⟨⟨(), rfl, trivial, by rw [ht]; exact hP, va_K.moved hW.alike hK, hD⟩, hS.F ht⟩) hS.2.2 dX12_ends_425
  replace hf := (if_neg c13).symm.trans hf
  by_cases c20 : (σ.a 21 ((x1 : Int32).toNatClampNeg)) = 20
  ·
    replace hf := (if_pos c20).symm.trans hf
    refine lv_tableIn (off := 182) (tgt := 188) hx hb dX12_ends_6 (by rw [c20]; decide) (by rw [c20]; decide) (by rw [c20]; decide) (by decide) ?_
    refine lv_aload_n hx hb dX12_ends_188 rfl (lv_at hl 0 rfl) ?_
    refine lv_iload_n hx hb dX12_ends_189 rfl (lv_at hl 2 rfl) ?_
    refine lv_iconst (v := 0) hx hb dX12_ends_190 (by decide) ?_
    obtain ⟨p21, hcp21, hf⟩ := hf_bind hf
    have hFc := r_free hD hS hA
    refine va_callv (va_runV (As := [.int x2, .int 0]) (rest := []) ⟨hx, hb, hml, hown, hts⟩ (c_X12_raise l dC dI _ Q N σ x2 0 p21 hcp21) (cwV 2 hts hX12_ends_X12_raise_v606 rfl rfl rfl (by decide +kernel) ⟨Nat.le_of_ble_eq_true rfl, Nat.le_of_ble_eq_true rfl⟩) ⟨zPre.blind, va_recv hK hP (ci := 11) (q0 := 0) rfl rfl, zPre.go hZ hP hK hD⟩ rfl rfl hl.1 rfl (lv_room (Nat.le_of_ble_eq_true rfl)) dX12_ends_191 ⟨Nat.le_of_ble_eq_true rfl, Nat.le_of_ble_eq_true rfl⟩) hS (fun q _ h => hFc q h) hFc (fun u9 t9 H1 locs ht hvm hw hB hz1 hk1 hS => ?_)
    obtain ⟨hP, hK1, hD1⟩ := hB
    rw [ht] at hP
    have hD := hD1.weaken (fun _ _ _ h => hFc _ h)
    generalize H1 = H at hP hS ⊢
    refine lv_aload_n hx hb dX12_ends_194 rfl (lv_at hl 0 rfl) ?_
    obtain ⟨p23, hcp23, hf⟩ := hf_bind hf
    have hFc := r_free hD hS hA
    refine va_callv (va_runV (As := []) (rest := []) ⟨hx, hb, hml, hown, hts⟩ (c_X12_leave l dC dI _ Q N p21 p23 hcp23) (cwV 0 hts hX12_ends_X12_leave_v648 rfl rfl rfl (by decide +kernel) ⟨Nat.le_of_ble_eq_true rfl, Nat.le_of_ble_eq_true rfl⟩) ⟨zPre.blind, va_recv hK hP (ci := 11) (q0 := 0) rfl rfl, zPre.go hZ hP hK hD⟩ rfl rfl hl.1 rfl (lv_room (Nat.le_of_ble_eq_true rfl)) dX12_ends_195 ⟨Nat.le_of_ble_eq_true rfl, Nat.le_of_ble_eq_true rfl⟩) hS (fun q _ h => hFc q h) hFc (fun u9 t9 H1 locs ht hvm hw hB hz1 hk1 hS => ?_)
    obtain ⟨hP, hK1, hD1⟩ := hB
    rw [ht] at hP
    have hD := hD1.weaken (fun _ _ _ h => hFc _ h)
    generalize H1 = H at hP hS ⊢
    refine lv_goto (tgt := 425) hx hb dX12_ends_198 (by decide) ?_
    obtain rfl := Option.some.inj hf
    exact W.vret hx hb hr (fun t ht hW => ⟨⟨(), rfl, trivial, by rw [ht]; exact hP, va_K.moved hW.alike hK, hD⟩, hS.F ht⟩) hS.2.2 dX12_ends_425
  replace hf := (if_neg c20).symm.trans hf
  by_cases c25 : (σ.a 21 ((x1 : Int32).toNatClampNeg)) = 21
  ·
    replace hf := (if_pos c25).symm.trans hf
    refine lv_tableIn (off := 195) (tgt := 201) hx hb dX12_ends_6 (by rw [c25]; decide) (by rw [c25]; decide) (by rw [c25]; decide) (by decide) ?_
    refine lv_aload_n hx hb dX12_ends_201 rfl (lv_at hl 0 rfl) ?_
    refine lv_aload_n hx hb dX12_ends_202 rfl (lv_at hl 0 rfl) ?_
    refine rG_84 hx hb hts i_X12_ends_X12 hown hK hP (hts (.fieldLink RX12 213 "StatementRules2Model" "vals" "[I") k_X12_ends_fieldLink_RX12_213_SRModel_vals_I) dX12_ends_203 ?_
    refine lv_iload_n hx hb dX12_ends_206 rfl (lv_at hl 2 rfl) ?_
    obtain ⟨b26, hf⟩ := hf_ite hf
    refine rL_84 (v := (σ.a 84 ((x2 : Int32).toNatClampNeg))) hx hb hK hP b26 dX12_ends_207 rfl ?_
    refine rP_114 hx hb hts i_X12_ends_X12 hown hK hP hD hS (hts (.fieldLink RX12 595 "StatementRules2Model" "thing" "I") k_X12_ends_fieldLink_RX12_595_SRModel_thing_I) dX12_ends_208 (fun H locs hP hD hS => ?_)
    refine lv_aload_n hx hb dX12_ends_211 rfl (lv_at hl 0 rfl) ?_
    refine lv_iconst (v := 3) hx hb dX12_ends_212 (by decide) ?_
    refine rP_110 hx hb hts i_X12_ends_X12 hown hK hP hD hS (hts (.fieldLink RX12 597 "StatementRules2Model" "how" "I") k_X12_ends_fieldLink_RX12_597_SRModel_how_I) dX12_ends_213 (fun H locs hP hD hS => ?_)
    refine lv_aload_n hx hb dX12_ends_216 rfl (lv_at hl 0 rfl) ?_
    obtain ⟨p27, hcp27, hf⟩ := hf_bind hf
    have hFc := r_free hD hS hA
    refine va_callv (va_runV (As := []) (rest := []) ⟨hx, hb, hml, hown, hts⟩ (c_X12_leave l dC dI _ Q N (RS.setI (RS.setI σ 114 (σ.a 84 ((x2 : Int32).toNatClampNeg))) 110 3) p27 hcp27) (cwV 0 hts hX12_ends_X12_leave_v648 rfl rfl rfl (by decide +kernel) ⟨Nat.le_of_ble_eq_true rfl, Nat.le_of_ble_eq_true rfl⟩) ⟨zPre.blind, va_recv hK hP (ci := 11) (q0 := 0) rfl rfl, zPre.go hZ hP hK hD⟩ rfl rfl hl.1 rfl (lv_room (Nat.le_of_ble_eq_true rfl)) dX12_ends_217 ⟨Nat.le_of_ble_eq_true rfl, Nat.le_of_ble_eq_true rfl⟩) hS (fun q _ h => hFc q h) hFc (fun u9 t9 H1 locs ht hvm hw hB hz1 hk1 hS => ?_)
    obtain ⟨hP, hK1, hD1⟩ := hB
    rw [ht] at hP
    have hD := hD1.weaken (fun _ _ _ h => hFc _ h)
    generalize H1 = H at hP hS ⊢
    refine lv_goto (tgt := 425) hx hb dX12_ends_220 (by decide) ?_
    obtain rfl := Option.some.inj hf
    exact W.vret hx hb hr (fun t ht hW => ⟨⟨(), rfl, trivial, by rw [ht]; exact hP, va_K.moved hW.alike hK, hD⟩, hS.F ht⟩) hS.2.2 dX12_ends_425
  replace hf := (if_neg c25).symm.trans hf
  by_cases c29 : (σ.a 21 ((x1 : Int32).toNatClampNeg)) = 22
  ·
    replace hf := (if_pos c29).symm.trans hf
    refine lv_tableIn (off := 217) (tgt := 223) hx hb dX12_ends_6 (by rw [c29]; decide) (by rw [c29]; decide) (by rw [c29]; decide) (by decide) ?_
    refine lv_aload_n hx hb dX12_ends_223 rfl (lv_at hl 0 rfl) ?_
    refine lv_aload_n hx hb dX12_ends_224 rfl (lv_at hl 0 rfl) ?_
    refine rG_8 (v := (σ.i 8)) hx hb hts i_X12_ends_X12 hown hK hP (hts (.fieldLink RX12 287 "StatementRules2Model" "asserting" "Z") k_X12_ends_fieldLink_RX12_287_SRModel_asserting_Z) dX12_ends_225 rfl ?_
    refine lv_if_eq (tgt := 238) hx hb dX12_ends_228 (by decide) (fun c30 => ?_) (fun c30 => ?_)
    ·
      replace hf := (if_pos c30).symm.trans hf
      refine lv_iload_n hx hb dX12_ends_238 rfl (lv_at hl 2 rfl) ?_
      refine rP_92 hx hb hts i_X12_ends_X12 hown hK hP hD hS (hts (.fieldLink RX12 618 "StatementRules2Model" "pc" "I") k_X12_ends_fieldLink_RX12_618_SRModel_pc_I) dX12_ends_239 (fun H locs hP hD hS => ?_)
      exact j_X12_ends_242 l dC dI Q N R hx hb hr hml hown hts hlocks hZ hA hK (RS.setI σ 92 x2) _ _ _ hf hP hD hS (lv_sub hl [] rfl)
    ·
      replace hf := (if_neg c30).symm.trans hf
      refine lv_aload_n hx hb dX12_ends_231 rfl (lv_at hl 0 rfl) ?_
      refine rG_92 (v := (σ.i 92)) hx hb hts i_X12_ends_X12 hown hK hP (hts (.fieldLink RX12 618 "StatementRules2Model" "pc" "I") k_X12_ends_fieldLink_RX12_618_SRModel_pc_I) dX12_ends_232 rfl ?_
      refine lv_goto (tgt := 239) hx hb dX12_ends_235 (by decide) ?_
      refine rP_92 hx hb hts i_X12_ends_X12 hown hK hP hD hS (hts (.fieldLink RX12 618 "StatementRules2Model" "pc" "I") k_X12_ends_fieldLink_RX12_618_SRModel_pc_I) dX12_ends_239 (fun H locs hP hD hS => ?_)
      exact j_X12_ends_242 l dC dI Q N R hx hb hr hml hown hts hlocks hZ hA hK (RS.setI σ 92 (σ.i 92)) _ _ _ hf hP hD hS (lv_sub hl [] rfl)
  replace hf := (if_neg c29).symm.trans hf
  by_cases c31 : (σ.a 21 ((x1 : Int32).toNatClampNeg)) = 23
  ·
    replace hf := (if_pos c31).symm.trans hf
    refine lv_tableIn (off := 413) (tgt := 419) hx hb dX12_ends_6 (by rw [c31]; decide) (by rw [c31]; decide) (by rw [c31]; decide) (by decide) ?_
    refine lv_aload_n hx hb dX12_ends_419 rfl (lv_at hl 0 rfl) ?_
    refine lv_iload_n hx hb dX12_ends_420 rfl (lv_at hl 1 rfl) ?_
    refine lv_iload_n hx hb dX12_ends_421 rfl (lv_at hl 2 rfl) ?_
    obtain ⟨p32, hcp32, hf⟩ := hf_bind hf
    have hFc := r_free hD hS hA
    refine va_callv (va_runV (As := [.int x1, .int x2]) (rest := []) ⟨hx, hb, hml, hown, hts⟩ (c_X12_others l dC dI _ Q N σ x1 x2 p32 hcp32) (cwV 2 hts hX12_ends_X12_others_v665 rfl rfl rfl (by decide +kernel) ⟨Nat.le_of_ble_eq_true rfl, Nat.le_of_ble_eq_true rfl⟩) ⟨zPre.blind, va_recv hK hP (ci := 11) (q0 := 0) rfl rfl, zPre.go hZ hP hK hD⟩ rfl rfl hl.1 rfl (lv_room (Nat.le_of_ble_eq_true rfl)) dX12_ends_422 ⟨Nat.le_of_ble_eq_true rfl, Nat.le_of_ble_eq_true rfl⟩) hS (fun q _ h => hFc q h) hFc (fun u9 t9 H1 locs ht hvm hw hB hz1 hk1 hS => ?_)
    obtain ⟨hP, hK1, hD1⟩ := hB
    rw [ht] at hP
    have hD := hD1.weaken (fun _ _ _ h => hFc _ h)
    generalize H1 = H at hP hS ⊢
    obtain rfl := Option.some.inj hf
    exact W.vret hx hb hr (fun t ht hW => ⟨⟨(), rfl, trivial, by rw [ht]; exact hP, va_K.moved hW.alike hK, hD⟩, hS.F ht⟩) hS.2.2 dX12_ends_425
  replace hf := (if_neg c31).symm.trans hf
  by_cases c34 : (σ.a 21 ((x1 : Int32).toNatClampNeg)) = 24
  ·
    replace hf := (if_pos c34).symm.trans hf
    refine lv_tableIn (off := 413) (tgt := 419) hx hb dX12_ends_6 (by rw [c34]; decide) (by rw [c34]; decide) (by rw [c34]; decide) (by decide) ?_
    refine lv_aload_n hx hb dX12_ends_419 rfl (lv_at hl 0 rfl) ?_
    refine lv_iload_n hx hb dX12_ends_420 rfl (lv_at hl 1 rfl) ?_
    refine lv_iload_n hx hb dX12_ends_421 rfl (lv_at hl 2 rfl) ?_
    obtain ⟨p35, hcp35, hf⟩ := hf_bind hf
    have hFc := r_free hD hS hA
    refine va_callv (va_runV (As := [.int x1, .int x2]) (rest := []) ⟨hx, hb, hml, hown, hts⟩ (c_X12_others l dC dI _ Q N σ x1 x2 p35 hcp35) (cwV 2 hts hX12_ends_X12_others_v665 rfl rfl rfl (by decide +kernel) ⟨Nat.le_of_ble_eq_true rfl, Nat.le_of_ble_eq_true rfl⟩) ⟨zPre.blind, va_recv hK hP (ci := 11) (q0 := 0) rfl rfl, zPre.go hZ hP hK hD⟩ rfl rfl hl.1 rfl (lv_room (Nat.le_of_ble_eq_true rfl)) dX12_ends_422 ⟨Nat.le_of_ble_eq_true rfl, Nat.le_of_ble_eq_true rfl⟩) hS (fun q _ h => hFc q h) hFc (fun u9 t9 H1 locs ht hvm hw hB hz1 hk1 hS => ?_)
    obtain ⟨hP, hK1, hD1⟩ := hB
    rw [ht] at hP
    have hD := hD1.weaken (fun _ _ _ h => hFc _ h)
    generalize H1 = H at hP hS ⊢
    obtain rfl := Option.some.inj hf
    exact W.vret hx hb hr (fun t ht hW => ⟨⟨(), rfl, trivial, by rw [ht]; exact hP, va_K.moved hW.alike hK, hD⟩, hS.F ht⟩) hS.2.2 dX12_ends_425
  replace hf := (if_neg c34).symm.trans hf
  by_cases c37 : (σ.a 21 ((x1 : Int32).toNatClampNeg)) = 25
  ·
    replace hf := (if_pos c37).symm.trans hf
    refine lv_tableIn (off := 413) (tgt := 419) hx hb dX12_ends_6 (by rw [c37]; decide) (by rw [c37]; decide) (by rw [c37]; decide) (by decide) ?_
    refine lv_aload_n hx hb dX12_ends_419 rfl (lv_at hl 0 rfl) ?_
    refine lv_iload_n hx hb dX12_ends_420 rfl (lv_at hl 1 rfl) ?_
    refine lv_iload_n hx hb dX12_ends_421 rfl (lv_at hl 2 rfl) ?_
    obtain ⟨p38, hcp38, hf⟩ := hf_bind hf
    have hFc := r_free hD hS hA
    refine va_callv (va_runV (As := [.int x1, .int x2]) (rest := []) ⟨hx, hb, hml, hown, hts⟩ (c_X12_others l dC dI _ Q N σ x1 x2 p38 hcp38) (cwV 2 hts hX12_ends_X12_others_v665 rfl rfl rfl (by decide +kernel) ⟨Nat.le_of_ble_eq_true rfl, Nat.le_of_ble_eq_true rfl⟩) ⟨zPre.blind, va_recv hK hP (ci := 11) (q0 := 0) rfl rfl, zPre.go hZ hP hK hD⟩ rfl rfl hl.1 rfl (lv_room (Nat.le_of_ble_eq_true rfl)) dX12_ends_422 ⟨Nat.le_of_ble_eq_true rfl, Nat.le_of_ble_eq_true rfl⟩) hS (fun q _ h => hFc q h) hFc (fun u9 t9 H1 locs ht hvm hw hB hz1 hk1 hS => ?_)
    obtain ⟨hP, hK1, hD1⟩ := hB
    rw [ht] at hP
    have hD := hD1.weaken (fun _ _ _ h => hFc _ h)
    generalize H1 = H at hP hS ⊢
    obtain rfl := Option.some.inj hf
    exact W.vret hx hb hr (fun t ht hW => ⟨⟨(), rfl, trivial, by rw [ht]; exact hP, va_K.moved hW.alike hK, hD⟩, hS.F ht⟩) hS.2.2 dX12_ends_425
  replace hf := (if_neg c37).symm.trans hf
  by_cases c40 : (σ.a 21 ((x1 : Int32).toNatClampNeg)) = 26
  ·
    replace hf := (if_pos c40).symm.trans hf
    refine lv_tableIn (off := 239) (tgt := 245) hx hb dX12_ends_6 (by rw [c40]; decide) (by rw [c40]; decide) (by rw [c40]; decide) (by decide) ?_
    refine lv_aload_n hx hb dX12_ends_245 rfl (lv_at hl 0 rfl) ?_
    refine lv_iconst (v := 3) hx hb dX12_ends_246 (by decide) ?_
    refine lv_iload_n hx hb dX12_ends_247 rfl (lv_at hl 2 rfl) ?_
    obtain ⟨p41, hcp41, hf⟩ := hf_bind hf
    have hFc := r_free hD hS hA
    refine va_callv (va_runV (As := [.int 3, .int x2]) (rest := []) ⟨hx, hb, hml, hown, hts⟩ (c_X12_row l dC dI _ Q N σ 3 x2 p41 hcp41) (cwV 2 hts hX12_ends_X12_row_v603 rfl rfl rfl (by decide +kernel) ⟨Nat.le_of_ble_eq_true rfl, Nat.le_of_ble_eq_true rfl⟩) ⟨zPre.blind, va_recv hK hP (ci := 11) (q0 := 0) rfl rfl, zPre.go hZ hP hK hD⟩ rfl rfl hl.1 rfl (lv_room (Nat.le_of_ble_eq_true rfl)) dX12_ends_248 ⟨Nat.le_of_ble_eq_true rfl, Nat.le_of_ble_eq_true rfl⟩) hS (fun q _ h => hFc q h) hFc (fun u9 t9 H1 locs ht hvm hw hB hz1 hk1 hS => ?_)
    obtain ⟨hP, hK1, hD1⟩ := hB
    rw [ht] at hP
    have hD := hD1.weaken (fun _ _ _ h => hFc _ h)
    generalize H1 = H at hP hS ⊢
    refine lv_aload_n hx hb dX12_ends_251 rfl (lv_at hl 0 rfl) ?_
    refine rG_91 hx hb hts i_X12_ends_X12 hown hK hP (hts (.fieldLink RX12 231 "StatementRules2Model" "held" "[I") k_X12_ends_fieldLink_RX12_231_SRModel_held_I) dX12_ends_252 ?_
    refine lv_iload_n hx hb dX12_ends_255 rfl (lv_at hl 2 rfl) ?_
    refine lv_dup2_11 hx hb dX12_ends_256 rfl rfl ?_
    obtain ⟨b43, hf⟩ := hf_ite hf
    refine rL_91 (v := (p41.a 91 ((x2 : Int32).toNatClampNeg))) hx hb hK hP b43 dX12_ends_257 rfl ?_
    refine lv_iconst (v := 1) hx hb dX12_ends_258 (by decide) ?_
    refine lv_iadd hx hb dX12_ends_259 ?_
    refine rS_91 hx hb hK hP hD hS b43 dX12_ends_260 (fun H locs hP hD hS => ?_)
    refine lv_aload_n hx hb dX12_ends_261 rfl (lv_at hl 0 rfl) ?_
    refine lv_iconst (v := 1) hx hb dX12_ends_262 (by decide) ?_
    refine lv_iload_n hx hb dX12_ends_263 rfl (lv_at hl 2 rfl) ?_
    refine lv_iconst (v := 0) hx hb dX12_ends_264 (by decide) ?_
    refine lv_iconst (v := 0) hx hb dX12_ends_265 (by decide) ?_
    obtain ⟨p44, hcp44, hf⟩ := hf_bind hf
    have hFc := r_free hD hS hA
    refine va_calli (va_runV (As := [.int 1, .int x2, .int 0, .int 0]) (rest := []) ⟨hx, hb, hml, hown, hts⟩ (c_X12_record l dC dI _ Q N (RS.setA p41 91 ((x2 : Int32).toNatClampNeg) ((p41.a 91 ((x2 : Int32).toNatClampNeg)) + 1)) 1 x2 0 0 p44 hcp44) (cwV 4 hts hX12_ends_X12_record_v658 rfl rfl rfl (by decide +kernel) ⟨Nat.le_of_ble_eq_true rfl, Nat.le_of_ble_eq_true rfl⟩) ⟨zPre.blind, va_recv hK hP (ci := 11) (q0 := 0) rfl rfl, zPre.go hZ hP hK hD⟩ rfl rfl hl.1 rfl (lv_room (Nat.le_of_ble_eq_true rfl)) dX12_ends_266 ⟨Nat.le_of_ble_eq_true rfl, Nat.le_of_ble_eq_true rfl⟩) hS (fun q _ h => hFc q h) hFc (fun r45 u9 t9 H1 locs ht hvm hw hB hz1 hk1 hS => ?_)
    obtain ⟨hP, hK1, hD1⟩ := hB
    rw [ht] at hP
    have hD := hD1.weaken (fun _ _ _ h => hFc _ h)
    generalize H1 = H at hP hS ⊢
    obtain rfl : r45 = p44.1 := hw
    refine lv_pop hx hb dX12_ends_269 rfl ?_
    refine lv_goto (tgt := 425) hx hb dX12_ends_270 (by decide) ?_
    obtain rfl := Option.some.inj hf
    exact W.vret hx hb hr (fun t ht hW => ⟨⟨(), rfl, trivial, by rw [ht]; exact hP, va_K.moved hW.alike hK, hD⟩, hS.F ht⟩) hS.2.2 dX12_ends_425
  replace hf := (if_neg c40).symm.trans hf
  by_cases c46 : (σ.a 21 ((x1 : Int32).toNatClampNeg)) = 27
  ·
    replace hf := (if_pos c46).symm.trans hf
    refine lv_tableIn (off := 267) (tgt := 273) hx hb dX12_ends_6 (by rw [c46]; decide) (by rw [c46]; decide) (by rw [c46]; decide) (by decide) ?_
    refine lv_aload_n hx hb dX12_ends_273 rfl (lv_at hl 0 rfl) ?_
    refine lv_dup hx hb dX12_ends_274 rfl ?_
    refine rG_99 (v := (σ.i 99)) hx hb hts i_X12_ends_X12 hown hK hP (hts (.fieldLink RX12 586 "StatementRules2Model" "recs" "I") k_X12_ends_fieldLink_RX12_586_SRModel_recs_I) dX12_ends_275 rfl ?_
    refine lv_iconst (v := 1) hx hb dX12_ends_278 (by decide) ?_
    refine lv_isub hx hb dX12_ends_279 ?_
    refine rP_99 hx hb hts i_X12_ends_X12 hown hK hP hD hS (hts (.fieldLink RX12 586 "StatementRules2Model" "recs" "I") k_X12_ends_fieldLink_RX12_586_SRModel_recs_I) dX12_ends_280 (fun H locs hP hD hS => ?_)
    refine lv_aload_n hx hb dX12_ends_283 rfl (lv_at hl 0 rfl) ?_
    refine lv_iconst (v := 4) hx hb dX12_ends_284 (by decide) ?_
    refine lv_aload_n hx hb dX12_ends_285 rfl (lv_at hl 0 rfl) ?_
    refine rG_101 hx hb hts i_X12_ends_X12 hown hK hP (hts (.fieldLink RX12 246 "StatementRules2Model" "ra" "[I") k_X12_ends_fieldLink_RX12_246_SRModel_ra_I) dX12_ends_286 ?_
    refine lv_aload_n hx hb dX12_ends_289 rfl (lv_at hl 0 rfl) ?_
    refine rG_99 (v := ((σ.i 99) - 1)) hx hb hts i_X12_ends_X12 hown hK hP (hts (.fieldLink RX12 586 "StatementRules2Model" "recs" "I") k_X12_ends_fieldLink_RX12_586_SRModel_recs_I) dX12_ends_290 rfl ?_
    obtain ⟨b47, hf⟩ := hf_ite hf
    refine rL_101 (v := (σ.a 101 ((((σ.i 99) - 1) : Int32).toNatClampNeg))) hx hb hK hP b47 dX12_ends_293 rfl ?_
    obtain ⟨p48, hcp48, hf⟩ := hf_bind hf
    have hFc := r_free hD hS hA
    refine va_callv (va_runV (As := [.int 4, .int (σ.a 101 ((((σ.i 99) - 1) : Int32).toNatClampNeg))]) (rest := []) ⟨hx, hb, hml, hown, hts⟩ (c_X12_row l dC dI _ Q N (RS.setI σ 99 ((σ.i 99) - 1)) 4 (σ.a 101 ((((σ.i 99) - 1) : Int32).toNatClampNeg)) p48 hcp48) (cwV 2 hts hX12_ends_X12_row_v603 rfl rfl rfl (by decide +kernel) ⟨Nat.le_of_ble_eq_true rfl, Nat.le_of_ble_eq_true rfl⟩) ⟨zPre.blind, va_recv hK hP (ci := 11) (q0 := 0) rfl rfl, zPre.go hZ hP hK hD⟩ rfl rfl hl.1 rfl (lv_room (Nat.le_of_ble_eq_true rfl)) dX12_ends_294 ⟨Nat.le_of_ble_eq_true rfl, Nat.le_of_ble_eq_true rfl⟩) hS (fun q _ h => hFc q h) hFc (fun u9 t9 H1 locs ht hvm hw hB hz1 hk1 hS => ?_)
    obtain ⟨hP, hK1, hD1⟩ := hB
    rw [ht] at hP
    have hD := hD1.weaken (fun _ _ _ h => hFc _ h)
    generalize H1 = H at hP hS ⊢
    refine lv_aload_n hx hb dX12_ends_297 rfl (lv_at hl 0 rfl) ?_
    refine rG_91 hx hb hts i_X12_ends_X12 hown hK hP (hts (.fieldLink RX12 231 "StatementRules2Model" "held" "[I") k_X12_ends_fieldLink_RX12_231_SRModel_held_I) dX12_ends_298 ?_
    refine lv_aload_n hx hb dX12_ends_301 rfl (lv_at hl 0 rfl) ?_
    refine rG_101 hx hb hts i_X12_ends_X12 hown hK hP (hts (.fieldLink RX12 246 "StatementRules2Model" "ra" "[I") k_X12_ends_fieldLink_RX12_246_SRModel_ra_I) dX12_ends_302 ?_
    refine lv_aload_n hx hb dX12_ends_305 rfl (lv_at hl 0 rfl) ?_
    refine rG_99 (v := (p48.i 99)) hx hb hts i_X12_ends_X12 hown hK hP (hts (.fieldLink RX12 586 "StatementRules2Model" "recs" "I") k_X12_ends_fieldLink_RX12_586_SRModel_recs_I) dX12_ends_306 rfl ?_
    obtain ⟨b50, hf⟩ := hf_ite hf
    refine rL_101 (v := (p48.a 101 (((p48.i 99) : Int32).toNatClampNeg))) hx hb hK hP b50 dX12_ends_309 rfl ?_
    refine lv_dup2_11 hx hb dX12_ends_310 rfl rfl ?_
    obtain ⟨b51, hf⟩ := hf_ite hf
    refine rL_91 (v := (p48.a 91 (((p48.a 101 (((p48.i 99) : Int32).toNatClampNeg)) : Int32).toNatClampNeg))) hx hb hK hP b51 dX12_ends_311 rfl ?_
    refine lv_iconst (v := 1) hx hb dX12_ends_312 (by decide) ?_
    refine lv_isub hx hb dX12_ends_313 ?_
    refine rS_91 hx hb hK hP hD hS b51 dX12_ends_314 (fun H locs hP hD hS => ?_)
    refine lv_goto (tgt := 425) hx hb dX12_ends_315 (by decide) ?_
    obtain rfl := Option.some.inj hf
    exact W.vret hx hb hr (fun t ht hW => ⟨⟨(), rfl, trivial, by rw [ht]; exact hP, va_K.moved hW.alike hK, hD⟩, hS.F ht⟩) hS.2.2 dX12_ends_425
  replace hf := (if_neg c46).symm.trans hf
  by_cases c52 : (σ.a 21 ((x1 : Int32).toNatClampNeg)) = 28
  ·
    replace hf := (if_pos c52).symm.trans hf
    refine lv_tableIn (off := 312) (tgt := 318) hx hb dX12_ends_6 (by rw [c52]; decide) (by rw [c52]; decide) (by rw [c52]; decide) (by decide) ?_
    refine lv_aload_n hx hb dX12_ends_318 rfl (lv_at hl 0 rfl) ?_
    refine lv_iload_n hx hb dX12_ends_319 rfl (lv_at hl 2 rfl) ?_
    refine lv_aload_n hx hb dX12_ends_320 rfl (lv_at hl 0 rfl) ?_
    obtain ⟨p53, hcp53, hf⟩ := hf_bind hf
    have hFc := r_free hD hS hA
    refine va_calli (va_runV (As := []) (rest := [.int x2, .ref Q.h0]) ⟨hx, hb, hml, hown, hts⟩ (c_X12_take l dC dI _ Q N σ p53 hcp53) (cwV 0 hts hX12_ends_X12_take_v645 rfl rfl rfl (by decide +kernel) ⟨Nat.le_of_ble_eq_true rfl, Nat.le_of_ble_eq_true rfl⟩) ⟨zPre.blind, va_recv hK hP (ci := 11) (q0 := 0) rfl rfl, zPre.go hZ hP hK hD⟩ rfl rfl hl.1 rfl (lv_room (Nat.le_of_ble_eq_true rfl)) dX12_ends_321 ⟨Nat.le_of_ble_eq_true rfl, Nat.le_of_ble_eq_true rfl⟩) hS (fun q _ h => hFc q h) hFc (fun r54 u9 t9 H1 locs ht hvm hw hB hz1 hk1 hS => ?_)
    obtain ⟨hP, hK1, hD1⟩ := hB
    rw [ht] at hP
    have hD := hD1.weaken (fun _ _ _ h => hFc _ h)
    generalize H1 = H at hP hS ⊢
    obtain rfl : r54 = p53.1 := hw
    obtain ⟨p55, hcp55, hf⟩ := hf_bind hf
    have hFc := r_free hD hS hA
    refine va_calli (va_runV (As := [.int x2, .int p53.1]) (rest := []) ⟨hx, hb, hml, hown, hts⟩ (c_X12_caseOf l dC dI _ Q N p53.2 x2 p53.1 p55 hcp55) (cwV 2 hts hX12_ends_X12_caseOf_v662 rfl rfl rfl (by decide +kernel) ⟨Nat.le_of_ble_eq_true rfl, Nat.le_of_ble_eq_true rfl⟩) ⟨zPre.blind, va_recv hK hP (ci := 11) (q0 := 0) rfl rfl, zPre.go hZ hP hK hD⟩ rfl rfl hl.1 rfl (lv_room (Nat.le_of_ble_eq_true rfl)) dX12_ends_324 ⟨Nat.le_of_ble_eq_true rfl, Nat.le_of_ble_eq_true rfl⟩) hS (fun q _ h => hFc q h) hFc (fun r56 u9 t9 H1 locs ht hvm hw hB hz1 hk1 hS => ?_)
    obtain ⟨hP, hK1, hD1⟩ := hB
    rw [ht] at hP
    have hD := hD1.weaken (fun _ _ _ h => hFc _ h)
    generalize H1 = H at hP hS ⊢
    obtain rfl : r56 = p55.1 := hw
    refine lv_istore_n (lv' := [(3, .int p55.1), (0, .ref Q.h0), (1, .int x1), (2, .int x2)]) hx hb dX12_ends_327 rfl hl (by decide) rfl (fun ls hl => ?_)
    refine lv_aload_n hx hb dX12_ends_328 rfl (lv_at hl 1 rfl) ?_
    refine lv_iload_n hx hb dX12_ends_329 rfl (lv_at hl 0 rfl) ?_
    refine lv_if_ge (tgt := 342) hx hb dX12_ends_330 (by decide) (fun c57 => ?_) (fun c57 => ?_)
    ·
      replace hf := (if_pos c57).symm.trans hf
      refine lv_aload_n hx hb dX12_ends_342 rfl (lv_at hl 1 rfl) ?_
      refine rG_26 hx hb hts i_X12_ends_X12 hown hK hP (hts (.fieldLink RX12 96 "StatementRules2Model" "entryAt" "[I") k_X12_ends_fieldLink_RX12_96_SRModel_entryAt_I) dX12_ends_343 ?_
      refine lv_iload_n hx hb dX12_ends_346 rfl (lv_at hl 0 rfl) ?_
      obtain ⟨b58, hf⟩ := hf_ite hf
      refine rL_26 (v := (p55.2.a 26 ((p55.1 : Int32).toNatClampNeg))) hx hb hK hP b58 dX12_ends_347 rfl ?_
      refine rP_92 hx hb hts i_X12_ends_X12 hown hK hP hD hS (hts (.fieldLink RX12 618 "StatementRules2Model" "pc" "I") k_X12_ends_fieldLink_RX12_618_SRModel_pc_I) dX12_ends_348 (fun H locs hP hD hS => ?_)
      exact j_X12_ends_351 l dC dI Q N R hx hb hr hml hown hts hlocks hZ hA hK (RS.setI p55.2 92 (p55.2.a 26 ((p55.1 : Int32).toNatClampNeg))) _ _ _ hf hP hD hS (lv_sub hl [] rfl)
    ·
      replace hf := (if_neg c57).symm.trans hf
      refine lv_aload_n hx hb dX12_ends_333 rfl (lv_at hl 1 rfl) ?_
      refine rG_23 hx hb hts i_X12_ends_X12 hown hK hP (hts (.fieldLink RX12 90 "StatementRules2Model" "iy" "[I") k_X12_ends_fieldLink_RX12_90_SRModel_iy_I) dX12_ends_334 ?_
      refine lv_iload_n hx hb dX12_ends_337 rfl (lv_at hl 2 rfl) ?_
      refine rL_23 (v := (p55.2.a 23 ((x1 : Int32).toNatClampNeg))) hx hb hK hP b1 dX12_ends_338 rfl ?_
      refine lv_goto (tgt := 348) hx hb dX12_ends_339 (by decide) ?_
      refine rP_92 hx hb hts i_X12_ends_X12 hown hK hP hD hS (hts (.fieldLink RX12 618 "StatementRules2Model" "pc" "I") k_X12_ends_fieldLink_RX12_618_SRModel_pc_I) dX12_ends_348 (fun H locs hP hD hS => ?_)
      exact j_X12_ends_351 l dC dI Q N R hx hb hr hml hown hts hlocks hZ hA hK (RS.setI p55.2 92 (p55.2.a 23 ((x1 : Int32).toNatClampNeg))) _ _ _ hf hP hD hS (lv_sub hl [] rfl)
  replace hf := (if_neg c52).symm.trans hf
  by_cases c59 : (σ.a 21 ((x1 : Int32).toNatClampNeg)) = 29
  ·
    replace hf := (if_pos c59).symm.trans hf
    refine lv_tableIn (off := 348) (tgt := 354) hx hb dX12_ends_6 (by rw [c59]; decide) (by rw [c59]; decide) (by rw [c59]; decide) (by decide) ?_
    refine lv_aload_n hx hb dX12_ends_354 rfl (lv_at hl 0 rfl) ?_
    refine lv_iload_n hx hb dX12_ends_355 rfl (lv_at hl 2 rfl) ?_
    refine lv_aload_n hx hb dX12_ends_356 rfl (lv_at hl 0 rfl) ?_
    obtain ⟨p60, hcp60, hf⟩ := hf_bind hf
    have hFc := r_free hD hS hA
    refine va_calli (va_runV (As := []) (rest := [.int x2, .ref Q.h0]) ⟨hx, hb, hml, hown, hts⟩ (c_X12_take l dC dI _ Q N σ p60 hcp60) (cwV 0 hts hX12_ends_X12_take_v645 rfl rfl rfl (by decide +kernel) ⟨Nat.le_of_ble_eq_true rfl, Nat.le_of_ble_eq_true rfl⟩) ⟨zPre.blind, va_recv hK hP (ci := 11) (q0 := 0) rfl rfl, zPre.go hZ hP hK hD⟩ rfl rfl hl.1 rfl (lv_room (Nat.le_of_ble_eq_true rfl)) dX12_ends_357 ⟨Nat.le_of_ble_eq_true rfl, Nat.le_of_ble_eq_true rfl⟩) hS (fun q _ h => hFc q h) hFc (fun r61 u9 t9 H1 locs ht hvm hw hB hz1 hk1 hS => ?_)
    obtain ⟨hP, hK1, hD1⟩ := hB
    rw [ht] at hP
    have hD := hD1.weaken (fun _ _ _ h => hFc _ h)
    generalize H1 = H at hP hS ⊢
    obtain rfl : r61 = p60.1 := hw
    obtain ⟨p62, hcp62, hf⟩ := hf_bind hf
    have hFc := r_free hD hS hA
    refine va_calli (va_runV (As := [.int x2, .int p60.1]) (rest := []) ⟨hx, hb, hml, hown, hts⟩ (c_X12_caseOf l dC dI _ Q N p60.2 x2 p60.1 p62 hcp62) (cwV 2 hts hX12_ends_X12_caseOf_v662 rfl rfl rfl (by decide +kernel) ⟨Nat.le_of_ble_eq_true rfl, Nat.le_of_ble_eq_true rfl⟩) ⟨zPre.blind, va_recv hK hP (ci := 11) (q0 := 0) rfl rfl, zPre.go hZ hP hK hD⟩ rfl rfl hl.1 rfl (lv_room (Nat.le_of_ble_eq_true rfl)) dX12_ends_360 ⟨Nat.le_of_ble_eq_true rfl, Nat.le_of_ble_eq_true rfl⟩) hS (fun q _ h => hFc q h) hFc (fun r63 u9 t9 H1 locs ht hvm hw hB hz1 hk1 hS => ?_)
    obtain ⟨hP, hK1, hD1⟩ := hB
    rw [ht] at hP
    have hD := hD1.weaken (fun _ _ _ h => hFc _ h)
    generalize H1 = H at hP hS ⊢
    obtain rfl : r63 = p62.1 := hw
    refine lv_istore (lv' := [(4, .int p62.1), (0, .ref Q.h0), (1, .int x1), (2, .int x2)]) hx hb dX12_ends_363 hl (by decide) rfl (fun ls hl => ?_)
    refine lv_aload_n hx hb dX12_ends_365 rfl (lv_at hl 1 rfl) ?_
    refine lv_iconst (v := 3) hx hb dX12_ends_366 (by decide) ?_
    refine lv_iload_n hx hb dX12_ends_367 rfl (lv_at hl 2 rfl) ?_
    refine lv_iconst (v := 0) hx hb dX12_ends_368 (by decide) ?_
    refine lv_iconst (v := 0) hx hb dX12_ends_369 (by decide) ?_
    obtain ⟨p64, hcp64, hf⟩ := hf_bind hf
    have hFc := r_free hD hS hA
    refine va_calli (va_runV (As := [.int 3, .int x1, .int 0, .int 0]) (rest := []) ⟨hx, hb, hml, hown, hts⟩ (c_X12_record l dC dI _ Q N p62.2 3 x1 0 0 p64 hcp64) (cwV 4 hts hX12_ends_X12_record_v658 rfl rfl rfl (by decide +kernel) ⟨Nat.le_of_ble_eq_true rfl, Nat.le_of_ble_eq_true rfl⟩) ⟨zPre.blind, va_recv hK hP (ci := 11) (q0 := 0) rfl rfl, zPre.go hZ hP hK hD⟩ rfl rfl hl.1 rfl (lv_room (Nat.le_of_ble_eq_true rfl)) dX12_ends_370 ⟨Nat.le_of_ble_eq_true rfl, Nat.le_of_ble_eq_true rfl⟩) hS (fun q _ h => hFc q h) hFc (fun r65 u9 t9 H1 locs ht hvm hw hB hz1 hk1 hS => ?_)
    obtain ⟨hP, hK1, hD1⟩ := hB
    rw [ht] at hP
    have hD := hD1.weaken (fun _ _ _ h => hFc _ h)
    generalize H1 = H at hP hS ⊢
    obtain rfl : r65 = p64.1 := hw
    refine lv_pop hx hb dX12_ends_373 rfl ?_
    refine lv_aload_n hx hb dX12_ends_374 rfl (lv_at hl 1 rfl) ?_
    refine lv_aload_n hx hb dX12_ends_375 rfl (lv_at hl 1 rfl) ?_
    refine rG_26 hx hb hts i_X12_ends_X12 hown hK hP (hts (.fieldLink RX12 96 "StatementRules2Model" "entryAt" "[I") k_X12_ends_fieldLink_RX12_96_SRModel_entryAt_I) dX12_ends_376 ?_
    refine lv_iload hx hb dX12_ends_379 (lv_at hl 0 rfl) ?_
    obtain ⟨b66, hf⟩ := hf_ite hf
    refine rL_26 (v := (p64.2.a 26 ((p62.1 : Int32).toNatClampNeg))) hx hb hK hP b66 dX12_ends_381 rfl ?_
    refine rP_92 hx hb hts i_X12_ends_X12 hown hK hP hD hS (hts (.fieldLink RX12 618 "StatementRules2Model" "pc" "I") k_X12_ends_fieldLink_RX12_618_SRModel_pc_I) dX12_ends_382 (fun H locs hP hD hS => ?_)
    refine lv_goto (tgt := 425) hx hb dX12_ends_385 (by decide) ?_
    obtain rfl := Option.some.inj hf
    exact W.vret hx hb hr (fun t ht hW => ⟨⟨(), rfl, trivial, by rw [ht]; exact hP, va_K.moved hW.alike hK, hD⟩, hS.F ht⟩) hS.2.2 dX12_ends_425
  replace hf := (if_neg c59).symm.trans hf
  by_cases c67 : (σ.a 21 ((x1 : Int32).toNatClampNeg)) = 30
  ·
    replace hf := (if_pos c67).symm.trans hf
    refine lv_tableIn (off := 382) (tgt := 388) hx hb dX12_ends_6 (by rw [c67]; decide) (by rw [c67]; decide) (by rw [c67]; decide) (by decide) ?_
    refine lv_aload_n hx hb dX12_ends_388 rfl (lv_at hl 0 rfl) ?_
    refine lv_dup hx hb dX12_ends_389 rfl ?_
    refine rG_99 (v := (σ.i 99)) hx hb hts i_X12_ends_X12 hown hK hP (hts (.fieldLink RX12 586 "StatementRules2Model" "recs" "I") k_X12_ends_fieldLink_RX12_586_SRModel_recs_I) dX12_ends_390 rfl ?_
    refine lv_iconst (v := 1) hx hb dX12_ends_393 (by decide) ?_
    refine lv_isub hx hb dX12_ends_394 ?_
    refine rP_99 hx hb hts i_X12_ends_X12 hown hK hP hD hS (hts (.fieldLink RX12 586 "StatementRules2Model" "recs" "I") k_X12_ends_fieldLink_RX12_586_SRModel_recs_I) dX12_ends_395 (fun H locs hP hD hS => ?_)
    refine lv_aload_n hx hb dX12_ends_398 rfl (lv_at hl 0 rfl) ?_
    refine lv_aload_n hx hb dX12_ends_399 rfl (lv_at hl 0 rfl) ?_
    refine rG_23 hx hb hts i_X12_ends_X12 hown hK hP (hts (.fieldLink RX12 90 "StatementRules2Model" "iy" "[I") k_X12_ends_fieldLink_RX12_90_SRModel_iy_I) dX12_ends_400 ?_
    refine lv_aload_n hx hb dX12_ends_403 rfl (lv_at hl 0 rfl) ?_
    refine rG_101 hx hb hts i_X12_ends_X12 hown hK hP (hts (.fieldLink RX12 246 "StatementRules2Model" "ra" "[I") k_X12_ends_fieldLink_RX12_246_SRModel_ra_I) dX12_ends_404 ?_
    refine lv_aload_n hx hb dX12_ends_407 rfl (lv_at hl 0 rfl) ?_
    refine rG_99 (v := ((σ.i 99) - 1)) hx hb hts i_X12_ends_X12 hown hK hP (hts (.fieldLink RX12 586 "StatementRules2Model" "recs" "I") k_X12_ends_fieldLink_RX12_586_SRModel_recs_I) dX12_ends_408 rfl ?_
    obtain ⟨b68, hf⟩ := hf_ite hf
    refine rL_101 (v := (σ.a 101 ((((σ.i 99) - 1) : Int32).toNatClampNeg))) hx hb hK hP b68 dX12_ends_411 rfl ?_
    obtain ⟨b69, hf⟩ := hf_ite hf
    refine rL_23 (v := (σ.a 23 (((σ.a 101 ((((σ.i 99) - 1) : Int32).toNatClampNeg)) : Int32).toNatClampNeg))) hx hb hK hP b69 dX12_ends_412 rfl ?_
    refine rP_92 hx hb hts i_X12_ends_X12 hown hK hP hD hS (hts (.fieldLink RX12 618 "StatementRules2Model" "pc" "I") k_X12_ends_fieldLink_RX12_618_SRModel_pc_I) dX12_ends_413 (fun H locs hP hD hS => ?_)
    refine lv_goto (tgt := 425) hx hb dX12_ends_416 (by decide) ?_
    obtain rfl := Option.some.inj hf
    exact W.vret hx hb hr (fun t ht hW => ⟨⟨(), rfl, trivial, by rw [ht]; exact hP, va_K.moved hW.alike hK, hD⟩, hS.F ht⟩) hS.2.2 dX12_ends_425
  replace hf := (if_neg c67).symm.trans hf
  by_cases c70 : (σ.a 21 ((x1 : Int32).toNatClampNeg)) = 31
  ·
    replace hf := (if_pos c70).symm.trans hf
    refine lv_tableIn (off := 413) (tgt := 419) hx hb dX12_ends_6 (by rw [c70]; decide) (by rw [c70]; decide) (by rw [c70]; decide) (by decide) ?_
    refine lv_aload_n hx hb dX12_ends_419 rfl (lv_at hl 0 rfl) ?_
    refine lv_iload_n hx hb dX12_ends_420 rfl (lv_at hl 1 rfl) ?_
    refine lv_iload_n hx hb dX12_ends_421 rfl (lv_at hl 2 rfl) ?_
    obtain ⟨p71, hcp71, hf⟩ := hf_bind hf
    have hFc := r_free hD hS hA
    refine va_callv (va_runV (As := [.int x1, .int x2]) (rest := []) ⟨hx, hb, hml, hown, hts⟩ (c_X12_others l dC dI _ Q N σ x1 x2 p71 hcp71) (cwV 2 hts hX12_ends_X12_others_v665 rfl rfl rfl (by decide +kernel) ⟨Nat.le_of_ble_eq_true rfl, Nat.le_of_ble_eq_true rfl⟩) ⟨zPre.blind, va_recv hK hP (ci := 11) (q0 := 0) rfl rfl, zPre.go hZ hP hK hD⟩ rfl rfl hl.1 rfl (lv_room (Nat.le_of_ble_eq_true rfl)) dX12_ends_422 ⟨Nat.le_of_ble_eq_true rfl, Nat.le_of_ble_eq_true rfl⟩) hS (fun q _ h => hFc q h) hFc (fun u9 t9 H1 locs ht hvm hw hB hz1 hk1 hS => ?_)
    obtain ⟨hP, hK1, hD1⟩ := hB
    rw [ht] at hP
    have hD := hD1.weaken (fun _ _ _ h => hFc _ h)
    generalize H1 = H at hP hS ⊢
    obtain rfl := Option.some.inj hf
    exact W.vret hx hb hr (fun t ht hW => ⟨⟨(), rfl, trivial, by rw [ht]; exact hP, va_K.moved hW.alike hK, hD⟩, hS.F ht⟩) hS.2.2 dX12_ends_425
  replace hf := (if_neg c70).symm.trans hf
  by_cases c73 : (σ.a 21 ((x1 : Int32).toNatClampNeg)) = 32
  ·
    replace hf := (if_pos c73).symm.trans hf
    refine lv_tableIn (off := 413) (tgt := 419) hx hb dX12_ends_6 (by rw [c73]; decide) (by rw [c73]; decide) (by rw [c73]; decide) (by decide) ?_
    refine lv_aload_n hx hb dX12_ends_419 rfl (lv_at hl 0 rfl) ?_
    refine lv_iload_n hx hb dX12_ends_420 rfl (lv_at hl 1 rfl) ?_
    refine lv_iload_n hx hb dX12_ends_421 rfl (lv_at hl 2 rfl) ?_
    obtain ⟨p74, hcp74, hf⟩ := hf_bind hf
    have hFc := r_free hD hS hA
    refine va_callv (va_runV (As := [.int x1, .int x2]) (rest := []) ⟨hx, hb, hml, hown, hts⟩ (c_X12_others l dC dI _ Q N σ x1 x2 p74 hcp74) (cwV 2 hts hX12_ends_X12_others_v665 rfl rfl rfl (by decide +kernel) ⟨Nat.le_of_ble_eq_true rfl, Nat.le_of_ble_eq_true rfl⟩) ⟨zPre.blind, va_recv hK hP (ci := 11) (q0 := 0) rfl rfl, zPre.go hZ hP hK hD⟩ rfl rfl hl.1 rfl (lv_room (Nat.le_of_ble_eq_true rfl)) dX12_ends_422 ⟨Nat.le_of_ble_eq_true rfl, Nat.le_of_ble_eq_true rfl⟩) hS (fun q _ h => hFc q h) hFc (fun u9 t9 H1 locs ht hvm hw hB hz1 hk1 hS => ?_)
    obtain ⟨hP, hK1, hD1⟩ := hB
    rw [ht] at hP
    have hD := hD1.weaken (fun _ _ _ h => hFc _ h)
    generalize H1 = H at hP hS ⊢
    obtain rfl := Option.some.inj hf
    exact W.vret hx hb hr (fun t ht hW => ⟨⟨(), rfl, trivial, by rw [ht]; exact hP, va_K.moved hW.alike hK, hD⟩, hS.F ht⟩) hS.2.2 dX12_ends_425
  replace hf := (if_neg c73).symm.trans hf
  by_cases c76 : (σ.a 21 ((x1 : Int32).toNatClampNeg)) = 33
  ·
    replace hf := (if_pos c76).symm.trans hf
    refine lv_tableIn (off := 413) (tgt := 419) hx hb dX12_ends_6 (by rw [c76]; decide) (by rw [c76]; decide) (by rw [c76]; decide) (by decide) ?_
    refine lv_aload_n hx hb dX12_ends_419 rfl (lv_at hl 0 rfl) ?_
    refine lv_iload_n hx hb dX12_ends_420 rfl (lv_at hl 1 rfl) ?_
    refine lv_iload_n hx hb dX12_ends_421 rfl (lv_at hl 2 rfl) ?_
    obtain ⟨p77, hcp77, hf⟩ := hf_bind hf
    have hFc := r_free hD hS hA
    refine va_callv (va_runV (As := [.int x1, .int x2]) (rest := []) ⟨hx, hb, hml, hown, hts⟩ (c_X12_others l dC dI _ Q N σ x1 x2 p77 hcp77) (cwV 2 hts hX12_ends_X12_others_v665 rfl rfl rfl (by decide +kernel) ⟨Nat.le_of_ble_eq_true rfl, Nat.le_of_ble_eq_true rfl⟩) ⟨zPre.blind, va_recv hK hP (ci := 11) (q0 := 0) rfl rfl, zPre.go hZ hP hK hD⟩ rfl rfl hl.1 rfl (lv_room (Nat.le_of_ble_eq_true rfl)) dX12_ends_422 ⟨Nat.le_of_ble_eq_true rfl, Nat.le_of_ble_eq_true rfl⟩) hS (fun q _ h => hFc q h) hFc (fun u9 t9 H1 locs ht hvm hw hB hz1 hk1 hS => ?_)
    obtain ⟨hP, hK1, hD1⟩ := hB
    rw [ht] at hP
    have hD := hD1.weaken (fun _ _ _ h => hFc _ h)
    generalize H1 = H at hP hS ⊢
    obtain rfl := Option.some.inj hf
    exact W.vret hx hb hr (fun t ht hW => ⟨⟨(), rfl, trivial, by rw [ht]; exact hP, va_K.moved hW.alike hK, hD⟩, hS.F ht⟩) hS.2.2 dX12_ends_425
  replace hf := (if_neg c76).symm.trans hf
  by_cases c79 : (σ.a 21 ((x1 : Int32).toNatClampNeg)) = 34
  ·
    replace hf := (if_pos c79).symm.trans hf
    refine lv_tableIn (off := 413) (tgt := 419) hx hb dX12_ends_6 (by rw [c79]; decide) (by rw [c79]; decide) (by rw [c79]; decide) (by decide) ?_
    refine lv_aload_n hx hb dX12_ends_419 rfl (lv_at hl 0 rfl) ?_
    refine lv_iload_n hx hb dX12_ends_420 rfl (lv_at hl 1 rfl) ?_
    refine lv_iload_n hx hb dX12_ends_421 rfl (lv_at hl 2 rfl) ?_
    obtain ⟨p80, hcp80, hf⟩ := hf_bind hf
    have hFc := r_free hD hS hA
    refine va_callv (va_runV (As := [.int x1, .int x2]) (rest := []) ⟨hx, hb, hml, hown, hts⟩ (c_X12_others l dC dI _ Q N σ x1 x2 p80 hcp80) (cwV 2 hts hX12_ends_X12_others_v665 rfl rfl rfl (by decide +kernel) ⟨Nat.le_of_ble_eq_true rfl, Nat.le_of_ble_eq_true rfl⟩) ⟨zPre.blind, va_recv hK hP (ci := 11) (q0 := 0) rfl rfl, zPre.go hZ hP hK hD⟩ rfl rfl hl.1 rfl (lv_room (Nat.le_of_ble_eq_true rfl)) dX12_ends_422 ⟨Nat.le_of_ble_eq_true rfl, Nat.le_of_ble_eq_true rfl⟩) hS (fun q _ h => hFc q h) hFc (fun u9 t9 H1 locs ht hvm hw hB hz1 hk1 hS => ?_)
    obtain ⟨hP, hK1, hD1⟩ := hB
    rw [ht] at hP
    have hD := hD1.weaken (fun _ _ _ h => hFc _ h)
    generalize H1 = H at hP hS ⊢
    obtain rfl := Option.some.inj hf
    exact W.vret hx hb hr (fun t ht hW => ⟨⟨(), rfl, trivial, by rw [ht]; exact hP, va_K.moved hW.alike hK, hD⟩, hS.F ht⟩) hS.2.2 dX12_ends_425
  replace hf := (if_neg c79).symm.trans hf
  by_cases c82 : (σ.a 21 ((x1 : Int32).toNatClampNeg)) = 35
  ·
    replace hf := (if_pos c82).symm.trans hf
    refine lv_tableIn (off := 413) (tgt := 419) hx hb dX12_ends_6 (by rw [c82]; decide) (by rw [c82]; decide) (by rw [c82]; decide) (by decide) ?_
    refine lv_aload_n hx hb dX12_ends_419 rfl (lv_at hl 0 rfl) ?_
    refine lv_iload_n hx hb dX12_ends_420 rfl (lv_at hl 1 rfl) ?_
    refine lv_iload_n hx hb dX12_ends_421 rfl (lv_at hl 2 rfl) ?_
    obtain ⟨p83, hcp83, hf⟩ := hf_bind hf
    have hFc := r_free hD hS hA
    refine va_callv (va_runV (As := [.int x1, .int x2]) (rest := []) ⟨hx, hb, hml, hown, hts⟩ (c_X12_others l dC dI _ Q N σ x1 x2 p83 hcp83) (cwV 2 hts hX12_ends_X12_others_v665 rfl rfl rfl (by decide +kernel) ⟨Nat.le_of_ble_eq_true rfl, Nat.le_of_ble_eq_true rfl⟩) ⟨zPre.blind, va_recv hK hP (ci := 11) (q0 := 0) rfl rfl, zPre.go hZ hP hK hD⟩ rfl rfl hl.1 rfl (lv_room (Nat.le_of_ble_eq_true rfl)) dX12_ends_422 ⟨Nat.le_of_ble_eq_true rfl, Nat.le_of_ble_eq_true rfl⟩) hS (fun q _ h => hFc q h) hFc (fun u9 t9 H1 locs ht hvm hw hB hz1 hk1 hS => ?_)
    obtain ⟨hP, hK1, hD1⟩ := hB
    rw [ht] at hP
    have hD := hD1.weaken (fun _ _ _ h => hFc _ h)
    generalize H1 = H at hP hS ⊢
    obtain rfl := Option.some.inj hf
    exact W.vret hx hb hr (fun t ht hW => ⟨⟨(), rfl, trivial, by rw [ht]; exact hP, va_K.moved hW.alike hK, hD⟩, hS.F ht⟩) hS.2.2 dX12_ends_425
  replace hf := (if_neg c82).symm.trans hf
  by_cases c85 : (σ.a 21 ((x1 : Int32).toNatClampNeg)) = 36
  ·
    replace hf := (if_pos c85).symm.trans hf
    refine lv_tableIn (off := 139) (tgt := 145) hx hb dX12_ends_6 (by rw [c85]; decide) (by rw [c85]; decide) (by rw [c85]; decide) (by decide) ?_
    refine lv_aload_n hx hb dX12_ends_145 rfl (lv_at hl 0 rfl) ?_
    refine lv_iconst (v := 1) hx hb dX12_ends_146 (by decide) ?_
    refine rP_110 hx hb hts i_X12_ends_X12 hown hK hP hD hS (hts (.fieldLink RX12 597 "StatementRules2Model" "how" "I") k_X12_ends_fieldLink_RX12_597_SRModel_how_I) dX12_ends_147 (fun H locs hP hD hS => ?_)
    refine lv_aload_n hx hb dX12_ends_150 rfl (lv_at hl 0 rfl) ?_
    refine lv_iload_n hx hb dX12_ends_151 rfl (lv_at hl 2 rfl) ?_
    refine rP_111 hx hb hts i_X12_ends_X12 hown hK hP hD hS (hts (.fieldLink RX12 609 "StatementRules2Model" "goTo" "I") k_X12_ends_fieldLink_RX12_609_SRModel_goTo_I) dX12_ends_152 (fun H locs hP hD hS => ?_)
    refine lv_aload_n hx hb dX12_ends_155 rfl (lv_at hl 0 rfl) ?_
    refine lv_aload_n hx hb dX12_ends_156 rfl (lv_at hl 0 rfl) ?_
    refine rG_23 hx hb hts i_X12_ends_X12 hown hK hP (hts (.fieldLink RX12 90 "StatementRules2Model" "iy" "[I") k_X12_ends_fieldLink_RX12_90_SRModel_iy_I) dX12_ends_157 ?_
    refine lv_iload_n hx hb dX12_ends_160 rfl (lv_at hl 1 rfl) ?_
    refine rL_23 (v := (σ.a 23 ((x1 : Int32).toNatClampNeg))) hx hb hK hP b1 dX12_ends_161 rfl ?_
    refine rP_112 hx hb hts i_X12_ends_X12 hown hK hP hD hS (hts (.fieldLink RX12 612 "StatementRules2Model" "goDepth" "I") k_X12_ends_fieldLink_RX12_612_SRModel_goDepth_I) dX12_ends_162 (fun H locs hP hD hS => ?_)
    refine lv_aload_n hx hb dX12_ends_165 rfl (lv_at hl 0 rfl) ?_
    obtain ⟨p86, hcp86, hf⟩ := hf_bind hf
    have hFc := r_free hD hS hA
    refine va_callv (va_runV (As := []) (rest := []) ⟨hx, hb, hml, hown, hts⟩ (c_X12_leave l dC dI _ Q N (RS.setI (RS.setI (RS.setI σ 110 1) 111 x2) 112 (σ.a 23 ((x1 : Int32).toNatClampNeg))) p86 hcp86) (cwV 0 hts hX12_ends_X12_leave_v648 rfl rfl rfl (by decide +kernel) ⟨Nat.le_of_ble_eq_true rfl, Nat.le_of_ble_eq_true rfl⟩) ⟨zPre.blind, va_recv hK hP (ci := 11) (q0 := 0) rfl rfl, zPre.go hZ hP hK hD⟩ rfl rfl hl.1 rfl (lv_room (Nat.le_of_ble_eq_true rfl)) dX12_ends_166 ⟨Nat.le_of_ble_eq_true rfl, Nat.le_of_ble_eq_true rfl⟩) hS (fun q _ h => hFc q h) hFc (fun u9 t9 H1 locs ht hvm hw hB hz1 hk1 hS => ?_)
    obtain ⟨hP, hK1, hD1⟩ := hB
    rw [ht] at hP
    have hD := hD1.weaken (fun _ _ _ h => hFc _ h)
    generalize H1 = H at hP hS ⊢
    refine lv_goto (tgt := 425) hx hb dX12_ends_169 (by decide) ?_
    obtain rfl := Option.some.inj hf
    exact W.vret hx hb hr (fun t ht hW => ⟨⟨(), rfl, trivial, by rw [ht]; exact hP, va_K.moved hW.alike hK, hD⟩, hS.F ht⟩) hS.2.2 dX12_ends_425
  replace hf := (if_neg c85).symm.trans hf
  refine lv_tableOut (tgt := 419) hx hb dX12_ends_6 (by have := z_ton (a := 17) c2 (by decide); have := z_ton (a := 18) c9 (by decide); have := z_ton (a := 19) c13 (by decide); have := z_ton (a := 20) c20 (by decide); have := z_ton (a := 21) c25 (by decide); have := z_ton (a := 22) c29 (by decide); have := z_ton (a := 23) c31 (by decide); have := z_ton (a := 24) c34 (by decide); have := z_ton (a := 25) c37 (by decide); have := z_ton (a := 26) c40 (by decide); have := z_ton (a := 27) c46 (by decide); have := z_ton (a := 28) c52 (by decide); have := z_ton (a := 29) c59 (by decide); have := z_ton (a := 30) c67 (by decide); have := z_ton (a := 31) c70 (by decide); have := z_ton (a := 32) c73 (by decide); have := z_ton (a := 33) c76 (by decide); have := z_ton (a := 34) c79 (by decide); have := z_ton (a := 35) c82 (by decide); have := z_ton (a := 36) c85 (by decide); omega) (by decide) ?_
  refine lv_aload_n hx hb dX12_ends_419 rfl (lv_at hl 0 rfl) ?_
  refine lv_iload_n hx hb dX12_ends_420 rfl (lv_at hl 1 rfl) ?_
  refine lv_iload_n hx hb dX12_ends_421 rfl (lv_at hl 2 rfl) ?_
  obtain ⟨p88, hcp88, hf⟩ := hf_bind hf
  have hFc := r_free hD hS hA
  refine va_callv (va_runV (As := [.int x1, .int x2]) (rest := []) ⟨hx, hb, hml, hown, hts⟩ (c_X12_others l dC dI _ Q N σ x1 x2 p88 hcp88) (cwV 2 hts hX12_ends_X12_others_v665 rfl rfl rfl (by decide +kernel) ⟨Nat.le_of_ble_eq_true rfl, Nat.le_of_ble_eq_true rfl⟩) ⟨zPre.blind, va_recv hK hP (ci := 11) (q0 := 0) rfl rfl, zPre.go hZ hP hK hD⟩ rfl rfl hl.1 rfl (lv_room (Nat.le_of_ble_eq_true rfl)) dX12_ends_422 ⟨Nat.le_of_ble_eq_true rfl, Nat.le_of_ble_eq_true rfl⟩) hS (fun q _ h => hFc q h) hFc (fun u9 t9 H1 locs ht hvm hw hB hz1 hk1 hS => ?_)
  obtain ⟨hP, hK1, hD1⟩ := hB
  rw [ht] at hP
  have hD := hD1.weaken (fun _ _ _ h => hFc _ h)
  generalize H1 = H at hP hS ⊢
  obtain rfl := Option.some.inj hf
  exact W.vret hx hb hr (fun t ht hW => ⟨⟨(), rfl, trivial, by rw [ht]; exact hP, va_K.moved hW.alike hK, hD⟩, hS.F ht⟩) hS.2.2 dX12_ends_425
theorem k_X12_act_fieldLink_RX12_87_SRModel_ix_I : Cond.fieldLink RX12 87 "StatementRules2Model" "ix" "[I" ∈ wzX12_act := List.mem_cons_of_mem _ (List.mem_append_left _ (List.mem_of_getElem? (i := 0) rfl))
theorem i_X12_act_X12 : ∀ w ∈ wsX120, w ∈ wzX12_act := fun _ h => List.mem_cons_of_mem _ (List.mem_append_right _ (List.mem_append_left _ (h)))
theorem k_X12_act_fieldLink_RX12_84_SRModel_op_I : Cond.fieldLink RX12 84 "StatementRules2Model" "op" "[I" ∈ wzX12_act := List.mem_cons_of_mem _ (List.mem_append_left _ (List.mem_of_getElem? (i := 1) rfl))
theorem k_X12_act_fieldLink_RX12_213_SRModel_vals_I : Cond.fieldLink RX12 213 "StatementRules2Model" "vals" "[I" ∈ wzX12_act := List.mem_cons_of_mem _ (List.mem_append_left _ (List.mem_of_getElem? (i := 2) rfl))
theorem k_X12_act_fieldLink_RX12_219_SRModel_thingNumber_I : Cond.fieldLink RX12 219 "StatementRules2Model" "thingNumber" "[I" ∈ wzX12_act := List.mem_cons_of_mem _ (List.mem_append_left _ (List.mem_of_getElem? (i := 3) rfl))
theorem k_X12_act_fieldLink_RX12_234_SRModel_vs_I : Cond.fieldLink RX12 234 "StatementRules2Model" "vs" "[I" ∈ wzX12_act := List.mem_cons_of_mem _ (List.mem_append_left _ (List.mem_of_getElem? (i := 4) rfl))
theorem k_X12_act_fieldLink_RX12_589_SRModel_high_I : Cond.fieldLink RX12 589 "StatementRules2Model" "high" "I" ∈ wzX12_act := List.mem_cons_of_mem _ (List.mem_append_left _ (List.mem_of_getElem? (i := 5) rfl))
theorem k_X12_act_fieldLink_RX12_618_SRModel_pc_I : Cond.fieldLink RX12 618 "StatementRules2Model" "pc" "I" ∈ wzX12_act := List.mem_cons_of_mem _ (List.mem_append_left _ (List.mem_of_getElem? (i := 6) rfl))
set_option maxHeartbeats 4000000 in
set_option maxRecDepth 100000 in
theorem j_X12_act_229 {p : Program} {e : Env} {s : State} {m : MethodId} {args : Array Value} {below : List Frame} {meth : Method} {c : Code} {A : Nat → Prop} (l : Launch) (dC : Nat → ClassId) (dI : Nat → Nat → Nat) (Q : RQ) (N : Nat) (R : RS) (hx : p.tables.exec = Jvm.exec) (hb : c.code = cX12_act) (hr : meth.sig.returnType = none) (hml : c.maxLocals = 5) (hown : s.vm.findClass RX12 = some m.cls) (hts : ∀ w ∈ wzX12_act, w.before args s = true) (hlocks : meth.locks = false) (hZ : zAMB s) (hA : ∀ q : Nat, s.heap.size ≤ q → A q) (hK : va_K (dC, dI) vwCl (rT Q) s) : ∀ (σ : RS) (x2 : Int32) (x3 : Int32) (x4 : Int32) (H : Heap) (locs : List Loc) (ls : Array Slot), f_X12_act_229 N σ x2 x3 x4 = some R → va_P (dC, dI) vwCl (rW Q σ) H → va_D A (rW Q σ) → va_S A s.heap H locs → lv_has ls 5 [(0, .ref Q.h0), (2, .int x2), (3, .int x3), (4, .int x4)] → W p l e ({ frames := 6, cells := 0, slots := 0, locals := 360 }) s m args below meth c H locs 0 0 (MQ below (va_Qv (fun (_ : Unit) => True) (fun (_ : Unit) (t : State) => zPost dC dI A (rW Q R) (rT Q) t) A) args s 0 0 A) (F0 m 229 ls []) := by
  intro σ x2 x3 x4 H locs ls hf hP hD hS hl
  unfold f_X12_act_229 at hf
  refine lv_aload_n hx hb dX12_act_229 rfl (lv_at hl 0 rfl) ?_
  refine lv_aload_n hx hb dX12_act_230 rfl (lv_at hl 0 rfl) ?_
  refine lv_iload_n hx hb dX12_act_231 rfl (lv_at hl 1 rfl) ?_
  refine lv_iload hx hb dX12_act_232 (lv_at hl 3 rfl) ?_
  refine lv_iload_n hx hb dX12_act_234 rfl (lv_at hl 2 rfl) ?_
  obtain ⟨p35, hcp35, hf⟩ := hf_bind hf
  have hFc := r_free hD hS hA
  refine va_calli (va_runV (As := [.int x2, .int x4, .int x3]) (rest := [.ref Q.h0]) ⟨hx, hb, hml, hown, hts⟩ (c_X12_compute l dC dI _ Q N σ x2 x4 x3 p35 hcp35) (cwV 3 hts hX12_act_X12_compute_v651 rfl rfl rfl (by decide +kernel) ⟨Nat.le_of_ble_eq_true rfl, Nat.le_of_ble_eq_true rfl⟩) ⟨zPre.blind, va_recv hK hP (ci := 11) (q0 := 0) rfl rfl, zPre.go hZ hP hK hD⟩ rfl rfl hl.1 rfl (lv_room (Nat.le_of_ble_eq_true rfl)) dX12_act_235 ⟨Nat.le_of_ble_eq_true rfl, Nat.le_of_ble_eq_true rfl⟩) hS (fun q _ h => hFc q h) hFc (fun r36 u9 t9 H1 locs ht hvm hw hB hz1 hk1 hS => ?_)
  obtain ⟨hP, hK1, hD1⟩ := hB
  rw [ht] at hP
  have hD := hD1.weaken (fun _ _ _ h => hFc _ h)
  generalize H1 = H at hP hS ⊢
  obtain rfl : r36 = p35.1 := hw
  obtain ⟨p37, hcp37, hf⟩ := hf_bind hf
  have hFc := r_free hD hS hA
  refine va_callv (va_runV (As := [.int p35.1]) (rest := []) ⟨hx, hb, hml, hown, hts⟩ (c_X12_put l dC dI _ Q N p35.2 p35.1 p37 hcp37) (cwV 1 hts hX12_act_X12_put_v633 rfl rfl rfl (by decide +kernel) ⟨Nat.le_of_ble_eq_true rfl, Nat.le_of_ble_eq_true rfl⟩) ⟨zPre.blind, va_recv hK hP (ci := 11) (q0 := 0) rfl rfl, zPre.go hZ hP hK hD⟩ rfl rfl hl.1 rfl (lv_room (Nat.le_of_ble_eq_true rfl)) dX12_act_238 ⟨Nat.le_of_ble_eq_true rfl, Nat.le_of_ble_eq_true rfl⟩) hS (fun q _ h => hFc q h) hFc (fun u9 t9 H1 locs ht hvm hw hB hz1 hk1 hS => ?_)
  obtain ⟨hP, hK1, hD1⟩ := hB
  rw [ht] at hP
  have hD := hD1.weaken (fun _ _ _ h => hFc _ h)
  generalize H1 = H at hP hS ⊢
  refine lv_goto (tgt := 373) hx hb dX12_act_241 (by decide) ?_
  obtain rfl := Option.some.inj hf
  exact W.vret hx hb hr (fun t ht hW => ⟨⟨(), rfl, trivial, by rw [ht]; exact hP, va_K.moved hW.alike hK, hD⟩, hS.F ht⟩) hS.2.2 dX12_act_373
set_option maxHeartbeats 4000000 in
set_option maxRecDepth 100000 in
theorem j_X12_act_212 {p : Program} {e : Env} {s : State} {m : MethodId} {args : Array Value} {below : List Frame} {meth : Method} {c : Code} {A : Nat → Prop} (l : Launch) (dC : Nat → ClassId) (dI : Nat → Nat → Nat) (Q : RQ) (N : Nat) (R : RS) (hx : p.tables.exec = Jvm.exec) (hb : c.code = cX12_act) (hr : meth.sig.returnType = none) (hml : c.maxLocals = 5) (hown : s.vm.findClass RX12 = some m.cls) (hts : ∀ w ∈ wzX12_act, w.before args s = true) (hlocks : meth.locks = false) (hZ : zAMB s) (hA : ∀ q : Nat, s.heap.size ≤ q → A q) (hK : va_K (dC, dI) vwCl (rT Q) s) : ∀ (σ : RS) (x2 : Int32) (x3 : Int32) (x4 : Int32) (H : Heap) (locs : List Loc) (ls : Array Slot), f_X12_act_212 N σ x2 x3 x4 = some R → va_P (dC, dI) vwCl (rW Q σ) H → va_D A (rW Q σ) → va_S A s.heap H locs → lv_has ls 5 [(0, .ref Q.h0), (2, .int x2), (3, .int x3), (4, .int x4)] → W p l e ({ frames := 6, cells := 0, slots := 0, locals := 360 }) s m args below meth c H locs 0 0 (MQ below (va_Qv (fun (_ : Unit) => True) (fun (_ : Unit) (t : State) => zPost dC dI A (rW Q R) (rT Q) t) A) args s 0 0 A) (F0 m 212 ls []) := by
  intro σ x2 x3 x4 H locs ls hf hP hD hS hl
  unfold f_X12_act_212 at hf
  refine lv_iload_n hx hb dX12_act_212 rfl (lv_at hl 2 rfl) ?_
  refine lv_if_ne (tgt := 229) hx hb dX12_act_213 (by decide) (fun c34 => ?_) (fun c34 => ?_)
  ·
    replace hf := (if_neg c34).symm.trans hf
    exact j_X12_act_229 l dC dI Q N R hx hb hr hml hown hts hlocks hZ hA hK σ x2 x3 x4 _ _ _ hf hP hD hS (lv_sub hl [0, 1, 2, 3] rfl)
  ·
    replace hf := (if_pos c34).symm.trans hf
    refine lv_aload_n hx hb dX12_act_216 rfl (lv_at hl 0 rfl) ?_
    refine lv_iconst (v := 2) hx hb dX12_act_217 (by decide) ?_
    refine lv_iconst (v := 0) hx hb dX12_act_218 (by decide) ?_
    obtain ⟨p39, hcp39, hf⟩ := hf_bind hf
    have hFc := r_free hD hS hA
    refine va_callv (va_runV (As := [.int 2, .int 0]) (rest := []) ⟨hx, hb, hml, hown, hts⟩ (c_X12_raise l dC dI _ Q N σ 2 0 p39 hcp39) (cwV 2 hts hX12_act_X12_raise_v606 rfl rfl rfl (by decide +kernel) ⟨Nat.le_of_ble_eq_true rfl, Nat.le_of_ble_eq_true rfl⟩) ⟨zPre.blind, va_recv hK hP (ci := 11) (q0 := 0) rfl rfl, zPre.go hZ hP hK hD⟩ rfl rfl hl.1 rfl (lv_room (Nat.le_of_ble_eq_true rfl)) dX12_act_219 ⟨Nat.le_of_ble_eq_true rfl, Nat.le_of_ble_eq_true rfl⟩) hS (fun q _ h => hFc q h) hFc (fun u9 t9 H1 locs ht hvm hw hB hz1 hk1 hS => ?_)
    obtain ⟨hP, hK1, hD1⟩ := hB
    rw [ht] at hP
    have hD := hD1.weaken (fun _ _ _ h => hFc _ h)
    generalize H1 = H at hP hS ⊢
    refine lv_aload_n hx hb dX12_act_222 rfl (lv_at hl 0 rfl) ?_
    obtain ⟨p41, hcp41, hf⟩ := hf_bind hf
    have hFc := r_free hD hS hA
    refine va_callv (va_runV (As := []) (rest := []) ⟨hx, hb, hml, hown, hts⟩ (c_X12_leave l dC dI _ Q N p39 p41 hcp41) (cwV 0 hts hX12_act_X12_leave_v648 rfl rfl rfl (by decide +kernel) ⟨Nat.le_of_ble_eq_true rfl, Nat.le_of_ble_eq_true rfl⟩) ⟨zPre.blind, va_recv hK hP (ci := 11) (q0 := 0) rfl rfl, zPre.go hZ hP hK hD⟩ rfl rfl hl.1 rfl (lv_room (Nat.le_of_ble_eq_true rfl)) dX12_act_223 ⟨Nat.le_of_ble_eq_true rfl, Nat.le_of_ble_eq_true rfl⟩) hS (fun q _ h => hFc q h) hFc (fun u9 t9 H1 locs ht hvm hw hB hz1 hk1 hS => ?_)
    obtain ⟨hP, hK1, hD1⟩ := hB
    rw [ht] at hP
    have hD := hD1.weaken (fun _ _ _ h => hFc _ h)
    generalize H1 = H at hP hS ⊢
    refine lv_goto (tgt := 373) hx hb dX12_act_226 (by decide) ?_
    obtain rfl := Option.some.inj hf
    exact W.vret hx hb hr (fun t ht hW => ⟨⟨(), rfl, trivial, by rw [ht]; exact hP, va_K.moved hW.alike hK, hD⟩, hS.F ht⟩) hS.2.2 dX12_act_373
set_option maxHeartbeats 4000000 in
set_option maxRecDepth 100000 in
theorem j_X12_act_290 {p : Program} {e : Env} {s : State} {m : MethodId} {args : Array Value} {below : List Frame} {meth : Method} {c : Code} {A : Nat → Prop} (l : Launch) (dC : Nat → ClassId) (dI : Nat → Nat → Nat) (Q : RQ) (N : Nat) (R : RS) (hx : p.tables.exec = Jvm.exec) (hb : c.code = cX12_act) (hr : meth.sig.returnType = none) (hml : c.maxLocals = 5) (hown : s.vm.findClass RX12 = some m.cls) (hts : ∀ w ∈ wzX12_act, w.before args s = true) (hlocks : meth.locks = false) (hZ : zAMB s) (hA : ∀ q : Nat, s.heap.size ≤ q → A q) (hK : va_K (dC, dI) vwCl (rT Q) s) : ∀ (σ : RS) (H : Heap) (locs : List Loc) (ls : Array Slot), f_X12_act_290 N σ = some R → va_P (dC, dI) vwCl (rW Q σ) H → va_D A (rW Q σ) → va_S A s.heap H locs → lv_has ls 5 [(0, .ref Q.h0)] → W p l e ({ frames := 6, cells := 0, slots := 0, locals := 360 }) s m args below meth c H locs 0 0 (MQ below (va_Qv (fun (_ : Unit) => True) (fun (_ : Unit) (t : State) => zPost dC dI A (rW Q R) (rT Q) t) A) args s 0 0 A) (F0 m 290 ls []) := by
  intro σ  H locs ls hf hP hD hS hl
  unfold f_X12_act_290 at hf
  refine lv_aload_n hx hb dX12_act_290 rfl (lv_at hl 0 rfl) ?_
  refine lv_dup hx hb dX12_act_291 rfl ?_
  refine rG_93 (v := (σ.i 93)) hx hb hts i_X12_act_X12 hown hK hP (hts (.fieldLink RX12 589 "StatementRules2Model" "high" "I") k_X12_act_fieldLink_RX12_589_SRModel_high_I) dX12_act_292 rfl ?_
  refine lv_iconst (v := 1) hx hb dX12_act_295 (by decide) ?_
  refine lv_isub hx hb dX12_act_296 ?_
  refine rP_93 hx hb hts i_X12_act_X12 hown hK hP hD hS (hts (.fieldLink RX12 589 "StatementRules2Model" "high" "I") k_X12_act_fieldLink_RX12_589_SRModel_high_I) dX12_act_297 (fun H locs hP hD hS => ?_)
  refine lv_goto (tgt := 373) hx hb dX12_act_300 (by decide) ?_
  obtain rfl := Option.some.inj hf
  exact W.vret hx hb hr (fun t ht hW => ⟨⟨(), rfl, trivial, by rw [ht]; exact hP, va_K.moved hW.alike hK, hD⟩, hS.F ht⟩) hS.2.2 dX12_act_373
set_option maxHeartbeats 4000000 in
set_option maxRecDepth 100000 in
theorem j_X12_act_282 {p : Program} {e : Env} {s : State} {m : MethodId} {args : Array Value} {below : List Frame} {meth : Method} {c : Code} {A : Nat → Prop} (l : Launch) (dC : Nat → ClassId) (dI : Nat → Nat → Nat) (Q : RQ) (N : Nat) (R : RS) (hx : p.tables.exec = Jvm.exec) (hb : c.code = cX12_act) (hr : meth.sig.returnType = none) (hml : c.maxLocals = 5) (hown : s.vm.findClass RX12 = some m.cls) (hts : ∀ w ∈ wzX12_act, w.before args s = true) (hlocks : meth.locks = false) (hZ : zAMB s) (hA : ∀ q : Nat, s.heap.size ≤ q → A q) (hK : va_K (dC, dI) vwCl (rT Q) s) : ∀ (σ : RS) (x2 : Int32) (H : Heap) (locs : List Loc) (ls : Array Slot), f_X12_act_282 N σ x2 = some R → va_P (dC, dI) vwCl (rW Q σ) H → va_D A (rW Q σ) → va_S A s.heap H locs → lv_has ls 5 [(0, .ref Q.h0), (2, .int x2)] → W p l e ({ frames := 6, cells := 0, slots := 0, locals := 360 }) s m args below meth c H locs 0 0 (MQ below (va_Qv (fun (_ : Unit) => True) (fun (_ : Unit) (t : State) => zPost dC dI A (rW Q R) (rT Q) t) A) args s 0 0 A) (F0 m 282 ls []) := by
  intro σ x2 H locs ls hf hP hD hS hl
  unfold f_X12_act_282 at hf
  refine lv_aload_n hx hb dX12_act_282 rfl (lv_at hl 0 rfl) ?_
  refine lv_iload_n hx hb dX12_act_283 rfl (lv_at hl 1 rfl) ?_
  refine rP_92 hx hb hts i_X12_act_X12 hown hK hP hD hS (hts (.fieldLink RX12 618 "StatementRules2Model" "pc" "I") k_X12_act_fieldLink_RX12_618_SRModel_pc_I) dX12_act_284 (fun H locs hP hD hS => ?_)
  refine lv_goto (tgt := 373) hx hb dX12_act_287 (by decide) ?_
  obtain rfl := Option.some.inj hf
  exact W.vret hx hb hr (fun t ht hW => ⟨⟨(), rfl, trivial, by rw [ht]; exact hP, va_K.moved hW.alike hK, hD⟩, hS.F ht⟩) hS.2.2 dX12_act_373
set_option maxHeartbeats 4000000 in
set_option maxRecDepth 100000 in
theorem j_X12_act_322 {p : Program} {e : Env} {s : State} {m : MethodId} {args : Array Value} {below : List Frame} {meth : Method} {c : Code} {A : Nat → Prop} (l : Launch) (dC : Nat → ClassId) (dI : Nat → Nat → Nat) (Q : RQ) (N : Nat) (R : RS) (hx : p.tables.exec = Jvm.exec) (hb : c.code = cX12_act) (hr : meth.sig.returnType = none) (hml : c.maxLocals = 5) (hown : s.vm.findClass RX12 = some m.cls) (hts : ∀ w ∈ wzX12_act, w.before args s = true) (hlocks : meth.locks = false) (hZ : zAMB s) (hA : ∀ q : Nat, s.heap.size ≤ q → A q) (hK : va_K (dC, dI) vwCl (rT Q) s) : ∀ (σ : RS) (H : Heap) (locs : List Loc) (ls : Array Slot), f_X12_act_322 N σ = some R → va_P (dC, dI) vwCl (rW Q σ) H → va_D A (rW Q σ) → va_S A s.heap H locs → lv_has ls 5 [] → W p l e ({ frames := 6, cells := 0, slots := 0, locals := 360 }) s m args below meth c H locs 0 0 (MQ below (va_Qv (fun (_ : Unit) => True) (fun (_ : Unit) (t : State) => zPost dC dI A (rW Q R) (rT Q) t) A) args s 0 0 A) (F0 m 322 ls []) := by
  intro σ  H locs ls hf hP hD hS hl
  unfold f_X12_act_322 at hf
  refine lv_goto (tgt := 373) hx hb dX12_act_322 (by decide) ?_
  obtain rfl := Option.some.inj hf
  exact W.vret hx hb hr (fun t ht hW => ⟨⟨(), rfl, trivial, by rw [ht]; exact hP, va_K.moved hW.alike hK, hD⟩, hS.F ht⟩) hS.2.2 dX12_act_373
set_option maxHeartbeats 4000000 in
set_option maxRecDepth 100000 in
theorem j_X12_act_344 {p : Program} {e : Env} {s : State} {m : MethodId} {args : Array Value} {below : List Frame} {meth : Method} {c : Code} {A : Nat → Prop} (l : Launch) (dC : Nat → ClassId) (dI : Nat → Nat → Nat) (Q : RQ) (N : Nat) (R : RS) (hx : p.tables.exec = Jvm.exec) (hb : c.code = cX12_act) (hr : meth.sig.returnType = none) (hml : c.maxLocals = 5) (hown : s.vm.findClass RX12 = some m.cls) (hts : ∀ w ∈ wzX12_act, w.before args s = true) (hlocks : meth.locks = false) (hZ : zAMB s) (hA : ∀ q : Nat, s.heap.size ≤ q → A q) (hK : va_K (dC, dI) vwCl (rT Q) s) : ∀ (σ : RS) (H : Heap) (locs : List Loc) (ls : Array Slot), f_X12_act_344 N σ = some R → va_P (dC, dI) vwCl (rW Q σ) H → va_D A (rW Q σ) → va_S A s.heap H locs → lv_has ls 5 [] → W p l e ({ frames := 6, cells := 0, slots := 0, locals := 360 }) s m args below meth c H locs 0 0 (MQ below (va_Qv (fun (_ : Unit) => True) (fun (_ : Unit) (t : State) => zPost dC dI A (rW Q R) (rT Q) t) A) args s 0 0 A) (F0 m 344 ls []) := by
  intro σ  H locs ls hf hP hD hS hl
  unfold f_X12_act_344 at hf
  refine lv_goto (tgt := 373) hx hb dX12_act_344 (by decide) ?_
  obtain rfl := Option.some.inj hf
  exact W.vret hx hb hr (fun t ht hW => ⟨⟨(), rfl, trivial, by rw [ht]; exact hP, va_K.moved hW.alike hK, hD⟩, hS.F ht⟩) hS.2.2 dX12_act_373
set_option maxHeartbeats 4000000 in
set_option maxRecDepth 100000 in
theorem c_X12_act (l : Launch) (dC : Nat → ClassId) (dI : Nat → Nat → Nat) (sz : Nat) (Q : RQ) (N : Nat) (σ : RS) (x1 : Int32) (R : RS) (hf : f_X12_act N σ x1 = some R) : Met l yX12_act wzX12_act ({ frames := 6, cells := 0, slots := 0, locals := 360 }) (va_Pc [.ref Q.h0, .int x1] (zPre dC dI sz (rW Q σ) (rT Q))) (va_Qv (fun (_ : Unit) => True) (fun (_ : Unit) (t : State) => zPost dC dI (va_A (rW Q σ) sz) (rW Q R) (rT Q) t) (va_A (rW Q σ) sz)) 0 0 (va_A (rW Q σ) sz) := by
  refine Met.ofW (cc := cX12_act) (maxL := 5) (ret := none) (by decide) rfl ?_
  intro p e s m args below meth c s₁ B hml hv
  obtain ⟨rfl, hsz, hZ, hP, hK, hD0⟩ := hv
  have hx := B.exec
  have hb := B.bytes
  have hr := B.returns
  have hts := atoms_spec (ws := wzX12_act) B.pre
  have hown : s.vm.findClass RX12 = some m.cls := findClass_of_methodNamed B.named
  have hlocks := B.notSynchronized
  subst hsz
  have hD := hD0.self (sz := s.heap.size)
  generalize hAe : va_A (rW Q σ) s.heap.size = A at hD ⊢
  have hA : ∀ q : Nat, s.heap.size ≤ q → A q := fun q h => by rw [← hAe]; exact Or.inr h
  have hS : va_S A s.heap s.heap [] := va_S.rf
  have hl := lv_entry ([.ref Q.h0, .int x1]) (n := 5) (Nat.le_of_ble_eq_true rfl)
  rw [lg_entry_eq]
  generalize (lg_sl ([.ref Q.h0, .int x1]) ++ List.replicate (5 - (lg_sl ([.ref Q.h0, .int x1])).length) Slot.unset).toArray = ls at hl ⊢
  have hl : lv_has ls 5 [(0, .ref Q.h0), (1, .int x1)] := hl
  unfold f_X12_act at hf
  refine lv_aload_n hx hb dX12_act_0 rfl (lv_at hl 0 rfl) ?_
  refine rG_22 hx hb hts i_X12_act_X12 hown hK hP (hts (.fieldLink RX12 87 "StatementRules2Model" "ix" "[I") k_X12_act_fieldLink_RX12_87_SRModel_ix_I) dX12_act_1 ?_
  refine lv_iload_n hx hb dX12_act_4 rfl (lv_at hl 1 rfl) ?_
  obtain ⟨b1, hf⟩ := hf_ite hf
  refine rL_22 (v := (σ.a 22 ((x1 : Int32).toNatClampNeg))) hx hb hK hP b1 dX12_act_5 rfl ?_
  refine lv_istore_n (lv' := [(2, .int (σ.a 22 ((x1 : Int32).toNatClampNeg))), (0, .ref Q.h0), (1, .int x1)]) hx hb dX12_act_6 rfl hl (by decide) rfl (fun ls hl => ?_)
  refine lv_aload_n hx hb dX12_act_7 rfl (lv_at hl 1 rfl) ?_
  refine rG_21 hx hb hts i_X12_act_X12 hown hK hP (hts (.fieldLink RX12 84 "StatementRules2Model" "op" "[I") k_X12_act_fieldLink_RX12_84_SRModel_op_I) dX12_act_8 ?_
  refine lv_iload_n hx hb dX12_act_11 rfl (lv_at hl 2 rfl) ?_
  refine rL_21 (v := (σ.a 21 ((x1 : Int32).toNatClampNeg))) hx hb hK hP b1 dX12_act_12 rfl ?_
  by_cases c2 : (σ.a 21 ((x1 : Int32).toNatClampNeg)) = 1
  ·
    replace hf := (if_pos c2).symm.trans hf
    refine lv_tableIn (off := 79) (tgt := 92) hx hb dX12_act_13 (by rw [c2]; decide) (by rw [c2]; decide) (by rw [c2]; decide) (by decide) ?_
    refine lv_aload_n hx hb dX12_act_92 rfl (lv_at hl 1 rfl) ?_
    obtain ⟨p3, hcp3, hf⟩ := hf_bind hf
    have hFc := r_free hD hS hA
    refine va_callv (va_runV (As := []) (rest := []) ⟨hx, hb, hml, hown, hts⟩ (c_X12_step l dC dI _ Q N σ p3 hcp3) (cwV 0 hts hX12_act_X12_step_v642 rfl rfl rfl (by decide +kernel) ⟨Nat.le_of_ble_eq_true rfl, Nat.le_of_ble_eq_true rfl⟩) ⟨zPre.blind, va_recv hK hP (ci := 11) (q0 := 0) rfl rfl, zPre.go hZ hP hK hD⟩ rfl rfl hl.1 rfl (lv_room (Nat.le_of_ble_eq_true rfl)) dX12_act_93 ⟨Nat.le_of_ble_eq_true rfl, Nat.le_of_ble_eq_true rfl⟩) hS (fun q _ h => hFc q h) hFc (fun u9 t9 H1 locs ht hvm hw hB hz1 hk1 hS => ?_)
    obtain ⟨hP, hK1, hD1⟩ := hB
    rw [ht] at hP
    have hD := hD1.weaken (fun _ _ _ h => hFc _ h)
    generalize H1 = H at hP hS ⊢
    refine lv_goto (tgt := 373) hx hb dX12_act_96 (by decide) ?_
    obtain rfl := Option.some.inj hf
    exact W.vret hx hb hr (fun t ht hW => ⟨⟨(), rfl, trivial, by rw [ht]; exact hP, va_K.moved hW.alike hK, hD⟩, hS.F ht⟩) hS.2.2 dX12_act_373
  replace hf := (if_neg c2).symm.trans hf
  by_cases c5 : (σ.a 21 ((x1 : Int32).toNatClampNeg)) = 2
  ·
    replace hf := (if_pos c5).symm.trans hf
    refine lv_tableIn (off := 86) (tgt := 99) hx hb dX12_act_13 (by rw [c5]; decide) (by rw [c5]; decide) (by rw [c5]; decide) (by decide) ?_
    refine lv_aload_n hx hb dX12_act_99 rfl (lv_at hl 1 rfl) ?_
    refine lv_iload_n hx hb dX12_act_100 rfl (lv_at hl 0 rfl) ?_
    obtain ⟨p6, hcp6, hf⟩ := hf_bind hf
    have hFc := r_free hD hS hA
    refine va_callv (va_runV (As := [.int (σ.a 22 ((x1 : Int32).toNatClampNeg))]) (rest := []) ⟨hx, hb, hml, hown, hts⟩ (c_X12_put l dC dI _ Q N σ (σ.a 22 ((x1 : Int32).toNatClampNeg)) p6 hcp6) (cwV 1 hts hX12_act_X12_put_v633 rfl rfl rfl (by decide +kernel) ⟨Nat.le_of_ble_eq_true rfl, Nat.le_of_ble_eq_true rfl⟩) ⟨zPre.blind, va_recv hK hP (ci := 11) (q0 := 0) rfl rfl, zPre.go hZ hP hK hD⟩ rfl rfl hl.1 rfl (lv_room (Nat.le_of_ble_eq_true rfl)) dX12_act_101 ⟨Nat.le_of_ble_eq_true rfl, Nat.le_of_ble_eq_true rfl⟩) hS (fun q _ h => hFc q h) hFc (fun u9 t9 H1 locs ht hvm hw hB hz1 hk1 hS => ?_)
    obtain ⟨hP, hK1, hD1⟩ := hB
    rw [ht] at hP
    have hD := hD1.weaken (fun _ _ _ h => hFc _ h)
    generalize H1 = H at hP hS ⊢
    refine lv_goto (tgt := 373) hx hb dX12_act_104 (by decide) ?_
    obtain rfl := Option.some.inj hf
    exact W.vret hx hb hr (fun t ht hW => ⟨⟨(), rfl, trivial, by rw [ht]; exact hP, va_K.moved hW.alike hK, hD⟩, hS.F ht⟩) hS.2.2 dX12_act_373
  replace hf := (if_neg c5).symm.trans hf
  by_cases c8 : (σ.a 21 ((x1 : Int32).toNatClampNeg)) = 3
  ·
    replace hf := (if_pos c8).symm.trans hf
    refine lv_tableIn (off := 94) (tgt := 107) hx hb dX12_act_13 (by rw [c8]; decide) (by rw [c8]; decide) (by rw [c8]; decide) (by decide) ?_
    refine lv_aload_n hx hb dX12_act_107 rfl (lv_at hl 1 rfl) ?_
    refine lv_aload_n hx hb dX12_act_108 rfl (lv_at hl 1 rfl) ?_
    refine rG_84 hx hb hts i_X12_act_X12 hown hK hP (hts (.fieldLink RX12 213 "StatementRules2Model" "vals" "[I") k_X12_act_fieldLink_RX12_213_SRModel_vals_I) dX12_act_109 ?_
    refine lv_iload_n hx hb dX12_act_112 rfl (lv_at hl 0 rfl) ?_
    obtain ⟨b9, hf⟩ := hf_ite hf
    refine rL_84 (v := (σ.a 84 (((σ.a 22 ((x1 : Int32).toNatClampNeg)) : Int32).toNatClampNeg))) hx hb hK hP b9 dX12_act_113 rfl ?_
    obtain ⟨p10, hcp10, hf⟩ := hf_bind hf
    have hFc := r_free hD hS hA
    refine va_callv (va_runV (As := [.int (σ.a 84 (((σ.a 22 ((x1 : Int32).toNatClampNeg)) : Int32).toNatClampNeg))]) (rest := []) ⟨hx, hb, hml, hown, hts⟩ (c_X12_put l dC dI _ Q N σ (σ.a 84 (((σ.a 22 ((x1 : Int32).toNatClampNeg)) : Int32).toNatClampNeg)) p10 hcp10) (cwV 1 hts hX12_act_X12_put_v633 rfl rfl rfl (by decide +kernel) ⟨Nat.le_of_ble_eq_true rfl, Nat.le_of_ble_eq_true rfl⟩) ⟨zPre.blind, va_recv hK hP (ci := 11) (q0 := 0) rfl rfl, zPre.go hZ hP hK hD⟩ rfl rfl hl.1 rfl (lv_room (Nat.le_of_ble_eq_true rfl)) dX12_act_114 ⟨Nat.le_of_ble_eq_true rfl, Nat.le_of_ble_eq_true rfl⟩) hS (fun q _ h => hFc q h) hFc (fun u9 t9 H1 locs ht hvm hw hB hz1 hk1 hS => ?_)
    obtain ⟨hP, hK1, hD1⟩ := hB
    rw [ht] at hP
    have hD := hD1.weaken (fun _ _ _ h => hFc _ h)
    generalize H1 = H at hP hS ⊢
    refine lv_goto (tgt := 373) hx hb dX12_act_117 (by decide) ?_
    obtain rfl := Option.some.inj hf
    exact W.vret hx hb hr (fun t ht hW => ⟨⟨(), rfl, trivial, by rw [ht]; exact hP, va_K.moved hW.alike hK, hD⟩, hS.F ht⟩) hS.2.2 dX12_act_373
  replace hf := (if_neg c8).symm.trans hf
  by_cases c12 : (σ.a 21 ((x1 : Int32).toNatClampNeg)) = 4
  ·
    replace hf := (if_pos c12).symm.trans hf
    refine lv_tableIn (off := 107) (tgt := 120) hx hb dX12_act_13 (by rw [c12]; decide) (by rw [c12]; decide) (by rw [c12]; decide) (by decide) ?_
    refine lv_aload_n hx hb dX12_act_120 rfl (lv_at hl 1 rfl) ?_
    refine lv_aload_n hx hb dX12_act_121 rfl (lv_at hl 1 rfl) ?_
    refine rG_87 hx hb hts i_X12_act_X12 hown hK hP (hts (.fieldLink RX12 219 "StatementRules2Model" "thingNumber" "[I") k_X12_act_fieldLink_RX12_219_SRModel_thingNumber_I) dX12_act_122 ?_
    refine lv_aload_n hx hb dX12_act_125 rfl (lv_at hl 1 rfl) ?_
    refine rG_84 hx hb hts i_X12_act_X12 hown hK hP (hts (.fieldLink RX12 213 "StatementRules2Model" "vals" "[I") k_X12_act_fieldLink_RX12_213_SRModel_vals_I) dX12_act_126 ?_
    refine lv_iload_n hx hb dX12_act_129 rfl (lv_at hl 0 rfl) ?_
    obtain ⟨b13, hf⟩ := hf_ite hf
    refine rL_84 (v := (σ.a 84 (((σ.a 22 ((x1 : Int32).toNatClampNeg)) : Int32).toNatClampNeg))) hx hb hK hP b13 dX12_act_130 rfl ?_
    obtain ⟨b14, hf⟩ := hf_ite hf
    refine rL_87 (v := (σ.a 87 (((σ.a 84 (((σ.a 22 ((x1 : Int32).toNatClampNeg)) : Int32).toNatClampNeg)) : Int32).toNatClampNeg))) hx hb hK hP b14 dX12_act_131 rfl ?_
    obtain ⟨p15, hcp15, hf⟩ := hf_bind hf
    have hFc := r_free hD hS hA
    refine va_callv (va_runV (As := [.int (σ.a 87 (((σ.a 84 (((σ.a 22 ((x1 : Int32).toNatClampNeg)) : Int32).toNatClampNeg)) : Int32).toNatClampNeg))]) (rest := []) ⟨hx, hb, hml, hown, hts⟩ (c_X12_put l dC dI _ Q N σ (σ.a 87 (((σ.a 84 (((σ.a 22 ((x1 : Int32).toNatClampNeg)) : Int32).toNatClampNeg)) : Int32).toNatClampNeg)) p15 hcp15) (cwV 1 hts hX12_act_X12_put_v633 rfl rfl rfl (by decide +kernel) ⟨Nat.le_of_ble_eq_true rfl, Nat.le_of_ble_eq_true rfl⟩) ⟨zPre.blind, va_recv hK hP (ci := 11) (q0 := 0) rfl rfl, zPre.go hZ hP hK hD⟩ rfl rfl hl.1 rfl (lv_room (Nat.le_of_ble_eq_true rfl)) dX12_act_132 ⟨Nat.le_of_ble_eq_true rfl, Nat.le_of_ble_eq_true rfl⟩) hS (fun q _ h => hFc q h) hFc (fun u9 t9 H1 locs ht hvm hw hB hz1 hk1 hS => ?_)
    obtain ⟨hP, hK1, hD1⟩ := hB
    rw [ht] at hP
    have hD := hD1.weaken (fun _ _ _ h => hFc _ h)
    generalize H1 = H at hP hS ⊢
    refine lv_goto (tgt := 373) hx hb dX12_act_135 (by decide) ?_
    obtain rfl := Option.some.inj hf
    exact W.vret hx hb hr (fun t ht hW => ⟨⟨(), rfl, trivial, by rw [ht]; exact hP, va_K.moved hW.alike hK, hD⟩, hS.F ht⟩) hS.2.2 dX12_act_373
  replace hf := (if_neg c12).symm.trans hf
  by_cases c17 : (σ.a 21 ((x1 : Int32).toNatClampNeg)) = 5
  ·
    replace hf := (if_pos c17).symm.trans hf
    refine lv_tableIn (off := 125) (tgt := 138) hx hb dX12_act_13 (by rw [c17]; decide) (by rw [c17]; decide) (by rw [c17]; decide) (by decide) ?_
    refine lv_aload_n hx hb dX12_act_138 rfl (lv_at hl 1 rfl) ?_
    refine rG_84 hx hb hts i_X12_act_X12 hown hK hP (hts (.fieldLink RX12 213 "StatementRules2Model" "vals" "[I") k_X12_act_fieldLink_RX12_213_SRModel_vals_I) dX12_act_139 ?_
    refine lv_iload_n hx hb dX12_act_142 rfl (lv_at hl 0 rfl) ?_
    refine lv_aload_n hx hb dX12_act_143 rfl (lv_at hl 1 rfl) ?_
    obtain ⟨p18, hcp18, hf⟩ := hf_bind hf
    have hFc := r_free hD hS hA
    refine va_calli (va_runV (As := []) (rest := [.int (σ.a 22 ((x1 : Int32).toNatClampNeg)), .ref (Q.q 84)]) ⟨hx, hb, hml, hown, hts⟩ (c_X12_take l dC dI _ Q N σ p18 hcp18) (cwV 0 hts hX12_act_X12_take_v645 rfl rfl rfl (by decide +kernel) ⟨Nat.le_of_ble_eq_true rfl, Nat.le_of_ble_eq_true rfl⟩) ⟨zPre.blind, va_recv hK hP (ci := 11) (q0 := 0) rfl rfl, zPre.go hZ hP hK hD⟩ rfl rfl hl.1 rfl (lv_room (Nat.le_of_ble_eq_true rfl)) dX12_act_144 ⟨Nat.le_of_ble_eq_true rfl, Nat.le_of_ble_eq_true rfl⟩) hS (fun q _ h => hFc q h) hFc (fun r19 u9 t9 H1 locs ht hvm hw hB hz1 hk1 hS => ?_)
    obtain ⟨hP, hK1, hD1⟩ := hB
    rw [ht] at hP
    have hD := hD1.weaken (fun _ _ _ h => hFc _ h)
    generalize H1 = H at hP hS ⊢
    obtain rfl : r19 = p18.1 := hw
    obtain ⟨b20, hf⟩ := hf_ite hf
    refine rS_84 hx hb hK hP hD hS b20 dX12_act_147 (fun H locs hP hD hS => ?_)
    refine lv_goto (tgt := 373) hx hb dX12_act_148 (by decide) ?_
    obtain rfl := Option.some.inj hf
    exact W.vret hx hb hr (fun t ht hW => ⟨⟨(), rfl, trivial, by rw [ht]; exact hP, va_K.moved hW.alike hK, hD⟩, hS.F ht⟩) hS.2.2 dX12_act_373
  replace hf := (if_neg c17).symm.trans hf
  by_cases c21 : (σ.a 21 ((x1 : Int32).toNatClampNeg)) = 6
  ·
    replace hf := (if_pos c21).symm.trans hf
    refine lv_tableIn (off := 138) (tgt := 151) hx hb dX12_act_13 (by rw [c21]; decide) (by rw [c21]; decide) (by rw [c21]; decide) (by decide) ?_
    refine lv_aload_n hx hb dX12_act_151 rfl (lv_at hl 1 rfl) ?_
    refine rG_84 hx hb hts i_X12_act_X12 hown hK hP (hts (.fieldLink RX12 213 "StatementRules2Model" "vals" "[I") k_X12_act_fieldLink_RX12_213_SRModel_vals_I) dX12_act_152 ?_
    refine lv_iload_n hx hb dX12_act_155 rfl (lv_at hl 0 rfl) ?_
    refine lv_dup2_11 hx hb dX12_act_156 rfl rfl ?_
    obtain ⟨b22, hf⟩ := hf_ite hf
    refine rL_84 (v := (σ.a 84 (((σ.a 22 ((x1 : Int32).toNatClampNeg)) : Int32).toNatClampNeg))) hx hb hK hP b22 dX12_act_157 rfl ?_
    refine lv_iconst (v := 1) hx hb dX12_act_158 (by decide) ?_
    refine lv_iadd hx hb dX12_act_159 ?_
    refine rS_84 hx hb hK hP hD hS b22 dX12_act_160 (fun H locs hP hD hS => ?_)
    refine lv_goto (tgt := 373) hx hb dX12_act_161 (by decide) ?_
    obtain rfl := Option.some.inj hf
    exact W.vret hx hb hr (fun t ht hW => ⟨⟨(), rfl, trivial, by rw [ht]; exact hP, va_K.moved hW.alike hK, hD⟩, hS.F ht⟩) hS.2.2 dX12_act_373
  replace hf := (if_neg c21).symm.trans hf
  by_cases c23 : (σ.a 21 ((x1 : Int32).toNatClampNeg)) = 7
  ·
    replace hf := (if_pos c23).symm.trans hf
    refine lv_tableIn (off := 151) (tgt := 164) hx hb dX12_act_13 (by rw [c23]; decide) (by rw [c23]; decide) (by rw [c23]; decide) (by decide) ?_
    refine lv_aload_n hx hb dX12_act_164 rfl (lv_at hl 1 rfl) ?_
    refine lv_aload_n hx hb dX12_act_165 rfl (lv_at hl 1 rfl) ?_
    obtain ⟨p24, hcp24, hf⟩ := hf_bind hf
    have hFc := r_free hD hS hA
    refine va_calli (va_runV (As := []) (rest := [.ref Q.h0]) ⟨hx, hb, hml, hown, hts⟩ (c_X12_take l dC dI _ Q N σ p24 hcp24) (cwV 0 hts hX12_act_X12_take_v645 rfl rfl rfl (by decide +kernel) ⟨Nat.le_of_ble_eq_true rfl, Nat.le_of_ble_eq_true rfl⟩) ⟨zPre.blind, va_recv hK hP (ci := 11) (q0 := 0) rfl rfl, zPre.go hZ hP hK hD⟩ rfl rfl hl.1 rfl (lv_room (Nat.le_of_ble_eq_true rfl)) dX12_act_166 ⟨Nat.le_of_ble_eq_true rfl, Nat.le_of_ble_eq_true rfl⟩) hS (fun q _ h => hFc q h) hFc (fun r25 u9 t9 H1 locs ht hvm hw hB hz1 hk1 hS => ?_)
    obtain ⟨hP, hK1, hD1⟩ := hB
    rw [ht] at hP
    have hD := hD1.weaken (fun _ _ _ h => hFc _ h)
    generalize H1 = H at hP hS ⊢
    obtain rfl : r25 = p24.1 := hw
    refine lv_ineg hx hb dX12_act_169 ?_
    obtain ⟨p26, hcp26, hf⟩ := hf_bind hf
    have hFc := r_free hD hS hA
    refine va_callv (va_runV (As := [.int (-p24.1)]) (rest := []) ⟨hx, hb, hml, hown, hts⟩ (c_X12_put l dC dI _ Q N p24.2 (-p24.1) p26 hcp26) (cwV 1 hts hX12_act_X12_put_v633 rfl rfl rfl (by decide +kernel) ⟨Nat.le_of_ble_eq_true rfl, Nat.le_of_ble_eq_true rfl⟩) ⟨zPre.blind, va_recv hK hP (ci := 11) (q0 := 0) rfl rfl, zPre.go hZ hP hK hD⟩ rfl rfl hl.1 rfl (lv_room (Nat.le_of_ble_eq_true rfl)) dX12_act_170 ⟨Nat.le_of_ble_eq_true rfl, Nat.le_of_ble_eq_true rfl⟩) hS (fun q _ h => hFc q h) hFc (fun u9 t9 H1 locs ht hvm hw hB hz1 hk1 hS => ?_)
    obtain ⟨hP, hK1, hD1⟩ := hB
    rw [ht] at hP
    have hD := hD1.weaken (fun _ _ _ h => hFc _ h)
    generalize H1 = H at hP hS ⊢
    refine lv_goto (tgt := 373) hx hb dX12_act_173 (by decide) ?_
    obtain rfl := Option.some.inj hf
    exact W.vret hx hb hr (fun t ht hW => ⟨⟨(), rfl, trivial, by rw [ht]; exact hP, va_K.moved hW.alike hK, hD⟩, hS.F ht⟩) hS.2.2 dX12_act_373
  replace hf := (if_neg c23).symm.trans hf
  by_cases c28 : (σ.a 21 ((x1 : Int32).toNatClampNeg)) = 8
  ·
    replace hf := (if_pos c28).symm.trans hf
    refine lv_tableIn (off := 176) (tgt := 189) hx hb dX12_act_13 (by rw [c28]; decide) (by rw [c28]; decide) (by rw [c28]; decide) (by decide) ?_
    refine lv_aload_n hx hb dX12_act_189 rfl (lv_at hl 1 rfl) ?_
    obtain ⟨p29, hcp29, hf⟩ := hf_bind hf
    have hFc := r_free hD hS hA
    refine va_calli (va_runV (As := []) (rest := []) ⟨hx, hb, hml, hown, hts⟩ (c_X12_take l dC dI _ Q N σ p29 hcp29) (cwV 0 hts hX12_act_X12_take_v645 rfl rfl rfl (by decide +kernel) ⟨Nat.le_of_ble_eq_true rfl, Nat.le_of_ble_eq_true rfl⟩) ⟨zPre.blind, va_recv hK hP (ci := 11) (q0 := 0) rfl rfl, zPre.go hZ hP hK hD⟩ rfl rfl hl.1 rfl (lv_room (Nat.le_of_ble_eq_true rfl)) dX12_act_190 ⟨Nat.le_of_ble_eq_true rfl, Nat.le_of_ble_eq_true rfl⟩) hS (fun q _ h => hFc q h) hFc (fun r30 u9 t9 H1 locs ht hvm hw hB hz1 hk1 hS => ?_)
    obtain ⟨hP, hK1, hD1⟩ := hB
    rw [ht] at hP
    have hD := hD1.weaken (fun _ _ _ h => hFc _ h)
    generalize H1 = H at hP hS ⊢
    obtain rfl : r30 = p29.1 := hw
    refine lv_istore_n (lv' := [(3, .int p29.1), (2, .int (σ.a 22 ((x1 : Int32).toNatClampNeg))), (0, .ref Q.h0), (1, .int x1)]) hx hb dX12_act_193 rfl hl (by decide) rfl (fun ls hl => ?_)
    refine lv_aload_n hx hb dX12_act_194 rfl (lv_at hl 2 rfl) ?_
    obtain ⟨p31, hcp31, hf⟩ := hf_bind hf
    have hFc := r_free hD hS hA
    refine va_calli (va_runV (As := []) (rest := []) ⟨hx, hb, hml, hown, hts⟩ (c_X12_take l dC dI _ Q N p29.2 p31 hcp31) (cwV 0 hts hX12_act_X12_take_v645 rfl rfl rfl (by decide +kernel) ⟨Nat.le_of_ble_eq_true rfl, Nat.le_of_ble_eq_true rfl⟩) ⟨zPre.blind, va_recv hK hP (ci := 11) (q0 := 0) rfl rfl, zPre.go hZ hP hK hD⟩ rfl rfl hl.1 rfl (lv_room (Nat.le_of_ble_eq_true rfl)) dX12_act_195 ⟨Nat.le_of_ble_eq_true rfl, Nat.le_of_ble_eq_true rfl⟩) hS (fun q _ h => hFc q h) hFc (fun r32 u9 t9 H1 locs ht hvm hw hB hz1 hk1 hS => ?_)
    obtain ⟨hP, hK1, hD1⟩ := hB
    rw [ht] at hP
    have hD := hD1.weaken (fun _ _ _ h => hFc _ h)
    generalize H1 = H at hP hS ⊢
    obtain rfl : r32 = p31.1 := hw
    refine lv_istore (lv' := [(4, .int p31.1), (3, .int p29.1), (2, .int (σ.a 22 ((x1 : Int32).toNatClampNeg))), (0, .ref Q.h0), (1, .int x1)]) hx hb dX12_act_198 hl (by decide) rfl (fun ls hl => ?_)
    refine lv_iload_n hx hb dX12_act_200 rfl (lv_at hl 2 rfl) ?_
    refine lv_bipush (v := 47) hx hb dX12_act_201 (by decide) ?_
    refine lv_icmp_eq (tgt := 212) hx hb dX12_act_203 (by decide) (fun c33 => ?_) (fun c33 => ?_)
    ·
      replace hf := (if_pos c33).symm.trans hf
      exact j_X12_act_212 l dC dI Q N R hx hb hr hml hown hts hlocks hZ hA hK p31.2 (σ.a 22 ((x1 : Int32).toNatClampNeg)) p29.1 p31.1 _ _ _ hf hP hD hS (lv_sub hl [3, 2, 1, 0] rfl)
    ·
      replace hf := (if_neg c33).symm.trans hf
      refine lv_iload_n hx hb dX12_act_206 rfl (lv_at hl 2 rfl) ?_
      refine lv_bipush (v := 37) hx hb dX12_act_207 (by decide) ?_
      refine lv_icmp_ne (tgt := 229) hx hb dX12_act_209 (by decide) (fun c43 => ?_) (fun c43 => ?_)
      ·
        replace hf := (if_neg c43).symm.trans hf
        exact j_X12_act_229 l dC dI Q N R hx hb hr hml hown hts hlocks hZ hA hK p31.2 (σ.a 22 ((x1 : Int32).toNatClampNeg)) p29.1 p31.1 _ _ _ hf hP hD hS (lv_sub hl [3, 2, 1, 0] rfl)
      ·
        replace hf := (if_pos c43).symm.trans hf
        exact j_X12_act_212 l dC dI Q N R hx hb hr hml hown hts hlocks hZ hA hK p31.2 (σ.a 22 ((x1 : Int32).toNatClampNeg)) p29.1 p31.1 _ _ _ hf hP hD hS (lv_sub hl [3, 2, 1, 0] rfl)
  replace hf := (if_neg c28).symm.trans hf
  by_cases c44 : (σ.a 21 ((x1 : Int32).toNatClampNeg)) = 9
  ·
    replace hf := (if_pos c44).symm.trans hf
    refine lv_tableIn (off := 176) (tgt := 189) hx hb dX12_act_13 (by rw [c44]; decide) (by rw [c44]; decide) (by rw [c44]; decide) (by decide) ?_
    refine lv_aload_n hx hb dX12_act_189 rfl (lv_at hl 1 rfl) ?_
    obtain ⟨p45, hcp45, hf⟩ := hf_bind hf
    have hFc := r_free hD hS hA
    refine va_calli (va_runV (As := []) (rest := []) ⟨hx, hb, hml, hown, hts⟩ (c_X12_take l dC dI _ Q N σ p45 hcp45) (cwV 0 hts hX12_act_X12_take_v645 rfl rfl rfl (by decide +kernel) ⟨Nat.le_of_ble_eq_true rfl, Nat.le_of_ble_eq_true rfl⟩) ⟨zPre.blind, va_recv hK hP (ci := 11) (q0 := 0) rfl rfl, zPre.go hZ hP hK hD⟩ rfl rfl hl.1 rfl (lv_room (Nat.le_of_ble_eq_true rfl)) dX12_act_190 ⟨Nat.le_of_ble_eq_true rfl, Nat.le_of_ble_eq_true rfl⟩) hS (fun q _ h => hFc q h) hFc (fun r46 u9 t9 H1 locs ht hvm hw hB hz1 hk1 hS => ?_)
    obtain ⟨hP, hK1, hD1⟩ := hB
    rw [ht] at hP
    have hD := hD1.weaken (fun _ _ _ h => hFc _ h)
    generalize H1 = H at hP hS ⊢
    obtain rfl : r46 = p45.1 := hw
    refine lv_istore_n (lv' := [(3, .int p45.1), (2, .int (σ.a 22 ((x1 : Int32).toNatClampNeg))), (0, .ref Q.h0), (1, .int x1)]) hx hb dX12_act_193 rfl hl (by decide) rfl (fun ls hl => ?_)
    refine lv_aload_n hx hb dX12_act_194 rfl (lv_at hl 2 rfl) ?_
    obtain ⟨p47, hcp47, hf⟩ := hf_bind hf
    have hFc := r_free hD hS hA
    refine va_calli (va_runV (As := []) (rest := []) ⟨hx, hb, hml, hown, hts⟩ (c_X12_take l dC dI _ Q N p45.2 p47 hcp47) (cwV 0 hts hX12_act_X12_take_v645 rfl rfl rfl (by decide +kernel) ⟨Nat.le_of_ble_eq_true rfl, Nat.le_of_ble_eq_true rfl⟩) ⟨zPre.blind, va_recv hK hP (ci := 11) (q0 := 0) rfl rfl, zPre.go hZ hP hK hD⟩ rfl rfl hl.1 rfl (lv_room (Nat.le_of_ble_eq_true rfl)) dX12_act_195 ⟨Nat.le_of_ble_eq_true rfl, Nat.le_of_ble_eq_true rfl⟩) hS (fun q _ h => hFc q h) hFc (fun r48 u9 t9 H1 locs ht hvm hw hB hz1 hk1 hS => ?_)
    obtain ⟨hP, hK1, hD1⟩ := hB
    rw [ht] at hP
    have hD := hD1.weaken (fun _ _ _ h => hFc _ h)
    generalize H1 = H at hP hS ⊢
    obtain rfl : r48 = p47.1 := hw
    refine lv_istore (lv' := [(4, .int p47.1), (3, .int p45.1), (2, .int (σ.a 22 ((x1 : Int32).toNatClampNeg))), (0, .ref Q.h0), (1, .int x1)]) hx hb dX12_act_198 hl (by decide) rfl (fun ls hl => ?_)
    refine lv_iload_n hx hb dX12_act_200 rfl (lv_at hl 2 rfl) ?_
    refine lv_bipush (v := 47) hx hb dX12_act_201 (by decide) ?_
    refine lv_icmp_eq (tgt := 212) hx hb dX12_act_203 (by decide) (fun c49 => ?_) (fun c49 => ?_)
    ·
      replace hf := (if_pos c49).symm.trans hf
      exact j_X12_act_212 l dC dI Q N R hx hb hr hml hown hts hlocks hZ hA hK p47.2 (σ.a 22 ((x1 : Int32).toNatClampNeg)) p45.1 p47.1 _ _ _ hf hP hD hS (lv_sub hl [3, 2, 1, 0] rfl)
    ·
      replace hf := (if_neg c49).symm.trans hf
      refine lv_iload_n hx hb dX12_act_206 rfl (lv_at hl 2 rfl) ?_
      refine lv_bipush (v := 37) hx hb dX12_act_207 (by decide) ?_
      refine lv_icmp_ne (tgt := 229) hx hb dX12_act_209 (by decide) (fun c50 => ?_) (fun c50 => ?_)
      ·
        replace hf := (if_neg c50).symm.trans hf
        exact j_X12_act_229 l dC dI Q N R hx hb hr hml hown hts hlocks hZ hA hK p47.2 (σ.a 22 ((x1 : Int32).toNatClampNeg)) p45.1 p47.1 _ _ _ hf hP hD hS (lv_sub hl [3, 2, 1, 0] rfl)
      ·
        replace hf := (if_pos c50).symm.trans hf
        exact j_X12_act_212 l dC dI Q N R hx hb hr hml hown hts hlocks hZ hA hK p47.2 (σ.a 22 ((x1 : Int32).toNatClampNeg)) p45.1 p47.1 _ _ _ hf hP hD hS (lv_sub hl [3, 2, 1, 0] rfl)
  replace hf := (if_neg c44).symm.trans hf
  by_cases c51 : (σ.a 21 ((x1 : Int32).toNatClampNeg)) = 10
  ·
    replace hf := (if_pos c51).symm.trans hf
    refine lv_tableIn (off := 163) (tgt := 176) hx hb dX12_act_13 (by rw [c51]; decide) (by rw [c51]; decide) (by rw [c51]; decide) (by decide) ?_
    refine lv_aload_n hx hb dX12_act_176 rfl (lv_at hl 1 rfl) ?_
    refine lv_iconst (v := 1) hx hb dX12_act_177 (by decide) ?_
    refine lv_aload_n hx hb dX12_act_178 rfl (lv_at hl 1 rfl) ?_
    obtain ⟨p52, hcp52, hf⟩ := hf_bind hf
    have hFc := r_free hD hS hA
    refine va_calli (va_runV (As := []) (rest := [.int 1, .ref Q.h0]) ⟨hx, hb, hml, hown, hts⟩ (c_X12_take l dC dI _ Q N σ p52 hcp52) (cwV 0 hts hX12_act_X12_take_v645 rfl rfl rfl (by decide +kernel) ⟨Nat.le_of_ble_eq_true rfl, Nat.le_of_ble_eq_true rfl⟩) ⟨zPre.blind, va_recv hK hP (ci := 11) (q0 := 0) rfl rfl, zPre.go hZ hP hK hD⟩ rfl rfl hl.1 rfl (lv_room (Nat.le_of_ble_eq_true rfl)) dX12_act_179 ⟨Nat.le_of_ble_eq_true rfl, Nat.le_of_ble_eq_true rfl⟩) hS (fun q _ h => hFc q h) hFc (fun r53 u9 t9 H1 locs ht hvm hw hB hz1 hk1 hS => ?_)
    obtain ⟨hP, hK1, hD1⟩ := hB
    rw [ht] at hP
    have hD := hD1.weaken (fun _ _ _ h => hFc _ h)
    generalize H1 = H at hP hS ⊢
    obtain rfl : r53 = p52.1 := hw
    refine lv_isub hx hb dX12_act_182 ?_
    obtain ⟨p54, hcp54, hf⟩ := hf_bind hf
    have hFc := r_free hD hS hA
    refine va_callv (va_runV (As := [.int (1 - p52.1)]) (rest := []) ⟨hx, hb, hml, hown, hts⟩ (c_X12_put l dC dI _ Q N p52.2 (1 - p52.1) p54 hcp54) (cwV 1 hts hX12_act_X12_put_v633 rfl rfl rfl (by decide +kernel) ⟨Nat.le_of_ble_eq_true rfl, Nat.le_of_ble_eq_true rfl⟩) ⟨zPre.blind, va_recv hK hP (ci := 11) (q0 := 0) rfl rfl, zPre.go hZ hP hK hD⟩ rfl rfl hl.1 rfl (lv_room (Nat.le_of_ble_eq_true rfl)) dX12_act_183 ⟨Nat.le_of_ble_eq_true rfl, Nat.le_of_ble_eq_true rfl⟩) hS (fun q _ h => hFc q h) hFc (fun u9 t9 H1 locs ht hvm hw hB hz1 hk1 hS => ?_)
    obtain ⟨hP, hK1, hD1⟩ := hB
    rw [ht] at hP
    have hD := hD1.weaken (fun _ _ _ h => hFc _ h)
    generalize H1 = H at hP hS ⊢
    refine lv_goto (tgt := 373) hx hb dX12_act_186 (by decide) ?_
    obtain rfl := Option.some.inj hf
    exact W.vret hx hb hr (fun t ht hW => ⟨⟨(), rfl, trivial, by rw [ht]; exact hP, va_K.moved hW.alike hK, hD⟩, hS.F ht⟩) hS.2.2 dX12_act_373
  replace hf := (if_neg c51).symm.trans hf
  by_cases c56 : (σ.a 21 ((x1 : Int32).toNatClampNeg)) = 11
  ·
    replace hf := (if_pos c56).symm.trans hf
    refine lv_tableIn (off := 231) (tgt := 244) hx hb dX12_act_13 (by rw [c56]; decide) (by rw [c56]; decide) (by rw [c56]; decide) (by decide) ?_
    refine lv_aload_n hx hb dX12_act_244 rfl (lv_at hl 1 rfl) ?_
    refine rG_94 hx hb hts i_X12_act_X12 hown hK hP (hts (.fieldLink RX12 234 "StatementRules2Model" "vs" "[I") k_X12_act_fieldLink_RX12_234_SRModel_vs_I) dX12_act_245 ?_
    refine lv_aload_n hx hb dX12_act_248 rfl (lv_at hl 1 rfl) ?_
    refine rG_93 (v := (σ.i 93)) hx hb hts i_X12_act_X12 hown hK hP (hts (.fieldLink RX12 589 "StatementRules2Model" "high" "I") k_X12_act_fieldLink_RX12_589_SRModel_high_I) dX12_act_249 rfl ?_
    refine lv_iconst (v := 1) hx hb dX12_act_252 (by decide) ?_
    refine lv_isub hx hb dX12_act_253 ?_
    obtain ⟨b57, hf⟩ := hf_ite hf
    refine rL_94 (v := (σ.a 94 ((((σ.i 93) - 1) : Int32).toNatClampNeg))) hx hb hK hP b57 dX12_act_254 rfl ?_
    refine lv_if_eq (tgt := 262) hx hb dX12_act_255 (by decide) (fun c58 => ?_) (fun c58 => ?_)
    ·
      replace hf := (if_pos c58).symm.trans hf
      refine lv_iconst (v := 0) hx hb dX12_act_262 (by decide) ?_
      refine lv_aload_n hx hb dX12_act_263 rfl (lv_at hl 1 rfl) ?_
      refine rG_21 hx hb hts i_X12_act_X12 hown hK hP (hts (.fieldLink RX12 84 "StatementRules2Model" "op" "[I") k_X12_act_fieldLink_RX12_84_SRModel_op_I) dX12_act_264 ?_
      refine lv_iload_n hx hb dX12_act_267 rfl (lv_at hl 2 rfl) ?_
      refine rL_21 (v := (σ.a 21 ((x1 : Int32).toNatClampNeg))) hx hb hK hP b1 dX12_act_268 rfl ?_
      refine lv_bipush (v := 11) hx hb dX12_act_269 (by decide) ?_
      refine lv_icmp_ne (tgt := 278) hx hb dX12_act_271 (by decide) (fun c9 => absurd c56 c9) (fun _ => ?_)
      refine lv_iconst (v := 1) hx hb dX12_act_274 (by decide) ?_
      refine lv_goto (tgt := 279) hx hb dX12_act_275 (by decide) ?_
      refine lv_icmp_ne (tgt := 290) hx hb dX12_act_279 (by decide) (fun _ => ?_) (fun c9 => absurd c9 (by decide))
      exact j_X12_act_290 l dC dI Q N R hx hb hr hml hown hts hlocks hZ hA hK σ _ _ _ hf hP hD hS (lv_sub hl [1] rfl)
    ·
      replace hf := (if_neg c58).symm.trans hf
      refine lv_iconst (v := 1) hx hb dX12_act_258 (by decide) ?_
      refine lv_goto (tgt := 263) hx hb dX12_act_259 (by decide) ?_
      refine lv_aload_n hx hb dX12_act_263 rfl (lv_at hl 1 rfl) ?_
      refine rG_21 hx hb hts i_X12_act_X12 hown hK hP (hts (.fieldLink RX12 84 "StatementRules2Model" "op" "[I") k_X12_act_fieldLink_RX12_84_SRModel_op_I) dX12_act_264 ?_
      refine lv_iload_n hx hb dX12_act_267 rfl (lv_at hl 2 rfl) ?_
      refine rL_21 (v := (σ.a 21 ((x1 : Int32).toNatClampNeg))) hx hb hK hP b1 dX12_act_268 rfl ?_
      refine lv_bipush (v := 11) hx hb dX12_act_269 (by decide) ?_
      refine lv_icmp_ne (tgt := 278) hx hb dX12_act_271 (by decide) (fun c9 => absurd c56 c9) (fun _ => ?_)
      refine lv_iconst (v := 1) hx hb dX12_act_274 (by decide) ?_
      refine lv_goto (tgt := 279) hx hb dX12_act_275 (by decide) ?_
      refine lv_icmp_ne (tgt := 290) hx hb dX12_act_279 (by decide) (fun c9 => absurd (by decide) c9) (fun _ => ?_)
      exact j_X12_act_282 l dC dI Q N R hx hb hr hml hown hts hlocks hZ hA hK σ (σ.a 22 ((x1 : Int32).toNatClampNeg)) _ _ _ hf hP hD hS (lv_sub hl [1, 0] rfl)
  replace hf := (if_neg c56).symm.trans hf
  by_cases c61 : (σ.a 21 ((x1 : Int32).toNatClampNeg)) = 12
  ·
    replace hf := (if_pos c61).symm.trans hf
    refine lv_tableIn (off := 231) (tgt := 244) hx hb dX12_act_13 (by rw [c61]; decide) (by rw [c61]; decide) (by rw [c61]; decide) (by decide) ?_
    refine lv_aload_n hx hb dX12_act_244 rfl (lv_at hl 1 rfl) ?_
    refine rG_94 hx hb hts i_X12_act_X12 hown hK hP (hts (.fieldLink RX12 234 "StatementRules2Model" "vs" "[I") k_X12_act_fieldLink_RX12_234_SRModel_vs_I) dX12_act_245 ?_
    refine lv_aload_n hx hb dX12_act_248 rfl (lv_at hl 1 rfl) ?_
    refine rG_93 (v := (σ.i 93)) hx hb hts i_X12_act_X12 hown hK hP (hts (.fieldLink RX12 589 "StatementRules2Model" "high" "I") k_X12_act_fieldLink_RX12_589_SRModel_high_I) dX12_act_249 rfl ?_
    refine lv_iconst (v := 1) hx hb dX12_act_252 (by decide) ?_
    refine lv_isub hx hb dX12_act_253 ?_
    obtain ⟨b62, hf⟩ := hf_ite hf
    refine rL_94 (v := (σ.a 94 ((((σ.i 93) - 1) : Int32).toNatClampNeg))) hx hb hK hP b62 dX12_act_254 rfl ?_
    refine lv_if_eq (tgt := 262) hx hb dX12_act_255 (by decide) (fun c63 => ?_) (fun c63 => ?_)
    ·
      replace hf := (if_pos c63).symm.trans hf
      refine lv_iconst (v := 0) hx hb dX12_act_262 (by decide) ?_
      refine lv_aload_n hx hb dX12_act_263 rfl (lv_at hl 1 rfl) ?_
      refine rG_21 hx hb hts i_X12_act_X12 hown hK hP (hts (.fieldLink RX12 84 "StatementRules2Model" "op" "[I") k_X12_act_fieldLink_RX12_84_SRModel_op_I) dX12_act_264 ?_
      refine lv_iload_n hx hb dX12_act_267 rfl (lv_at hl 2 rfl) ?_
      refine rL_21 (v := (σ.a 21 ((x1 : Int32).toNatClampNeg))) hx hb hK hP b1 dX12_act_268 rfl ?_
      refine lv_bipush (v := 11) hx hb dX12_act_269 (by decide) ?_
      refine lv_icmp_ne (tgt := 278) hx hb dX12_act_271 (by decide) (fun _ => ?_) (fun c9 => absurd c9 c56)
      refine lv_iconst (v := 0) hx hb dX12_act_278 (by decide) ?_
      refine lv_icmp_ne (tgt := 290) hx hb dX12_act_279 (by decide) (fun c9 => absurd (by decide) c9) (fun _ => ?_)
      exact j_X12_act_282 l dC dI Q N R hx hb hr hml hown hts hlocks hZ hA hK σ (σ.a 22 ((x1 : Int32).toNatClampNeg)) _ _ _ hf hP hD hS (lv_sub hl [1, 0] rfl)
    ·
      replace hf := (if_neg c63).symm.trans hf
      refine lv_iconst (v := 1) hx hb dX12_act_258 (by decide) ?_
      refine lv_goto (tgt := 263) hx hb dX12_act_259 (by decide) ?_
      refine lv_aload_n hx hb dX12_act_263 rfl (lv_at hl 1 rfl) ?_
      refine rG_21 hx hb hts i_X12_act_X12 hown hK hP (hts (.fieldLink RX12 84 "StatementRules2Model" "op" "[I") k_X12_act_fieldLink_RX12_84_SRModel_op_I) dX12_act_264 ?_
      refine lv_iload_n hx hb dX12_act_267 rfl (lv_at hl 2 rfl) ?_
      refine rL_21 (v := (σ.a 21 ((x1 : Int32).toNatClampNeg))) hx hb hK hP b1 dX12_act_268 rfl ?_
      refine lv_bipush (v := 11) hx hb dX12_act_269 (by decide) ?_
      refine lv_icmp_ne (tgt := 278) hx hb dX12_act_271 (by decide) (fun _ => ?_) (fun c9 => absurd c9 c56)
      refine lv_iconst (v := 0) hx hb dX12_act_278 (by decide) ?_
      refine lv_icmp_ne (tgt := 290) hx hb dX12_act_279 (by decide) (fun _ => ?_) (fun c9 => absurd c9 (by decide))
      exact j_X12_act_290 l dC dI Q N R hx hb hr hml hown hts hlocks hZ hA hK σ _ _ _ hf hP hD hS (lv_sub hl [1] rfl)
  replace hf := (if_neg c61).symm.trans hf
  by_cases c66 : (σ.a 21 ((x1 : Int32).toNatClampNeg)) = 13
  ·
    replace hf := (if_pos c66).symm.trans hf
    refine lv_tableIn (off := 290) (tgt := 303) hx hb dX12_act_13 (by rw [c66]; decide) (by rw [c66]; decide) (by rw [c66]; decide) (by decide) ?_
    refine lv_aload_n hx hb dX12_act_303 rfl (lv_at hl 1 rfl) ?_
    refine lv_aload_n hx hb dX12_act_304 rfl (lv_at hl 1 rfl) ?_
    obtain ⟨p67, hcp67, hf⟩ := hf_bind hf
    have hFc := r_free hD hS hA
    refine va_calli (va_runV (As := []) (rest := [.ref Q.h0]) ⟨hx, hb, hml, hown, hts⟩ (c_X12_take l dC dI _ Q N σ p67 hcp67) (cwV 0 hts hX12_act_X12_take_v645 rfl rfl rfl (by decide +kernel) ⟨Nat.le_of_ble_eq_true rfl, Nat.le_of_ble_eq_true rfl⟩) ⟨zPre.blind, va_recv hK hP (ci := 11) (q0 := 0) rfl rfl, zPre.go hZ hP hK hD⟩ rfl rfl hl.1 rfl (lv_room (Nat.le_of_ble_eq_true rfl)) dX12_act_305 ⟨Nat.le_of_ble_eq_true rfl, Nat.le_of_ble_eq_true rfl⟩) hS (fun q _ h => hFc q h) hFc (fun r68 u9 t9 H1 locs ht hvm hw hB hz1 hk1 hS => ?_)
    obtain ⟨hP, hK1, hD1⟩ := hB
    rw [ht] at hP
    have hD := hD1.weaken (fun _ _ _ h => hFc _ h)
    generalize H1 = H at hP hS ⊢
    obtain rfl : r68 = p67.1 := hw
    refine lv_if_ne (tgt := 315) hx hb dX12_act_308 (by decide) (fun c69 => ?_) (fun c69 => ?_)
    ·
      replace hf := (if_neg c69).symm.trans hf
      refine lv_aload_n hx hb dX12_act_315 rfl (lv_at hl 1 rfl) ?_
      refine rG_92 (v := (p67.2.i 92)) hx hb hts i_X12_act_X12 hown hK hP (hts (.fieldLink RX12 618 "StatementRules2Model" "pc" "I") k_X12_act_fieldLink_RX12_618_SRModel_pc_I) dX12_act_316 rfl ?_
      refine rP_92 hx hb hts i_X12_act_X12 hown hK hP hD hS (hts (.fieldLink RX12 618 "StatementRules2Model" "pc" "I") k_X12_act_fieldLink_RX12_618_SRModel_pc_I) dX12_act_319 (fun H locs hP hD hS => ?_)
      exact j_X12_act_322 l dC dI Q N R hx hb hr hml hown hts hlocks hZ hA hK (RS.setI p67.2 92 (p67.2.i 92)) _ _ _ hf hP hD hS (lv_sub hl [] rfl)
    ·
      replace hf := (if_pos c69).symm.trans hf
      refine lv_iload_n hx hb dX12_act_311 rfl (lv_at hl 0 rfl) ?_
      refine lv_goto (tgt := 319) hx hb dX12_act_312 (by decide) ?_
      refine rP_92 hx hb hts i_X12_act_X12 hown hK hP hD hS (hts (.fieldLink RX12 618 "StatementRules2Model" "pc" "I") k_X12_act_fieldLink_RX12_618_SRModel_pc_I) dX12_act_319 (fun H locs hP hD hS => ?_)
      exact j_X12_act_322 l dC dI Q N R hx hb hr hml hown hts hlocks hZ hA hK (RS.setI p67.2 92 (σ.a 22 ((x1 : Int32).toNatClampNeg))) _ _ _ hf hP hD hS (lv_sub hl [] rfl)
  replace hf := (if_neg c66).symm.trans hf
  by_cases c70 : (σ.a 21 ((x1 : Int32).toNatClampNeg)) = 14
  ·
    replace hf := (if_pos c70).symm.trans hf
    refine lv_tableIn (off := 312) (tgt := 325) hx hb dX12_act_13 (by rw [c70]; decide) (by rw [c70]; decide) (by rw [c70]; decide) (by decide) ?_
    refine lv_aload_n hx hb dX12_act_325 rfl (lv_at hl 1 rfl) ?_
    refine lv_aload_n hx hb dX12_act_326 rfl (lv_at hl 1 rfl) ?_
    obtain ⟨p71, hcp71, hf⟩ := hf_bind hf
    have hFc := r_free hD hS hA
    refine va_calli (va_runV (As := []) (rest := [.ref Q.h0]) ⟨hx, hb, hml, hown, hts⟩ (c_X12_take l dC dI _ Q N σ p71 hcp71) (cwV 0 hts hX12_act_X12_take_v645 rfl rfl rfl (by decide +kernel) ⟨Nat.le_of_ble_eq_true rfl, Nat.le_of_ble_eq_true rfl⟩) ⟨zPre.blind, va_recv hK hP (ci := 11) (q0 := 0) rfl rfl, zPre.go hZ hP hK hD⟩ rfl rfl hl.1 rfl (lv_room (Nat.le_of_ble_eq_true rfl)) dX12_act_327 ⟨Nat.le_of_ble_eq_true rfl, Nat.le_of_ble_eq_true rfl⟩) hS (fun q _ h => hFc q h) hFc (fun r72 u9 t9 H1 locs ht hvm hw hB hz1 hk1 hS => ?_)
    obtain ⟨hP, hK1, hD1⟩ := hB
    rw [ht] at hP
    have hD := hD1.weaken (fun _ _ _ h => hFc _ h)
    generalize H1 = H at hP hS ⊢
    obtain rfl : r72 = p71.1 := hw
    refine lv_if_eq (tgt := 337) hx hb dX12_act_330 (by decide) (fun c73 => ?_) (fun c73 => ?_)
    ·
      replace hf := (if_pos c73).symm.trans hf
      refine lv_aload_n hx hb dX12_act_337 rfl (lv_at hl 1 rfl) ?_
      refine rG_92 (v := (p71.2.i 92)) hx hb hts i_X12_act_X12 hown hK hP (hts (.fieldLink RX12 618 "StatementRules2Model" "pc" "I") k_X12_act_fieldLink_RX12_618_SRModel_pc_I) dX12_act_338 rfl ?_
      refine rP_92 hx hb hts i_X12_act_X12 hown hK hP hD hS (hts (.fieldLink RX12 618 "StatementRules2Model" "pc" "I") k_X12_act_fieldLink_RX12_618_SRModel_pc_I) dX12_act_341 (fun H locs hP hD hS => ?_)
      exact j_X12_act_344 l dC dI Q N R hx hb hr hml hown hts hlocks hZ hA hK (RS.setI p71.2 92 (p71.2.i 92)) _ _ _ hf hP hD hS (lv_sub hl [] rfl)
    ·
      replace hf := (if_neg c73).symm.trans hf
      refine lv_iload_n hx hb dX12_act_333 rfl (lv_at hl 0 rfl) ?_
      refine lv_goto (tgt := 341) hx hb dX12_act_334 (by decide) ?_
      refine rP_92 hx hb hts i_X12_act_X12 hown hK hP hD hS (hts (.fieldLink RX12 618 "StatementRules2Model" "pc" "I") k_X12_act_fieldLink_RX12_618_SRModel_pc_I) dX12_act_341 (fun H locs hP hD hS => ?_)
      exact j_X12_act_344 l dC dI Q N R hx hb hr hml hown hts hlocks hZ hA hK (RS.setI p71.2 92 (σ.a 22 ((x1 : Int32).toNatClampNeg))) _ _ _ hf hP hD hS (lv_sub hl [] rfl)
  replace hf := (if_neg c70).symm.trans hf
  by_cases c74 : (σ.a 21 ((x1 : Int32).toNatClampNeg)) = 15
  ·
    replace hf := (if_pos c74).symm.trans hf
    refine lv_tableIn (off := 334) (tgt := 347) hx hb dX12_act_13 (by rw [c74]; decide) (by rw [c74]; decide) (by rw [c74]; decide) (by decide) ?_
    refine lv_aload_n hx hb dX12_act_347 rfl (lv_at hl 1 rfl) ?_
    refine lv_iload_n hx hb dX12_act_348 rfl (lv_at hl 0 rfl) ?_
    refine rP_92 hx hb hts i_X12_act_X12 hown hK hP hD hS (hts (.fieldLink RX12 618 "StatementRules2Model" "pc" "I") k_X12_act_fieldLink_RX12_618_SRModel_pc_I) dX12_act_349 (fun H locs hP hD hS => ?_)
    refine lv_goto (tgt := 373) hx hb dX12_act_352 (by decide) ?_
    obtain rfl := Option.some.inj hf
    exact W.vret hx hb hr (fun t ht hW => ⟨⟨(), rfl, trivial, by rw [ht]; exact hP, va_K.moved hW.alike hK, hD⟩, hS.F ht⟩) hS.2.2 dX12_act_373
  replace hf := (if_neg c74).symm.trans hf
  by_cases c75 : (σ.a 21 ((x1 : Int32).toNatClampNeg)) = 16
  ·
    replace hf := (if_pos c75).symm.trans hf
    refine lv_tableIn (off := 342) (tgt := 355) hx hb dX12_act_13 (by rw [c75]; decide) (by rw [c75]; decide) (by rw [c75]; decide) (by decide) ?_
    refine lv_aload_n hx hb dX12_act_355 rfl (lv_at hl 1 rfl) ?_
    refine lv_iconst (v := 0) hx hb dX12_act_356 (by decide) ?_
    refine lv_aload_n hx hb dX12_act_357 rfl (lv_at hl 1 rfl) ?_
    obtain ⟨p76, hcp76, hf⟩ := hf_bind hf
    have hFc := r_free hD hS hA
    refine va_calli (va_runV (As := []) (rest := [.int 0, .ref Q.h0]) ⟨hx, hb, hml, hown, hts⟩ (c_X12_take l dC dI _ Q N σ p76 hcp76) (cwV 0 hts hX12_act_X12_take_v645 rfl rfl rfl (by decide +kernel) ⟨Nat.le_of_ble_eq_true rfl, Nat.le_of_ble_eq_true rfl⟩) ⟨zPre.blind, va_recv hK hP (ci := 11) (q0 := 0) rfl rfl, zPre.go hZ hP hK hD⟩ rfl rfl hl.1 rfl (lv_room (Nat.le_of_ble_eq_true rfl)) dX12_act_358 ⟨Nat.le_of_ble_eq_true rfl, Nat.le_of_ble_eq_true rfl⟩) hS (fun q _ h => hFc q h) hFc (fun r77 u9 t9 H1 locs ht hvm hw hB hz1 hk1 hS => ?_)
    obtain ⟨hP, hK1, hD1⟩ := hB
    rw [ht] at hP
    have hD := hD1.weaken (fun _ _ _ h => hFc _ h)
    generalize H1 = H at hP hS ⊢
    obtain rfl : r77 = p76.1 := hw
    obtain ⟨p78, hcp78, hf⟩ := hf_bind hf
    have hFc := r_free hD hS hA
    refine va_callv (va_runV (As := [.int 0, .int p76.1]) (rest := []) ⟨hx, hb, hml, hown, hts⟩ (c_X12_row l dC dI _ Q N p76.2 0 p76.1 p78 hcp78) (cwV 2 hts hX12_act_X12_row_v603 rfl rfl rfl (by decide +kernel) ⟨Nat.le_of_ble_eq_true rfl, Nat.le_of_ble_eq_true rfl⟩) ⟨zPre.blind, va_recv hK hP (ci := 11) (q0 := 0) rfl rfl, zPre.go hZ hP hK hD⟩ rfl rfl hl.1 rfl (lv_room (Nat.le_of_ble_eq_true rfl)) dX12_act_361 ⟨Nat.le_of_ble_eq_true rfl, Nat.le_of_ble_eq_true rfl⟩) hS (fun q _ h => hFc q h) hFc (fun u9 t9 H1 locs ht hvm hw hB hz1 hk1 hS => ?_)
    obtain ⟨hP, hK1, hD1⟩ := hB
    rw [ht] at hP
    have hD := hD1.weaken (fun _ _ _ h => hFc _ h)
    generalize H1 = H at hP hS ⊢
    refine lv_goto (tgt := 373) hx hb dX12_act_364 (by decide) ?_
    obtain rfl := Option.some.inj hf
    exact W.vret hx hb hr (fun t ht hW => ⟨⟨(), rfl, trivial, by rw [ht]; exact hP, va_K.moved hW.alike hK, hD⟩, hS.F ht⟩) hS.2.2 dX12_act_373
  replace hf := (if_neg c75).symm.trans hf
  refine lv_tableOut (tgt := 367) hx hb dX12_act_13 (by have := z_ton (a := 1) c2 (by decide); have := z_ton (a := 2) c5 (by decide); have := z_ton (a := 3) c8 (by decide); have := z_ton (a := 4) c12 (by decide); have := z_ton (a := 5) c17 (by decide); have := z_ton (a := 6) c21 (by decide); have := z_ton (a := 7) c23 (by decide); have := z_ton (a := 8) c28 (by decide); have := z_ton (a := 9) c44 (by decide); have := z_ton (a := 10) c51 (by decide); have := z_ton (a := 11) c56 (by decide); have := z_ton (a := 12) c61 (by decide); have := z_ton (a := 13) c66 (by decide); have := z_ton (a := 14) c70 (by decide); have := z_ton (a := 15) c74 (by decide); have := z_ton (a := 16) c75 (by decide); omega) (by decide) ?_
  refine lv_aload_n hx hb dX12_act_367 rfl (lv_at hl 1 rfl) ?_
  refine lv_iload_n hx hb dX12_act_368 rfl (lv_at hl 2 rfl) ?_
  refine lv_iload_n hx hb dX12_act_369 rfl (lv_at hl 0 rfl) ?_
  obtain ⟨p80, hcp80, hf⟩ := hf_bind hf
  have hFc := r_free hD hS hA
  refine va_callv (va_runV (As := [.int x1, .int (σ.a 22 ((x1 : Int32).toNatClampNeg))]) (rest := []) ⟨hx, hb, hml, hown, hts⟩ (c_X12_ends l dC dI _ Q N σ x1 (σ.a 22 ((x1 : Int32).toNatClampNeg)) p80 hcp80) (cwV 2 hts hX12_act_X12_ends_v655 rfl rfl rfl (by decide +kernel) ⟨Nat.le_of_ble_eq_true rfl, Nat.le_of_ble_eq_true rfl⟩) ⟨zPre.blind, va_recv hK hP (ci := 11) (q0 := 0) rfl rfl, zPre.go hZ hP hK hD⟩ rfl rfl hl.1 rfl (lv_room (Nat.le_of_ble_eq_true rfl)) dX12_act_370 ⟨Nat.le_of_ble_eq_true rfl, Nat.le_of_ble_eq_true rfl⟩) hS (fun q _ h => hFc q h) hFc (fun u9 t9 H1 locs ht hvm hw hB hz1 hk1 hS => ?_)
  obtain ⟨hP, hK1, hD1⟩ := hB
  rw [ht] at hP
  have hD := hD1.weaken (fun _ _ _ h => hFc _ h)
  generalize H1 = H at hP hS ⊢
  obtain rfl := Option.some.inj hf
  exact W.vret hx hb hr (fun t ht hW => ⟨⟨(), rfl, trivial, by rw [ht]; exact hP, va_K.moved hW.alike hK, hD⟩, hS.F ht⟩) hS.2.2 dX12_act_373
