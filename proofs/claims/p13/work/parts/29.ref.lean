theorem k_X12_caseNumber_fieldLink_RX12_307_SRModel_tok_I : Cond.fieldLink RX12 307 "StatementRules2Model" "tok" "I" ∈ wzX12_caseNumber := List.mem_cons_of_mem _ (List.mem_append_left _ (List.mem_of_getElem? (i := 0) rfl))
theorem i_X12_caseNumber_X12 : ∀ w ∈ wsX120, w ∈ wzX12_caseNumber := fun _ h => List.mem_cons_of_mem _ (List.mem_append_right _ (List.mem_append_left _ (h)))
theorem k_X12_caseNumber_fieldLink_RX12_314_SRModel_number_I : Cond.fieldLink RX12 314 "StatementRules2Model" "number" "I" ∈ wzX12_caseNumber := List.mem_cons_of_mem _ (List.mem_append_left _ (List.mem_of_getElem? (i := 1) rfl))
theorem k_X12_caseNumber_fieldLink_RX12_87_SRModel_ix_I : Cond.fieldLink RX12 87 "StatementRules2Model" "ix" "[I" ∈ wzX12_caseNumber := List.mem_cons_of_mem _ (List.mem_append_left _ (List.mem_of_getElem? (i := 2) rfl))
theorem k_X12_caseNumber_fieldLink_RX12_180_SRModel_fp_I : Cond.fieldLink RX12 180 "StatementRules2Model" "fp" "[I" ∈ wzX12_caseNumber := List.mem_cons_of_mem _ (List.mem_append_left _ (List.mem_of_getElem? (i := 3) rfl))
theorem k_X12_caseNumber_fieldLink_RX12_291_SRModel_fault_I : Cond.fieldLink RX12 291 "StatementRules2Model" "fault" "I" ∈ wzX12_caseNumber := List.mem_cons_of_mem _ (List.mem_append_left _ (List.mem_of_getElem? (i := 4) rfl))
theorem k_X12_caseNumber_fieldLink_RX12_102_SRModel_entryElse_Z : Cond.fieldLink RX12 102 "StatementRules2Model" "entryElse" "[Z" ∈ wzX12_caseNumber := List.mem_cons_of_mem _ (List.mem_append_left _ (List.mem_of_getElem? (i := 5) rfl))
theorem k_X12_caseNumber_fieldLink_RX12_99_SRModel_entryNext_I : Cond.fieldLink RX12 99 "StatementRules2Model" "entryNext" "[I" ∈ wzX12_caseNumber := List.mem_cons_of_mem _ (List.mem_append_left _ (List.mem_of_getElem? (i := 6) rfl))
theorem k_X12_caseNumber_fieldLink_RX12_93_SRModel_entryValue_I : Cond.fieldLink RX12 93 "StatementRules2Model" "entryValue" "[I" ∈ wzX12_caseNumber := List.mem_cons_of_mem _ (List.mem_append_left _ (List.mem_of_getElem? (i := 7) rfl))
theorem k_X12_caseNumber_fieldLink_RX12_304_SRModel_from_I : Cond.fieldLink RX12 304 "StatementRules2Model" "from" "I" ∈ wzX12_caseNumber := List.mem_cons_of_mem _ (List.mem_append_left _ (List.mem_of_getElem? (i := 8) rfl))
set_option maxHeartbeats 4000000 in
set_option maxRecDepth 100000 in
theorem j_X12_caseNumber_140 {p : Program} {e : Env} {s : State} {m : MethodId} {args : Array Value} {below : List Frame} {meth : Method} {c : Code} {A : Nat → Prop} (l : Launch) (dC : Nat → ClassId) (dI : Nat → Nat → Nat) (Q : RQ) (N : Nat) (R : Int32 × RS) (hx : p.tables.exec = Jvm.exec) (hb : c.code = cX12_caseNumber) (hr : meth.sig.returnType = (some .boolean)) (hml : c.maxLocals = 5) (hown : s.vm.findClass RX12 = some m.cls) (hts : ∀ w ∈ wzX12_caseNumber, w.before args s = true) (hlocks : meth.locks = false) (hZ : zAMB s) (hA : ∀ q : Nat, s.heap.size ≤ q → A q) (hK : va_K (dC, dI) vwCl (rT Q) s) : ∀ (σ : RS) (H : Heap) (locs : List Loc) (ls : Array Slot), f_X12_caseNumber_140 N σ = some R → va_P (dC, dI) vwCl (rW Q σ) H → va_D A (rW Q σ) → va_S A s.heap H locs → lv_has ls 5 [(0, .ref Q.h0)] → W p l e ({ frames := 4, cells := 0, slots := 0, locals := 240 }) s m args below meth c H locs 0 0 (MQ below (va_Qi (fun (r : Int32) (_ : Unit) => r = R.1) (fun (_ : Unit) (t : State) => zPost dC dI A (rW Q R.2) (rT Q) t) A) args s 0 0 A) (F0 m 140 ls []) := by
  intro σ  H locs ls hf hP hD hS hl
  unfold f_X12_caseNumber_140 at hf
  refine lv_aload_n hx hb dX12_caseNumber_140 rfl (lv_at hl 0 rfl) ?_
  refine rG_15 (v := (σ.i 15)) hx hb hts i_X12_caseNumber_X12 hown hK hP (hts (.fieldLink RX12 291 "StatementRules2Model" "fault" "I") k_X12_caseNumber_fieldLink_RX12_291_SRModel_fault_I) dX12_caseNumber_141 rfl ?_
  refine lv_if_ne (tgt := 151) hx hb dX12_caseNumber_144 (by decide) (fun c12 => ?_) (fun c12 => ?_)
  ·
    replace hf := (if_neg c12).symm.trans hf
    refine lv_iconst (v := 0) hx hb dX12_caseNumber_151 (by decide) ?_
    obtain rfl := Option.some.inj hf
    exact W.zret (v := 0) hx hb hr (rfl) (fun t ht hW => ⟨⟨0, (), rfl, rfl, by rw [ht]; exact hP, va_K.moved hW.alike hK, hD⟩, hS.F ht⟩) hS.2.2 dX12_caseNumber_152
  ·
    replace hf := (if_pos c12).symm.trans hf
    refine lv_iconst (v := 1) hx hb dX12_caseNumber_147 (by decide) ?_
    refine lv_goto (tgt := 152) hx hb dX12_caseNumber_148 (by decide) ?_
    obtain rfl := Option.some.inj hf
    exact W.zret (v := 1) hx hb hr (rfl) (fun t ht hW => ⟨⟨1, (), rfl, rfl, by rw [ht]; exact hP, va_K.moved hW.alike hK, hD⟩, hS.F ht⟩) hS.2.2 dX12_caseNumber_152
set_option maxHeartbeats 4000000 in
set_option maxRecDepth 100000 in
theorem j_X12_caseNumber_75 {p : Program} {e : Env} {s : State} {m : MethodId} {args : Array Value} {below : List Frame} {meth : Method} {c : Code} {A : Nat → Prop} (l : Launch) (dC : Nat → ClassId) (dI : Nat → Nat → Nat) (Q : RQ) (N : Nat) (R : Int32 × RS) (hx : p.tables.exec = Jvm.exec) (hb : c.code = cX12_caseNumber) (hr : meth.sig.returnType = (some .boolean)) (hml : c.maxLocals = 5) (hown : s.vm.findClass RX12 = some m.cls) (hts : ∀ w ∈ wzX12_caseNumber, w.before args s = true) (hlocks : meth.locks = false) (hZ : zAMB s) (hA : ∀ q : Nat, s.heap.size ≤ q → A q) (hK : va_K (dC, dI) vwCl (rT Q) s) : ∀ (n9 : Nat), ∀ (σ : RS) (x1 : Int32) (x3 : Int32) (x4 : Int32) (H : Heap) (locs : List Loc) (ls : Array Slot), f_X12_caseNumber_75 N n9 σ x1 x3 x4 = some R → va_P (dC, dI) vwCl (rW Q σ) H → va_D A (rW Q σ) → va_S A s.heap H locs → lv_has ls 5 [(0, .ref Q.h0), (1, .int x1), (3, .int x3), (4, .int x4)] → W p l e ({ frames := 4, cells := 0, slots := 0, locals := 240 }) s m args below meth c H locs 0 0 (MQ below (va_Qi (fun (r : Int32) (_ : Unit) => r = R.1) (fun (_ : Unit) (t : State) => zPost dC dI A (rW Q R.2) (rT Q) t) A) args s 0 0 A) (F0 m 75 ls []) := by
  intro n9
  induction n9 with
  | zero => intro σ x1 x3 x4 H locs ls hf; exact absurd hf (by intro h9; cases h9)
  | succ n9 ih =>
    intro σ x1 x3 x4 H locs ls hf hP hD hS hl
    replace hf : b_X12_caseNumber_75 N (f_X12_caseNumber_75 N n9) σ x1 x3 x4 = some R := hf
    unfold b_X12_caseNumber_75 at hf
    refine lv_iload hx hb dX12_caseNumber_75 (lv_at hl 3 rfl) ?_
    refine lv_if_lt (tgt := 122) hx hb dX12_caseNumber_77 (by decide) (fun c10 => ?_) (fun c10 => ?_)
    ·
      replace hf := (if_pos c10).symm.trans hf
      refine lv_aload_n hx hb dX12_caseNumber_122 rfl (lv_at hl 0 rfl) ?_
      refine rG_15 (v := (σ.i 15)) hx hb hts i_X12_caseNumber_X12 hown hK hP (hts (.fieldLink RX12 291 "StatementRules2Model" "fault" "I") k_X12_caseNumber_fieldLink_RX12_291_SRModel_fault_I) dX12_caseNumber_123 rfl ?_
      refine lv_if_ne (tgt := 140) hx hb dX12_caseNumber_126 (by decide) (fun c11 => ?_) (fun c11 => ?_)
      ·
        replace hf := (if_neg c11).symm.trans hf
        exact j_X12_caseNumber_140 l dC dI Q N R hx hb hr hml hown hts hlocks hZ hA hK σ _ _ _ hf hP hD hS (lv_sub hl [0] rfl)
      ·
        replace hf := (if_pos c11).symm.trans hf
        refine lv_aload_n hx hb dX12_caseNumber_129 rfl (lv_at hl 0 rfl) ?_
        refine lv_iload_n hx hb dX12_caseNumber_130 rfl (lv_at hl 1 rfl) ?_
        refine lv_iload_n hx hb dX12_caseNumber_131 rfl (lv_at hl 2 rfl) ?_
        refine lv_iconst (v := 0) hx hb dX12_caseNumber_132 (by decide) ?_
        obtain ⟨p13, hcp13, hf⟩ := hf_bind hf
        have hFc := r_free hD hS hA
        refine va_callv (va_runV (As := [.int x1, .int x3, .int 0]) (rest := []) ⟨hx, hb, hml, hown, hts⟩ (c_X12_entry l dC dI _ Q N σ x1 x3 0 p13 hcp13) (cwV 3 hts hX12_caseNumber_X12_entry_v481 rfl rfl rfl (by decide +kernel) ⟨Nat.le_of_ble_eq_true rfl, Nat.le_of_ble_eq_true rfl⟩) ⟨zPre.blind, va_recv hK hP (ci := 11) (q0 := 0) rfl rfl, zPre.go hZ hP hK hD⟩ rfl rfl hl.1 rfl (lv_room (Nat.le_of_ble_eq_true rfl)) dX12_caseNumber_133 ⟨Nat.le_of_ble_eq_true rfl, Nat.le_of_ble_eq_true rfl⟩) hS (fun q _ h => hFc q h) hFc (fun u9 t9 H1 locs ht hvm hw hB hz1 hk1 hS => ?_)
        obtain ⟨hP, hK1, hD1⟩ := hB
        rw [ht] at hP
        have hD := hD1.weaken (fun _ _ _ h => hFc _ h)
        generalize H1 = H at hP hS ⊢
        refine lv_aload_n hx hb dX12_caseNumber_136 rfl (lv_at hl 0 rfl) ?_
        obtain ⟨p15, hcp15, hf⟩ := hf_bind hf
        have hFc := r_free hD hS hA
        refine va_callv (va_runV (As := []) (rest := []) ⟨hx, hb, hml, hown, hts⟩ (c_X12_next l dC dI _ Q N p13 p15 hcp15) (cwV 0 hts hX12_caseNumber_X12_next_v345 rfl rfl rfl (by decide +kernel) ⟨Nat.le_of_ble_eq_true rfl, Nat.le_of_ble_eq_true rfl⟩) ⟨zPre.blind, va_recv hK hP (ci := 11) (q0 := 0) rfl rfl, zPre.go hZ hP hK hD⟩ rfl rfl hl.1 rfl (lv_room (Nat.le_of_ble_eq_true rfl)) dX12_caseNumber_137 ⟨Nat.le_of_ble_eq_true rfl, Nat.le_of_ble_eq_true rfl⟩) hS (fun q _ h => hFc q h) hFc (fun u9 t9 H1 locs ht hvm hw hB hz1 hk1 hS => ?_)
        obtain ⟨hP, hK1, hD1⟩ := hB
        rw [ht] at hP
        have hD := hD1.weaken (fun _ _ _ h => hFc _ h)
        generalize H1 = H at hP hS ⊢
        exact j_X12_caseNumber_140 l dC dI Q N R hx hb hr hml hown hts hlocks hZ hA hK p15 _ _ _ hf hP hD hS (lv_sub hl [0] rfl)
    ·
      replace hf := (if_neg c10).symm.trans hf
      refine lv_aload_n hx hb dX12_caseNumber_80 rfl (lv_at hl 0 rfl) ?_
      refine rG_28 hx hb hts i_X12_caseNumber_X12 hown hK hP (hts (.fieldLink RX12 102 "StatementRules2Model" "entryElse" "[Z") k_X12_caseNumber_fieldLink_RX12_102_SRModel_entryElse_Z) dX12_caseNumber_81 ?_
      refine lv_iload hx hb dX12_caseNumber_84 (lv_at hl 3 rfl) ?_
      obtain ⟨b17, hf⟩ := hf_ite hf
      refine rL_28 (v := (σ.a 28 ((x4 : Int32).toNatClampNeg))) hx hb hK hP b17 dX12_caseNumber_86 rfl ?_
      refine lv_if_ne (tgt := 110) hx hb dX12_caseNumber_87 (by decide) (fun c18 => ?_) (fun c18 => ?_)
      ·
        replace hf := (if_neg c18).symm.trans hf
        refine lv_aload_n hx hb dX12_caseNumber_110 rfl (lv_at hl 0 rfl) ?_
        refine rG_27 hx hb hts i_X12_caseNumber_X12 hown hK hP (hts (.fieldLink RX12 99 "StatementRules2Model" "entryNext" "[I") k_X12_caseNumber_fieldLink_RX12_99_SRModel_entryNext_I) dX12_caseNumber_111 ?_
        refine lv_iload hx hb dX12_caseNumber_114 (lv_at hl 3 rfl) ?_
        refine rL_27 (v := (σ.a 27 ((x4 : Int32).toNatClampNeg))) hx hb hK hP b17 dX12_caseNumber_116 rfl ?_
        refine lv_istore (lv' := [(4, .int (σ.a 27 ((x4 : Int32).toNatClampNeg))), (0, .ref Q.h0), (1, .int x1), (3, .int x3)]) hx hb dX12_caseNumber_117 hl (by decide) rfl (fun ls hl => ?_)
        refine lv_goto (tgt := 75) hx hb dX12_caseNumber_119 (by decide) ?_
        exact ih σ x1 x3 (σ.a 27 ((x4 : Int32).toNatClampNeg)) _ _ _ hf hP hD hS (lv_sub hl [1, 2, 3, 0] rfl)
      ·
        replace hf := (if_pos c18).symm.trans hf
        refine lv_aload_n hx hb dX12_caseNumber_90 rfl (lv_at hl 0 rfl) ?_
        refine rG_25 hx hb hts i_X12_caseNumber_X12 hown hK hP (hts (.fieldLink RX12 93 "StatementRules2Model" "entryValue" "[I") k_X12_caseNumber_fieldLink_RX12_93_SRModel_entryValue_I) dX12_caseNumber_91 ?_
        refine lv_iload hx hb dX12_caseNumber_94 (lv_at hl 3 rfl) ?_
        refine rL_25 (v := (σ.a 25 ((x4 : Int32).toNatClampNeg))) hx hb hK hP b17 dX12_caseNumber_96 rfl ?_
        refine lv_iload_n hx hb dX12_caseNumber_97 rfl (lv_at hl 2 rfl) ?_
        refine lv_icmp_ne (tgt := 110) hx hb dX12_caseNumber_98 (by decide) (fun c19 => ?_) (fun c19 => ?_)
        ·
          replace hf := (if_neg c19).symm.trans hf
          refine lv_aload_n hx hb dX12_caseNumber_110 rfl (lv_at hl 0 rfl) ?_
          refine rG_27 hx hb hts i_X12_caseNumber_X12 hown hK hP (hts (.fieldLink RX12 99 "StatementRules2Model" "entryNext" "[I") k_X12_caseNumber_fieldLink_RX12_99_SRModel_entryNext_I) dX12_caseNumber_111 ?_
          refine lv_iload hx hb dX12_caseNumber_114 (lv_at hl 3 rfl) ?_
          refine rL_27 (v := (σ.a 27 ((x4 : Int32).toNatClampNeg))) hx hb hK hP b17 dX12_caseNumber_116 rfl ?_
          refine lv_istore (lv' := [(4, .int (σ.a 27 ((x4 : Int32).toNatClampNeg))), (0, .ref Q.h0), (1, .int x1), (3, .int x3)]) hx hb dX12_caseNumber_117 hl (by decide) rfl (fun ls hl => ?_)
          refine lv_goto (tgt := 75) hx hb dX12_caseNumber_119 (by decide) ?_
          exact ih σ x1 x3 (σ.a 27 ((x4 : Int32).toNatClampNeg)) _ _ _ hf hP hD hS (lv_sub hl [1, 2, 3, 0] rfl)
        ·
          replace hf := (if_pos c19).symm.trans hf
          refine lv_aload_n hx hb dX12_caseNumber_101 rfl (lv_at hl 0 rfl) ?_
          refine lv_iconst (v := 4) hx hb dX12_caseNumber_102 (by decide) ?_
          refine lv_aload_n hx hb dX12_caseNumber_103 rfl (lv_at hl 0 rfl) ?_
          refine rG_11 (v := (σ.i 11)) hx hb hts i_X12_caseNumber_X12 hown hK hP (hts (.fieldLink RX12 304 "StatementRules2Model" "from" "I") k_X12_caseNumber_fieldLink_RX12_304_SRModel_from_I) dX12_caseNumber_104 rfl ?_
          obtain ⟨p20, hcp20, hf⟩ := hf_bind hf
          have hFc := r_free hD hS hA
          refine va_callv (va_runV (As := [.int 4, .int (σ.i 11)]) (rest := []) ⟨hx, hb, hml, hown, hts⟩ (c_X12_fail l dC dI _ Q N σ 4 (σ.i 11) p20 hcp20) (cwV 2 hts hX12_caseNumber_X12_fail_v337 rfl rfl rfl (by decide +kernel) ⟨Nat.le_of_ble_eq_true rfl, Nat.le_of_ble_eq_true rfl⟩) ⟨zPre.blind, va_recv hK hP (ci := 11) (q0 := 0) rfl rfl, zPre.go hZ hP hK hD⟩ rfl rfl hl.1 rfl (lv_room (Nat.le_of_ble_eq_true rfl)) dX12_caseNumber_107 ⟨Nat.le_of_ble_eq_true rfl, Nat.le_of_ble_eq_true rfl⟩) hS (fun q _ h => hFc q h) hFc (fun u9 t9 H1 locs ht hvm hw hB hz1 hk1 hS => ?_)
          obtain ⟨hP, hK1, hD1⟩ := hB
          rw [ht] at hP
          have hD := hD1.weaken (fun _ _ _ h => hFc _ h)
          generalize H1 = H at hP hS ⊢
          refine lv_aload_n hx hb dX12_caseNumber_110 rfl (lv_at hl 0 rfl) ?_
          refine rG_27 hx hb hts i_X12_caseNumber_X12 hown hK hP (hts (.fieldLink RX12 99 "StatementRules2Model" "entryNext" "[I") k_X12_caseNumber_fieldLink_RX12_99_SRModel_entryNext_I) dX12_caseNumber_111 ?_
          refine lv_iload hx hb dX12_caseNumber_114 (lv_at hl 3 rfl) ?_
          refine rL_27 (v := (p20.a 27 ((x4 : Int32).toNatClampNeg))) hx hb hK hP b17 dX12_caseNumber_116 rfl ?_
          refine lv_istore (lv' := [(4, .int (p20.a 27 ((x4 : Int32).toNatClampNeg))), (0, .ref Q.h0), (1, .int x1), (3, .int x3)]) hx hb dX12_caseNumber_117 hl (by decide) rfl (fun ls hl => ?_)
          refine lv_goto (tgt := 75) hx hb dX12_caseNumber_119 (by decide) ?_
          exact ih p20 x1 x3 (p20.a 27 ((x4 : Int32).toNatClampNeg)) _ _ _ hf hP hD hS (lv_sub hl [1, 2, 3, 0] rfl)
set_option maxHeartbeats 4000000 in
set_option maxRecDepth 100000 in
theorem j_X12_caseNumber_62 {p : Program} {e : Env} {s : State} {m : MethodId} {args : Array Value} {below : List Frame} {meth : Method} {c : Code} {A : Nat → Prop} (l : Launch) (dC : Nat → ClassId) (dI : Nat → Nat → Nat) (Q : RQ) (N : Nat) (R : Int32 × RS) (hx : p.tables.exec = Jvm.exec) (hb : c.code = cX12_caseNumber) (hr : meth.sig.returnType = (some .boolean)) (hml : c.maxLocals = 5) (hown : s.vm.findClass RX12 = some m.cls) (hts : ∀ w ∈ wzX12_caseNumber, w.before args s = true) (hlocks : meth.locks = false) (hZ : zAMB s) (hA : ∀ q : Nat, s.heap.size ≤ q → A q) (hK : va_K (dC, dI) vwCl (rT Q) s) : ∀ (σ : RS) (x1 : Int32) (x3 : Int32) (H : Heap) (locs : List Loc) (ls : Array Slot), f_X12_caseNumber_62 N σ x1 x3 = some R → va_P (dC, dI) vwCl (rW Q σ) H → va_D A (rW Q σ) → va_S A s.heap H locs → lv_has ls 5 [(0, .ref Q.h0), (1, .int x1), (3, .int x3)] → W p l e ({ frames := 4, cells := 0, slots := 0, locals := 240 }) s m args below meth c H locs 0 0 (MQ below (va_Qi (fun (r : Int32) (_ : Unit) => r = R.1) (fun (_ : Unit) (t : State) => zPost dC dI A (rW Q R.2) (rT Q) t) A) args s 0 0 A) (F0 m 62 ls []) := by
  intro σ x1 x3 H locs ls hf hP hD hS hl
  unfold f_X12_caseNumber_62 at hf
  refine lv_aload_n hx hb dX12_caseNumber_62 rfl (lv_at hl 0 rfl) ?_
  refine rG_22 hx hb hts i_X12_caseNumber_X12 hown hK hP (hts (.fieldLink RX12 87 "StatementRules2Model" "ix" "[I") k_X12_caseNumber_fieldLink_RX12_87_SRModel_ix_I) dX12_caseNumber_63 ?_
  refine lv_aload_n hx hb dX12_caseNumber_66 rfl (lv_at hl 0 rfl) ?_
  refine rG_66 hx hb hts i_X12_caseNumber_X12 hown hK hP (hts (.fieldLink RX12 180 "StatementRules2Model" "fp" "[I") k_X12_caseNumber_fieldLink_RX12_180_SRModel_fp_I) dX12_caseNumber_67 ?_
  refine lv_iload_n hx hb dX12_caseNumber_70 rfl (lv_at hl 1 rfl) ?_
  obtain ⟨b8, hf⟩ := hf_ite hf
  refine rL_66 (v := (σ.a 66 ((x1 : Int32).toNatClampNeg))) hx hb hK hP b8 dX12_caseNumber_71 rfl ?_
  obtain ⟨b9, hf⟩ := hf_ite hf
  refine rL_22 (v := (σ.a 22 (((σ.a 66 ((x1 : Int32).toNatClampNeg)) : Int32).toNatClampNeg))) hx hb hK hP b9 dX12_caseNumber_72 rfl ?_
  refine lv_istore (lv' := [(4, .int (σ.a 22 (((σ.a 66 ((x1 : Int32).toNatClampNeg)) : Int32).toNatClampNeg))), (0, .ref Q.h0), (1, .int x1), (3, .int x3)]) hx hb dX12_caseNumber_73 hl (by decide) rfl (fun ls hl => ?_)
  exact j_X12_caseNumber_75 l dC dI Q N R hx hb hr hml hown hts hlocks hZ hA hK N σ x1 x3 (σ.a 22 (((σ.a 66 ((x1 : Int32).toNatClampNeg)) : Int32).toNatClampNeg)) _ _ _ hf hP hD hS (lv_sub hl [1, 2, 3, 0] rfl)
set_option maxHeartbeats 4000000 in
set_option maxRecDepth 100000 in
theorem j_X12_caseNumber_45 {p : Program} {e : Env} {s : State} {m : MethodId} {args : Array Value} {below : List Frame} {meth : Method} {c : Code} {A : Nat → Prop} (l : Launch) (dC : Nat → ClassId) (dI : Nat → Nat → Nat) (Q : RQ) (N : Nat) (R : Int32 × RS) (hx : p.tables.exec = Jvm.exec) (hb : c.code = cX12_caseNumber) (hr : meth.sig.returnType = (some .boolean)) (hml : c.maxLocals = 5) (hown : s.vm.findClass RX12 = some m.cls) (hts : ∀ w ∈ wzX12_caseNumber, w.before args s = true) (hlocks : meth.locks = false) (hZ : zAMB s) (hA : ∀ q : Nat, s.heap.size ≤ q → A q) (hK : va_K (dC, dI) vwCl (rT Q) s) : ∀ (σ : RS) (x1 : Int32) (x2 : Int32) (H : Heap) (locs : List Loc) (ls : Array Slot), f_X12_caseNumber_45 N σ x1 x2 = some R → va_P (dC, dI) vwCl (rW Q σ) H → va_D A (rW Q σ) → va_S A s.heap H locs → lv_has ls 5 [(0, .ref Q.h0), (1, .int x1), (2, .int x2)] → W p l e ({ frames := 4, cells := 0, slots := 0, locals := 240 }) s m args below meth c H locs 0 0 (MQ below (va_Qi (fun (r : Int32) (_ : Unit) => r = R.1) (fun (_ : Unit) (t : State) => zPost dC dI A (rW Q R.2) (rT Q) t) A) args s 0 0 A) (F0 m 45 ls []) := by
  intro σ x1 x2 H locs ls hf hP hD hS hl
  unfold f_X12_caseNumber_45 at hf
  refine lv_iload_n hx hb dX12_caseNumber_45 rfl (lv_at hl 2 rfl) ?_
  refine lv_if_eq (tgt := 57) hx hb dX12_caseNumber_46 (by decide) (fun c7 => ?_) (fun c7 => ?_)
  ·
    replace hf := (if_pos c7).symm.trans hf
    refine lv_aload_n hx hb dX12_caseNumber_57 rfl (lv_at hl 0 rfl) ?_
    refine rG_14 (v := (σ.i 14)) hx hb hts i_X12_caseNumber_X12 hown hK hP (hts (.fieldLink RX12 314 "StatementRules2Model" "number" "I") k_X12_caseNumber_fieldLink_RX12_314_SRModel_number_I) dX12_caseNumber_58 rfl ?_
    refine lv_istore_n (lv' := [(3, .int (σ.i 14)), (0, .ref Q.h0), (1, .int x1), (2, .int x2)]) hx hb dX12_caseNumber_61 rfl hl (by decide) rfl (fun ls hl => ?_)
    exact j_X12_caseNumber_62 l dC dI Q N R hx hb hr hml hown hts hlocks hZ hA hK σ x1 (σ.i 14) _ _ _ hf hP hD hS (lv_sub hl [1, 2, 0] rfl)
  ·
    replace hf := (if_neg c7).symm.trans hf
    refine lv_aload_n hx hb dX12_caseNumber_49 rfl (lv_at hl 0 rfl) ?_
    refine rG_14 (v := (σ.i 14)) hx hb hts i_X12_caseNumber_X12 hown hK hP (hts (.fieldLink RX12 314 "StatementRules2Model" "number" "I") k_X12_caseNumber_fieldLink_RX12_314_SRModel_number_I) dX12_caseNumber_50 rfl ?_
    refine lv_ineg hx hb dX12_caseNumber_53 ?_
    refine lv_goto (tgt := 61) hx hb dX12_caseNumber_54 (by decide) ?_
    refine lv_istore_n (lv' := [(3, .int (-(σ.i 14))), (0, .ref Q.h0), (1, .int x1), (2, .int x2)]) hx hb dX12_caseNumber_61 rfl hl (by decide) rfl (fun ls hl => ?_)
    exact j_X12_caseNumber_62 l dC dI Q N R hx hb hr hml hown hts hlocks hZ hA hK σ x1 (-(σ.i 14)) _ _ _ hf hP hD hS (lv_sub hl [1, 2, 0] rfl)
set_option maxHeartbeats 4000000 in
set_option maxRecDepth 100000 in
theorem j_X12_caseNumber_43 {p : Program} {e : Env} {s : State} {m : MethodId} {args : Array Value} {below : List Frame} {meth : Method} {c : Code} {A : Nat → Prop} (l : Launch) (dC : Nat → ClassId) (dI : Nat → Nat → Nat) (Q : RQ) (N : Nat) (R : Int32 × RS) (hx : p.tables.exec = Jvm.exec) (hb : c.code = cX12_caseNumber) (hr : meth.sig.returnType = (some .boolean)) (hml : c.maxLocals = 5) (hown : s.vm.findClass RX12 = some m.cls) (hts : ∀ w ∈ wzX12_caseNumber, w.before args s = true) (hlocks : meth.locks = false) (hZ : zAMB s) (hA : ∀ q : Nat, s.heap.size ≤ q → A q) (hK : va_K (dC, dI) vwCl (rT Q) s) : ∀ (σ : RS) (H : Heap) (locs : List Loc) (ls : Array Slot), f_X12_caseNumber_43 N σ = some R → va_P (dC, dI) vwCl (rW Q σ) H → va_D A (rW Q σ) → va_S A s.heap H locs → lv_has ls 5 [] → W p l e ({ frames := 4, cells := 0, slots := 0, locals := 240 }) s m args below meth c H locs 0 0 (MQ below (va_Qi (fun (r : Int32) (_ : Unit) => r = R.1) (fun (_ : Unit) (t : State) => zPost dC dI A (rW Q R.2) (rT Q) t) A) args s 0 0 A) (F0 m 43 ls []) := by
  intro σ  H locs ls hf hP hD hS hl
  unfold f_X12_caseNumber_43 at hf
  refine lv_iconst (v := 0) hx hb dX12_caseNumber_43 (by decide) ?_
  obtain rfl := Option.some.inj hf
  exact W.zret (v := 0) hx hb hr (rfl) (fun t ht hW => ⟨⟨0, (), rfl, rfl, by rw [ht]; exact hP, va_K.moved hW.alike hK, hD⟩, hS.F ht⟩) hS.2.2 dX12_caseNumber_44
set_option maxHeartbeats 4000000 in
set_option maxRecDepth 100000 in
theorem j_X12_caseNumber_23 {p : Program} {e : Env} {s : State} {m : MethodId} {args : Array Value} {below : List Frame} {meth : Method} {c : Code} {A : Nat → Prop} (l : Launch) (dC : Nat → ClassId) (dI : Nat → Nat → Nat) (Q : RQ) (N : Nat) (R : Int32 × RS) (hx : p.tables.exec = Jvm.exec) (hb : c.code = cX12_caseNumber) (hr : meth.sig.returnType = (some .boolean)) (hml : c.maxLocals = 5) (hown : s.vm.findClass RX12 = some m.cls) (hts : ∀ w ∈ wzX12_caseNumber, w.before args s = true) (hlocks : meth.locks = false) (hZ : zAMB s) (hA : ∀ q : Nat, s.heap.size ≤ q → A q) (hK : va_K (dC, dI) vwCl (rT Q) s) : ∀ (σ : RS) (x1 : Int32) (x2 : Int32) (H : Heap) (locs : List Loc) (ls : Array Slot), f_X12_caseNumber_23 N σ x1 x2 = some R → va_P (dC, dI) vwCl (rW Q σ) H → va_D A (rW Q σ) → va_S A s.heap H locs → lv_has ls 5 [(0, .ref Q.h0), (1, .int x1), (2, .int x2)] → W p l e ({ frames := 4, cells := 0, slots := 0, locals := 240 }) s m args below meth c H locs 0 0 (MQ below (va_Qi (fun (r : Int32) (_ : Unit) => r = R.1) (fun (_ : Unit) (t : State) => zPost dC dI A (rW Q R.2) (rT Q) t) A) args s 0 0 A) (F0 m 23 ls []) := by
  intro σ x1 x2 H locs ls hf hP hD hS hl
  unfold f_X12_caseNumber_23 at hf
  refine lv_aload_n hx hb dX12_caseNumber_23 rfl (lv_at hl 0 rfl) ?_
  refine lv_aload_n hx hb dX12_caseNumber_24 rfl (lv_at hl 0 rfl) ?_
  refine rG_10 (v := (σ.i 10)) hx hb hts i_X12_caseNumber_X12 hown hK hP (hts (.fieldLink RX12 307 "StatementRules2Model" "tok" "I") k_X12_caseNumber_fieldLink_RX12_307_SRModel_tok_I) dX12_caseNumber_25 rfl ?_
  refine lv_iconst (v := 1) hx hb dX12_caseNumber_28 (by decide) ?_
  refine lv_icmp_ne (tgt := 36) hx hb dX12_caseNumber_29 (by decide) (fun c3 => ?_) (fun c3 => ?_)
  ·
    replace hf := (if_neg c3).symm.trans hf
    refine lv_iconst (v := 0) hx hb dX12_caseNumber_36 (by decide) ?_
    obtain ⟨p4, hcp4, hf⟩ := hf_bind hf
    have hFc := r_free hD hS hA
    refine va_calli (va_runV (As := [.int 0]) (rest := []) ⟨hx, hb, hml, hown, hts⟩ (c_X12_can l dC dI _ Q N σ 0 p4 hcp4) (cwV 1 hts hX12_caseNumber_X12_can_v341 rfl rfl rfl (by decide +kernel) ⟨Nat.le_of_ble_eq_true rfl, Nat.le_of_ble_eq_true rfl⟩) ⟨zPre.blind, va_recv hK hP (ci := 11) (q0 := 0) rfl rfl, zPre.go hZ hP hK hD⟩ rfl rfl hl.1 rfl (lv_room (Nat.le_of_ble_eq_true rfl)) dX12_caseNumber_37 ⟨Nat.le_of_ble_eq_true rfl, Nat.le_of_ble_eq_true rfl⟩) hS (fun q _ h => hFc q h) hFc (fun r5 u9 t9 H1 locs ht hvm hw hB hz1 hk1 hS => ?_)
    obtain ⟨hP, hK1, hD1⟩ := hB
    rw [ht] at hP
    have hD := hD1.weaken (fun _ _ _ h => hFc _ h)
    generalize H1 = H at hP hS ⊢
    obtain rfl : r5 = p4.1 := hw
    refine lv_if_ne (tgt := 45) hx hb dX12_caseNumber_40 (by decide) (fun c6 => ?_) (fun c6 => ?_)
    ·
      replace hf := (if_neg c6).symm.trans hf
      exact j_X12_caseNumber_45 l dC dI Q N R hx hb hr hml hown hts hlocks hZ hA hK p4.2 x1 x2 _ _ _ hf hP hD hS (lv_sub hl [0, 1, 2] rfl)
    ·
      replace hf := (if_pos c6).symm.trans hf
      exact j_X12_caseNumber_43 l dC dI Q N R hx hb hr hml hown hts hlocks hZ hA hK p4.2 _ _ _ hf hP hD hS (lv_sub hl [] rfl)
  ·
    replace hf := (if_pos c3).symm.trans hf
    refine lv_iconst (v := 1) hx hb dX12_caseNumber_32 (by decide) ?_
    refine lv_goto (tgt := 37) hx hb dX12_caseNumber_33 (by decide) ?_
    obtain ⟨p22, hcp22, hf⟩ := hf_bind hf
    have hFc := r_free hD hS hA
    refine va_calli (va_runV (As := [.int 1]) (rest := []) ⟨hx, hb, hml, hown, hts⟩ (c_X12_can l dC dI _ Q N σ 1 p22 hcp22) (cwV 1 hts hX12_caseNumber_X12_can_v341 rfl rfl rfl (by decide +kernel) ⟨Nat.le_of_ble_eq_true rfl, Nat.le_of_ble_eq_true rfl⟩) ⟨zPre.blind, va_recv hK hP (ci := 11) (q0 := 0) rfl rfl, zPre.go hZ hP hK hD⟩ rfl rfl hl.1 rfl (lv_room (Nat.le_of_ble_eq_true rfl)) dX12_caseNumber_37 ⟨Nat.le_of_ble_eq_true rfl, Nat.le_of_ble_eq_true rfl⟩) hS (fun q _ h => hFc q h) hFc (fun r23 u9 t9 H1 locs ht hvm hw hB hz1 hk1 hS => ?_)
    obtain ⟨hP, hK1, hD1⟩ := hB
    rw [ht] at hP
    have hD := hD1.weaken (fun _ _ _ h => hFc _ h)
    generalize H1 = H at hP hS ⊢
    obtain rfl : r23 = p22.1 := hw
    refine lv_if_ne (tgt := 45) hx hb dX12_caseNumber_40 (by decide) (fun c24 => ?_) (fun c24 => ?_)
    ·
      replace hf := (if_neg c24).symm.trans hf
      exact j_X12_caseNumber_45 l dC dI Q N R hx hb hr hml hown hts hlocks hZ hA hK p22.2 x1 x2 _ _ _ hf hP hD hS (lv_sub hl [0, 1, 2] rfl)
    ·
      replace hf := (if_pos c24).symm.trans hf
      exact j_X12_caseNumber_43 l dC dI Q N R hx hb hr hml hown hts hlocks hZ hA hK p22.2 _ _ _ hf hP hD hS (lv_sub hl [] rfl)
set_option maxHeartbeats 4000000 in
set_option maxRecDepth 100000 in
theorem j_X12_caseNumber_15 {p : Program} {e : Env} {s : State} {m : MethodId} {args : Array Value} {below : List Frame} {meth : Method} {c : Code} {A : Nat → Prop} (l : Launch) (dC : Nat → ClassId) (dI : Nat → Nat → Nat) (Q : RQ) (N : Nat) (R : Int32 × RS) (hx : p.tables.exec = Jvm.exec) (hb : c.code = cX12_caseNumber) (hr : meth.sig.returnType = (some .boolean)) (hml : c.maxLocals = 5) (hown : s.vm.findClass RX12 = some m.cls) (hts : ∀ w ∈ wzX12_caseNumber, w.before args s = true) (hlocks : meth.locks = false) (hZ : zAMB s) (hA : ∀ q : Nat, s.heap.size ≤ q → A q) (hK : va_K (dC, dI) vwCl (rT Q) s) : ∀ (σ : RS) (x1 : Int32) (x2 : Int32) (H : Heap) (locs : List Loc) (ls : Array Slot), f_X12_caseNumber_15 N σ x1 x2 = some R → va_P (dC, dI) vwCl (rW Q σ) H → va_D A (rW Q σ) → va_S A s.heap H locs → lv_has ls 5 [(0, .ref Q.h0), (1, .int x1), (2, .int x2)] → W p l e ({ frames := 4, cells := 0, slots := 0, locals := 240 }) s m args below meth c H locs 0 0 (MQ below (va_Qi (fun (r : Int32) (_ : Unit) => r = R.1) (fun (_ : Unit) (t : State) => zPost dC dI A (rW Q R.2) (rT Q) t) A) args s 0 0 A) (F0 m 15 ls []) := by
  intro σ x1 x2 H locs ls hf hP hD hS hl
  unfold f_X12_caseNumber_15 at hf
  refine lv_iload_n hx hb dX12_caseNumber_15 rfl (lv_at hl 2 rfl) ?_
  refine lv_if_eq (tgt := 23) hx hb dX12_caseNumber_16 (by decide) (fun c2 => ?_) (fun c2 => ?_)
  ·
    replace hf := (if_pos c2).symm.trans hf
    exact j_X12_caseNumber_23 l dC dI Q N R hx hb hr hml hown hts hlocks hZ hA hK σ x1 x2 _ _ _ hf hP hD hS (lv_sub hl [0, 1, 2] rfl)
  ·
    replace hf := (if_neg c2).symm.trans hf
    refine lv_aload_n hx hb dX12_caseNumber_19 rfl (lv_at hl 0 rfl) ?_
    obtain ⟨p25, hcp25, hf⟩ := hf_bind hf
    have hFc := r_free hD hS hA
    refine va_callv (va_runV (As := []) (rest := []) ⟨hx, hb, hml, hown, hts⟩ (c_X12_next l dC dI _ Q N σ p25 hcp25) (cwV 0 hts hX12_caseNumber_X12_next_v345 rfl rfl rfl (by decide +kernel) ⟨Nat.le_of_ble_eq_true rfl, Nat.le_of_ble_eq_true rfl⟩) ⟨zPre.blind, va_recv hK hP (ci := 11) (q0 := 0) rfl rfl, zPre.go hZ hP hK hD⟩ rfl rfl hl.1 rfl (lv_room (Nat.le_of_ble_eq_true rfl)) dX12_caseNumber_20 ⟨Nat.le_of_ble_eq_true rfl, Nat.le_of_ble_eq_true rfl⟩) hS (fun q _ h => hFc q h) hFc (fun u9 t9 H1 locs ht hvm hw hB hz1 hk1 hS => ?_)
    obtain ⟨hP, hK1, hD1⟩ := hB
    rw [ht] at hP
    have hD := hD1.weaken (fun _ _ _ h => hFc _ h)
    generalize H1 = H at hP hS ⊢
    exact j_X12_caseNumber_23 l dC dI Q N R hx hb hr hml hown hts hlocks hZ hA hK p25 x1 x2 _ _ _ hf hP hD hS (lv_sub hl [0, 1, 2] rfl)
set_option maxHeartbeats 4000000 in
set_option maxRecDepth 100000 in
theorem c_X12_caseNumber (l : Launch) (dC : Nat → ClassId) (dI : Nat → Nat → Nat) (sz : Nat) (Q : RQ) (N : Nat) (σ : RS) (x1 : Int32) (R : Int32 × RS) (hf : f_X12_caseNumber N σ x1 = some R) : Met l yX12_caseNumber wzX12_caseNumber ({ frames := 4, cells := 0, slots := 0, locals := 240 }) (va_Pc [.ref Q.h0, .int x1] (zPre dC dI sz (rW Q σ) (rT Q))) (va_Qi (fun (r : Int32) (_ : Unit) => r = R.1) (fun (_ : Unit) (t : State) => zPost dC dI (va_A (rW Q σ) sz) (rW Q R.2) (rT Q) t) (va_A (rW Q σ) sz)) 0 0 (va_A (rW Q σ) sz) := by
  refine Met.ofW (cc := cX12_caseNumber) (maxL := 5) (ret := (some .boolean)) (by decide) rfl ?_
  intro p e s m args below meth c s₁ B hml hv
  obtain ⟨rfl, hsz, hZ, hP, hK, hD0⟩ := hv
  have hx := B.exec
  have hb := B.bytes
  have hr := B.returns
  have hts := atoms_spec (ws := wzX12_caseNumber) B.pre
  have hown : s.vm.findClass RX12 = some m.cls := findClass_of_methodNamed B.named
  have hlocks := B.notSynchronized
  subst hsz
  have hD := hD0.self (sz := s.heap.size)
  generalize hAe : va_A (rW Q σ) s.heap.size = A at hD ⊢
  have hA : ∀ q : Nat, s.heap.size ≤ q → A q := fun q h => by rw [← hAe]; exact Or.inr h
  have hS : va_S A s.heap s.heap [] := va_S.rf
  have hl := lv_entry ([.ref Q.h0, .int x1]) (n := 5) (Nat.le_of_ble_eq_true rfl)
  rw [lg_entry_eq]
  generalize (lg_sl ([.ref Q.h0, .int x1]) ++ List.replicate (5 - (lg_sl ([.ref Q.h0, .int x1])).length) Slot.unset).toArray = ls at hl ⊢
  have hl : lv_has ls 5 [(0, .ref Q.h0), (1, .int x1)] := hl
  unfold f_X12_caseNumber at hf
  refine lv_aload_n hx hb dX12_caseNumber_0 rfl (lv_at hl 0 rfl) ?_
  refine rG_10 (v := (σ.i 10)) hx hb hts i_X12_caseNumber_X12 hown hK hP (hts (.fieldLink RX12 307 "StatementRules2Model" "tok" "I") k_X12_caseNumber_fieldLink_RX12_307_SRModel_tok_I) dX12_caseNumber_1 rfl ?_
  refine lv_bipush (v := 45) hx hb dX12_caseNumber_4 (by decide) ?_
  refine lv_icmp_ne (tgt := 13) hx hb dX12_caseNumber_6 (by decide) (fun c1 => ?_) (fun c1 => ?_)
  ·
    replace hf := (if_neg c1).symm.trans hf
    refine lv_iconst (v := 0) hx hb dX12_caseNumber_13 (by decide) ?_
    refine lv_istore_n (lv' := [(2, .int 0), (0, .ref Q.h0), (1, .int x1)]) hx hb dX12_caseNumber_14 rfl hl (by decide) rfl (fun ls hl => ?_)
    exact j_X12_caseNumber_15 l dC dI Q N R hx hb hr hml hown hts hlocks hZ hA hK σ x1 0 _ _ _ hf hP hD hS (lv_sub hl [1, 2, 0] rfl)
  ·
    replace hf := (if_pos c1).symm.trans hf
    refine lv_iconst (v := 1) hx hb dX12_caseNumber_9 (by decide) ?_
    refine lv_goto (tgt := 14) hx hb dX12_caseNumber_10 (by decide) ?_
    refine lv_istore_n (lv' := [(2, .int 1), (0, .ref Q.h0), (1, .int x1)]) hx hb dX12_caseNumber_14 rfl hl (by decide) rfl (fun ls hl => ?_)
    exact j_X12_caseNumber_15 l dC dI Q N R hx hb hr hml hown hts hlocks hZ hA hK σ x1 1 _ _ _ hf hP hD hS (lv_sub hl [1, 2, 0] rfl)
theorem k_X12_groups_fieldLink_RX12_177_SRModel_fs_I : Cond.fieldLink RX12 177 "StatementRules2Model" "fs" "[I" ∈ wzX12_groups := List.mem_cons_of_mem _ (List.mem_append_left _ (List.mem_of_getElem? (i := 0) rfl))
theorem i_X12_groups_X12 : ∀ w ∈ wsX120, w ∈ wzX12_groups := fun _ h => List.mem_cons_of_mem _ (List.mem_append_right _ (List.mem_append_left _ (h)))
theorem k_X12_groups_fieldLink_RX12_180_SRModel_fp_I : Cond.fieldLink RX12 180 "StatementRules2Model" "fp" "[I" ∈ wzX12_groups := List.mem_cons_of_mem _ (List.mem_append_left _ (List.mem_of_getElem? (i := 1) rfl))
theorem k_X12_groups_fieldLink_RX12_183_SRModel_fq_I : Cond.fieldLink RX12 183 "StatementRules2Model" "fq" "[I" ∈ wzX12_groups := List.mem_cons_of_mem _ (List.mem_append_left _ (List.mem_of_getElem? (i := 2) rfl))
theorem k_X12_groups_fieldLink_RX12_186_SRModel_fr_I : Cond.fieldLink RX12 186 "StatementRules2Model" "fr" "[I" ∈ wzX12_groups := List.mem_cons_of_mem _ (List.mem_append_left _ (List.mem_of_getElem? (i := 3) rfl))
theorem k_X12_groups_fieldLink_RX12_192_SRModel_fw_I : Cond.fieldLink RX12 192 "StatementRules2Model" "fw" "[I" ∈ wzX12_groups := List.mem_cons_of_mem _ (List.mem_append_left _ (List.mem_of_getElem? (i := 4) rfl))
theorem k_X12_groups_fieldLink_RX12_195_SRModel_fx_I : Cond.fieldLink RX12 195 "StatementRules2Model" "fx" "[I" ∈ wzX12_groups := List.mem_cons_of_mem _ (List.mem_append_left _ (List.mem_of_getElem? (i := 5) rfl))
theorem k_X12_groups_fieldLink_RX12_361_SRModel_seen_I : Cond.fieldLink RX12 361 "StatementRules2Model" "seen" "I" ∈ wzX12_groups := List.mem_cons_of_mem _ (List.mem_append_left _ (List.mem_of_getElem? (i := 6) rfl))
theorem k_X12_groups_fieldLink_RX12_198_SRModel_fy_I : Cond.fieldLink RX12 198 "StatementRules2Model" "fy" "[I" ∈ wzX12_groups := List.mem_cons_of_mem _ (List.mem_append_left _ (List.mem_of_getElem? (i := 7) rfl))
theorem k_X12_groups_fieldLink_RX12_307_SRModel_tok_I : Cond.fieldLink RX12 307 "StatementRules2Model" "tok" "I" ∈ wzX12_groups := List.mem_cons_of_mem _ (List.mem_append_left _ (List.mem_of_getElem? (i := 8) rfl))
theorem k_X12_groups_fieldLink_RX12_90_SRModel_iy_I : Cond.fieldLink RX12 90 "StatementRules2Model" "iy" "[I" ∈ wzX12_groups := List.mem_cons_of_mem _ (List.mem_append_left _ (List.mem_of_getElem? (i := 9) rfl))
theorem k_X12_groups_fieldLink_RX12_358_SRModel_codes_I : Cond.fieldLink RX12 358 "StatementRules2Model" "codes" "I" ∈ wzX12_groups := List.mem_cons_of_mem _ (List.mem_append_left _ (List.mem_of_getElem? (i := 10) rfl))
theorem k_X12_groups_fieldLink_RX12_147_SRModel_breaks_I : Cond.fieldLink RX12 147 "StatementRules2Model" "breaks" "[I" ∈ wzX12_groups := List.mem_cons_of_mem _ (List.mem_append_left _ (List.mem_of_getElem? (i := 11) rfl))
theorem k_X12_groups_fieldLink_RX12_367_SRModel_goals_I : Cond.fieldLink RX12 367 "StatementRules2Model" "goals" "I" ∈ wzX12_groups := List.mem_cons_of_mem _ (List.mem_append_left _ (List.mem_of_getElem? (i := 12) rfl))
theorem k_X12_groups_fieldLink_RX12_153_SRModel_broken_Z : Cond.fieldLink RX12 153 "StatementRules2Model" "broken" "[Z" ∈ wzX12_groups := List.mem_cons_of_mem _ (List.mem_append_left _ (List.mem_of_getElem? (i := 13) rfl))
theorem k_X12_groups_fieldLink_RX12_304_SRModel_from_I : Cond.fieldLink RX12 304 "StatementRules2Model" "from" "I" ∈ wzX12_groups := List.mem_cons_of_mem _ (List.mem_append_left _ (List.mem_of_getElem? (i := 14) rfl))
theorem k_X12_groups_fieldLink_RX12_396_SRModel_res_Z : Cond.fieldLink RX12 396 "StatementRules2Model" "res" "Z" ∈ wzX12_groups := List.mem_cons_of_mem _ (List.mem_append_left _ (List.mem_of_getElem? (i := 15) rfl))
set_option maxHeartbeats 4000000 in
set_option maxRecDepth 100000 in
theorem j_X12_groups_335 {p : Program} {e : Env} {s : State} {m : MethodId} {args : Array Value} {below : List Frame} {meth : Method} {c : Code} {A : Nat → Prop} (l : Launch) (dC : Nat → ClassId) (dI : Nat → Nat → Nat) (Q : RQ) (N : Nat) (R : RS) (hx : p.tables.exec = Jvm.exec) (hb : c.code = cX12_groups) (hr : meth.sig.returnType = none) (hml : c.maxLocals = 3) (hown : s.vm.findClass RX12 = some m.cls) (hts : ∀ w ∈ wzX12_groups, w.before args s = true) (hlocks : meth.locks = false) (hZ : zAMB s) (hA : ∀ q : Nat, s.heap.size ≤ q → A q) (hK : va_K (dC, dI) vwCl (rT Q) s) : ∀ (σ : RS) (H : Heap) (locs : List Loc) (ls : Array Slot), f_X12_groups_335 N σ = some R → va_P (dC, dI) vwCl (rW Q σ) H → va_D A (rW Q σ) → va_S A s.heap H locs → lv_has ls 3 [] → W p l e ({ frames := 6, cells := 0, slots := 0, locals := 360 }) s m args below meth c H locs 0 0 (MQ below (va_Qv (fun (_ : Unit) => True) (fun (_ : Unit) (t : State) => zPost dC dI A (rW Q R) (rT Q) t) A) args s 0 0 A) (F0 m 335 ls []) := by
  intro σ  H locs ls hf hP hD hS hl
  unfold f_X12_groups_335 at hf
  refine lv_goto (tgt := 363) hx hb dX12_groups_335 (by decide) ?_
  obtain rfl := Option.some.inj hf
  exact W.vret hx hb hr (fun t ht hW => ⟨⟨(), rfl, trivial, by rw [ht]; exact hP, va_K.moved hW.alike hK, hD⟩, hS.F ht⟩) hS.2.2 dX12_groups_363
set_option maxHeartbeats 4000000 in
set_option maxRecDepth 100000 in
theorem j_X12_groups_356 {p : Program} {e : Env} {s : State} {m : MethodId} {args : Array Value} {below : List Frame} {meth : Method} {c : Code} {A : Nat → Prop} (l : Launch) (dC : Nat → ClassId) (dI : Nat → Nat → Nat) (Q : RQ) (N : Nat) (R : RS) (hx : p.tables.exec = Jvm.exec) (hb : c.code = cX12_groups) (hr : meth.sig.returnType = none) (hml : c.maxLocals = 3) (hown : s.vm.findClass RX12 = some m.cls) (hts : ∀ w ∈ wzX12_groups, w.before args s = true) (hlocks : meth.locks = false) (hZ : zAMB s) (hA : ∀ q : Nat, s.heap.size ≤ q → A q) (hK : va_K (dC, dI) vwCl (rT Q) s) : ∀ (σ : RS) (x1 : Int32) (H : Heap) (locs : List Loc) (ls : Array Slot), f_X12_groups_356 N σ x1 = some R → va_P (dC, dI) vwCl (rW Q σ) H → va_D A (rW Q σ) → va_S A s.heap H locs → lv_has ls 3 [(0, .ref Q.h0), (1, .int x1)] → W p l e ({ frames := 6, cells := 0, slots := 0, locals := 360 }) s m args below meth c H locs 0 0 (MQ below (va_Qv (fun (_ : Unit) => True) (fun (_ : Unit) (t : State) => zPost dC dI A (rW Q R) (rT Q) t) A) args s 0 0 A) (F0 m 356 ls []) := by
  intro σ x1 H locs ls hf hP hD hS hl
  unfold f_X12_groups_356 at hf
  refine lv_aload_n hx hb dX12_groups_356 rfl (lv_at hl 0 rfl) ?_
  refine rG_65 hx hb hts i_X12_groups_X12 hown hK hP (hts (.fieldLink RX12 177 "StatementRules2Model" "fs" "[I") k_X12_groups_fieldLink_RX12_177_SRModel_fs_I) dX12_groups_357 ?_
  refine lv_iload_n hx hb dX12_groups_360 rfl (lv_at hl 1 rfl) ?_
  refine lv_iconst (v := 2) hx hb dX12_groups_361 (by decide) ?_
  obtain ⟨b59, hf⟩ := hf_ite hf
  refine rS_65 hx hb hK hP hD hS b59 dX12_groups_362 (fun H locs hP hD hS => ?_)
  obtain rfl := Option.some.inj hf
  exact W.vret hx hb hr (fun t ht hW => ⟨⟨(), rfl, trivial, by rw [ht]; exact hP, va_K.moved hW.alike hK, hD⟩, hS.F ht⟩) hS.2.2 dX12_groups_363
set_option maxHeartbeats 4000000 in
set_option maxRecDepth 100000 in
theorem c_X12_groups (l : Launch) (dC : Nat → ClassId) (dI : Nat → Nat → Nat) (sz : Nat) (Q : RQ) (N : Nat) (σ : RS) (x1 : Int32) (R : RS) (hf : f_X12_groups N σ x1 = some R) : Met l yX12_groups wzX12_groups ({ frames := 6, cells := 0, slots := 0, locals := 360 }) (va_Pc [.ref Q.h0, .int x1] (zPre dC dI sz (rW Q σ) (rT Q))) (va_Qv (fun (_ : Unit) => True) (fun (_ : Unit) (t : State) => zPost dC dI (va_A (rW Q σ) sz) (rW Q R) (rT Q) t) (va_A (rW Q σ) sz)) 0 0 (va_A (rW Q σ) sz) := by
  refine Met.ofW (cc := cX12_groups) (maxL := 3) (ret := none) (by decide) rfl ?_
  intro p e s m args below meth c s₁ B hml hv
  obtain ⟨rfl, hsz, hZ, hP, hK, hD0⟩ := hv
  have hx := B.exec
  have hb := B.bytes
  have hr := B.returns
  have hts := atoms_spec (ws := wzX12_groups) B.pre
  have hown : s.vm.findClass RX12 = some m.cls := findClass_of_methodNamed B.named
  have hlocks := B.notSynchronized
  subst hsz
  have hD := hD0.self (sz := s.heap.size)
  generalize hAe : va_A (rW Q σ) s.heap.size = A at hD ⊢
  have hA : ∀ q : Nat, s.heap.size ≤ q → A q := fun q h => by rw [← hAe]; exact Or.inr h
  have hS : va_S A s.heap s.heap [] := va_S.rf
  have hl := lv_entry ([.ref Q.h0, .int x1]) (n := 3) (Nat.le_of_ble_eq_true rfl)
  rw [lg_entry_eq]
  generalize (lg_sl ([.ref Q.h0, .int x1]) ++ List.replicate (3 - (lg_sl ([.ref Q.h0, .int x1])).length) Slot.unset).toArray = ls at hl ⊢
  have hl : lv_has ls 3 [(0, .ref Q.h0), (1, .int x1)] := hl
  unfold f_X12_groups at hf
  refine lv_aload_n hx hb dX12_groups_0 rfl (lv_at hl 0 rfl) ?_
  refine rG_65 hx hb hts i_X12_groups_X12 hown hK hP (hts (.fieldLink RX12 177 "StatementRules2Model" "fs" "[I") k_X12_groups_fieldLink_RX12_177_SRModel_fs_I) dX12_groups_1 ?_
  refine lv_iload_n hx hb dX12_groups_4 rfl (lv_at hl 1 rfl) ?_
  obtain ⟨b1, hf⟩ := hf_ite hf
  refine rL_65 (v := (σ.a 65 ((x1 : Int32).toNatClampNeg))) hx hb hK hP b1 dX12_groups_5 rfl ?_
  by_cases c2 : (σ.a 65 ((x1 : Int32).toNatClampNeg)) = 0
  ·
    replace hf := (if_pos c2).symm.trans hf
    refine lv_tableIn (off := 26) (tgt := 32) hx hb dX12_groups_6 (by rw [c2]; decide) (by rw [c2]; decide) (by rw [c2]; decide) (by decide) ?_
    refine lv_aload_n hx hb dX12_groups_32 rfl (lv_at hl 0 rfl) ?_
    obtain ⟨p3, hcp3, hf⟩ := hf_bind hf
    have hFc := r_free hD hS hA
    refine va_callv (va_runV (As := []) (rest := []) ⟨hx, hb, hml, hown, hts⟩ (c_X12_next l dC dI _ Q N σ p3 hcp3) (cwV 0 hts hX12_groups_X12_next_v345 rfl rfl rfl (by decide +kernel) ⟨Nat.le_of_ble_eq_true rfl, Nat.le_of_ble_eq_true rfl⟩) ⟨zPre.blind, va_recv hK hP (ci := 11) (q0 := 0) rfl rfl, zPre.go hZ hP hK hD⟩ rfl rfl hl.1 rfl (lv_room (Nat.le_of_ble_eq_true rfl)) dX12_groups_33 ⟨Nat.le_of_ble_eq_true rfl, Nat.le_of_ble_eq_true rfl⟩) hS (fun q _ h => hFc q h) hFc (fun u9 t9 H1 locs ht hvm hw hB hz1 hk1 hS => ?_)
    obtain ⟨hP, hK1, hD1⟩ := hB
    rw [ht] at hP
    have hD := hD1.weaken (fun _ _ _ h => hFc _ h)
    generalize H1 = H at hP hS ⊢
    refine lv_aload_n hx hb dX12_groups_36 rfl (lv_at hl 0 rfl) ?_
    refine lv_bipush (v := 40) hx hb dX12_groups_37 (by decide) ?_
    obtain ⟨p5, hcp5, hf⟩ := hf_bind hf
    have hFc := r_free hD hS hA
    refine va_calli (va_runV (As := [.int 40]) (rest := []) ⟨hx, hb, hml, hown, hts⟩ (c_X12_open l dC dI _ Q N p3 40 p5 hcp5) (cwV 1 hts hX12_groups_X12_open_v475 rfl rfl rfl (by decide +kernel) ⟨Nat.le_of_ble_eq_true rfl, Nat.le_of_ble_eq_true rfl⟩) ⟨zPre.blind, va_recv hK hP (ci := 11) (q0 := 0) rfl rfl, zPre.go hZ hP hK hD⟩ rfl rfl hl.1 rfl (lv_room (Nat.le_of_ble_eq_true rfl)) dX12_groups_39 ⟨Nat.le_of_ble_eq_true rfl, Nat.le_of_ble_eq_true rfl⟩) hS (fun q _ h => hFc q h) hFc (fun r6 u9 t9 H1 locs ht hvm hw hB hz1 hk1 hS => ?_)
    obtain ⟨hP, hK1, hD1⟩ := hB
    rw [ht] at hP
    have hD := hD1.weaken (fun _ _ _ h => hFc _ h)
    generalize H1 = H at hP hS ⊢
    obtain rfl : r6 = p5.1 := hw
    refine lv_pop hx hb dX12_groups_42 rfl ?_
    refine lv_aload_n hx hb dX12_groups_43 rfl (lv_at hl 0 rfl) ?_
    refine lv_iconst (v := 1) hx hb dX12_groups_44 (by decide) ?_
    refine lv_bipush (v := 16) hx hb dX12_groups_45 (by decide) ?_
    obtain ⟨p7, hcp7, hf⟩ := hf_bind hf
    have hFc := r_free hD hS hA
    refine va_callv (va_runV (As := [.int 1, .int 16]) (rest := []) ⟨hx, hb, hml, hown, hts⟩ (c_X12_then l dC dI _ Q N p5.2 1 16 p7 hcp7) (cwV 2 hts hX12_groups_X12_then_v393 rfl rfl rfl (by decide +kernel) ⟨Nat.le_of_ble_eq_true rfl, Nat.le_of_ble_eq_true rfl⟩) ⟨zPre.blind, va_recv hK hP (ci := 11) (q0 := 0) rfl rfl, zPre.go hZ hP hK hD⟩ rfl rfl hl.1 rfl (lv_room (Nat.le_of_ble_eq_true rfl)) dX12_groups_47 ⟨Nat.le_of_ble_eq_true rfl, Nat.le_of_ble_eq_true rfl⟩) hS (fun q _ h => hFc q h) hFc (fun u9 t9 H1 locs ht hvm hw hB hz1 hk1 hS => ?_)
    obtain ⟨hP, hK1, hD1⟩ := hB
    rw [ht] at hP
    have hD := hD1.weaken (fun _ _ _ h => hFc _ h)
    generalize H1 = H at hP hS ⊢
    refine lv_goto (tgt := 363) hx hb dX12_groups_50 (by decide) ?_
    obtain rfl := Option.some.inj hf
    exact W.vret hx hb hr (fun t ht hW => ⟨⟨(), rfl, trivial, by rw [ht]; exact hP, va_K.moved hW.alike hK, hD⟩, hS.F ht⟩) hS.2.2 dX12_groups_363
  replace hf := (if_neg c2).symm.trans hf
  by_cases c9 : (σ.a 65 ((x1 : Int32).toNatClampNeg)) = 1
  ·
    replace hf := (if_pos c9).symm.trans hf
    refine lv_tableIn (off := 47) (tgt := 53) hx hb dX12_groups_6 (by rw [c9]; decide) (by rw [c9]; decide) (by rw [c9]; decide) (by decide) ?_
    refine lv_aload_n hx hb dX12_groups_53 rfl (lv_at hl 0 rfl) ?_
    refine lv_bipush (v := 41) hx hb dX12_groups_54 (by decide) ?_
    obtain ⟨p10, hcp10, hf⟩ := hf_bind hf
    have hFc := r_free hD hS hA
    refine va_calli (va_runV (As := [.int 41]) (rest := []) ⟨hx, hb, hml, hown, hts⟩ (c_X12_shut l dC dI _ Q N σ 41 p10 hcp10) (cwV 1 hts hX12_groups_X12_shut_v468 rfl rfl rfl (by decide +kernel) ⟨Nat.le_of_ble_eq_true rfl, Nat.le_of_ble_eq_true rfl⟩) ⟨zPre.blind, va_recv hK hP (ci := 11) (q0 := 0) rfl rfl, zPre.go hZ hP hK hD⟩ rfl rfl hl.1 rfl (lv_room (Nat.le_of_ble_eq_true rfl)) dX12_groups_56 ⟨Nat.le_of_ble_eq_true rfl, Nat.le_of_ble_eq_true rfl⟩) hS (fun q _ h => hFc q h) hFc (fun r11 u9 t9 H1 locs ht hvm hw hB hz1 hk1 hS => ?_)
    obtain ⟨hP, hK1, hD1⟩ := hB
    rw [ht] at hP
    have hD := hD1.weaken (fun _ _ _ h => hFc _ h)
    generalize H1 = H at hP hS ⊢
    obtain rfl : r11 = p10.1 := hw
    refine lv_pop hx hb dX12_groups_59 rfl ?_
    refine lv_aload_n hx hb dX12_groups_60 rfl (lv_at hl 0 rfl) ?_
    refine rG_66 hx hb hts i_X12_groups_X12 hown hK hP (hts (.fieldLink RX12 180 "StatementRules2Model" "fp" "[I") k_X12_groups_fieldLink_RX12_180_SRModel_fp_I) dX12_groups_61 ?_
    refine lv_iload_n hx hb dX12_groups_64 rfl (lv_at hl 1 rfl) ?_
    refine lv_aload_n hx hb dX12_groups_65 rfl (lv_at hl 0 rfl) ?_
    refine lv_bipush (v := 28) hx hb dX12_groups_66 (by decide) ?_
    refine lv_iconst (v := (-1)) hx hb dX12_groups_68 (by decide) ?_
    obtain ⟨p12, hcp12, hf⟩ := hf_bind hf
    have hFc := r_free hD hS hA
    refine va_calli (va_runV (As := [.int 28, .int (-1)]) (rest := [.int x1, .ref (Q.q 66)]) ⟨hx, hb, hml, hown, hts⟩ (c_X12_emit l dC dI _ Q N p10.2 28 (-1) p12 hcp12) (cwV 2 hts hX12_groups_X12_emit_v464 rfl rfl rfl (by decide +kernel) ⟨Nat.le_of_ble_eq_true rfl, Nat.le_of_ble_eq_true rfl⟩) ⟨zPre.blind, va_recv hK hP (ci := 11) (q0 := 0) rfl rfl, zPre.go hZ hP hK hD⟩ rfl rfl hl.1 rfl (lv_room (Nat.le_of_ble_eq_true rfl)) dX12_groups_69 ⟨Nat.le_of_ble_eq_true rfl, Nat.le_of_ble_eq_true rfl⟩) hS (fun q _ h => hFc q h) hFc (fun r13 u9 t9 H1 locs ht hvm hw hB hz1 hk1 hS => ?_)
    obtain ⟨hP, hK1, hD1⟩ := hB
    rw [ht] at hP
    have hD := hD1.weaken (fun _ _ _ h => hFc _ h)
    generalize H1 = H at hP hS ⊢
    obtain rfl : r13 = p12.1 := hw
    refine rS_66 hx hb hK hP hD hS b1 dX12_groups_72 (fun H locs hP hD hS => ?_)
    refine lv_aload_n hx hb dX12_groups_73 rfl (lv_at hl 0 rfl) ?_
    refine rG_67 hx hb hts i_X12_groups_X12 hown hK hP (hts (.fieldLink RX12 183 "StatementRules2Model" "fq" "[I") k_X12_groups_fieldLink_RX12_183_SRModel_fq_I) dX12_groups_74 ?_
    refine lv_iload_n hx hb dX12_groups_77 rfl (lv_at hl 1 rfl) ?_
    refine lv_iconst (v := (-1)) hx hb dX12_groups_78 (by decide) ?_
    refine rS_67 hx hb hK hP hD hS b1 dX12_groups_79 (fun H locs hP hD hS => ?_)
    refine lv_aload_n hx hb dX12_groups_80 rfl (lv_at hl 0 rfl) ?_
    refine rG_68 hx hb hts i_X12_groups_X12 hown hK hP (hts (.fieldLink RX12 186 "StatementRules2Model" "fr" "[I") k_X12_groups_fieldLink_RX12_186_SRModel_fr_I) dX12_groups_81 ?_
    refine lv_iload_n hx hb dX12_groups_84 rfl (lv_at hl 1 rfl) ?_
    refine lv_iconst (v := 0) hx hb dX12_groups_85 (by decide) ?_
    refine rS_68 hx hb hK hP hD hS b1 dX12_groups_86 (fun H locs hP hD hS => ?_)
    refine lv_aload_n hx hb dX12_groups_87 rfl (lv_at hl 0 rfl) ?_
    refine rG_70 hx hb hts i_X12_groups_X12 hown hK hP (hts (.fieldLink RX12 192 "StatementRules2Model" "fw" "[I") k_X12_groups_fieldLink_RX12_192_SRModel_fw_I) dX12_groups_88 ?_
    refine lv_iload_n hx hb dX12_groups_91 rfl (lv_at hl 1 rfl) ?_
    refine lv_iconst (v := 1) hx hb dX12_groups_92 (by decide) ?_
    refine rS_70 hx hb hK hP hD hS b1 dX12_groups_93 (fun H locs hP hD hS => ?_)
    refine lv_aload_n hx hb dX12_groups_94 rfl (lv_at hl 0 rfl) ?_
    refine rG_71 hx hb hts i_X12_groups_X12 hown hK hP (hts (.fieldLink RX12 195 "StatementRules2Model" "fx" "[I") k_X12_groups_fieldLink_RX12_195_SRModel_fx_I) dX12_groups_95 ?_
    refine lv_iload_n hx hb dX12_groups_98 rfl (lv_at hl 1 rfl) ?_
    refine lv_aload_n hx hb dX12_groups_99 rfl (lv_at hl 0 rfl) ?_
    refine rG_38 (v := (p12.2.i 38)) hx hb hts i_X12_groups_X12 hown hK hP (hts (.fieldLink RX12 361 "StatementRules2Model" "seen" "I") k_X12_groups_fieldLink_RX12_361_SRModel_seen_I) dX12_groups_100 rfl ?_
    refine rS_71 hx hb hK hP hD hS b1 dX12_groups_103 (fun H locs hP hD hS => ?_)
    refine lv_aload_n hx hb dX12_groups_104 rfl (lv_at hl 0 rfl) ?_
    refine rG_72 hx hb hts i_X12_groups_X12 hown hK hP (hts (.fieldLink RX12 198 "StatementRules2Model" "fy" "[I") k_X12_groups_fieldLink_RX12_198_SRModel_fy_I) dX12_groups_105 ?_
    refine lv_iload_n hx hb dX12_groups_108 rfl (lv_at hl 1 rfl) ?_
    refine lv_aload_n hx hb dX12_groups_109 rfl (lv_at hl 0 rfl) ?_
    refine lv_iconst (v := 1) hx hb dX12_groups_110 (by decide) ?_
    refine lv_lconst (v := 0) hx hb dX12_groups_111 (by decide) ?_
    obtain ⟨p14, hcp14, hf⟩ := hf_bind hf
    have hFc := r_free hD hS hA
    refine va_calli (va_runV (As := [.int 1, .long 0]) (rest := [.int x1, .ref (Q.q 72)]) ⟨hx, hb, hml, hown, hts⟩ (c_X12_goal l dC dI _ Q N (RS.setA (RS.setA (RS.setA (RS.setA (RS.setA p12.2 66 ((x1 : Int32).toNatClampNeg) p12.1) 67 ((x1 : Int32).toNatClampNeg) (-1)) 68 ((x1 : Int32).toNatClampNeg) 0) 70 ((x1 : Int32).toNatClampNeg) 1) 71 ((x1 : Int32).toNatClampNeg) (p12.2.i 38)) 1 0 p14 hcp14) (cwV 2 hts hX12_groups_X12_goal_v373 rfl rfl rfl (by decide +kernel) ⟨Nat.le_of_ble_eq_true rfl, Nat.le_of_ble_eq_true rfl⟩) ⟨zPre.blind, va_recv hK hP (ci := 11) (q0 := 0) rfl rfl, zPre.go hZ hP hK hD⟩ rfl rfl hl.1 rfl (lv_room (Nat.le_of_ble_eq_true rfl)) dX12_groups_112 ⟨Nat.le_of_ble_eq_true rfl, Nat.le_of_ble_eq_true rfl⟩) hS (fun q _ h => hFc q h) hFc (fun r15 u9 t9 H1 locs ht hvm hw hB hz1 hk1 hS => ?_)
    obtain ⟨hP, hK1, hD1⟩ := hB
    rw [ht] at hP
    have hD := hD1.weaken (fun _ _ _ h => hFc _ h)
    generalize H1 = H at hP hS ⊢
    obtain rfl : r15 = p14.1 := hw
    refine rS_72 hx hb hK hP hD hS b1 dX12_groups_115 (fun H locs hP hD hS => ?_)
    refine lv_aload_n hx hb dX12_groups_116 rfl (lv_at hl 0 rfl) ?_
    refine lv_bipush (v := 123) hx hb dX12_groups_117 (by decide) ?_
    obtain ⟨p16, hcp16, hf⟩ := hf_bind hf
    have hFc := r_free hD hS hA
    refine va_calli (va_runV (As := [.int 123]) (rest := []) ⟨hx, hb, hml, hown, hts⟩ (c_X12_open l dC dI _ Q N (RS.setA p14.2 72 ((x1 : Int32).toNatClampNeg) p14.1) 123 p16 hcp16) (cwV 1 hts hX12_groups_X12_open_v475 rfl rfl rfl (by decide +kernel) ⟨Nat.le_of_ble_eq_true rfl, Nat.le_of_ble_eq_true rfl⟩) ⟨zPre.blind, va_recv hK hP (ci := 11) (q0 := 0) rfl rfl, zPre.go hZ hP hK hD⟩ rfl rfl hl.1 rfl (lv_room (Nat.le_of_ble_eq_true rfl)) dX12_groups_119 ⟨Nat.le_of_ble_eq_true rfl, Nat.le_of_ble_eq_true rfl⟩) hS (fun q _ h => hFc q h) hFc (fun r17 u9 t9 H1 locs ht hvm hw hB hz1 hk1 hS => ?_)
    obtain ⟨hP, hK1, hD1⟩ := hB
    rw [ht] at hP
    have hD := hD1.weaken (fun _ _ _ h => hFc _ h)
    generalize H1 = H at hP hS ⊢
    obtain rfl : r17 = p16.1 := hw
    refine lv_pop hx hb dX12_groups_122 rfl ?_
    refine lv_aload_n hx hb dX12_groups_123 rfl (lv_at hl 0 rfl) ?_
    refine rG_65 hx hb hts i_X12_groups_X12 hown hK hP (hts (.fieldLink RX12 177 "StatementRules2Model" "fs" "[I") k_X12_groups_fieldLink_RX12_177_SRModel_fs_I) dX12_groups_124 ?_
    refine lv_iload_n hx hb dX12_groups_127 rfl (lv_at hl 1 rfl) ?_
    refine lv_iconst (v := 2) hx hb dX12_groups_128 (by decide) ?_
    refine rS_65 hx hb hK hP hD hS b1 dX12_groups_129 (fun H locs hP hD hS => ?_)
    refine lv_goto (tgt := 363) hx hb dX12_groups_130 (by decide) ?_
    obtain rfl := Option.some.inj hf
    exact W.vret hx hb hr (fun t ht hW => ⟨⟨(), rfl, trivial, by rw [ht]; exact hP, va_K.moved hW.alike hK, hD⟩, hS.F ht⟩) hS.2.2 dX12_groups_363
  replace hf := (if_neg c9).symm.trans hf
  by_cases c18 : (σ.a 65 ((x1 : Int32).toNatClampNeg)) = 2
  ·
    replace hf := (if_pos c18).symm.trans hf
    refine lv_tableIn (off := 127) (tgt := 133) hx hb dX12_groups_6 (by rw [c18]; decide) (by rw [c18]; decide) (by rw [c18]; decide) (by decide) ?_
    refine lv_aload_n hx hb dX12_groups_133 rfl (lv_at hl 0 rfl) ?_
    refine rG_10 (v := (σ.i 10)) hx hb hts i_X12_groups_X12 hown hK hP (hts (.fieldLink RX12 307 "StatementRules2Model" "tok" "I") k_X12_groups_fieldLink_RX12_307_SRModel_tok_I) dX12_groups_134 rfl ?_
    refine lv_sipush (v := 429) hx hb dX12_groups_137 (by decide) ?_
    refine lv_icmp_ne (tgt := 171) hx hb dX12_groups_140 (by decide) (fun c19 => ?_) (fun c19 => ?_)
    ·
      replace hf := (if_neg c19).symm.trans hf
      refine lv_aload_n hx hb dX12_groups_171 rfl (lv_at hl 0 rfl) ?_
      refine rG_10 (v := (σ.i 10)) hx hb hts i_X12_groups_X12 hown hK hP (hts (.fieldLink RX12 307 "StatementRules2Model" "tok" "I") k_X12_groups_fieldLink_RX12_307_SRModel_tok_I) dX12_groups_172 rfl ?_
      refine lv_sipush (v := 430) hx hb dX12_groups_175 (by decide) ?_
      refine lv_icmp_ne (tgt := 235) hx hb dX12_groups_178 (by decide) (fun c20 => ?_) (fun c20 => ?_)
      ·
        replace hf := (if_neg c20).symm.trans hf
        refine lv_aload_n hx hb dX12_groups_235 rfl (lv_at hl 0 rfl) ?_
        refine lv_bipush (v := 125) hx hb dX12_groups_236 (by decide) ?_
        obtain ⟨p21, hcp21, hf⟩ := hf_bind hf
        have hFc := r_free hD hS hA
        refine va_calli (va_runV (As := [.int 125]) (rest := []) ⟨hx, hb, hml, hown, hts⟩ (c_X12_shut l dC dI _ Q N σ 125 p21 hcp21) (cwV 1 hts hX12_groups_X12_shut_v468 rfl rfl rfl (by decide +kernel) ⟨Nat.le_of_ble_eq_true rfl, Nat.le_of_ble_eq_true rfl⟩) ⟨zPre.blind, va_recv hK hP (ci := 11) (q0 := 0) rfl rfl, zPre.go hZ hP hK hD⟩ rfl rfl hl.1 rfl (lv_room (Nat.le_of_ble_eq_true rfl)) dX12_groups_238 ⟨Nat.le_of_ble_eq_true rfl, Nat.le_of_ble_eq_true rfl⟩) hS (fun q _ h => hFc q h) hFc (fun r22 u9 t9 H1 locs ht hvm hw hB hz1 hk1 hS => ?_)
        obtain ⟨hP, hK1, hD1⟩ := hB
        rw [ht] at hP
        have hD := hD1.weaken (fun _ _ _ h => hFc _ h)
        generalize H1 = H at hP hS ⊢
        obtain rfl : r22 = p21.1 := hw
        refine lv_pop hx hb dX12_groups_241 rfl ?_
        refine lv_aload_n hx hb dX12_groups_242 rfl (lv_at hl 0 rfl) ?_
        refine rG_72 hx hb hts i_X12_groups_X12 hown hK hP (hts (.fieldLink RX12 198 "StatementRules2Model" "fy" "[I") k_X12_groups_fieldLink_RX12_198_SRModel_fy_I) dX12_groups_243 ?_
        refine lv_iload_n hx hb dX12_groups_246 rfl (lv_at hl 1 rfl) ?_
        refine rL_72 (v := (p21.2.a 72 ((x1 : Int32).toNatClampNeg))) hx hb hK hP b1 dX12_groups_247 rfl ?_
        refine lv_istore_n (lv' := [(2, .int (p21.2.a 72 ((x1 : Int32).toNatClampNeg))), (0, .ref Q.h0), (1, .int x1)]) hx hb dX12_groups_248 rfl hl (by decide) rfl (fun ls hl => ?_)
        refine lv_aload_n hx hb dX12_groups_249 rfl (lv_at hl 1 rfl) ?_
        refine rG_23 hx hb hts i_X12_groups_X12 hown hK hP (hts (.fieldLink RX12 90 "StatementRules2Model" "iy" "[I") k_X12_groups_fieldLink_RX12_90_SRModel_iy_I) dX12_groups_250 ?_
        refine lv_aload_n hx hb dX12_groups_253 rfl (lv_at hl 1 rfl) ?_
        refine rG_66 hx hb hts i_X12_groups_X12 hown hK hP (hts (.fieldLink RX12 180 "StatementRules2Model" "fp" "[I") k_X12_groups_fieldLink_RX12_180_SRModel_fp_I) dX12_groups_254 ?_
        refine lv_iload_n hx hb dX12_groups_257 rfl (lv_at hl 2 rfl) ?_
        refine rL_66 (v := (p21.2.a 66 ((x1 : Int32).toNatClampNeg))) hx hb hK hP b1 dX12_groups_258 rfl ?_
        refine lv_aload_n hx hb dX12_groups_259 rfl (lv_at hl 1 rfl) ?_
        refine rG_20 (v := (p21.2.i 20)) hx hb hts i_X12_groups_X12 hown hK hP (hts (.fieldLink RX12 358 "StatementRules2Model" "codes" "I") k_X12_groups_fieldLink_RX12_358_SRModel_codes_I) dX12_groups_260 rfl ?_
        obtain ⟨b23, hf⟩ := hf_ite hf
        refine rS_23 hx hb hK hP hD hS b23 dX12_groups_263 (fun H locs hP hD hS => ?_)
        refine lv_aload_n hx hb dX12_groups_264 rfl (lv_at hl 1 rfl) ?_
        refine lv_aload_n hx hb dX12_groups_265 rfl (lv_at hl 1 rfl) ?_
        refine rG_48 hx hb hts i_X12_groups_X12 hown hK hP (hts (.fieldLink RX12 147 "StatementRules2Model" "breaks" "[I") k_X12_groups_fieldLink_RX12_147_SRModel_breaks_I) dX12_groups_266 ?_
        refine lv_iload_n hx hb dX12_groups_269 rfl (lv_at hl 0 rfl) ?_
        obtain ⟨b24, hf⟩ := hf_ite hf
        refine rL_48 (v := (p21.2.a 48 (((p21.2.a 72 ((x1 : Int32).toNatClampNeg)) : Int32).toNatClampNeg))) hx hb hK hP b24 dX12_groups_270 rfl ?_
        refine lv_aload_n hx hb dX12_groups_271 rfl (lv_at hl 1 rfl) ?_
        refine rG_20 (v := (p21.2.i 20)) hx hb hts i_X12_groups_X12 hown hK hP (hts (.fieldLink RX12 358 "StatementRules2Model" "codes" "I") k_X12_groups_fieldLink_RX12_358_SRModel_codes_I) dX12_groups_272 rfl ?_
        obtain ⟨p25, hcp25, hf⟩ := hf_bind hf
        have hFc := r_free hD hS hA
        refine va_callv (va_runV (As := [.int (p21.2.a 48 (((p21.2.a 72 ((x1 : Int32).toNatClampNeg)) : Int32).toNatClampNeg)), .int (p21.2.i 20)]) (rest := []) ⟨hx, hb, hml, hown, hts⟩ (c_X12_patch l dC dI _ Q N (RS.setA p21.2 23 (((p21.2.a 66 ((x1 : Int32).toNatClampNeg)) : Int32).toNatClampNeg) (p21.2.i 20)) (p21.2.a 48 (((p21.2.a 72 ((x1 : Int32).toNatClampNeg)) : Int32).toNatClampNeg)) (p21.2.i 20) p25 hcp25) (cwV 2 hts hX12_groups_X12_patch_v510 rfl rfl rfl (by decide +kernel) ⟨Nat.le_of_ble_eq_true rfl, Nat.le_of_ble_eq_true rfl⟩) ⟨zPre.blind, va_recv hK hP (ci := 11) (q0 := 0) rfl rfl, zPre.go hZ hP hK hD⟩ rfl rfl hl.1 rfl (lv_room (Nat.le_of_ble_eq_true rfl)) dX12_groups_275 ⟨Nat.le_of_ble_eq_true rfl, Nat.le_of_ble_eq_true rfl⟩) hS (fun q _ h => hFc q h) hFc (fun u9 t9 H1 locs ht hvm hw hB hz1 hk1 hS => ?_)
        obtain ⟨hP, hK1, hD1⟩ := hB
        rw [ht] at hP
        have hD := hD1.weaken (fun _ _ _ h => hFc _ h)
        generalize H1 = H at hP hS ⊢
        refine lv_aload_n hx hb dX12_groups_278 rfl (lv_at hl 1 rfl) ?_
        refine lv_dup hx hb dX12_groups_279 rfl ?_
        refine rG_43 (v := (p25.i 43)) hx hb hts i_X12_groups_X12 hown hK hP (hts (.fieldLink RX12 367 "StatementRules2Model" "goals" "I") k_X12_groups_fieldLink_RX12_367_SRModel_goals_I) dX12_groups_280 rfl ?_
        refine lv_iconst (v := 1) hx hb dX12_groups_283 (by decide) ?_
        refine lv_isub hx hb dX12_groups_284 ?_
        refine rP_43 hx hb hts i_X12_groups_X12 hown hK hP hD hS (hts (.fieldLink RX12 367 "StatementRules2Model" "goals" "I") k_X12_groups_fieldLink_RX12_367_SRModel_goals_I) dX12_groups_285 (fun H locs hP hD hS => ?_)
        refine lv_aload_n hx hb dX12_groups_288 rfl (lv_at hl 1 rfl) ?_
        refine lv_aload_n hx hb dX12_groups_289 rfl (lv_at hl 1 rfl) ?_
        refine rG_71 hx hb hts i_X12_groups_X12 hown hK hP (hts (.fieldLink RX12 195 "StatementRules2Model" "fx" "[I") k_X12_groups_fieldLink_RX12_195_SRModel_fx_I) dX12_groups_290 ?_
        refine lv_iload_n hx hb dX12_groups_293 rfl (lv_at hl 2 rfl) ?_
        refine rL_71 (v := (p25.a 71 ((x1 : Int32).toNatClampNeg))) hx hb hK hP b1 dX12_groups_294 rfl ?_
        refine rP_38 hx hb hts i_X12_groups_X12 hown hK hP hD hS (hts (.fieldLink RX12 361 "StatementRules2Model" "seen" "I") k_X12_groups_fieldLink_RX12_361_SRModel_seen_I) dX12_groups_295 (fun H locs hP hD hS => ?_)
        refine lv_aload_n hx hb dX12_groups_298 rfl (lv_at hl 1 rfl) ?_
        refine lv_aload_n hx hb dX12_groups_299 rfl (lv_at hl 1 rfl) ?_
        refine rG_70 hx hb hts i_X12_groups_X12 hown hK hP (hts (.fieldLink RX12 192 "StatementRules2Model" "fw" "[I") k_X12_groups_fieldLink_RX12_192_SRModel_fw_I) dX12_groups_300 ?_
        refine lv_iload_n hx hb dX12_groups_303 rfl (lv_at hl 2 rfl) ?_
        refine rL_70 (v := (p25.a 70 ((x1 : Int32).toNatClampNeg))) hx hb hK hP b1 dX12_groups_304 rfl ?_
        refine lv_iconst (v := 1) hx hb dX12_groups_305 (by decide) ?_
        refine lv_icmp_eq (tgt := 327) hx hb dX12_groups_306 (by decide) (fun c27 => ?_) (fun c27 => ?_)
        ·
          replace hf := (if_pos c27).symm.trans hf
          refine lv_iconst (v := 1) hx hb dX12_groups_327 (by decide) ?_
          refine lv_goto (tgt := 332) hx hb dX12_groups_328 (by decide) ?_
          obtain ⟨p28, hcp28, hf⟩ := hf_bind hf
          have hFc := r_free hD hS hA
          refine va_callv (va_runV (As := [.int 1]) (rest := []) ⟨hx, hb, hml, hown, hts⟩ (c_X12_over l dC dI _ Q N (RS.setI (RS.setI p25 43 ((p25.i 43) - 1)) 38 (p25.a 71 ((x1 : Int32).toNatClampNeg))) 1 p28 hcp28) (cwV 1 hts hX12_groups_X12_over_v490 rfl rfl rfl (by decide +kernel) ⟨Nat.le_of_ble_eq_true rfl, Nat.le_of_ble_eq_true rfl⟩) ⟨zPre.blind, va_recv hK hP (ci := 11) (q0 := 0) rfl rfl, zPre.go hZ hP hK hD⟩ rfl rfl hl.1 rfl (lv_room (Nat.le_of_ble_eq_true rfl)) dX12_groups_332 ⟨Nat.le_of_ble_eq_true rfl, Nat.le_of_ble_eq_true rfl⟩) hS (fun q _ h => hFc q h) hFc (fun u9 t9 H1 locs ht hvm hw hB hz1 hk1 hS => ?_)
          obtain ⟨hP, hK1, hD1⟩ := hB
          rw [ht] at hP
          have hD := hD1.weaken (fun _ _ _ h => hFc _ h)
          generalize H1 = H at hP hS ⊢
          exact j_X12_groups_335 l dC dI Q N R hx hb hr hml hown hts hlocks hZ hA hK p28 _ _ _ hf hP hD hS (lv_sub hl [] rfl)
        ·
          replace hf := (if_neg c27).symm.trans hf
          refine lv_aload_n hx hb dX12_groups_309 rfl (lv_at hl 1 rfl) ?_
          refine rG_68 hx hb hts i_X12_groups_X12 hown hK hP (hts (.fieldLink RX12 186 "StatementRules2Model" "fr" "[I") k_X12_groups_fieldLink_RX12_186_SRModel_fr_I) dX12_groups_310 ?_
          refine lv_iload_n hx hb dX12_groups_313 rfl (lv_at hl 2 rfl) ?_
          refine rL_68 (v := (p25.a 68 ((x1 : Int32).toNatClampNeg))) hx hb hK hP b1 dX12_groups_314 rfl ?_
          refine lv_if_eq (tgt := 327) hx hb dX12_groups_315 (by decide) (fun c30 => ?_) (fun c30 => ?_)
          ·
            replace hf := (if_pos c30).symm.trans hf
            refine lv_iconst (v := 1) hx hb dX12_groups_327 (by decide) ?_
            refine lv_goto (tgt := 332) hx hb dX12_groups_328 (by decide) ?_
            obtain ⟨p31, hcp31, hf⟩ := hf_bind hf
            have hFc := r_free hD hS hA
            refine va_callv (va_runV (As := [.int 1]) (rest := []) ⟨hx, hb, hml, hown, hts⟩ (c_X12_over l dC dI _ Q N (RS.setI (RS.setI p25 43 ((p25.i 43) - 1)) 38 (p25.a 71 ((x1 : Int32).toNatClampNeg))) 1 p31 hcp31) (cwV 1 hts hX12_groups_X12_over_v490 rfl rfl rfl (by decide +kernel) ⟨Nat.le_of_ble_eq_true rfl, Nat.le_of_ble_eq_true rfl⟩) ⟨zPre.blind, va_recv hK hP (ci := 11) (q0 := 0) rfl rfl, zPre.go hZ hP hK hD⟩ rfl rfl hl.1 rfl (lv_room (Nat.le_of_ble_eq_true rfl)) dX12_groups_332 ⟨Nat.le_of_ble_eq_true rfl, Nat.le_of_ble_eq_true rfl⟩) hS (fun q _ h => hFc q h) hFc (fun u9 t9 H1 locs ht hvm hw hB hz1 hk1 hS => ?_)
            obtain ⟨hP, hK1, hD1⟩ := hB
            rw [ht] at hP
            have hD := hD1.weaken (fun _ _ _ h => hFc _ h)
            generalize H1 = H at hP hS ⊢
            exact j_X12_groups_335 l dC dI Q N R hx hb hr hml hown hts hlocks hZ hA hK p31 _ _ _ hf hP hD hS (lv_sub hl [] rfl)
          ·
            replace hf := (if_neg c30).symm.trans hf
            refine lv_aload_n hx hb dX12_groups_318 rfl (lv_at hl 1 rfl) ?_
            refine rG_50 hx hb hts i_X12_groups_X12 hown hK hP (hts (.fieldLink RX12 153 "StatementRules2Model" "broken" "[Z") k_X12_groups_fieldLink_RX12_153_SRModel_broken_Z) dX12_groups_319 ?_
            refine lv_iload_n hx hb dX12_groups_322 rfl (lv_at hl 0 rfl) ?_
            refine rL_50 (v := (p25.a 50 (((p21.2.a 72 ((x1 : Int32).toNatClampNeg)) : Int32).toNatClampNeg))) hx hb hK hP b24 dX12_groups_323 rfl ?_
            refine lv_if_eq (tgt := 331) hx hb dX12_groups_324 (by decide) (fun c33 => ?_) (fun c33 => ?_)
            ·
              replace hf := (if_pos c33).symm.trans hf
              refine lv_iconst (v := 0) hx hb dX12_groups_331 (by decide) ?_
              obtain ⟨p34, hcp34, hf⟩ := hf_bind hf
              have hFc := r_free hD hS hA
              refine va_callv (va_runV (As := [.int 0]) (rest := []) ⟨hx, hb, hml, hown, hts⟩ (c_X12_over l dC dI _ Q N (RS.setI (RS.setI p25 43 ((p25.i 43) - 1)) 38 (p25.a 71 ((x1 : Int32).toNatClampNeg))) 0 p34 hcp34) (cwV 1 hts hX12_groups_X12_over_v490 rfl rfl rfl (by decide +kernel) ⟨Nat.le_of_ble_eq_true rfl, Nat.le_of_ble_eq_true rfl⟩) ⟨zPre.blind, va_recv hK hP (ci := 11) (q0 := 0) rfl rfl, zPre.go hZ hP hK hD⟩ rfl rfl hl.1 rfl (lv_room (Nat.le_of_ble_eq_true rfl)) dX12_groups_332 ⟨Nat.le_of_ble_eq_true rfl, Nat.le_of_ble_eq_true rfl⟩) hS (fun q _ h => hFc q h) hFc (fun u9 t9 H1 locs ht hvm hw hB hz1 hk1 hS => ?_)
              obtain ⟨hP, hK1, hD1⟩ := hB
              rw [ht] at hP
              have hD := hD1.weaken (fun _ _ _ h => hFc _ h)
              generalize H1 = H at hP hS ⊢
              exact j_X12_groups_335 l dC dI Q N R hx hb hr hml hown hts hlocks hZ hA hK p34 _ _ _ hf hP hD hS (lv_sub hl [] rfl)
            ·
              replace hf := (if_neg c33).symm.trans hf
              refine lv_iconst (v := 1) hx hb dX12_groups_327 (by decide) ?_
              refine lv_goto (tgt := 332) hx hb dX12_groups_328 (by decide) ?_
              obtain ⟨p36, hcp36, hf⟩ := hf_bind hf
              have hFc := r_free hD hS hA
              refine va_callv (va_runV (As := [.int 1]) (rest := []) ⟨hx, hb, hml, hown, hts⟩ (c_X12_over l dC dI _ Q N (RS.setI (RS.setI p25 43 ((p25.i 43) - 1)) 38 (p25.a 71 ((x1 : Int32).toNatClampNeg))) 1 p36 hcp36) (cwV 1 hts hX12_groups_X12_over_v490 rfl rfl rfl (by decide +kernel) ⟨Nat.le_of_ble_eq_true rfl, Nat.le_of_ble_eq_true rfl⟩) ⟨zPre.blind, va_recv hK hP (ci := 11) (q0 := 0) rfl rfl, zPre.go hZ hP hK hD⟩ rfl rfl hl.1 rfl (lv_room (Nat.le_of_ble_eq_true rfl)) dX12_groups_332 ⟨Nat.le_of_ble_eq_true rfl, Nat.le_of_ble_eq_true rfl⟩) hS (fun q _ h => hFc q h) hFc (fun u9 t9 H1 locs ht hvm hw hB hz1 hk1 hS => ?_)
              obtain ⟨hP, hK1, hD1⟩ := hB
              rw [ht] at hP
              have hD := hD1.weaken (fun _ _ _ h => hFc _ h)
              generalize H1 = H at hP hS ⊢
              exact j_X12_groups_335 l dC dI Q N R hx hb hr hml hown hts hlocks hZ hA hK p36 _ _ _ hf hP hD hS (lv_sub hl [] rfl)
      ·
        replace hf := (if_pos c20).symm.trans hf
        refine lv_aload_n hx hb dX12_groups_181 rfl (lv_at hl 0 rfl) ?_
        refine rG_68 hx hb hts i_X12_groups_X12 hown hK hP (hts (.fieldLink RX12 186 "StatementRules2Model" "fr" "[I") k_X12_groups_fieldLink_RX12_186_SRModel_fr_I) dX12_groups_182 ?_
        refine lv_iload_n hx hb dX12_groups_185 rfl (lv_at hl 1 rfl) ?_
        refine rL_68 (v := (σ.a 68 ((x1 : Int32).toNatClampNeg))) hx hb hK hP b1 dX12_groups_186 rfl ?_
        refine lv_iconst (v := 1) hx hb dX12_groups_187 (by decide) ?_
        refine lv_icmp_ne (tgt := 201) hx hb dX12_groups_188 (by decide) (fun c38 => ?_) (fun c38 => ?_)
        ·
          replace hf := (if_neg c38).symm.trans hf
          refine lv_aload_n hx hb dX12_groups_201 rfl (lv_at hl 0 rfl) ?_
          refine rG_68 hx hb hts i_X12_groups_X12 hown hK hP (hts (.fieldLink RX12 186 "StatementRules2Model" "fr" "[I") k_X12_groups_fieldLink_RX12_186_SRModel_fr_I) dX12_groups_202 ?_
          refine lv_iload_n hx hb dX12_groups_205 rfl (lv_at hl 1 rfl) ?_
          refine lv_iconst (v := 1) hx hb dX12_groups_206 (by decide) ?_
          refine rS_68 hx hb hK hP hD hS b1 dX12_groups_207 (fun H locs hP hD hS => ?_)
          refine lv_aload_n hx hb dX12_groups_208 rfl (lv_at hl 0 rfl) ?_
          refine lv_iload_n hx hb dX12_groups_209 rfl (lv_at hl 1 rfl) ?_
          refine lv_iconst (v := 0) hx hb dX12_groups_210 (by decide) ?_
          refine lv_iconst (v := 1) hx hb dX12_groups_211 (by decide) ?_
          obtain ⟨p39, hcp39, hf⟩ := hf_bind hf
          have hFc := r_free hD hS hA
          refine va_callv (va_runV (As := [.int x1, .int 0, .int 1]) (rest := []) ⟨hx, hb, hml, hown, hts⟩ (c_X12_entry l dC dI _ Q N (RS.setA σ 68 ((x1 : Int32).toNatClampNeg) 1) x1 0 1 p39 hcp39) (cwV 3 hts hX12_groups_X12_entry_v481 rfl rfl rfl (by decide +kernel) ⟨Nat.le_of_ble_eq_true rfl, Nat.le_of_ble_eq_true rfl⟩) ⟨zPre.blind, va_recv hK hP (ci := 11) (q0 := 0) rfl rfl, zPre.go hZ hP hK hD⟩ rfl rfl hl.1 rfl (lv_room (Nat.le_of_ble_eq_true rfl)) dX12_groups_212 ⟨Nat.le_of_ble_eq_true rfl, Nat.le_of_ble_eq_true rfl⟩) hS (fun q _ h => hFc q h) hFc (fun u9 t9 H1 locs ht hvm hw hB hz1 hk1 hS => ?_)
          obtain ⟨hP, hK1, hD1⟩ := hB
          rw [ht] at hP
          have hD := hD1.weaken (fun _ _ _ h => hFc _ h)
          generalize H1 = H at hP hS ⊢
          refine lv_aload_n hx hb dX12_groups_215 rfl (lv_at hl 0 rfl) ?_
          obtain ⟨p41, hcp41, hf⟩ := hf_bind hf
          have hFc := r_free hD hS hA
          refine va_callv (va_runV (As := []) (rest := []) ⟨hx, hb, hml, hown, hts⟩ (c_X12_next l dC dI _ Q N p39 p41 hcp41) (cwV 0 hts hX12_groups_X12_next_v345 rfl rfl rfl (by decide +kernel) ⟨Nat.le_of_ble_eq_true rfl, Nat.le_of_ble_eq_true rfl⟩) ⟨zPre.blind, va_recv hK hP (ci := 11) (q0 := 0) rfl rfl, zPre.go hZ hP hK hD⟩ rfl rfl hl.1 rfl (lv_room (Nat.le_of_ble_eq_true rfl)) dX12_groups_216 ⟨Nat.le_of_ble_eq_true rfl, Nat.le_of_ble_eq_true rfl⟩) hS (fun q _ h => hFc q h) hFc (fun u9 t9 H1 locs ht hvm hw hB hz1 hk1 hS => ?_)
          obtain ⟨hP, hK1, hD1⟩ := hB
          rw [ht] at hP
          have hD := hD1.weaken (fun _ _ _ h => hFc _ h)
          generalize H1 = H at hP hS ⊢
          refine lv_aload_n hx hb dX12_groups_219 rfl (lv_at hl 0 rfl) ?_
          refine lv_bipush (v := 58) hx hb dX12_groups_220 (by decide) ?_
          obtain ⟨p43, hcp43, hf⟩ := hf_bind hf
          have hFc := r_free hD hS hA
          refine va_calli (va_runV (As := [.int 58]) (rest := []) ⟨hx, hb, hml, hown, hts⟩ (c_X12_need l dC dI _ Q N p41 58 p43 hcp43) (cwV 1 hts hX12_groups_X12_need_v355 rfl rfl rfl (by decide +kernel) ⟨Nat.le_of_ble_eq_true rfl, Nat.le_of_ble_eq_true rfl⟩) ⟨zPre.blind, va_recv hK hP (ci := 11) (q0 := 0) rfl rfl, zPre.go hZ hP hK hD⟩ rfl rfl hl.1 rfl (lv_room (Nat.le_of_ble_eq_true rfl)) dX12_groups_222 ⟨Nat.le_of_ble_eq_true rfl, Nat.le_of_ble_eq_true rfl⟩) hS (fun q _ h => hFc q h) hFc (fun r44 u9 t9 H1 locs ht hvm hw hB hz1 hk1 hS => ?_)
          obtain ⟨hP, hK1, hD1⟩ := hB
          rw [ht] at hP
          have hD := hD1.weaken (fun _ _ _ h => hFc _ h)
          generalize H1 = H at hP hS ⊢
          obtain rfl : r44 = p43.1 := hw
          refine lv_pop hx hb dX12_groups_225 rfl ?_
          refine lv_aload_n hx hb dX12_groups_226 rfl (lv_at hl 0 rfl) ?_
          refine lv_iconst (v := 3) hx hb dX12_groups_227 (by decide) ?_
          refine lv_iconst (v := 1) hx hb dX12_groups_228 (by decide) ?_
          obtain ⟨p45, hcp45, hf⟩ := hf_bind hf
          have hFc := r_free hD hS hA
          refine va_callv (va_runV (As := [.int 3, .int 1]) (rest := []) ⟨hx, hb, hml, hown, hts⟩ (c_X12_then l dC dI _ Q N p43.2 3 1 p45 hcp45) (cwV 2 hts hX12_groups_X12_then_v393 rfl rfl rfl (by decide +kernel) ⟨Nat.le_of_ble_eq_true rfl, Nat.le_of_ble_eq_true rfl⟩) ⟨zPre.blind, va_recv hK hP (ci := 11) (q0 := 0) rfl rfl, zPre.go hZ hP hK hD⟩ rfl rfl hl.1 rfl (lv_room (Nat.le_of_ble_eq_true rfl)) dX12_groups_229 ⟨Nat.le_of_ble_eq_true rfl, Nat.le_of_ble_eq_true rfl⟩) hS (fun q _ h => hFc q h) hFc (fun u9 t9 H1 locs ht hvm hw hB hz1 hk1 hS => ?_)
          obtain ⟨hP, hK1, hD1⟩ := hB
          rw [ht] at hP
          have hD := hD1.weaken (fun _ _ _ h => hFc _ h)
          generalize H1 = H at hP hS ⊢
          refine lv_goto (tgt := 363) hx hb dX12_groups_232 (by decide) ?_
          obtain rfl := Option.some.inj hf
          exact W.vret hx hb hr (fun t ht hW => ⟨⟨(), rfl, trivial, by rw [ht]; exact hP, va_K.moved hW.alike hK, hD⟩, hS.F ht⟩) hS.2.2 dX12_groups_363
        ·
          replace hf := (if_pos c38).symm.trans hf
          refine lv_aload_n hx hb dX12_groups_191 rfl (lv_at hl 0 rfl) ?_
          refine lv_iconst (v := 4) hx hb dX12_groups_192 (by decide) ?_
          refine lv_aload_n hx hb dX12_groups_193 rfl (lv_at hl 0 rfl) ?_
          refine rG_11 (v := (σ.i 11)) hx hb hts i_X12_groups_X12 hown hK hP (hts (.fieldLink RX12 304 "StatementRules2Model" "from" "I") k_X12_groups_fieldLink_RX12_304_SRModel_from_I) dX12_groups_194 rfl ?_
          obtain ⟨p47, hcp47, hf⟩ := hf_bind hf
          have hFc := r_free hD hS hA
          refine va_callv (va_runV (As := [.int 4, .int (σ.i 11)]) (rest := []) ⟨hx, hb, hml, hown, hts⟩ (c_X12_fail l dC dI _ Q N σ 4 (σ.i 11) p47 hcp47) (cwV 2 hts hX12_groups_X12_fail_v337 rfl rfl rfl (by decide +kernel) ⟨Nat.le_of_ble_eq_true rfl, Nat.le_of_ble_eq_true rfl⟩) ⟨zPre.blind, va_recv hK hP (ci := 11) (q0 := 0) rfl rfl, zPre.go hZ hP hK hD⟩ rfl rfl hl.1 rfl (lv_room (Nat.le_of_ble_eq_true rfl)) dX12_groups_197 ⟨Nat.le_of_ble_eq_true rfl, Nat.le_of_ble_eq_true rfl⟩) hS (fun q _ h => hFc q h) hFc (fun u9 t9 H1 locs ht hvm hw hB hz1 hk1 hS => ?_)
          obtain ⟨hP, hK1, hD1⟩ := hB
          rw [ht] at hP
          have hD := hD1.weaken (fun _ _ _ h => hFc _ h)
          generalize H1 = H at hP hS ⊢
          obtain rfl := Option.some.inj hf
          exact W.vret hx hb hr (fun t ht hW => ⟨⟨(), rfl, trivial, by rw [ht]; exact hP, va_K.moved hW.alike hK, hD⟩, hS.F ht⟩) hS.2.2 dX12_groups_200
    ·
      replace hf := (if_pos c19).symm.trans hf
      refine lv_aload_n hx hb dX12_groups_143 rfl (lv_at hl 0 rfl) ?_
      obtain ⟨p49, hcp49, hf⟩ := hf_bind hf
      have hFc := r_free hD hS hA
      refine va_callv (va_runV (As := []) (rest := []) ⟨hx, hb, hml, hown, hts⟩ (c_X12_next l dC dI _ Q N σ p49 hcp49) (cwV 0 hts hX12_groups_X12_next_v345 rfl rfl rfl (by decide +kernel) ⟨Nat.le_of_ble_eq_true rfl, Nat.le_of_ble_eq_true rfl⟩) ⟨zPre.blind, va_recv hK hP (ci := 11) (q0 := 0) rfl rfl, zPre.go hZ hP hK hD⟩ rfl rfl hl.1 rfl (lv_room (Nat.le_of_ble_eq_true rfl)) dX12_groups_144 ⟨Nat.le_of_ble_eq_true rfl, Nat.le_of_ble_eq_true rfl⟩) hS (fun q _ h => hFc q h) hFc (fun u9 t9 H1 locs ht hvm hw hB hz1 hk1 hS => ?_)
      obtain ⟨hP, hK1, hD1⟩ := hB
      rw [ht] at hP
      have hD := hD1.weaken (fun _ _ _ h => hFc _ h)
      generalize H1 = H at hP hS ⊢
      refine lv_aload_n hx hb dX12_groups_147 rfl (lv_at hl 0 rfl) ?_
      refine lv_iload_n hx hb dX12_groups_148 rfl (lv_at hl 1 rfl) ?_
      obtain ⟨p51, hcp51, hf⟩ := hf_bind hf
      have hFc := r_free hD hS hA
      refine va_calli (va_runV (As := [.int x1]) (rest := []) ⟨hx, hb, hml, hown, hts⟩ (c_X12_caseNumber l dC dI _ Q N p49 x1 p51 hcp51) (cwV 1 hts hX12_groups_X12_caseNumber_v484 rfl rfl rfl (by decide +kernel) ⟨Nat.le_of_ble_eq_true rfl, Nat.le_of_ble_eq_true rfl⟩) ⟨zPre.blind, va_recv hK hP (ci := 11) (q0 := 0) rfl rfl, zPre.go hZ hP hK hD⟩ rfl rfl hl.1 rfl (lv_room (Nat.le_of_ble_eq_true rfl)) dX12_groups_149 ⟨Nat.le_of_ble_eq_true rfl, Nat.le_of_ble_eq_true rfl⟩) hS (fun q _ h => hFc q h) hFc (fun r52 u9 t9 H1 locs ht hvm hw hB hz1 hk1 hS => ?_)
      obtain ⟨hP, hK1, hD1⟩ := hB
      rw [ht] at hP
      have hD := hD1.weaken (fun _ _ _ h => hFc _ h)
      generalize H1 = H at hP hS ⊢
      obtain rfl : r52 = p51.1 := hw
      refine lv_if_eq (tgt := 363) hx hb dX12_groups_152 (by decide) (fun c53 => ?_) (fun c53 => ?_)
      ·
        replace hf := (if_pos c53).symm.trans hf
        obtain rfl := Option.some.inj hf
        exact W.vret hx hb hr (fun t ht hW => ⟨⟨(), rfl, trivial, by rw [ht]; exact hP, va_K.moved hW.alike hK, hD⟩, hS.F ht⟩) hS.2.2 dX12_groups_363
      ·
        replace hf := (if_neg c53).symm.trans hf
        refine lv_aload_n hx hb dX12_groups_155 rfl (lv_at hl 0 rfl) ?_
        refine lv_bipush (v := 58) hx hb dX12_groups_156 (by decide) ?_
        obtain ⟨p54, hcp54, hf⟩ := hf_bind hf
        have hFc := r_free hD hS hA
        refine va_calli (va_runV (As := [.int 58]) (rest := []) ⟨hx, hb, hml, hown, hts⟩ (c_X12_need l dC dI _ Q N p51.2 58 p54 hcp54) (cwV 1 hts hX12_groups_X12_need_v355 rfl rfl rfl (by decide +kernel) ⟨Nat.le_of_ble_eq_true rfl, Nat.le_of_ble_eq_true rfl⟩) ⟨zPre.blind, va_recv hK hP (ci := 11) (q0 := 0) rfl rfl, zPre.go hZ hP hK hD⟩ rfl rfl hl.1 rfl (lv_room (Nat.le_of_ble_eq_true rfl)) dX12_groups_158 ⟨Nat.le_of_ble_eq_true rfl, Nat.le_of_ble_eq_true rfl⟩) hS (fun q _ h => hFc q h) hFc (fun r55 u9 t9 H1 locs ht hvm hw hB hz1 hk1 hS => ?_)
        obtain ⟨hP, hK1, hD1⟩ := hB
        rw [ht] at hP
        have hD := hD1.weaken (fun _ _ _ h => hFc _ h)
        generalize H1 = H at hP hS ⊢
        obtain rfl : r55 = p54.1 := hw
        refine lv_pop hx hb dX12_groups_161 rfl ?_
        refine lv_aload_n hx hb dX12_groups_162 rfl (lv_at hl 0 rfl) ?_
        refine lv_iconst (v := 3) hx hb dX12_groups_163 (by decide) ?_
        refine lv_iconst (v := 1) hx hb dX12_groups_164 (by decide) ?_
        obtain ⟨p56, hcp56, hf⟩ := hf_bind hf
        have hFc := r_free hD hS hA
        refine va_callv (va_runV (As := [.int 3, .int 1]) (rest := []) ⟨hx, hb, hml, hown, hts⟩ (c_X12_then l dC dI _ Q N p54.2 3 1 p56 hcp56) (cwV 2 hts hX12_groups_X12_then_v393 rfl rfl rfl (by decide +kernel) ⟨Nat.le_of_ble_eq_true rfl, Nat.le_of_ble_eq_true rfl⟩) ⟨zPre.blind, va_recv hK hP (ci := 11) (q0 := 0) rfl rfl, zPre.go hZ hP hK hD⟩ rfl rfl hl.1 rfl (lv_room (Nat.le_of_ble_eq_true rfl)) dX12_groups_165 ⟨Nat.le_of_ble_eq_true rfl, Nat.le_of_ble_eq_true rfl⟩) hS (fun q _ h => hFc q h) hFc (fun u9 t9 H1 locs ht hvm hw hB hz1 hk1 hS => ?_)
        obtain ⟨hP, hK1, hD1⟩ := hB
        rw [ht] at hP
        have hD := hD1.weaken (fun _ _ _ h => hFc _ h)
        generalize H1 = H at hP hS ⊢
        refine lv_goto (tgt := 363) hx hb dX12_groups_168 (by decide) ?_
        obtain rfl := Option.some.inj hf
        exact W.vret hx hb hr (fun t ht hW => ⟨⟨(), rfl, trivial, by rw [ht]; exact hP, va_K.moved hW.alike hK, hD⟩, hS.F ht⟩) hS.2.2 dX12_groups_363
  replace hf := (if_neg c18).symm.trans hf
  refine lv_tableOut (tgt := 338) hx hb dX12_groups_6 (by have := z_ton (a := 0) c2 (by decide); have := z_ton (a := 1) c9 (by decide); have := z_ton (a := 2) c18 (by decide); omega) (by decide) ?_
  refine lv_aload_n hx hb dX12_groups_338 rfl (lv_at hl 0 rfl) ?_
  refine rG_70 hx hb hts i_X12_groups_X12 hown hK hP (hts (.fieldLink RX12 192 "StatementRules2Model" "fw" "[I") k_X12_groups_fieldLink_RX12_192_SRModel_fw_I) dX12_groups_339 ?_
  refine lv_iload_n hx hb dX12_groups_342 rfl (lv_at hl 1 rfl) ?_
  refine lv_aload_n hx hb dX12_groups_343 rfl (lv_at hl 0 rfl) ?_
  refine rG_75 (v := (σ.i 75)) hx hb hts i_X12_groups_X12 hown hK hP (hts (.fieldLink RX12 396 "StatementRules2Model" "res" "Z") k_X12_groups_fieldLink_RX12_396_SRModel_res_Z) dX12_groups_344 rfl ?_
  refine lv_if_eq (tgt := 354) hx hb dX12_groups_347 (by decide) (fun c58 => ?_) (fun c58 => ?_)
  ·
    replace hf := (if_pos c58).symm.trans hf
    refine lv_iconst (v := 0) hx hb dX12_groups_354 (by decide) ?_
    refine rS_70 hx hb hK hP hD hS b1 dX12_groups_355 (fun H locs hP hD hS => ?_)
    exact j_X12_groups_356 l dC dI Q N R hx hb hr hml hown hts hlocks hZ hA hK (RS.setA σ 70 ((x1 : Int32).toNatClampNeg) 0) x1 _ _ _ hf hP hD hS (lv_sub hl [0, 1] rfl)
  ·
    replace hf := (if_neg c58).symm.trans hf
    refine lv_iconst (v := 1) hx hb dX12_groups_350 (by decide) ?_
    refine lv_goto (tgt := 355) hx hb dX12_groups_351 (by decide) ?_
    refine rS_70 hx hb hK hP hD hS b1 dX12_groups_355 (fun H locs hP hD hS => ?_)
    exact j_X12_groups_356 l dC dI Q N R hx hb hr hml hown hts hlocks hZ hA hK (RS.setA σ 70 ((x1 : Int32).toNatClampNeg) 1) x1 _ _ _ hf hP hD hS (lv_sub hl [0, 1] rfl)
theorem k_X12_catching_fieldLink_RX12_561_SRModel_catches_I : Cond.fieldLink RX12 561 "StatementRules2Model" "catches" "I" ∈ wzX12_catching := List.mem_cons_of_mem _ (List.mem_append_left _ (List.mem_of_getElem? (i := 0) rfl))
theorem i_X12_catching_X12 : ∀ w ∈ wsX120, w ∈ wzX12_catching := fun _ h => List.mem_cons_of_mem _ (List.mem_append_right _ (List.mem_append_left _ (h)))
theorem k_X12_catching_fieldLink_RX12_307_SRModel_tok_I : Cond.fieldLink RX12 307 "StatementRules2Model" "tok" "I" ∈ wzX12_catching := List.mem_cons_of_mem _ (List.mem_append_left _ (List.mem_of_getElem? (i := 1) rfl))
theorem k_X12_catching_fieldLink_RX12_327_SRModel_name_J : Cond.fieldLink RX12 327 "StatementRules2Model" "name" "J" ∈ wzX12_catching := List.mem_cons_of_mem _ (List.mem_append_left _ (List.mem_of_getElem? (i := 2) rfl))
theorem k_X12_catching_fieldLink_RX12_117_SRModel_catchAt_I : Cond.fieldLink RX12 117 "StatementRules2Model" "catchAt" "[I" ∈ wzX12_catching := List.mem_cons_of_mem _ (List.mem_append_left _ (List.mem_of_getElem? (i := 3) rfl))
theorem k_X12_catching_fieldLink_RX12_358_SRModel_codes_I : Cond.fieldLink RX12 358 "StatementRules2Model" "codes" "I" ∈ wzX12_catching := List.mem_cons_of_mem _ (List.mem_append_left _ (List.mem_of_getElem? (i := 4) rfl))
theorem k_X12_catching_fieldLink_RX12_120_SRModel_catchSlot_I : Cond.fieldLink RX12 120 "StatementRules2Model" "catchSlot" "[I" ∈ wzX12_catching := List.mem_cons_of_mem _ (List.mem_append_left _ (List.mem_of_getElem? (i := 5) rfl))
theorem k_X12_catching_fieldLink_RX12_304_SRModel_from_I : Cond.fieldLink RX12 304 "StatementRules2Model" "from" "I" ∈ wzX12_catching := List.mem_cons_of_mem _ (List.mem_append_left _ (List.mem_of_getElem? (i := 6) rfl))
theorem k_X12_catching_fieldLink_RX12_291_SRModel_fault_I : Cond.fieldLink RX12 291 "StatementRules2Model" "fault" "I" ∈ wzX12_catching := List.mem_cons_of_mem _ (List.mem_append_left _ (List.mem_of_getElem? (i := 7) rfl))
theorem k_X12_catching_fieldLink_RX12_314_SRModel_number_I : Cond.fieldLink RX12 314 "StatementRules2Model" "number" "I" ∈ wzX12_catching := List.mem_cons_of_mem _ (List.mem_append_left _ (List.mem_of_getElem? (i := 8) rfl))
theorem k_X12_catching_fieldLink_RX12_13_SRModel_kinds_I : Cond.fieldLink RX12 13 "StatementRules2Model" "kinds" "I" ∈ wzX12_catching := List.mem_cons_of_mem _ (List.mem_append_left _ (List.mem_of_getElem? (i := 9) rfl))
theorem k_X12_catching_fieldLink_RX12_105_SRModel_tryCatch_I : Cond.fieldLink RX12 105 "StatementRules2Model" "tryCatch" "[I" ∈ wzX12_catching := List.mem_cons_of_mem _ (List.mem_append_left _ (List.mem_of_getElem? (i := 10) rfl))
theorem k_X12_catching_fieldLink_RX12_180_SRModel_fp_I : Cond.fieldLink RX12 180 "StatementRules2Model" "fp" "[I" ∈ wzX12_catching := List.mem_cons_of_mem _ (List.mem_append_left _ (List.mem_of_getElem? (i := 11) rfl))
theorem k_X12_catching_fieldLink_RX12_114_SRModel_catchKind_I : Cond.fieldLink RX12 114 "StatementRules2Model" "catchKind" "[I" ∈ wzX12_catching := List.mem_cons_of_mem _ (List.mem_append_left _ (List.mem_of_getElem? (i := 12) rfl))
theorem k_X12_catching_fieldLink_RX12_123_SRModel_catchNext_I : Cond.fieldLink RX12 123 "StatementRules2Model" "catchNext" "[I" ∈ wzX12_catching := List.mem_cons_of_mem _ (List.mem_append_left _ (List.mem_of_getElem? (i := 13) rfl))
theorem k_X12_catching_fieldLink_RX12_198_SRModel_fy_I : Cond.fieldLink RX12 198 "StatementRules2Model" "fy" "[I" ∈ wzX12_catching := List.mem_cons_of_mem _ (List.mem_append_left _ (List.mem_of_getElem? (i := 14) rfl))
set_option maxHeartbeats 4000000 in
set_option maxRecDepth 100000 in
theorem j_X12_catching_323 {p : Program} {e : Env} {s : State} {m : MethodId} {args : Array Value} {below : List Frame} {meth : Method} {c : Code} {A : Nat → Prop} (l : Launch) (dC : Nat → ClassId) (dI : Nat → Nat → Nat) (Q : RQ) (N : Nat) (R : RS) (hx : p.tables.exec = Jvm.exec) (hb : c.code = cX12_catching) (hr : meth.sig.returnType = none) (hml : c.maxLocals = 6) (hown : s.vm.findClass RX12 = some m.cls) (hts : ∀ w ∈ wzX12_catching, w.before args s = true) (hlocks : meth.locks = false) (hZ : zAMB s) (hA : ∀ q : Nat, s.heap.size ≤ q → A q) (hK : va_K (dC, dI) vwCl (rT Q) s) : ∀ (n9 : Nat), ∀ (σ : RS) (x4 : Int32) (x5 : Int32) (H : Heap) (locs : List Loc) (ls : Array Slot), f_X12_catching_323 N n9 σ x4 x5 = some R → va_P (dC, dI) vwCl (rW Q σ) H → va_D A (rW Q σ) → va_S A s.heap H locs → lv_has ls 6 [(0, .ref Q.h0), (4, .int x4), (5, .int x5)] → W p l e ({ frames := 6, cells := 0, slots := 0, locals := 360 }) s m args below meth c H locs 0 0 (MQ below (va_Qv (fun (_ : Unit) => True) (fun (_ : Unit) (t : State) => zPost dC dI A (rW Q R) (rT Q) t) A) args s 0 0 A) (F0 m 323 ls []) := by
  intro n9
  induction n9 with
  | zero => intro σ x4 x5 H locs ls hf; exact absurd hf (by intro h9; cases h9)
  | succ n9 ih =>
    intro σ x4 x5 H locs ls hf hP hD hS hl
    replace hf : b_X12_catching_323 N (f_X12_catching_323 N n9) σ x4 x5 = some R := hf
    unfold b_X12_catching_323 at hf
    refine lv_iload hx hb dX12_catching_323 (lv_at hl 2 rfl) ?_
    refine lv_aload_n hx hb dX12_catching_325 rfl (lv_at hl 0 rfl) ?_
    refine rG_33 (v := (σ.i 33)) hx hb hts i_X12_catching_X12 hown hK hP (hts (.fieldLink RX12 561 "StatementRules2Model" "catches" "I") k_X12_catching_fieldLink_RX12_561_SRModel_catches_I) dX12_catching_326 rfl ?_
    refine lv_icmp_ge (tgt := 358) hx hb dX12_catching_329 (by decide) (fun c19 => ?_) (fun c19 => ?_)
    ·
      replace hf := (if_pos c19).symm.trans hf
      refine lv_aload_n hx hb dX12_catching_358 rfl (lv_at hl 0 rfl) ?_
      refine lv_iconst (v := 3) hx hb dX12_catching_359 (by decide) ?_
      refine lv_iconst (v := 3) hx hb dX12_catching_360 (by decide) ?_
      obtain ⟨p20, hcp20, hf⟩ := hf_bind hf
      have hFc := r_free hD hS hA
      refine va_callv (va_runV (As := [.int 3, .int 3]) (rest := []) ⟨hx, hb, hml, hown, hts⟩ (c_X12_then l dC dI _ Q N σ 3 3 p20 hcp20) (cwV 2 hts hX12_catching_X12_then_v393 rfl rfl rfl (by decide +kernel) ⟨Nat.le_of_ble_eq_true rfl, Nat.le_of_ble_eq_true rfl⟩) ⟨zPre.blind, va_recv hK hP (ci := 11) (q0 := 0) rfl rfl, zPre.go hZ hP hK hD⟩ rfl rfl hl.1 rfl (lv_room (Nat.le_of_ble_eq_true rfl)) dX12_catching_361 ⟨Nat.le_of_ble_eq_true rfl, Nat.le_of_ble_eq_true rfl⟩) hS (fun q _ h => hFc q h) hFc (fun u9 t9 H1 locs ht hvm hw hB hz1 hk1 hS => ?_)
      obtain ⟨hP, hK1, hD1⟩ := hB
      rw [ht] at hP
      have hD := hD1.weaken (fun _ _ _ h => hFc _ h)
      generalize H1 = H at hP hS ⊢
      obtain rfl := Option.some.inj hf
      exact W.vret hx hb hr (fun t ht hW => ⟨⟨(), rfl, trivial, by rw [ht]; exact hP, va_K.moved hW.alike hK, hD⟩, hS.F ht⟩) hS.2.2 dX12_catching_364
    ·
      replace hf := (if_neg c19).symm.trans hf
      refine lv_aload_n hx hb dX12_catching_332 rfl (lv_at hl 0 rfl) ?_
      refine rG_35 hx hb hts i_X12_catching_X12 hown hK hP (hts (.fieldLink RX12 117 "StatementRules2Model" "catchAt" "[I") k_X12_catching_fieldLink_RX12_117_SRModel_catchAt_I) dX12_catching_333 ?_
      refine lv_iload hx hb dX12_catching_336 (lv_at hl 2 rfl) ?_
      refine lv_aload_n hx hb dX12_catching_338 rfl (lv_at hl 0 rfl) ?_
      refine rG_20 (v := (σ.i 20)) hx hb hts i_X12_catching_X12 hown hK hP (hts (.fieldLink RX12 358 "StatementRules2Model" "codes" "I") k_X12_catching_fieldLink_RX12_358_SRModel_codes_I) dX12_catching_339 rfl ?_
      obtain ⟨b22, hf⟩ := hf_ite hf
      refine rS_35 hx hb hK hP hD hS b22 dX12_catching_342 (fun H locs hP hD hS => ?_)
      refine lv_aload_n hx hb dX12_catching_343 rfl (lv_at hl 0 rfl) ?_
      refine rG_36 hx hb hts i_X12_catching_X12 hown hK hP (hts (.fieldLink RX12 120 "StatementRules2Model" "catchSlot" "[I") k_X12_catching_fieldLink_RX12_120_SRModel_catchSlot_I) dX12_catching_344 ?_
      refine lv_iload hx hb dX12_catching_347 (lv_at hl 2 rfl) ?_
      refine lv_iload hx hb dX12_catching_349 (lv_at hl 1 rfl) ?_
      refine rS_36 hx hb hK hP hD hS b22 dX12_catching_351 (fun H locs hP hD hS => ?_)
      refine lv_iinc (v := (x5 + 1)) (lv' := [(5, .int (x5 + 1)), (0, .ref Q.h0), (4, .int x4)]) hx hb dX12_catching_352 hl (k := 2) rfl rfl (by decide) rfl (fun ls hl => ?_)
      refine lv_goto (tgt := 323) hx hb dX12_catching_355 (by decide) ?_
      exact ih (RS.setA (RS.setA σ 35 ((x5 : Int32).toNatClampNeg) (σ.i 20)) 36 ((x5 : Int32).toNatClampNeg) x4) x4 (x5 + 1) _ _ _ hf hP hD hS (lv_sub hl [1, 2, 0] rfl)
set_option maxHeartbeats 4000000 in
set_option maxRecDepth 100000 in
theorem j_X12_catching_277 {p : Program} {e : Env} {s : State} {m : MethodId} {args : Array Value} {below : List Frame} {meth : Method} {c : Code} {A : Nat → Prop} (l : Launch) (dC : Nat → ClassId) (dI : Nat → Nat → Nat) (Q : RQ) (N : Nat) (R : RS) (hx : p.tables.exec = Jvm.exec) (hb : c.code = cX12_catching) (hr : meth.sig.returnType = none) (hml : c.maxLocals = 6) (hown : s.vm.findClass RX12 = some m.cls) (hts : ∀ w ∈ wzX12_catching, w.before args s = true) (hlocks : meth.locks = false) (hZ : zAMB s) (hA : ∀ q : Nat, s.heap.size ≤ q → A q) (hK : va_K (dC, dI) vwCl (rT Q) s) : ∀ (σ : RS) (x2 : Int32) (H : Heap) (locs : List Loc) (ls : Array Slot), f_X12_catching_277 N σ x2 = some R → va_P (dC, dI) vwCl (rW Q σ) H → va_D A (rW Q σ) → va_S A s.heap H locs → lv_has ls 6 [(0, .ref Q.h0), (2, .int x2)] → W p l e ({ frames := 6, cells := 0, slots := 0, locals := 360 }) s m args below meth c H locs 0 0 (MQ below (va_Qv (fun (_ : Unit) => True) (fun (_ : Unit) (t : State) => zPost dC dI A (rW Q R) (rT Q) t) A) args s 0 0 A) (F0 m 277 ls []) := by
  intro σ x2 H locs ls hf hP hD hS hl
  unfold f_X12_catching_277 at hf
  refine lv_aload_n hx hb dX12_catching_277 rfl (lv_at hl 0 rfl) ?_
  refine lv_aload_n hx hb dX12_catching_278 rfl (lv_at hl 0 rfl) ?_
  refine rG_13 (v := σ.l) hx hb hts i_X12_catching_X12 hown hK hP (hts (.fieldLink RX12 327 "StatementRules2Model" "name" "J") k_X12_catching_fieldLink_RX12_327_SRModel_name_J) dX12_catching_279 rfl ?_
  obtain ⟨p10, hcp10, hf⟩ := hf_bind hf
  have hFc := r_free hD hS hA
  refine va_calli (va_runV (As := [.long σ.l]) (rest := []) ⟨hx, hb, hml, hown, hts⟩ (c_X12_seenAs l dC dI _ Q N σ σ.l p10 hcp10) (cwV 1 hts hX12_catching_X12_seenAs_v471 rfl rfl rfl (by decide +kernel) ⟨Nat.le_of_ble_eq_true rfl, Nat.le_of_ble_eq_true rfl⟩) ⟨zPre.blind, va_recv hK hP (ci := 11) (q0 := 0) rfl rfl, zPre.go hZ hP hK hD⟩ rfl rfl hl.1 rfl (lv_room (Nat.le_of_ble_eq_true rfl)) dX12_catching_282 ⟨Nat.le_of_ble_eq_true rfl, Nat.le_of_ble_eq_true rfl⟩) hS (fun q _ h => hFc q h) hFc (fun r11 u9 t9 H1 locs ht hvm hw hB hz1 hk1 hS => ?_)
  obtain ⟨hP, hK1, hD1⟩ := hB
  rw [ht] at hP
  have hD := hD1.weaken (fun _ _ _ h => hFc _ h)
  generalize H1 = H at hP hS ⊢
  obtain rfl : r11 = p10.1 := hw
  refine lv_if_lt (tgt := 298) hx hb dX12_catching_285 (by decide) (fun c12 => ?_) (fun c12 => ?_)
  ·
    replace hf := (if_pos c12).symm.trans hf
    refine lv_aload_n hx hb dX12_catching_298 rfl (lv_at hl 0 rfl) ?_
    refine lv_aload_n hx hb dX12_catching_299 rfl (lv_at hl 0 rfl) ?_
    refine rG_13 (v := p10.2.l) hx hb hts i_X12_catching_X12 hown hK hP (hts (.fieldLink RX12 327 "StatementRules2Model" "name" "J") k_X12_catching_fieldLink_RX12_327_SRModel_name_J) dX12_catching_300 rfl ?_
    refine lv_iconst (v := 1) hx hb dX12_catching_303 (by decide) ?_
    obtain ⟨p13, hcp13, hf⟩ := hf_bind hf
    have hFc := r_free hD hS hA
    refine va_calli (va_runV (As := [.long p10.2.l, .int 1]) (rest := []) ⟨hx, hb, hml, hown, hts⟩ (c_X12_see l dC dI _ Q N p10.2 p10.2.l 1 p13 hcp13) (cwV 2 hts hX12_catching_X12_see_v506 rfl rfl rfl (by decide +kernel) ⟨Nat.le_of_ble_eq_true rfl, Nat.le_of_ble_eq_true rfl⟩) ⟨zPre.blind, va_recv hK hP (ci := 11) (q0 := 0) rfl rfl, zPre.go hZ hP hK hD⟩ rfl rfl hl.1 rfl (lv_room (Nat.le_of_ble_eq_true rfl)) dX12_catching_304 ⟨Nat.le_of_ble_eq_true rfl, Nat.le_of_ble_eq_true rfl⟩) hS (fun q _ h => hFc q h) hFc (fun r14 u9 t9 H1 locs ht hvm hw hB hz1 hk1 hS => ?_)
    obtain ⟨hP, hK1, hD1⟩ := hB
    rw [ht] at hP
    have hD := hD1.weaken (fun _ _ _ h => hFc _ h)
    generalize H1 = H at hP hS ⊢
    obtain rfl : r14 = p13.1 := hw
    refine lv_istore (lv' := [(4, .int p13.1), (0, .ref Q.h0), (2, .int x2)]) hx hb dX12_catching_307 hl (by decide) rfl (fun ls hl => ?_)
    refine lv_aload_n hx hb dX12_catching_309 rfl (lv_at hl 1 rfl) ?_
    obtain ⟨p15, hcp15, hf⟩ := hf_bind hf
    have hFc := r_free hD hS hA
    refine va_callv (va_runV (As := []) (rest := []) ⟨hx, hb, hml, hown, hts⟩ (c_X12_next l dC dI _ Q N p13.2 p15 hcp15) (cwV 0 hts hX12_catching_X12_next_v345 rfl rfl rfl (by decide +kernel) ⟨Nat.le_of_ble_eq_true rfl, Nat.le_of_ble_eq_true rfl⟩) ⟨zPre.blind, va_recv hK hP (ci := 11) (q0 := 0) rfl rfl, zPre.go hZ hP hK hD⟩ rfl rfl hl.1 rfl (lv_room (Nat.le_of_ble_eq_true rfl)) dX12_catching_310 ⟨Nat.le_of_ble_eq_true rfl, Nat.le_of_ble_eq_true rfl⟩) hS (fun q _ h => hFc q h) hFc (fun u9 t9 H1 locs ht hvm hw hB hz1 hk1 hS => ?_)
    obtain ⟨hP, hK1, hD1⟩ := hB
    rw [ht] at hP
    have hD := hD1.weaken (fun _ _ _ h => hFc _ h)
    generalize H1 = H at hP hS ⊢
    refine lv_aload_n hx hb dX12_catching_313 rfl (lv_at hl 1 rfl) ?_
    refine lv_bipush (v := 41) hx hb dX12_catching_314 (by decide) ?_
    obtain ⟨p17, hcp17, hf⟩ := hf_bind hf
    have hFc := r_free hD hS hA
    refine va_calli (va_runV (As := [.int 41]) (rest := []) ⟨hx, hb, hml, hown, hts⟩ (c_X12_shut l dC dI _ Q N p15 41 p17 hcp17) (cwV 1 hts hX12_catching_X12_shut_v468 rfl rfl rfl (by decide +kernel) ⟨Nat.le_of_ble_eq_true rfl, Nat.le_of_ble_eq_true rfl⟩) ⟨zPre.blind, va_recv hK hP (ci := 11) (q0 := 0) rfl rfl, zPre.go hZ hP hK hD⟩ rfl rfl hl.1 rfl (lv_room (Nat.le_of_ble_eq_true rfl)) dX12_catching_316 ⟨Nat.le_of_ble_eq_true rfl, Nat.le_of_ble_eq_true rfl⟩) hS (fun q _ h => hFc q h) hFc (fun r18 u9 t9 H1 locs ht hvm hw hB hz1 hk1 hS => ?_)
    obtain ⟨hP, hK1, hD1⟩ := hB
    rw [ht] at hP
    have hD := hD1.weaken (fun _ _ _ h => hFc _ h)
    generalize H1 = H at hP hS ⊢
    obtain rfl : r18 = p17.1 := hw
    refine lv_pop hx hb dX12_catching_319 rfl ?_
    refine lv_iload_n hx hb dX12_catching_320 rfl (lv_at hl 2 rfl) ?_
    refine lv_istore (lv' := [(5, .int x2), (4, .int p13.1), (0, .ref Q.h0), (2, .int x2)]) hx hb dX12_catching_321 hl (by decide) rfl (fun ls hl => ?_)
    exact j_X12_catching_323 l dC dI Q N R hx hb hr hml hown hts hlocks hZ hA hK N p17.2 p13.1 x2 _ _ _ hf hP hD hS (lv_sub hl [2, 1, 0] rfl)
  ·
    replace hf := (if_neg c12).symm.trans hf
    refine lv_aload_n hx hb dX12_catching_288 rfl (lv_at hl 0 rfl) ?_
    refine lv_iconst (v := 4) hx hb dX12_catching_289 (by decide) ?_
    refine lv_aload_n hx hb dX12_catching_290 rfl (lv_at hl 0 rfl) ?_
    refine rG_11 (v := (p10.2.i 11)) hx hb hts i_X12_catching_X12 hown hK hP (hts (.fieldLink RX12 304 "StatementRules2Model" "from" "I") k_X12_catching_fieldLink_RX12_304_SRModel_from_I) dX12_catching_291 rfl ?_
    obtain ⟨p23, hcp23, hf⟩ := hf_bind hf
    have hFc := r_free hD hS hA
    refine va_callv (va_runV (As := [.int 4, .int (p10.2.i 11)]) (rest := []) ⟨hx, hb, hml, hown, hts⟩ (c_X12_fail l dC dI _ Q N p10.2 4 (p10.2.i 11) p23 hcp23) (cwV 2 hts hX12_catching_X12_fail_v337 rfl rfl rfl (by decide +kernel) ⟨Nat.le_of_ble_eq_true rfl, Nat.le_of_ble_eq_true rfl⟩) ⟨zPre.blind, va_recv hK hP (ci := 11) (q0 := 0) rfl rfl, zPre.go hZ hP hK hD⟩ rfl rfl hl.1 rfl (lv_room (Nat.le_of_ble_eq_true rfl)) dX12_catching_294 ⟨Nat.le_of_ble_eq_true rfl, Nat.le_of_ble_eq_true rfl⟩) hS (fun q _ h => hFc q h) hFc (fun u9 t9 H1 locs ht hvm hw hB hz1 hk1 hS => ?_)
    obtain ⟨hP, hK1, hD1⟩ := hB
    rw [ht] at hP
    have hD := hD1.weaken (fun _ _ _ h => hFc _ h)
    generalize H1 = H at hP hS ⊢
    obtain rfl := Option.some.inj hf
    exact W.vret hx hb hr (fun t ht hW => ⟨⟨(), rfl, trivial, by rw [ht]; exact hP, va_K.moved hW.alike hK, hD⟩, hS.F ht⟩) hS.2.2 dX12_catching_297
set_option maxHeartbeats 4000000 in
set_option maxRecDepth 100000 in
theorem j_X12_catching_256 {p : Program} {e : Env} {s : State} {m : MethodId} {args : Array Value} {below : List Frame} {meth : Method} {c : Code} {A : Nat → Prop} (l : Launch) (dC : Nat → ClassId) (dI : Nat → Nat → Nat) (Q : RQ) (N : Nat) (R : RS) (hx : p.tables.exec = Jvm.exec) (hb : c.code = cX12_catching) (hr : meth.sig.returnType = none) (hml : c.maxLocals = 6) (hown : s.vm.findClass RX12 = some m.cls) (hts : ∀ w ∈ wzX12_catching, w.before args s = true) (hlocks : meth.locks = false) (hZ : zAMB s) (hA : ∀ q : Nat, s.heap.size ≤ q → A q) (hK : va_K (dC, dI) vwCl (rT Q) s) : ∀ (σ : RS) (x2 : Int32) (H : Heap) (locs : List Loc) (ls : Array Slot), f_X12_catching_256 N σ x2 = some R → va_P (dC, dI) vwCl (rW Q σ) H → va_D A (rW Q σ) → va_S A s.heap H locs → lv_has ls 6 [(0, .ref Q.h0), (2, .int x2)] → W p l e ({ frames := 6, cells := 0, slots := 0, locals := 360 }) s m args below meth c H locs 0 0 (MQ below (va_Qv (fun (_ : Unit) => True) (fun (_ : Unit) (t : State) => zPost dC dI A (rW Q R) (rT Q) t) A) args s 0 0 A) (F0 m 256 ls []) := by
  intro σ x2 H locs ls hf hP hD hS hl
  unfold f_X12_catching_256 at hf
  refine lv_aload_n hx hb dX12_catching_256 rfl (lv_at hl 0 rfl) ?_
  refine lv_aload_n hx hb dX12_catching_257 rfl (lv_at hl 0 rfl) ?_
  refine rG_10 (v := (σ.i 10)) hx hb hts i_X12_catching_X12 hown hK hP (hts (.fieldLink RX12 307 "StatementRules2Model" "tok" "I") k_X12_catching_fieldLink_RX12_307_SRModel_tok_I) dX12_catching_258 rfl ?_
  refine lv_iconst (v := 2) hx hb dX12_catching_261 (by decide) ?_
  refine lv_icmp_ne (tgt := 269) hx hb dX12_catching_262 (by decide) (fun c6 => ?_) (fun c6 => ?_)
  ·
    replace hf := (if_neg c6).symm.trans hf
    refine lv_iconst (v := 0) hx hb dX12_catching_269 (by decide) ?_
    obtain ⟨p7, hcp7, hf⟩ := hf_bind hf
    have hFc := r_free hD hS hA
    refine va_calli (va_runV (As := [.int 0]) (rest := []) ⟨hx, hb, hml, hown, hts⟩ (c_X12_can l dC dI _ Q N σ 0 p7 hcp7) (cwV 1 hts hX12_catching_X12_can_v341 rfl rfl rfl (by decide +kernel) ⟨Nat.le_of_ble_eq_true rfl, Nat.le_of_ble_eq_true rfl⟩) ⟨zPre.blind, va_recv hK hP (ci := 11) (q0 := 0) rfl rfl, zPre.go hZ hP hK hD⟩ rfl rfl hl.1 rfl (lv_room (Nat.le_of_ble_eq_true rfl)) dX12_catching_270 ⟨Nat.le_of_ble_eq_true rfl, Nat.le_of_ble_eq_true rfl⟩) hS (fun q _ h => hFc q h) hFc (fun r8 u9 t9 H1 locs ht hvm hw hB hz1 hk1 hS => ?_)
    obtain ⟨hP, hK1, hD1⟩ := hB
    rw [ht] at hP
    have hD := hD1.weaken (fun _ _ _ h => hFc _ h)
    generalize H1 = H at hP hS ⊢
    obtain rfl : r8 = p7.1 := hw
    refine lv_if_ne (tgt := 277) hx hb dX12_catching_273 (by decide) (fun c9 => ?_) (fun c9 => ?_)
    ·
      replace hf := (if_neg c9).symm.trans hf
      exact j_X12_catching_277 l dC dI Q N R hx hb hr hml hown hts hlocks hZ hA hK p7.2 x2 _ _ _ hf hP hD hS (lv_sub hl [0, 1] rfl)
    ·
      replace hf := (if_pos c9).symm.trans hf
      obtain rfl := Option.some.inj hf
      exact W.vret hx hb hr (fun t ht hW => ⟨⟨(), rfl, trivial, by rw [ht]; exact hP, va_K.moved hW.alike hK, hD⟩, hS.F ht⟩) hS.2.2 dX12_catching_276
  ·
    replace hf := (if_pos c6).symm.trans hf
    refine lv_iconst (v := 1) hx hb dX12_catching_265 (by decide) ?_
    refine lv_goto (tgt := 270) hx hb dX12_catching_266 (by decide) ?_
    obtain ⟨p25, hcp25, hf⟩ := hf_bind hf
    have hFc := r_free hD hS hA
    refine va_calli (va_runV (As := [.int 1]) (rest := []) ⟨hx, hb, hml, hown, hts⟩ (c_X12_can l dC dI _ Q N σ 1 p25 hcp25) (cwV 1 hts hX12_catching_X12_can_v341 rfl rfl rfl (by decide +kernel) ⟨Nat.le_of_ble_eq_true rfl, Nat.le_of_ble_eq_true rfl⟩) ⟨zPre.blind, va_recv hK hP (ci := 11) (q0 := 0) rfl rfl, zPre.go hZ hP hK hD⟩ rfl rfl hl.1 rfl (lv_room (Nat.le_of_ble_eq_true rfl)) dX12_catching_270 ⟨Nat.le_of_ble_eq_true rfl, Nat.le_of_ble_eq_true rfl⟩) hS (fun q _ h => hFc q h) hFc (fun r26 u9 t9 H1 locs ht hvm hw hB hz1 hk1 hS => ?_)
    obtain ⟨hP, hK1, hD1⟩ := hB
    rw [ht] at hP
    have hD := hD1.weaken (fun _ _ _ h => hFc _ h)
    generalize H1 = H at hP hS ⊢
    obtain rfl : r26 = p25.1 := hw
    refine lv_if_ne (tgt := 277) hx hb dX12_catching_273 (by decide) (fun c27 => ?_) (fun c27 => ?_)
    ·
      replace hf := (if_neg c27).symm.trans hf
      exact j_X12_catching_277 l dC dI Q N R hx hb hr hml hown hts hlocks hZ hA hK p25.2 x2 _ _ _ hf hP hD hS (lv_sub hl [0, 1] rfl)
    ·
      replace hf := (if_pos c27).symm.trans hf
      obtain rfl := Option.some.inj hf
      exact W.vret hx hb hr (fun t ht hW => ⟨⟨(), rfl, trivial, by rw [ht]; exact hP, va_K.moved hW.alike hK, hD⟩, hS.F ht⟩) hS.2.2 dX12_catching_276
set_option maxHeartbeats 4000000 in
set_option maxRecDepth 100000 in
theorem j_X12_catching_82 {p : Program} {e : Env} {s : State} {m : MethodId} {args : Array Value} {below : List Frame} {meth : Method} {c : Code} {A : Nat → Prop} (l : Launch) (dC : Nat → ClassId) (dI : Nat → Nat → Nat) (Q : RQ) (N : Nat) (R : RS) (hx : p.tables.exec = Jvm.exec) (hb : c.code = cX12_catching) (hr : meth.sig.returnType = none) (hml : c.maxLocals = 6) (hown : s.vm.findClass RX12 = some m.cls) (hts : ∀ w ∈ wzX12_catching, w.before args s = true) (hlocks : meth.locks = false) (hZ : zAMB s) (hA : ∀ q : Nat, s.heap.size ≤ q → A q) (hK : va_K (dC, dI) vwCl (rT Q) s) (K18 : RS → Int32 → Int32 → Int32 → Option (RS)) (hK18 : ∀ (σ : RS) (x1 : Int32) (x2 : Int32) (x3 : Int32) (H : Heap) (locs : List Loc) (ls : Array Slot), K18 σ x1 x2 x3 = some R → va_P (dC, dI) vwCl (rW Q σ) H → va_D A (rW Q σ) → va_S A s.heap H locs → lv_has ls 6 [(0, .ref Q.h0), (1, .int x1), (2, .int x2), (3, .int x3)] → W p l e ({ frames := 6, cells := 0, slots := 0, locals := 360 }) s m args below meth c H locs 0 0 (MQ below (va_Qv (fun (_ : Unit) => True) (fun (_ : Unit) (t : State) => zPost dC dI A (rW Q R) (rT Q) t) A) args s 0 0 A) (F0 m 18 ls [])) : ∀ (n9 : Nat), ∀ (σ : RS) (x1 : Int32) (x2 : Int32) (x4 : Int32) (H : Heap) (locs : List Loc) (ls : Array Slot), f_X12_catching_82 N K18 n9 σ x1 x2 x4 = some R → va_P (dC, dI) vwCl (rW Q σ) H → va_D A (rW Q σ) → va_S A s.heap H locs → lv_has ls 6 [(0, .ref Q.h0), (1, .int x1), (2, .int x2), (4, .int x4)] → W p l e ({ frames := 6, cells := 0, slots := 0, locals := 360 }) s m args below meth c H locs 0 0 (MQ below (va_Qv (fun (_ : Unit) => True) (fun (_ : Unit) (t : State) => zPost dC dI A (rW Q R) (rT Q) t) A) args s 0 0 A) (F0 m 82 ls []) := by
  intro n9
  induction n9 with
  | zero => intro σ x1 x2 x4 H locs ls hf; exact absurd hf (by intro h9; cases h9)
  | succ n9 ih =>
    intro σ x1 x2 x4 H locs ls hf hP hD hS hl
    replace hf : b_X12_catching_82 N K18 (f_X12_catching_82 N K18 n9) σ x1 x2 x4 = some R := hf
    unfold b_X12_catching_82 at hf
    refine lv_iload hx hb dX12_catching_82 (lv_at hl 3 rfl) ?_
    refine lv_if_lt (tgt := 134) hx hb dX12_catching_84 (by decide) (fun c36 => ?_) (fun c36 => ?_)
    ·
      replace hf := (if_pos c36).symm.trans hf
      refine lv_aload_n hx hb dX12_catching_134 rfl (lv_at hl 0 rfl) ?_
      refine rG_34 hx hb hts i_X12_catching_X12 hown hK hP (hts (.fieldLink RX12 114 "StatementRules2Model" "catchKind" "[I") k_X12_catching_fieldLink_RX12_114_SRModel_catchKind_I) dX12_catching_135 ?_
      refine lv_aload_n hx hb dX12_catching_138 rfl (lv_at hl 0 rfl) ?_
      refine rG_33 (v := (σ.i 33)) hx hb hts i_X12_catching_X12 hown hK hP (hts (.fieldLink RX12 561 "StatementRules2Model" "catches" "I") k_X12_catching_fieldLink_RX12_561_SRModel_catches_I) dX12_catching_139 rfl ?_
      refine lv_aload_n hx hb dX12_catching_142 rfl (lv_at hl 0 rfl) ?_
      refine rG_14 (v := (σ.i 14)) hx hb hts i_X12_catching_X12 hown hK hP (hts (.fieldLink RX12 314 "StatementRules2Model" "number" "I") k_X12_catching_fieldLink_RX12_314_SRModel_number_I) dX12_catching_143 rfl ?_
      obtain ⟨b37, hf⟩ := hf_ite hf
      refine rS_34 hx hb hK hP hD hS b37 dX12_catching_146 (fun H locs hP hD hS => ?_)
      refine lv_aload_n hx hb dX12_catching_147 rfl (lv_at hl 0 rfl) ?_
      refine rG_37 hx hb hts i_X12_catching_X12 hown hK hP (hts (.fieldLink RX12 123 "StatementRules2Model" "catchNext" "[I") k_X12_catching_fieldLink_RX12_123_SRModel_catchNext_I) dX12_catching_148 ?_
      refine lv_aload_n hx hb dX12_catching_151 rfl (lv_at hl 0 rfl) ?_
      refine rG_33 (v := (σ.i 33)) hx hb hts i_X12_catching_X12 hown hK hP (hts (.fieldLink RX12 561 "StatementRules2Model" "catches" "I") k_X12_catching_fieldLink_RX12_561_SRModel_catches_I) dX12_catching_152 rfl ?_
      refine lv_iconst (v := (-1)) hx hb dX12_catching_155 (by decide) ?_
      refine rS_37 hx hb hK hP hD hS b37 dX12_catching_156 (fun H locs hP hD hS => ?_)
      refine lv_aload_n hx hb dX12_catching_157 rfl (lv_at hl 0 rfl) ?_
      refine rG_72 hx hb hts i_X12_catching_X12 hown hK hP (hts (.fieldLink RX12 198 "StatementRules2Model" "fy" "[I") k_X12_catching_fieldLink_RX12_198_SRModel_fy_I) dX12_catching_158 ?_
      refine lv_iload_n hx hb dX12_catching_161 rfl (lv_at hl 1 rfl) ?_
      obtain ⟨b38, hf⟩ := hf_ite hf
      refine rL_72 (v := (σ.a 72 ((x1 : Int32).toNatClampNeg))) hx hb hK hP b38 dX12_catching_162 rfl ?_
      refine lv_if_ge (tgt := 184) hx hb dX12_catching_163 (by decide) (fun c39 => ?_) (fun c39 => ?_)
      ·
        replace hf := (if_pos c39).symm.trans hf
        refine lv_aload_n hx hb dX12_catching_184 rfl (lv_at hl 0 rfl) ?_
        refine rG_37 hx hb hts i_X12_catching_X12 hown hK hP (hts (.fieldLink RX12 123 "StatementRules2Model" "catchNext" "[I") k_X12_catching_fieldLink_RX12_123_SRModel_catchNext_I) dX12_catching_185 ?_
        refine lv_aload_n hx hb dX12_catching_188 rfl (lv_at hl 0 rfl) ?_
        refine rG_72 hx hb hts i_X12_catching_X12 hown hK hP (hts (.fieldLink RX12 198 "StatementRules2Model" "fy" "[I") k_X12_catching_fieldLink_RX12_198_SRModel_fy_I) dX12_catching_189 ?_
        refine lv_iload_n hx hb dX12_catching_192 rfl (lv_at hl 1 rfl) ?_
        refine rL_72 (v := (σ.a 72 ((x1 : Int32).toNatClampNeg))) hx hb hK hP b38 dX12_catching_193 rfl ?_
        refine lv_aload_n hx hb dX12_catching_194 rfl (lv_at hl 0 rfl) ?_
        refine rG_33 (v := (σ.i 33)) hx hb hts i_X12_catching_X12 hown hK hP (hts (.fieldLink RX12 561 "StatementRules2Model" "catches" "I") k_X12_catching_fieldLink_RX12_561_SRModel_catches_I) dX12_catching_195 rfl ?_
        obtain ⟨b40, hf⟩ := hf_ite hf
        refine rS_37 hx hb hK hP hD hS b40 dX12_catching_198 (fun H locs hP hD hS => ?_)
        refine lv_aload_n hx hb dX12_catching_199 rfl (lv_at hl 0 rfl) ?_
        refine rG_72 hx hb hts i_X12_catching_X12 hown hK hP (hts (.fieldLink RX12 198 "StatementRules2Model" "fy" "[I") k_X12_catching_fieldLink_RX12_198_SRModel_fy_I) dX12_catching_200 ?_
        refine lv_iload_n hx hb dX12_catching_203 rfl (lv_at hl 1 rfl) ?_
        refine lv_aload_n hx hb dX12_catching_204 rfl (lv_at hl 0 rfl) ?_
        refine rG_33 (v := (σ.i 33)) hx hb hts i_X12_catching_X12 hown hK hP (hts (.fieldLink RX12 561 "StatementRules2Model" "catches" "I") k_X12_catching_fieldLink_RX12_561_SRModel_catches_I) dX12_catching_205 rfl ?_
        refine rS_72 hx hb hK hP hD hS b38 dX12_catching_208 (fun H locs hP hD hS => ?_)
        refine lv_aload_n hx hb dX12_catching_209 rfl (lv_at hl 0 rfl) ?_
        refine lv_dup hx hb dX12_catching_210 rfl ?_
        refine rG_33 (v := (σ.i 33)) hx hb hts i_X12_catching_X12 hown hK hP (hts (.fieldLink RX12 561 "StatementRules2Model" "catches" "I") k_X12_catching_fieldLink_RX12_561_SRModel_catches_I) dX12_catching_211 rfl ?_
        refine lv_iconst (v := 1) hx hb dX12_catching_214 (by decide) ?_
        refine lv_iadd hx hb dX12_catching_215 ?_
        refine rP_33 hx hb hts i_X12_catching_X12 hown hK hP hD hS (hts (.fieldLink RX12 561 "StatementRules2Model" "catches" "I") k_X12_catching_fieldLink_RX12_561_SRModel_catches_I) dX12_catching_216 (fun H locs hP hD hS => ?_)
        refine lv_aload_n hx hb dX12_catching_219 rfl (lv_at hl 0 rfl) ?_
        obtain ⟨p41, hcp41, hf⟩ := hf_bind hf
        have hFc := r_free hD hS hA
        refine va_callv (va_runV (As := []) (rest := []) ⟨hx, hb, hml, hown, hts⟩ (c_X12_next l dC dI _ Q N (RS.setI (RS.setA (RS.setA (RS.setA (RS.setA σ 34 (((σ.i 33) : Int32).toNatClampNeg) (σ.i 14)) 37 (((σ.i 33) : Int32).toNatClampNeg) (-1)) 37 (((σ.a 72 ((x1 : Int32).toNatClampNeg)) : Int32).toNatClampNeg) (σ.i 33)) 72 ((x1 : Int32).toNatClampNeg) (σ.i 33)) 33 ((σ.i 33) + 1)) p41 hcp41) (cwV 0 hts hX12_catching_X12_next_v345 rfl rfl rfl (by decide +kernel) ⟨Nat.le_of_ble_eq_true rfl, Nat.le_of_ble_eq_true rfl⟩) ⟨zPre.blind, va_recv hK hP (ci := 11) (q0 := 0) rfl rfl, zPre.go hZ hP hK hD⟩ rfl rfl hl.1 rfl (lv_room (Nat.le_of_ble_eq_true rfl)) dX12_catching_220 ⟨Nat.le_of_ble_eq_true rfl, Nat.le_of_ble_eq_true rfl⟩) hS (fun q _ h => hFc q h) hFc (fun u9 t9 H1 locs ht hvm hw hB hz1 hk1 hS => ?_)
        obtain ⟨hP, hK1, hD1⟩ := hB
        rw [ht] at hP
        have hD := hD1.weaken (fun _ _ _ h => hFc _ h)
        generalize H1 = H at hP hS ⊢
        refine lv_aload_n hx hb dX12_catching_223 rfl (lv_at hl 0 rfl) ?_
        refine rG_15 (v := (p41.i 15)) hx hb hts i_X12_catching_X12 hown hK hP (hts (.fieldLink RX12 291 "StatementRules2Model" "fault" "I") k_X12_catching_fieldLink_RX12_291_SRModel_fault_I) dX12_catching_224 rfl ?_
        refine lv_if_ne (tgt := 243) hx hb dX12_catching_227 (by decide) (fun c43 => ?_) (fun c43 => ?_)
        ·
          replace hf := (if_neg c43).symm.trans hf
          refine lv_iconst (v := 0) hx hb dX12_catching_243 (by decide) ?_
          refine lv_istore_n (lv' := [(3, .int 0), (0, .ref Q.h0), (1, .int x1), (2, .int x2), (4, .int x4)]) hx hb dX12_catching_244 rfl hl (by decide) rfl (fun ls hl => ?_)
          refine lv_iload_n hx hb dX12_catching_245 rfl (lv_at hl 0 rfl) ?_
          refine lv_if_eq (tgt := 18) hx hb dX12_catching_246 (by decide) (fun _ => ?_) (fun c9 => absurd (by decide) c9)
          exact hK18 p41 x1 x2 0 _ _ _ hf hP hD hS (lv_sub hl [1, 2, 3, 0] rfl)
        ·
          replace hf := (if_pos c43).symm.trans hf
          refine lv_aload_n hx hb dX12_catching_230 rfl (lv_at hl 0 rfl) ?_
          refine rG_10 (v := (p41.i 10)) hx hb hts i_X12_catching_X12 hown hK hP (hts (.fieldLink RX12 307 "StatementRules2Model" "tok" "I") k_X12_catching_fieldLink_RX12_307_SRModel_tok_I) dX12_catching_231 rfl ?_
          refine lv_bipush (v := 124) hx hb dX12_catching_234 (by decide) ?_
          refine lv_icmp_ne (tgt := 243) hx hb dX12_catching_236 (by decide) (fun c44 => ?_) (fun c44 => ?_)
          ·
            replace hf := (if_neg c44).symm.trans hf
            refine lv_iconst (v := 0) hx hb dX12_catching_243 (by decide) ?_
            refine lv_istore_n (lv' := [(3, .int 0), (0, .ref Q.h0), (1, .int x1), (2, .int x2), (4, .int x4)]) hx hb dX12_catching_244 rfl hl (by decide) rfl (fun ls hl => ?_)
            refine lv_iload_n hx hb dX12_catching_245 rfl (lv_at hl 0 rfl) ?_
            refine lv_if_eq (tgt := 18) hx hb dX12_catching_246 (by decide) (fun _ => ?_) (fun c9 => absurd (by decide) c9)
            exact hK18 p41 x1 x2 0 _ _ _ hf hP hD hS (lv_sub hl [1, 2, 3, 0] rfl)
          ·
            replace hf := (if_pos c44).symm.trans hf
            refine lv_iconst (v := 1) hx hb dX12_catching_239 (by decide) ?_
            refine lv_goto (tgt := 244) hx hb dX12_catching_240 (by decide) ?_
            refine lv_istore_n (lv' := [(3, .int 1), (0, .ref Q.h0), (1, .int x1), (2, .int x2), (4, .int x4)]) hx hb dX12_catching_244 rfl hl (by decide) rfl (fun ls hl => ?_)
            refine lv_iload_n hx hb dX12_catching_245 rfl (lv_at hl 0 rfl) ?_
            refine lv_if_eq (tgt := 18) hx hb dX12_catching_246 (by decide) (fun c9 => absurd c9 (by decide)) (fun _ => ?_)
            refine lv_aload_n hx hb dX12_catching_249 rfl (lv_at hl 1 rfl) ?_
            obtain ⟨p45, hcp45, hf⟩ := hf_bind hf
            have hFc := r_free hD hS hA
            refine va_callv (va_runV (As := []) (rest := []) ⟨hx, hb, hml, hown, hts⟩ (c_X12_next l dC dI _ Q N p41 p45 hcp45) (cwV 0 hts hX12_catching_X12_next_v345 rfl rfl rfl (by decide +kernel) ⟨Nat.le_of_ble_eq_true rfl, Nat.le_of_ble_eq_true rfl⟩) ⟨zPre.blind, va_recv hK hP (ci := 11) (q0 := 0) rfl rfl, zPre.go hZ hP hK hD⟩ rfl rfl hl.1 rfl (lv_room (Nat.le_of_ble_eq_true rfl)) dX12_catching_250 ⟨Nat.le_of_ble_eq_true rfl, Nat.le_of_ble_eq_true rfl⟩) hS (fun q _ h => hFc q h) hFc (fun u9 t9 H1 locs ht hvm hw hB hz1 hk1 hS => ?_)
            obtain ⟨hP, hK1, hD1⟩ := hB
            rw [ht] at hP
            have hD := hD1.weaken (fun _ _ _ h => hFc _ h)
            generalize H1 = H at hP hS ⊢
            refine lv_goto (tgt := 18) hx hb dX12_catching_253 (by decide) ?_
            exact hK18 p45 x1 x2 1 _ _ _ hf hP hD hS (lv_sub hl [1, 2, 3, 0] rfl)
      ·
        replace hf := (if_neg c39).symm.trans hf
        refine lv_aload_n hx hb dX12_catching_166 rfl (lv_at hl 0 rfl) ?_
        refine rG_30 hx hb hts i_X12_catching_X12 hown hK hP (hts (.fieldLink RX12 105 "StatementRules2Model" "tryCatch" "[I") k_X12_catching_fieldLink_RX12_105_SRModel_tryCatch_I) dX12_catching_167 ?_
        refine lv_aload_n hx hb dX12_catching_170 rfl (lv_at hl 0 rfl) ?_
        refine rG_66 hx hb hts i_X12_catching_X12 hown hK hP (hts (.fieldLink RX12 180 "StatementRules2Model" "fp" "[I") k_X12_catching_fieldLink_RX12_180_SRModel_fp_I) dX12_catching_171 ?_
        refine lv_iload_n hx hb dX12_catching_174 rfl (lv_at hl 1 rfl) ?_
        refine rL_66 (v := (σ.a 66 ((x1 : Int32).toNatClampNeg))) hx hb hK hP b38 dX12_catching_175 rfl ?_
        refine lv_aload_n hx hb dX12_catching_176 rfl (lv_at hl 0 rfl) ?_
        refine rG_33 (v := (σ.i 33)) hx hb hts i_X12_catching_X12 hown hK hP (hts (.fieldLink RX12 561 "StatementRules2Model" "catches" "I") k_X12_catching_fieldLink_RX12_561_SRModel_catches_I) dX12_catching_177 rfl ?_
        obtain ⟨b47, hf⟩ := hf_ite hf
        refine rS_30 hx hb hK hP hD hS b47 dX12_catching_180 (fun H locs hP hD hS => ?_)
        refine lv_goto (tgt := 199) hx hb dX12_catching_181 (by decide) ?_
        refine lv_aload_n hx hb dX12_catching_199 rfl (lv_at hl 0 rfl) ?_
        refine rG_72 hx hb hts i_X12_catching_X12 hown hK hP (hts (.fieldLink RX12 198 "StatementRules2Model" "fy" "[I") k_X12_catching_fieldLink_RX12_198_SRModel_fy_I) dX12_catching_200 ?_
        refine lv_iload_n hx hb dX12_catching_203 rfl (lv_at hl 1 rfl) ?_
        refine lv_aload_n hx hb dX12_catching_204 rfl (lv_at hl 0 rfl) ?_
        refine rG_33 (v := (σ.i 33)) hx hb hts i_X12_catching_X12 hown hK hP (hts (.fieldLink RX12 561 "StatementRules2Model" "catches" "I") k_X12_catching_fieldLink_RX12_561_SRModel_catches_I) dX12_catching_205 rfl ?_
        refine rS_72 hx hb hK hP hD hS b38 dX12_catching_208 (fun H locs hP hD hS => ?_)
        refine lv_aload_n hx hb dX12_catching_209 rfl (lv_at hl 0 rfl) ?_
        refine lv_dup hx hb dX12_catching_210 rfl ?_
        refine rG_33 (v := (σ.i 33)) hx hb hts i_X12_catching_X12 hown hK hP (hts (.fieldLink RX12 561 "StatementRules2Model" "catches" "I") k_X12_catching_fieldLink_RX12_561_SRModel_catches_I) dX12_catching_211 rfl ?_
        refine lv_iconst (v := 1) hx hb dX12_catching_214 (by decide) ?_
        refine lv_iadd hx hb dX12_catching_215 ?_
        refine rP_33 hx hb hts i_X12_catching_X12 hown hK hP hD hS (hts (.fieldLink RX12 561 "StatementRules2Model" "catches" "I") k_X12_catching_fieldLink_RX12_561_SRModel_catches_I) dX12_catching_216 (fun H locs hP hD hS => ?_)
        refine lv_aload_n hx hb dX12_catching_219 rfl (lv_at hl 0 rfl) ?_
        obtain ⟨p48, hcp48, hf⟩ := hf_bind hf
        have hFc := r_free hD hS hA
        refine va_callv (va_runV (As := []) (rest := []) ⟨hx, hb, hml, hown, hts⟩ (c_X12_next l dC dI _ Q N (RS.setI (RS.setA (RS.setA (RS.setA (RS.setA σ 34 (((σ.i 33) : Int32).toNatClampNeg) (σ.i 14)) 37 (((σ.i 33) : Int32).toNatClampNeg) (-1)) 30 (((σ.a 66 ((x1 : Int32).toNatClampNeg)) : Int32).toNatClampNeg) (σ.i 33)) 72 ((x1 : Int32).toNatClampNeg) (σ.i 33)) 33 ((σ.i 33) + 1)) p48 hcp48) (cwV 0 hts hX12_catching_X12_next_v345 rfl rfl rfl (by decide +kernel) ⟨Nat.le_of_ble_eq_true rfl, Nat.le_of_ble_eq_true rfl⟩) ⟨zPre.blind, va_recv hK hP (ci := 11) (q0 := 0) rfl rfl, zPre.go hZ hP hK hD⟩ rfl rfl hl.1 rfl (lv_room (Nat.le_of_ble_eq_true rfl)) dX12_catching_220 ⟨Nat.le_of_ble_eq_true rfl, Nat.le_of_ble_eq_true rfl⟩) hS (fun q _ h => hFc q h) hFc (fun u9 t9 H1 locs ht hvm hw hB hz1 hk1 hS => ?_)
        obtain ⟨hP, hK1, hD1⟩ := hB
        rw [ht] at hP
        have hD := hD1.weaken (fun _ _ _ h => hFc _ h)
        generalize H1 = H at hP hS ⊢
        refine lv_aload_n hx hb dX12_catching_223 rfl (lv_at hl 0 rfl) ?_
        refine rG_15 (v := (p48.i 15)) hx hb hts i_X12_catching_X12 hown hK hP (hts (.fieldLink RX12 291 "StatementRules2Model" "fault" "I") k_X12_catching_fieldLink_RX12_291_SRModel_fault_I) dX12_catching_224 rfl ?_
        refine lv_if_ne (tgt := 243) hx hb dX12_catching_227 (by decide) (fun c50 => ?_) (fun c50 => ?_)
        ·
          replace hf := (if_neg c50).symm.trans hf
          refine lv_iconst (v := 0) hx hb dX12_catching_243 (by decide) ?_
          refine lv_istore_n (lv' := [(3, .int 0), (0, .ref Q.h0), (1, .int x1), (2, .int x2), (4, .int x4)]) hx hb dX12_catching_244 rfl hl (by decide) rfl (fun ls hl => ?_)
          refine lv_iload_n hx hb dX12_catching_245 rfl (lv_at hl 0 rfl) ?_
          refine lv_if_eq (tgt := 18) hx hb dX12_catching_246 (by decide) (fun _ => ?_) (fun c9 => absurd (by decide) c9)
          exact hK18 p48 x1 x2 0 _ _ _ hf hP hD hS (lv_sub hl [1, 2, 3, 0] rfl)
        ·
          replace hf := (if_pos c50).symm.trans hf
          refine lv_aload_n hx hb dX12_catching_230 rfl (lv_at hl 0 rfl) ?_
          refine rG_10 (v := (p48.i 10)) hx hb hts i_X12_catching_X12 hown hK hP (hts (.fieldLink RX12 307 "StatementRules2Model" "tok" "I") k_X12_catching_fieldLink_RX12_307_SRModel_tok_I) dX12_catching_231 rfl ?_
          refine lv_bipush (v := 124) hx hb dX12_catching_234 (by decide) ?_
          refine lv_icmp_ne (tgt := 243) hx hb dX12_catching_236 (by decide) (fun c51 => ?_) (fun c51 => ?_)
          ·
            replace hf := (if_neg c51).symm.trans hf
            refine lv_iconst (v := 0) hx hb dX12_catching_243 (by decide) ?_
            refine lv_istore_n (lv' := [(3, .int 0), (0, .ref Q.h0), (1, .int x1), (2, .int x2), (4, .int x4)]) hx hb dX12_catching_244 rfl hl (by decide) rfl (fun ls hl => ?_)
            refine lv_iload_n hx hb dX12_catching_245 rfl (lv_at hl 0 rfl) ?_
            refine lv_if_eq (tgt := 18) hx hb dX12_catching_246 (by decide) (fun _ => ?_) (fun c9 => absurd (by decide) c9)
            exact hK18 p48 x1 x2 0 _ _ _ hf hP hD hS (lv_sub hl [1, 2, 3, 0] rfl)
          ·
            replace hf := (if_pos c51).symm.trans hf
            refine lv_iconst (v := 1) hx hb dX12_catching_239 (by decide) ?_
            refine lv_goto (tgt := 244) hx hb dX12_catching_240 (by decide) ?_
            refine lv_istore_n (lv' := [(3, .int 1), (0, .ref Q.h0), (1, .int x1), (2, .int x2), (4, .int x4)]) hx hb dX12_catching_244 rfl hl (by decide) rfl (fun ls hl => ?_)
            refine lv_iload_n hx hb dX12_catching_245 rfl (lv_at hl 0 rfl) ?_
            refine lv_if_eq (tgt := 18) hx hb dX12_catching_246 (by decide) (fun c9 => absurd c9 (by decide)) (fun _ => ?_)
            refine lv_aload_n hx hb dX12_catching_249 rfl (lv_at hl 1 rfl) ?_
            obtain ⟨p52, hcp52, hf⟩ := hf_bind hf
            have hFc := r_free hD hS hA
            refine va_callv (va_runV (As := []) (rest := []) ⟨hx, hb, hml, hown, hts⟩ (c_X12_next l dC dI _ Q N p48 p52 hcp52) (cwV 0 hts hX12_catching_X12_next_v345 rfl rfl rfl (by decide +kernel) ⟨Nat.le_of_ble_eq_true rfl, Nat.le_of_ble_eq_true rfl⟩) ⟨zPre.blind, va_recv hK hP (ci := 11) (q0 := 0) rfl rfl, zPre.go hZ hP hK hD⟩ rfl rfl hl.1 rfl (lv_room (Nat.le_of_ble_eq_true rfl)) dX12_catching_250 ⟨Nat.le_of_ble_eq_true rfl, Nat.le_of_ble_eq_true rfl⟩) hS (fun q _ h => hFc q h) hFc (fun u9 t9 H1 locs ht hvm hw hB hz1 hk1 hS => ?_)
            obtain ⟨hP, hK1, hD1⟩ := hB
            rw [ht] at hP
            have hD := hD1.weaken (fun _ _ _ h => hFc _ h)
            generalize H1 = H at hP hS ⊢
            refine lv_goto (tgt := 18) hx hb dX12_catching_253 (by decide) ?_
            exact hK18 p52 x1 x2 1 _ _ _ hf hP hD hS (lv_sub hl [1, 2, 3, 0] rfl)
    ·
      replace hf := (if_neg c36).symm.trans hf
      refine lv_aload_n hx hb dX12_catching_87 rfl (lv_at hl 0 rfl) ?_
      refine rG_15 (v := (σ.i 15)) hx hb hts i_X12_catching_X12 hown hK hP (hts (.fieldLink RX12 291 "StatementRules2Model" "fault" "I") k_X12_catching_fieldLink_RX12_291_SRModel_fault_I) dX12_catching_88 rfl ?_
      refine lv_if_ne (tgt := 134) hx hb dX12_catching_91 (by decide) (fun c54 => ?_) (fun c54 => ?_)
      ·
        replace hf := (if_neg c54).symm.trans hf
        refine lv_aload_n hx hb dX12_catching_134 rfl (lv_at hl 0 rfl) ?_
        refine rG_34 hx hb hts i_X12_catching_X12 hown hK hP (hts (.fieldLink RX12 114 "StatementRules2Model" "catchKind" "[I") k_X12_catching_fieldLink_RX12_114_SRModel_catchKind_I) dX12_catching_135 ?_
        refine lv_aload_n hx hb dX12_catching_138 rfl (lv_at hl 0 rfl) ?_
        refine rG_33 (v := (σ.i 33)) hx hb hts i_X12_catching_X12 hown hK hP (hts (.fieldLink RX12 561 "StatementRules2Model" "catches" "I") k_X12_catching_fieldLink_RX12_561_SRModel_catches_I) dX12_catching_139 rfl ?_
        refine lv_aload_n hx hb dX12_catching_142 rfl (lv_at hl 0 rfl) ?_
        refine rG_14 (v := (σ.i 14)) hx hb hts i_X12_catching_X12 hown hK hP (hts (.fieldLink RX12 314 "StatementRules2Model" "number" "I") k_X12_catching_fieldLink_RX12_314_SRModel_number_I) dX12_catching_143 rfl ?_
        obtain ⟨b55, hf⟩ := hf_ite hf
        refine rS_34 hx hb hK hP hD hS b55 dX12_catching_146 (fun H locs hP hD hS => ?_)
        refine lv_aload_n hx hb dX12_catching_147 rfl (lv_at hl 0 rfl) ?_
        refine rG_37 hx hb hts i_X12_catching_X12 hown hK hP (hts (.fieldLink RX12 123 "StatementRules2Model" "catchNext" "[I") k_X12_catching_fieldLink_RX12_123_SRModel_catchNext_I) dX12_catching_148 ?_
        refine lv_aload_n hx hb dX12_catching_151 rfl (lv_at hl 0 rfl) ?_
        refine rG_33 (v := (σ.i 33)) hx hb hts i_X12_catching_X12 hown hK hP (hts (.fieldLink RX12 561 "StatementRules2Model" "catches" "I") k_X12_catching_fieldLink_RX12_561_SRModel_catches_I) dX12_catching_152 rfl ?_
        refine lv_iconst (v := (-1)) hx hb dX12_catching_155 (by decide) ?_
        refine rS_37 hx hb hK hP hD hS b55 dX12_catching_156 (fun H locs hP hD hS => ?_)
        refine lv_aload_n hx hb dX12_catching_157 rfl (lv_at hl 0 rfl) ?_
        refine rG_72 hx hb hts i_X12_catching_X12 hown hK hP (hts (.fieldLink RX12 198 "StatementRules2Model" "fy" "[I") k_X12_catching_fieldLink_RX12_198_SRModel_fy_I) dX12_catching_158 ?_
        refine lv_iload_n hx hb dX12_catching_161 rfl (lv_at hl 1 rfl) ?_
        obtain ⟨b56, hf⟩ := hf_ite hf
        refine rL_72 (v := (σ.a 72 ((x1 : Int32).toNatClampNeg))) hx hb hK hP b56 dX12_catching_162 rfl ?_
        refine lv_if_ge (tgt := 184) hx hb dX12_catching_163 (by decide) (fun c57 => ?_) (fun c57 => ?_)
        ·
          replace hf := (if_pos c57).symm.trans hf
          refine lv_aload_n hx hb dX12_catching_184 rfl (lv_at hl 0 rfl) ?_
          refine rG_37 hx hb hts i_X12_catching_X12 hown hK hP (hts (.fieldLink RX12 123 "StatementRules2Model" "catchNext" "[I") k_X12_catching_fieldLink_RX12_123_SRModel_catchNext_I) dX12_catching_185 ?_
          refine lv_aload_n hx hb dX12_catching_188 rfl (lv_at hl 0 rfl) ?_
          refine rG_72 hx hb hts i_X12_catching_X12 hown hK hP (hts (.fieldLink RX12 198 "StatementRules2Model" "fy" "[I") k_X12_catching_fieldLink_RX12_198_SRModel_fy_I) dX12_catching_189 ?_
          refine lv_iload_n hx hb dX12_catching_192 rfl (lv_at hl 1 rfl) ?_
          refine rL_72 (v := (σ.a 72 ((x1 : Int32).toNatClampNeg))) hx hb hK hP b56 dX12_catching_193 rfl ?_
          refine lv_aload_n hx hb dX12_catching_194 rfl (lv_at hl 0 rfl) ?_
          refine rG_33 (v := (σ.i 33)) hx hb hts i_X12_catching_X12 hown hK hP (hts (.fieldLink RX12 561 "StatementRules2Model" "catches" "I") k_X12_catching_fieldLink_RX12_561_SRModel_catches_I) dX12_catching_195 rfl ?_
          obtain ⟨b58, hf⟩ := hf_ite hf
          refine rS_37 hx hb hK hP hD hS b58 dX12_catching_198 (fun H locs hP hD hS => ?_)
          refine lv_aload_n hx hb dX12_catching_199 rfl (lv_at hl 0 rfl) ?_
          refine rG_72 hx hb hts i_X12_catching_X12 hown hK hP (hts (.fieldLink RX12 198 "StatementRules2Model" "fy" "[I") k_X12_catching_fieldLink_RX12_198_SRModel_fy_I) dX12_catching_200 ?_
          refine lv_iload_n hx hb dX12_catching_203 rfl (lv_at hl 1 rfl) ?_
          refine lv_aload_n hx hb dX12_catching_204 rfl (lv_at hl 0 rfl) ?_
          refine rG_33 (v := (σ.i 33)) hx hb hts i_X12_catching_X12 hown hK hP (hts (.fieldLink RX12 561 "StatementRules2Model" "catches" "I") k_X12_catching_fieldLink_RX12_561_SRModel_catches_I) dX12_catching_205 rfl ?_
          refine rS_72 hx hb hK hP hD hS b56 dX12_catching_208 (fun H locs hP hD hS => ?_)
          refine lv_aload_n hx hb dX12_catching_209 rfl (lv_at hl 0 rfl) ?_
          refine lv_dup hx hb dX12_catching_210 rfl ?_
          refine rG_33 (v := (σ.i 33)) hx hb hts i_X12_catching_X12 hown hK hP (hts (.fieldLink RX12 561 "StatementRules2Model" "catches" "I") k_X12_catching_fieldLink_RX12_561_SRModel_catches_I) dX12_catching_211 rfl ?_
          refine lv_iconst (v := 1) hx hb dX12_catching_214 (by decide) ?_
          refine lv_iadd hx hb dX12_catching_215 ?_
          refine rP_33 hx hb hts i_X12_catching_X12 hown hK hP hD hS (hts (.fieldLink RX12 561 "StatementRules2Model" "catches" "I") k_X12_catching_fieldLink_RX12_561_SRModel_catches_I) dX12_catching_216 (fun H locs hP hD hS => ?_)
          refine lv_aload_n hx hb dX12_catching_219 rfl (lv_at hl 0 rfl) ?_
          obtain ⟨p59, hcp59, hf⟩ := hf_bind hf
          have hFc := r_free hD hS hA
          refine va_callv (va_runV (As := []) (rest := []) ⟨hx, hb, hml, hown, hts⟩ (c_X12_next l dC dI _ Q N (RS.setI (RS.setA (RS.setA (RS.setA (RS.setA σ 34 (((σ.i 33) : Int32).toNatClampNeg) (σ.i 14)) 37 (((σ.i 33) : Int32).toNatClampNeg) (-1)) 37 (((σ.a 72 ((x1 : Int32).toNatClampNeg)) : Int32).toNatClampNeg) (σ.i 33)) 72 ((x1 : Int32).toNatClampNeg) (σ.i 33)) 33 ((σ.i 33) + 1)) p59 hcp59) (cwV 0 hts hX12_catching_X12_next_v345 rfl rfl rfl (by decide +kernel) ⟨Nat.le_of_ble_eq_true rfl, Nat.le_of_ble_eq_true rfl⟩) ⟨zPre.blind, va_recv hK hP (ci := 11) (q0 := 0) rfl rfl, zPre.go hZ hP hK hD⟩ rfl rfl hl.1 rfl (lv_room (Nat.le_of_ble_eq_true rfl)) dX12_catching_220 ⟨Nat.le_of_ble_eq_true rfl, Nat.le_of_ble_eq_true rfl⟩) hS (fun q _ h => hFc q h) hFc (fun u9 t9 H1 locs ht hvm hw hB hz1 hk1 hS => ?_)
          obtain ⟨hP, hK1, hD1⟩ := hB
          rw [ht] at hP
          have hD := hD1.weaken (fun _ _ _ h => hFc _ h)
          generalize H1 = H at hP hS ⊢
          refine lv_aload_n hx hb dX12_catching_223 rfl (lv_at hl 0 rfl) ?_
          refine rG_15 (v := (p59.i 15)) hx hb hts i_X12_catching_X12 hown hK hP (hts (.fieldLink RX12 291 "StatementRules2Model" "fault" "I") k_X12_catching_fieldLink_RX12_291_SRModel_fault_I) dX12_catching_224 rfl ?_
          refine lv_if_ne (tgt := 243) hx hb dX12_catching_227 (by decide) (fun c61 => ?_) (fun c61 => ?_)
          ·
            replace hf := (if_neg c61).symm.trans hf
            refine lv_iconst (v := 0) hx hb dX12_catching_243 (by decide) ?_
            refine lv_istore_n (lv' := [(3, .int 0), (0, .ref Q.h0), (1, .int x1), (2, .int x2), (4, .int x4)]) hx hb dX12_catching_244 rfl hl (by decide) rfl (fun ls hl => ?_)
            refine lv_iload_n hx hb dX12_catching_245 rfl (lv_at hl 0 rfl) ?_
            refine lv_if_eq (tgt := 18) hx hb dX12_catching_246 (by decide) (fun _ => ?_) (fun c9 => absurd (by decide) c9)
            exact hK18 p59 x1 x2 0 _ _ _ hf hP hD hS (lv_sub hl [1, 2, 3, 0] rfl)
          ·
            replace hf := (if_pos c61).symm.trans hf
            refine lv_aload_n hx hb dX12_catching_230 rfl (lv_at hl 0 rfl) ?_
            refine rG_10 (v := (p59.i 10)) hx hb hts i_X12_catching_X12 hown hK hP (hts (.fieldLink RX12 307 "StatementRules2Model" "tok" "I") k_X12_catching_fieldLink_RX12_307_SRModel_tok_I) dX12_catching_231 rfl ?_
            refine lv_bipush (v := 124) hx hb dX12_catching_234 (by decide) ?_
            refine lv_icmp_ne (tgt := 243) hx hb dX12_catching_236 (by decide) (fun c62 => ?_) (fun c62 => ?_)
            ·
              replace hf := (if_neg c62).symm.trans hf
              refine lv_iconst (v := 0) hx hb dX12_catching_243 (by decide) ?_
              refine lv_istore_n (lv' := [(3, .int 0), (0, .ref Q.h0), (1, .int x1), (2, .int x2), (4, .int x4)]) hx hb dX12_catching_244 rfl hl (by decide) rfl (fun ls hl => ?_)
              refine lv_iload_n hx hb dX12_catching_245 rfl (lv_at hl 0 rfl) ?_
              refine lv_if_eq (tgt := 18) hx hb dX12_catching_246 (by decide) (fun _ => ?_) (fun c9 => absurd (by decide) c9)
              exact hK18 p59 x1 x2 0 _ _ _ hf hP hD hS (lv_sub hl [1, 2, 3, 0] rfl)
            ·
              replace hf := (if_pos c62).symm.trans hf
              refine lv_iconst (v := 1) hx hb dX12_catching_239 (by decide) ?_
              refine lv_goto (tgt := 244) hx hb dX12_catching_240 (by decide) ?_
              refine lv_istore_n (lv' := [(3, .int 1), (0, .ref Q.h0), (1, .int x1), (2, .int x2), (4, .int x4)]) hx hb dX12_catching_244 rfl hl (by decide) rfl (fun ls hl => ?_)
              refine lv_iload_n hx hb dX12_catching_245 rfl (lv_at hl 0 rfl) ?_
              refine lv_if_eq (tgt := 18) hx hb dX12_catching_246 (by decide) (fun c9 => absurd c9 (by decide)) (fun _ => ?_)
              refine lv_aload_n hx hb dX12_catching_249 rfl (lv_at hl 1 rfl) ?_
              obtain ⟨p63, hcp63, hf⟩ := hf_bind hf
              have hFc := r_free hD hS hA
              refine va_callv (va_runV (As := []) (rest := []) ⟨hx, hb, hml, hown, hts⟩ (c_X12_next l dC dI _ Q N p59 p63 hcp63) (cwV 0 hts hX12_catching_X12_next_v345 rfl rfl rfl (by decide +kernel) ⟨Nat.le_of_ble_eq_true rfl, Nat.le_of_ble_eq_true rfl⟩) ⟨zPre.blind, va_recv hK hP (ci := 11) (q0 := 0) rfl rfl, zPre.go hZ hP hK hD⟩ rfl rfl hl.1 rfl (lv_room (Nat.le_of_ble_eq_true rfl)) dX12_catching_250 ⟨Nat.le_of_ble_eq_true rfl, Nat.le_of_ble_eq_true rfl⟩) hS (fun q _ h => hFc q h) hFc (fun u9 t9 H1 locs ht hvm hw hB hz1 hk1 hS => ?_)
              obtain ⟨hP, hK1, hD1⟩ := hB
              rw [ht] at hP
              have hD := hD1.weaken (fun _ _ _ h => hFc _ h)
              generalize H1 = H at hP hS ⊢
              refine lv_goto (tgt := 18) hx hb dX12_catching_253 (by decide) ?_
              exact hK18 p63 x1 x2 1 _ _ _ hf hP hD hS (lv_sub hl [1, 2, 3, 0] rfl)
        ·
          replace hf := (if_neg c57).symm.trans hf
          refine lv_aload_n hx hb dX12_catching_166 rfl (lv_at hl 0 rfl) ?_
          refine rG_30 hx hb hts i_X12_catching_X12 hown hK hP (hts (.fieldLink RX12 105 "StatementRules2Model" "tryCatch" "[I") k_X12_catching_fieldLink_RX12_105_SRModel_tryCatch_I) dX12_catching_167 ?_
          refine lv_aload_n hx hb dX12_catching_170 rfl (lv_at hl 0 rfl) ?_
          refine rG_66 hx hb hts i_X12_catching_X12 hown hK hP (hts (.fieldLink RX12 180 "StatementRules2Model" "fp" "[I") k_X12_catching_fieldLink_RX12_180_SRModel_fp_I) dX12_catching_171 ?_
          refine lv_iload_n hx hb dX12_catching_174 rfl (lv_at hl 1 rfl) ?_
          refine rL_66 (v := (σ.a 66 ((x1 : Int32).toNatClampNeg))) hx hb hK hP b56 dX12_catching_175 rfl ?_
          refine lv_aload_n hx hb dX12_catching_176 rfl (lv_at hl 0 rfl) ?_
          refine rG_33 (v := (σ.i 33)) hx hb hts i_X12_catching_X12 hown hK hP (hts (.fieldLink RX12 561 "StatementRules2Model" "catches" "I") k_X12_catching_fieldLink_RX12_561_SRModel_catches_I) dX12_catching_177 rfl ?_
          obtain ⟨b65, hf⟩ := hf_ite hf
          refine rS_30 hx hb hK hP hD hS b65 dX12_catching_180 (fun H locs hP hD hS => ?_)
          refine lv_goto (tgt := 199) hx hb dX12_catching_181 (by decide) ?_
          refine lv_aload_n hx hb dX12_catching_199 rfl (lv_at hl 0 rfl) ?_
          refine rG_72 hx hb hts i_X12_catching_X12 hown hK hP (hts (.fieldLink RX12 198 "StatementRules2Model" "fy" "[I") k_X12_catching_fieldLink_RX12_198_SRModel_fy_I) dX12_catching_200 ?_
          refine lv_iload_n hx hb dX12_catching_203 rfl (lv_at hl 1 rfl) ?_
          refine lv_aload_n hx hb dX12_catching_204 rfl (lv_at hl 0 rfl) ?_
          refine rG_33 (v := (σ.i 33)) hx hb hts i_X12_catching_X12 hown hK hP (hts (.fieldLink RX12 561 "StatementRules2Model" "catches" "I") k_X12_catching_fieldLink_RX12_561_SRModel_catches_I) dX12_catching_205 rfl ?_
          refine rS_72 hx hb hK hP hD hS b56 dX12_catching_208 (fun H locs hP hD hS => ?_)
          refine lv_aload_n hx hb dX12_catching_209 rfl (lv_at hl 0 rfl) ?_
          refine lv_dup hx hb dX12_catching_210 rfl ?_
          refine rG_33 (v := (σ.i 33)) hx hb hts i_X12_catching_X12 hown hK hP (hts (.fieldLink RX12 561 "StatementRules2Model" "catches" "I") k_X12_catching_fieldLink_RX12_561_SRModel_catches_I) dX12_catching_211 rfl ?_
          refine lv_iconst (v := 1) hx hb dX12_catching_214 (by decide) ?_
          refine lv_iadd hx hb dX12_catching_215 ?_
          refine rP_33 hx hb hts i_X12_catching_X12 hown hK hP hD hS (hts (.fieldLink RX12 561 "StatementRules2Model" "catches" "I") k_X12_catching_fieldLink_RX12_561_SRModel_catches_I) dX12_catching_216 (fun H locs hP hD hS => ?_)
          refine lv_aload_n hx hb dX12_catching_219 rfl (lv_at hl 0 rfl) ?_
          obtain ⟨p66, hcp66, hf⟩ := hf_bind hf
          have hFc := r_free hD hS hA
          refine va_callv (va_runV (As := []) (rest := []) ⟨hx, hb, hml, hown, hts⟩ (c_X12_next l dC dI _ Q N (RS.setI (RS.setA (RS.setA (RS.setA (RS.setA σ 34 (((σ.i 33) : Int32).toNatClampNeg) (σ.i 14)) 37 (((σ.i 33) : Int32).toNatClampNeg) (-1)) 30 (((σ.a 66 ((x1 : Int32).toNatClampNeg)) : Int32).toNatClampNeg) (σ.i 33)) 72 ((x1 : Int32).toNatClampNeg) (σ.i 33)) 33 ((σ.i 33) + 1)) p66 hcp66) (cwV 0 hts hX12_catching_X12_next_v345 rfl rfl rfl (by decide +kernel) ⟨Nat.le_of_ble_eq_true rfl, Nat.le_of_ble_eq_true rfl⟩) ⟨zPre.blind, va_recv hK hP (ci := 11) (q0 := 0) rfl rfl, zPre.go hZ hP hK hD⟩ rfl rfl hl.1 rfl (lv_room (Nat.le_of_ble_eq_true rfl)) dX12_catching_220 ⟨Nat.le_of_ble_eq_true rfl, Nat.le_of_ble_eq_true rfl⟩) hS (fun q _ h => hFc q h) hFc (fun u9 t9 H1 locs ht hvm hw hB hz1 hk1 hS => ?_)
          obtain ⟨hP, hK1, hD1⟩ := hB
          rw [ht] at hP
          have hD := hD1.weaken (fun _ _ _ h => hFc _ h)
          generalize H1 = H at hP hS ⊢
          refine lv_aload_n hx hb dX12_catching_223 rfl (lv_at hl 0 rfl) ?_
          refine rG_15 (v := (p66.i 15)) hx hb hts i_X12_catching_X12 hown hK hP (hts (.fieldLink RX12 291 "StatementRules2Model" "fault" "I") k_X12_catching_fieldLink_RX12_291_SRModel_fault_I) dX12_catching_224 rfl ?_
          refine lv_if_ne (tgt := 243) hx hb dX12_catching_227 (by decide) (fun c68 => ?_) (fun c68 => ?_)
          ·
            replace hf := (if_neg c68).symm.trans hf
            refine lv_iconst (v := 0) hx hb dX12_catching_243 (by decide) ?_
            refine lv_istore_n (lv' := [(3, .int 0), (0, .ref Q.h0), (1, .int x1), (2, .int x2), (4, .int x4)]) hx hb dX12_catching_244 rfl hl (by decide) rfl (fun ls hl => ?_)
            refine lv_iload_n hx hb dX12_catching_245 rfl (lv_at hl 0 rfl) ?_
            refine lv_if_eq (tgt := 18) hx hb dX12_catching_246 (by decide) (fun _ => ?_) (fun c9 => absurd (by decide) c9)
            exact hK18 p66 x1 x2 0 _ _ _ hf hP hD hS (lv_sub hl [1, 2, 3, 0] rfl)
          ·
            replace hf := (if_pos c68).symm.trans hf
            refine lv_aload_n hx hb dX12_catching_230 rfl (lv_at hl 0 rfl) ?_
            refine rG_10 (v := (p66.i 10)) hx hb hts i_X12_catching_X12 hown hK hP (hts (.fieldLink RX12 307 "StatementRules2Model" "tok" "I") k_X12_catching_fieldLink_RX12_307_SRModel_tok_I) dX12_catching_231 rfl ?_
            refine lv_bipush (v := 124) hx hb dX12_catching_234 (by decide) ?_
            refine lv_icmp_ne (tgt := 243) hx hb dX12_catching_236 (by decide) (fun c69 => ?_) (fun c69 => ?_)
            ·
              replace hf := (if_neg c69).symm.trans hf
              refine lv_iconst (v := 0) hx hb dX12_catching_243 (by decide) ?_
              refine lv_istore_n (lv' := [(3, .int 0), (0, .ref Q.h0), (1, .int x1), (2, .int x2), (4, .int x4)]) hx hb dX12_catching_244 rfl hl (by decide) rfl (fun ls hl => ?_)
              refine lv_iload_n hx hb dX12_catching_245 rfl (lv_at hl 0 rfl) ?_
              refine lv_if_eq (tgt := 18) hx hb dX12_catching_246 (by decide) (fun _ => ?_) (fun c9 => absurd (by decide) c9)
              exact hK18 p66 x1 x2 0 _ _ _ hf hP hD hS (lv_sub hl [1, 2, 3, 0] rfl)
            ·
              replace hf := (if_pos c69).symm.trans hf
              refine lv_iconst (v := 1) hx hb dX12_catching_239 (by decide) ?_
              refine lv_goto (tgt := 244) hx hb dX12_catching_240 (by decide) ?_
              refine lv_istore_n (lv' := [(3, .int 1), (0, .ref Q.h0), (1, .int x1), (2, .int x2), (4, .int x4)]) hx hb dX12_catching_244 rfl hl (by decide) rfl (fun ls hl => ?_)
              refine lv_iload_n hx hb dX12_catching_245 rfl (lv_at hl 0 rfl) ?_
              refine lv_if_eq (tgt := 18) hx hb dX12_catching_246 (by decide) (fun c9 => absurd c9 (by decide)) (fun _ => ?_)
              refine lv_aload_n hx hb dX12_catching_249 rfl (lv_at hl 1 rfl) ?_
              obtain ⟨p70, hcp70, hf⟩ := hf_bind hf
              have hFc := r_free hD hS hA
              refine va_callv (va_runV (As := []) (rest := []) ⟨hx, hb, hml, hown, hts⟩ (c_X12_next l dC dI _ Q N p66 p70 hcp70) (cwV 0 hts hX12_catching_X12_next_v345 rfl rfl rfl (by decide +kernel) ⟨Nat.le_of_ble_eq_true rfl, Nat.le_of_ble_eq_true rfl⟩) ⟨zPre.blind, va_recv hK hP (ci := 11) (q0 := 0) rfl rfl, zPre.go hZ hP hK hD⟩ rfl rfl hl.1 rfl (lv_room (Nat.le_of_ble_eq_true rfl)) dX12_catching_250 ⟨Nat.le_of_ble_eq_true rfl, Nat.le_of_ble_eq_true rfl⟩) hS (fun q _ h => hFc q h) hFc (fun u9 t9 H1 locs ht hvm hw hB hz1 hk1 hS => ?_)
              obtain ⟨hP, hK1, hD1⟩ := hB
              rw [ht] at hP
              have hD := hD1.weaken (fun _ _ _ h => hFc _ h)
              generalize H1 = H at hP hS ⊢
              refine lv_goto (tgt := 18) hx hb dX12_catching_253 (by decide) ?_
              exact hK18 p70 x1 x2 1 _ _ _ hf hP hD hS (lv_sub hl [1, 2, 3, 0] rfl)
      ·
        replace hf := (if_pos c54).symm.trans hf
        refine lv_aload_n hx hb dX12_catching_94 rfl (lv_at hl 0 rfl) ?_
        refine lv_aload_n hx hb dX12_catching_95 rfl (lv_at hl 0 rfl) ?_
        refine rG_14 (v := (σ.i 14)) hx hb hts i_X12_catching_X12 hown hK hP (hts (.fieldLink RX12 314 "StatementRules2Model" "number" "I") k_X12_catching_fieldLink_RX12_314_SRModel_number_I) dX12_catching_96 rfl ?_
        refine lv_aload_n hx hb dX12_catching_99 rfl (lv_at hl 0 rfl) ?_
        refine rG_34 hx hb hts i_X12_catching_X12 hown hK hP (hts (.fieldLink RX12 114 "StatementRules2Model" "catchKind" "[I") k_X12_catching_fieldLink_RX12_114_SRModel_catchKind_I) dX12_catching_100 ?_
        refine lv_iload hx hb dX12_catching_103 (lv_at hl 3 rfl) ?_
        obtain ⟨b72, hf⟩ := hf_ite hf
        refine rL_34 (v := (σ.a 34 ((x4 : Int32).toNatClampNeg))) hx hb hK hP b72 dX12_catching_105 rfl ?_
        obtain ⟨p73, hcp73, hf⟩ := hf_bind hf
        have hFc := r_free hD hS hA
        refine va_calli (va_runV (As := [.int (σ.i 14), .int (σ.a 34 ((x4 : Int32).toNatClampNeg))]) (rest := []) ⟨hx, hb, hml, hown, hts⟩ (c_X12_isUnder l dC dI _ Q N σ (σ.i 14) (σ.a 34 ((x4 : Int32).toNatClampNeg)) p73 hcp73) (cwV 2 hts hX12_catching_X12_isUnder_v283 rfl rfl rfl (by decide +kernel) ⟨Nat.le_of_ble_eq_true rfl, Nat.le_of_ble_eq_true rfl⟩) ⟨zPre.blind, va_recv hK hP (ci := 11) (q0 := 0) rfl rfl, zPre.go hZ hP hK hD⟩ rfl rfl hl.1 rfl (lv_room (Nat.le_of_ble_eq_true rfl)) dX12_catching_106 ⟨Nat.le_of_ble_eq_true rfl, Nat.le_of_ble_eq_true rfl⟩) hS (fun q _ h => hFc q h) hFc (fun r74 u9 t9 H1 locs ht hvm hw hB hz1 hk1 hS => ?_)
        obtain ⟨hP, hK1, hD1⟩ := hB
        rw [ht] at hP
        have hD := hD1.weaken (fun _ _ _ h => hFc _ h)
        generalize H1 = H at hP hS ⊢
        obtain rfl : r74 = p73.1 := hw
        refine lv_if_eq (tgt := 122) hx hb dX12_catching_109 (by decide) (fun c75 => ?_) (fun c75 => ?_)
        ·
          replace hf := (if_pos c75).symm.trans hf
          refine lv_aload_n hx hb dX12_catching_122 rfl (lv_at hl 0 rfl) ?_
          refine rG_37 hx hb hts i_X12_catching_X12 hown hK hP (hts (.fieldLink RX12 123 "StatementRules2Model" "catchNext" "[I") k_X12_catching_fieldLink_RX12_123_SRModel_catchNext_I) dX12_catching_123 ?_
          refine lv_iload hx hb dX12_catching_126 (lv_at hl 3 rfl) ?_
          refine rL_37 (v := (p73.2.a 37 ((x4 : Int32).toNatClampNeg))) hx hb hK hP b72 dX12_catching_128 rfl ?_
          refine lv_istore (lv' := [(4, .int (p73.2.a 37 ((x4 : Int32).toNatClampNeg))), (0, .ref Q.h0), (1, .int x1), (2, .int x2)]) hx hb dX12_catching_129 hl (by decide) rfl (fun ls hl => ?_)
          refine lv_goto (tgt := 82) hx hb dX12_catching_131 (by decide) ?_
          exact ih p73.2 x1 x2 (p73.2.a 37 ((x4 : Int32).toNatClampNeg)) _ _ _ hf hP hD hS (lv_sub hl [1, 2, 3, 0] rfl)
        ·
          replace hf := (if_neg c75).symm.trans hf
          refine lv_aload_n hx hb dX12_catching_112 rfl (lv_at hl 0 rfl) ?_
          refine lv_bipush (v := 6) hx hb dX12_catching_113 (by decide) ?_
          refine lv_aload_n hx hb dX12_catching_115 rfl (lv_at hl 0 rfl) ?_
          refine rG_11 (v := (p73.2.i 11)) hx hb hts i_X12_catching_X12 hown hK hP (hts (.fieldLink RX12 304 "StatementRules2Model" "from" "I") k_X12_catching_fieldLink_RX12_304_SRModel_from_I) dX12_catching_116 rfl ?_
          obtain ⟨p76, hcp76, hf⟩ := hf_bind hf
          have hFc := r_free hD hS hA
          refine va_callv (va_runV (As := [.int 6, .int (p73.2.i 11)]) (rest := []) ⟨hx, hb, hml, hown, hts⟩ (c_X12_fail l dC dI _ Q N p73.2 6 (p73.2.i 11) p76 hcp76) (cwV 2 hts hX12_catching_X12_fail_v337 rfl rfl rfl (by decide +kernel) ⟨Nat.le_of_ble_eq_true rfl, Nat.le_of_ble_eq_true rfl⟩) ⟨zPre.blind, va_recv hK hP (ci := 11) (q0 := 0) rfl rfl, zPre.go hZ hP hK hD⟩ rfl rfl hl.1 rfl (lv_room (Nat.le_of_ble_eq_true rfl)) dX12_catching_119 ⟨Nat.le_of_ble_eq_true rfl, Nat.le_of_ble_eq_true rfl⟩) hS (fun q _ h => hFc q h) hFc (fun u9 t9 H1 locs ht hvm hw hB hz1 hk1 hS => ?_)
          obtain ⟨hP, hK1, hD1⟩ := hB
          rw [ht] at hP
          have hD := hD1.weaken (fun _ _ _ h => hFc _ h)
          generalize H1 = H at hP hS ⊢
          refine lv_aload_n hx hb dX12_catching_122 rfl (lv_at hl 0 rfl) ?_
          refine rG_37 hx hb hts i_X12_catching_X12 hown hK hP (hts (.fieldLink RX12 123 "StatementRules2Model" "catchNext" "[I") k_X12_catching_fieldLink_RX12_123_SRModel_catchNext_I) dX12_catching_123 ?_
          refine lv_iload hx hb dX12_catching_126 (lv_at hl 3 rfl) ?_
          refine rL_37 (v := (p76.a 37 ((x4 : Int32).toNatClampNeg))) hx hb hK hP b72 dX12_catching_128 rfl ?_
          refine lv_istore (lv' := [(4, .int (p76.a 37 ((x4 : Int32).toNatClampNeg))), (0, .ref Q.h0), (1, .int x1), (2, .int x2)]) hx hb dX12_catching_129 hl (by decide) rfl (fun ls hl => ?_)
          refine lv_goto (tgt := 82) hx hb dX12_catching_131 (by decide) ?_
          exact ih p76 x1 x2 (p76.a 37 ((x4 : Int32).toNatClampNeg)) _ _ _ hf hP hD hS (lv_sub hl [1, 2, 3, 0] rfl)
set_option maxHeartbeats 4000000 in
set_option maxRecDepth 100000 in
theorem j_X12_catching_18 {p : Program} {e : Env} {s : State} {m : MethodId} {args : Array Value} {below : List Frame} {meth : Method} {c : Code} {A : Nat → Prop} (l : Launch) (dC : Nat → ClassId) (dI : Nat → Nat → Nat) (Q : RQ) (N : Nat) (R : RS) (hx : p.tables.exec = Jvm.exec) (hb : c.code = cX12_catching) (hr : meth.sig.returnType = none) (hml : c.maxLocals = 6) (hown : s.vm.findClass RX12 = some m.cls) (hts : ∀ w ∈ wzX12_catching, w.before args s = true) (hlocks : meth.locks = false) (hZ : zAMB s) (hA : ∀ q : Nat, s.heap.size ≤ q → A q) (hK : va_K (dC, dI) vwCl (rT Q) s) : ∀ (n9 : Nat), ∀ (σ : RS) (x1 : Int32) (x2 : Int32) (x3 : Int32) (H : Heap) (locs : List Loc) (ls : Array Slot), f_X12_catching_18 N n9 σ x1 x2 x3 = some R → va_P (dC, dI) vwCl (rW Q σ) H → va_D A (rW Q σ) → va_S A s.heap H locs → lv_has ls 6 [(0, .ref Q.h0), (1, .int x1), (2, .int x2), (3, .int x3)] → W p l e ({ frames := 6, cells := 0, slots := 0, locals := 360 }) s m args below meth c H locs 0 0 (MQ below (va_Qv (fun (_ : Unit) => True) (fun (_ : Unit) (t : State) => zPost dC dI A (rW Q R) (rT Q) t) A) args s 0 0 A) (F0 m 18 ls []) := by
  intro n9
  induction n9 with
  | zero => intro σ x1 x2 x3 H locs ls hf; exact absurd hf (by intro h9; cases h9)
  | succ n9 ih =>
    intro σ x1 x2 x3 H locs ls hf hP hD hS hl
    replace hf : b_X12_catching_18 N (f_X12_catching_18 N n9) σ x1 x2 x3 = some R := hf
    unfold b_X12_catching_18 at hf
    refine lv_iload_n hx hb dX12_catching_18 rfl (lv_at hl 3 rfl) ?_
    refine lv_if_eq (tgt := 256) hx hb dX12_catching_19 (by decide) (fun c5 => ?_) (fun c5 => ?_)
    ·
      replace hf := (if_pos c5).symm.trans hf
      exact j_X12_catching_256 l dC dI Q N R hx hb hr hml hown hts hlocks hZ hA hK σ x2 _ _ _ hf hP hD hS (lv_sub hl [0, 2] rfl)
    ·
      replace hf := (if_neg c5).symm.trans hf
      refine lv_aload_n hx hb dX12_catching_22 rfl (lv_at hl 0 rfl) ?_
      refine rG_15 (v := (σ.i 15)) hx hb hts i_X12_catching_X12 hown hK hP (hts (.fieldLink RX12 291 "StatementRules2Model" "fault" "I") k_X12_catching_fieldLink_RX12_291_SRModel_fault_I) dX12_catching_23 rfl ?_
      refine lv_if_ne (tgt := 256) hx hb dX12_catching_26 (by decide) (fun c28 => ?_) (fun c28 => ?_)
      ·
        replace hf := (if_neg c28).symm.trans hf
        exact j_X12_catching_256 l dC dI Q N R hx hb hr hml hown hts hlocks hZ hA hK σ x2 _ _ _ hf hP hD hS (lv_sub hl [0, 2] rfl)
      ·
        replace hf := (if_pos c28).symm.trans hf
        refine lv_aload_n hx hb dX12_catching_29 rfl (lv_at hl 0 rfl) ?_
        refine lv_aload_n hx hb dX12_catching_30 rfl (lv_at hl 0 rfl) ?_
        refine rG_10 (v := (σ.i 10)) hx hb hts i_X12_catching_X12 hown hK hP (hts (.fieldLink RX12 307 "StatementRules2Model" "tok" "I") k_X12_catching_fieldLink_RX12_307_SRModel_tok_I) dX12_catching_31 rfl ?_
        refine lv_iconst (v := 5) hx hb dX12_catching_34 (by decide) ?_
        refine lv_icmp_ne (tgt := 42) hx hb dX12_catching_35 (by decide) (fun c29 => ?_) (fun c29 => ?_)
        ·
          replace hf := (if_neg c29).symm.trans hf
          refine lv_iconst (v := 0) hx hb dX12_catching_42 (by decide) ?_
          obtain ⟨p30, hcp30, hf⟩ := hf_bind hf
          have hFc := r_free hD hS hA
          refine va_calli (va_runV (As := [.int 0]) (rest := []) ⟨hx, hb, hml, hown, hts⟩ (c_X12_can l dC dI _ Q N σ 0 p30 hcp30) (cwV 1 hts hX12_catching_X12_can_v341 rfl rfl rfl (by decide +kernel) ⟨Nat.le_of_ble_eq_true rfl, Nat.le_of_ble_eq_true rfl⟩) ⟨zPre.blind, va_recv hK hP (ci := 11) (q0 := 0) rfl rfl, zPre.go hZ hP hK hD⟩ rfl rfl hl.1 rfl (lv_room (Nat.le_of_ble_eq_true rfl)) dX12_catching_43 ⟨Nat.le_of_ble_eq_true rfl, Nat.le_of_ble_eq_true rfl⟩) hS (fun q _ h => hFc q h) hFc (fun r31 u9 t9 H1 locs ht hvm hw hB hz1 hk1 hS => ?_)
          obtain ⟨hP, hK1, hD1⟩ := hB
          rw [ht] at hP
          have hD := hD1.weaken (fun _ _ _ h => hFc _ h)
          generalize H1 = H at hP hS ⊢
          obtain rfl : r31 = p30.1 := hw
          refine lv_if_eq (tgt := 18) hx hb dX12_catching_46 (by decide) (fun c32 => ?_) (fun c32 => ?_)
          ·
            replace hf := (if_pos c32).symm.trans hf
            exact ih p30.2 x1 x2 x3 _ _ _ hf hP hD hS (lv_sub hl [0, 1, 2, 3] rfl)
          ·
            replace hf := (if_neg c32).symm.trans hf
            refine lv_aload_n hx hb dX12_catching_49 rfl (lv_at hl 0 rfl) ?_
            refine rG_14 (v := (p30.2.i 14)) hx hb hts i_X12_catching_X12 hown hK hP (hts (.fieldLink RX12 314 "StatementRules2Model" "number" "I") k_X12_catching_fieldLink_RX12_314_SRModel_number_I) dX12_catching_50 rfl ?_
            refine lv_aload_n hx hb dX12_catching_53 rfl (lv_at hl 0 rfl) ?_
            refine rG_3 (v := (p30.2.i 3)) hx hb hts i_X12_catching_X12 hown hK hP (hts (.fieldLink RX12 13 "StatementRules2Model" "kinds" "I") k_X12_catching_fieldLink_RX12_13_SRModel_kinds_I) dX12_catching_54 rfl ?_
            refine lv_icmp_lt (tgt := 69) hx hb dX12_catching_57 (by decide) (fun c33 => ?_) (fun c33 => ?_)
            ·
              replace hf := (if_pos c33).symm.trans hf
              refine lv_aload_n hx hb dX12_catching_69 rfl (lv_at hl 0 rfl) ?_
              refine rG_30 hx hb hts i_X12_catching_X12 hown hK hP (hts (.fieldLink RX12 105 "StatementRules2Model" "tryCatch" "[I") k_X12_catching_fieldLink_RX12_105_SRModel_tryCatch_I) dX12_catching_70 ?_
              refine lv_aload_n hx hb dX12_catching_73 rfl (lv_at hl 0 rfl) ?_
              refine rG_66 hx hb hts i_X12_catching_X12 hown hK hP (hts (.fieldLink RX12 180 "StatementRules2Model" "fp" "[I") k_X12_catching_fieldLink_RX12_180_SRModel_fp_I) dX12_catching_74 ?_
              refine lv_iload_n hx hb dX12_catching_77 rfl (lv_at hl 1 rfl) ?_
              obtain ⟨b34, hf⟩ := hf_ite hf
              refine rL_66 (v := (p30.2.a 66 ((x1 : Int32).toNatClampNeg))) hx hb hK hP b34 dX12_catching_78 rfl ?_
              obtain ⟨b35, hf⟩ := hf_ite hf
              refine rL_30 (v := (p30.2.a 30 (((p30.2.a 66 ((x1 : Int32).toNatClampNeg)) : Int32).toNatClampNeg))) hx hb hK hP b35 dX12_catching_79 rfl ?_
              refine lv_istore (lv' := [(4, .int (p30.2.a 30 (((p30.2.a 66 ((x1 : Int32).toNatClampNeg)) : Int32).toNatClampNeg))), (0, .ref Q.h0), (1, .int x1), (2, .int x2), (3, .int x3)]) hx hb dX12_catching_80 hl (by decide) rfl (fun ls hl => ?_)
              exact j_X12_catching_82 l dC dI Q N R hx hb hr hml hown hts hlocks hZ hA hK (f_X12_catching_18 N n9) ih N p30.2 x1 x2 (p30.2.a 30 (((p30.2.a 66 ((x1 : Int32).toNatClampNeg)) : Int32).toNatClampNeg)) _ _ _ hf hP hD hS (lv_sub hl [1, 2, 3, 0] rfl)
            ·
              replace hf := (if_neg c33).symm.trans hf
              refine lv_aload_n hx hb dX12_catching_60 rfl (lv_at hl 0 rfl) ?_
              refine lv_iconst (v := 3) hx hb dX12_catching_61 (by decide) ?_
              refine lv_aload_n hx hb dX12_catching_62 rfl (lv_at hl 0 rfl) ?_
              refine rG_11 (v := (p30.2.i 11)) hx hb hts i_X12_catching_X12 hown hK hP (hts (.fieldLink RX12 304 "StatementRules2Model" "from" "I") k_X12_catching_fieldLink_RX12_304_SRModel_from_I) dX12_catching_63 rfl ?_
              obtain ⟨p78, hcp78, hf⟩ := hf_bind hf
              have hFc := r_free hD hS hA
              refine va_callv (va_runV (As := [.int 3, .int (p30.2.i 11)]) (rest := []) ⟨hx, hb, hml, hown, hts⟩ (c_X12_fail l dC dI _ Q N p30.2 3 (p30.2.i 11) p78 hcp78) (cwV 2 hts hX12_catching_X12_fail_v337 rfl rfl rfl (by decide +kernel) ⟨Nat.le_of_ble_eq_true rfl, Nat.le_of_ble_eq_true rfl⟩) ⟨zPre.blind, va_recv hK hP (ci := 11) (q0 := 0) rfl rfl, zPre.go hZ hP hK hD⟩ rfl rfl hl.1 rfl (lv_room (Nat.le_of_ble_eq_true rfl)) dX12_catching_66 ⟨Nat.le_of_ble_eq_true rfl, Nat.le_of_ble_eq_true rfl⟩) hS (fun q _ h => hFc q h) hFc (fun u9 t9 H1 locs ht hvm hw hB hz1 hk1 hS => ?_)
              obtain ⟨hP, hK1, hD1⟩ := hB
              rw [ht] at hP
              have hD := hD1.weaken (fun _ _ _ h => hFc _ h)
              generalize H1 = H at hP hS ⊢
              refine lv_aload_n hx hb dX12_catching_69 rfl (lv_at hl 0 rfl) ?_
              refine rG_30 hx hb hts i_X12_catching_X12 hown hK hP (hts (.fieldLink RX12 105 "StatementRules2Model" "tryCatch" "[I") k_X12_catching_fieldLink_RX12_105_SRModel_tryCatch_I) dX12_catching_70 ?_
              refine lv_aload_n hx hb dX12_catching_73 rfl (lv_at hl 0 rfl) ?_
              refine rG_66 hx hb hts i_X12_catching_X12 hown hK hP (hts (.fieldLink RX12 180 "StatementRules2Model" "fp" "[I") k_X12_catching_fieldLink_RX12_180_SRModel_fp_I) dX12_catching_74 ?_
              refine lv_iload_n hx hb dX12_catching_77 rfl (lv_at hl 1 rfl) ?_
              obtain ⟨b80, hf⟩ := hf_ite hf
              refine rL_66 (v := (p78.a 66 ((x1 : Int32).toNatClampNeg))) hx hb hK hP b80 dX12_catching_78 rfl ?_
              obtain ⟨b81, hf⟩ := hf_ite hf
              refine rL_30 (v := (p78.a 30 (((p78.a 66 ((x1 : Int32).toNatClampNeg)) : Int32).toNatClampNeg))) hx hb hK hP b81 dX12_catching_79 rfl ?_
              refine lv_istore (lv' := [(4, .int (p78.a 30 (((p78.a 66 ((x1 : Int32).toNatClampNeg)) : Int32).toNatClampNeg))), (0, .ref Q.h0), (1, .int x1), (2, .int x2), (3, .int x3)]) hx hb dX12_catching_80 hl (by decide) rfl (fun ls hl => ?_)
              exact j_X12_catching_82 l dC dI Q N R hx hb hr hml hown hts hlocks hZ hA hK (f_X12_catching_18 N n9) ih N p78 x1 x2 (p78.a 30 (((p78.a 66 ((x1 : Int32).toNatClampNeg)) : Int32).toNatClampNeg)) _ _ _ hf hP hD hS (lv_sub hl [1, 2, 3, 0] rfl)
        ·
          replace hf := (if_pos c29).symm.trans hf
          refine lv_iconst (v := 1) hx hb dX12_catching_38 (by decide) ?_
          refine lv_goto (tgt := 43) hx hb dX12_catching_39 (by decide) ?_
          obtain ⟨p82, hcp82, hf⟩ := hf_bind hf
          have hFc := r_free hD hS hA
          refine va_calli (va_runV (As := [.int 1]) (rest := []) ⟨hx, hb, hml, hown, hts⟩ (c_X12_can l dC dI _ Q N σ 1 p82 hcp82) (cwV 1 hts hX12_catching_X12_can_v341 rfl rfl rfl (by decide +kernel) ⟨Nat.le_of_ble_eq_true rfl, Nat.le_of_ble_eq_true rfl⟩) ⟨zPre.blind, va_recv hK hP (ci := 11) (q0 := 0) rfl rfl, zPre.go hZ hP hK hD⟩ rfl rfl hl.1 rfl (lv_room (Nat.le_of_ble_eq_true rfl)) dX12_catching_43 ⟨Nat.le_of_ble_eq_true rfl, Nat.le_of_ble_eq_true rfl⟩) hS (fun q _ h => hFc q h) hFc (fun r83 u9 t9 H1 locs ht hvm hw hB hz1 hk1 hS => ?_)
          obtain ⟨hP, hK1, hD1⟩ := hB
          rw [ht] at hP
          have hD := hD1.weaken (fun _ _ _ h => hFc _ h)
          generalize H1 = H at hP hS ⊢
          obtain rfl : r83 = p82.1 := hw
          refine lv_if_eq (tgt := 18) hx hb dX12_catching_46 (by decide) (fun c84 => ?_) (fun c84 => ?_)
          ·
            replace hf := (if_pos c84).symm.trans hf
            exact ih p82.2 x1 x2 x3 _ _ _ hf hP hD hS (lv_sub hl [0, 1, 2, 3] rfl)
          ·
            replace hf := (if_neg c84).symm.trans hf
            refine lv_aload_n hx hb dX12_catching_49 rfl (lv_at hl 0 rfl) ?_
            refine rG_14 (v := (p82.2.i 14)) hx hb hts i_X12_catching_X12 hown hK hP (hts (.fieldLink RX12 314 "StatementRules2Model" "number" "I") k_X12_catching_fieldLink_RX12_314_SRModel_number_I) dX12_catching_50 rfl ?_
            refine lv_aload_n hx hb dX12_catching_53 rfl (lv_at hl 0 rfl) ?_
            refine rG_3 (v := (p82.2.i 3)) hx hb hts i_X12_catching_X12 hown hK hP (hts (.fieldLink RX12 13 "StatementRules2Model" "kinds" "I") k_X12_catching_fieldLink_RX12_13_SRModel_kinds_I) dX12_catching_54 rfl ?_
            refine lv_icmp_lt (tgt := 69) hx hb dX12_catching_57 (by decide) (fun c85 => ?_) (fun c85 => ?_)
            ·
              replace hf := (if_pos c85).symm.trans hf
              refine lv_aload_n hx hb dX12_catching_69 rfl (lv_at hl 0 rfl) ?_
              refine rG_30 hx hb hts i_X12_catching_X12 hown hK hP (hts (.fieldLink RX12 105 "StatementRules2Model" "tryCatch" "[I") k_X12_catching_fieldLink_RX12_105_SRModel_tryCatch_I) dX12_catching_70 ?_
              refine lv_aload_n hx hb dX12_catching_73 rfl (lv_at hl 0 rfl) ?_
              refine rG_66 hx hb hts i_X12_catching_X12 hown hK hP (hts (.fieldLink RX12 180 "StatementRules2Model" "fp" "[I") k_X12_catching_fieldLink_RX12_180_SRModel_fp_I) dX12_catching_74 ?_
              refine lv_iload_n hx hb dX12_catching_77 rfl (lv_at hl 1 rfl) ?_
              obtain ⟨b86, hf⟩ := hf_ite hf
              refine rL_66 (v := (p82.2.a 66 ((x1 : Int32).toNatClampNeg))) hx hb hK hP b86 dX12_catching_78 rfl ?_
              obtain ⟨b87, hf⟩ := hf_ite hf
              refine rL_30 (v := (p82.2.a 30 (((p82.2.a 66 ((x1 : Int32).toNatClampNeg)) : Int32).toNatClampNeg))) hx hb hK hP b87 dX12_catching_79 rfl ?_
              refine lv_istore (lv' := [(4, .int (p82.2.a 30 (((p82.2.a 66 ((x1 : Int32).toNatClampNeg)) : Int32).toNatClampNeg))), (0, .ref Q.h0), (1, .int x1), (2, .int x2), (3, .int x3)]) hx hb dX12_catching_80 hl (by decide) rfl (fun ls hl => ?_)
              exact j_X12_catching_82 l dC dI Q N R hx hb hr hml hown hts hlocks hZ hA hK (f_X12_catching_18 N n9) ih N p82.2 x1 x2 (p82.2.a 30 (((p82.2.a 66 ((x1 : Int32).toNatClampNeg)) : Int32).toNatClampNeg)) _ _ _ hf hP hD hS (lv_sub hl [1, 2, 3, 0] rfl)
            ·
              replace hf := (if_neg c85).symm.trans hf
              refine lv_aload_n hx hb dX12_catching_60 rfl (lv_at hl 0 rfl) ?_
              refine lv_iconst (v := 3) hx hb dX12_catching_61 (by decide) ?_
              refine lv_aload_n hx hb dX12_catching_62 rfl (lv_at hl 0 rfl) ?_
              refine rG_11 (v := (p82.2.i 11)) hx hb hts i_X12_catching_X12 hown hK hP (hts (.fieldLink RX12 304 "StatementRules2Model" "from" "I") k_X12_catching_fieldLink_RX12_304_SRModel_from_I) dX12_catching_63 rfl ?_
              obtain ⟨p88, hcp88, hf⟩ := hf_bind hf
              have hFc := r_free hD hS hA
              refine va_callv (va_runV (As := [.int 3, .int (p82.2.i 11)]) (rest := []) ⟨hx, hb, hml, hown, hts⟩ (c_X12_fail l dC dI _ Q N p82.2 3 (p82.2.i 11) p88 hcp88) (cwV 2 hts hX12_catching_X12_fail_v337 rfl rfl rfl (by decide +kernel) ⟨Nat.le_of_ble_eq_true rfl, Nat.le_of_ble_eq_true rfl⟩) ⟨zPre.blind, va_recv hK hP (ci := 11) (q0 := 0) rfl rfl, zPre.go hZ hP hK hD⟩ rfl rfl hl.1 rfl (lv_room (Nat.le_of_ble_eq_true rfl)) dX12_catching_66 ⟨Nat.le_of_ble_eq_true rfl, Nat.le_of_ble_eq_true rfl⟩) hS (fun q _ h => hFc q h) hFc (fun u9 t9 H1 locs ht hvm hw hB hz1 hk1 hS => ?_)
              obtain ⟨hP, hK1, hD1⟩ := hB
              rw [ht] at hP
              have hD := hD1.weaken (fun _ _ _ h => hFc _ h)
              generalize H1 = H at hP hS ⊢
              refine lv_aload_n hx hb dX12_catching_69 rfl (lv_at hl 0 rfl) ?_
              refine rG_30 hx hb hts i_X12_catching_X12 hown hK hP (hts (.fieldLink RX12 105 "StatementRules2Model" "tryCatch" "[I") k_X12_catching_fieldLink_RX12_105_SRModel_tryCatch_I) dX12_catching_70 ?_
              refine lv_aload_n hx hb dX12_catching_73 rfl (lv_at hl 0 rfl) ?_
              refine rG_66 hx hb hts i_X12_catching_X12 hown hK hP (hts (.fieldLink RX12 180 "StatementRules2Model" "fp" "[I") k_X12_catching_fieldLink_RX12_180_SRModel_fp_I) dX12_catching_74 ?_
              refine lv_iload_n hx hb dX12_catching_77 rfl (lv_at hl 1 rfl) ?_
              obtain ⟨b90, hf⟩ := hf_ite hf
              refine rL_66 (v := (p88.a 66 ((x1 : Int32).toNatClampNeg))) hx hb hK hP b90 dX12_catching_78 rfl ?_
              obtain ⟨b91, hf⟩ := hf_ite hf
              refine rL_30 (v := (p88.a 30 (((p88.a 66 ((x1 : Int32).toNatClampNeg)) : Int32).toNatClampNeg))) hx hb hK hP b91 dX12_catching_79 rfl ?_
              refine lv_istore (lv' := [(4, .int (p88.a 30 (((p88.a 66 ((x1 : Int32).toNatClampNeg)) : Int32).toNatClampNeg))), (0, .ref Q.h0), (1, .int x1), (2, .int x2), (3, .int x3)]) hx hb dX12_catching_80 hl (by decide) rfl (fun ls hl => ?_)
              exact j_X12_catching_82 l dC dI Q N R hx hb hr hml hown hts hlocks hZ hA hK (f_X12_catching_18 N n9) ih N p88 x1 x2 (p88.a 30 (((p88.a 66 ((x1 : Int32).toNatClampNeg)) : Int32).toNatClampNeg)) _ _ _ hf hP hD hS (lv_sub hl [1, 2, 3, 0] rfl)
set_option maxHeartbeats 4000000 in
set_option maxRecDepth 100000 in
theorem c_X12_catching (l : Launch) (dC : Nat → ClassId) (dI : Nat → Nat → Nat) (sz : Nat) (Q : RQ) (N : Nat) (σ : RS) (x1 : Int32) (R : RS) (hf : f_X12_catching N σ x1 = some R) : Met l yX12_catching wzX12_catching ({ frames := 6, cells := 0, slots := 0, locals := 360 }) (va_Pc [.ref Q.h0, .int x1] (zPre dC dI sz (rW Q σ) (rT Q))) (va_Qv (fun (_ : Unit) => True) (fun (_ : Unit) (t : State) => zPost dC dI (va_A (rW Q σ) sz) (rW Q R) (rT Q) t) (va_A (rW Q σ) sz)) 0 0 (va_A (rW Q σ) sz) := by
  refine Met.ofW (cc := cX12_catching) (maxL := 6) (ret := none) (by decide) rfl ?_
  intro p e s m args below meth c s₁ B hml hv
  obtain ⟨rfl, hsz, hZ, hP, hK, hD0⟩ := hv
  have hx := B.exec
  have hb := B.bytes
  have hr := B.returns
  have hts := atoms_spec (ws := wzX12_catching) B.pre
  have hown : s.vm.findClass RX12 = some m.cls := findClass_of_methodNamed B.named
  have hlocks := B.notSynchronized
  subst hsz
  have hD := hD0.self (sz := s.heap.size)
  generalize hAe : va_A (rW Q σ) s.heap.size = A at hD ⊢
  have hA : ∀ q : Nat, s.heap.size ≤ q → A q := fun q h => by rw [← hAe]; exact Or.inr h
  have hS : va_S A s.heap s.heap [] := va_S.rf
  have hl := lv_entry ([.ref Q.h0, .int x1]) (n := 6) (Nat.le_of_ble_eq_true rfl)
  rw [lg_entry_eq]
  generalize (lg_sl ([.ref Q.h0, .int x1]) ++ List.replicate (6 - (lg_sl ([.ref Q.h0, .int x1])).length) Slot.unset).toArray = ls at hl ⊢
  have hl : lv_has ls 6 [(0, .ref Q.h0), (1, .int x1)] := hl
  unfold f_X12_catching at hf
  refine lv_aload_n hx hb dX12_catching_0 rfl (lv_at hl 0 rfl) ?_
  refine rG_33 (v := (σ.i 33)) hx hb hts i_X12_catching_X12 hown hK hP (hts (.fieldLink RX12 561 "StatementRules2Model" "catches" "I") k_X12_catching_fieldLink_RX12_561_SRModel_catches_I) dX12_catching_1 rfl ?_
  refine lv_istore_n (lv' := [(2, .int (σ.i 33)), (0, .ref Q.h0), (1, .int x1)]) hx hb dX12_catching_4 rfl hl (by decide) rfl (fun ls hl => ?_)
  refine lv_aload_n hx hb dX12_catching_5 rfl (lv_at hl 1 rfl) ?_
  obtain ⟨p1, hcp1, hf⟩ := hf_bind hf
  have hFc := r_free hD hS hA
  refine va_callv (va_runV (As := []) (rest := []) ⟨hx, hb, hml, hown, hts⟩ (c_X12_next l dC dI _ Q N σ p1 hcp1) (cwV 0 hts hX12_catching_X12_next_v345 rfl rfl rfl (by decide +kernel) ⟨Nat.le_of_ble_eq_true rfl, Nat.le_of_ble_eq_true rfl⟩) ⟨zPre.blind, va_recv hK hP (ci := 11) (q0 := 0) rfl rfl, zPre.go hZ hP hK hD⟩ rfl rfl hl.1 rfl (lv_room (Nat.le_of_ble_eq_true rfl)) dX12_catching_6 ⟨Nat.le_of_ble_eq_true rfl, Nat.le_of_ble_eq_true rfl⟩) hS (fun q _ h => hFc q h) hFc (fun u9 t9 H1 locs ht hvm hw hB hz1 hk1 hS => ?_)
  obtain ⟨hP, hK1, hD1⟩ := hB
  rw [ht] at hP
  have hD := hD1.weaken (fun _ _ _ h => hFc _ h)
  generalize H1 = H at hP hS ⊢
  refine lv_aload_n hx hb dX12_catching_9 rfl (lv_at hl 1 rfl) ?_
  refine lv_bipush (v := 40) hx hb dX12_catching_10 (by decide) ?_
  obtain ⟨p3, hcp3, hf⟩ := hf_bind hf
  have hFc := r_free hD hS hA
  refine va_calli (va_runV (As := [.int 40]) (rest := []) ⟨hx, hb, hml, hown, hts⟩ (c_X12_open l dC dI _ Q N p1 40 p3 hcp3) (cwV 1 hts hX12_catching_X12_open_v475 rfl rfl rfl (by decide +kernel) ⟨Nat.le_of_ble_eq_true rfl, Nat.le_of_ble_eq_true rfl⟩) ⟨zPre.blind, va_recv hK hP (ci := 11) (q0 := 0) rfl rfl, zPre.go hZ hP hK hD⟩ rfl rfl hl.1 rfl (lv_room (Nat.le_of_ble_eq_true rfl)) dX12_catching_12 ⟨Nat.le_of_ble_eq_true rfl, Nat.le_of_ble_eq_true rfl⟩) hS (fun q _ h => hFc q h) hFc (fun r4 u9 t9 H1 locs ht hvm hw hB hz1 hk1 hS => ?_)
  obtain ⟨hP, hK1, hD1⟩ := hB
  rw [ht] at hP
  have hD := hD1.weaken (fun _ _ _ h => hFc _ h)
  generalize H1 = H at hP hS ⊢
  obtain rfl : r4 = p3.1 := hw
  refine lv_pop hx hb dX12_catching_15 rfl ?_
  refine lv_iconst (v := 1) hx hb dX12_catching_16 (by decide) ?_
  refine lv_istore_n (lv' := [(3, .int 1), (2, .int (σ.i 33)), (0, .ref Q.h0), (1, .int x1)]) hx hb dX12_catching_17 rfl hl (by decide) rfl (fun ls hl => ?_)
  exact j_X12_catching_18 l dC dI Q N R hx hb hr hml hown hts hlocks hZ hA hK N p3.2 x1 (σ.i 33) 1 _ _ _ hf hP hD hS (lv_sub hl [2, 3, 1, 0] rfl)
