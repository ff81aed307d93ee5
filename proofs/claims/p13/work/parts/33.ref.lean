section
theorem k_X12_read_fieldLink_RX12_273_SRModel_thrown_I : Cond.fieldLink RX12 273 "StatementRules2Model" "thrown" "I" ∈ wzX12_read := List.mem_cons_of_mem _ (List.mem_append_left _ (List.mem_of_getElem? (i := 0) rfl))
theorem i_X12_read_X12 : ∀ w ∈ wsX120, w ∈ wzX12_read := fun _ h => List.mem_cons_of_mem _ (List.mem_append_right _ (List.mem_append_left _ (h)))
theorem k_X12_read_fieldLink_RX12_361_SRModel_seen_I : Cond.fieldLink RX12 361 "StatementRules2Model" "seen" "I" ∈ wzX12_read := List.mem_cons_of_mem _ (List.mem_append_left _ (List.mem_of_getElem? (i := 1) rfl))
theorem k_X12_read_fieldLink_RX12_364_SRModel_slots_I : Cond.fieldLink RX12 364 "StatementRules2Model" "slots" "I" ∈ wzX12_read := List.mem_cons_of_mem _ (List.mem_append_left _ (List.mem_of_getElem? (i := 2) rfl))
theorem k_X12_read_fieldLink_RX12_367_SRModel_goals_I : Cond.fieldLink RX12 367 "StatementRules2Model" "goals" "I" ∈ wzX12_read := List.mem_cons_of_mem _ (List.mem_append_left _ (List.mem_of_getElem? (i := 3) rfl))
theorem k_X12_read_fieldLink_RX12_348_SRModel_opened_I : Cond.fieldLink RX12 348 "StatementRules2Model" "opened" "I" ∈ wzX12_read := List.mem_cons_of_mem _ (List.mem_append_left _ (List.mem_of_getElem? (i := 4) rfl))
theorem k_X12_read_fieldLink_RX12_494_SRModel_statements_I : Cond.fieldLink RX12 494 "StatementRules2Model" "statements" "I" ∈ wzX12_read := List.mem_cons_of_mem _ (List.mem_append_left _ (List.mem_of_getElem? (i := 5) rfl))
theorem k_X12_read_fieldLink_RX12_500_SRModel_tellings_I : Cond.fieldLink RX12 500 "StatementRules2Model" "tellings" "I" ∈ wzX12_read := List.mem_cons_of_mem _ (List.mem_append_left _ (List.mem_of_getElem? (i := 6) rfl))
theorem k_X12_read_fieldLink_RX12_527_SRModel_jumps_I : Cond.fieldLink RX12 527 "StatementRules2Model" "jumps" "I" ∈ wzX12_read := List.mem_cons_of_mem _ (List.mem_append_left _ (List.mem_of_getElem? (i := 7) rfl))
theorem k_X12_read_fieldLink_RX12_358_SRModel_codes_I : Cond.fieldLink RX12 358 "StatementRules2Model" "codes" "I" ∈ wzX12_read := List.mem_cons_of_mem _ (List.mem_append_left _ (List.mem_of_getElem? (i := 8) rfl))
theorem k_X12_read_fieldLink_RX12_478_SRModel_entries_I : Cond.fieldLink RX12 478 "StatementRules2Model" "entries" "I" ∈ wzX12_read := List.mem_cons_of_mem _ (List.mem_append_left _ (List.mem_of_getElem? (i := 9) rfl))
theorem k_X12_read_fieldLink_RX12_549_SRModel_tries_I : Cond.fieldLink RX12 549 "StatementRules2Model" "tries" "I" ∈ wzX12_read := List.mem_cons_of_mem _ (List.mem_append_left _ (List.mem_of_getElem? (i := 10) rfl))
theorem k_X12_read_fieldLink_RX12_561_SRModel_catches_I : Cond.fieldLink RX12 561 "StatementRules2Model" "catches" "I" ∈ wzX12_read := List.mem_cons_of_mem _ (List.mem_append_left _ (List.mem_of_getElem? (i := 11) rfl))
theorem k_X12_read_fieldLink_RX12_377_SRModel_walls_I : Cond.fieldLink RX12 377 "StatementRules2Model" "walls" "I" ∈ wzX12_read := List.mem_cons_of_mem _ (List.mem_append_left _ (List.mem_of_getElem? (i := 12) rfl))
theorem k_X12_read_fieldLink_RX12_384_SRModel_pends_I : Cond.fieldLink RX12 384 "StatementRules2Model" "pends" "I" ∈ wzX12_read := List.mem_cons_of_mem _ (List.mem_append_left _ (List.mem_of_getElem? (i := 13) rfl))
theorem k_X12_read_fieldLink_RX12_370_SRModel_depth_I : Cond.fieldLink RX12 370 "StatementRules2Model" "depth" "I" ∈ wzX12_read := List.mem_cons_of_mem _ (List.mem_append_left _ (List.mem_of_getElem? (i := 14) rfl))
theorem k_X12_read_fieldLink_RX12_297_SRModel_to_I : Cond.fieldLink RX12 297 "StatementRules2Model" "to" "I" ∈ wzX12_read := List.mem_cons_of_mem _ (List.mem_append_left _ (List.mem_of_getElem? (i := 15) rfl))
theorem k_X12_read_fieldLink_RX12_291_SRModel_fault_I : Cond.fieldLink RX12 291 "StatementRules2Model" "fault" "I" ∈ wzX12_read := List.mem_cons_of_mem _ (List.mem_append_left _ (List.mem_of_getElem? (i := 16) rfl))
theorem k_X12_read_fieldLink_RX12_334_SRModel_late_I : Cond.fieldLink RX12 334 "StatementRules2Model" "late" "I" ∈ wzX12_read := List.mem_cons_of_mem _ (List.mem_append_left _ (List.mem_of_getElem? (i := 17) rfl))
theorem k_X12_read_fieldLink_RX12_294_SRModel_tokens_I : Cond.fieldLink RX12 294 "StatementRules2Model" "tokens" "I" ∈ wzX12_read := List.mem_cons_of_mem _ (List.mem_append_left _ (List.mem_of_getElem? (i := 18) rfl))
theorem k_X12_read_constantLong_RX12_564_97 : Cond.constantLong RX12 564 (97) ∈ wzX12_read := List.mem_cons_of_mem _ (List.mem_append_left _ (List.mem_of_getElem? (i := 19) rfl))
theorem k_X12_read_constantLong_RX12_566_98 : Cond.constantLong RX12 566 (98) ∈ wzX12_read := List.mem_cons_of_mem _ (List.mem_append_left _ (List.mem_of_getElem? (i := 20) rfl))
theorem k_X12_read_fieldLink_RX12_307_SRModel_tok_I : Cond.fieldLink RX12 307 "StatementRules2Model" "tok" "I" ∈ wzX12_read := List.mem_cons_of_mem _ (List.mem_append_left _ (List.mem_of_getElem? (i := 21) rfl))
theorem k_X12_read_fieldLink_RX12_276_SRModel_taped_I : Cond.fieldLink RX12 276 "StatementRules2Model" "taped" "I" ∈ wzX12_read := List.mem_cons_of_mem _ (List.mem_append_left _ (List.mem_of_getElem? (i := 22) rfl))
theorem k_X12_read_fieldLink_RX12_396_SRModel_res_Z : Cond.fieldLink RX12 396 "StatementRules2Model" "res" "Z" ∈ wzX12_read := List.mem_cons_of_mem _ (List.mem_append_left _ (List.mem_of_getElem? (i := 23) rfl))
theorem k_X12_read_fieldLink_RX12_571_SRModel_endsWell_Z : Cond.fieldLink RX12 571 "StatementRules2Model" "endsWell" "Z" ∈ wzX12_read := List.mem_cons_of_mem _ (List.mem_append_left _ (List.mem_of_getElem? (i := 24) rfl))
theorem k_X12_read_fieldLink_RX12_574_SRModel_lastFault_I : Cond.fieldLink RX12 574 "StatementRules2Model" "lastFault" "I" ∈ wzX12_read := List.mem_cons_of_mem _ (List.mem_append_left _ (List.mem_of_getElem? (i := 25) rfl))
theorem k_X12_read_fieldLink_RX12_577_SRModel_hasProgram_Z : Cond.fieldLink RX12 577 "StatementRules2Model" "hasProgram" "Z" ∈ wzX12_read := List.mem_cons_of_mem _ (List.mem_append_left _ (List.mem_of_getElem? (i := 26) rfl))
theorem k_X12_read_fieldLink_RX12_580_SRModel_hasRun_Z : Cond.fieldLink RX12 580 "StatementRules2Model" "hasRun" "Z" ∈ wzX12_read := List.mem_cons_of_mem _ (List.mem_append_left _ (List.mem_of_getElem? (i := 27) rfl))
theorem k_X12_read_fieldLink_RX12_583_SRModel_rowMany_I : Cond.fieldLink RX12 583 "StatementRules2Model" "rowMany" "I" ∈ wzX12_read := List.mem_cons_of_mem _ (List.mem_append_left _ (List.mem_of_getElem? (i := 28) rfl))
theorem k_X12_read_fieldLink_RX12_331_SRModel_faultAt_I : Cond.fieldLink RX12 331 "StatementRules2Model" "faultAt" "I" ∈ wzX12_read := List.mem_cons_of_mem _ (List.mem_append_left _ (List.mem_of_getElem? (i := 29) rfl))
set_option maxHeartbeats 4000000 in
set_option maxRecDepth 100000 in
theorem j_X12_read_199 {p : Program} {e : Env} {s : State} {m : MethodId} {args : Array Value} {below : List Frame} {meth : Method} {c : Code} {A : Nat → Prop} (l : Launch) (dC : Nat → ClassId) (dI : Nat → Nat → Nat) (Q : RQ) (N : Nat) (R : Int32 × RS) (hx : p.tables.exec = Jvm.exec) (hb : c.code = cX12_read) (hr : meth.sig.returnType = (some .int)) (hml : c.maxLocals = 1) (hown : s.vm.findClass RX12 = some m.cls) (hts : ∀ w ∈ wzX12_read, w.before args s = true) (hlocks : meth.locks = false) (hZ : zAMB s) (hA : ∀ q : Nat, s.heap.size ≤ q → A q) (hK : va_K (dC, dI) vwCl (rT Q) s) : ∀ (σ : RS) (H : Heap) (locs : List Loc) (ls : Array Slot), f_X12_read_199 N σ = some R → va_P (dC, dI) vwCl (rW Q σ) H → va_D A (rW Q σ) → va_S A s.heap H locs → lv_has ls 1 [(0, .ref Q.h0)] → W p l e ({ frames := 9, cells := 0, slots := 0, locals := 540 }) s m args below meth c H locs 0 0 (MQ below (va_Qi (fun (r : Int32) (_ : Unit) => r = R.1) (fun (_ : Unit) (t : State) => zPost dC dI A (rW Q R.2) (rT Q) t) A) args s 0 0 A) (F0 m 199 ls []) := by
  intro σ  H locs ls hf hP hD hS hl
  unfold f_X12_read_199 at hf
  refine lv_aload_n hx hb dX12_read_199 rfl (lv_at hl 0 rfl) ?_
  refine lv_iconst (v := 0) hx hb dX12_read_200 (by decide) ?_
  refine rP_79 hx hb hts i_X12_read_X12 hown hK hP hD hS (hts (.fieldLink RX12 580 "StatementRules2Model" "hasRun" "Z") k_X12_read_fieldLink_RX12_580_SRModel_hasRun_Z) dX12_read_201 (by decide) (fun H locs hP hD hS => ?_)
  refine lv_aload_n hx hb dX12_read_204 rfl (lv_at hl 0 rfl) ?_
  refine lv_iconst (v := 0) hx hb dX12_read_205 (by decide) ?_
  refine rP_81 hx hb hts i_X12_read_X12 hown hK hP hD hS (hts (.fieldLink RX12 583 "StatementRules2Model" "rowMany" "I") k_X12_read_fieldLink_RX12_583_SRModel_rowMany_I) dX12_read_206 (fun H locs hP hD hS => ?_)
  refine lv_aload_n hx hb dX12_read_209 rfl (lv_at hl 0 rfl) ?_
  refine rG_15 (v := (σ.i 15)) hx hb hts i_X12_read_X12 hown hK hP (hts (.fieldLink RX12 291 "StatementRules2Model" "fault" "I") k_X12_read_fieldLink_RX12_291_SRModel_fault_I) dX12_read_210 rfl ?_
  refine lv_if_eq (tgt := 226) hx hb dX12_read_213 (by decide) (fun c15 => ?_) (fun c15 => ?_)
  ·
    replace hf := (if_pos c15).symm.trans hf
    refine lv_aload_n hx hb dX12_read_226 rfl (lv_at hl 0 rfl) ?_
    refine rG_53 (v := (σ.i 53)) hx hb hts i_X12_read_X12 hown hK hP (hts (.fieldLink RX12 494 "StatementRules2Model" "statements" "I") k_X12_read_fieldLink_RX12_494_SRModel_statements_I) dX12_read_227 rfl ?_
    obtain rfl := Option.some.inj hf
    exact W.iret (v := (σ.i 53)) hx hb hr (fun t ht hW => ⟨⟨(σ.i 53), (), rfl, rfl, by rw [ht]; exact hP, va_K.moved hW.alike hK, hD⟩, hS.F ht⟩) hS.2.2 dX12_read_230
  ·
    replace hf := (if_neg c15).symm.trans hf
    refine lv_bipush (v := (-10)) hx hb dX12_read_216 (by decide) ?_
    refine lv_aload_n hx hb dX12_read_218 rfl (lv_at hl 0 rfl) ?_
    refine rG_16 (v := (σ.i 16)) hx hb hts i_X12_read_X12 hown hK hP (hts (.fieldLink RX12 331 "StatementRules2Model" "faultAt" "I") k_X12_read_fieldLink_RX12_331_SRModel_faultAt_I) dX12_read_219 rfl ?_
    refine lv_isub hx hb dX12_read_222 ?_
    refine lv_goto (tgt := 230) hx hb dX12_read_223 (by decide) ?_
    obtain rfl := Option.some.inj hf
    exact W.iret (v := ((-10) - (σ.i 16))) hx hb hr (fun t ht hW => ⟨⟨((-10) - (σ.i 16)), (), rfl, rfl, by rw [ht]; exact hP, va_K.moved hW.alike hK, hD⟩, hS.F ht⟩) hS.2.2 dX12_read_230
set_option maxHeartbeats 4000000 in
set_option maxRecDepth 100000 in
theorem j_X12_read_167 {p : Program} {e : Env} {s : State} {m : MethodId} {args : Array Value} {below : List Frame} {meth : Method} {c : Code} {A : Nat → Prop} (l : Launch) (dC : Nat → ClassId) (dI : Nat → Nat → Nat) (Q : RQ) (N : Nat) (R : Int32 × RS) (hx : p.tables.exec = Jvm.exec) (hb : c.code = cX12_read) (hr : meth.sig.returnType = (some .int)) (hml : c.maxLocals = 1) (hown : s.vm.findClass RX12 = some m.cls) (hts : ∀ w ∈ wzX12_read, w.before args s = true) (hlocks : meth.locks = false) (hZ : zAMB s) (hA : ∀ q : Nat, s.heap.size ≤ q → A q) (hK : va_K (dC, dI) vwCl (rT Q) s) : ∀ (σ : RS) (H : Heap) (locs : List Loc) (ls : Array Slot), f_X12_read_167 N σ = some R → va_P (dC, dI) vwCl (rW Q σ) H → va_D A (rW Q σ) → va_S A s.heap H locs → lv_has ls 1 [(0, .ref Q.h0)] → W p l e ({ frames := 9, cells := 0, slots := 0, locals := 540 }) s m args below meth c H locs 0 0 (MQ below (va_Qi (fun (r : Int32) (_ : Unit) => r = R.1) (fun (_ : Unit) (t : State) => zPost dC dI A (rW Q R.2) (rT Q) t) A) args s 0 0 A) (F0 m 167 ls []) := by
  intro σ  H locs ls hf hP hD hS hl
  unfold f_X12_read_167 at hf
  refine lv_aload_n hx hb dX12_read_167 rfl (lv_at hl 0 rfl) ?_
  refine lv_aload_n hx hb dX12_read_168 rfl (lv_at hl 0 rfl) ?_
  refine rG_75 (v := (σ.i 75)) hx hb hts i_X12_read_X12 hown hK hP (hts (.fieldLink RX12 396 "StatementRules2Model" "res" "Z") k_X12_read_fieldLink_RX12_396_SRModel_res_Z) dX12_read_169 rfl ?_
  obtain ⟨b13, hf⟩ := hf_ite hf
  refine rP_78 hx hb hts i_X12_read_X12 hown hK hP hD hS (hts (.fieldLink RX12 571 "StatementRules2Model" "endsWell" "Z") k_X12_read_fieldLink_RX12_571_SRModel_endsWell_Z) dX12_read_172 b13 (fun H locs hP hD hS => ?_)
  refine lv_aload_n hx hb dX12_read_175 rfl (lv_at hl 0 rfl) ?_
  refine lv_aload_n hx hb dX12_read_176 rfl (lv_at hl 0 rfl) ?_
  refine rG_15 (v := (σ.i 15)) hx hb hts i_X12_read_X12 hown hK hP (hts (.fieldLink RX12 291 "StatementRules2Model" "fault" "I") k_X12_read_fieldLink_RX12_291_SRModel_fault_I) dX12_read_177 rfl ?_
  refine rP_76 hx hb hts i_X12_read_X12 hown hK hP hD hS (hts (.fieldLink RX12 574 "StatementRules2Model" "lastFault" "I") k_X12_read_fieldLink_RX12_574_SRModel_lastFault_I) dX12_read_180 (fun H locs hP hD hS => ?_)
  refine lv_aload_n hx hb dX12_read_183 rfl (lv_at hl 0 rfl) ?_
  refine lv_aload_n hx hb dX12_read_184 rfl (lv_at hl 0 rfl) ?_
  refine rG_15 (v := (σ.i 15)) hx hb hts i_X12_read_X12 hown hK hP (hts (.fieldLink RX12 291 "StatementRules2Model" "fault" "I") k_X12_read_fieldLink_RX12_291_SRModel_fault_I) dX12_read_185 rfl ?_
  refine lv_if_ne (tgt := 195) hx hb dX12_read_188 (by decide) (fun c14 => ?_) (fun c14 => ?_)
  ·
    replace hf := (if_neg c14).symm.trans hf
    refine lv_iconst (v := 0) hx hb dX12_read_195 (by decide) ?_
    refine rP_77 hx hb hts i_X12_read_X12 hown hK hP hD hS (hts (.fieldLink RX12 577 "StatementRules2Model" "hasProgram" "Z") k_X12_read_fieldLink_RX12_577_SRModel_hasProgram_Z) dX12_read_196 (by decide) (fun H locs hP hD hS => ?_)
    exact j_X12_read_199 l dC dI Q N R hx hb hr hml hown hts hlocks hZ hA hK (RS.setI (RS.setI (RS.setI σ 78 (σ.i 75)) 76 (σ.i 15)) 77 0) _ _ _ hf hP hD hS (lv_sub hl [0] rfl)
  ·
    replace hf := (if_pos c14).symm.trans hf
    refine lv_iconst (v := 1) hx hb dX12_read_191 (by decide) ?_
    refine lv_goto (tgt := 196) hx hb dX12_read_192 (by decide) ?_
    refine rP_77 hx hb hts i_X12_read_X12 hown hK hP hD hS (hts (.fieldLink RX12 577 "StatementRules2Model" "hasProgram" "Z") k_X12_read_fieldLink_RX12_577_SRModel_hasProgram_Z) dX12_read_196 (by decide) (fun H locs hP hD hS => ?_)
    exact j_X12_read_199 l dC dI Q N R hx hb hr hml hown hts hlocks hZ hA hK (RS.setI (RS.setI (RS.setI σ 78 (σ.i 75)) 76 (σ.i 15)) 77 1) _ _ _ hf hP hD hS (lv_sub hl [0] rfl)
set_option maxHeartbeats 4000000 in
set_option maxRecDepth 100000 in
theorem j_X12_read_138 {p : Program} {e : Env} {s : State} {m : MethodId} {args : Array Value} {below : List Frame} {meth : Method} {c : Code} {A : Nat → Prop} (l : Launch) (dC : Nat → ClassId) (dI : Nat → Nat → Nat) (Q : RQ) (N : Nat) (R : Int32 × RS) (hx : p.tables.exec = Jvm.exec) (hb : c.code = cX12_read) (hr : meth.sig.returnType = (some .int)) (hml : c.maxLocals = 1) (hown : s.vm.findClass RX12 = some m.cls) (hts : ∀ w ∈ wzX12_read, w.before args s = true) (hlocks : meth.locks = false) (hZ : zAMB s) (hA : ∀ q : Nat, s.heap.size ≤ q → A q) (hK : va_K (dC, dI) vwCl (rT Q) s) : ∀ (σ : RS) (H : Heap) (locs : List Loc) (ls : Array Slot), f_X12_read_138 N σ = some R → va_P (dC, dI) vwCl (rW Q σ) H → va_D A (rW Q σ) → va_S A s.heap H locs → lv_has ls 1 [(0, .ref Q.h0)] → W p l e ({ frames := 9, cells := 0, slots := 0, locals := 540 }) s m args below meth c H locs 0 0 (MQ below (va_Qi (fun (r : Int32) (_ : Unit) => r = R.1) (fun (_ : Unit) (t : State) => zPost dC dI A (rW Q R.2) (rT Q) t) A) args s 0 0 A) (F0 m 138 ls []) := by
  intro σ  H locs ls hf hP hD hS hl
  unfold f_X12_read_138 at hf
  refine lv_aload_n hx hb dX12_read_138 rfl (lv_at hl 0 rfl) ?_
  refine lv_iconst (v := 0) hx hb dX12_read_139 (by decide) ?_
  refine rP_2 hx hb hts i_X12_read_X12 hown hK hP hD hS (hts (.fieldLink RX12 276 "StatementRules2Model" "taped" "I") k_X12_read_fieldLink_RX12_276_SRModel_taped_I) dX12_read_140 (fun H locs hP hD hS => ?_)
  refine lv_aload_n hx hb dX12_read_143 rfl (lv_at hl 0 rfl) ?_
  refine rG_15 (v := (σ.i 15)) hx hb hts i_X12_read_X12 hown hK hP (hts (.fieldLink RX12 291 "StatementRules2Model" "fault" "I") k_X12_read_fieldLink_RX12_291_SRModel_fault_I) dX12_read_144 rfl ?_
  refine lv_if_ne (tgt := 167) hx hb dX12_read_147 (by decide) (fun c12 => ?_) (fun c12 => ?_)
  ·
    replace hf := (if_neg c12).symm.trans hf
    exact j_X12_read_167 l dC dI Q N R hx hb hr hml hown hts hlocks hZ hA hK (RS.setI σ 2 0) _ _ _ hf hP hD hS (lv_sub hl [0] rfl)
  ·
    replace hf := (if_pos c12).symm.trans hf
    refine lv_aload_n hx hb dX12_read_150 rfl (lv_at hl 0 rfl) ?_
    refine rG_18 (v := (σ.i 18)) hx hb hts i_X12_read_X12 hown hK hP (hts (.fieldLink RX12 334 "StatementRules2Model" "late" "I") k_X12_read_fieldLink_RX12_334_SRModel_late_I) dX12_read_151 rfl ?_
    refine lv_if_lt (tgt := 167) hx hb dX12_read_154 (by decide) (fun c16 => ?_) (fun c16 => ?_)
    ·
      replace hf := (if_pos c16).symm.trans hf
      exact j_X12_read_167 l dC dI Q N R hx hb hr hml hown hts hlocks hZ hA hK (RS.setI σ 2 0) _ _ _ hf hP hD hS (lv_sub hl [0] rfl)
    ·
      replace hf := (if_neg c16).symm.trans hf
      refine lv_aload_n hx hb dX12_read_157 rfl (lv_at hl 0 rfl) ?_
      refine lv_bipush (v := 7) hx hb dX12_read_158 (by decide) ?_
      refine lv_aload_n hx hb dX12_read_160 rfl (lv_at hl 0 rfl) ?_
      refine rG_18 (v := (σ.i 18)) hx hb hts i_X12_read_X12 hown hK hP (hts (.fieldLink RX12 334 "StatementRules2Model" "late" "I") k_X12_read_fieldLink_RX12_334_SRModel_late_I) dX12_read_161 rfl ?_
      obtain ⟨p17, hcp17, hf⟩ := hf_bind hf
      have hFc := r_free hD hS hA
      refine va_callv (va_runV (As := [.int 7, .int (σ.i 18)]) (rest := []) ⟨hx, hb, hml, hown, hts⟩ (c_X12_fail l dC dI _ Q N (RS.setI σ 2 0) 7 (σ.i 18) p17 hcp17) (cwV 2 hts hX12_read_X12_fail_v337 rfl rfl rfl (by decide +kernel) ⟨Nat.le_of_ble_eq_true rfl, Nat.le_of_ble_eq_true rfl⟩) ⟨zPre.blind, va_recv hK hP (ci := 11) (q0 := 0) rfl rfl, zPre.go hZ hP hK hD⟩ rfl rfl hl.1 rfl (lv_room (Nat.le_of_ble_eq_true rfl)) dX12_read_164 ⟨Nat.le_of_ble_eq_true rfl, Nat.le_of_ble_eq_true rfl⟩) hS (fun q _ h => hFc q h) hFc (fun u9 t9 H1 locs ht hvm hw hB hz1 hk1 hS => ?_)
      obtain ⟨hP, hK1, hD1⟩ := hB
      rw [ht] at hP
      have hD := hD1.weaken (fun _ _ _ h => hFc _ h)
      generalize H1 = H at hP hS ⊢
      exact j_X12_read_167 l dC dI Q N R hx hb hr hml hown hts hlocks hZ hA hK p17 _ _ _ hf hP hD hS (lv_sub hl [0] rfl)
set_option maxHeartbeats 4000000 in
set_option maxRecDepth 100000 in
theorem c_X12_read (l : Launch) (dC : Nat → ClassId) (dI : Nat → Nat → Nat) (sz : Nat) (Q : RQ) (N : Nat) (σ : RS) (R : Int32 × RS) (hf : f_X12_read N σ = some R) : Met l yX12_read wzX12_read ({ frames := 9, cells := 0, slots := 0, locals := 540 }) (va_Pc [.ref Q.h0] (zPre dC dI sz (rW Q σ) (rT Q))) (va_Qi (fun (r : Int32) (_ : Unit) => r = R.1) (fun (_ : Unit) (t : State) => zPost dC dI (va_A (rW Q σ) sz) (rW Q R.2) (rT Q) t) (va_A (rW Q σ) sz)) 0 0 (va_A (rW Q σ) sz) := by
  refine Met.ofW (cc := cX12_read) (maxL := 1) (ret := (some .int)) (by decide) rfl ?_
  intro p e s m args below meth c s₁ B hml hv
  obtain ⟨rfl, hsz, hZ, hP, hK, hD0⟩ := hv
  have hx := B.exec
  have hb := B.bytes
  have hr := B.returns
  have hts := atoms_spec (ws := wzX12_read) B.pre
  have hown : s.vm.findClass RX12 = some m.cls := findClass_of_methodNamed B.named
  have hlocks := B.notSynchronized
  subst hsz
  have hD := hD0.self (sz := s.heap.size)
  generalize hAe : va_A (rW Q σ) s.heap.size = A at hD ⊢
  have hA : ∀ q : Nat, s.heap.size ≤ q → A q := fun q h => by rw [← hAe]; exact Or.inr h
  have hS : va_S A s.heap s.heap [] := va_S.rf
  have hl := lv_entry ([.ref Q.h0]) (n := 1) (Nat.le_of_ble_eq_true rfl)
  rw [lg_entry_eq]
  generalize (lg_sl ([.ref Q.h0]) ++ List.replicate (1 - (lg_sl ([.ref Q.h0])).length) Slot.unset).toArray = ls at hl ⊢
  have hl : lv_has ls 1 [(0, .ref Q.h0)] := hl
  unfold f_X12_read at hf
  refine lv_aload_n hx hb dX12_read_0 rfl (lv_at hl 0 rfl) ?_
  refine lv_iconst (v := 0) hx hb dX12_read_1 (by decide) ?_
  refine rP_0 hx hb hts i_X12_read_X12 hown hK hP hD hS (hts (.fieldLink RX12 273 "StatementRules2Model" "thrown" "I") k_X12_read_fieldLink_RX12_273_SRModel_thrown_I) dX12_read_2 (fun H locs hP hD hS => ?_)
  refine lv_aload_n hx hb dX12_read_5 rfl (lv_at hl 0 rfl) ?_
  refine lv_iconst (v := 0) hx hb dX12_read_6 (by decide) ?_
  refine rP_38 hx hb hts i_X12_read_X12 hown hK hP hD hS (hts (.fieldLink RX12 361 "StatementRules2Model" "seen" "I") k_X12_read_fieldLink_RX12_361_SRModel_seen_I) dX12_read_7 (fun H locs hP hD hS => ?_)
  refine lv_aload_n hx hb dX12_read_10 rfl (lv_at hl 0 rfl) ?_
  refine lv_iconst (v := 0) hx hb dX12_read_11 (by decide) ?_
  refine rP_42 hx hb hts i_X12_read_X12 hown hK hP hD hS (hts (.fieldLink RX12 364 "StatementRules2Model" "slots" "I") k_X12_read_fieldLink_RX12_364_SRModel_slots_I) dX12_read_12 (fun H locs hP hD hS => ?_)
  refine lv_aload_n hx hb dX12_read_15 rfl (lv_at hl 0 rfl) ?_
  refine lv_iconst (v := 0) hx hb dX12_read_16 (by decide) ?_
  refine rP_43 hx hb hts i_X12_read_X12 hown hK hP hD hS (hts (.fieldLink RX12 367 "StatementRules2Model" "goals" "I") k_X12_read_fieldLink_RX12_367_SRModel_goals_I) dX12_read_17 (fun H locs hP hD hS => ?_)
  refine lv_aload_n hx hb dX12_read_20 rfl (lv_at hl 0 rfl) ?_
  refine lv_iconst (v := 0) hx hb dX12_read_21 (by decide) ?_
  refine rP_19 hx hb hts i_X12_read_X12 hown hK hP hD hS (hts (.fieldLink RX12 348 "StatementRules2Model" "opened" "I") k_X12_read_fieldLink_RX12_348_SRModel_opened_I) dX12_read_22 (fun H locs hP hD hS => ?_)
  refine lv_aload_n hx hb dX12_read_25 rfl (lv_at hl 0 rfl) ?_
  refine lv_iconst (v := 0) hx hb dX12_read_26 (by decide) ?_
  refine rP_53 hx hb hts i_X12_read_X12 hown hK hP hD hS (hts (.fieldLink RX12 494 "StatementRules2Model" "statements" "I") k_X12_read_fieldLink_RX12_494_SRModel_statements_I) dX12_read_27 (fun H locs hP hD hS => ?_)
  refine lv_aload_n hx hb dX12_read_30 rfl (lv_at hl 0 rfl) ?_
  refine lv_iconst (v := 0) hx hb dX12_read_31 (by decide) ?_
  refine rP_54 hx hb hts i_X12_read_X12 hown hK hP hD hS (hts (.fieldLink RX12 500 "StatementRules2Model" "tellings" "I") k_X12_read_fieldLink_RX12_500_SRModel_tellings_I) dX12_read_32 (fun H locs hP hD hS => ?_)
  refine lv_aload_n hx hb dX12_read_35 rfl (lv_at hl 0 rfl) ?_
  refine lv_iconst (v := 0) hx hb dX12_read_36 (by decide) ?_
  refine rP_55 hx hb hts i_X12_read_X12 hown hK hP hD hS (hts (.fieldLink RX12 527 "StatementRules2Model" "jumps" "I") k_X12_read_fieldLink_RX12_527_SRModel_jumps_I) dX12_read_37 (fun H locs hP hD hS => ?_)
  refine lv_aload_n hx hb dX12_read_40 rfl (lv_at hl 0 rfl) ?_
  refine lv_iconst (v := 0) hx hb dX12_read_41 (by decide) ?_
  refine rP_20 hx hb hts i_X12_read_X12 hown hK hP hD hS (hts (.fieldLink RX12 358 "StatementRules2Model" "codes" "I") k_X12_read_fieldLink_RX12_358_SRModel_codes_I) dX12_read_42 (fun H locs hP hD hS => ?_)
  refine lv_aload_n hx hb dX12_read_45 rfl (lv_at hl 0 rfl) ?_
  refine lv_iconst (v := 0) hx hb dX12_read_46 (by decide) ?_
  refine rP_24 hx hb hts i_X12_read_X12 hown hK hP hD hS (hts (.fieldLink RX12 478 "StatementRules2Model" "entries" "I") k_X12_read_fieldLink_RX12_478_SRModel_entries_I) dX12_read_47 (fun H locs hP hD hS => ?_)
  refine lv_aload_n hx hb dX12_read_50 rfl (lv_at hl 0 rfl) ?_
  refine lv_iconst (v := 0) hx hb dX12_read_51 (by decide) ?_
  refine rP_29 hx hb hts i_X12_read_X12 hown hK hP hD hS (hts (.fieldLink RX12 549 "StatementRules2Model" "tries" "I") k_X12_read_fieldLink_RX12_549_SRModel_tries_I) dX12_read_52 (fun H locs hP hD hS => ?_)
  refine lv_aload_n hx hb dX12_read_55 rfl (lv_at hl 0 rfl) ?_
  refine lv_iconst (v := 0) hx hb dX12_read_56 (by decide) ?_
  refine rP_33 hx hb hts i_X12_read_X12 hown hK hP hD hS (hts (.fieldLink RX12 561 "StatementRules2Model" "catches" "I") k_X12_read_fieldLink_RX12_561_SRModel_catches_I) dX12_read_57 (fun H locs hP hD hS => ?_)
  refine lv_aload_n hx hb dX12_read_60 rfl (lv_at hl 0 rfl) ?_
  refine lv_iconst (v := 0) hx hb dX12_read_61 (by decide) ?_
  refine rP_56 hx hb hts i_X12_read_X12 hown hK hP hD hS (hts (.fieldLink RX12 377 "StatementRules2Model" "walls" "I") k_X12_read_fieldLink_RX12_377_SRModel_walls_I) dX12_read_62 (fun H locs hP hD hS => ?_)
  refine lv_aload_n hx hb dX12_read_65 rfl (lv_at hl 0 rfl) ?_
  refine lv_iconst (v := 0) hx hb dX12_read_66 (by decide) ?_
  refine rP_59 hx hb hts i_X12_read_X12 hown hK hP hD hS (hts (.fieldLink RX12 384 "StatementRules2Model" "pends" "I") k_X12_read_fieldLink_RX12_384_SRModel_pends_I) dX12_read_67 (fun H locs hP hD hS => ?_)
  refine lv_aload_n hx hb dX12_read_70 rfl (lv_at hl 0 rfl) ?_
  refine lv_iconst (v := 0) hx hb dX12_read_71 (by decide) ?_
  refine rP_52 hx hb hts i_X12_read_X12 hown hK hP hD hS (hts (.fieldLink RX12 370 "StatementRules2Model" "depth" "I") k_X12_read_fieldLink_RX12_370_SRModel_depth_I) dX12_read_72 (fun H locs hP hD hS => ?_)
  refine lv_aload_n hx hb dX12_read_75 rfl (lv_at hl 0 rfl) ?_
  refine lv_iconst (v := 0) hx hb dX12_read_76 (by decide) ?_
  refine rP_12 hx hb hts i_X12_read_X12 hown hK hP hD hS (hts (.fieldLink RX12 297 "StatementRules2Model" "to" "I") k_X12_read_fieldLink_RX12_297_SRModel_to_I) dX12_read_77 (fun H locs hP hD hS => ?_)
  refine lv_aload_n hx hb dX12_read_80 rfl (lv_at hl 0 rfl) ?_
  refine lv_iconst (v := 0) hx hb dX12_read_81 (by decide) ?_
  refine rP_15 hx hb hts i_X12_read_X12 hown hK hP hD hS (hts (.fieldLink RX12 291 "StatementRules2Model" "fault" "I") k_X12_read_fieldLink_RX12_291_SRModel_fault_I) dX12_read_82 (fun H locs hP hD hS => ?_)
  refine lv_aload_n hx hb dX12_read_85 rfl (lv_at hl 0 rfl) ?_
  refine lv_iconst (v := (-1)) hx hb dX12_read_86 (by decide) ?_
  refine rP_18 hx hb hts i_X12_read_X12 hown hK hP hD hS (hts (.fieldLink RX12 334 "StatementRules2Model" "late" "I") k_X12_read_fieldLink_RX12_334_SRModel_late_I) dX12_read_87 (fun H locs hP hD hS => ?_)
  refine lv_aload_n hx hb dX12_read_90 rfl (lv_at hl 0 rfl) ?_
  refine lv_iconst (v := 0) hx hb dX12_read_91 (by decide) ?_
  refine rP_17 hx hb hts i_X12_read_X12 hown hK hP hD hS (hts (.fieldLink RX12 294 "StatementRules2Model" "tokens" "I") k_X12_read_fieldLink_RX12_294_SRModel_tokens_I) dX12_read_92 (fun H locs hP hD hS => ?_)
  refine lv_aload_n hx hb dX12_read_95 rfl (lv_at hl 0 rfl) ?_
  refine lv_ldc2 (v := 97) hx hb hown (hts (.constantLong RX12 564 (97)) k_X12_read_constantLong_RX12_564_97) dX12_read_96 ?_
  refine lv_iconst (v := 0) hx hb dX12_read_99 (by decide) ?_
  obtain ⟨p1, hcp1, hf⟩ := hf_bind hf
  have hFc := r_free hD hS hA
  refine va_calli (va_runV (As := [.long 97, .int 0]) (rest := []) ⟨hx, hb, hml, hown, hts⟩ (c_X12_see l dC dI _ Q N (RS.setI (RS.setI (RS.setI (RS.setI (RS.setI (RS.setI (RS.setI (RS.setI (RS.setI (RS.setI (RS.setI (RS.setI (RS.setI (RS.setI (RS.setI (RS.setI (RS.setI (RS.setI (RS.setI σ 0 0) 38 0) 42 0) 43 0) 19 0) 53 0) 54 0) 55 0) 20 0) 24 0) 29 0) 33 0) 56 0) 59 0) 52 0) 12 0) 15 0) 18 (-1)) 17 0) 97 0 p1 hcp1) (cwV 2 hts hX12_read_X12_see_v506 rfl rfl rfl (by decide +kernel) ⟨Nat.le_of_ble_eq_true rfl, Nat.le_of_ble_eq_true rfl⟩) ⟨zPre.blind, va_recv hK hP (ci := 11) (q0 := 0) rfl rfl, zPre.go hZ hP hK hD⟩ rfl rfl hl.1 rfl (lv_room (Nat.le_of_ble_eq_true rfl)) dX12_read_100 ⟨Nat.le_of_ble_eq_true rfl, Nat.le_of_ble_eq_true rfl⟩) hS (fun q _ h => hFc q h) hFc (fun r2 u9 t9 H1 locs ht hvm hw hB hz1 hk1 hS => ?_)
  obtain ⟨hP, hK1, hD1⟩ := hB
  rw [ht] at hP
  have hD := hD1.weaken (fun _ _ _ h => hFc _ h)
  generalize H1 = H at hP hS ⊢
  obtain rfl : r2 = p1.1 := hw
  refine lv_pop hx hb dX12_read_103 rfl ?_
  refine lv_aload_n hx hb dX12_read_104 rfl (lv_at hl 0 rfl) ?_
  refine lv_ldc2 (v := 98) hx hb hown (hts (.constantLong RX12 566 (98)) k_X12_read_constantLong_RX12_566_98) dX12_read_105 ?_
  refine lv_iconst (v := 0) hx hb dX12_read_108 (by decide) ?_
  obtain ⟨p3, hcp3, hf⟩ := hf_bind hf
  have hFc := r_free hD hS hA
  refine va_calli (va_runV (As := [.long 98, .int 0]) (rest := []) ⟨hx, hb, hml, hown, hts⟩ (c_X12_see l dC dI _ Q N p1.2 98 0 p3 hcp3) (cwV 2 hts hX12_read_X12_see_v506 rfl rfl rfl (by decide +kernel) ⟨Nat.le_of_ble_eq_true rfl, Nat.le_of_ble_eq_true rfl⟩) ⟨zPre.blind, va_recv hK hP (ci := 11) (q0 := 0) rfl rfl, zPre.go hZ hP hK hD⟩ rfl rfl hl.1 rfl (lv_room (Nat.le_of_ble_eq_true rfl)) dX12_read_109 ⟨Nat.le_of_ble_eq_true rfl, Nat.le_of_ble_eq_true rfl⟩) hS (fun q _ h => hFc q h) hFc (fun r4 u9 t9 H1 locs ht hvm hw hB hz1 hk1 hS => ?_)
  obtain ⟨hP, hK1, hD1⟩ := hB
  rw [ht] at hP
  have hD := hD1.weaken (fun _ _ _ h => hFc _ h)
  generalize H1 = H at hP hS ⊢
  obtain rfl : r4 = p3.1 := hw
  refine lv_pop hx hb dX12_read_112 rfl ?_
  refine lv_aload_n hx hb dX12_read_113 rfl (lv_at hl 0 rfl) ?_
  obtain ⟨p5, hcp5, hf⟩ := hf_bind hf
  have hFc := r_free hD hS hA
  refine va_callv (va_runV (As := []) (rest := []) ⟨hx, hb, hml, hown, hts⟩ (c_X12_next l dC dI _ Q N p3.2 p5 hcp5) (cwV 0 hts hX12_read_X12_next_v345 rfl rfl rfl (by decide +kernel) ⟨Nat.le_of_ble_eq_true rfl, Nat.le_of_ble_eq_true rfl⟩) ⟨zPre.blind, va_recv hK hP (ci := 11) (q0 := 0) rfl rfl, zPre.go hZ hP hK hD⟩ rfl rfl hl.1 rfl (lv_room (Nat.le_of_ble_eq_true rfl)) dX12_read_114 ⟨Nat.le_of_ble_eq_true rfl, Nat.le_of_ble_eq_true rfl⟩) hS (fun q _ h => hFc q h) hFc (fun u9 t9 H1 locs ht hvm hw hB hz1 hk1 hS => ?_)
  obtain ⟨hP, hK1, hD1⟩ := hB
  rw [ht] at hP
  have hD := hD1.weaken (fun _ _ _ h => hFc _ h)
  generalize H1 = H at hP hS ⊢
  refine lv_aload_n hx hb dX12_read_117 rfl (lv_at hl 0 rfl) ?_
  obtain ⟨p7, hcp7, hf⟩ := hf_bind hf
  have hFc := r_free hD hS hA
  refine va_callv (va_runV (As := []) (rest := []) ⟨hx, hb, hml, hown, hts⟩ (c_X12_parse l dC dI _ Q N p5 p7 hcp7) (cwV 0 hts hX12_read_X12_parse_v568 rfl rfl rfl (by decide +kernel) ⟨Nat.le_of_ble_eq_true rfl, Nat.le_of_ble_eq_true rfl⟩) ⟨zPre.blind, va_recv hK hP (ci := 11) (q0 := 0) rfl rfl, zPre.go hZ hP hK hD⟩ rfl rfl hl.1 rfl (lv_room (Nat.le_of_ble_eq_true rfl)) dX12_read_118 ⟨Nat.le_of_ble_eq_true rfl, Nat.le_of_ble_eq_true rfl⟩) hS (fun q _ h => hFc q h) hFc (fun u9 t9 H1 locs ht hvm hw hB hz1 hk1 hS => ?_)
  obtain ⟨hP, hK1, hD1⟩ := hB
  rw [ht] at hP
  have hD := hD1.weaken (fun _ _ _ h => hFc _ h)
  generalize H1 = H at hP hS ⊢
  refine lv_aload_n hx hb dX12_read_121 rfl (lv_at hl 0 rfl) ?_
  refine lv_aload_n hx hb dX12_read_122 rfl (lv_at hl 0 rfl) ?_
  refine rG_10 (v := (p7.i 10)) hx hb hts i_X12_read_X12 hown hK hP (hts (.fieldLink RX12 307 "StatementRules2Model" "tok" "I") k_X12_read_fieldLink_RX12_307_SRModel_tok_I) dX12_read_123 rfl ?_
  refine lv_if_ne (tgt := 133) hx hb dX12_read_126 (by decide) (fun c9 => ?_) (fun c9 => ?_)
  ·
    replace hf := (if_neg c9).symm.trans hf
    refine lv_iconst (v := 0) hx hb dX12_read_133 (by decide) ?_
    obtain ⟨p10, hcp10, hf⟩ := hf_bind hf
    have hFc := r_free hD hS hA
    refine va_calli (va_runV (As := [.int 0]) (rest := []) ⟨hx, hb, hml, hown, hts⟩ (c_X12_can l dC dI _ Q N p7 0 p10 hcp10) (cwV 1 hts hX12_read_X12_can_v341 rfl rfl rfl (by decide +kernel) ⟨Nat.le_of_ble_eq_true rfl, Nat.le_of_ble_eq_true rfl⟩) ⟨zPre.blind, va_recv hK hP (ci := 11) (q0 := 0) rfl rfl, zPre.go hZ hP hK hD⟩ rfl rfl hl.1 rfl (lv_room (Nat.le_of_ble_eq_true rfl)) dX12_read_134 ⟨Nat.le_of_ble_eq_true rfl, Nat.le_of_ble_eq_true rfl⟩) hS (fun q _ h => hFc q h) hFc (fun r11 u9 t9 H1 locs ht hvm hw hB hz1 hk1 hS => ?_)
    obtain ⟨hP, hK1, hD1⟩ := hB
    rw [ht] at hP
    have hD := hD1.weaken (fun _ _ _ h => hFc _ h)
    generalize H1 = H at hP hS ⊢
    obtain rfl : r11 = p10.1 := hw
    refine lv_pop hx hb dX12_read_137 rfl ?_
    exact j_X12_read_138 l dC dI Q N R hx hb hr hml hown hts hlocks hZ hA hK p10.2 _ _ _ hf hP hD hS (lv_sub hl [0] rfl)
  ·
    replace hf := (if_pos c9).symm.trans hf
    refine lv_iconst (v := 1) hx hb dX12_read_129 (by decide) ?_
    refine lv_goto (tgt := 134) hx hb dX12_read_130 (by decide) ?_
    obtain ⟨p19, hcp19, hf⟩ := hf_bind hf
    have hFc := r_free hD hS hA
    refine va_calli (va_runV (As := [.int 1]) (rest := []) ⟨hx, hb, hml, hown, hts⟩ (c_X12_can l dC dI _ Q N p7 1 p19 hcp19) (cwV 1 hts hX12_read_X12_can_v341 rfl rfl rfl (by decide +kernel) ⟨Nat.le_of_ble_eq_true rfl, Nat.le_of_ble_eq_true rfl⟩) ⟨zPre.blind, va_recv hK hP (ci := 11) (q0 := 0) rfl rfl, zPre.go hZ hP hK hD⟩ rfl rfl hl.1 rfl (lv_room (Nat.le_of_ble_eq_true rfl)) dX12_read_134 ⟨Nat.le_of_ble_eq_true rfl, Nat.le_of_ble_eq_true rfl⟩) hS (fun q _ h => hFc q h) hFc (fun r20 u9 t9 H1 locs ht hvm hw hB hz1 hk1 hS => ?_)
    obtain ⟨hP, hK1, hD1⟩ := hB
    rw [ht] at hP
    have hD := hD1.weaken (fun _ _ _ h => hFc _ h)
    generalize H1 = H at hP hS ⊢
    obtain rfl : r20 = p19.1 := hw
    refine lv_pop hx hb dX12_read_137 rfl ?_
    exact j_X12_read_138 l dC dI Q N R hx hb hr hml hown hts hlocks hZ hA hK p19.2 _ _ _ hf hP hD hS (lv_sub hl [0] rfl)
theorem k_X12_fault_fieldLink_RX12_273_SRModel_thrown_I : Cond.fieldLink RX12 273 "StatementRules2Model" "thrown" "I" ∈ wzX12_fault := List.mem_cons_of_mem _ (List.mem_append_left _ (List.mem_of_getElem? (i := 0) rfl))
theorem i_X12_fault_X12 : ∀ w ∈ wsX120, w ∈ wzX12_fault := fun _ h => List.mem_cons_of_mem _ (List.mem_append_right _ (List.mem_append_left _ (h)))
theorem k_X12_fault_fieldLink_RX12_574_SRModel_lastFault_I : Cond.fieldLink RX12 574 "StatementRules2Model" "lastFault" "I" ∈ wzX12_fault := List.mem_cons_of_mem _ (List.mem_append_left _ (List.mem_of_getElem? (i := 1) rfl))
set_option maxHeartbeats 4000000 in
set_option maxRecDepth 100000 in
theorem c_X12_fault (l : Launch) (dC : Nat → ClassId) (dI : Nat → Nat → Nat) (sz : Nat) (Q : RQ) (N : Nat) (σ : RS) (R : Int32 × RS) (hf : f_X12_fault N σ = some R) : Met l yX12_fault wzX12_fault ({ frames := 1, cells := 0, slots := 0, locals := 60 }) (va_Pc [.ref Q.h0] (zPre dC dI sz (rW Q σ) (rT Q))) (va_Qi (fun (r : Int32) (_ : Unit) => r = R.1) (fun (_ : Unit) (t : State) => zPost dC dI (va_A (rW Q σ) sz) (rW Q R.2) (rT Q) t) (va_A (rW Q σ) sz)) 0 0 (va_A (rW Q σ) sz) := by
  refine Met.ofW (cc := cX12_fault) (maxL := 1) (ret := (some .int)) (by decide) rfl ?_
  intro p e s m args below meth c s₁ B hml hv
  obtain ⟨rfl, hsz, hZ, hP, hK, hD0⟩ := hv
  have hx := B.exec
  have hb := B.bytes
  have hr := B.returns
  have hts := atoms_spec (ws := wzX12_fault) B.pre
  have hown : s.vm.findClass RX12 = some m.cls := findClass_of_methodNamed B.named
  have hlocks := B.notSynchronized
  subst hsz
  have hD := hD0.self (sz := s.heap.size)
  generalize hAe : va_A (rW Q σ) s.heap.size = A at hD ⊢
  have hA : ∀ q : Nat, s.heap.size ≤ q → A q := fun q h => by rw [← hAe]; exact Or.inr h
  have hS : va_S A s.heap s.heap [] := va_S.rf
  have hl := lv_entry ([.ref Q.h0]) (n := 1) (Nat.le_of_ble_eq_true rfl)
  rw [lg_entry_eq]
  generalize (lg_sl ([.ref Q.h0]) ++ List.replicate (1 - (lg_sl ([.ref Q.h0])).length) Slot.unset).toArray = ls at hl ⊢
  have hl : lv_has ls 1 [(0, .ref Q.h0)] := hl
  unfold f_X12_fault at hf
  refine lv_aload_n hx hb dX12_fault_0 rfl (lv_at hl 0 rfl) ?_
  refine lv_iconst (v := 0) hx hb dX12_fault_1 (by decide) ?_
  refine rP_0 hx hb hts i_X12_fault_X12 hown hK hP hD hS (hts (.fieldLink RX12 273 "StatementRules2Model" "thrown" "I") k_X12_fault_fieldLink_RX12_273_SRModel_thrown_I) dX12_fault_2 (fun H locs hP hD hS => ?_)
  refine lv_aload_n hx hb dX12_fault_5 rfl (lv_at hl 0 rfl) ?_
  refine rG_76 (v := (σ.i 76)) hx hb hts i_X12_fault_X12 hown hK hP (hts (.fieldLink RX12 574 "StatementRules2Model" "lastFault" "I") k_X12_fault_fieldLink_RX12_574_SRModel_lastFault_I) dX12_fault_6 rfl ?_
  obtain rfl := Option.some.inj hf
  exact W.iret (v := (σ.i 76)) hx hb hr (fun t ht hW => ⟨⟨(σ.i 76), (), rfl, rfl, by rw [ht]; exact hP, va_K.moved hW.alike hK, hD⟩, hS.F ht⟩) hS.2.2 dX12_fault_9
theorem k_X12_program_fieldLink_RX12_273_SRModel_thrown_I : Cond.fieldLink RX12 273 "StatementRules2Model" "thrown" "I" ∈ wzX12_program := List.mem_cons_of_mem _ (List.mem_append_left _ (List.mem_of_getElem? (i := 0) rfl))
theorem i_X12_program_X12 : ∀ w ∈ wsX120, w ∈ wzX12_program := fun _ h => List.mem_cons_of_mem _ (List.mem_append_right _ (List.mem_append_left _ (h)))
theorem k_X12_program_fieldLink_RX12_577_SRModel_hasProgram_Z : Cond.fieldLink RX12 577 "StatementRules2Model" "hasProgram" "Z" ∈ wzX12_program := List.mem_cons_of_mem _ (List.mem_append_left _ (List.mem_of_getElem? (i := 1) rfl))
theorem k_X12_program_fieldLink_RX12_527_SRModel_jumps_I : Cond.fieldLink RX12 527 "StatementRules2Model" "jumps" "I" ∈ wzX12_program := List.mem_cons_of_mem _ (List.mem_append_left _ (List.mem_of_getElem? (i := 2) rfl))
theorem k_X12_program_fieldLink_RX12_500_SRModel_tellings_I : Cond.fieldLink RX12 500 "StatementRules2Model" "tellings" "I" ∈ wzX12_program := List.mem_cons_of_mem _ (List.mem_append_left _ (List.mem_of_getElem? (i := 3) rfl))
theorem k_X12_program_fieldLink_RX12_571_SRModel_endsWell_Z : Cond.fieldLink RX12 571 "StatementRules2Model" "endsWell" "Z" ∈ wzX12_program := List.mem_cons_of_mem _ (List.mem_append_left _ (List.mem_of_getElem? (i := 4) rfl))
theorem k_X12_program_fieldLink_RX12_494_SRModel_statements_I : Cond.fieldLink RX12 494 "StatementRules2Model" "statements" "I" ∈ wzX12_program := List.mem_cons_of_mem _ (List.mem_append_left _ (List.mem_of_getElem? (i := 5) rfl))
set_option maxHeartbeats 4000000 in
set_option maxRecDepth 100000 in
theorem c_X12_program (l : Launch) (dC : Nat → ClassId) (dI : Nat → Nat → Nat) (sz : Nat) (Q : RQ) (N : Nat) (σ : RS) (x1 : Int32) (R : Int32 × RS) (hf : f_X12_program N σ x1 = some R) : Met l yX12_program wzX12_program ({ frames := 2, cells := 0, slots := 0, locals := 120 }) (va_Pc [.ref Q.h0, .int x1] (zPre dC dI sz (rW Q σ) (rT Q))) (va_Qi (fun (r : Int32) (_ : Unit) => r = R.1) (fun (_ : Unit) (t : State) => zPost dC dI (va_A (rW Q σ) sz) (rW Q R.2) (rT Q) t) (va_A (rW Q σ) sz)) 0 0 (va_A (rW Q σ) sz) := by
  refine Met.ofW (cc := cX12_program) (maxL := 2) (ret := (some .int)) (by decide) rfl ?_
  intro p e s m args below meth c s₁ B hml hv
  obtain ⟨rfl, hsz, hZ, hP, hK, hD0⟩ := hv
  have hx := B.exec
  have hb := B.bytes
  have hr := B.returns
  have hts := atoms_spec (ws := wzX12_program) B.pre
  have hown : s.vm.findClass RX12 = some m.cls := findClass_of_methodNamed B.named
  have hlocks := B.notSynchronized
  subst hsz
  have hD := hD0.self (sz := s.heap.size)
  generalize hAe : va_A (rW Q σ) s.heap.size = A at hD ⊢
  have hA : ∀ q : Nat, s.heap.size ≤ q → A q := fun q h => by rw [← hAe]; exact Or.inr h
  have hS : va_S A s.heap s.heap [] := va_S.rf
  have hl := lv_entry ([.ref Q.h0, .int x1]) (n := 2) (Nat.le_of_ble_eq_true rfl)
  rw [lg_entry_eq]
  generalize (lg_sl ([.ref Q.h0, .int x1]) ++ List.replicate (2 - (lg_sl ([.ref Q.h0, .int x1])).length) Slot.unset).toArray = ls at hl ⊢
  have hl : lv_has ls 2 [(0, .ref Q.h0), (1, .int x1)] := hl
  unfold f_X12_program at hf
  refine lv_aload_n hx hb dX12_program_0 rfl (lv_at hl 0 rfl) ?_
  refine lv_iconst (v := 0) hx hb dX12_program_1 (by decide) ?_
  refine rP_0 hx hb hts i_X12_program_X12 hown hK hP hD hS (hts (.fieldLink RX12 273 "StatementRules2Model" "thrown" "I") k_X12_program_fieldLink_RX12_273_SRModel_thrown_I) dX12_program_2 (fun H locs hP hD hS => ?_)
  refine lv_iload_n hx hb dX12_program_5 rfl (lv_at hl 1 rfl) ?_
  refine lv_iconst (v := 0) hx hb dX12_program_6 (by decide) ?_
  refine lv_iconst (v := 3) hx hb dX12_program_7 (by decide) ?_
  obtain ⟨p1, hcp1, hf⟩ := hf_bind hf
  have hFc := r_free hD hS hA
  refine va_calli (va_runS (As := [.int x1, .int 0, .int 3]) (rest := []) ⟨hx, hb, hml, hown, hts⟩ (c_X12_in l dC dI _ Q N (RS.setI σ 0 0) x1 0 3 p1 hcp1) (va_cwS 3 hts hX12_program_X12_in_s279 rfl rfl rfl (by decide +kernel) ⟨Nat.le_of_ble_eq_true rfl, Nat.le_of_ble_eq_true rfl⟩) ⟨zPre.blind, zPre.go hZ hP hK hD⟩ rfl rfl hl.1 rfl (lv_room (Nat.le_of_ble_eq_true rfl)) dX12_program_8 ⟨Nat.le_of_ble_eq_true rfl, Nat.le_of_ble_eq_true rfl⟩) hS (fun q _ h => hFc q h) hFc (fun r2 u9 t9 H1 locs ht hvm hw hB hz1 hk1 hS => ?_)
  obtain ⟨hP, hK1, hD1⟩ := hB
  rw [ht] at hP
  have hD := hD1.weaken (fun _ _ _ h => hFc _ h)
  generalize H1 = H at hP hS ⊢
  obtain rfl : r2 = p1.1 := hw
  refine lv_if_ne (tgt := 16) hx hb dX12_program_11 (by decide) (fun c3 => ?_) (fun c3 => ?_)
  ·
    replace hf := (if_neg c3).symm.trans hf
    refine lv_aload_n hx hb dX12_program_16 rfl (lv_at hl 0 rfl) ?_
    refine rG_77 (v := (p1.2.i 77)) hx hb hts i_X12_program_X12 hown hK hP (hts (.fieldLink RX12 577 "StatementRules2Model" "hasProgram" "Z") k_X12_program_fieldLink_RX12_577_SRModel_hasProgram_Z) dX12_program_17 rfl ?_
    refine lv_if_ne (tgt := 26) hx hb dX12_program_20 (by decide) (fun c4 => ?_) (fun c4 => ?_)
    ·
      replace hf := (if_neg c4).symm.trans hf
      refine lv_iload_n hx hb dX12_program_26 rfl (lv_at hl 1 rfl) ?_
      refine lv_if_ne (tgt := 37) hx hb dX12_program_27 (by decide) (fun c5 => ?_) (fun c5 => ?_)
      ·
        replace hf := (if_neg c5).symm.trans hf
        refine lv_iload_n hx hb dX12_program_37 rfl (lv_at hl 1 rfl) ?_
        refine lv_iconst (v := 1) hx hb dX12_program_38 (by decide) ?_
        refine lv_icmp_ne (tgt := 57) hx hb dX12_program_39 (by decide) (fun c6 => ?_) (fun c6 => ?_)
        ·
          replace hf := (if_neg c6).symm.trans hf
          refine lv_iload_n hx hb dX12_program_57 rfl (lv_at hl 1 rfl) ?_
          refine lv_iconst (v := 2) hx hb dX12_program_58 (by decide) ?_
          refine lv_icmp_ne (tgt := 69) hx hb dX12_program_59 (by decide) (fun c7 => ?_) (fun c7 => ?_)
          ·
            replace hf := (if_neg c7).symm.trans hf
            refine lv_aload_n hx hb dX12_program_69 rfl (lv_at hl 0 rfl) ?_
            refine rG_55 (v := (p1.2.i 55)) hx hb hts i_X12_program_X12 hown hK hP (hts (.fieldLink RX12 527 "StatementRules2Model" "jumps" "I") k_X12_program_fieldLink_RX12_527_SRModel_jumps_I) dX12_program_70 rfl ?_
            obtain rfl := Option.some.inj hf
            exact W.iret (v := (p1.2.i 55)) hx hb hr (fun t ht hW => ⟨⟨(p1.2.i 55), (), rfl, rfl, by rw [ht]; exact hP, va_K.moved hW.alike hK, hD⟩, hS.F ht⟩) hS.2.2 dX12_program_73
          ·
            replace hf := (if_pos c7).symm.trans hf
            refine lv_aload_n hx hb dX12_program_62 rfl (lv_at hl 0 rfl) ?_
            refine rG_54 (v := (p1.2.i 54)) hx hb hts i_X12_program_X12 hown hK hP (hts (.fieldLink RX12 500 "StatementRules2Model" "tellings" "I") k_X12_program_fieldLink_RX12_500_SRModel_tellings_I) dX12_program_63 rfl ?_
            refine lv_goto (tgt := 73) hx hb dX12_program_66 (by decide) ?_
            obtain rfl := Option.some.inj hf
            exact W.iret (v := (p1.2.i 54)) hx hb hr (fun t ht hW => ⟨⟨(p1.2.i 54), (), rfl, rfl, by rw [ht]; exact hP, va_K.moved hW.alike hK, hD⟩, hS.F ht⟩) hS.2.2 dX12_program_73
        ·
          replace hf := (if_pos c6).symm.trans hf
          refine lv_aload_n hx hb dX12_program_42 rfl (lv_at hl 0 rfl) ?_
          refine rG_78 (v := (p1.2.i 78)) hx hb hts i_X12_program_X12 hown hK hP (hts (.fieldLink RX12 571 "StatementRules2Model" "endsWell" "Z") k_X12_program_fieldLink_RX12_571_SRModel_endsWell_Z) dX12_program_43 rfl ?_
          refine lv_if_eq (tgt := 53) hx hb dX12_program_46 (by decide) (fun c8 => ?_) (fun c8 => ?_)
          ·
            replace hf := (if_pos c8).symm.trans hf
            refine lv_iconst (v := 0) hx hb dX12_program_53 (by decide) ?_
            refine lv_goto (tgt := 73) hx hb dX12_program_54 (by decide) ?_
            obtain rfl := Option.some.inj hf
            exact W.iret (v := 0) hx hb hr (fun t ht hW => ⟨⟨0, (), rfl, rfl, by rw [ht]; exact hP, va_K.moved hW.alike hK, hD⟩, hS.F ht⟩) hS.2.2 dX12_program_73
          ·
            replace hf := (if_neg c8).symm.trans hf
            refine lv_iconst (v := 1) hx hb dX12_program_49 (by decide) ?_
            refine lv_goto (tgt := 73) hx hb dX12_program_50 (by decide) ?_
            obtain rfl := Option.some.inj hf
            exact W.iret (v := 1) hx hb hr (fun t ht hW => ⟨⟨1, (), rfl, rfl, by rw [ht]; exact hP, va_K.moved hW.alike hK, hD⟩, hS.F ht⟩) hS.2.2 dX12_program_73
      ·
        replace hf := (if_pos c5).symm.trans hf
        refine lv_aload_n hx hb dX12_program_30 rfl (lv_at hl 0 rfl) ?_
        refine rG_53 (v := (p1.2.i 53)) hx hb hts i_X12_program_X12 hown hK hP (hts (.fieldLink RX12 494 "StatementRules2Model" "statements" "I") k_X12_program_fieldLink_RX12_494_SRModel_statements_I) dX12_program_31 rfl ?_
        refine lv_goto (tgt := 73) hx hb dX12_program_34 (by decide) ?_
        obtain rfl := Option.some.inj hf
        exact W.iret (v := (p1.2.i 53)) hx hb hr (fun t ht hW => ⟨⟨(p1.2.i 53), (), rfl, rfl, by rw [ht]; exact hP, va_K.moved hW.alike hK, hD⟩, hS.F ht⟩) hS.2.2 dX12_program_73
    ·
      replace hf := (if_pos c4).symm.trans hf
      refine lv_bipush (v := (-3)) hx hb dX12_program_23 (by decide) ?_
      obtain rfl := Option.some.inj hf
      exact W.iret (v := (-3)) hx hb hr (fun t ht hW => ⟨⟨(-3), (), rfl, rfl, by rw [ht]; exact hP, va_K.moved hW.alike hK, hD⟩, hS.F ht⟩) hS.2.2 dX12_program_25
  ·
    replace hf := (if_pos c3).symm.trans hf
    refine lv_iconst (v := (-1)) hx hb dX12_program_14 (by decide) ?_
    obtain rfl := Option.some.inj hf
    exact W.iret (v := (-1)) hx hb hr (fun t ht hW => ⟨⟨(-1), (), rfl, rfl, by rw [ht]; exact hP, va_K.moved hW.alike hK, hD⟩, hS.F ht⟩) hS.2.2 dX12_program_15
theorem k_X12_row_fieldLink_RX12_583_SRModel_rowMany_I : Cond.fieldLink RX12 583 "StatementRules2Model" "rowMany" "I" ∈ wzX12_row := List.mem_cons_of_mem _ (List.mem_append_left _ (List.mem_of_getElem? (i := 0) rfl))
theorem i_X12_row_X12 : ∀ w ∈ wsX120, w ∈ wzX12_row := fun _ h => List.mem_cons_of_mem _ (List.mem_append_right _ (List.mem_append_left _ (h)))
theorem k_X12_row_fieldLink_RX12_207_SRModel_rowSort_I : Cond.fieldLink RX12 207 "StatementRules2Model" "rowSort" "[I" ∈ wzX12_row := List.mem_cons_of_mem _ (List.mem_append_left _ (List.mem_of_getElem? (i := 1) rfl))
theorem k_X12_row_fieldLink_RX12_210_SRModel_rowNumber_I : Cond.fieldLink RX12 210 "StatementRules2Model" "rowNumber" "[I" ∈ wzX12_row := List.mem_cons_of_mem _ (List.mem_append_left _ (List.mem_of_getElem? (i := 2) rfl))
set_option maxHeartbeats 4000000 in
set_option maxRecDepth 100000 in
theorem c_X12_row (l : Launch) (dC : Nat → ClassId) (dI : Nat → Nat → Nat) (sz : Nat) (Q : RQ) (N : Nat) (σ : RS) (x1 : Int32) (x2 : Int32) (R : RS) (hf : f_X12_row N σ x1 x2 = some R) : Met l yX12_row wzX12_row ({ frames := 1, cells := 0, slots := 0, locals := 60 }) (va_Pc [.ref Q.h0, .int x1, .int x2] (zPre dC dI sz (rW Q σ) (rT Q))) (va_Qv (fun (_ : Unit) => True) (fun (_ : Unit) (t : State) => zPost dC dI (va_A (rW Q σ) sz) (rW Q R) (rT Q) t) (va_A (rW Q σ) sz)) 0 0 (va_A (rW Q σ) sz) := by
  refine Met.ofW (cc := cX12_row) (maxL := 3) (ret := none) (by decide) rfl ?_
  intro p e s m args below meth c s₁ B hml hv
  obtain ⟨rfl, hsz, hZ, hP, hK, hD0⟩ := hv
  have hx := B.exec
  have hb := B.bytes
  have hr := B.returns
  have hts := atoms_spec (ws := wzX12_row) B.pre
  have hown : s.vm.findClass RX12 = some m.cls := findClass_of_methodNamed B.named
  have hlocks := B.notSynchronized
  subst hsz
  have hD := hD0.self (sz := s.heap.size)
  generalize hAe : va_A (rW Q σ) s.heap.size = A at hD ⊢
  have hA : ∀ q : Nat, s.heap.size ≤ q → A q := fun q h => by rw [← hAe]; exact Or.inr h
  have hS : va_S A s.heap s.heap [] := va_S.rf
  have hl := lv_entry ([.ref Q.h0, .int x1, .int x2]) (n := 3) (Nat.le_of_ble_eq_true rfl)
  rw [lg_entry_eq]
  generalize (lg_sl ([.ref Q.h0, .int x1, .int x2]) ++ List.replicate (3 - (lg_sl ([.ref Q.h0, .int x1, .int x2])).length) Slot.unset).toArray = ls at hl ⊢
  have hl : lv_has ls 3 [(0, .ref Q.h0), (1, .int x1), (2, .int x2)] := hl
  unfold f_X12_row at hf
  refine lv_aload_n hx hb dX12_row_0 rfl (lv_at hl 0 rfl) ?_
  refine rG_81 (v := (σ.i 81)) hx hb hts i_X12_row_X12 hown hK hP (hts (.fieldLink RX12 583 "StatementRules2Model" "rowMany" "I") k_X12_row_fieldLink_RX12_583_SRModel_rowMany_I) dX12_row_1 rfl ?_
  refine lv_sipush (v := 200) hx hb dX12_row_4 (by decide) ?_
  refine lv_icmp_ge (tgt := 40) hx hb dX12_row_7 (by decide) (fun c1 => ?_) (fun c1 => ?_)
  ·
    replace hf := (if_pos c1).symm.trans hf
    obtain rfl := Option.some.inj hf
    exact W.vret hx hb hr (fun t ht hW => ⟨⟨(), rfl, trivial, by rw [ht]; exact hP, va_K.moved hW.alike hK, hD⟩, hS.F ht⟩) hS.2.2 dX12_row_40
  ·
    replace hf := (if_neg c1).symm.trans hf
    refine lv_aload_n hx hb dX12_row_10 rfl (lv_at hl 0 rfl) ?_
    refine rG_82 hx hb hts i_X12_row_X12 hown hK hP (hts (.fieldLink RX12 207 "StatementRules2Model" "rowSort" "[I") k_X12_row_fieldLink_RX12_207_SRModel_rowSort_I) dX12_row_11 ?_
    refine lv_aload_n hx hb dX12_row_14 rfl (lv_at hl 0 rfl) ?_
    refine rG_81 (v := (σ.i 81)) hx hb hts i_X12_row_X12 hown hK hP (hts (.fieldLink RX12 583 "StatementRules2Model" "rowMany" "I") k_X12_row_fieldLink_RX12_583_SRModel_rowMany_I) dX12_row_15 rfl ?_
    refine lv_iload_n hx hb dX12_row_18 rfl (lv_at hl 1 rfl) ?_
    obtain ⟨b2, hf⟩ := hf_ite hf
    refine rS_82 hx hb hK hP hD hS b2 dX12_row_19 (fun H locs hP hD hS => ?_)
    refine lv_aload_n hx hb dX12_row_20 rfl (lv_at hl 0 rfl) ?_
    refine rG_83 hx hb hts i_X12_row_X12 hown hK hP (hts (.fieldLink RX12 210 "StatementRules2Model" "rowNumber" "[I") k_X12_row_fieldLink_RX12_210_SRModel_rowNumber_I) dX12_row_21 ?_
    refine lv_aload_n hx hb dX12_row_24 rfl (lv_at hl 0 rfl) ?_
    refine rG_81 (v := (σ.i 81)) hx hb hts i_X12_row_X12 hown hK hP (hts (.fieldLink RX12 583 "StatementRules2Model" "rowMany" "I") k_X12_row_fieldLink_RX12_583_SRModel_rowMany_I) dX12_row_25 rfl ?_
    refine lv_iload_n hx hb dX12_row_28 rfl (lv_at hl 2 rfl) ?_
    refine rS_83 hx hb hK hP hD hS b2 dX12_row_29 (fun H locs hP hD hS => ?_)
    refine lv_aload_n hx hb dX12_row_30 rfl (lv_at hl 0 rfl) ?_
    refine lv_dup hx hb dX12_row_31 rfl ?_
    refine rG_81 (v := (σ.i 81)) hx hb hts i_X12_row_X12 hown hK hP (hts (.fieldLink RX12 583 "StatementRules2Model" "rowMany" "I") k_X12_row_fieldLink_RX12_583_SRModel_rowMany_I) dX12_row_32 rfl ?_
    refine lv_iconst (v := 1) hx hb dX12_row_35 (by decide) ?_
    refine lv_iadd hx hb dX12_row_36 ?_
    refine rP_81 hx hb hts i_X12_row_X12 hown hK hP hD hS (hts (.fieldLink RX12 583 "StatementRules2Model" "rowMany" "I") k_X12_row_fieldLink_RX12_583_SRModel_rowMany_I) dX12_row_37 (fun H locs hP hD hS => ?_)
    obtain rfl := Option.some.inj hf
    exact W.vret hx hb hr (fun t ht hW => ⟨⟨(), rfl, trivial, by rw [ht]; exact hP, va_K.moved hW.alike hK, hD⟩, hS.F ht⟩) hS.2.2 dX12_row_40
theorem k_X12_record_fieldLink_RX12_586_SRModel_recs_I : Cond.fieldLink RX12 586 "StatementRules2Model" "recs" "I" ∈ wzX12_record := List.mem_cons_of_mem _ (List.mem_append_left _ (List.mem_of_getElem? (i := 0) rfl))
theorem i_X12_record_X12 : ∀ w ∈ wsX120, w ∈ wzX12_record := fun _ h => List.mem_cons_of_mem _ (List.mem_append_right _ (List.mem_append_left _ (h)))
theorem k_X12_record_fieldLink_RX12_243_SRModel_rk_I : Cond.fieldLink RX12 243 "StatementRules2Model" "rk" "[I" ∈ wzX12_record := List.mem_cons_of_mem _ (List.mem_append_left _ (List.mem_of_getElem? (i := 1) rfl))
theorem k_X12_record_fieldLink_RX12_246_SRModel_ra_I : Cond.fieldLink RX12 246 "StatementRules2Model" "ra" "[I" ∈ wzX12_record := List.mem_cons_of_mem _ (List.mem_append_left _ (List.mem_of_getElem? (i := 2) rfl))
theorem k_X12_record_fieldLink_RX12_249_SRModel_rb_I : Cond.fieldLink RX12 249 "StatementRules2Model" "rb" "[I" ∈ wzX12_record := List.mem_cons_of_mem _ (List.mem_append_left _ (List.mem_of_getElem? (i := 3) rfl))
theorem k_X12_record_fieldLink_RX12_252_SRModel_rc_I : Cond.fieldLink RX12 252 "StatementRules2Model" "rc" "[I" ∈ wzX12_record := List.mem_cons_of_mem _ (List.mem_append_left _ (List.mem_of_getElem? (i := 4) rfl))
theorem k_X12_record_fieldLink_RX12_255_SRModel_rHigh_I : Cond.fieldLink RX12 255 "StatementRules2Model" "rHigh" "[I" ∈ wzX12_record := List.mem_cons_of_mem _ (List.mem_append_left _ (List.mem_of_getElem? (i := 5) rfl))
theorem k_X12_record_fieldLink_RX12_589_SRModel_high_I : Cond.fieldLink RX12 589 "StatementRules2Model" "high" "I" ∈ wzX12_record := List.mem_cons_of_mem _ (List.mem_append_left _ (List.mem_of_getElem? (i := 6) rfl))
set_option maxHeartbeats 4000000 in
set_option maxRecDepth 100000 in
theorem c_X12_record (l : Launch) (dC : Nat → ClassId) (dI : Nat → Nat → Nat) (sz : Nat) (Q : RQ) (N : Nat) (σ : RS) (x1 : Int32) (x2 : Int32) (x3 : Int32) (x4 : Int32) (R : Int32 × RS) (hf : f_X12_record N σ x1 x2 x3 x4 = some R) : Met l yX12_record wzX12_record ({ frames := 1, cells := 0, slots := 0, locals := 60 }) (va_Pc [.ref Q.h0, .int x1, .int x2, .int x3, .int x4] (zPre dC dI sz (rW Q σ) (rT Q))) (va_Qi (fun (r : Int32) (_ : Unit) => r = R.1) (fun (_ : Unit) (t : State) => zPost dC dI (va_A (rW Q σ) sz) (rW Q R.2) (rT Q) t) (va_A (rW Q σ) sz)) 0 0 (va_A (rW Q σ) sz) := by
  refine Met.ofW (cc := cX12_record) (maxL := 6) (ret := (some .int)) (by decide) rfl ?_
  intro p e s m args below meth c s₁ B hml hv
  obtain ⟨rfl, hsz, hZ, hP, hK, hD0⟩ := hv
  have hx := B.exec
  have hb := B.bytes
  have hr := B.returns
  have hts := atoms_spec (ws := wzX12_record) B.pre
  have hown : s.vm.findClass RX12 = some m.cls := findClass_of_methodNamed B.named
  have hlocks := B.notSynchronized
  subst hsz
  have hD := hD0.self (sz := s.heap.size)
  generalize hAe : va_A (rW Q σ) s.heap.size = A at hD ⊢
  have hA : ∀ q : Nat, s.heap.size ≤ q → A q := fun q h => by rw [← hAe]; exact Or.inr h
  have hS : va_S A s.heap s.heap [] := va_S.rf
  have hl := lv_entry ([.ref Q.h0, .int x1, .int x2, .int x3, .int x4]) (n := 6) (Nat.le_of_ble_eq_true rfl)
  rw [lg_entry_eq]
  generalize (lg_sl ([.ref Q.h0, .int x1, .int x2, .int x3, .int x4]) ++ List.replicate (6 - (lg_sl ([.ref Q.h0, .int x1, .int x2, .int x3, .int x4])).length) Slot.unset).toArray = ls at hl ⊢
  have hl : lv_has ls 6 [(0, .ref Q.h0), (1, .int x1), (2, .int x2), (3, .int x3), (4, .int x4)] := hl
  unfold f_X12_record at hf
  refine lv_aload_n hx hb dX12_record_0 rfl (lv_at hl 0 rfl) ?_
  refine rG_99 (v := (σ.i 99)) hx hb hts i_X12_record_X12 hown hK hP (hts (.fieldLink RX12 586 "StatementRules2Model" "recs" "I") k_X12_record_fieldLink_RX12_586_SRModel_recs_I) dX12_record_1 rfl ?_
  refine lv_istore (lv' := [(5, .int (σ.i 99)), (0, .ref Q.h0), (1, .int x1), (2, .int x2), (3, .int x3), (4, .int x4)]) hx hb dX12_record_4 hl (by decide) rfl (fun ls hl => ?_)
  refine lv_aload_n hx hb dX12_record_6 rfl (lv_at hl 1 rfl) ?_
  refine rG_100 hx hb hts i_X12_record_X12 hown hK hP (hts (.fieldLink RX12 243 "StatementRules2Model" "rk" "[I") k_X12_record_fieldLink_RX12_243_SRModel_rk_I) dX12_record_7 ?_
  refine lv_iload hx hb dX12_record_10 (lv_at hl 0 rfl) ?_
  refine lv_iload_n hx hb dX12_record_12 rfl (lv_at hl 2 rfl) ?_
  obtain ⟨b1, hf⟩ := hf_ite hf
  refine rS_100 hx hb hK hP hD hS b1 dX12_record_13 (fun H locs hP hD hS => ?_)
  refine lv_aload_n hx hb dX12_record_14 rfl (lv_at hl 1 rfl) ?_
  refine rG_101 hx hb hts i_X12_record_X12 hown hK hP (hts (.fieldLink RX12 246 "StatementRules2Model" "ra" "[I") k_X12_record_fieldLink_RX12_246_SRModel_ra_I) dX12_record_15 ?_
  refine lv_iload hx hb dX12_record_18 (lv_at hl 0 rfl) ?_
  refine lv_iload_n hx hb dX12_record_20 rfl (lv_at hl 3 rfl) ?_
  refine rS_101 hx hb hK hP hD hS b1 dX12_record_21 (fun H locs hP hD hS => ?_)
  refine lv_aload_n hx hb dX12_record_22 rfl (lv_at hl 1 rfl) ?_
  refine rG_102 hx hb hts i_X12_record_X12 hown hK hP (hts (.fieldLink RX12 249 "StatementRules2Model" "rb" "[I") k_X12_record_fieldLink_RX12_249_SRModel_rb_I) dX12_record_23 ?_
  refine lv_iload hx hb dX12_record_26 (lv_at hl 0 rfl) ?_
  refine lv_iload_n hx hb dX12_record_28 rfl (lv_at hl 4 rfl) ?_
  refine rS_102 hx hb hK hP hD hS b1 dX12_record_29 (fun H locs hP hD hS => ?_)
  refine lv_aload_n hx hb dX12_record_30 rfl (lv_at hl 1 rfl) ?_
  refine rG_103 hx hb hts i_X12_record_X12 hown hK hP (hts (.fieldLink RX12 252 "StatementRules2Model" "rc" "[I") k_X12_record_fieldLink_RX12_252_SRModel_rc_I) dX12_record_31 ?_
  refine lv_iload hx hb dX12_record_34 (lv_at hl 0 rfl) ?_
  refine lv_iload hx hb dX12_record_36 (lv_at hl 5 rfl) ?_
  refine rS_103 hx hb hK hP hD hS b1 dX12_record_38 (fun H locs hP hD hS => ?_)
  refine lv_aload_n hx hb dX12_record_39 rfl (lv_at hl 1 rfl) ?_
  refine rG_104 hx hb hts i_X12_record_X12 hown hK hP (hts (.fieldLink RX12 255 "StatementRules2Model" "rHigh" "[I") k_X12_record_fieldLink_RX12_255_SRModel_rHigh_I) dX12_record_40 ?_
  refine lv_iload hx hb dX12_record_43 (lv_at hl 0 rfl) ?_
  refine lv_aload_n hx hb dX12_record_45 rfl (lv_at hl 1 rfl) ?_
  refine rG_93 (v := (σ.i 93)) hx hb hts i_X12_record_X12 hown hK hP (hts (.fieldLink RX12 589 "StatementRules2Model" "high" "I") k_X12_record_fieldLink_RX12_589_SRModel_high_I) dX12_record_46 rfl ?_
  refine rS_104 hx hb hK hP hD hS b1 dX12_record_49 (fun H locs hP hD hS => ?_)
  refine lv_aload_n hx hb dX12_record_50 rfl (lv_at hl 1 rfl) ?_
  refine lv_dup hx hb dX12_record_51 rfl ?_
  refine rG_99 (v := (σ.i 99)) hx hb hts i_X12_record_X12 hown hK hP (hts (.fieldLink RX12 586 "StatementRules2Model" "recs" "I") k_X12_record_fieldLink_RX12_586_SRModel_recs_I) dX12_record_52 rfl ?_
  refine lv_iconst (v := 1) hx hb dX12_record_55 (by decide) ?_
  refine lv_iadd hx hb dX12_record_56 ?_
  refine rP_99 hx hb hts i_X12_record_X12 hown hK hP hD hS (hts (.fieldLink RX12 586 "StatementRules2Model" "recs" "I") k_X12_record_fieldLink_RX12_586_SRModel_recs_I) dX12_record_57 (fun H locs hP hD hS => ?_)
  refine lv_iload hx hb dX12_record_60 (lv_at hl 0 rfl) ?_
  obtain rfl := Option.some.inj hf
  exact W.iret (v := (σ.i 99)) hx hb hr (fun t ht hW => ⟨⟨(σ.i 99), (), rfl, rfl, by rw [ht]; exact hP, va_K.moved hW.alike hK, hD⟩, hS.F ht⟩) hS.2.2 dX12_record_62
theorem k_X12_put_fieldLink_RX12_234_SRModel_vs_I : Cond.fieldLink RX12 234 "StatementRules2Model" "vs" "[I" ∈ wzX12_put := List.mem_cons_of_mem _ (List.mem_append_left _ (List.mem_of_getElem? (i := 0) rfl))
theorem i_X12_put_X12 : ∀ w ∈ wsX120, w ∈ wzX12_put := fun _ h => List.mem_cons_of_mem _ (List.mem_append_right _ (List.mem_append_left _ (h)))
theorem k_X12_put_fieldLink_RX12_589_SRModel_high_I : Cond.fieldLink RX12 589 "StatementRules2Model" "high" "I" ∈ wzX12_put := List.mem_cons_of_mem _ (List.mem_append_left _ (List.mem_of_getElem? (i := 1) rfl))
set_option maxHeartbeats 4000000 in
set_option maxRecDepth 100000 in
theorem c_X12_put (l : Launch) (dC : Nat → ClassId) (dI : Nat → Nat → Nat) (sz : Nat) (Q : RQ) (N : Nat) (σ : RS) (x1 : Int32) (R : RS) (hf : f_X12_put N σ x1 = some R) : Met l yX12_put wzX12_put ({ frames := 1, cells := 0, slots := 0, locals := 60 }) (va_Pc [.ref Q.h0, .int x1] (zPre dC dI sz (rW Q σ) (rT Q))) (va_Qv (fun (_ : Unit) => True) (fun (_ : Unit) (t : State) => zPost dC dI (va_A (rW Q σ) sz) (rW Q R) (rT Q) t) (va_A (rW Q σ) sz)) 0 0 (va_A (rW Q σ) sz) := by
  refine Met.ofW (cc := cX12_put) (maxL := 2) (ret := none) (by decide) rfl ?_
  intro p e s m args below meth c s₁ B hml hv
  obtain ⟨rfl, hsz, hZ, hP, hK, hD0⟩ := hv
  have hx := B.exec
  have hb := B.bytes
  have hr := B.returns
  have hts := atoms_spec (ws := wzX12_put) B.pre
  have hown : s.vm.findClass RX12 = some m.cls := findClass_of_methodNamed B.named
  have hlocks := B.notSynchronized
  subst hsz
  have hD := hD0.self (sz := s.heap.size)
  generalize hAe : va_A (rW Q σ) s.heap.size = A at hD ⊢
  have hA : ∀ q : Nat, s.heap.size ≤ q → A q := fun q h => by rw [← hAe]; exact Or.inr h
  have hS : va_S A s.heap s.heap [] := va_S.rf
  have hl := lv_entry ([.ref Q.h0, .int x1]) (n := 2) (Nat.le_of_ble_eq_true rfl)
  rw [lg_entry_eq]
  generalize (lg_sl ([.ref Q.h0, .int x1]) ++ List.replicate (2 - (lg_sl ([.ref Q.h0, .int x1])).length) Slot.unset).toArray = ls at hl ⊢
  have hl : lv_has ls 2 [(0, .ref Q.h0), (1, .int x1)] := hl
  unfold f_X12_put at hf
  refine lv_aload_n hx hb dX12_put_0 rfl (lv_at hl 0 rfl) ?_
  refine rG_94 hx hb hts i_X12_put_X12 hown hK hP (hts (.fieldLink RX12 234 "StatementRules2Model" "vs" "[I") k_X12_put_fieldLink_RX12_234_SRModel_vs_I) dX12_put_1 ?_
  refine lv_aload_n hx hb dX12_put_4 rfl (lv_at hl 0 rfl) ?_
  refine rG_93 (v := (σ.i 93)) hx hb hts i_X12_put_X12 hown hK hP (hts (.fieldLink RX12 589 "StatementRules2Model" "high" "I") k_X12_put_fieldLink_RX12_589_SRModel_high_I) dX12_put_5 rfl ?_
  refine lv_iload_n hx hb dX12_put_8 rfl (lv_at hl 1 rfl) ?_
  obtain ⟨b1, hf⟩ := hf_ite hf
  refine rS_94 hx hb hK hP hD hS b1 dX12_put_9 (fun H locs hP hD hS => ?_)
  refine lv_aload_n hx hb dX12_put_10 rfl (lv_at hl 0 rfl) ?_
  refine lv_dup hx hb dX12_put_11 rfl ?_
  refine rG_93 (v := (σ.i 93)) hx hb hts i_X12_put_X12 hown hK hP (hts (.fieldLink RX12 589 "StatementRules2Model" "high" "I") k_X12_put_fieldLink_RX12_589_SRModel_high_I) dX12_put_12 rfl ?_
  refine lv_iconst (v := 1) hx hb dX12_put_15 (by decide) ?_
  refine lv_iadd hx hb dX12_put_16 ?_
  refine rP_93 hx hb hts i_X12_put_X12 hown hK hP hD hS (hts (.fieldLink RX12 589 "StatementRules2Model" "high" "I") k_X12_put_fieldLink_RX12_589_SRModel_high_I) dX12_put_17 (fun H locs hP hD hS => ?_)
  obtain rfl := Option.some.inj hf
  exact W.vret hx hb hr (fun t ht hW => ⟨⟨(), rfl, trivial, by rw [ht]; exact hP, va_K.moved hW.alike hK, hD⟩, hS.F ht⟩) hS.2.2 dX12_put_20
theorem k_X12_take_fieldLink_RX12_589_SRModel_high_I : Cond.fieldLink RX12 589 "StatementRules2Model" "high" "I" ∈ wzX12_take := List.mem_cons_of_mem _ (List.mem_append_left _ (List.mem_of_getElem? (i := 0) rfl))
theorem i_X12_take_X12 : ∀ w ∈ wsX120, w ∈ wzX12_take := fun _ h => List.mem_cons_of_mem _ (List.mem_append_right _ (List.mem_append_left _ (h)))
theorem k_X12_take_fieldLink_RX12_234_SRModel_vs_I : Cond.fieldLink RX12 234 "StatementRules2Model" "vs" "[I" ∈ wzX12_take := List.mem_cons_of_mem _ (List.mem_append_left _ (List.mem_of_getElem? (i := 1) rfl))
set_option maxHeartbeats 4000000 in
set_option maxRecDepth 100000 in
theorem c_X12_take (l : Launch) (dC : Nat → ClassId) (dI : Nat → Nat → Nat) (sz : Nat) (Q : RQ) (N : Nat) (σ : RS) (R : Int32 × RS) (hf : f_X12_take N σ = some R) : Met l yX12_take wzX12_take ({ frames := 1, cells := 0, slots := 0, locals := 60 }) (va_Pc [.ref Q.h0] (zPre dC dI sz (rW Q σ) (rT Q))) (va_Qi (fun (r : Int32) (_ : Unit) => r = R.1) (fun (_ : Unit) (t : State) => zPost dC dI (va_A (rW Q σ) sz) (rW Q R.2) (rT Q) t) (va_A (rW Q σ) sz)) 0 0 (va_A (rW Q σ) sz) := by
  refine Met.ofW (cc := cX12_take) (maxL := 1) (ret := (some .int)) (by decide) rfl ?_
  intro p e s m args below meth c s₁ B hml hv
  obtain ⟨rfl, hsz, hZ, hP, hK, hD0⟩ := hv
  have hx := B.exec
  have hb := B.bytes
  have hr := B.returns
  have hts := atoms_spec (ws := wzX12_take) B.pre
  have hown : s.vm.findClass RX12 = some m.cls := findClass_of_methodNamed B.named
  have hlocks := B.notSynchronized
  subst hsz
  have hD := hD0.self (sz := s.heap.size)
  generalize hAe : va_A (rW Q σ) s.heap.size = A at hD ⊢
  have hA : ∀ q : Nat, s.heap.size ≤ q → A q := fun q h => by rw [← hAe]; exact Or.inr h
  have hS : va_S A s.heap s.heap [] := va_S.rf
  have hl := lv_entry ([.ref Q.h0]) (n := 1) (Nat.le_of_ble_eq_true rfl)
  rw [lg_entry_eq]
  generalize (lg_sl ([.ref Q.h0]) ++ List.replicate (1 - (lg_sl ([.ref Q.h0])).length) Slot.unset).toArray = ls at hl ⊢
  have hl : lv_has ls 1 [(0, .ref Q.h0)] := hl
  unfold f_X12_take at hf
  refine lv_aload_n hx hb dX12_take_0 rfl (lv_at hl 0 rfl) ?_
  refine lv_dup hx hb dX12_take_1 rfl ?_
  refine rG_93 (v := (σ.i 93)) hx hb hts i_X12_take_X12 hown hK hP (hts (.fieldLink RX12 589 "StatementRules2Model" "high" "I") k_X12_take_fieldLink_RX12_589_SRModel_high_I) dX12_take_2 rfl ?_
  refine lv_iconst (v := 1) hx hb dX12_take_5 (by decide) ?_
  refine lv_isub hx hb dX12_take_6 ?_
  refine rP_93 hx hb hts i_X12_take_X12 hown hK hP hD hS (hts (.fieldLink RX12 589 "StatementRules2Model" "high" "I") k_X12_take_fieldLink_RX12_589_SRModel_high_I) dX12_take_7 (fun H locs hP hD hS => ?_)
  refine lv_aload_n hx hb dX12_take_10 rfl (lv_at hl 0 rfl) ?_
  refine rG_94 hx hb hts i_X12_take_X12 hown hK hP (hts (.fieldLink RX12 234 "StatementRules2Model" "vs" "[I") k_X12_take_fieldLink_RX12_234_SRModel_vs_I) dX12_take_11 ?_
  refine lv_aload_n hx hb dX12_take_14 rfl (lv_at hl 0 rfl) ?_
  refine rG_93 (v := ((σ.i 93) - 1)) hx hb hts i_X12_take_X12 hown hK hP (hts (.fieldLink RX12 589 "StatementRules2Model" "high" "I") k_X12_take_fieldLink_RX12_589_SRModel_high_I) dX12_take_15 rfl ?_
  obtain ⟨b1, hf⟩ := hf_ite hf
  refine rL_94 (v := (σ.a 94 ((((σ.i 93) - 1) : Int32).toNatClampNeg))) hx hb hK hP b1 dX12_take_18 rfl ?_
  obtain rfl := Option.some.inj hf
  exact W.iret (v := (σ.a 94 ((((σ.i 93) - 1) : Int32).toNatClampNeg))) hx hb hr (fun t ht hW => ⟨⟨(σ.a 94 ((((σ.i 93) - 1) : Int32).toNatClampNeg)), (), rfl, rfl, by rw [ht]; exact hP, va_K.moved hW.alike hK, hD⟩, hS.F ht⟩) hS.2.2 dX12_take_19
theorem k_X12_raise_fieldLink_RX12_592_SRModel_things_I : Cond.fieldLink RX12 592 "StatementRules2Model" "things" "I" ∈ wzX12_raise := List.mem_cons_of_mem _ (List.mem_append_left _ (List.mem_of_getElem? (i := 0) rfl))
theorem i_X12_raise_X12 : ∀ w ∈ wsX120, w ∈ wzX12_raise := fun _ h => List.mem_cons_of_mem _ (List.mem_append_right _ (List.mem_append_left _ (h)))
theorem k_X12_raise_fieldLink_RX12_595_SRModel_thing_I : Cond.fieldLink RX12 595 "StatementRules2Model" "thing" "I" ∈ wzX12_raise := List.mem_cons_of_mem _ (List.mem_append_left _ (List.mem_of_getElem? (i := 1) rfl))
theorem k_X12_raise_fieldLink_RX12_216_SRModel_thingKind_I : Cond.fieldLink RX12 216 "StatementRules2Model" "thingKind" "[I" ∈ wzX12_raise := List.mem_cons_of_mem _ (List.mem_append_left _ (List.mem_of_getElem? (i := 2) rfl))
theorem k_X12_raise_fieldLink_RX12_219_SRModel_thingNumber_I : Cond.fieldLink RX12 219 "StatementRules2Model" "thingNumber" "[I" ∈ wzX12_raise := List.mem_cons_of_mem _ (List.mem_append_left _ (List.mem_of_getElem? (i := 3) rfl))
theorem k_X12_raise_fieldLink_RX12_222_SRModel_suppressedMany_I : Cond.fieldLink RX12 222 "StatementRules2Model" "suppressedMany" "[I" ∈ wzX12_raise := List.mem_cons_of_mem _ (List.mem_append_left _ (List.mem_of_getElem? (i := 4) rfl))
theorem k_X12_raise_fieldLink_RX12_597_SRModel_how_I : Cond.fieldLink RX12 597 "StatementRules2Model" "how" "I" ∈ wzX12_raise := List.mem_cons_of_mem _ (List.mem_append_left _ (List.mem_of_getElem? (i := 5) rfl))
set_option maxHeartbeats 4000000 in
set_option maxRecDepth 100000 in
theorem j_X12_raise_24 {p : Program} {e : Env} {s : State} {m : MethodId} {args : Array Value} {below : List Frame} {meth : Method} {c : Code} {A : Nat → Prop} (l : Launch) (dC : Nat → ClassId) (dI : Nat → Nat → Nat) (Q : RQ) (N : Nat) (R : RS) (hx : p.tables.exec = Jvm.exec) (hb : c.code = cX12_raise) (hr : meth.sig.returnType = none) (hml : c.maxLocals = 3) (hown : s.vm.findClass RX12 = some m.cls) (hts : ∀ w ∈ wzX12_raise, w.before args s = true) (hlocks : meth.locks = false) (hZ : zAMB s) (hA : ∀ q : Nat, s.heap.size ≤ q → A q) (hK : va_K (dC, dI) vwCl (rT Q) s) : ∀ (σ : RS) (x1 : Int32) (x2 : Int32) (H : Heap) (locs : List Loc) (ls : Array Slot), f_X12_raise_24 N σ x1 x2 = some R → va_P (dC, dI) vwCl (rW Q σ) H → va_D A (rW Q σ) → va_S A s.heap H locs → lv_has ls 3 [(0, .ref Q.h0), (1, .int x1), (2, .int x2)] → W p l e ({ frames := 1, cells := 0, slots := 0, locals := 60 }) s m args below meth c H locs 0 0 (MQ below (va_Qv (fun (_ : Unit) => True) (fun (_ : Unit) (t : State) => zPost dC dI A (rW Q R) (rT Q) t) A) args s 0 0 A) (F0 m 24 ls []) := by
  intro σ x1 x2 H locs ls hf hP hD hS hl
  unfold f_X12_raise_24 at hf
  refine lv_aload_n hx hb dX12_raise_24 rfl (lv_at hl 0 rfl) ?_
  refine lv_aload_n hx hb dX12_raise_25 rfl (lv_at hl 0 rfl) ?_
  refine rG_114 (v := (σ.i 114)) hx hb hts i_X12_raise_X12 hown hK hP (hts (.fieldLink RX12 595 "StatementRules2Model" "thing" "I") k_X12_raise_fieldLink_RX12_595_SRModel_thing_I) dX12_raise_26 rfl ?_
  refine lv_iconst (v := 1) hx hb dX12_raise_29 (by decide) ?_
  refine lv_iadd hx hb dX12_raise_30 ?_
  refine rP_85 hx hb hts i_X12_raise_X12 hown hK hP hD hS (hts (.fieldLink RX12 592 "StatementRules2Model" "things" "I") k_X12_raise_fieldLink_RX12_592_SRModel_things_I) dX12_raise_31 (fun H locs hP hD hS => ?_)
  refine lv_aload_n hx hb dX12_raise_34 rfl (lv_at hl 0 rfl) ?_
  refine rG_86 hx hb hts i_X12_raise_X12 hown hK hP (hts (.fieldLink RX12 216 "StatementRules2Model" "thingKind" "[I") k_X12_raise_fieldLink_RX12_216_SRModel_thingKind_I) dX12_raise_35 ?_
  refine lv_aload_n hx hb dX12_raise_38 rfl (lv_at hl 0 rfl) ?_
  refine rG_114 (v := (σ.i 114)) hx hb hts i_X12_raise_X12 hown hK hP (hts (.fieldLink RX12 595 "StatementRules2Model" "thing" "I") k_X12_raise_fieldLink_RX12_595_SRModel_thing_I) dX12_raise_39 rfl ?_
  refine lv_iload_n hx hb dX12_raise_42 rfl (lv_at hl 1 rfl) ?_
  obtain ⟨b2, hf⟩ := hf_ite hf
  refine rS_86 hx hb hK hP hD hS b2 dX12_raise_43 (fun H locs hP hD hS => ?_)
  refine lv_aload_n hx hb dX12_raise_44 rfl (lv_at hl 0 rfl) ?_
  refine rG_87 hx hb hts i_X12_raise_X12 hown hK hP (hts (.fieldLink RX12 219 "StatementRules2Model" "thingNumber" "[I") k_X12_raise_fieldLink_RX12_219_SRModel_thingNumber_I) dX12_raise_45 ?_
  refine lv_aload_n hx hb dX12_raise_48 rfl (lv_at hl 0 rfl) ?_
  refine rG_114 (v := (σ.i 114)) hx hb hts i_X12_raise_X12 hown hK hP (hts (.fieldLink RX12 595 "StatementRules2Model" "thing" "I") k_X12_raise_fieldLink_RX12_595_SRModel_thing_I) dX12_raise_49 rfl ?_
  refine lv_iload_n hx hb dX12_raise_52 rfl (lv_at hl 2 rfl) ?_
  refine rS_87 hx hb hK hP hD hS b2 dX12_raise_53 (fun H locs hP hD hS => ?_)
  refine lv_aload_n hx hb dX12_raise_54 rfl (lv_at hl 0 rfl) ?_
  refine rG_88 hx hb hts i_X12_raise_X12 hown hK hP (hts (.fieldLink RX12 222 "StatementRules2Model" "suppressedMany" "[I") k_X12_raise_fieldLink_RX12_222_SRModel_suppressedMany_I) dX12_raise_55 ?_
  refine lv_aload_n hx hb dX12_raise_58 rfl (lv_at hl 0 rfl) ?_
  refine rG_114 (v := (σ.i 114)) hx hb hts i_X12_raise_X12 hown hK hP (hts (.fieldLink RX12 595 "StatementRules2Model" "thing" "I") k_X12_raise_fieldLink_RX12_595_SRModel_thing_I) dX12_raise_59 rfl ?_
  refine lv_iconst (v := 0) hx hb dX12_raise_62 (by decide) ?_
  refine rS_88 hx hb hK hP hD hS b2 dX12_raise_63 (fun H locs hP hD hS => ?_)
  refine lv_aload_n hx hb dX12_raise_64 rfl (lv_at hl 0 rfl) ?_
  refine lv_iconst (v := 3) hx hb dX12_raise_65 (by decide) ?_
  refine rP_110 hx hb hts i_X12_raise_X12 hown hK hP hD hS (hts (.fieldLink RX12 597 "StatementRules2Model" "how" "I") k_X12_raise_fieldLink_RX12_597_SRModel_how_I) dX12_raise_66 (fun H locs hP hD hS => ?_)
  obtain rfl := Option.some.inj hf
  exact W.vret hx hb hr (fun t ht hW => ⟨⟨(), rfl, trivial, by rw [ht]; exact hP, va_K.moved hW.alike hK, hD⟩, hS.F ht⟩) hS.2.2 dX12_raise_69
set_option maxHeartbeats 4000000 in
set_option maxRecDepth 100000 in
theorem c_X12_raise (l : Launch) (dC : Nat → ClassId) (dI : Nat → Nat → Nat) (sz : Nat) (Q : RQ) (N : Nat) (σ : RS) (x1 : Int32) (x2 : Int32) (R : RS) (hf : f_X12_raise N σ x1 x2 = some R) : Met l yX12_raise wzX12_raise ({ frames := 1, cells := 0, slots := 0, locals := 60 }) (va_Pc [.ref Q.h0, .int x1, .int x2] (zPre dC dI sz (rW Q σ) (rT Q))) (va_Qv (fun (_ : Unit) => True) (fun (_ : Unit) (t : State) => zPost dC dI (va_A (rW Q σ) sz) (rW Q R) (rT Q) t) (va_A (rW Q σ) sz)) 0 0 (va_A (rW Q σ) sz) := by
  refine Met.ofW (cc := cX12_raise) (maxL := 3) (ret := none) (by decide) rfl ?_
  intro p e s m args below meth c s₁ B hml hv
  obtain ⟨rfl, hsz, hZ, hP, hK, hD0⟩ := hv
  have hx := B.exec
  have hb := B.bytes
  have hr := B.returns
  have hts := atoms_spec (ws := wzX12_raise) B.pre
  have hown : s.vm.findClass RX12 = some m.cls := findClass_of_methodNamed B.named
  have hlocks := B.notSynchronized
  subst hsz
  have hD := hD0.self (sz := s.heap.size)
  generalize hAe : va_A (rW Q σ) s.heap.size = A at hD ⊢
  have hA : ∀ q : Nat, s.heap.size ≤ q → A q := fun q h => by rw [← hAe]; exact Or.inr h
  have hS : va_S A s.heap s.heap [] := va_S.rf
  have hl := lv_entry ([.ref Q.h0, .int x1, .int x2]) (n := 3) (Nat.le_of_ble_eq_true rfl)
  rw [lg_entry_eq]
  generalize (lg_sl ([.ref Q.h0, .int x1, .int x2]) ++ List.replicate (3 - (lg_sl ([.ref Q.h0, .int x1, .int x2])).length) Slot.unset).toArray = ls at hl ⊢
  have hl : lv_has ls 3 [(0, .ref Q.h0), (1, .int x1), (2, .int x2)] := hl
  unfold f_X12_raise at hf
  refine lv_aload_n hx hb dX12_raise_0 rfl (lv_at hl 0 rfl) ?_
  refine lv_aload_n hx hb dX12_raise_1 rfl (lv_at hl 0 rfl) ?_
  refine rG_85 (v := (σ.i 85)) hx hb hts i_X12_raise_X12 hown hK hP (hts (.fieldLink RX12 592 "StatementRules2Model" "things" "I") k_X12_raise_fieldLink_RX12_592_SRModel_things_I) dX12_raise_2 rfl ?_
  refine lv_sipush (v := 3200) hx hb dX12_raise_5 (by decide) ?_
  refine lv_icmp_ge (tgt := 18) hx hb dX12_raise_8 (by decide) (fun c1 => ?_) (fun c1 => ?_)
  ·
    replace hf := (if_pos c1).symm.trans hf
    refine lv_sipush (v := 3199) hx hb dX12_raise_18 (by decide) ?_
    refine rP_114 hx hb hts i_X12_raise_X12 hown hK hP hD hS (hts (.fieldLink RX12 595 "StatementRules2Model" "thing" "I") k_X12_raise_fieldLink_RX12_595_SRModel_thing_I) dX12_raise_21 (fun H locs hP hD hS => ?_)
    exact j_X12_raise_24 l dC dI Q N R hx hb hr hml hown hts hlocks hZ hA hK (RS.setI σ 114 3199) x1 x2 _ _ _ hf hP hD hS (lv_sub hl [0, 1, 2] rfl)
  ·
    replace hf := (if_neg c1).symm.trans hf
    refine lv_aload_n hx hb dX12_raise_11 rfl (lv_at hl 0 rfl) ?_
    refine rG_85 (v := (σ.i 85)) hx hb hts i_X12_raise_X12 hown hK hP (hts (.fieldLink RX12 592 "StatementRules2Model" "things" "I") k_X12_raise_fieldLink_RX12_592_SRModel_things_I) dX12_raise_12 rfl ?_
    refine lv_goto (tgt := 21) hx hb dX12_raise_15 (by decide) ?_
    refine rP_114 hx hb hts i_X12_raise_X12 hown hK hP hD hS (hts (.fieldLink RX12 595 "StatementRules2Model" "thing" "I") k_X12_raise_fieldLink_RX12_595_SRModel_thing_I) dX12_raise_21 (fun H locs hP hD hS => ?_)
    exact j_X12_raise_24 l dC dI Q N R hx hb hr hml hown hts hlocks hZ hA hK (RS.setI σ 114 (σ.i 85)) x1 x2 _ _ _ hf hP hD hS (lv_sub hl [0, 1, 2] rfl)
theorem k_X12_closeAll_fieldLink_RX12_600_SRModel_openMany_I : Cond.fieldLink RX12 600 "StatementRules2Model" "openMany" "I" ∈ wzX12_closeAll := List.mem_cons_of_mem _ (List.mem_append_left _ (List.mem_of_getElem? (i := 0) rfl))
theorem i_X12_closeAll_X12 : ∀ w ∈ wsX120, w ∈ wzX12_closeAll := fun _ h => List.mem_cons_of_mem _ (List.mem_append_right _ (List.mem_append_left _ (h)))
theorem k_X12_closeAll_fieldLink_RX12_252_SRModel_rc_I : Cond.fieldLink RX12 252 "StatementRules2Model" "rc" "[I" ∈ wzX12_closeAll := List.mem_cons_of_mem _ (List.mem_append_left _ (List.mem_of_getElem? (i := 1) rfl))
theorem k_X12_closeAll_fieldLink_RX12_237_SRModel_openOf_I : Cond.fieldLink RX12 237 "StatementRules2Model" "openOf" "[I" ∈ wzX12_closeAll := List.mem_cons_of_mem _ (List.mem_append_left _ (List.mem_of_getElem? (i := 2) rfl))
theorem k_X12_closeAll_fieldLink_RX12_27_SRModel_closing_I : Cond.fieldLink RX12 27 "StatementRules2Model" "closing" "[I" ∈ wzX12_closeAll := List.mem_cons_of_mem _ (List.mem_append_left _ (List.mem_of_getElem? (i := 3) rfl))
theorem k_X12_closeAll_fieldLink_RX12_597_SRModel_how_I : Cond.fieldLink RX12 597 "StatementRules2Model" "how" "I" ∈ wzX12_closeAll := List.mem_cons_of_mem _ (List.mem_append_left _ (List.mem_of_getElem? (i := 4) rfl))
theorem k_X12_closeAll_fieldLink_RX12_222_SRModel_suppressedMany_I : Cond.fieldLink RX12 222 "StatementRules2Model" "suppressedMany" "[I" ∈ wzX12_closeAll := List.mem_cons_of_mem _ (List.mem_append_left _ (List.mem_of_getElem? (i := 5) rfl))
theorem k_X12_closeAll_fieldLink_RX12_595_SRModel_thing_I : Cond.fieldLink RX12 595 "StatementRules2Model" "thing" "I" ∈ wzX12_closeAll := List.mem_cons_of_mem _ (List.mem_append_left _ (List.mem_of_getElem? (i := 6) rfl))
theorem k_X12_closeAll_fieldLink_RX12_225_SRModel_suppressedKind_I : Cond.fieldLink RX12 225 "StatementRules2Model" "suppressedKind" "[I" ∈ wzX12_closeAll := List.mem_cons_of_mem _ (List.mem_append_left _ (List.mem_of_getElem? (i := 7) rfl))
theorem k_X12_closeAll_fieldLink_RX12_228_SRModel_suppressedNumber_I : Cond.fieldLink RX12 228 "StatementRules2Model" "suppressedNumber" "[I" ∈ wzX12_closeAll := List.mem_cons_of_mem _ (List.mem_append_left _ (List.mem_of_getElem? (i := 8) rfl))
set_option maxHeartbeats 4000000 in
set_option maxRecDepth 100000 in
theorem j_X12_closeAll_0 {p : Program} {e : Env} {s : State} {m : MethodId} {args : Array Value} {below : List Frame} {meth : Method} {c : Code} {A : Nat → Prop} (l : Launch) (dC : Nat → ClassId) (dI : Nat → Nat → Nat) (Q : RQ) (N : Nat) (R : RS) (hx : p.tables.exec = Jvm.exec) (hb : c.code = cX12_closeAll) (hr : meth.sig.returnType = none) (hml : c.maxLocals = 5) (hown : s.vm.findClass RX12 = some m.cls) (hts : ∀ w ∈ wzX12_closeAll, w.before args s = true) (hlocks : meth.locks = false) (hZ : zAMB s) (hA : ∀ q : Nat, s.heap.size ≤ q → A q) (hK : va_K (dC, dI) vwCl (rT Q) s) : ∀ (n9 : Nat), ∀ (σ : RS) (x1 : Int32) (H : Heap) (locs : List Loc) (ls : Array Slot), f_X12_closeAll_0 N n9 σ x1 = some R → va_P (dC, dI) vwCl (rW Q σ) H → va_D A (rW Q σ) → va_S A s.heap H locs → lv_has ls 5 [(0, .ref Q.h0), (1, .int x1)] → W p l e ({ frames := 2, cells := 0, slots := 0, locals := 120 }) s m args below meth c H locs 0 0 (MQ below (va_Qv (fun (_ : Unit) => True) (fun (_ : Unit) (t : State) => zPost dC dI A (rW Q R) (rT Q) t) A) args s 0 0 A) (F0 m 0 ls []) := by
  intro n9
  induction n9 with
  | zero => intro σ x1 H locs ls hf; exact absurd hf (by intro h9; cases h9)
  | succ n9 ih =>
    intro σ x1 H locs ls hf hP hD hS hl
    replace hf : b_X12_closeAll_0 N (f_X12_closeAll_0 N n9) σ x1 = some R := hf
    unfold b_X12_closeAll_0 at hf
    refine lv_aload_n hx hb dX12_closeAll_0 rfl (lv_at hl 0 rfl) ?_
    refine rG_95 (v := (σ.i 95)) hx hb hts i_X12_closeAll_X12 hown hK hP (hts (.fieldLink RX12 600 "StatementRules2Model" "openMany" "I") k_X12_closeAll_fieldLink_RX12_600_SRModel_openMany_I) dX12_closeAll_1 rfl ?_
    refine lv_aload_n hx hb dX12_closeAll_4 rfl (lv_at hl 0 rfl) ?_
    refine rG_103 hx hb hts i_X12_closeAll_X12 hown hK hP (hts (.fieldLink RX12 252 "StatementRules2Model" "rc" "[I") k_X12_closeAll_fieldLink_RX12_252_SRModel_rc_I) dX12_closeAll_5 ?_
    refine lv_iload_n hx hb dX12_closeAll_8 rfl (lv_at hl 1 rfl) ?_
    obtain ⟨b1, hf⟩ := hf_ite hf
    refine rL_103 (v := (σ.a 103 ((x1 : Int32).toNatClampNeg))) hx hb hK hP b1 dX12_closeAll_9 rfl ?_
    refine lv_icmp_le (tgt := 138) hx hb dX12_closeAll_10 (by decide) (fun c2 => ?_) (fun c2 => ?_)
    ·
      replace hf := (if_pos c2).symm.trans hf
      obtain rfl := Option.some.inj hf
      exact W.vret hx hb hr (fun t ht hW => ⟨⟨(), rfl, trivial, by rw [ht]; exact hP, va_K.moved hW.alike hK, hD⟩, hS.F ht⟩) hS.2.2 dX12_closeAll_138
    ·
      replace hf := (if_neg c2).symm.trans hf
      refine lv_aload_n hx hb dX12_closeAll_13 rfl (lv_at hl 0 rfl) ?_
      refine lv_dup hx hb dX12_closeAll_14 rfl ?_
      refine rG_95 (v := (σ.i 95)) hx hb hts i_X12_closeAll_X12 hown hK hP (hts (.fieldLink RX12 600 "StatementRules2Model" "openMany" "I") k_X12_closeAll_fieldLink_RX12_600_SRModel_openMany_I) dX12_closeAll_15 rfl ?_
      refine lv_iconst (v := 1) hx hb dX12_closeAll_18 (by decide) ?_
      refine lv_isub hx hb dX12_closeAll_19 ?_
      refine rP_95 hx hb hts i_X12_closeAll_X12 hown hK hP hD hS (hts (.fieldLink RX12 600 "StatementRules2Model" "openMany" "I") k_X12_closeAll_fieldLink_RX12_600_SRModel_openMany_I) dX12_closeAll_20 (fun H locs hP hD hS => ?_)
      refine lv_aload_n hx hb dX12_closeAll_23 rfl (lv_at hl 0 rfl) ?_
      refine rG_96 hx hb hts i_X12_closeAll_X12 hown hK hP (hts (.fieldLink RX12 237 "StatementRules2Model" "openOf" "[I") k_X12_closeAll_fieldLink_RX12_237_SRModel_openOf_I) dX12_closeAll_24 ?_
      refine lv_aload_n hx hb dX12_closeAll_27 rfl (lv_at hl 0 rfl) ?_
      refine rG_95 (v := ((σ.i 95) - 1)) hx hb hts i_X12_closeAll_X12 hown hK hP (hts (.fieldLink RX12 600 "StatementRules2Model" "openMany" "I") k_X12_closeAll_fieldLink_RX12_600_SRModel_openMany_I) dX12_closeAll_28 rfl ?_
      obtain ⟨b3, hf⟩ := hf_ite hf
      refine rL_96 (v := (σ.a 96 ((((σ.i 95) - 1) : Int32).toNatClampNeg))) hx hb hK hP b3 dX12_closeAll_31 rfl ?_
      refine lv_istore_n (lv' := [(2, .int (σ.a 96 ((((σ.i 95) - 1) : Int32).toNatClampNeg))), (0, .ref Q.h0), (1, .int x1)]) hx hb dX12_closeAll_32 rfl hl (by decide) rfl (fun ls hl => ?_)
      refine lv_aload_n hx hb dX12_closeAll_33 rfl (lv_at hl 1 rfl) ?_
      refine lv_iconst (v := 2) hx hb dX12_closeAll_34 (by decide) ?_
      refine lv_iload_n hx hb dX12_closeAll_35 rfl (lv_at hl 0 rfl) ?_
      obtain ⟨p4, hcp4, hf⟩ := hf_bind hf
      have hFc := r_free hD hS hA
      refine va_callv (va_runV (As := [.int 2, .int (σ.a 96 ((((σ.i 95) - 1) : Int32).toNatClampNeg))]) (rest := []) ⟨hx, hb, hml, hown, hts⟩ (c_X12_row l dC dI _ Q N (RS.setI σ 95 ((σ.i 95) - 1)) 2 (σ.a 96 ((((σ.i 95) - 1) : Int32).toNatClampNeg)) p4 hcp4) (cwV 2 hts hX12_closeAll_X12_row_v603 rfl rfl rfl (by decide +kernel) ⟨Nat.le_of_ble_eq_true rfl, Nat.le_of_ble_eq_true rfl⟩) ⟨zPre.blind, va_recv hK hP (ci := 11) (q0 := 0) rfl rfl, zPre.go hZ hP hK hD⟩ rfl rfl hl.1 rfl (lv_room (Nat.le_of_ble_eq_true rfl)) dX12_closeAll_36 ⟨Nat.le_of_ble_eq_true rfl, Nat.le_of_ble_eq_true rfl⟩) hS (fun q _ h => hFc q h) hFc (fun u9 t9 H1 locs ht hvm hw hB hz1 hk1 hS => ?_)
      obtain ⟨hP, hK1, hD1⟩ := hB
      rw [ht] at hP
      have hD := hD1.weaken (fun _ _ _ h => hFc _ h)
      generalize H1 = H at hP hS ⊢
      refine lv_aload_n hx hb dX12_closeAll_39 rfl (lv_at hl 1 rfl) ?_
      refine rG_7 hx hb hts i_X12_closeAll_X12 hown hK hP (hts (.fieldLink RX12 27 "StatementRules2Model" "closing" "[I") k_X12_closeAll_fieldLink_RX12_27_SRModel_closing_I) dX12_closeAll_40 ?_
      refine lv_iload_n hx hb dX12_closeAll_43 rfl (lv_at hl 0 rfl) ?_
      obtain ⟨b6, hf⟩ := hf_ite hf
      refine rL_7 (v := (p4.a 7 (((σ.a 96 ((((σ.i 95) - 1) : Int32).toNatClampNeg)) : Int32).toNatClampNeg))) hx hb hK hP b6 dX12_closeAll_44 rfl ?_
      refine lv_iconst (v := 1) hx hb dX12_closeAll_45 (by decide) ?_
      refine lv_isub hx hb dX12_closeAll_46 ?_
      refine lv_istore_n (lv' := [(3, .int ((p4.a 7 (((σ.a 96 ((((σ.i 95) - 1) : Int32).toNatClampNeg)) : Int32).toNatClampNeg)) - 1)), (2, .int (σ.a 96 ((((σ.i 95) - 1) : Int32).toNatClampNeg))), (0, .ref Q.h0), (1, .int x1)]) hx hb dX12_closeAll_47 rfl hl (by decide) rfl (fun ls hl => ?_)
      refine lv_iload_n hx hb dX12_closeAll_48 rfl (lv_at hl 0 rfl) ?_
      refine lv_if_lt (tgt := 69) hx hb dX12_closeAll_49 (by decide) (fun c7 => ?_) (fun c7 => ?_)
      ·
        replace hf := (if_pos c7).symm.trans hf
        refine lv_iload_n hx hb dX12_closeAll_69 rfl (lv_at hl 0 rfl) ?_
        refine lv_if_lt (tgt := 135) hx hb dX12_closeAll_70 (by decide) (fun _ => ?_) (fun c9 => absurd c7 c9)
        refine lv_goto (tgt := 0) hx hb dX12_closeAll_135 (by decide) ?_
        exact ih p4 x1 _ _ _ hf hP hD hS (lv_sub hl [2, 3] rfl)
      ·
        replace hf := (if_neg c7).symm.trans hf
        refine lv_aload_n hx hb dX12_closeAll_52 rfl (lv_at hl 2 rfl) ?_
        refine rG_110 (v := (p4.i 110)) hx hb hts i_X12_closeAll_X12 hown hK hP (hts (.fieldLink RX12 597 "StatementRules2Model" "how" "I") k_X12_closeAll_fieldLink_RX12_597_SRModel_how_I) dX12_closeAll_53 rfl ?_
        refine lv_iconst (v := 3) hx hb dX12_closeAll_56 (by decide) ?_
        refine lv_icmp_eq (tgt := 69) hx hb dX12_closeAll_57 (by decide) (fun c9 => ?_) (fun c9 => ?_)
        ·
          replace hf := (if_pos c9).symm.trans hf
          refine lv_iload_n hx hb dX12_closeAll_69 rfl (lv_at hl 0 rfl) ?_
          refine lv_if_lt (tgt := 135) hx hb dX12_closeAll_70 (by decide) (fun c9 => absurd c9 c7) (fun _ => ?_)
          refine lv_aload_n hx hb dX12_closeAll_73 rfl (lv_at hl 2 rfl) ?_
          refine rG_88 hx hb hts i_X12_closeAll_X12 hown hK hP (hts (.fieldLink RX12 222 "StatementRules2Model" "suppressedMany" "[I") k_X12_closeAll_fieldLink_RX12_222_SRModel_suppressedMany_I) dX12_closeAll_74 ?_
          refine lv_aload_n hx hb dX12_closeAll_77 rfl (lv_at hl 2 rfl) ?_
          refine rG_114 (v := (p4.i 114)) hx hb hts i_X12_closeAll_X12 hown hK hP (hts (.fieldLink RX12 595 "StatementRules2Model" "thing" "I") k_X12_closeAll_fieldLink_RX12_595_SRModel_thing_I) dX12_closeAll_78 rfl ?_
          obtain ⟨b11, hf⟩ := hf_ite hf
          refine rL_88 (v := (p4.a 88 (((p4.i 114) : Int32).toNatClampNeg))) hx hb hK hP b11 dX12_closeAll_81 rfl ?_
          refine lv_bipush (v := 8) hx hb dX12_closeAll_82 (by decide) ?_
          refine lv_icmp_ge (tgt := 135) hx hb dX12_closeAll_84 (by decide) (fun c12 => ?_) (fun c12 => ?_)
          ·
            replace hf := (if_pos c12).symm.trans hf
            refine lv_goto (tgt := 0) hx hb dX12_closeAll_135 (by decide) ?_
            exact ih p4 x1 _ _ _ hf hP hD hS (lv_sub hl [2, 3] rfl)
          ·
            replace hf := (if_neg c12).symm.trans hf
            refine lv_bipush (v := 8) hx hb dX12_closeAll_87 (by decide) ?_
            refine lv_aload_n hx hb dX12_closeAll_89 rfl (lv_at hl 2 rfl) ?_
            refine rG_114 (v := (p4.i 114)) hx hb hts i_X12_closeAll_X12 hown hK hP (hts (.fieldLink RX12 595 "StatementRules2Model" "thing" "I") k_X12_closeAll_fieldLink_RX12_595_SRModel_thing_I) dX12_closeAll_90 rfl ?_
            refine lv_imul hx hb dX12_closeAll_93 ?_
            refine lv_aload_n hx hb dX12_closeAll_94 rfl (lv_at hl 2 rfl) ?_
            refine rG_88 hx hb hts i_X12_closeAll_X12 hown hK hP (hts (.fieldLink RX12 222 "StatementRules2Model" "suppressedMany" "[I") k_X12_closeAll_fieldLink_RX12_222_SRModel_suppressedMany_I) dX12_closeAll_95 ?_
            refine lv_aload_n hx hb dX12_closeAll_98 rfl (lv_at hl 2 rfl) ?_
            refine rG_114 (v := (p4.i 114)) hx hb hts i_X12_closeAll_X12 hown hK hP (hts (.fieldLink RX12 595 "StatementRules2Model" "thing" "I") k_X12_closeAll_fieldLink_RX12_595_SRModel_thing_I) dX12_closeAll_99 rfl ?_
            refine rL_88 (v := (p4.a 88 (((p4.i 114) : Int32).toNatClampNeg))) hx hb hK hP b11 dX12_closeAll_102 rfl ?_
            refine lv_iadd hx hb dX12_closeAll_103 ?_
            refine lv_istore (lv' := [(4, .int ((8 * (p4.i 114)) + (p4.a 88 (((p4.i 114) : Int32).toNatClampNeg)))), (3, .int ((p4.a 7 (((σ.a 96 ((((σ.i 95) - 1) : Int32).toNatClampNeg)) : Int32).toNatClampNeg)) - 1)), (2, .int (σ.a 96 ((((σ.i 95) - 1) : Int32).toNatClampNeg))), (0, .ref Q.h0), (1, .int x1)]) hx hb dX12_closeAll_104 hl (by decide) rfl (fun ls hl => ?_)
            refine lv_aload_n hx hb dX12_closeAll_106 rfl (lv_at hl 3 rfl) ?_
            refine rG_89 hx hb hts i_X12_closeAll_X12 hown hK hP (hts (.fieldLink RX12 225 "StatementRules2Model" "suppressedKind" "[I") k_X12_closeAll_fieldLink_RX12_225_SRModel_suppressedKind_I) dX12_closeAll_107 ?_
            refine lv_iload hx hb dX12_closeAll_110 (lv_at hl 0 rfl) ?_
            refine lv_iload_n hx hb dX12_closeAll_112 rfl (lv_at hl 1 rfl) ?_
            obtain ⟨b13, hf⟩ := hf_ite hf
            refine rS_89 hx hb hK hP hD hS b13 dX12_closeAll_113 (fun H locs hP hD hS => ?_)
            refine lv_aload_n hx hb dX12_closeAll_114 rfl (lv_at hl 3 rfl) ?_
            refine rG_90 hx hb hts i_X12_closeAll_X12 hown hK hP (hts (.fieldLink RX12 228 "StatementRules2Model" "suppressedNumber" "[I") k_X12_closeAll_fieldLink_RX12_228_SRModel_suppressedNumber_I) dX12_closeAll_115 ?_
            refine lv_iload hx hb dX12_closeAll_118 (lv_at hl 0 rfl) ?_
            refine lv_iload_n hx hb dX12_closeAll_120 rfl (lv_at hl 2 rfl) ?_
            refine rS_90 hx hb hK hP hD hS b13 dX12_closeAll_121 (fun H locs hP hD hS => ?_)
            refine lv_aload_n hx hb dX12_closeAll_122 rfl (lv_at hl 3 rfl) ?_
            refine rG_88 hx hb hts i_X12_closeAll_X12 hown hK hP (hts (.fieldLink RX12 222 "StatementRules2Model" "suppressedMany" "[I") k_X12_closeAll_fieldLink_RX12_222_SRModel_suppressedMany_I) dX12_closeAll_123 ?_
            refine lv_aload_n hx hb dX12_closeAll_126 rfl (lv_at hl 3 rfl) ?_
            refine rG_114 (v := (p4.i 114)) hx hb hts i_X12_closeAll_X12 hown hK hP (hts (.fieldLink RX12 595 "StatementRules2Model" "thing" "I") k_X12_closeAll_fieldLink_RX12_595_SRModel_thing_I) dX12_closeAll_127 rfl ?_
            refine lv_dup2_11 hx hb dX12_closeAll_130 rfl rfl ?_
            refine rL_88 (v := (p4.a 88 (((p4.i 114) : Int32).toNatClampNeg))) hx hb hK hP b11 dX12_closeAll_131 rfl ?_
            refine lv_iconst (v := 1) hx hb dX12_closeAll_132 (by decide) ?_
            refine lv_iadd hx hb dX12_closeAll_133 ?_
            refine rS_88 hx hb hK hP hD hS b11 dX12_closeAll_134 (fun H locs hP hD hS => ?_)
            refine lv_goto (tgt := 0) hx hb dX12_closeAll_135 (by decide) ?_
            exact ih (RS.setA (RS.setA (RS.setA p4 89 ((((8 * (p4.i 114)) + (p4.a 88 (((p4.i 114) : Int32).toNatClampNeg))) : Int32).toNatClampNeg) ((p4.a 7 (((σ.a 96 ((((σ.i 95) - 1) : Int32).toNatClampNeg)) : Int32).toNatClampNeg)) - 1)) 90 ((((8 * (p4.i 114)) + (p4.a 88 (((p4.i 114) : Int32).toNatClampNeg))) : Int32).toNatClampNeg) (σ.a 96 ((((σ.i 95) - 1) : Int32).toNatClampNeg))) 88 (((p4.i 114) : Int32).toNatClampNeg) ((p4.a 88 (((p4.i 114) : Int32).toNatClampNeg)) + 1)) x1 _ _ _ hf hP hD hS (lv_sub hl [3, 4] rfl)
        ·
          replace hf := (if_neg c9).symm.trans hf
          refine lv_aload_n hx hb dX12_closeAll_60 rfl (lv_at hl 2 rfl) ?_
          refine lv_iload_n hx hb dX12_closeAll_61 rfl (lv_at hl 0 rfl) ?_
          refine lv_iload_n hx hb dX12_closeAll_62 rfl (lv_at hl 1 rfl) ?_
          obtain ⟨p14, hcp14, hf⟩ := hf_bind hf
          have hFc := r_free hD hS hA
          refine va_callv (va_runV (As := [.int ((p4.a 7 (((σ.a 96 ((((σ.i 95) - 1) : Int32).toNatClampNeg)) : Int32).toNatClampNeg)) - 1), .int (σ.a 96 ((((σ.i 95) - 1) : Int32).toNatClampNeg))]) (rest := []) ⟨hx, hb, hml, hown, hts⟩ (c_X12_raise l dC dI _ Q N p4 ((p4.a 7 (((σ.a 96 ((((σ.i 95) - 1) : Int32).toNatClampNeg)) : Int32).toNatClampNeg)) - 1) (σ.a 96 ((((σ.i 95) - 1) : Int32).toNatClampNeg)) p14 hcp14) (cwV 2 hts hX12_closeAll_X12_raise_v606 rfl rfl rfl (by decide +kernel) ⟨Nat.le_of_ble_eq_true rfl, Nat.le_of_ble_eq_true rfl⟩) ⟨zPre.blind, va_recv hK hP (ci := 11) (q0 := 0) rfl rfl, zPre.go hZ hP hK hD⟩ rfl rfl hl.1 rfl (lv_room (Nat.le_of_ble_eq_true rfl)) dX12_closeAll_63 ⟨Nat.le_of_ble_eq_true rfl, Nat.le_of_ble_eq_true rfl⟩) hS (fun q _ h => hFc q h) hFc (fun u9 t9 H1 locs ht hvm hw hB hz1 hk1 hS => ?_)
          obtain ⟨hP, hK1, hD1⟩ := hB
          rw [ht] at hP
          have hD := hD1.weaken (fun _ _ _ h => hFc _ h)
          generalize H1 = H at hP hS ⊢
          refine lv_goto (tgt := 135) hx hb dX12_closeAll_66 (by decide) ?_
          refine lv_goto (tgt := 0) hx hb dX12_closeAll_135 (by decide) ?_
          exact ih p14 x1 _ _ _ hf hP hD hS (lv_sub hl [2, 3] rfl)
set_option maxHeartbeats 4000000 in
set_option maxRecDepth 100000 in
theorem c_X12_closeAll (l : Launch) (dC : Nat → ClassId) (dI : Nat → Nat → Nat) (sz : Nat) (Q : RQ) (N : Nat) (σ : RS) (x1 : Int32) (R : RS) (hf : f_X12_closeAll N σ x1 = some R) : Met l yX12_closeAll wzX12_closeAll ({ frames := 2, cells := 0, slots := 0, locals := 120 }) (va_Pc [.ref Q.h0, .int x1] (zPre dC dI sz (rW Q σ) (rT Q))) (va_Qv (fun (_ : Unit) => True) (fun (_ : Unit) (t : State) => zPost dC dI (va_A (rW Q σ) sz) (rW Q R) (rT Q) t) (va_A (rW Q σ) sz)) 0 0 (va_A (rW Q σ) sz) := by
  refine Met.ofW (cc := cX12_closeAll) (maxL := 5) (ret := none) (by decide) rfl ?_
  intro p e s m args below meth c s₁ B hml hv
  obtain ⟨rfl, hsz, hZ, hP, hK, hD0⟩ := hv
  have hx := B.exec
  have hb := B.bytes
  have hr := B.returns
  have hts := atoms_spec (ws := wzX12_closeAll) B.pre
  have hown : s.vm.findClass RX12 = some m.cls := findClass_of_methodNamed B.named
  have hlocks := B.notSynchronized
  subst hsz
  have hD := hD0.self (sz := s.heap.size)
  generalize hAe : va_A (rW Q σ) s.heap.size = A at hD ⊢
  have hA : ∀ q : Nat, s.heap.size ≤ q → A q := fun q h => by rw [← hAe]; exact Or.inr h
  have hS : va_S A s.heap s.heap [] := va_S.rf
  have hl := lv_entry ([.ref Q.h0, .int x1]) (n := 5) (Nat.le_of_ble_eq_true rfl)
  rw [lg_entry_eq]
  generalize (lg_sl ([.ref Q.h0, .int x1]) ++ List.replicate (5 - (lg_sl ([.ref Q.h0, .int x1])).length) Slot.unset).toArray = ls at hl ⊢
  have hl : lv_has ls 5 [(0, .ref Q.h0), (1, .int x1)] := hl
  unfold f_X12_closeAll at hf
  exact j_X12_closeAll_0 l dC dI Q N R hx hb hr hml hown hts hlocks hZ hA hK N σ x1 _ _ _ hf hP hD hS (lv_sub hl [0, 1] rfl)
end
section
theorem k_X12_finals_fieldLink_RX12_108_SRModel_tryFinal_I : Cond.fieldLink RX12 108 "StatementRules2Model" "tryFinal" "[I" ∈ wzX12_finals := List.mem_cons_of_mem _ (List.mem_append_left _ (List.mem_of_getElem? (i := 0) rfl))
theorem i_X12_finals_X12 : ∀ w ∈ wsX120, w ∈ wzX12_finals := fun _ h => List.mem_cons_of_mem _ (List.mem_append_right _ (List.mem_append_left _ (h)))
theorem k_X12_finals_fieldLink_RX12_246_SRModel_ra_I : Cond.fieldLink RX12 246 "StatementRules2Model" "ra" "[I" ∈ wzX12_finals := List.mem_cons_of_mem _ (List.mem_append_left _ (List.mem_of_getElem? (i := 1) rfl))
theorem k_X12_finals_fieldLink_RX12_258_SRModel_rHow_I : Cond.fieldLink RX12 258 "StatementRules2Model" "rHow" "[I" ∈ wzX12_finals := List.mem_cons_of_mem _ (List.mem_append_left _ (List.mem_of_getElem? (i := 2) rfl))
theorem k_X12_finals_fieldLink_RX12_597_SRModel_how_I : Cond.fieldLink RX12 597 "StatementRules2Model" "how" "I" ∈ wzX12_finals := List.mem_cons_of_mem _ (List.mem_append_left _ (List.mem_of_getElem? (i := 3) rfl))
theorem k_X12_finals_fieldLink_RX12_261_SRModel_rTo_I : Cond.fieldLink RX12 261 "StatementRules2Model" "rTo" "[I" ∈ wzX12_finals := List.mem_cons_of_mem _ (List.mem_append_left _ (List.mem_of_getElem? (i := 4) rfl))
theorem k_X12_finals_fieldLink_RX12_609_SRModel_goTo_I : Cond.fieldLink RX12 609 "StatementRules2Model" "goTo" "I" ∈ wzX12_finals := List.mem_cons_of_mem _ (List.mem_append_left _ (List.mem_of_getElem? (i := 5) rfl))
theorem k_X12_finals_fieldLink_RX12_264_SRModel_rDepth_I : Cond.fieldLink RX12 264 "StatementRules2Model" "rDepth" "[I" ∈ wzX12_finals := List.mem_cons_of_mem _ (List.mem_append_left _ (List.mem_of_getElem? (i := 6) rfl))
theorem k_X12_finals_fieldLink_RX12_612_SRModel_goDepth_I : Cond.fieldLink RX12 612 "StatementRules2Model" "goDepth" "I" ∈ wzX12_finals := List.mem_cons_of_mem _ (List.mem_append_left _ (List.mem_of_getElem? (i := 7) rfl))
theorem k_X12_finals_fieldLink_RX12_267_SRModel_rValue_I : Cond.fieldLink RX12 267 "StatementRules2Model" "rValue" "[I" ∈ wzX12_finals := List.mem_cons_of_mem _ (List.mem_append_left _ (List.mem_of_getElem? (i := 8) rfl))
theorem k_X12_finals_fieldLink_RX12_615_SRModel_value_I : Cond.fieldLink RX12 615 "StatementRules2Model" "value" "I" ∈ wzX12_finals := List.mem_cons_of_mem _ (List.mem_append_left _ (List.mem_of_getElem? (i := 9) rfl))
theorem k_X12_finals_fieldLink_RX12_270_SRModel_rThing_I : Cond.fieldLink RX12 270 "StatementRules2Model" "rThing" "[I" ∈ wzX12_finals := List.mem_cons_of_mem _ (List.mem_append_left _ (List.mem_of_getElem? (i := 10) rfl))
theorem k_X12_finals_fieldLink_RX12_595_SRModel_thing_I : Cond.fieldLink RX12 595 "StatementRules2Model" "thing" "I" ∈ wzX12_finals := List.mem_cons_of_mem _ (List.mem_append_left _ (List.mem_of_getElem? (i := 11) rfl))
theorem k_X12_finals_fieldLink_RX12_249_SRModel_rb_I : Cond.fieldLink RX12 249 "StatementRules2Model" "rb" "[I" ∈ wzX12_finals := List.mem_cons_of_mem _ (List.mem_append_left _ (List.mem_of_getElem? (i := 12) rfl))
theorem k_X12_finals_fieldLink_RX12_255_SRModel_rHigh_I : Cond.fieldLink RX12 255 "StatementRules2Model" "rHigh" "[I" ∈ wzX12_finals := List.mem_cons_of_mem _ (List.mem_append_left _ (List.mem_of_getElem? (i := 13) rfl))
theorem k_X12_finals_fieldLink_RX12_589_SRModel_high_I : Cond.fieldLink RX12 589 "StatementRules2Model" "high" "I" ∈ wzX12_finals := List.mem_cons_of_mem _ (List.mem_append_left _ (List.mem_of_getElem? (i := 14) rfl))
theorem k_X12_finals_fieldLink_RX12_618_SRModel_pc_I : Cond.fieldLink RX12 618 "StatementRules2Model" "pc" "I" ∈ wzX12_finals := List.mem_cons_of_mem _ (List.mem_append_left _ (List.mem_of_getElem? (i := 15) rfl))
set_option maxHeartbeats 4000000 in
set_option maxRecDepth 100000 in
theorem c_X12_finals (l : Launch) (dC : Nat → ClassId) (dI : Nat → Nat → Nat) (sz : Nat) (Q : RQ) (N : Nat) (σ : RS) (x1 : Int32) (R : Int32 × RS) (hf : f_X12_finals N σ x1 = some R) : Met l yX12_finals wzX12_finals ({ frames := 1, cells := 0, slots := 0, locals := 60 }) (va_Pc [.ref Q.h0, .int x1] (zPre dC dI sz (rW Q σ) (rT Q))) (va_Qi (fun (r : Int32) (_ : Unit) => r = R.1) (fun (_ : Unit) (t : State) => zPost dC dI (va_A (rW Q σ) sz) (rW Q R.2) (rT Q) t) (va_A (rW Q σ) sz)) 0 0 (va_A (rW Q σ) sz) := by
  refine Met.ofW (cc := cX12_finals) (maxL := 3) (ret := (some .boolean)) (by decide) rfl ?_
  intro p e s m args below meth c s₁ B hml hv
  obtain ⟨rfl, hsz, hZ, hP, hK, hD0⟩ := hv
  have hx := B.exec
  have hb := B.bytes
  have hr := B.returns
  have hts := atoms_spec (ws := wzX12_finals) B.pre
  have hown : s.vm.findClass RX12 = some m.cls := findClass_of_methodNamed B.named
  have hlocks := B.notSynchronized
  subst hsz
  have hD := hD0.self (sz := s.heap.size)
  generalize hAe : va_A (rW Q σ) s.heap.size = A at hD ⊢
  have hA : ∀ q : Nat, s.heap.size ≤ q → A q := fun q h => by rw [← hAe]; exact Or.inr h
  have hS : va_S A s.heap s.heap [] := va_S.rf
  have hl := lv_entry ([.ref Q.h0, .int x1]) (n := 3) (Nat.le_of_ble_eq_true rfl)
  rw [lg_entry_eq]
  generalize (lg_sl ([.ref Q.h0, .int x1]) ++ List.replicate (3 - (lg_sl ([.ref Q.h0, .int x1])).length) Slot.unset).toArray = ls at hl ⊢
  have hl : lv_has ls 3 [(0, .ref Q.h0), (1, .int x1)] := hl
  unfold f_X12_finals at hf
  refine lv_aload_n hx hb dX12_finals_0 rfl (lv_at hl 0 rfl) ?_
  refine rG_31 hx hb hts i_X12_finals_X12 hown hK hP (hts (.fieldLink RX12 108 "StatementRules2Model" "tryFinal" "[I") k_X12_finals_fieldLink_RX12_108_SRModel_tryFinal_I) dX12_finals_1 ?_
  refine lv_aload_n hx hb dX12_finals_4 rfl (lv_at hl 0 rfl) ?_
  refine rG_101 hx hb hts i_X12_finals_X12 hown hK hP (hts (.fieldLink RX12 246 "StatementRules2Model" "ra" "[I") k_X12_finals_fieldLink_RX12_246_SRModel_ra_I) dX12_finals_5 ?_
  refine lv_iload_n hx hb dX12_finals_8 rfl (lv_at hl 1 rfl) ?_
  obtain ⟨b1, hf⟩ := hf_ite hf
  refine rL_101 (v := (σ.a 101 ((x1 : Int32).toNatClampNeg))) hx hb hK hP b1 dX12_finals_9 rfl ?_
  obtain ⟨b2, hf⟩ := hf_ite hf
  refine rL_31 (v := (σ.a 31 (((σ.a 101 ((x1 : Int32).toNatClampNeg)) : Int32).toNatClampNeg))) hx hb hK hP b2 dX12_finals_10 rfl ?_
  refine lv_istore_n (lv' := [(2, .int (σ.a 31 (((σ.a 101 ((x1 : Int32).toNatClampNeg)) : Int32).toNatClampNeg))), (0, .ref Q.h0), (1, .int x1)]) hx hb dX12_finals_11 rfl hl (by decide) rfl (fun ls hl => ?_)
  refine lv_iload_n hx hb dX12_finals_12 rfl (lv_at hl 0 rfl) ?_
  refine lv_if_ge (tgt := 18) hx hb dX12_finals_13 (by decide) (fun c3 => ?_) (fun c3 => ?_)
  ·
    replace hf := (if_pos c3).symm.trans hf
    refine lv_aload_n hx hb dX12_finals_18 rfl (lv_at hl 1 rfl) ?_
    refine rG_105 hx hb hts i_X12_finals_X12 hown hK hP (hts (.fieldLink RX12 258 "StatementRules2Model" "rHow" "[I") k_X12_finals_fieldLink_RX12_258_SRModel_rHow_I) dX12_finals_19 ?_
    refine lv_iload_n hx hb dX12_finals_22 rfl (lv_at hl 2 rfl) ?_
    refine lv_aload_n hx hb dX12_finals_23 rfl (lv_at hl 1 rfl) ?_
    refine rG_110 (v := (σ.i 110)) hx hb hts i_X12_finals_X12 hown hK hP (hts (.fieldLink RX12 597 "StatementRules2Model" "how" "I") k_X12_finals_fieldLink_RX12_597_SRModel_how_I) dX12_finals_24 rfl ?_
    refine rS_105 hx hb hK hP hD hS b1 dX12_finals_27 (fun H locs hP hD hS => ?_)
    refine lv_aload_n hx hb dX12_finals_28 rfl (lv_at hl 1 rfl) ?_
    refine rG_106 hx hb hts i_X12_finals_X12 hown hK hP (hts (.fieldLink RX12 261 "StatementRules2Model" "rTo" "[I") k_X12_finals_fieldLink_RX12_261_SRModel_rTo_I) dX12_finals_29 ?_
    refine lv_iload_n hx hb dX12_finals_32 rfl (lv_at hl 2 rfl) ?_
    refine lv_aload_n hx hb dX12_finals_33 rfl (lv_at hl 1 rfl) ?_
    refine rG_111 (v := (σ.i 111)) hx hb hts i_X12_finals_X12 hown hK hP (hts (.fieldLink RX12 609 "StatementRules2Model" "goTo" "I") k_X12_finals_fieldLink_RX12_609_SRModel_goTo_I) dX12_finals_34 rfl ?_
    refine rS_106 hx hb hK hP hD hS b1 dX12_finals_37 (fun H locs hP hD hS => ?_)
    refine lv_aload_n hx hb dX12_finals_38 rfl (lv_at hl 1 rfl) ?_
    refine rG_107 hx hb hts i_X12_finals_X12 hown hK hP (hts (.fieldLink RX12 264 "StatementRules2Model" "rDepth" "[I") k_X12_finals_fieldLink_RX12_264_SRModel_rDepth_I) dX12_finals_39 ?_
    refine lv_iload_n hx hb dX12_finals_42 rfl (lv_at hl 2 rfl) ?_
    refine lv_aload_n hx hb dX12_finals_43 rfl (lv_at hl 1 rfl) ?_
    refine rG_112 (v := (σ.i 112)) hx hb hts i_X12_finals_X12 hown hK hP (hts (.fieldLink RX12 612 "StatementRules2Model" "goDepth" "I") k_X12_finals_fieldLink_RX12_612_SRModel_goDepth_I) dX12_finals_44 rfl ?_
    refine rS_107 hx hb hK hP hD hS b1 dX12_finals_47 (fun H locs hP hD hS => ?_)
    refine lv_aload_n hx hb dX12_finals_48 rfl (lv_at hl 1 rfl) ?_
    refine rG_108 hx hb hts i_X12_finals_X12 hown hK hP (hts (.fieldLink RX12 267 "StatementRules2Model" "rValue" "[I") k_X12_finals_fieldLink_RX12_267_SRModel_rValue_I) dX12_finals_49 ?_
    refine lv_iload_n hx hb dX12_finals_52 rfl (lv_at hl 2 rfl) ?_
    refine lv_aload_n hx hb dX12_finals_53 rfl (lv_at hl 1 rfl) ?_
    refine rG_113 (v := (σ.i 113)) hx hb hts i_X12_finals_X12 hown hK hP (hts (.fieldLink RX12 615 "StatementRules2Model" "value" "I") k_X12_finals_fieldLink_RX12_615_SRModel_value_I) dX12_finals_54 rfl ?_
    refine rS_108 hx hb hK hP hD hS b1 dX12_finals_57 (fun H locs hP hD hS => ?_)
    refine lv_aload_n hx hb dX12_finals_58 rfl (lv_at hl 1 rfl) ?_
    refine rG_109 hx hb hts i_X12_finals_X12 hown hK hP (hts (.fieldLink RX12 270 "StatementRules2Model" "rThing" "[I") k_X12_finals_fieldLink_RX12_270_SRModel_rThing_I) dX12_finals_59 ?_
    refine lv_iload_n hx hb dX12_finals_62 rfl (lv_at hl 2 rfl) ?_
    refine lv_aload_n hx hb dX12_finals_63 rfl (lv_at hl 1 rfl) ?_
    refine rG_114 (v := (σ.i 114)) hx hb hts i_X12_finals_X12 hown hK hP (hts (.fieldLink RX12 595 "StatementRules2Model" "thing" "I") k_X12_finals_fieldLink_RX12_595_SRModel_thing_I) dX12_finals_64 rfl ?_
    refine rS_109 hx hb hK hP hD hS b1 dX12_finals_67 (fun H locs hP hD hS => ?_)
    refine lv_aload_n hx hb dX12_finals_68 rfl (lv_at hl 1 rfl) ?_
    refine rG_102 hx hb hts i_X12_finals_X12 hown hK hP (hts (.fieldLink RX12 249 "StatementRules2Model" "rb" "[I") k_X12_finals_fieldLink_RX12_249_SRModel_rb_I) dX12_finals_69 ?_
    refine lv_iload_n hx hb dX12_finals_72 rfl (lv_at hl 2 rfl) ?_
    refine lv_iconst (v := 2) hx hb dX12_finals_73 (by decide) ?_
    refine rS_102 hx hb hK hP hD hS b1 dX12_finals_74 (fun H locs hP hD hS => ?_)
    refine lv_aload_n hx hb dX12_finals_75 rfl (lv_at hl 1 rfl) ?_
    refine lv_aload_n hx hb dX12_finals_76 rfl (lv_at hl 1 rfl) ?_
    refine rG_104 hx hb hts i_X12_finals_X12 hown hK hP (hts (.fieldLink RX12 255 "StatementRules2Model" "rHigh" "[I") k_X12_finals_fieldLink_RX12_255_SRModel_rHigh_I) dX12_finals_77 ?_
    refine lv_iload_n hx hb dX12_finals_80 rfl (lv_at hl 2 rfl) ?_
    refine rL_104 (v := (σ.a 104 ((x1 : Int32).toNatClampNeg))) hx hb hK hP b1 dX12_finals_81 rfl ?_
    refine rP_93 hx hb hts i_X12_finals_X12 hown hK hP hD hS (hts (.fieldLink RX12 589 "StatementRules2Model" "high" "I") k_X12_finals_fieldLink_RX12_589_SRModel_high_I) dX12_finals_82 (fun H locs hP hD hS => ?_)
    refine lv_aload_n hx hb dX12_finals_85 rfl (lv_at hl 1 rfl) ?_
    refine lv_iload_n hx hb dX12_finals_86 rfl (lv_at hl 0 rfl) ?_
    refine rP_92 hx hb hts i_X12_finals_X12 hown hK hP hD hS (hts (.fieldLink RX12 618 "StatementRules2Model" "pc" "I") k_X12_finals_fieldLink_RX12_618_SRModel_pc_I) dX12_finals_87 (fun H locs hP hD hS => ?_)
    refine lv_iconst (v := 1) hx hb dX12_finals_90 (by decide) ?_
    obtain rfl := Option.some.inj hf
    exact W.zret (v := 1) hx hb hr (rfl) (fun t ht hW => ⟨⟨1, (), rfl, rfl, by rw [ht]; exact hP, va_K.moved hW.alike hK, hD⟩, hS.F ht⟩) hS.2.2 dX12_finals_91
  ·
    replace hf := (if_neg c3).symm.trans hf
    refine lv_iconst (v := 0) hx hb dX12_finals_16 (by decide) ?_
    obtain rfl := Option.some.inj hf
    exact W.zret (v := 0) hx hb hr (rfl) (fun t ht hW => ⟨⟨0, (), rfl, rfl, by rw [ht]; exact hP, va_K.moved hW.alike hK, hD⟩, hS.F ht⟩) hS.2.2 dX12_finals_17
theorem k_X12_isCaught_fieldLink_RX12_105_SRModel_tryCatch_I : Cond.fieldLink RX12 105 "StatementRules2Model" "tryCatch" "[I" ∈ wzX12_isCaught := List.mem_cons_of_mem _ (List.mem_append_left _ (List.mem_of_getElem? (i := 0) rfl))
theorem i_X12_isCaught_X12 : ∀ w ∈ wsX120, w ∈ wzX12_isCaught := fun _ h => List.mem_cons_of_mem _ (List.mem_append_right _ (List.mem_append_left _ (h)))
theorem k_X12_isCaught_fieldLink_RX12_246_SRModel_ra_I : Cond.fieldLink RX12 246 "StatementRules2Model" "ra" "[I" ∈ wzX12_isCaught := List.mem_cons_of_mem _ (List.mem_append_left _ (List.mem_of_getElem? (i := 1) rfl))
theorem k_X12_isCaught_fieldLink_RX12_216_SRModel_thingKind_I : Cond.fieldLink RX12 216 "StatementRules2Model" "thingKind" "[I" ∈ wzX12_isCaught := List.mem_cons_of_mem _ (List.mem_append_left _ (List.mem_of_getElem? (i := 2) rfl))
theorem k_X12_isCaught_fieldLink_RX12_595_SRModel_thing_I : Cond.fieldLink RX12 595 "StatementRules2Model" "thing" "I" ∈ wzX12_isCaught := List.mem_cons_of_mem _ (List.mem_append_left _ (List.mem_of_getElem? (i := 3) rfl))
theorem k_X12_isCaught_fieldLink_RX12_114_SRModel_catchKind_I : Cond.fieldLink RX12 114 "StatementRules2Model" "catchKind" "[I" ∈ wzX12_isCaught := List.mem_cons_of_mem _ (List.mem_append_left _ (List.mem_of_getElem? (i := 4) rfl))
theorem k_X12_isCaught_fieldLink_RX12_123_SRModel_catchNext_I : Cond.fieldLink RX12 123 "StatementRules2Model" "catchNext" "[I" ∈ wzX12_isCaught := List.mem_cons_of_mem _ (List.mem_append_left _ (List.mem_of_getElem? (i := 5) rfl))
theorem k_X12_isCaught_fieldLink_RX12_213_SRModel_vals_I : Cond.fieldLink RX12 213 "StatementRules2Model" "vals" "[I" ∈ wzX12_isCaught := List.mem_cons_of_mem _ (List.mem_append_left _ (List.mem_of_getElem? (i := 6) rfl))
theorem k_X12_isCaught_fieldLink_RX12_120_SRModel_catchSlot_I : Cond.fieldLink RX12 120 "StatementRules2Model" "catchSlot" "[I" ∈ wzX12_isCaught := List.mem_cons_of_mem _ (List.mem_append_left _ (List.mem_of_getElem? (i := 7) rfl))
theorem k_X12_isCaught_fieldLink_RX12_249_SRModel_rb_I : Cond.fieldLink RX12 249 "StatementRules2Model" "rb" "[I" ∈ wzX12_isCaught := List.mem_cons_of_mem _ (List.mem_append_left _ (List.mem_of_getElem? (i := 8) rfl))
theorem k_X12_isCaught_fieldLink_RX12_255_SRModel_rHigh_I : Cond.fieldLink RX12 255 "StatementRules2Model" "rHigh" "[I" ∈ wzX12_isCaught := List.mem_cons_of_mem _ (List.mem_append_left _ (List.mem_of_getElem? (i := 9) rfl))
theorem k_X12_isCaught_fieldLink_RX12_589_SRModel_high_I : Cond.fieldLink RX12 589 "StatementRules2Model" "high" "I" ∈ wzX12_isCaught := List.mem_cons_of_mem _ (List.mem_append_left _ (List.mem_of_getElem? (i := 10) rfl))
theorem k_X12_isCaught_fieldLink_RX12_117_SRModel_catchAt_I : Cond.fieldLink RX12 117 "StatementRules2Model" "catchAt" "[I" ∈ wzX12_isCaught := List.mem_cons_of_mem _ (List.mem_append_left _ (List.mem_of_getElem? (i := 11) rfl))
theorem k_X12_isCaught_fieldLink_RX12_618_SRModel_pc_I : Cond.fieldLink RX12 618 "StatementRules2Model" "pc" "I" ∈ wzX12_isCaught := List.mem_cons_of_mem _ (List.mem_append_left _ (List.mem_of_getElem? (i := 12) rfl))
set_option maxHeartbeats 4000000 in
set_option maxRecDepth 100000 in
theorem j_X12_isCaught_12 {p : Program} {e : Env} {s : State} {m : MethodId} {args : Array Value} {below : List Frame} {meth : Method} {c : Code} {A : Nat → Prop} (l : Launch) (dC : Nat → ClassId) (dI : Nat → Nat → Nat) (Q : RQ) (N : Nat) (R : Int32 × RS) (hx : p.tables.exec = Jvm.exec) (hb : c.code = cX12_isCaught) (hr : meth.sig.returnType = (some .boolean)) (hml : c.maxLocals = 3) (hown : s.vm.findClass RX12 = some m.cls) (hts : ∀ w ∈ wzX12_isCaught, w.before args s = true) (hlocks : meth.locks = false) (hZ : zAMB s) (hA : ∀ q : Nat, s.heap.size ≤ q → A q) (hK : va_K (dC, dI) vwCl (rT Q) s) : ∀ (n9 : Nat), ∀ (σ : RS) (x1 : Int32) (x2 : Int32) (H : Heap) (locs : List Loc) (ls : Array Slot), f_X12_isCaught_12 N n9 σ x1 x2 = some R → va_P (dC, dI) vwCl (rW Q σ) H → va_D A (rW Q σ) → va_S A s.heap H locs → lv_has ls 3 [(0, .ref Q.h0), (1, .int x1), (2, .int x2)] → W p l e ({ frames := 2, cells := 0, slots := 0, locals := 120 }) s m args below meth c H locs 0 0 (MQ below (va_Qi (fun (r : Int32) (_ : Unit) => r = R.1) (fun (_ : Unit) (t : State) => zPost dC dI A (rW Q R.2) (rT Q) t) A) args s 0 0 A) (F0 m 12 ls []) := by
  intro n9
  induction n9 with
  | zero => intro σ x1 x2 H locs ls hf; exact absurd hf (by intro h9; cases h9)
  | succ n9 ih =>
    intro σ x1 x2 H locs ls hf hP hD hS hl
    replace hf : b_X12_isCaught_12 N (f_X12_isCaught_12 N n9) σ x1 x2 = some R := hf
    unfold b_X12_isCaught_12 at hf
    refine lv_iload_n hx hb dX12_isCaught_12 rfl (lv_at hl 2 rfl) ?_
    refine lv_if_lt (tgt := 92) hx hb dX12_isCaught_13 (by decide) (fun c3 => ?_) (fun c3 => ?_)
    ·
      replace hf := (if_pos c3).symm.trans hf
      refine lv_iconst (v := 0) hx hb dX12_isCaught_92 (by decide) ?_
      obtain rfl := Option.some.inj hf
      exact W.zret (v := 0) hx hb hr (rfl) (fun t ht hW => ⟨⟨0, (), rfl, rfl, by rw [ht]; exact hP, va_K.moved hW.alike hK, hD⟩, hS.F ht⟩) hS.2.2 dX12_isCaught_93
    ·
      replace hf := (if_neg c3).symm.trans hf
      refine lv_aload_n hx hb dX12_isCaught_16 rfl (lv_at hl 0 rfl) ?_
      refine lv_aload_n hx hb dX12_isCaught_17 rfl (lv_at hl 0 rfl) ?_
      refine rG_86 hx hb hts i_X12_isCaught_X12 hown hK hP (hts (.fieldLink RX12 216 "StatementRules2Model" "thingKind" "[I") k_X12_isCaught_fieldLink_RX12_216_SRModel_thingKind_I) dX12_isCaught_18 ?_
      refine lv_aload_n hx hb dX12_isCaught_21 rfl (lv_at hl 0 rfl) ?_
      refine rG_114 (v := (σ.i 114)) hx hb hts i_X12_isCaught_X12 hown hK hP (hts (.fieldLink RX12 595 "StatementRules2Model" "thing" "I") k_X12_isCaught_fieldLink_RX12_595_SRModel_thing_I) dX12_isCaught_22 rfl ?_
      obtain ⟨b4, hf⟩ := hf_ite hf
      refine rL_86 (v := (σ.a 86 (((σ.i 114) : Int32).toNatClampNeg))) hx hb hK hP b4 dX12_isCaught_25 rfl ?_
      refine lv_aload_n hx hb dX12_isCaught_26 rfl (lv_at hl 0 rfl) ?_
      refine rG_34 hx hb hts i_X12_isCaught_X12 hown hK hP (hts (.fieldLink RX12 114 "StatementRules2Model" "catchKind" "[I") k_X12_isCaught_fieldLink_RX12_114_SRModel_catchKind_I) dX12_isCaught_27 ?_
      refine lv_iload_n hx hb dX12_isCaught_30 rfl (lv_at hl 2 rfl) ?_
      obtain ⟨b5, hf⟩ := hf_ite hf
      refine rL_34 (v := (σ.a 34 ((x2 : Int32).toNatClampNeg))) hx hb hK hP b5 dX12_isCaught_31 rfl ?_
      obtain ⟨p6, hcp6, hf⟩ := hf_bind hf
      have hFc := r_free hD hS hA
      refine va_calli (va_runV (As := [.int (σ.a 86 (((σ.i 114) : Int32).toNatClampNeg)), .int (σ.a 34 ((x2 : Int32).toNatClampNeg))]) (rest := []) ⟨hx, hb, hml, hown, hts⟩ (c_X12_isUnder l dC dI _ Q N σ (σ.a 86 (((σ.i 114) : Int32).toNatClampNeg)) (σ.a 34 ((x2 : Int32).toNatClampNeg)) p6 hcp6) (cwV 2 hts hX12_isCaught_X12_isUnder_v283 rfl rfl rfl (by decide +kernel) ⟨Nat.le_of_ble_eq_true rfl, Nat.le_of_ble_eq_true rfl⟩) ⟨zPre.blind, va_recv hK hP (ci := 11) (q0 := 0) rfl rfl, zPre.go hZ hP hK hD⟩ rfl rfl hl.1 rfl (lv_room (Nat.le_of_ble_eq_true rfl)) dX12_isCaught_32 ⟨Nat.le_of_ble_eq_true rfl, Nat.le_of_ble_eq_true rfl⟩) hS (fun q _ h => hFc q h) hFc (fun r7 u9 t9 H1 locs ht hvm hw hB hz1 hk1 hS => ?_)
      obtain ⟨hP, hK1, hD1⟩ := hB
      rw [ht] at hP
      have hD := hD1.weaken (fun _ _ _ h => hFc _ h)
      generalize H1 = H at hP hS ⊢
      obtain rfl : r7 = p6.1 := hw
      refine lv_if_eq (tgt := 82) hx hb dX12_isCaught_35 (by decide) (fun c8 => ?_) (fun c8 => ?_)
      ·
        replace hf := (if_pos c8).symm.trans hf
        refine lv_aload_n hx hb dX12_isCaught_82 rfl (lv_at hl 0 rfl) ?_
        refine rG_37 hx hb hts i_X12_isCaught_X12 hown hK hP (hts (.fieldLink RX12 123 "StatementRules2Model" "catchNext" "[I") k_X12_isCaught_fieldLink_RX12_123_SRModel_catchNext_I) dX12_isCaught_83 ?_
        refine lv_iload_n hx hb dX12_isCaught_86 rfl (lv_at hl 2 rfl) ?_
        refine rL_37 (v := (p6.2.a 37 ((x2 : Int32).toNatClampNeg))) hx hb hK hP b5 dX12_isCaught_87 rfl ?_
        refine lv_istore_n (lv' := [(2, .int (p6.2.a 37 ((x2 : Int32).toNatClampNeg))), (0, .ref Q.h0), (1, .int x1)]) hx hb dX12_isCaught_88 rfl hl (by decide) rfl (fun ls hl => ?_)
        refine lv_goto (tgt := 12) hx hb dX12_isCaught_89 (by decide) ?_
        exact ih p6.2 x1 (p6.2.a 37 ((x2 : Int32).toNatClampNeg)) _ _ _ hf hP hD hS (lv_sub hl [1, 2, 0] rfl)
      ·
        replace hf := (if_neg c8).symm.trans hf
        refine lv_aload_n hx hb dX12_isCaught_38 rfl (lv_at hl 0 rfl) ?_
        refine rG_84 hx hb hts i_X12_isCaught_X12 hown hK hP (hts (.fieldLink RX12 213 "StatementRules2Model" "vals" "[I") k_X12_isCaught_fieldLink_RX12_213_SRModel_vals_I) dX12_isCaught_39 ?_
        refine lv_aload_n hx hb dX12_isCaught_42 rfl (lv_at hl 0 rfl) ?_
        refine rG_36 hx hb hts i_X12_isCaught_X12 hown hK hP (hts (.fieldLink RX12 120 "StatementRules2Model" "catchSlot" "[I") k_X12_isCaught_fieldLink_RX12_120_SRModel_catchSlot_I) dX12_isCaught_43 ?_
        refine lv_iload_n hx hb dX12_isCaught_46 rfl (lv_at hl 2 rfl) ?_
        refine rL_36 (v := (p6.2.a 36 ((x2 : Int32).toNatClampNeg))) hx hb hK hP b5 dX12_isCaught_47 rfl ?_
        refine lv_aload_n hx hb dX12_isCaught_48 rfl (lv_at hl 0 rfl) ?_
        refine rG_114 (v := (p6.2.i 114)) hx hb hts i_X12_isCaught_X12 hown hK hP (hts (.fieldLink RX12 595 "StatementRules2Model" "thing" "I") k_X12_isCaught_fieldLink_RX12_595_SRModel_thing_I) dX12_isCaught_49 rfl ?_
        obtain ⟨b9, hf⟩ := hf_ite hf
        refine rS_84 hx hb hK hP hD hS b9 dX12_isCaught_52 (fun H locs hP hD hS => ?_)
        refine lv_aload_n hx hb dX12_isCaught_53 rfl (lv_at hl 0 rfl) ?_
        refine rG_102 hx hb hts i_X12_isCaught_X12 hown hK hP (hts (.fieldLink RX12 249 "StatementRules2Model" "rb" "[I") k_X12_isCaught_fieldLink_RX12_249_SRModel_rb_I) dX12_isCaught_54 ?_
        refine lv_iload_n hx hb dX12_isCaught_57 rfl (lv_at hl 1 rfl) ?_
        refine lv_iconst (v := 1) hx hb dX12_isCaught_58 (by decide) ?_
        obtain ⟨b10, hf⟩ := hf_ite hf
        refine rS_102 hx hb hK hP hD hS b10 dX12_isCaught_59 (fun H locs hP hD hS => ?_)
        refine lv_aload_n hx hb dX12_isCaught_60 rfl (lv_at hl 0 rfl) ?_
        refine lv_aload_n hx hb dX12_isCaught_61 rfl (lv_at hl 0 rfl) ?_
        refine rG_104 hx hb hts i_X12_isCaught_X12 hown hK hP (hts (.fieldLink RX12 255 "StatementRules2Model" "rHigh" "[I") k_X12_isCaught_fieldLink_RX12_255_SRModel_rHigh_I) dX12_isCaught_62 ?_
        refine lv_iload_n hx hb dX12_isCaught_65 rfl (lv_at hl 1 rfl) ?_
        refine rL_104 (v := (p6.2.a 104 ((x1 : Int32).toNatClampNeg))) hx hb hK hP b10 dX12_isCaught_66 rfl ?_
        refine rP_93 hx hb hts i_X12_isCaught_X12 hown hK hP hD hS (hts (.fieldLink RX12 589 "StatementRules2Model" "high" "I") k_X12_isCaught_fieldLink_RX12_589_SRModel_high_I) dX12_isCaught_67 (fun H locs hP hD hS => ?_)
        refine lv_aload_n hx hb dX12_isCaught_70 rfl (lv_at hl 0 rfl) ?_
        refine lv_aload_n hx hb dX12_isCaught_71 rfl (lv_at hl 0 rfl) ?_
        refine rG_35 hx hb hts i_X12_isCaught_X12 hown hK hP (hts (.fieldLink RX12 117 "StatementRules2Model" "catchAt" "[I") k_X12_isCaught_fieldLink_RX12_117_SRModel_catchAt_I) dX12_isCaught_72 ?_
        refine lv_iload_n hx hb dX12_isCaught_75 rfl (lv_at hl 2 rfl) ?_
        refine rL_35 (v := (p6.2.a 35 ((x2 : Int32).toNatClampNeg))) hx hb hK hP b5 dX12_isCaught_76 rfl ?_
        refine rP_92 hx hb hts i_X12_isCaught_X12 hown hK hP hD hS (hts (.fieldLink RX12 618 "StatementRules2Model" "pc" "I") k_X12_isCaught_fieldLink_RX12_618_SRModel_pc_I) dX12_isCaught_77 (fun H locs hP hD hS => ?_)
        refine lv_iconst (v := 1) hx hb dX12_isCaught_80 (by decide) ?_
        obtain rfl := Option.some.inj hf
        exact W.zret (v := 1) hx hb hr (rfl) (fun t ht hW => ⟨⟨1, (), rfl, rfl, by rw [ht]; exact hP, va_K.moved hW.alike hK, hD⟩, hS.F ht⟩) hS.2.2 dX12_isCaught_81
set_option maxHeartbeats 4000000 in
set_option maxRecDepth 100000 in
theorem c_X12_isCaught (l : Launch) (dC : Nat → ClassId) (dI : Nat → Nat → Nat) (sz : Nat) (Q : RQ) (N : Nat) (σ : RS) (x1 : Int32) (R : Int32 × RS) (hf : f_X12_isCaught N σ x1 = some R) : Met l yX12_isCaught wzX12_isCaught ({ frames := 2, cells := 0, slots := 0, locals := 120 }) (va_Pc [.ref Q.h0, .int x1] (zPre dC dI sz (rW Q σ) (rT Q))) (va_Qi (fun (r : Int32) (_ : Unit) => r = R.1) (fun (_ : Unit) (t : State) => zPost dC dI (va_A (rW Q σ) sz) (rW Q R.2) (rT Q) t) (va_A (rW Q σ) sz)) 0 0 (va_A (rW Q σ) sz) := by
  refine Met.ofW (cc := cX12_isCaught) (maxL := 3) (ret := (some .boolean)) (by decide) rfl ?_
  intro p e s m args below meth c s₁ B hml hv
  obtain ⟨rfl, hsz, hZ, hP, hK, hD0⟩ := hv
  have hx := B.exec
  have hb := B.bytes
  have hr := B.returns
  have hts := atoms_spec (ws := wzX12_isCaught) B.pre
  have hown : s.vm.findClass RX12 = some m.cls := findClass_of_methodNamed B.named
  have hlocks := B.notSynchronized
  subst hsz
  have hD := hD0.self (sz := s.heap.size)
  generalize hAe : va_A (rW Q σ) s.heap.size = A at hD ⊢
  have hA : ∀ q : Nat, s.heap.size ≤ q → A q := fun q h => by rw [← hAe]; exact Or.inr h
  have hS : va_S A s.heap s.heap [] := va_S.rf
  have hl := lv_entry ([.ref Q.h0, .int x1]) (n := 3) (Nat.le_of_ble_eq_true rfl)
  rw [lg_entry_eq]
  generalize (lg_sl ([.ref Q.h0, .int x1]) ++ List.replicate (3 - (lg_sl ([.ref Q.h0, .int x1])).length) Slot.unset).toArray = ls at hl ⊢
  have hl : lv_has ls 3 [(0, .ref Q.h0), (1, .int x1)] := hl
  unfold f_X12_isCaught at hf
  refine lv_aload_n hx hb dX12_isCaught_0 rfl (lv_at hl 0 rfl) ?_
  refine rG_30 hx hb hts i_X12_isCaught_X12 hown hK hP (hts (.fieldLink RX12 105 "StatementRules2Model" "tryCatch" "[I") k_X12_isCaught_fieldLink_RX12_105_SRModel_tryCatch_I) dX12_isCaught_1 ?_
  refine lv_aload_n hx hb dX12_isCaught_4 rfl (lv_at hl 0 rfl) ?_
  refine rG_101 hx hb hts i_X12_isCaught_X12 hown hK hP (hts (.fieldLink RX12 246 "StatementRules2Model" "ra" "[I") k_X12_isCaught_fieldLink_RX12_246_SRModel_ra_I) dX12_isCaught_5 ?_
  refine lv_iload_n hx hb dX12_isCaught_8 rfl (lv_at hl 1 rfl) ?_
  obtain ⟨b1, hf⟩ := hf_ite hf
  refine rL_101 (v := (σ.a 101 ((x1 : Int32).toNatClampNeg))) hx hb hK hP b1 dX12_isCaught_9 rfl ?_
  obtain ⟨b2, hf⟩ := hf_ite hf
  refine rL_30 (v := (σ.a 30 (((σ.a 101 ((x1 : Int32).toNatClampNeg)) : Int32).toNatClampNeg))) hx hb hK hP b2 dX12_isCaught_10 rfl ?_
  refine lv_istore_n (lv' := [(2, .int (σ.a 30 (((σ.a 101 ((x1 : Int32).toNatClampNeg)) : Int32).toNatClampNeg))), (0, .ref Q.h0), (1, .int x1)]) hx hb dX12_isCaught_11 rfl hl (by decide) rfl (fun ls hl => ?_)
  exact j_X12_isCaught_12 l dC dI Q N R hx hb hr hml hown hts hlocks hZ hA hK N σ x1 (σ.a 30 (((σ.a 101 ((x1 : Int32).toNatClampNeg)) : Int32).toNatClampNeg)) _ _ _ hf hP hD hS (lv_sub hl [1, 2, 0] rfl)
theorem k_X12_leave_fieldLink_RX12_586_SRModel_recs_I : Cond.fieldLink RX12 586 "StatementRules2Model" "recs" "I" ∈ wzX12_leave := List.mem_cons_of_mem _ (List.mem_append_left _ (List.mem_of_getElem? (i := 0) rfl))
theorem i_X12_leave_X12 : ∀ w ∈ wsX120, w ∈ wzX12_leave := fun _ h => List.mem_cons_of_mem _ (List.mem_append_right _ (List.mem_append_left _ (h)))
theorem k_X12_leave_fieldLink_RX12_597_SRModel_how_I : Cond.fieldLink RX12 597 "StatementRules2Model" "how" "I" ∈ wzX12_leave := List.mem_cons_of_mem _ (List.mem_append_left _ (List.mem_of_getElem? (i := 1) rfl))
theorem k_X12_leave_fieldLink_RX12_612_SRModel_goDepth_I : Cond.fieldLink RX12 612 "StatementRules2Model" "goDepth" "I" ∈ wzX12_leave := List.mem_cons_of_mem _ (List.mem_append_left _ (List.mem_of_getElem? (i := 2) rfl))
theorem k_X12_leave_fieldLink_RX12_609_SRModel_goTo_I : Cond.fieldLink RX12 609 "StatementRules2Model" "goTo" "I" ∈ wzX12_leave := List.mem_cons_of_mem _ (List.mem_append_left _ (List.mem_of_getElem? (i := 3) rfl))
theorem k_X12_leave_fieldLink_RX12_618_SRModel_pc_I : Cond.fieldLink RX12 618 "StatementRules2Model" "pc" "I" ∈ wzX12_leave := List.mem_cons_of_mem _ (List.mem_append_left _ (List.mem_of_getElem? (i := 4) rfl))
theorem k_X12_leave_fieldLink_RX12_243_SRModel_rk_I : Cond.fieldLink RX12 243 "StatementRules2Model" "rk" "[I" ∈ wzX12_leave := List.mem_cons_of_mem _ (List.mem_append_left _ (List.mem_of_getElem? (i := 5) rfl))
theorem k_X12_leave_fieldLink_RX12_249_SRModel_rb_I : Cond.fieldLink RX12 249 "StatementRules2Model" "rb" "[I" ∈ wzX12_leave := List.mem_cons_of_mem _ (List.mem_append_left _ (List.mem_of_getElem? (i := 6) rfl))
theorem k_X12_leave_fieldLink_RX12_246_SRModel_ra_I : Cond.fieldLink RX12 246 "StatementRules2Model" "ra" "[I" ∈ wzX12_leave := List.mem_cons_of_mem _ (List.mem_append_left _ (List.mem_of_getElem? (i := 7) rfl))
theorem k_X12_leave_fieldLink_RX12_621_SRModel_waiting_I : Cond.fieldLink RX12 621 "StatementRules2Model" "waiting" "I" ∈ wzX12_leave := List.mem_cons_of_mem _ (List.mem_append_left _ (List.mem_of_getElem? (i := 8) rfl))
theorem k_X12_leave_fieldLink_RX12_231_SRModel_held_I : Cond.fieldLink RX12 231 "StatementRules2Model" "held" "[I" ∈ wzX12_leave := List.mem_cons_of_mem _ (List.mem_append_left _ (List.mem_of_getElem? (i := 9) rfl))
theorem k_X12_leave_fieldLink_RX12_636_SRModel_ended_I : Cond.fieldLink RX12 636 "StatementRules2Model" "ended" "I" ∈ wzX12_leave := List.mem_cons_of_mem _ (List.mem_append_left _ (List.mem_of_getElem? (i := 10) rfl))
theorem k_X12_leave_fieldLink_RX12_255_SRModel_rHigh_I : Cond.fieldLink RX12 255 "StatementRules2Model" "rHigh" "[I" ∈ wzX12_leave := List.mem_cons_of_mem _ (List.mem_append_left _ (List.mem_of_getElem? (i := 11) rfl))
theorem k_X12_leave_fieldLink_RX12_589_SRModel_high_I : Cond.fieldLink RX12 589 "StatementRules2Model" "high" "I" ∈ wzX12_leave := List.mem_cons_of_mem _ (List.mem_append_left _ (List.mem_of_getElem? (i := 12) rfl))
theorem k_X12_leave_fieldLink_RX12_615_SRModel_value_I : Cond.fieldLink RX12 615 "StatementRules2Model" "value" "I" ∈ wzX12_leave := List.mem_cons_of_mem _ (List.mem_append_left _ (List.mem_of_getElem? (i := 13) rfl))
theorem k_X12_leave_fieldLink_RX12_90_SRModel_iy_I : Cond.fieldLink RX12 90 "StatementRules2Model" "iy" "[I" ∈ wzX12_leave := List.mem_cons_of_mem _ (List.mem_append_left _ (List.mem_of_getElem? (i := 14) rfl))
set_option maxHeartbeats 4000000 in
set_option maxRecDepth 100000 in
theorem j_X12_leave_0 {p : Program} {e : Env} {s : State} {m : MethodId} {args : Array Value} {below : List Frame} {meth : Method} {c : Code} {A : Nat → Prop} (l : Launch) (dC : Nat → ClassId) (dI : Nat → Nat → Nat) (Q : RQ) (N : Nat) (R : RS) (hx : p.tables.exec = Jvm.exec) (hb : c.code = cX12_leave) (hr : meth.sig.returnType = none) (hml : c.maxLocals = 2) (hown : s.vm.findClass RX12 = some m.cls) (hts : ∀ w ∈ wzX12_leave, w.before args s = true) (hlocks : meth.locks = false) (hZ : zAMB s) (hA : ∀ q : Nat, s.heap.size ≤ q → A q) (hK : va_K (dC, dI) vwCl (rT Q) s) : ∀ (n9 : Nat), ∀ (σ : RS) (H : Heap) (locs : List Loc) (ls : Array Slot), f_X12_leave_0 N n9 σ = some R → va_P (dC, dI) vwCl (rW Q σ) H → va_D A (rW Q σ) → va_S A s.heap H locs → lv_has ls 2 [(0, .ref Q.h0)] → W p l e ({ frames := 3, cells := 0, slots := 0, locals := 180 }) s m args below meth c H locs 0 0 (MQ below (va_Qv (fun (_ : Unit) => True) (fun (_ : Unit) (t : State) => zPost dC dI A (rW Q R) (rT Q) t) A) args s 0 0 A) (F0 m 0 ls []) := by
  intro n9
  induction n9 with
  | zero => intro σ  H locs ls hf; exact absurd hf (by intro h9; cases h9)
  | succ n9 ih =>
    intro σ  H locs ls hf hP hD hS hl
    replace hf : b_X12_leave_0 N (f_X12_leave_0 N n9) σ  = some R := hf
    unfold b_X12_leave_0 at hf
    refine lv_aload_n hx hb dX12_leave_0 rfl (lv_at hl 0 rfl) ?_
    refine rG_99 (v := (σ.i 99)) hx hb hts i_X12_leave_X12 hown hK hP (hts (.fieldLink RX12 586 "StatementRules2Model" "recs" "I") k_X12_leave_fieldLink_RX12_586_SRModel_recs_I) dX12_leave_1 rfl ?_
    refine lv_aload_n hx hb dX12_leave_4 rfl (lv_at hl 0 rfl) ?_
    refine rG_110 (v := (σ.i 110)) hx hb hts i_X12_leave_X12 hown hK hP (hts (.fieldLink RX12 597 "StatementRules2Model" "how" "I") k_X12_leave_fieldLink_RX12_597_SRModel_how_I) dX12_leave_5 rfl ?_
    refine lv_iconst (v := 1) hx hb dX12_leave_8 (by decide) ?_
    refine lv_icmp_eq (tgt := 20) hx hb dX12_leave_9 (by decide) (fun c1 => ?_) (fun c1 => ?_)
    ·
      replace hf := (if_pos c1).symm.trans hf
      refine lv_aload_n hx hb dX12_leave_20 rfl (lv_at hl 0 rfl) ?_
      refine rG_112 (v := (σ.i 112)) hx hb hts i_X12_leave_X12 hown hK hP (hts (.fieldLink RX12 612 "StatementRules2Model" "goDepth" "I") k_X12_leave_fieldLink_RX12_612_SRModel_goDepth_I) dX12_leave_21 rfl ?_
      refine lv_goto (tgt := 28) hx hb dX12_leave_24 (by decide) ?_
      refine lv_icmp_le (tgt := 173) hx hb dX12_leave_28 (by decide) (fun c2 => ?_) (fun c2 => ?_)
      ·
        replace hf := (if_pos c2).symm.trans hf
        refine lv_aload_n hx hb dX12_leave_173 rfl (lv_at hl 0 rfl) ?_
        refine rG_110 (v := (σ.i 110)) hx hb hts i_X12_leave_X12 hown hK hP (hts (.fieldLink RX12 597 "StatementRules2Model" "how" "I") k_X12_leave_fieldLink_RX12_597_SRModel_how_I) dX12_leave_174 rfl ?_
        refine lv_iconst (v := 1) hx hb dX12_leave_177 (by decide) ?_
        refine lv_icmp_ne (tgt := 192) hx hb dX12_leave_178 (by decide) (fun c9 => absurd c1 c9) (fun _ => ?_)
        refine lv_aload_n hx hb dX12_leave_181 rfl (lv_at hl 0 rfl) ?_
        refine lv_aload_n hx hb dX12_leave_182 rfl (lv_at hl 0 rfl) ?_
        refine rG_111 (v := (σ.i 111)) hx hb hts i_X12_leave_X12 hown hK hP (hts (.fieldLink RX12 609 "StatementRules2Model" "goTo" "I") k_X12_leave_fieldLink_RX12_609_SRModel_goTo_I) dX12_leave_183 rfl ?_
        refine rP_92 hx hb hts i_X12_leave_X12 hown hK hP hD hS (hts (.fieldLink RX12 618 "StatementRules2Model" "pc" "I") k_X12_leave_fieldLink_RX12_618_SRModel_pc_I) dX12_leave_186 (fun H locs hP hD hS => ?_)
        refine lv_goto (tgt := 265) hx hb dX12_leave_189 (by decide) ?_
        obtain rfl := Option.some.inj hf
        exact W.vret hx hb hr (fun t ht hW => ⟨⟨(), rfl, trivial, by rw [ht]; exact hP, va_K.moved hW.alike hK, hD⟩, hS.F ht⟩) hS.2.2 dX12_leave_265
      ·
        replace hf := (if_neg c2).symm.trans hf
        refine lv_aload_n hx hb dX12_leave_31 rfl (lv_at hl 0 rfl) ?_
        refine rG_99 (v := (σ.i 99)) hx hb hts i_X12_leave_X12 hown hK hP (hts (.fieldLink RX12 586 "StatementRules2Model" "recs" "I") k_X12_leave_fieldLink_RX12_586_SRModel_recs_I) dX12_leave_32 rfl ?_
        refine lv_iconst (v := 1) hx hb dX12_leave_35 (by decide) ?_
        refine lv_isub hx hb dX12_leave_36 ?_
        refine lv_istore_n (lv' := [(1, .int ((σ.i 99) - 1)), (0, .ref Q.h0)]) hx hb dX12_leave_37 rfl hl (by decide) rfl (fun ls hl => ?_)
        refine lv_aload_n hx hb dX12_leave_38 rfl (lv_at hl 1 rfl) ?_
        refine rG_100 hx hb hts i_X12_leave_X12 hown hK hP (hts (.fieldLink RX12 243 "StatementRules2Model" "rk" "[I") k_X12_leave_fieldLink_RX12_243_SRModel_rk_I) dX12_leave_39 ?_
        refine lv_iload_n hx hb dX12_leave_42 rfl (lv_at hl 0 rfl) ?_
        obtain ⟨b4, hf⟩ := hf_ite hf
        refine rL_100 (v := (σ.a 100 ((((σ.i 99) - 1) : Int32).toNatClampNeg))) hx hb hK hP b4 dX12_leave_43 rfl ?_
        refine lv_iconst (v := 1) hx hb dX12_leave_44 (by decide) ?_
        refine lv_icmp_ne (tgt := 77) hx hb dX12_leave_45 (by decide) (fun c5 => ?_) (fun c5 => ?_)
        ·
          replace hf := (if_neg c5).symm.trans hf
          refine lv_aload_n hx hb dX12_leave_77 rfl (lv_at hl 1 rfl) ?_
          refine rG_100 hx hb hts i_X12_leave_X12 hown hK hP (hts (.fieldLink RX12 243 "StatementRules2Model" "rk" "[I") k_X12_leave_fieldLink_RX12_243_SRModel_rk_I) dX12_leave_78 ?_
          refine lv_iload_n hx hb dX12_leave_81 rfl (lv_at hl 0 rfl) ?_
          refine rL_100 (v := (σ.a 100 ((((σ.i 99) - 1) : Int32).toNatClampNeg))) hx hb hK hP b4 dX12_leave_82 rfl ?_
          refine lv_iconst (v := 2) hx hb dX12_leave_83 (by decide) ?_
          refine lv_icmp_ne (tgt := 100) hx hb dX12_leave_84 (by decide) (fun c6 => ?_) (fun c6 => ?_)
          ·
            replace hf := (if_neg c6).symm.trans hf
            refine lv_aload_n hx hb dX12_leave_100 rfl (lv_at hl 1 rfl) ?_
            refine rG_100 hx hb hts i_X12_leave_X12 hown hK hP (hts (.fieldLink RX12 243 "StatementRules2Model" "rk" "[I") k_X12_leave_fieldLink_RX12_243_SRModel_rk_I) dX12_leave_101 ?_
            refine lv_iload_n hx hb dX12_leave_104 rfl (lv_at hl 0 rfl) ?_
            refine rL_100 (v := (σ.a 100 ((((σ.i 99) - 1) : Int32).toNatClampNeg))) hx hb hK hP b4 dX12_leave_105 rfl ?_
            refine lv_iconst (v := 4) hx hb dX12_leave_106 (by decide) ?_
            refine lv_icmp_ne (tgt := 160) hx hb dX12_leave_107 (by decide) (fun c7 => ?_) (fun c7 => ?_)
            ·
              replace hf := (if_neg c7).symm.trans hf
              refine lv_aload_n hx hb dX12_leave_160 rfl (lv_at hl 1 rfl) ?_
              refine lv_dup hx hb dX12_leave_161 rfl ?_
              refine rG_99 (v := (σ.i 99)) hx hb hts i_X12_leave_X12 hown hK hP (hts (.fieldLink RX12 586 "StatementRules2Model" "recs" "I") k_X12_leave_fieldLink_RX12_586_SRModel_recs_I) dX12_leave_162 rfl ?_
              refine lv_iconst (v := 1) hx hb dX12_leave_165 (by decide) ?_
              refine lv_isub hx hb dX12_leave_166 ?_
              refine rP_99 hx hb hts i_X12_leave_X12 hown hK hP hD hS (hts (.fieldLink RX12 586 "StatementRules2Model" "recs" "I") k_X12_leave_fieldLink_RX12_586_SRModel_recs_I) dX12_leave_167 (fun H locs hP hD hS => ?_)
              refine lv_goto (tgt := 0) hx hb dX12_leave_170 (by decide) ?_
              exact ih (RS.setI σ 99 ((σ.i 99) - 1)) _ _ _ hf hP hD hS (lv_sub hl [1] rfl)
            ·
              replace hf := (if_pos c7).symm.trans hf
              refine lv_aload_n hx hb dX12_leave_110 rfl (lv_at hl 1 rfl) ?_
              refine rG_102 hx hb hts i_X12_leave_X12 hown hK hP (hts (.fieldLink RX12 249 "StatementRules2Model" "rb" "[I") k_X12_leave_fieldLink_RX12_249_SRModel_rb_I) dX12_leave_111 ?_
              refine lv_iload_n hx hb dX12_leave_114 rfl (lv_at hl 0 rfl) ?_
              refine rL_102 (v := (σ.a 102 ((((σ.i 99) - 1) : Int32).toNatClampNeg))) hx hb hK hP b4 dX12_leave_115 rfl ?_
              refine lv_if_ne (tgt := 141) hx hb dX12_leave_116 (by decide) (fun c8 => ?_) (fun c8 => ?_)
              ·
                replace hf := (if_neg c8).symm.trans hf
                refine lv_aload_n hx hb dX12_leave_141 rfl (lv_at hl 1 rfl) ?_
                refine rG_102 hx hb hts i_X12_leave_X12 hown hK hP (hts (.fieldLink RX12 249 "StatementRules2Model" "rb" "[I") k_X12_leave_fieldLink_RX12_249_SRModel_rb_I) dX12_leave_142 ?_
                refine lv_iload_n hx hb dX12_leave_145 rfl (lv_at hl 0 rfl) ?_
                refine rL_102 (v := (σ.a 102 ((((σ.i 99) - 1) : Int32).toNatClampNeg))) hx hb hK hP b4 dX12_leave_146 rfl ?_
                refine lv_iconst (v := 2) hx hb dX12_leave_147 (by decide) ?_
                refine lv_icmp_ge (tgt := 160) hx hb dX12_leave_148 (by decide) (fun c9 => ?_) (fun c9 => ?_)
                ·
                  replace hf := (if_pos c9).symm.trans hf
                  refine lv_aload_n hx hb dX12_leave_160 rfl (lv_at hl 1 rfl) ?_
                  refine lv_dup hx hb dX12_leave_161 rfl ?_
                  refine rG_99 (v := (σ.i 99)) hx hb hts i_X12_leave_X12 hown hK hP (hts (.fieldLink RX12 586 "StatementRules2Model" "recs" "I") k_X12_leave_fieldLink_RX12_586_SRModel_recs_I) dX12_leave_162 rfl ?_
                  refine lv_iconst (v := 1) hx hb dX12_leave_165 (by decide) ?_
                  refine lv_isub hx hb dX12_leave_166 ?_
                  refine rP_99 hx hb hts i_X12_leave_X12 hown hK hP hD hS (hts (.fieldLink RX12 586 "StatementRules2Model" "recs" "I") k_X12_leave_fieldLink_RX12_586_SRModel_recs_I) dX12_leave_167 (fun H locs hP hD hS => ?_)
                  refine lv_goto (tgt := 0) hx hb dX12_leave_170 (by decide) ?_
                  exact ih (RS.setI σ 99 ((σ.i 99) - 1)) _ _ _ hf hP hD hS (lv_sub hl [1] rfl)
                ·
                  replace hf := (if_neg c9).symm.trans hf
                  refine lv_aload_n hx hb dX12_leave_151 rfl (lv_at hl 1 rfl) ?_
                  refine lv_iload_n hx hb dX12_leave_152 rfl (lv_at hl 0 rfl) ?_
                  obtain ⟨p10, hcp10, hf⟩ := hf_bind hf
                  have hFc := r_free hD hS hA
                  refine va_calli (va_runV (As := [.int ((σ.i 99) - 1)]) (rest := []) ⟨hx, hb, hml, hown, hts⟩ (c_X12_finals l dC dI _ Q N σ ((σ.i 99) - 1) p10 hcp10) (cwV 1 hts hX12_leave_X12_finals_v630 rfl rfl rfl (by decide +kernel) ⟨Nat.le_of_ble_eq_true rfl, Nat.le_of_ble_eq_true rfl⟩) ⟨zPre.blind, va_recv hK hP (ci := 11) (q0 := 0) rfl rfl, zPre.go hZ hP hK hD⟩ rfl rfl hl.1 rfl (lv_room (Nat.le_of_ble_eq_true rfl)) dX12_leave_153 ⟨Nat.le_of_ble_eq_true rfl, Nat.le_of_ble_eq_true rfl⟩) hS (fun q _ h => hFc q h) hFc (fun r11 u9 t9 H1 locs ht hvm hw hB hz1 hk1 hS => ?_)
                  obtain ⟨hP, hK1, hD1⟩ := hB
                  rw [ht] at hP
                  have hD := hD1.weaken (fun _ _ _ h => hFc _ h)
                  generalize H1 = H at hP hS ⊢
                  obtain rfl : r11 = p10.1 := hw
                  refine lv_if_eq (tgt := 160) hx hb dX12_leave_156 (by decide) (fun c12 => ?_) (fun c12 => ?_)
                  ·
                    replace hf := (if_pos c12).symm.trans hf
                    refine lv_aload_n hx hb dX12_leave_160 rfl (lv_at hl 1 rfl) ?_
                    refine lv_dup hx hb dX12_leave_161 rfl ?_
                    refine rG_99 (v := (p10.2.i 99)) hx hb hts i_X12_leave_X12 hown hK hP (hts (.fieldLink RX12 586 "StatementRules2Model" "recs" "I") k_X12_leave_fieldLink_RX12_586_SRModel_recs_I) dX12_leave_162 rfl ?_
                    refine lv_iconst (v := 1) hx hb dX12_leave_165 (by decide) ?_
                    refine lv_isub hx hb dX12_leave_166 ?_
                    refine rP_99 hx hb hts i_X12_leave_X12 hown hK hP hD hS (hts (.fieldLink RX12 586 "StatementRules2Model" "recs" "I") k_X12_leave_fieldLink_RX12_586_SRModel_recs_I) dX12_leave_167 (fun H locs hP hD hS => ?_)
                    refine lv_goto (tgt := 0) hx hb dX12_leave_170 (by decide) ?_
                    exact ih (RS.setI p10.2 99 ((p10.2.i 99) - 1)) _ _ _ hf hP hD hS (lv_sub hl [1] rfl)
                  ·
                    replace hf := (if_neg c12).symm.trans hf
                    obtain rfl := Option.some.inj hf
                    exact W.vret hx hb hr (fun t ht hW => ⟨⟨(), rfl, trivial, by rw [ht]; exact hP, va_K.moved hW.alike hK, hD⟩, hS.F ht⟩) hS.2.2 dX12_leave_159
              ·
                replace hf := (if_pos c8).symm.trans hf
                refine lv_aload_n hx hb dX12_leave_119 rfl (lv_at hl 1 rfl) ?_
                refine lv_iload_n hx hb dX12_leave_120 rfl (lv_at hl 0 rfl) ?_
                obtain ⟨p13, hcp13, hf⟩ := hf_bind hf
                have hFc := r_free hD hS hA
                refine va_callv (va_runV (As := [.int ((σ.i 99) - 1)]) (rest := []) ⟨hx, hb, hml, hown, hts⟩ (c_X12_closeAll l dC dI _ Q N σ ((σ.i 99) - 1) p13 hcp13) (cwV 1 hts hX12_leave_X12_closeAll_v624 rfl rfl rfl (by decide +kernel) ⟨Nat.le_of_ble_eq_true rfl, Nat.le_of_ble_eq_true rfl⟩) ⟨zPre.blind, va_recv hK hP (ci := 11) (q0 := 0) rfl rfl, zPre.go hZ hP hK hD⟩ rfl rfl hl.1 rfl (lv_room (Nat.le_of_ble_eq_true rfl)) dX12_leave_121 ⟨Nat.le_of_ble_eq_true rfl, Nat.le_of_ble_eq_true rfl⟩) hS (fun q _ h => hFc q h) hFc (fun u9 t9 H1 locs ht hvm hw hB hz1 hk1 hS => ?_)
                obtain ⟨hP, hK1, hD1⟩ := hB
                rw [ht] at hP
                have hD := hD1.weaken (fun _ _ _ h => hFc _ h)
                generalize H1 = H at hP hS ⊢
                refine lv_aload_n hx hb dX12_leave_124 rfl (lv_at hl 1 rfl) ?_
                refine rG_110 (v := (p13.i 110)) hx hb hts i_X12_leave_X12 hown hK hP (hts (.fieldLink RX12 597 "StatementRules2Model" "how" "I") k_X12_leave_fieldLink_RX12_597_SRModel_how_I) dX12_leave_125 rfl ?_
                refine lv_iconst (v := 3) hx hb dX12_leave_128 (by decide) ?_
                refine lv_icmp_ne (tgt := 141) hx hb dX12_leave_129 (by decide) (fun c15 => ?_) (fun c15 => ?_)
                ·
                  replace hf := (if_neg c15).symm.trans hf
                  refine lv_aload_n hx hb dX12_leave_141 rfl (lv_at hl 1 rfl) ?_
                  refine rG_102 hx hb hts i_X12_leave_X12 hown hK hP (hts (.fieldLink RX12 249 "StatementRules2Model" "rb" "[I") k_X12_leave_fieldLink_RX12_249_SRModel_rb_I) dX12_leave_142 ?_
                  refine lv_iload_n hx hb dX12_leave_145 rfl (lv_at hl 0 rfl) ?_
                  refine rL_102 (v := (p13.a 102 ((((σ.i 99) - 1) : Int32).toNatClampNeg))) hx hb hK hP b4 dX12_leave_146 rfl ?_
                  refine lv_iconst (v := 2) hx hb dX12_leave_147 (by decide) ?_
                  refine lv_icmp_ge (tgt := 160) hx hb dX12_leave_148 (by decide) (fun c16 => ?_) (fun c16 => ?_)
                  ·
                    replace hf := (if_pos c16).symm.trans hf
                    refine lv_aload_n hx hb dX12_leave_160 rfl (lv_at hl 1 rfl) ?_
                    refine lv_dup hx hb dX12_leave_161 rfl ?_
                    refine rG_99 (v := (p13.i 99)) hx hb hts i_X12_leave_X12 hown hK hP (hts (.fieldLink RX12 586 "StatementRules2Model" "recs" "I") k_X12_leave_fieldLink_RX12_586_SRModel_recs_I) dX12_leave_162 rfl ?_
                    refine lv_iconst (v := 1) hx hb dX12_leave_165 (by decide) ?_
                    refine lv_isub hx hb dX12_leave_166 ?_
                    refine rP_99 hx hb hts i_X12_leave_X12 hown hK hP hD hS (hts (.fieldLink RX12 586 "StatementRules2Model" "recs" "I") k_X12_leave_fieldLink_RX12_586_SRModel_recs_I) dX12_leave_167 (fun H locs hP hD hS => ?_)
                    refine lv_goto (tgt := 0) hx hb dX12_leave_170 (by decide) ?_
                    exact ih (RS.setI p13 99 ((p13.i 99) - 1)) _ _ _ hf hP hD hS (lv_sub hl [1] rfl)
                  ·
                    replace hf := (if_neg c16).symm.trans hf
                    refine lv_aload_n hx hb dX12_leave_151 rfl (lv_at hl 1 rfl) ?_
                    refine lv_iload_n hx hb dX12_leave_152 rfl (lv_at hl 0 rfl) ?_
                    obtain ⟨p17, hcp17, hf⟩ := hf_bind hf
                    have hFc := r_free hD hS hA
                    refine va_calli (va_runV (As := [.int ((σ.i 99) - 1)]) (rest := []) ⟨hx, hb, hml, hown, hts⟩ (c_X12_finals l dC dI _ Q N p13 ((σ.i 99) - 1) p17 hcp17) (cwV 1 hts hX12_leave_X12_finals_v630 rfl rfl rfl (by decide +kernel) ⟨Nat.le_of_ble_eq_true rfl, Nat.le_of_ble_eq_true rfl⟩) ⟨zPre.blind, va_recv hK hP (ci := 11) (q0 := 0) rfl rfl, zPre.go hZ hP hK hD⟩ rfl rfl hl.1 rfl (lv_room (Nat.le_of_ble_eq_true rfl)) dX12_leave_153 ⟨Nat.le_of_ble_eq_true rfl, Nat.le_of_ble_eq_true rfl⟩) hS (fun q _ h => hFc q h) hFc (fun r18 u9 t9 H1 locs ht hvm hw hB hz1 hk1 hS => ?_)
                    obtain ⟨hP, hK1, hD1⟩ := hB
                    rw [ht] at hP
                    have hD := hD1.weaken (fun _ _ _ h => hFc _ h)
                    generalize H1 = H at hP hS ⊢
                    obtain rfl : r18 = p17.1 := hw
                    refine lv_if_eq (tgt := 160) hx hb dX12_leave_156 (by decide) (fun c19 => ?_) (fun c19 => ?_)
                    ·
                      replace hf := (if_pos c19).symm.trans hf
                      refine lv_aload_n hx hb dX12_leave_160 rfl (lv_at hl 1 rfl) ?_
                      refine lv_dup hx hb dX12_leave_161 rfl ?_
                      refine rG_99 (v := (p17.2.i 99)) hx hb hts i_X12_leave_X12 hown hK hP (hts (.fieldLink RX12 586 "StatementRules2Model" "recs" "I") k_X12_leave_fieldLink_RX12_586_SRModel_recs_I) dX12_leave_162 rfl ?_
                      refine lv_iconst (v := 1) hx hb dX12_leave_165 (by decide) ?_
                      refine lv_isub hx hb dX12_leave_166 ?_
                      refine rP_99 hx hb hts i_X12_leave_X12 hown hK hP hD hS (hts (.fieldLink RX12 586 "StatementRules2Model" "recs" "I") k_X12_leave_fieldLink_RX12_586_SRModel_recs_I) dX12_leave_167 (fun H locs hP hD hS => ?_)
                      refine lv_goto (tgt := 0) hx hb dX12_leave_170 (by decide) ?_
                      exact ih (RS.setI p17.2 99 ((p17.2.i 99) - 1)) _ _ _ hf hP hD hS (lv_sub hl [1] rfl)
                    ·
                      replace hf := (if_neg c19).symm.trans hf
                      obtain rfl := Option.some.inj hf
                      exact W.vret hx hb hr (fun t ht hW => ⟨⟨(), rfl, trivial, by rw [ht]; exact hP, va_K.moved hW.alike hK, hD⟩, hS.F ht⟩) hS.2.2 dX12_leave_159
                ·
                  replace hf := (if_pos c15).symm.trans hf
                  refine lv_aload_n hx hb dX12_leave_132 rfl (lv_at hl 1 rfl) ?_
                  refine lv_iload_n hx hb dX12_leave_133 rfl (lv_at hl 0 rfl) ?_
                  obtain ⟨p20, hcp20, hf⟩ := hf_bind hf
                  have hFc := r_free hD hS hA
                  refine va_calli (va_runV (As := [.int ((σ.i 99) - 1)]) (rest := []) ⟨hx, hb, hml, hown, hts⟩ (c_X12_isCaught l dC dI _ Q N p13 ((σ.i 99) - 1) p20 hcp20) (cwV 1 hts hX12_leave_X12_isCaught_v627 rfl rfl rfl (by decide +kernel) ⟨Nat.le_of_ble_eq_true rfl, Nat.le_of_ble_eq_true rfl⟩) ⟨zPre.blind, va_recv hK hP (ci := 11) (q0 := 0) rfl rfl, zPre.go hZ hP hK hD⟩ rfl rfl hl.1 rfl (lv_room (Nat.le_of_ble_eq_true rfl)) dX12_leave_134 ⟨Nat.le_of_ble_eq_true rfl, Nat.le_of_ble_eq_true rfl⟩) hS (fun q _ h => hFc q h) hFc (fun r21 u9 t9 H1 locs ht hvm hw hB hz1 hk1 hS => ?_)
                  obtain ⟨hP, hK1, hD1⟩ := hB
                  rw [ht] at hP
                  have hD := hD1.weaken (fun _ _ _ h => hFc _ h)
                  generalize H1 = H at hP hS ⊢
                  obtain rfl : r21 = p20.1 := hw
                  refine lv_if_eq (tgt := 141) hx hb dX12_leave_137 (by decide) (fun c22 => ?_) (fun c22 => ?_)
                  ·
                    replace hf := (if_pos c22).symm.trans hf
                    refine lv_aload_n hx hb dX12_leave_141 rfl (lv_at hl 1 rfl) ?_
                    refine rG_102 hx hb hts i_X12_leave_X12 hown hK hP (hts (.fieldLink RX12 249 "StatementRules2Model" "rb" "[I") k_X12_leave_fieldLink_RX12_249_SRModel_rb_I) dX12_leave_142 ?_
                    refine lv_iload_n hx hb dX12_leave_145 rfl (lv_at hl 0 rfl) ?_
                    refine rL_102 (v := (p20.2.a 102 ((((σ.i 99) - 1) : Int32).toNatClampNeg))) hx hb hK hP b4 dX12_leave_146 rfl ?_
                    refine lv_iconst (v := 2) hx hb dX12_leave_147 (by decide) ?_
                    refine lv_icmp_ge (tgt := 160) hx hb dX12_leave_148 (by decide) (fun c23 => ?_) (fun c23 => ?_)
                    ·
                      replace hf := (if_pos c23).symm.trans hf
                      refine lv_aload_n hx hb dX12_leave_160 rfl (lv_at hl 1 rfl) ?_
                      refine lv_dup hx hb dX12_leave_161 rfl ?_
                      refine rG_99 (v := (p20.2.i 99)) hx hb hts i_X12_leave_X12 hown hK hP (hts (.fieldLink RX12 586 "StatementRules2Model" "recs" "I") k_X12_leave_fieldLink_RX12_586_SRModel_recs_I) dX12_leave_162 rfl ?_
                      refine lv_iconst (v := 1) hx hb dX12_leave_165 (by decide) ?_
                      refine lv_isub hx hb dX12_leave_166 ?_
                      refine rP_99 hx hb hts i_X12_leave_X12 hown hK hP hD hS (hts (.fieldLink RX12 586 "StatementRules2Model" "recs" "I") k_X12_leave_fieldLink_RX12_586_SRModel_recs_I) dX12_leave_167 (fun H locs hP hD hS => ?_)
                      refine lv_goto (tgt := 0) hx hb dX12_leave_170 (by decide) ?_
                      exact ih (RS.setI p20.2 99 ((p20.2.i 99) - 1)) _ _ _ hf hP hD hS (lv_sub hl [1] rfl)
                    ·
                      replace hf := (if_neg c23).symm.trans hf
                      refine lv_aload_n hx hb dX12_leave_151 rfl (lv_at hl 1 rfl) ?_
                      refine lv_iload_n hx hb dX12_leave_152 rfl (lv_at hl 0 rfl) ?_
                      obtain ⟨p24, hcp24, hf⟩ := hf_bind hf
                      have hFc := r_free hD hS hA
                      refine va_calli (va_runV (As := [.int ((σ.i 99) - 1)]) (rest := []) ⟨hx, hb, hml, hown, hts⟩ (c_X12_finals l dC dI _ Q N p20.2 ((σ.i 99) - 1) p24 hcp24) (cwV 1 hts hX12_leave_X12_finals_v630 rfl rfl rfl (by decide +kernel) ⟨Nat.le_of_ble_eq_true rfl, Nat.le_of_ble_eq_true rfl⟩) ⟨zPre.blind, va_recv hK hP (ci := 11) (q0 := 0) rfl rfl, zPre.go hZ hP hK hD⟩ rfl rfl hl.1 rfl (lv_room (Nat.le_of_ble_eq_true rfl)) dX12_leave_153 ⟨Nat.le_of_ble_eq_true rfl, Nat.le_of_ble_eq_true rfl⟩) hS (fun q _ h => hFc q h) hFc (fun r25 u9 t9 H1 locs ht hvm hw hB hz1 hk1 hS => ?_)
                      obtain ⟨hP, hK1, hD1⟩ := hB
                      rw [ht] at hP
                      have hD := hD1.weaken (fun _ _ _ h => hFc _ h)
                      generalize H1 = H at hP hS ⊢
                      obtain rfl : r25 = p24.1 := hw
                      refine lv_if_eq (tgt := 160) hx hb dX12_leave_156 (by decide) (fun c26 => ?_) (fun c26 => ?_)
                      ·
                        replace hf := (if_pos c26).symm.trans hf
                        refine lv_aload_n hx hb dX12_leave_160 rfl (lv_at hl 1 rfl) ?_
                        refine lv_dup hx hb dX12_leave_161 rfl ?_
                        refine rG_99 (v := (p24.2.i 99)) hx hb hts i_X12_leave_X12 hown hK hP (hts (.fieldLink RX12 586 "StatementRules2Model" "recs" "I") k_X12_leave_fieldLink_RX12_586_SRModel_recs_I) dX12_leave_162 rfl ?_
                        refine lv_iconst (v := 1) hx hb dX12_leave_165 (by decide) ?_
                        refine lv_isub hx hb dX12_leave_166 ?_
                        refine rP_99 hx hb hts i_X12_leave_X12 hown hK hP hD hS (hts (.fieldLink RX12 586 "StatementRules2Model" "recs" "I") k_X12_leave_fieldLink_RX12_586_SRModel_recs_I) dX12_leave_167 (fun H locs hP hD hS => ?_)
                        refine lv_goto (tgt := 0) hx hb dX12_leave_170 (by decide) ?_
                        exact ih (RS.setI p24.2 99 ((p24.2.i 99) - 1)) _ _ _ hf hP hD hS (lv_sub hl [1] rfl)
                      ·
                        replace hf := (if_neg c26).symm.trans hf
                        obtain rfl := Option.some.inj hf
                        exact W.vret hx hb hr (fun t ht hW => ⟨⟨(), rfl, trivial, by rw [ht]; exact hP, va_K.moved hW.alike hK, hD⟩, hS.F ht⟩) hS.2.2 dX12_leave_159
                  ·
                    replace hf := (if_neg c22).symm.trans hf
                    obtain rfl := Option.some.inj hf
                    exact W.vret hx hb hr (fun t ht hW => ⟨⟨(), rfl, trivial, by rw [ht]; exact hP, va_K.moved hW.alike hK, hD⟩, hS.F ht⟩) hS.2.2 dX12_leave_140
          ·
            replace hf := (if_pos c6).symm.trans hf
            refine lv_aload_n hx hb dX12_leave_87 rfl (lv_at hl 1 rfl) ?_
            refine lv_aload_n hx hb dX12_leave_88 rfl (lv_at hl 1 rfl) ?_
            refine rG_101 hx hb hts i_X12_leave_X12 hown hK hP (hts (.fieldLink RX12 246 "StatementRules2Model" "ra" "[I") k_X12_leave_fieldLink_RX12_246_SRModel_ra_I) dX12_leave_89 ?_
            refine lv_iload_n hx hb dX12_leave_92 rfl (lv_at hl 0 rfl) ?_
            refine rL_101 (v := (σ.a 101 ((((σ.i 99) - 1) : Int32).toNatClampNeg))) hx hb hK hP b4 dX12_leave_93 rfl ?_
            refine rP_97 hx hb hts i_X12_leave_X12 hown hK hP hD hS (hts (.fieldLink RX12 621 "StatementRules2Model" "waiting" "I") k_X12_leave_fieldLink_RX12_621_SRModel_waiting_I) dX12_leave_94 (fun H locs hP hD hS => ?_)
            refine lv_goto (tgt := 160) hx hb dX12_leave_97 (by decide) ?_
            refine lv_aload_n hx hb dX12_leave_160 rfl (lv_at hl 1 rfl) ?_
            refine lv_dup hx hb dX12_leave_161 rfl ?_
            refine rG_99 (v := (σ.i 99)) hx hb hts i_X12_leave_X12 hown hK hP (hts (.fieldLink RX12 586 "StatementRules2Model" "recs" "I") k_X12_leave_fieldLink_RX12_586_SRModel_recs_I) dX12_leave_162 rfl ?_
            refine lv_iconst (v := 1) hx hb dX12_leave_165 (by decide) ?_
            refine lv_isub hx hb dX12_leave_166 ?_
            refine rP_99 hx hb hts i_X12_leave_X12 hown hK hP hD hS (hts (.fieldLink RX12 586 "StatementRules2Model" "recs" "I") k_X12_leave_fieldLink_RX12_586_SRModel_recs_I) dX12_leave_167 (fun H locs hP hD hS => ?_)
            refine lv_goto (tgt := 0) hx hb dX12_leave_170 (by decide) ?_
            exact ih (RS.setI (RS.setI σ 97 (σ.a 101 ((((σ.i 99) - 1) : Int32).toNatClampNeg))) 99 ((σ.i 99) - 1)) _ _ _ hf hP hD hS (lv_sub hl [1] rfl)
        ·
          replace hf := (if_pos c5).symm.trans hf
          refine lv_aload_n hx hb dX12_leave_48 rfl (lv_at hl 1 rfl) ?_
          refine lv_iconst (v := 4) hx hb dX12_leave_49 (by decide) ?_
          refine lv_aload_n hx hb dX12_leave_50 rfl (lv_at hl 1 rfl) ?_
          refine rG_101 hx hb hts i_X12_leave_X12 hown hK hP (hts (.fieldLink RX12 246 "StatementRules2Model" "ra" "[I") k_X12_leave_fieldLink_RX12_246_SRModel_ra_I) dX12_leave_51 ?_
          refine lv_iload_n hx hb dX12_leave_54 rfl (lv_at hl 0 rfl) ?_
          refine rL_101 (v := (σ.a 101 ((((σ.i 99) - 1) : Int32).toNatClampNeg))) hx hb hK hP b4 dX12_leave_55 rfl ?_
          obtain ⟨p27, hcp27, hf⟩ := hf_bind hf
          have hFc := r_free hD hS hA
          refine va_callv (va_runV (As := [.int 4, .int (σ.a 101 ((((σ.i 99) - 1) : Int32).toNatClampNeg))]) (rest := []) ⟨hx, hb, hml, hown, hts⟩ (c_X12_row l dC dI _ Q N σ 4 (σ.a 101 ((((σ.i 99) - 1) : Int32).toNatClampNeg)) p27 hcp27) (cwV 2 hts hX12_leave_X12_row_v603 rfl rfl rfl (by decide +kernel) ⟨Nat.le_of_ble_eq_true rfl, Nat.le_of_ble_eq_true rfl⟩) ⟨zPre.blind, va_recv hK hP (ci := 11) (q0 := 0) rfl rfl, zPre.go hZ hP hK hD⟩ rfl rfl hl.1 rfl (lv_room (Nat.le_of_ble_eq_true rfl)) dX12_leave_56 ⟨Nat.le_of_ble_eq_true rfl, Nat.le_of_ble_eq_true rfl⟩) hS (fun q _ h => hFc q h) hFc (fun u9 t9 H1 locs ht hvm hw hB hz1 hk1 hS => ?_)
          obtain ⟨hP, hK1, hD1⟩ := hB
          rw [ht] at hP
          have hD := hD1.weaken (fun _ _ _ h => hFc _ h)
          generalize H1 = H at hP hS ⊢
          refine lv_aload_n hx hb dX12_leave_59 rfl (lv_at hl 1 rfl) ?_
          refine rG_91 hx hb hts i_X12_leave_X12 hown hK hP (hts (.fieldLink RX12 231 "StatementRules2Model" "held" "[I") k_X12_leave_fieldLink_RX12_231_SRModel_held_I) dX12_leave_60 ?_
          refine lv_aload_n hx hb dX12_leave_63 rfl (lv_at hl 1 rfl) ?_
          refine rG_101 hx hb hts i_X12_leave_X12 hown hK hP (hts (.fieldLink RX12 246 "StatementRules2Model" "ra" "[I") k_X12_leave_fieldLink_RX12_246_SRModel_ra_I) dX12_leave_64 ?_
          refine lv_iload_n hx hb dX12_leave_67 rfl (lv_at hl 0 rfl) ?_
          refine rL_101 (v := (p27.a 101 ((((σ.i 99) - 1) : Int32).toNatClampNeg))) hx hb hK hP b4 dX12_leave_68 rfl ?_
          refine lv_dup2_11 hx hb dX12_leave_69 rfl rfl ?_
          obtain ⟨b29, hf⟩ := hf_ite hf
          refine rL_91 (v := (p27.a 91 (((p27.a 101 ((((σ.i 99) - 1) : Int32).toNatClampNeg)) : Int32).toNatClampNeg))) hx hb hK hP b29 dX12_leave_70 rfl ?_
          refine lv_iconst (v := 1) hx hb dX12_leave_71 (by decide) ?_
          refine lv_isub hx hb dX12_leave_72 ?_
          refine rS_91 hx hb hK hP hD hS b29 dX12_leave_73 (fun H locs hP hD hS => ?_)
          refine lv_goto (tgt := 160) hx hb dX12_leave_74 (by decide) ?_
          refine lv_aload_n hx hb dX12_leave_160 rfl (lv_at hl 1 rfl) ?_
          refine lv_dup hx hb dX12_leave_161 rfl ?_
          refine rG_99 (v := (p27.i 99)) hx hb hts i_X12_leave_X12 hown hK hP (hts (.fieldLink RX12 586 "StatementRules2Model" "recs" "I") k_X12_leave_fieldLink_RX12_586_SRModel_recs_I) dX12_leave_162 rfl ?_
          refine lv_iconst (v := 1) hx hb dX12_leave_165 (by decide) ?_
          refine lv_isub hx hb dX12_leave_166 ?_
          refine rP_99 hx hb hts i_X12_leave_X12 hown hK hP hD hS (hts (.fieldLink RX12 586 "StatementRules2Model" "recs" "I") k_X12_leave_fieldLink_RX12_586_SRModel_recs_I) dX12_leave_167 (fun H locs hP hD hS => ?_)
          refine lv_goto (tgt := 0) hx hb dX12_leave_170 (by decide) ?_
          exact ih (RS.setI (RS.setA p27 91 (((p27.a 101 ((((σ.i 99) - 1) : Int32).toNatClampNeg)) : Int32).toNatClampNeg) ((p27.a 91 (((p27.a 101 ((((σ.i 99) - 1) : Int32).toNatClampNeg)) : Int32).toNatClampNeg)) - 1)) 99 ((p27.i 99) - 1)) _ _ _ hf hP hD hS (lv_sub hl [1] rfl)
    ·
      replace hf := (if_neg c1).symm.trans hf
      refine lv_aload_n hx hb dX12_leave_12 rfl (lv_at hl 0 rfl) ?_
      refine rG_110 (v := (σ.i 110)) hx hb hts i_X12_leave_X12 hown hK hP (hts (.fieldLink RX12 597 "StatementRules2Model" "how" "I") k_X12_leave_fieldLink_RX12_597_SRModel_how_I) dX12_leave_13 rfl ?_
      refine lv_iconst (v := 4) hx hb dX12_leave_16 (by decide) ?_
      refine lv_icmp_ne (tgt := 27) hx hb dX12_leave_17 (by decide) (fun c30 => ?_) (fun c30 => ?_)
      ·
        replace hf := (if_neg c30).symm.trans hf
        refine lv_iconst (v := 0) hx hb dX12_leave_27 (by decide) ?_
        refine lv_icmp_le (tgt := 173) hx hb dX12_leave_28 (by decide) (fun c31 => ?_) (fun c31 => ?_)
        ·
          replace hf := (if_pos c31).symm.trans hf
          refine lv_aload_n hx hb dX12_leave_173 rfl (lv_at hl 0 rfl) ?_
          refine rG_110 (v := (σ.i 110)) hx hb hts i_X12_leave_X12 hown hK hP (hts (.fieldLink RX12 597 "StatementRules2Model" "how" "I") k_X12_leave_fieldLink_RX12_597_SRModel_how_I) dX12_leave_174 rfl ?_
          refine lv_iconst (v := 1) hx hb dX12_leave_177 (by decide) ?_
          refine lv_icmp_ne (tgt := 192) hx hb dX12_leave_178 (by decide) (fun _ => ?_) (fun c9 => absurd c9 c1)
          refine lv_aload_n hx hb dX12_leave_192 rfl (lv_at hl 0 rfl) ?_
          refine rG_110 (v := (σ.i 110)) hx hb hts i_X12_leave_X12 hown hK hP (hts (.fieldLink RX12 597 "StatementRules2Model" "how" "I") k_X12_leave_fieldLink_RX12_597_SRModel_how_I) dX12_leave_193 rfl ?_
          refine lv_iconst (v := 4) hx hb dX12_leave_196 (by decide) ?_
          refine lv_icmp_ne (tgt := 252) hx hb dX12_leave_197 (by decide) (fun _ => ?_) (fun c9 => absurd c9 c30)
          refine lv_aload_n hx hb dX12_leave_252 rfl (lv_at hl 0 rfl) ?_
          refine lv_aload_n hx hb dX12_leave_253 rfl (lv_at hl 0 rfl) ?_
          refine rG_110 (v := (σ.i 110)) hx hb hts i_X12_leave_X12 hown hK hP (hts (.fieldLink RX12 597 "StatementRules2Model" "how" "I") k_X12_leave_fieldLink_RX12_597_SRModel_how_I) dX12_leave_254 rfl ?_
          refine rP_115 hx hb hts i_X12_leave_X12 hown hK hP hD hS (hts (.fieldLink RX12 636 "StatementRules2Model" "ended" "I") k_X12_leave_fieldLink_RX12_636_SRModel_ended_I) dX12_leave_257 (fun H locs hP hD hS => ?_)
          refine lv_aload_n hx hb dX12_leave_260 rfl (lv_at hl 0 rfl) ?_
          refine lv_iconst (v := (-1)) hx hb dX12_leave_261 (by decide) ?_
          refine rP_92 hx hb hts i_X12_leave_X12 hown hK hP hD hS (hts (.fieldLink RX12 618 "StatementRules2Model" "pc" "I") k_X12_leave_fieldLink_RX12_618_SRModel_pc_I) dX12_leave_262 (fun H locs hP hD hS => ?_)
          obtain rfl := Option.some.inj hf
          exact W.vret hx hb hr (fun t ht hW => ⟨⟨(), rfl, trivial, by rw [ht]; exact hP, va_K.moved hW.alike hK, hD⟩, hS.F ht⟩) hS.2.2 dX12_leave_265
        ·
          replace hf := (if_neg c31).symm.trans hf
          refine lv_aload_n hx hb dX12_leave_31 rfl (lv_at hl 0 rfl) ?_
          refine rG_99 (v := (σ.i 99)) hx hb hts i_X12_leave_X12 hown hK hP (hts (.fieldLink RX12 586 "StatementRules2Model" "recs" "I") k_X12_leave_fieldLink_RX12_586_SRModel_recs_I) dX12_leave_32 rfl ?_
          refine lv_iconst (v := 1) hx hb dX12_leave_35 (by decide) ?_
          refine lv_isub hx hb dX12_leave_36 ?_
          refine lv_istore_n (lv' := [(1, .int ((σ.i 99) - 1)), (0, .ref Q.h0)]) hx hb dX12_leave_37 rfl hl (by decide) rfl (fun ls hl => ?_)
          refine lv_aload_n hx hb dX12_leave_38 rfl (lv_at hl 1 rfl) ?_
          refine rG_100 hx hb hts i_X12_leave_X12 hown hK hP (hts (.fieldLink RX12 243 "StatementRules2Model" "rk" "[I") k_X12_leave_fieldLink_RX12_243_SRModel_rk_I) dX12_leave_39 ?_
          refine lv_iload_n hx hb dX12_leave_42 rfl (lv_at hl 0 rfl) ?_
          obtain ⟨b34, hf⟩ := hf_ite hf
          refine rL_100 (v := (σ.a 100 ((((σ.i 99) - 1) : Int32).toNatClampNeg))) hx hb hK hP b34 dX12_leave_43 rfl ?_
          refine lv_iconst (v := 1) hx hb dX12_leave_44 (by decide) ?_
          refine lv_icmp_ne (tgt := 77) hx hb dX12_leave_45 (by decide) (fun c35 => ?_) (fun c35 => ?_)
          ·
            replace hf := (if_neg c35).symm.trans hf
            refine lv_aload_n hx hb dX12_leave_77 rfl (lv_at hl 1 rfl) ?_
            refine rG_100 hx hb hts i_X12_leave_X12 hown hK hP (hts (.fieldLink RX12 243 "StatementRules2Model" "rk" "[I") k_X12_leave_fieldLink_RX12_243_SRModel_rk_I) dX12_leave_78 ?_
            refine lv_iload_n hx hb dX12_leave_81 rfl (lv_at hl 0 rfl) ?_
            refine rL_100 (v := (σ.a 100 ((((σ.i 99) - 1) : Int32).toNatClampNeg))) hx hb hK hP b34 dX12_leave_82 rfl ?_
            refine lv_iconst (v := 2) hx hb dX12_leave_83 (by decide) ?_
            refine lv_icmp_ne (tgt := 100) hx hb dX12_leave_84 (by decide) (fun c36 => ?_) (fun c36 => ?_)
            ·
              replace hf := (if_neg c36).symm.trans hf
              refine lv_aload_n hx hb dX12_leave_100 rfl (lv_at hl 1 rfl) ?_
              refine rG_100 hx hb hts i_X12_leave_X12 hown hK hP (hts (.fieldLink RX12 243 "StatementRules2Model" "rk" "[I") k_X12_leave_fieldLink_RX12_243_SRModel_rk_I) dX12_leave_101 ?_
              refine lv_iload_n hx hb dX12_leave_104 rfl (lv_at hl 0 rfl) ?_
              refine rL_100 (v := (σ.a 100 ((((σ.i 99) - 1) : Int32).toNatClampNeg))) hx hb hK hP b34 dX12_leave_105 rfl ?_
              refine lv_iconst (v := 4) hx hb dX12_leave_106 (by decide) ?_
              refine lv_icmp_ne (tgt := 160) hx hb dX12_leave_107 (by decide) (fun c37 => ?_) (fun c37 => ?_)
              ·
                replace hf := (if_neg c37).symm.trans hf
                refine lv_aload_n hx hb dX12_leave_160 rfl (lv_at hl 1 rfl) ?_
                refine lv_dup hx hb dX12_leave_161 rfl ?_
                refine rG_99 (v := (σ.i 99)) hx hb hts i_X12_leave_X12 hown hK hP (hts (.fieldLink RX12 586 "StatementRules2Model" "recs" "I") k_X12_leave_fieldLink_RX12_586_SRModel_recs_I) dX12_leave_162 rfl ?_
                refine lv_iconst (v := 1) hx hb dX12_leave_165 (by decide) ?_
                refine lv_isub hx hb dX12_leave_166 ?_
                refine rP_99 hx hb hts i_X12_leave_X12 hown hK hP hD hS (hts (.fieldLink RX12 586 "StatementRules2Model" "recs" "I") k_X12_leave_fieldLink_RX12_586_SRModel_recs_I) dX12_leave_167 (fun H locs hP hD hS => ?_)
                refine lv_goto (tgt := 0) hx hb dX12_leave_170 (by decide) ?_
                exact ih (RS.setI σ 99 ((σ.i 99) - 1)) _ _ _ hf hP hD hS (lv_sub hl [1] rfl)
              ·
                replace hf := (if_pos c37).symm.trans hf
                refine lv_aload_n hx hb dX12_leave_110 rfl (lv_at hl 1 rfl) ?_
                refine rG_102 hx hb hts i_X12_leave_X12 hown hK hP (hts (.fieldLink RX12 249 "StatementRules2Model" "rb" "[I") k_X12_leave_fieldLink_RX12_249_SRModel_rb_I) dX12_leave_111 ?_
                refine lv_iload_n hx hb dX12_leave_114 rfl (lv_at hl 0 rfl) ?_
                refine rL_102 (v := (σ.a 102 ((((σ.i 99) - 1) : Int32).toNatClampNeg))) hx hb hK hP b34 dX12_leave_115 rfl ?_
                refine lv_if_ne (tgt := 141) hx hb dX12_leave_116 (by decide) (fun c38 => ?_) (fun c38 => ?_)
                ·
                  replace hf := (if_neg c38).symm.trans hf
                  refine lv_aload_n hx hb dX12_leave_141 rfl (lv_at hl 1 rfl) ?_
                  refine rG_102 hx hb hts i_X12_leave_X12 hown hK hP (hts (.fieldLink RX12 249 "StatementRules2Model" "rb" "[I") k_X12_leave_fieldLink_RX12_249_SRModel_rb_I) dX12_leave_142 ?_
                  refine lv_iload_n hx hb dX12_leave_145 rfl (lv_at hl 0 rfl) ?_
                  refine rL_102 (v := (σ.a 102 ((((σ.i 99) - 1) : Int32).toNatClampNeg))) hx hb hK hP b34 dX12_leave_146 rfl ?_
                  refine lv_iconst (v := 2) hx hb dX12_leave_147 (by decide) ?_
                  refine lv_icmp_ge (tgt := 160) hx hb dX12_leave_148 (by decide) (fun c39 => ?_) (fun c39 => ?_)
                  ·
                    replace hf := (if_pos c39).symm.trans hf
                    refine lv_aload_n hx hb dX12_leave_160 rfl (lv_at hl 1 rfl) ?_
                    refine lv_dup hx hb dX12_leave_161 rfl ?_
                    refine rG_99 (v := (σ.i 99)) hx hb hts i_X12_leave_X12 hown hK hP (hts (.fieldLink RX12 586 "StatementRules2Model" "recs" "I") k_X12_leave_fieldLink_RX12_586_SRModel_recs_I) dX12_leave_162 rfl ?_
                    refine lv_iconst (v := 1) hx hb dX12_leave_165 (by decide) ?_
                    refine lv_isub hx hb dX12_leave_166 ?_
                    refine rP_99 hx hb hts i_X12_leave_X12 hown hK hP hD hS (hts (.fieldLink RX12 586 "StatementRules2Model" "recs" "I") k_X12_leave_fieldLink_RX12_586_SRModel_recs_I) dX12_leave_167 (fun H locs hP hD hS => ?_)
                    refine lv_goto (tgt := 0) hx hb dX12_leave_170 (by decide) ?_
                    exact ih (RS.setI σ 99 ((σ.i 99) - 1)) _ _ _ hf hP hD hS (lv_sub hl [1] rfl)
                  ·
                    replace hf := (if_neg c39).symm.trans hf
                    refine lv_aload_n hx hb dX12_leave_151 rfl (lv_at hl 1 rfl) ?_
                    refine lv_iload_n hx hb dX12_leave_152 rfl (lv_at hl 0 rfl) ?_
                    obtain ⟨p40, hcp40, hf⟩ := hf_bind hf
                    have hFc := r_free hD hS hA
                    refine va_calli (va_runV (As := [.int ((σ.i 99) - 1)]) (rest := []) ⟨hx, hb, hml, hown, hts⟩ (c_X12_finals l dC dI _ Q N σ ((σ.i 99) - 1) p40 hcp40) (cwV 1 hts hX12_leave_X12_finals_v630 rfl rfl rfl (by decide +kernel) ⟨Nat.le_of_ble_eq_true rfl, Nat.le_of_ble_eq_true rfl⟩) ⟨zPre.blind, va_recv hK hP (ci := 11) (q0 := 0) rfl rfl, zPre.go hZ hP hK hD⟩ rfl rfl hl.1 rfl (lv_room (Nat.le_of_ble_eq_true rfl)) dX12_leave_153 ⟨Nat.le_of_ble_eq_true rfl, Nat.le_of_ble_eq_true rfl⟩) hS (fun q _ h => hFc q h) hFc (fun r41 u9 t9 H1 locs ht hvm hw hB hz1 hk1 hS => ?_)
                    obtain ⟨hP, hK1, hD1⟩ := hB
                    rw [ht] at hP
                    have hD := hD1.weaken (fun _ _ _ h => hFc _ h)
                    generalize H1 = H at hP hS ⊢
                    obtain rfl : r41 = p40.1 := hw
                    refine lv_if_eq (tgt := 160) hx hb dX12_leave_156 (by decide) (fun c42 => ?_) (fun c42 => ?_)
                    ·
                      replace hf := (if_pos c42).symm.trans hf
                      refine lv_aload_n hx hb dX12_leave_160 rfl (lv_at hl 1 rfl) ?_
                      refine lv_dup hx hb dX12_leave_161 rfl ?_
                      refine rG_99 (v := (p40.2.i 99)) hx hb hts i_X12_leave_X12 hown hK hP (hts (.fieldLink RX12 586 "StatementRules2Model" "recs" "I") k_X12_leave_fieldLink_RX12_586_SRModel_recs_I) dX12_leave_162 rfl ?_
                      refine lv_iconst (v := 1) hx hb dX12_leave_165 (by decide) ?_
                      refine lv_isub hx hb dX12_leave_166 ?_
                      refine rP_99 hx hb hts i_X12_leave_X12 hown hK hP hD hS (hts (.fieldLink RX12 586 "StatementRules2Model" "recs" "I") k_X12_leave_fieldLink_RX12_586_SRModel_recs_I) dX12_leave_167 (fun H locs hP hD hS => ?_)
                      refine lv_goto (tgt := 0) hx hb dX12_leave_170 (by decide) ?_
                      exact ih (RS.setI p40.2 99 ((p40.2.i 99) - 1)) _ _ _ hf hP hD hS (lv_sub hl [1] rfl)
                    ·
                      replace hf := (if_neg c42).symm.trans hf
                      obtain rfl := Option.some.inj hf
                      exact W.vret hx hb hr (fun t ht hW => ⟨⟨(), rfl, trivial, by rw [ht]; exact hP, va_K.moved hW.alike hK, hD⟩, hS.F ht⟩) hS.2.2 dX12_leave_159
                ·
                  replace hf := (if_pos c38).symm.trans hf
                  refine lv_aload_n hx hb dX12_leave_119 rfl (lv_at hl 1 rfl) ?_
                  refine lv_iload_n hx hb dX12_leave_120 rfl (lv_at hl 0 rfl) ?_
                  obtain ⟨p43, hcp43, hf⟩ := hf_bind hf
                  have hFc := r_free hD hS hA
                  refine va_callv (va_runV (As := [.int ((σ.i 99) - 1)]) (rest := []) ⟨hx, hb, hml, hown, hts⟩ (c_X12_closeAll l dC dI _ Q N σ ((σ.i 99) - 1) p43 hcp43) (cwV 1 hts hX12_leave_X12_closeAll_v624 rfl rfl rfl (by decide +kernel) ⟨Nat.le_of_ble_eq_true rfl, Nat.le_of_ble_eq_true rfl⟩) ⟨zPre.blind, va_recv hK hP (ci := 11) (q0 := 0) rfl rfl, zPre.go hZ hP hK hD⟩ rfl rfl hl.1 rfl (lv_room (Nat.le_of_ble_eq_true rfl)) dX12_leave_121 ⟨Nat.le_of_ble_eq_true rfl, Nat.le_of_ble_eq_true rfl⟩) hS (fun q _ h => hFc q h) hFc (fun u9 t9 H1 locs ht hvm hw hB hz1 hk1 hS => ?_)
                  obtain ⟨hP, hK1, hD1⟩ := hB
                  rw [ht] at hP
                  have hD := hD1.weaken (fun _ _ _ h => hFc _ h)
                  generalize H1 = H at hP hS ⊢
                  refine lv_aload_n hx hb dX12_leave_124 rfl (lv_at hl 1 rfl) ?_
                  refine rG_110 (v := (p43.i 110)) hx hb hts i_X12_leave_X12 hown hK hP (hts (.fieldLink RX12 597 "StatementRules2Model" "how" "I") k_X12_leave_fieldLink_RX12_597_SRModel_how_I) dX12_leave_125 rfl ?_
                  refine lv_iconst (v := 3) hx hb dX12_leave_128 (by decide) ?_
                  refine lv_icmp_ne (tgt := 141) hx hb dX12_leave_129 (by decide) (fun c45 => ?_) (fun c45 => ?_)
                  ·
                    replace hf := (if_neg c45).symm.trans hf
                    refine lv_aload_n hx hb dX12_leave_141 rfl (lv_at hl 1 rfl) ?_
                    refine rG_102 hx hb hts i_X12_leave_X12 hown hK hP (hts (.fieldLink RX12 249 "StatementRules2Model" "rb" "[I") k_X12_leave_fieldLink_RX12_249_SRModel_rb_I) dX12_leave_142 ?_
                    refine lv_iload_n hx hb dX12_leave_145 rfl (lv_at hl 0 rfl) ?_
                    refine rL_102 (v := (p43.a 102 ((((σ.i 99) - 1) : Int32).toNatClampNeg))) hx hb hK hP b34 dX12_leave_146 rfl ?_
                    refine lv_iconst (v := 2) hx hb dX12_leave_147 (by decide) ?_
                    refine lv_icmp_ge (tgt := 160) hx hb dX12_leave_148 (by decide) (fun c46 => ?_) (fun c46 => ?_)
                    ·
                      replace hf := (if_pos c46).symm.trans hf
                      refine lv_aload_n hx hb dX12_leave_160 rfl (lv_at hl 1 rfl) ?_
                      refine lv_dup hx hb dX12_leave_161 rfl ?_
                      refine rG_99 (v := (p43.i 99)) hx hb hts i_X12_leave_X12 hown hK hP (hts (.fieldLink RX12 586 "StatementRules2Model" "recs" "I") k_X12_leave_fieldLink_RX12_586_SRModel_recs_I) dX12_leave_162 rfl ?_
                      refine lv_iconst (v := 1) hx hb dX12_leave_165 (by decide) ?_
                      refine lv_isub hx hb dX12_leave_166 ?_
                      refine rP_99 hx hb hts i_X12_leave_X12 hown hK hP hD hS (hts (.fieldLink RX12 586 "StatementRules2Model" "recs" "I") k_X12_leave_fieldLink_RX12_586_SRModel_recs_I) dX12_leave_167 (fun H locs hP hD hS => ?_)
                      refine lv_goto (tgt := 0) hx hb dX12_leave_170 (by decide) ?_
                      exact ih (RS.setI p43 99 ((p43.i 99) - 1)) _ _ _ hf hP hD hS (lv_sub hl [1] rfl)
                    ·
                      replace hf := (if_neg c46).symm.trans hf
                      refine lv_aload_n hx hb dX12_leave_151 rfl (lv_at hl 1 rfl) ?_
                      refine lv_iload_n hx hb dX12_leave_152 rfl (lv_at hl 0 rfl) ?_
                      obtain ⟨p47, hcp47, hf⟩ := hf_bind hf
                      have hFc := r_free hD hS hA
                      refine va_calli (va_runV (As := [.int ((σ.i 99) - 1)]) (rest := []) ⟨hx, hb, hml, hown, hts⟩ (c_X12_finals l dC dI _ Q N p43 ((σ.i 99) - 1) p47 hcp47) (cwV 1 hts hX12_leave_X12_finals_v630 rfl rfl rfl (by decide +kernel) ⟨Nat.le_of_ble_eq_true rfl, Nat.le_of_ble_eq_true rfl⟩) ⟨zPre.blind, va_recv hK hP (ci := 11) (q0 := 0) rfl rfl, zPre.go hZ hP hK hD⟩ rfl rfl hl.1 rfl (lv_room (Nat.le_of_ble_eq_true rfl)) dX12_leave_153 ⟨Nat.le_of_ble_eq_true rfl, Nat.le_of_ble_eq_true rfl⟩) hS (fun q _ h => hFc q h) hFc (fun r48 u9 t9 H1 locs ht hvm hw hB hz1 hk1 hS => ?_)
                      obtain ⟨hP, hK1, hD1⟩ := hB
                      rw [ht] at hP
                      have hD := hD1.weaken (fun _ _ _ h => hFc _ h)
                      generalize H1 = H at hP hS ⊢
                      obtain rfl : r48 = p47.1 := hw
                      refine lv_if_eq (tgt := 160) hx hb dX12_leave_156 (by decide) (fun c49 => ?_) (fun c49 => ?_)
                      ·
                        replace hf := (if_pos c49).symm.trans hf
                        refine lv_aload_n hx hb dX12_leave_160 rfl (lv_at hl 1 rfl) ?_
                        refine lv_dup hx hb dX12_leave_161 rfl ?_
                        refine rG_99 (v := (p47.2.i 99)) hx hb hts i_X12_leave_X12 hown hK hP (hts (.fieldLink RX12 586 "StatementRules2Model" "recs" "I") k_X12_leave_fieldLink_RX12_586_SRModel_recs_I) dX12_leave_162 rfl ?_
                        refine lv_iconst (v := 1) hx hb dX12_leave_165 (by decide) ?_
                        refine lv_isub hx hb dX12_leave_166 ?_
                        refine rP_99 hx hb hts i_X12_leave_X12 hown hK hP hD hS (hts (.fieldLink RX12 586 "StatementRules2Model" "recs" "I") k_X12_leave_fieldLink_RX12_586_SRModel_recs_I) dX12_leave_167 (fun H locs hP hD hS => ?_)
                        refine lv_goto (tgt := 0) hx hb dX12_leave_170 (by decide) ?_
                        exact ih (RS.setI p47.2 99 ((p47.2.i 99) - 1)) _ _ _ hf hP hD hS (lv_sub hl [1] rfl)
                      ·
                        replace hf := (if_neg c49).symm.trans hf
                        obtain rfl := Option.some.inj hf
                        exact W.vret hx hb hr (fun t ht hW => ⟨⟨(), rfl, trivial, by rw [ht]; exact hP, va_K.moved hW.alike hK, hD⟩, hS.F ht⟩) hS.2.2 dX12_leave_159
                  ·
                    replace hf := (if_pos c45).symm.trans hf
                    refine lv_aload_n hx hb dX12_leave_132 rfl (lv_at hl 1 rfl) ?_
                    refine lv_iload_n hx hb dX12_leave_133 rfl (lv_at hl 0 rfl) ?_
                    obtain ⟨p50, hcp50, hf⟩ := hf_bind hf
                    have hFc := r_free hD hS hA
                    refine va_calli (va_runV (As := [.int ((σ.i 99) - 1)]) (rest := []) ⟨hx, hb, hml, hown, hts⟩ (c_X12_isCaught l dC dI _ Q N p43 ((σ.i 99) - 1) p50 hcp50) (cwV 1 hts hX12_leave_X12_isCaught_v627 rfl rfl rfl (by decide +kernel) ⟨Nat.le_of_ble_eq_true rfl, Nat.le_of_ble_eq_true rfl⟩) ⟨zPre.blind, va_recv hK hP (ci := 11) (q0 := 0) rfl rfl, zPre.go hZ hP hK hD⟩ rfl rfl hl.1 rfl (lv_room (Nat.le_of_ble_eq_true rfl)) dX12_leave_134 ⟨Nat.le_of_ble_eq_true rfl, Nat.le_of_ble_eq_true rfl⟩) hS (fun q _ h => hFc q h) hFc (fun r51 u9 t9 H1 locs ht hvm hw hB hz1 hk1 hS => ?_)
                    obtain ⟨hP, hK1, hD1⟩ := hB
                    rw [ht] at hP
                    have hD := hD1.weaken (fun _ _ _ h => hFc _ h)
                    generalize H1 = H at hP hS ⊢
                    obtain rfl : r51 = p50.1 := hw
                    refine lv_if_eq (tgt := 141) hx hb dX12_leave_137 (by decide) (fun c52 => ?_) (fun c52 => ?_)
                    ·
                      replace hf := (if_pos c52).symm.trans hf
                      refine lv_aload_n hx hb dX12_leave_141 rfl (lv_at hl 1 rfl) ?_
                      refine rG_102 hx hb hts i_X12_leave_X12 hown hK hP (hts (.fieldLink RX12 249 "StatementRules2Model" "rb" "[I") k_X12_leave_fieldLink_RX12_249_SRModel_rb_I) dX12_leave_142 ?_
                      refine lv_iload_n hx hb dX12_leave_145 rfl (lv_at hl 0 rfl) ?_
                      refine rL_102 (v := (p50.2.a 102 ((((σ.i 99) - 1) : Int32).toNatClampNeg))) hx hb hK hP b34 dX12_leave_146 rfl ?_
                      refine lv_iconst (v := 2) hx hb dX12_leave_147 (by decide) ?_
                      refine lv_icmp_ge (tgt := 160) hx hb dX12_leave_148 (by decide) (fun c53 => ?_) (fun c53 => ?_)
                      ·
                        replace hf := (if_pos c53).symm.trans hf
                        refine lv_aload_n hx hb dX12_leave_160 rfl (lv_at hl 1 rfl) ?_
                        refine lv_dup hx hb dX12_leave_161 rfl ?_
                        refine rG_99 (v := (p50.2.i 99)) hx hb hts i_X12_leave_X12 hown hK hP (hts (.fieldLink RX12 586 "StatementRules2Model" "recs" "I") k_X12_leave_fieldLink_RX12_586_SRModel_recs_I) dX12_leave_162 rfl ?_
                        refine lv_iconst (v := 1) hx hb dX12_leave_165 (by decide) ?_
                        refine lv_isub hx hb dX12_leave_166 ?_
                        refine rP_99 hx hb hts i_X12_leave_X12 hown hK hP hD hS (hts (.fieldLink RX12 586 "StatementRules2Model" "recs" "I") k_X12_leave_fieldLink_RX12_586_SRModel_recs_I) dX12_leave_167 (fun H locs hP hD hS => ?_)
                        refine lv_goto (tgt := 0) hx hb dX12_leave_170 (by decide) ?_
                        exact ih (RS.setI p50.2 99 ((p50.2.i 99) - 1)) _ _ _ hf hP hD hS (lv_sub hl [1] rfl)
                      ·
                        replace hf := (if_neg c53).symm.trans hf
                        refine lv_aload_n hx hb dX12_leave_151 rfl (lv_at hl 1 rfl) ?_
                        refine lv_iload_n hx hb dX12_leave_152 rfl (lv_at hl 0 rfl) ?_
                        obtain ⟨p54, hcp54, hf⟩ := hf_bind hf
                        have hFc := r_free hD hS hA
                        refine va_calli (va_runV (As := [.int ((σ.i 99) - 1)]) (rest := []) ⟨hx, hb, hml, hown, hts⟩ (c_X12_finals l dC dI _ Q N p50.2 ((σ.i 99) - 1) p54 hcp54) (cwV 1 hts hX12_leave_X12_finals_v630 rfl rfl rfl (by decide +kernel) ⟨Nat.le_of_ble_eq_true rfl, Nat.le_of_ble_eq_true rfl⟩) ⟨zPre.blind, va_recv hK hP (ci := 11) (q0 := 0) rfl rfl, zPre.go hZ hP hK hD⟩ rfl rfl hl.1 rfl (lv_room (Nat.le_of_ble_eq_true rfl)) dX12_leave_153 ⟨Nat.le_of_ble_eq_true rfl, Nat.le_of_ble_eq_true rfl⟩) hS (fun q _ h => hFc q h) hFc (fun r55 u9 t9 H1 locs ht hvm hw hB hz1 hk1 hS => ?_)
                        obtain ⟨hP, hK1, hD1⟩ := hB
                        rw [ht] at hP
                        have hD := hD1.weaken (fun _ _ _ h => hFc _ h)
                        generalize H1 = H at hP hS ⊢
                        obtain rfl : r55 = p54.1 := hw
                        refine lv_if_eq (tgt := 160) hx hb dX12_leave_156 (by decide) (fun c56 => ?_) (fun c56 => ?_)
                        ·
                          replace hf := (if_pos c56).symm.trans hf
                          refine lv_aload_n hx hb dX12_leave_160 rfl (lv_at hl 1 rfl) ?_
                          refine lv_dup hx hb dX12_leave_161 rfl ?_
                          refine rG_99 (v := (p54.2.i 99)) hx hb hts i_X12_leave_X12 hown hK hP (hts (.fieldLink RX12 586 "StatementRules2Model" "recs" "I") k_X12_leave_fieldLink_RX12_586_SRModel_recs_I) dX12_leave_162 rfl ?_
                          refine lv_iconst (v := 1) hx hb dX12_leave_165 (by decide) ?_
                          refine lv_isub hx hb dX12_leave_166 ?_
                          refine rP_99 hx hb hts i_X12_leave_X12 hown hK hP hD hS (hts (.fieldLink RX12 586 "StatementRules2Model" "recs" "I") k_X12_leave_fieldLink_RX12_586_SRModel_recs_I) dX12_leave_167 (fun H locs hP hD hS => ?_)
                          refine lv_goto (tgt := 0) hx hb dX12_leave_170 (by decide) ?_
                          exact ih (RS.setI p54.2 99 ((p54.2.i 99) - 1)) _ _ _ hf hP hD hS (lv_sub hl [1] rfl)
                        ·
                          replace hf := (if_neg c56).symm.trans hf
                          obtain rfl := Option.some.inj hf
                          exact W.vret hx hb hr (fun t ht hW => ⟨⟨(), rfl, trivial, by rw [ht]; exact hP, va_K.moved hW.alike hK, hD⟩, hS.F ht⟩) hS.2.2 dX12_leave_159
                    ·
                      replace hf := (if_neg c52).symm.trans hf
                      obtain rfl := Option.some.inj hf
                      exact W.vret hx hb hr (fun t ht hW => ⟨⟨(), rfl, trivial, by rw [ht]; exact hP, va_K.moved hW.alike hK, hD⟩, hS.F ht⟩) hS.2.2 dX12_leave_140
            ·
              replace hf := (if_pos c36).symm.trans hf
              refine lv_aload_n hx hb dX12_leave_87 rfl (lv_at hl 1 rfl) ?_
              refine lv_aload_n hx hb dX12_leave_88 rfl (lv_at hl 1 rfl) ?_
              refine rG_101 hx hb hts i_X12_leave_X12 hown hK hP (hts (.fieldLink RX12 246 "StatementRules2Model" "ra" "[I") k_X12_leave_fieldLink_RX12_246_SRModel_ra_I) dX12_leave_89 ?_
              refine lv_iload_n hx hb dX12_leave_92 rfl (lv_at hl 0 rfl) ?_
              refine rL_101 (v := (σ.a 101 ((((σ.i 99) - 1) : Int32).toNatClampNeg))) hx hb hK hP b34 dX12_leave_93 rfl ?_
              refine rP_97 hx hb hts i_X12_leave_X12 hown hK hP hD hS (hts (.fieldLink RX12 621 "StatementRules2Model" "waiting" "I") k_X12_leave_fieldLink_RX12_621_SRModel_waiting_I) dX12_leave_94 (fun H locs hP hD hS => ?_)
              refine lv_goto (tgt := 160) hx hb dX12_leave_97 (by decide) ?_
              refine lv_aload_n hx hb dX12_leave_160 rfl (lv_at hl 1 rfl) ?_
              refine lv_dup hx hb dX12_leave_161 rfl ?_
              refine rG_99 (v := (σ.i 99)) hx hb hts i_X12_leave_X12 hown hK hP (hts (.fieldLink RX12 586 "StatementRules2Model" "recs" "I") k_X12_leave_fieldLink_RX12_586_SRModel_recs_I) dX12_leave_162 rfl ?_
              refine lv_iconst (v := 1) hx hb dX12_leave_165 (by decide) ?_
              refine lv_isub hx hb dX12_leave_166 ?_
              refine rP_99 hx hb hts i_X12_leave_X12 hown hK hP hD hS (hts (.fieldLink RX12 586 "StatementRules2Model" "recs" "I") k_X12_leave_fieldLink_RX12_586_SRModel_recs_I) dX12_leave_167 (fun H locs hP hD hS => ?_)
              refine lv_goto (tgt := 0) hx hb dX12_leave_170 (by decide) ?_
              exact ih (RS.setI (RS.setI σ 97 (σ.a 101 ((((σ.i 99) - 1) : Int32).toNatClampNeg))) 99 ((σ.i 99) - 1)) _ _ _ hf hP hD hS (lv_sub hl [1] rfl)
          ·
            replace hf := (if_pos c35).symm.trans hf
            refine lv_aload_n hx hb dX12_leave_48 rfl (lv_at hl 1 rfl) ?_
            refine lv_iconst (v := 4) hx hb dX12_leave_49 (by decide) ?_
            refine lv_aload_n hx hb dX12_leave_50 rfl (lv_at hl 1 rfl) ?_
            refine rG_101 hx hb hts i_X12_leave_X12 hown hK hP (hts (.fieldLink RX12 246 "StatementRules2Model" "ra" "[I") k_X12_leave_fieldLink_RX12_246_SRModel_ra_I) dX12_leave_51 ?_
            refine lv_iload_n hx hb dX12_leave_54 rfl (lv_at hl 0 rfl) ?_
            refine rL_101 (v := (σ.a 101 ((((σ.i 99) - 1) : Int32).toNatClampNeg))) hx hb hK hP b34 dX12_leave_55 rfl ?_
            obtain ⟨p57, hcp57, hf⟩ := hf_bind hf
            have hFc := r_free hD hS hA
            refine va_callv (va_runV (As := [.int 4, .int (σ.a 101 ((((σ.i 99) - 1) : Int32).toNatClampNeg))]) (rest := []) ⟨hx, hb, hml, hown, hts⟩ (c_X12_row l dC dI _ Q N σ 4 (σ.a 101 ((((σ.i 99) - 1) : Int32).toNatClampNeg)) p57 hcp57) (cwV 2 hts hX12_leave_X12_row_v603 rfl rfl rfl (by decide +kernel) ⟨Nat.le_of_ble_eq_true rfl, Nat.le_of_ble_eq_true rfl⟩) ⟨zPre.blind, va_recv hK hP (ci := 11) (q0 := 0) rfl rfl, zPre.go hZ hP hK hD⟩ rfl rfl hl.1 rfl (lv_room (Nat.le_of_ble_eq_true rfl)) dX12_leave_56 ⟨Nat.le_of_ble_eq_true rfl, Nat.le_of_ble_eq_true rfl⟩) hS (fun q _ h => hFc q h) hFc (fun u9 t9 H1 locs ht hvm hw hB hz1 hk1 hS => ?_)
            obtain ⟨hP, hK1, hD1⟩ := hB
            rw [ht] at hP
            have hD := hD1.weaken (fun _ _ _ h => hFc _ h)
            generalize H1 = H at hP hS ⊢
            refine lv_aload_n hx hb dX12_leave_59 rfl (lv_at hl 1 rfl) ?_
            refine rG_91 hx hb hts i_X12_leave_X12 hown hK hP (hts (.fieldLink RX12 231 "StatementRules2Model" "held" "[I") k_X12_leave_fieldLink_RX12_231_SRModel_held_I) dX12_leave_60 ?_
            refine lv_aload_n hx hb dX12_leave_63 rfl (lv_at hl 1 rfl) ?_
            refine rG_101 hx hb hts i_X12_leave_X12 hown hK hP (hts (.fieldLink RX12 246 "StatementRules2Model" "ra" "[I") k_X12_leave_fieldLink_RX12_246_SRModel_ra_I) dX12_leave_64 ?_
            refine lv_iload_n hx hb dX12_leave_67 rfl (lv_at hl 0 rfl) ?_
            refine rL_101 (v := (p57.a 101 ((((σ.i 99) - 1) : Int32).toNatClampNeg))) hx hb hK hP b34 dX12_leave_68 rfl ?_
            refine lv_dup2_11 hx hb dX12_leave_69 rfl rfl ?_
            obtain ⟨b59, hf⟩ := hf_ite hf
            refine rL_91 (v := (p57.a 91 (((p57.a 101 ((((σ.i 99) - 1) : Int32).toNatClampNeg)) : Int32).toNatClampNeg))) hx hb hK hP b59 dX12_leave_70 rfl ?_
            refine lv_iconst (v := 1) hx hb dX12_leave_71 (by decide) ?_
            refine lv_isub hx hb dX12_leave_72 ?_
            refine rS_91 hx hb hK hP hD hS b59 dX12_leave_73 (fun H locs hP hD hS => ?_)
            refine lv_goto (tgt := 160) hx hb dX12_leave_74 (by decide) ?_
            refine lv_aload_n hx hb dX12_leave_160 rfl (lv_at hl 1 rfl) ?_
            refine lv_dup hx hb dX12_leave_161 rfl ?_
            refine rG_99 (v := (p57.i 99)) hx hb hts i_X12_leave_X12 hown hK hP (hts (.fieldLink RX12 586 "StatementRules2Model" "recs" "I") k_X12_leave_fieldLink_RX12_586_SRModel_recs_I) dX12_leave_162 rfl ?_
            refine lv_iconst (v := 1) hx hb dX12_leave_165 (by decide) ?_
            refine lv_isub hx hb dX12_leave_166 ?_
            refine rP_99 hx hb hts i_X12_leave_X12 hown hK hP hD hS (hts (.fieldLink RX12 586 "StatementRules2Model" "recs" "I") k_X12_leave_fieldLink_RX12_586_SRModel_recs_I) dX12_leave_167 (fun H locs hP hD hS => ?_)
            refine lv_goto (tgt := 0) hx hb dX12_leave_170 (by decide) ?_
            exact ih (RS.setI (RS.setA p57 91 (((p57.a 101 ((((σ.i 99) - 1) : Int32).toNatClampNeg)) : Int32).toNatClampNeg) ((p57.a 91 (((p57.a 101 ((((σ.i 99) - 1) : Int32).toNatClampNeg)) : Int32).toNatClampNeg)) - 1)) 99 ((p57.i 99) - 1)) _ _ _ hf hP hD hS (lv_sub hl [1] rfl)
      ·
        replace hf := (if_pos c30).symm.trans hf
        refine lv_aload_n hx hb dX12_leave_20 rfl (lv_at hl 0 rfl) ?_
        refine rG_112 (v := (σ.i 112)) hx hb hts i_X12_leave_X12 hown hK hP (hts (.fieldLink RX12 612 "StatementRules2Model" "goDepth" "I") k_X12_leave_fieldLink_RX12_612_SRModel_goDepth_I) dX12_leave_21 rfl ?_
        refine lv_goto (tgt := 28) hx hb dX12_leave_24 (by decide) ?_
        refine lv_icmp_le (tgt := 173) hx hb dX12_leave_28 (by decide) (fun c60 => ?_) (fun c60 => ?_)
        ·
          replace hf := (if_pos c60).symm.trans hf
          refine lv_aload_n hx hb dX12_leave_173 rfl (lv_at hl 0 rfl) ?_
          refine rG_110 (v := (σ.i 110)) hx hb hts i_X12_leave_X12 hown hK hP (hts (.fieldLink RX12 597 "StatementRules2Model" "how" "I") k_X12_leave_fieldLink_RX12_597_SRModel_how_I) dX12_leave_174 rfl ?_
          refine lv_iconst (v := 1) hx hb dX12_leave_177 (by decide) ?_
          refine lv_icmp_ne (tgt := 192) hx hb dX12_leave_178 (by decide) (fun _ => ?_) (fun c9 => absurd c9 c1)
          refine lv_aload_n hx hb dX12_leave_192 rfl (lv_at hl 0 rfl) ?_
          refine rG_110 (v := (σ.i 110)) hx hb hts i_X12_leave_X12 hown hK hP (hts (.fieldLink RX12 597 "StatementRules2Model" "how" "I") k_X12_leave_fieldLink_RX12_597_SRModel_how_I) dX12_leave_193 rfl ?_
          refine lv_iconst (v := 4) hx hb dX12_leave_196 (by decide) ?_
          refine lv_icmp_ne (tgt := 252) hx hb dX12_leave_197 (by decide) (fun c9 => absurd c30 c9) (fun _ => ?_)
          refine lv_aload_n hx hb dX12_leave_200 rfl (lv_at hl 0 rfl) ?_
          refine lv_dup hx hb dX12_leave_201 rfl ?_
          refine rG_99 (v := (σ.i 99)) hx hb hts i_X12_leave_X12 hown hK hP (hts (.fieldLink RX12 586 "StatementRules2Model" "recs" "I") k_X12_leave_fieldLink_RX12_586_SRModel_recs_I) dX12_leave_202 rfl ?_
          refine lv_iconst (v := 1) hx hb dX12_leave_205 (by decide) ?_
          refine lv_isub hx hb dX12_leave_206 ?_
          refine rP_99 hx hb hts i_X12_leave_X12 hown hK hP hD hS (hts (.fieldLink RX12 586 "StatementRules2Model" "recs" "I") k_X12_leave_fieldLink_RX12_586_SRModel_recs_I) dX12_leave_207 (fun H locs hP hD hS => ?_)
          refine lv_aload_n hx hb dX12_leave_210 rfl (lv_at hl 0 rfl) ?_
          refine lv_aload_n hx hb dX12_leave_211 rfl (lv_at hl 0 rfl) ?_
          refine rG_104 hx hb hts i_X12_leave_X12 hown hK hP (hts (.fieldLink RX12 255 "StatementRules2Model" "rHigh" "[I") k_X12_leave_fieldLink_RX12_255_SRModel_rHigh_I) dX12_leave_212 ?_
          refine lv_aload_n hx hb dX12_leave_215 rfl (lv_at hl 0 rfl) ?_
          refine rG_99 (v := ((σ.i 99) - 1)) hx hb hts i_X12_leave_X12 hown hK hP (hts (.fieldLink RX12 586 "StatementRules2Model" "recs" "I") k_X12_leave_fieldLink_RX12_586_SRModel_recs_I) dX12_leave_216 rfl ?_
          obtain ⟨b63, hf⟩ := hf_ite hf
          refine rL_104 (v := (σ.a 104 ((((σ.i 99) - 1) : Int32).toNatClampNeg))) hx hb hK hP b63 dX12_leave_219 rfl ?_
          refine rP_93 hx hb hts i_X12_leave_X12 hown hK hP hD hS (hts (.fieldLink RX12 589 "StatementRules2Model" "high" "I") k_X12_leave_fieldLink_RX12_589_SRModel_high_I) dX12_leave_220 (fun H locs hP hD hS => ?_)
          refine lv_aload_n hx hb dX12_leave_223 rfl (lv_at hl 0 rfl) ?_
          refine lv_aload_n hx hb dX12_leave_224 rfl (lv_at hl 0 rfl) ?_
          refine rG_113 (v := (σ.i 113)) hx hb hts i_X12_leave_X12 hown hK hP (hts (.fieldLink RX12 615 "StatementRules2Model" "value" "I") k_X12_leave_fieldLink_RX12_615_SRModel_value_I) dX12_leave_225 rfl ?_
          obtain ⟨p64, hcp64, hf⟩ := hf_bind hf
          have hFc := r_free hD hS hA
          refine va_callv (va_runV (As := [.int (σ.i 113)]) (rest := []) ⟨hx, hb, hml, hown, hts⟩ (c_X12_put l dC dI _ Q N (RS.setI (RS.setI σ 99 ((σ.i 99) - 1)) 93 (σ.a 104 ((((σ.i 99) - 1) : Int32).toNatClampNeg))) (σ.i 113) p64 hcp64) (cwV 1 hts hX12_leave_X12_put_v633 rfl rfl rfl (by decide +kernel) ⟨Nat.le_of_ble_eq_true rfl, Nat.le_of_ble_eq_true rfl⟩) ⟨zPre.blind, va_recv hK hP (ci := 11) (q0 := 0) rfl rfl, zPre.go hZ hP hK hD⟩ rfl rfl hl.1 rfl (lv_room (Nat.le_of_ble_eq_true rfl)) dX12_leave_228 ⟨Nat.le_of_ble_eq_true rfl, Nat.le_of_ble_eq_true rfl⟩) hS (fun q _ h => hFc q h) hFc (fun u9 t9 H1 locs ht hvm hw hB hz1 hk1 hS => ?_)
          obtain ⟨hP, hK1, hD1⟩ := hB
          rw [ht] at hP
          have hD := hD1.weaken (fun _ _ _ h => hFc _ h)
          generalize H1 = H at hP hS ⊢
          refine lv_aload_n hx hb dX12_leave_231 rfl (lv_at hl 0 rfl) ?_
          refine lv_aload_n hx hb dX12_leave_232 rfl (lv_at hl 0 rfl) ?_
          refine rG_23 hx hb hts i_X12_leave_X12 hown hK hP (hts (.fieldLink RX12 90 "StatementRules2Model" "iy" "[I") k_X12_leave_fieldLink_RX12_90_SRModel_iy_I) dX12_leave_233 ?_
          refine lv_aload_n hx hb dX12_leave_236 rfl (lv_at hl 0 rfl) ?_
          refine rG_101 hx hb hts i_X12_leave_X12 hown hK hP (hts (.fieldLink RX12 246 "StatementRules2Model" "ra" "[I") k_X12_leave_fieldLink_RX12_246_SRModel_ra_I) dX12_leave_237 ?_
          refine lv_aload_n hx hb dX12_leave_240 rfl (lv_at hl 0 rfl) ?_
          refine rG_99 (v := (p64.i 99)) hx hb hts i_X12_leave_X12 hown hK hP (hts (.fieldLink RX12 586 "StatementRules2Model" "recs" "I") k_X12_leave_fieldLink_RX12_586_SRModel_recs_I) dX12_leave_241 rfl ?_
          obtain ⟨b66, hf⟩ := hf_ite hf
          refine rL_101 (v := (p64.a 101 (((p64.i 99) : Int32).toNatClampNeg))) hx hb hK hP b66 dX12_leave_244 rfl ?_
          obtain ⟨b67, hf⟩ := hf_ite hf
          refine rL_23 (v := (p64.a 23 (((p64.a 101 (((p64.i 99) : Int32).toNatClampNeg)) : Int32).toNatClampNeg))) hx hb hK hP b67 dX12_leave_245 rfl ?_
          refine rP_92 hx hb hts i_X12_leave_X12 hown hK hP hD hS (hts (.fieldLink RX12 618 "StatementRules2Model" "pc" "I") k_X12_leave_fieldLink_RX12_618_SRModel_pc_I) dX12_leave_246 (fun H locs hP hD hS => ?_)
          refine lv_goto (tgt := 265) hx hb dX12_leave_249 (by decide) ?_
          obtain rfl := Option.some.inj hf
          exact W.vret hx hb hr (fun t ht hW => ⟨⟨(), rfl, trivial, by rw [ht]; exact hP, va_K.moved hW.alike hK, hD⟩, hS.F ht⟩) hS.2.2 dX12_leave_265
        ·
          replace hf := (if_neg c60).symm.trans hf
          refine lv_aload_n hx hb dX12_leave_31 rfl (lv_at hl 0 rfl) ?_
          refine rG_99 (v := (σ.i 99)) hx hb hts i_X12_leave_X12 hown hK hP (hts (.fieldLink RX12 586 "StatementRules2Model" "recs" "I") k_X12_leave_fieldLink_RX12_586_SRModel_recs_I) dX12_leave_32 rfl ?_
          refine lv_iconst (v := 1) hx hb dX12_leave_35 (by decide) ?_
          refine lv_isub hx hb dX12_leave_36 ?_
          refine lv_istore_n (lv' := [(1, .int ((σ.i 99) - 1)), (0, .ref Q.h0)]) hx hb dX12_leave_37 rfl hl (by decide) rfl (fun ls hl => ?_)
          refine lv_aload_n hx hb dX12_leave_38 rfl (lv_at hl 1 rfl) ?_
          refine rG_100 hx hb hts i_X12_leave_X12 hown hK hP (hts (.fieldLink RX12 243 "StatementRules2Model" "rk" "[I") k_X12_leave_fieldLink_RX12_243_SRModel_rk_I) dX12_leave_39 ?_
          refine lv_iload_n hx hb dX12_leave_42 rfl (lv_at hl 0 rfl) ?_
          obtain ⟨b68, hf⟩ := hf_ite hf
          refine rL_100 (v := (σ.a 100 ((((σ.i 99) - 1) : Int32).toNatClampNeg))) hx hb hK hP b68 dX12_leave_43 rfl ?_
          refine lv_iconst (v := 1) hx hb dX12_leave_44 (by decide) ?_
          refine lv_icmp_ne (tgt := 77) hx hb dX12_leave_45 (by decide) (fun c69 => ?_) (fun c69 => ?_)
          ·
            replace hf := (if_neg c69).symm.trans hf
            refine lv_aload_n hx hb dX12_leave_77 rfl (lv_at hl 1 rfl) ?_
            refine rG_100 hx hb hts i_X12_leave_X12 hown hK hP (hts (.fieldLink RX12 243 "StatementRules2Model" "rk" "[I") k_X12_leave_fieldLink_RX12_243_SRModel_rk_I) dX12_leave_78 ?_
            refine lv_iload_n hx hb dX12_leave_81 rfl (lv_at hl 0 rfl) ?_
            refine rL_100 (v := (σ.a 100 ((((σ.i 99) - 1) : Int32).toNatClampNeg))) hx hb hK hP b68 dX12_leave_82 rfl ?_
            refine lv_iconst (v := 2) hx hb dX12_leave_83 (by decide) ?_
            refine lv_icmp_ne (tgt := 100) hx hb dX12_leave_84 (by decide) (fun c70 => ?_) (fun c70 => ?_)
            ·
              replace hf := (if_neg c70).symm.trans hf
              refine lv_aload_n hx hb dX12_leave_100 rfl (lv_at hl 1 rfl) ?_
              refine rG_100 hx hb hts i_X12_leave_X12 hown hK hP (hts (.fieldLink RX12 243 "StatementRules2Model" "rk" "[I") k_X12_leave_fieldLink_RX12_243_SRModel_rk_I) dX12_leave_101 ?_
              refine lv_iload_n hx hb dX12_leave_104 rfl (lv_at hl 0 rfl) ?_
              refine rL_100 (v := (σ.a 100 ((((σ.i 99) - 1) : Int32).toNatClampNeg))) hx hb hK hP b68 dX12_leave_105 rfl ?_
              refine lv_iconst (v := 4) hx hb dX12_leave_106 (by decide) ?_
              refine lv_icmp_ne (tgt := 160) hx hb dX12_leave_107 (by decide) (fun c71 => ?_) (fun c71 => ?_)
              ·
                replace hf := (if_neg c71).symm.trans hf
                refine lv_aload_n hx hb dX12_leave_160 rfl (lv_at hl 1 rfl) ?_
                refine lv_dup hx hb dX12_leave_161 rfl ?_
                refine rG_99 (v := (σ.i 99)) hx hb hts i_X12_leave_X12 hown hK hP (hts (.fieldLink RX12 586 "StatementRules2Model" "recs" "I") k_X12_leave_fieldLink_RX12_586_SRModel_recs_I) dX12_leave_162 rfl ?_
                refine lv_iconst (v := 1) hx hb dX12_leave_165 (by decide) ?_
                refine lv_isub hx hb dX12_leave_166 ?_
                refine rP_99 hx hb hts i_X12_leave_X12 hown hK hP hD hS (hts (.fieldLink RX12 586 "StatementRules2Model" "recs" "I") k_X12_leave_fieldLink_RX12_586_SRModel_recs_I) dX12_leave_167 (fun H locs hP hD hS => ?_)
                refine lv_goto (tgt := 0) hx hb dX12_leave_170 (by decide) ?_
                exact ih (RS.setI σ 99 ((σ.i 99) - 1)) _ _ _ hf hP hD hS (lv_sub hl [1] rfl)
              ·
                replace hf := (if_pos c71).symm.trans hf
                refine lv_aload_n hx hb dX12_leave_110 rfl (lv_at hl 1 rfl) ?_
                refine rG_102 hx hb hts i_X12_leave_X12 hown hK hP (hts (.fieldLink RX12 249 "StatementRules2Model" "rb" "[I") k_X12_leave_fieldLink_RX12_249_SRModel_rb_I) dX12_leave_111 ?_
                refine lv_iload_n hx hb dX12_leave_114 rfl (lv_at hl 0 rfl) ?_
                refine rL_102 (v := (σ.a 102 ((((σ.i 99) - 1) : Int32).toNatClampNeg))) hx hb hK hP b68 dX12_leave_115 rfl ?_
                refine lv_if_ne (tgt := 141) hx hb dX12_leave_116 (by decide) (fun c72 => ?_) (fun c72 => ?_)
                ·
                  replace hf := (if_neg c72).symm.trans hf
                  refine lv_aload_n hx hb dX12_leave_141 rfl (lv_at hl 1 rfl) ?_
                  refine rG_102 hx hb hts i_X12_leave_X12 hown hK hP (hts (.fieldLink RX12 249 "StatementRules2Model" "rb" "[I") k_X12_leave_fieldLink_RX12_249_SRModel_rb_I) dX12_leave_142 ?_
                  refine lv_iload_n hx hb dX12_leave_145 rfl (lv_at hl 0 rfl) ?_
                  refine rL_102 (v := (σ.a 102 ((((σ.i 99) - 1) : Int32).toNatClampNeg))) hx hb hK hP b68 dX12_leave_146 rfl ?_
                  refine lv_iconst (v := 2) hx hb dX12_leave_147 (by decide) ?_
                  refine lv_icmp_ge (tgt := 160) hx hb dX12_leave_148 (by decide) (fun c73 => ?_) (fun c73 => ?_)
                  ·
                    replace hf := (if_pos c73).symm.trans hf
                    refine lv_aload_n hx hb dX12_leave_160 rfl (lv_at hl 1 rfl) ?_
                    refine lv_dup hx hb dX12_leave_161 rfl ?_
                    refine rG_99 (v := (σ.i 99)) hx hb hts i_X12_leave_X12 hown hK hP (hts (.fieldLink RX12 586 "StatementRules2Model" "recs" "I") k_X12_leave_fieldLink_RX12_586_SRModel_recs_I) dX12_leave_162 rfl ?_
                    refine lv_iconst (v := 1) hx hb dX12_leave_165 (by decide) ?_
                    refine lv_isub hx hb dX12_leave_166 ?_
                    refine rP_99 hx hb hts i_X12_leave_X12 hown hK hP hD hS (hts (.fieldLink RX12 586 "StatementRules2Model" "recs" "I") k_X12_leave_fieldLink_RX12_586_SRModel_recs_I) dX12_leave_167 (fun H locs hP hD hS => ?_)
                    refine lv_goto (tgt := 0) hx hb dX12_leave_170 (by decide) ?_
                    exact ih (RS.setI σ 99 ((σ.i 99) - 1)) _ _ _ hf hP hD hS (lv_sub hl [1] rfl)
                  ·
                    replace hf := (if_neg c73).symm.trans hf
                    refine lv_aload_n hx hb dX12_leave_151 rfl (lv_at hl 1 rfl) ?_
                    refine lv_iload_n hx hb dX12_leave_152 rfl (lv_at hl 0 rfl) ?_
                    obtain ⟨p74, hcp74, hf⟩ := hf_bind hf
                    have hFc := r_free hD hS hA
                    refine va_calli (va_runV (As := [.int ((σ.i 99) - 1)]) (rest := []) ⟨hx, hb, hml, hown, hts⟩ (c_X12_finals l dC dI _ Q N σ ((σ.i 99) - 1) p74 hcp74) (cwV 1 hts hX12_leave_X12_finals_v630 rfl rfl rfl (by decide +kernel) ⟨Nat.le_of_ble_eq_true rfl, Nat.le_of_ble_eq_true rfl⟩) ⟨zPre.blind, va_recv hK hP (ci := 11) (q0 := 0) rfl rfl, zPre.go hZ hP hK hD⟩ rfl rfl hl.1 rfl (lv_room (Nat.le_of_ble_eq_true rfl)) dX12_leave_153 ⟨Nat.le_of_ble_eq_true rfl, Nat.le_of_ble_eq_true rfl⟩) hS (fun q _ h => hFc q h) hFc (fun r75 u9 t9 H1 locs ht hvm hw hB hz1 hk1 hS => ?_)
                    obtain ⟨hP, hK1, hD1⟩ := hB
                    rw [ht] at hP
                    have hD := hD1.weaken (fun _ _ _ h => hFc _ h)
                    generalize H1 = H at hP hS ⊢
                    obtain rfl : r75 = p74.1 := hw
                    refine lv_if_eq (tgt := 160) hx hb dX12_leave_156 (by decide) (fun c76 => ?_) (fun c76 => ?_)
                    ·
                      replace hf := (if_pos c76).symm.trans hf
                      refine lv_aload_n hx hb dX12_leave_160 rfl (lv_at hl 1 rfl) ?_
                      refine lv_dup hx hb dX12_leave_161 rfl ?_
                      refine rG_99 (v := (p74.2.i 99)) hx hb hts i_X12_leave_X12 hown hK hP (hts (.fieldLink RX12 586 "StatementRules2Model" "recs" "I") k_X12_leave_fieldLink_RX12_586_SRModel_recs_I) dX12_leave_162 rfl ?_
                      refine lv_iconst (v := 1) hx hb dX12_leave_165 (by decide) ?_
                      refine lv_isub hx hb dX12_leave_166 ?_
                      refine rP_99 hx hb hts i_X12_leave_X12 hown hK hP hD hS (hts (.fieldLink RX12 586 "StatementRules2Model" "recs" "I") k_X12_leave_fieldLink_RX12_586_SRModel_recs_I) dX12_leave_167 (fun H locs hP hD hS => ?_)
                      refine lv_goto (tgt := 0) hx hb dX12_leave_170 (by decide) ?_
                      exact ih (RS.setI p74.2 99 ((p74.2.i 99) - 1)) _ _ _ hf hP hD hS (lv_sub hl [1] rfl)
                    ·
                      replace hf := (if_neg c76).symm.trans hf
                      obtain rfl := Option.some.inj hf
                      exact W.vret hx hb hr (fun t ht hW => ⟨⟨(), rfl, trivial, by rw [ht]; exact hP, va_K.moved hW.alike hK, hD⟩, hS.F ht⟩) hS.2.2 dX12_leave_159
                ·
                  replace hf := (if_pos c72).symm.trans hf
                  refine lv_aload_n hx hb dX12_leave_119 rfl (lv_at hl 1 rfl) ?_
                  refine lv_iload_n hx hb dX12_leave_120 rfl (lv_at hl 0 rfl) ?_
                  obtain ⟨p77, hcp77, hf⟩ := hf_bind hf
                  have hFc := r_free hD hS hA
                  refine va_callv (va_runV (As := [.int ((σ.i 99) - 1)]) (rest := []) ⟨hx, hb, hml, hown, hts⟩ (c_X12_closeAll l dC dI _ Q N σ ((σ.i 99) - 1) p77 hcp77) (cwV 1 hts hX12_leave_X12_closeAll_v624 rfl rfl rfl (by decide +kernel) ⟨Nat.le_of_ble_eq_true rfl, Nat.le_of_ble_eq_true rfl⟩) ⟨zPre.blind, va_recv hK hP (ci := 11) (q0 := 0) rfl rfl, zPre.go hZ hP hK hD⟩ rfl rfl hl.1 rfl (lv_room (Nat.le_of_ble_eq_true rfl)) dX12_leave_121 ⟨Nat.le_of_ble_eq_true rfl, Nat.le_of_ble_eq_true rfl⟩) hS (fun q _ h => hFc q h) hFc (fun u9 t9 H1 locs ht hvm hw hB hz1 hk1 hS => ?_)
                  obtain ⟨hP, hK1, hD1⟩ := hB
                  rw [ht] at hP
                  have hD := hD1.weaken (fun _ _ _ h => hFc _ h)
                  generalize H1 = H at hP hS ⊢
                  refine lv_aload_n hx hb dX12_leave_124 rfl (lv_at hl 1 rfl) ?_
                  refine rG_110 (v := (p77.i 110)) hx hb hts i_X12_leave_X12 hown hK hP (hts (.fieldLink RX12 597 "StatementRules2Model" "how" "I") k_X12_leave_fieldLink_RX12_597_SRModel_how_I) dX12_leave_125 rfl ?_
                  refine lv_iconst (v := 3) hx hb dX12_leave_128 (by decide) ?_
                  refine lv_icmp_ne (tgt := 141) hx hb dX12_leave_129 (by decide) (fun c79 => ?_) (fun c79 => ?_)
                  ·
                    replace hf := (if_neg c79).symm.trans hf
                    refine lv_aload_n hx hb dX12_leave_141 rfl (lv_at hl 1 rfl) ?_
                    refine rG_102 hx hb hts i_X12_leave_X12 hown hK hP (hts (.fieldLink RX12 249 "StatementRules2Model" "rb" "[I") k_X12_leave_fieldLink_RX12_249_SRModel_rb_I) dX12_leave_142 ?_
                    refine lv_iload_n hx hb dX12_leave_145 rfl (lv_at hl 0 rfl) ?_
                    refine rL_102 (v := (p77.a 102 ((((σ.i 99) - 1) : Int32).toNatClampNeg))) hx hb hK hP b68 dX12_leave_146 rfl ?_
                    refine lv_iconst (v := 2) hx hb dX12_leave_147 (by decide) ?_
                    refine lv_icmp_ge (tgt := 160) hx hb dX12_leave_148 (by decide) (fun c80 => ?_) (fun c80 => ?_)
                    ·
                      replace hf := (if_pos c80).symm.trans hf
                      refine lv_aload_n hx hb dX12_leave_160 rfl (lv_at hl 1 rfl) ?_
                      refine lv_dup hx hb dX12_leave_161 rfl ?_
                      refine rG_99 (v := (p77.i 99)) hx hb hts i_X12_leave_X12 hown hK hP (hts (.fieldLink RX12 586 "StatementRules2Model" "recs" "I") k_X12_leave_fieldLink_RX12_586_SRModel_recs_I) dX12_leave_162 rfl ?_
                      refine lv_iconst (v := 1) hx hb dX12_leave_165 (by decide) ?_
                      refine lv_isub hx hb dX12_leave_166 ?_
                      refine rP_99 hx hb hts i_X12_leave_X12 hown hK hP hD hS (hts (.fieldLink RX12 586 "StatementRules2Model" "recs" "I") k_X12_leave_fieldLink_RX12_586_SRModel_recs_I) dX12_leave_167 (fun H locs hP hD hS => ?_)
                      refine lv_goto (tgt := 0) hx hb dX12_leave_170 (by decide) ?_
                      exact ih (RS.setI p77 99 ((p77.i 99) - 1)) _ _ _ hf hP hD hS (lv_sub hl [1] rfl)
                    ·
                      replace hf := (if_neg c80).symm.trans hf
                      refine lv_aload_n hx hb dX12_leave_151 rfl (lv_at hl 1 rfl) ?_
                      refine lv_iload_n hx hb dX12_leave_152 rfl (lv_at hl 0 rfl) ?_
                      obtain ⟨p81, hcp81, hf⟩ := hf_bind hf
                      have hFc := r_free hD hS hA
                      refine va_calli (va_runV (As := [.int ((σ.i 99) - 1)]) (rest := []) ⟨hx, hb, hml, hown, hts⟩ (c_X12_finals l dC dI _ Q N p77 ((σ.i 99) - 1) p81 hcp81) (cwV 1 hts hX12_leave_X12_finals_v630 rfl rfl rfl (by decide +kernel) ⟨Nat.le_of_ble_eq_true rfl, Nat.le_of_ble_eq_true rfl⟩) ⟨zPre.blind, va_recv hK hP (ci := 11) (q0 := 0) rfl rfl, zPre.go hZ hP hK hD⟩ rfl rfl hl.1 rfl (lv_room (Nat.le_of_ble_eq_true rfl)) dX12_leave_153 ⟨Nat.le_of_ble_eq_true rfl, Nat.le_of_ble_eq_true rfl⟩) hS (fun q _ h => hFc q h) hFc (fun r82 u9 t9 H1 locs ht hvm hw hB hz1 hk1 hS => ?_)
                      obtain ⟨hP, hK1, hD1⟩ := hB
                      rw [ht] at hP
                      have hD := hD1.weaken (fun _ _ _ h => hFc _ h)
                      generalize H1 = H at hP hS ⊢
                      obtain rfl : r82 = p81.1 := hw
                      refine lv_if_eq (tgt := 160) hx hb dX12_leave_156 (by decide) (fun c83 => ?_) (fun c83 => ?_)
                      ·
                        replace hf := (if_pos c83).symm.trans hf
                        refine lv_aload_n hx hb dX12_leave_160 rfl (lv_at hl 1 rfl) ?_
                        refine lv_dup hx hb dX12_leave_161 rfl ?_
                        refine rG_99 (v := (p81.2.i 99)) hx hb hts i_X12_leave_X12 hown hK hP (hts (.fieldLink RX12 586 "StatementRules2Model" "recs" "I") k_X12_leave_fieldLink_RX12_586_SRModel_recs_I) dX12_leave_162 rfl ?_
                        refine lv_iconst (v := 1) hx hb dX12_leave_165 (by decide) ?_
                        refine lv_isub hx hb dX12_leave_166 ?_
                        refine rP_99 hx hb hts i_X12_leave_X12 hown hK hP hD hS (hts (.fieldLink RX12 586 "StatementRules2Model" "recs" "I") k_X12_leave_fieldLink_RX12_586_SRModel_recs_I) dX12_leave_167 (fun H locs hP hD hS => ?_)
                        refine lv_goto (tgt := 0) hx hb dX12_leave_170 (by decide) ?_
                        exact ih (RS.setI p81.2 99 ((p81.2.i 99) - 1)) _ _ _ hf hP hD hS (lv_sub hl [1] rfl)
                      ·
                        replace hf := (if_neg c83).symm.trans hf
                        obtain rfl := Option.some.inj hf
                        exact W.vret hx hb hr (fun t ht hW => ⟨⟨(), rfl, trivial, by rw [ht]; exact hP, va_K.moved hW.alike hK, hD⟩, hS.F ht⟩) hS.2.2 dX12_leave_159
                  ·
                    replace hf := (if_pos c79).symm.trans hf
                    refine lv_aload_n hx hb dX12_leave_132 rfl (lv_at hl 1 rfl) ?_
                    refine lv_iload_n hx hb dX12_leave_133 rfl (lv_at hl 0 rfl) ?_
                    obtain ⟨p84, hcp84, hf⟩ := hf_bind hf
                    have hFc := r_free hD hS hA
                    refine va_calli (va_runV (As := [.int ((σ.i 99) - 1)]) (rest := []) ⟨hx, hb, hml, hown, hts⟩ (c_X12_isCaught l dC dI _ Q N p77 ((σ.i 99) - 1) p84 hcp84) (cwV 1 hts hX12_leave_X12_isCaught_v627 rfl rfl rfl (by decide +kernel) ⟨Nat.le_of_ble_eq_true rfl, Nat.le_of_ble_eq_true rfl⟩) ⟨zPre.blind, va_recv hK hP (ci := 11) (q0 := 0) rfl rfl, zPre.go hZ hP hK hD⟩ rfl rfl hl.1 rfl (lv_room (Nat.le_of_ble_eq_true rfl)) dX12_leave_134 ⟨Nat.le_of_ble_eq_true rfl, Nat.le_of_ble_eq_true rfl⟩) hS (fun q _ h => hFc q h) hFc (fun r85 u9 t9 H1 locs ht hvm hw hB hz1 hk1 hS => ?_)
                    obtain ⟨hP, hK1, hD1⟩ := hB
                    rw [ht] at hP
                    have hD := hD1.weaken (fun _ _ _ h => hFc _ h)
                    generalize H1 = H at hP hS ⊢
                    obtain rfl : r85 = p84.1 := hw
                    refine lv_if_eq (tgt := 141) hx hb dX12_leave_137 (by decide) (fun c86 => ?_) (fun c86 => ?_)
                    ·
                      replace hf := (if_pos c86).symm.trans hf
                      refine lv_aload_n hx hb dX12_leave_141 rfl (lv_at hl 1 rfl) ?_
                      refine rG_102 hx hb hts i_X12_leave_X12 hown hK hP (hts (.fieldLink RX12 249 "StatementRules2Model" "rb" "[I") k_X12_leave_fieldLink_RX12_249_SRModel_rb_I) dX12_leave_142 ?_
                      refine lv_iload_n hx hb dX12_leave_145 rfl (lv_at hl 0 rfl) ?_
                      refine rL_102 (v := (p84.2.a 102 ((((σ.i 99) - 1) : Int32).toNatClampNeg))) hx hb hK hP b68 dX12_leave_146 rfl ?_
                      refine lv_iconst (v := 2) hx hb dX12_leave_147 (by decide) ?_
                      refine lv_icmp_ge (tgt := 160) hx hb dX12_leave_148 (by decide) (fun c87 => ?_) (fun c87 => ?_)
                      ·
                        replace hf := (if_pos c87).symm.trans hf
                        refine lv_aload_n hx hb dX12_leave_160 rfl (lv_at hl 1 rfl) ?_
                        refine lv_dup hx hb dX12_leave_161 rfl ?_
                        refine rG_99 (v := (p84.2.i 99)) hx hb hts i_X12_leave_X12 hown hK hP (hts (.fieldLink RX12 586 "StatementRules2Model" "recs" "I") k_X12_leave_fieldLink_RX12_586_SRModel_recs_I) dX12_leave_162 rfl ?_
                        refine lv_iconst (v := 1) hx hb dX12_leave_165 (by decide) ?_
                        refine lv_isub hx hb dX12_leave_166 ?_
                        refine rP_99 hx hb hts i_X12_leave_X12 hown hK hP hD hS (hts (.fieldLink RX12 586 "StatementRules2Model" "recs" "I") k_X12_leave_fieldLink_RX12_586_SRModel_recs_I) dX12_leave_167 (fun H locs hP hD hS => ?_)
                        refine lv_goto (tgt := 0) hx hb dX12_leave_170 (by decide) ?_
                        exact ih (RS.setI p84.2 99 ((p84.2.i 99) - 1)) _ _ _ hf hP hD hS (lv_sub hl [1] rfl)
                      ·
                        replace hf := (if_neg c87).symm.trans hf
                        refine lv_aload_n hx hb dX12_leave_151 rfl (lv_at hl 1 rfl) ?_
                        refine lv_iload_n hx hb dX12_leave_152 rfl (lv_at hl 0 rfl) ?_
                        obtain ⟨p88, hcp88, hf⟩ := hf_bind hf
                        have hFc := r_free hD hS hA
                        refine va_calli (va_runV (As := [.int ((σ.i 99) - 1)]) (rest := []) ⟨hx, hb, hml, hown, hts⟩ (c_X12_finals l dC dI _ Q N p84.2 ((σ.i 99) - 1) p88 hcp88) (cwV 1 hts hX12_leave_X12_finals_v630 rfl rfl rfl (by decide +kernel) ⟨Nat.le_of_ble_eq_true rfl, Nat.le_of_ble_eq_true rfl⟩) ⟨zPre.blind, va_recv hK hP (ci := 11) (q0 := 0) rfl rfl, zPre.go hZ hP hK hD⟩ rfl rfl hl.1 rfl (lv_room (Nat.le_of_ble_eq_true rfl)) dX12_leave_153 ⟨Nat.le_of_ble_eq_true rfl, Nat.le_of_ble_eq_true rfl⟩) hS (fun q _ h => hFc q h) hFc (fun r89 u9 t9 H1 locs ht hvm hw hB hz1 hk1 hS => ?_)
                        obtain ⟨hP, hK1, hD1⟩ := hB
                        rw [ht] at hP
                        have hD := hD1.weaken (fun _ _ _ h => hFc _ h)
                        generalize H1 = H at hP hS ⊢
                        obtain rfl : r89 = p88.1 := hw
                        refine lv_if_eq (tgt := 160) hx hb dX12_leave_156 (by decide) (fun c90 => ?_) (fun c90 => ?_)
                        ·
                          replace hf := (if_pos c90).symm.trans hf
                          refine lv_aload_n hx hb dX12_leave_160 rfl (lv_at hl 1 rfl) ?_
                          refine lv_dup hx hb dX12_leave_161 rfl ?_
                          refine rG_99 (v := (p88.2.i 99)) hx hb hts i_X12_leave_X12 hown hK hP (hts (.fieldLink RX12 586 "StatementRules2Model" "recs" "I") k_X12_leave_fieldLink_RX12_586_SRModel_recs_I) dX12_leave_162 rfl ?_
                          refine lv_iconst (v := 1) hx hb dX12_leave_165 (by decide) ?_
                          refine lv_isub hx hb dX12_leave_166 ?_
                          refine rP_99 hx hb hts i_X12_leave_X12 hown hK hP hD hS (hts (.fieldLink RX12 586 "StatementRules2Model" "recs" "I") k_X12_leave_fieldLink_RX12_586_SRModel_recs_I) dX12_leave_167 (fun H locs hP hD hS => ?_)
                          refine lv_goto (tgt := 0) hx hb dX12_leave_170 (by decide) ?_
                          exact ih (RS.setI p88.2 99 ((p88.2.i 99) - 1)) _ _ _ hf hP hD hS (lv_sub hl [1] rfl)
                        ·
                          replace hf := (if_neg c90).symm.trans hf
                          obtain rfl := Option.some.inj hf
                          exact W.vret hx hb hr (fun t ht hW => ⟨⟨(), rfl, trivial, by rw [ht]; exact hP, va_K.moved hW.alike hK, hD⟩, hS.F ht⟩) hS.2.2 dX12_leave_159
                    ·
                      replace hf := (if_neg c86).symm.trans hf
                      obtain rfl := Option.some.inj hf
                      exact W.vret hx hb hr (fun t ht hW => ⟨⟨(), rfl, trivial, by rw [ht]; exact hP, va_K.moved hW.alike hK, hD⟩, hS.F ht⟩) hS.2.2 dX12_leave_140
            ·
              replace hf := (if_pos c70).symm.trans hf
              refine lv_aload_n hx hb dX12_leave_87 rfl (lv_at hl 1 rfl) ?_
              refine lv_aload_n hx hb dX12_leave_88 rfl (lv_at hl 1 rfl) ?_
              refine rG_101 hx hb hts i_X12_leave_X12 hown hK hP (hts (.fieldLink RX12 246 "StatementRules2Model" "ra" "[I") k_X12_leave_fieldLink_RX12_246_SRModel_ra_I) dX12_leave_89 ?_
              refine lv_iload_n hx hb dX12_leave_92 rfl (lv_at hl 0 rfl) ?_
              refine rL_101 (v := (σ.a 101 ((((σ.i 99) - 1) : Int32).toNatClampNeg))) hx hb hK hP b68 dX12_leave_93 rfl ?_
              refine rP_97 hx hb hts i_X12_leave_X12 hown hK hP hD hS (hts (.fieldLink RX12 621 "StatementRules2Model" "waiting" "I") k_X12_leave_fieldLink_RX12_621_SRModel_waiting_I) dX12_leave_94 (fun H locs hP hD hS => ?_)
              refine lv_goto (tgt := 160) hx hb dX12_leave_97 (by decide) ?_
              refine lv_aload_n hx hb dX12_leave_160 rfl (lv_at hl 1 rfl) ?_
              refine lv_dup hx hb dX12_leave_161 rfl ?_
              refine rG_99 (v := (σ.i 99)) hx hb hts i_X12_leave_X12 hown hK hP (hts (.fieldLink RX12 586 "StatementRules2Model" "recs" "I") k_X12_leave_fieldLink_RX12_586_SRModel_recs_I) dX12_leave_162 rfl ?_
              refine lv_iconst (v := 1) hx hb dX12_leave_165 (by decide) ?_
              refine lv_isub hx hb dX12_leave_166 ?_
              refine rP_99 hx hb hts i_X12_leave_X12 hown hK hP hD hS (hts (.fieldLink RX12 586 "StatementRules2Model" "recs" "I") k_X12_leave_fieldLink_RX12_586_SRModel_recs_I) dX12_leave_167 (fun H locs hP hD hS => ?_)
              refine lv_goto (tgt := 0) hx hb dX12_leave_170 (by decide) ?_
              exact ih (RS.setI (RS.setI σ 97 (σ.a 101 ((((σ.i 99) - 1) : Int32).toNatClampNeg))) 99 ((σ.i 99) - 1)) _ _ _ hf hP hD hS (lv_sub hl [1] rfl)
          ·
            replace hf := (if_pos c69).symm.trans hf
            refine lv_aload_n hx hb dX12_leave_48 rfl (lv_at hl 1 rfl) ?_
            refine lv_iconst (v := 4) hx hb dX12_leave_49 (by decide) ?_
            refine lv_aload_n hx hb dX12_leave_50 rfl (lv_at hl 1 rfl) ?_
            refine rG_101 hx hb hts i_X12_leave_X12 hown hK hP (hts (.fieldLink RX12 246 "StatementRules2Model" "ra" "[I") k_X12_leave_fieldLink_RX12_246_SRModel_ra_I) dX12_leave_51 ?_
            refine lv_iload_n hx hb dX12_leave_54 rfl (lv_at hl 0 rfl) ?_
            refine rL_101 (v := (σ.a 101 ((((σ.i 99) - 1) : Int32).toNatClampNeg))) hx hb hK hP b68 dX12_leave_55 rfl ?_
            obtain ⟨p91, hcp91, hf⟩ := hf_bind hf
            have hFc := r_free hD hS hA
            refine va_callv (va_runV (As := [.int 4, .int (σ.a 101 ((((σ.i 99) - 1) : Int32).toNatClampNeg))]) (rest := []) ⟨hx, hb, hml, hown, hts⟩ (c_X12_row l dC dI _ Q N σ 4 (σ.a 101 ((((σ.i 99) - 1) : Int32).toNatClampNeg)) p91 hcp91) (cwV 2 hts hX12_leave_X12_row_v603 rfl rfl rfl (by decide +kernel) ⟨Nat.le_of_ble_eq_true rfl, Nat.le_of_ble_eq_true rfl⟩) ⟨zPre.blind, va_recv hK hP (ci := 11) (q0 := 0) rfl rfl, zPre.go hZ hP hK hD⟩ rfl rfl hl.1 rfl (lv_room (Nat.le_of_ble_eq_true rfl)) dX12_leave_56 ⟨Nat.le_of_ble_eq_true rfl, Nat.le_of_ble_eq_true rfl⟩) hS (fun q _ h => hFc q h) hFc (fun u9 t9 H1 locs ht hvm hw hB hz1 hk1 hS => ?_)
            obtain ⟨hP, hK1, hD1⟩ := hB
            rw [ht] at hP
            have hD := hD1.weaken (fun _ _ _ h => hFc _ h)
            generalize H1 = H at hP hS ⊢
            refine lv_aload_n hx hb dX12_leave_59 rfl (lv_at hl 1 rfl) ?_
            refine rG_91 hx hb hts i_X12_leave_X12 hown hK hP (hts (.fieldLink RX12 231 "StatementRules2Model" "held" "[I") k_X12_leave_fieldLink_RX12_231_SRModel_held_I) dX12_leave_60 ?_
            refine lv_aload_n hx hb dX12_leave_63 rfl (lv_at hl 1 rfl) ?_
            refine rG_101 hx hb hts i_X12_leave_X12 hown hK hP (hts (.fieldLink RX12 246 "StatementRules2Model" "ra" "[I") k_X12_leave_fieldLink_RX12_246_SRModel_ra_I) dX12_leave_64 ?_
            refine lv_iload_n hx hb dX12_leave_67 rfl (lv_at hl 0 rfl) ?_
            refine rL_101 (v := (p91.a 101 ((((σ.i 99) - 1) : Int32).toNatClampNeg))) hx hb hK hP b68 dX12_leave_68 rfl ?_
            refine lv_dup2_11 hx hb dX12_leave_69 rfl rfl ?_
            obtain ⟨b93, hf⟩ := hf_ite hf
            refine rL_91 (v := (p91.a 91 (((p91.a 101 ((((σ.i 99) - 1) : Int32).toNatClampNeg)) : Int32).toNatClampNeg))) hx hb hK hP b93 dX12_leave_70 rfl ?_
            refine lv_iconst (v := 1) hx hb dX12_leave_71 (by decide) ?_
            refine lv_isub hx hb dX12_leave_72 ?_
            refine rS_91 hx hb hK hP hD hS b93 dX12_leave_73 (fun H locs hP hD hS => ?_)
            refine lv_goto (tgt := 160) hx hb dX12_leave_74 (by decide) ?_
            refine lv_aload_n hx hb dX12_leave_160 rfl (lv_at hl 1 rfl) ?_
            refine lv_dup hx hb dX12_leave_161 rfl ?_
            refine rG_99 (v := (p91.i 99)) hx hb hts i_X12_leave_X12 hown hK hP (hts (.fieldLink RX12 586 "StatementRules2Model" "recs" "I") k_X12_leave_fieldLink_RX12_586_SRModel_recs_I) dX12_leave_162 rfl ?_
            refine lv_iconst (v := 1) hx hb dX12_leave_165 (by decide) ?_
            refine lv_isub hx hb dX12_leave_166 ?_
            refine rP_99 hx hb hts i_X12_leave_X12 hown hK hP hD hS (hts (.fieldLink RX12 586 "StatementRules2Model" "recs" "I") k_X12_leave_fieldLink_RX12_586_SRModel_recs_I) dX12_leave_167 (fun H locs hP hD hS => ?_)
            refine lv_goto (tgt := 0) hx hb dX12_leave_170 (by decide) ?_
            exact ih (RS.setI (RS.setA p91 91 (((p91.a 101 ((((σ.i 99) - 1) : Int32).toNatClampNeg)) : Int32).toNatClampNeg) ((p91.a 91 (((p91.a 101 ((((σ.i 99) - 1) : Int32).toNatClampNeg)) : Int32).toNatClampNeg)) - 1)) 99 ((p91.i 99) - 1)) _ _ _ hf hP hD hS (lv_sub hl [1] rfl)
set_option maxHeartbeats 4000000 in
set_option maxRecDepth 100000 in
theorem c_X12_leave (l : Launch) (dC : Nat → ClassId) (dI : Nat → Nat → Nat) (sz : Nat) (Q : RQ) (N : Nat) (σ : RS) (R : RS) (hf : f_X12_leave N σ = some R) : Met l yX12_leave wzX12_leave ({ frames := 3, cells := 0, slots := 0, locals := 180 }) (va_Pc [.ref Q.h0] (zPre dC dI sz (rW Q σ) (rT Q))) (va_Qv (fun (_ : Unit) => True) (fun (_ : Unit) (t : State) => zPost dC dI (va_A (rW Q σ) sz) (rW Q R) (rT Q) t) (va_A (rW Q σ) sz)) 0 0 (va_A (rW Q σ) sz) := by
  refine Met.ofW (cc := cX12_leave) (maxL := 2) (ret := none) (by decide) rfl ?_
  intro p e s m args below meth c s₁ B hml hv
  obtain ⟨rfl, hsz, hZ, hP, hK, hD0⟩ := hv
  have hx := B.exec
  have hb := B.bytes
  have hr := B.returns
  have hts := atoms_spec (ws := wzX12_leave) B.pre
  have hown : s.vm.findClass RX12 = some m.cls := findClass_of_methodNamed B.named
  have hlocks := B.notSynchronized
  subst hsz
  have hD := hD0.self (sz := s.heap.size)
  generalize hAe : va_A (rW Q σ) s.heap.size = A at hD ⊢
  have hA : ∀ q : Nat, s.heap.size ≤ q → A q := fun q h => by rw [← hAe]; exact Or.inr h
  have hS : va_S A s.heap s.heap [] := va_S.rf
  have hl := lv_entry ([.ref Q.h0]) (n := 2) (Nat.le_of_ble_eq_true rfl)
  rw [lg_entry_eq]
  generalize (lg_sl ([.ref Q.h0]) ++ List.replicate (2 - (lg_sl ([.ref Q.h0])).length) Slot.unset).toArray = ls at hl ⊢
  have hl : lv_has ls 2 [(0, .ref Q.h0)] := hl
  unfold f_X12_leave at hf
  exact j_X12_leave_0 l dC dI Q N R hx hb hr hml hown hts hlocks hZ hA hK N σ _ _ _ hf hP hD hS (lv_sub hl [0] rfl)
end
section
theorem k_X12_step_fieldLink_RX12_639_SRModel_steps_I : Cond.fieldLink RX12 639 "StatementRules2Model" "steps" "I" ∈ wzX12_step := List.mem_cons_of_mem _ (List.mem_append_left _ (List.mem_of_getElem? (i := 0) rfl))
theorem i_X12_step_X12 : ∀ w ∈ wsX120, w ∈ wzX12_step := fun _ h => List.mem_cons_of_mem _ (List.mem_append_right _ (List.mem_append_left _ (h)))
theorem k_X12_step_fieldLink_RX12_636_SRModel_ended_I : Cond.fieldLink RX12 636 "StatementRules2Model" "ended" "I" ∈ wzX12_step := List.mem_cons_of_mem _ (List.mem_append_left _ (List.mem_of_getElem? (i := 1) rfl))
theorem k_X12_step_fieldLink_RX12_618_SRModel_pc_I : Cond.fieldLink RX12 618 "StatementRules2Model" "pc" "I" ∈ wzX12_step := List.mem_cons_of_mem _ (List.mem_append_left _ (List.mem_of_getElem? (i := 2) rfl))
set_option maxHeartbeats 4000000 in
set_option maxRecDepth 100000 in
theorem c_X12_step (l : Launch) (dC : Nat → ClassId) (dI : Nat → Nat → Nat) (sz : Nat) (Q : RQ) (N : Nat) (σ : RS) (R : RS) (hf : f_X12_step N σ = some R) : Met l yX12_step wzX12_step ({ frames := 1, cells := 0, slots := 0, locals := 60 }) (va_Pc [.ref Q.h0] (zPre dC dI sz (rW Q σ) (rT Q))) (va_Qv (fun (_ : Unit) => True) (fun (_ : Unit) (t : State) => zPost dC dI (va_A (rW Q σ) sz) (rW Q R) (rT Q) t) (va_A (rW Q σ) sz)) 0 0 (va_A (rW Q σ) sz) := by
  refine Met.ofW (cc := cX12_step) (maxL := 1) (ret := none) (by decide) rfl ?_
  intro p e s m args below meth c s₁ B hml hv
  obtain ⟨rfl, hsz, hZ, hP, hK, hD0⟩ := hv
  have hx := B.exec
  have hb := B.bytes
  have hr := B.returns
  have hts := atoms_spec (ws := wzX12_step) B.pre
  have hown : s.vm.findClass RX12 = some m.cls := findClass_of_methodNamed B.named
  have hlocks := B.notSynchronized
  subst hsz
  have hD := hD0.self (sz := s.heap.size)
  generalize hAe : va_A (rW Q σ) s.heap.size = A at hD ⊢
  have hA : ∀ q : Nat, s.heap.size ≤ q → A q := fun q h => by rw [← hAe]; exact Or.inr h
  have hS : va_S A s.heap s.heap [] := va_S.rf
  have hl := lv_entry ([.ref Q.h0]) (n := 1) (Nat.le_of_ble_eq_true rfl)
  rw [lg_entry_eq]
  generalize (lg_sl ([.ref Q.h0]) ++ List.replicate (1 - (lg_sl ([.ref Q.h0])).length) Slot.unset).toArray = ls at hl ⊢
  have hl : lv_has ls 1 [(0, .ref Q.h0)] := hl
  unfold f_X12_step at hf
  refine lv_aload_n hx hb dX12_step_0 rfl (lv_at hl 0 rfl) ?_
  refine rG_80 (v := (σ.i 80)) hx hb hts i_X12_step_X12 hown hK hP (hts (.fieldLink RX12 639 "StatementRules2Model" "steps" "I") k_X12_step_fieldLink_RX12_639_SRModel_steps_I) dX12_step_1 rfl ?_
  refine lv_sipush (v := 1000) hx hb dX12_step_4 (by decide) ?_
  refine lv_icmp_ne (tgt := 21) hx hb dX12_step_7 (by decide) (fun c1 => ?_) (fun c1 => ?_)
  ·
    replace hf := (if_neg c1).symm.trans hf
    refine lv_aload_n hx hb dX12_step_21 rfl (lv_at hl 0 rfl) ?_
    refine lv_dup hx hb dX12_step_22 rfl ?_
    refine rG_80 (v := (σ.i 80)) hx hb hts i_X12_step_X12 hown hK hP (hts (.fieldLink RX12 639 "StatementRules2Model" "steps" "I") k_X12_step_fieldLink_RX12_639_SRModel_steps_I) dX12_step_23 rfl ?_
    refine lv_iconst (v := 1) hx hb dX12_step_26 (by decide) ?_
    refine lv_iadd hx hb dX12_step_27 ?_
    refine rP_80 hx hb hts i_X12_step_X12 hown hK hP hD hS (hts (.fieldLink RX12 639 "StatementRules2Model" "steps" "I") k_X12_step_fieldLink_RX12_639_SRModel_steps_I) dX12_step_28 (fun H locs hP hD hS => ?_)
    obtain rfl := Option.some.inj hf
    exact W.vret hx hb hr (fun t ht hW => ⟨⟨(), rfl, trivial, by rw [ht]; exact hP, va_K.moved hW.alike hK, hD⟩, hS.F ht⟩) hS.2.2 dX12_step_31
  ·
    replace hf := (if_pos c1).symm.trans hf
    refine lv_aload_n hx hb dX12_step_10 rfl (lv_at hl 0 rfl) ?_
    refine lv_iconst (v := 5) hx hb dX12_step_11 (by decide) ?_
    refine rP_115 hx hb hts i_X12_step_X12 hown hK hP hD hS (hts (.fieldLink RX12 636 "StatementRules2Model" "ended" "I") k_X12_step_fieldLink_RX12_636_SRModel_ended_I) dX12_step_12 (fun H locs hP hD hS => ?_)
    refine lv_aload_n hx hb dX12_step_15 rfl (lv_at hl 0 rfl) ?_
    refine lv_iconst (v := (-1)) hx hb dX12_step_16 (by decide) ?_
    refine rP_92 hx hb hts i_X12_step_X12 hown hK hP hD hS (hts (.fieldLink RX12 618 "StatementRules2Model" "pc" "I") k_X12_step_fieldLink_RX12_618_SRModel_pc_I) dX12_step_17 (fun H locs hP hD hS => ?_)
    obtain rfl := Option.some.inj hf
    exact W.vret hx hb hr (fun t ht hW => ⟨⟨(), rfl, trivial, by rw [ht]; exact hP, va_K.moved hW.alike hK, hD⟩, hS.F ht⟩) hS.2.2 dX12_step_20
set_option maxHeartbeats 4000000 in
set_option maxRecDepth 100000 in
theorem c_X12_compute (l : Launch) (dC : Nat → ClassId) (dI : Nat → Nat → Nat) (sz : Nat) (Q : RQ) (N : Nat) (σ : RS) (x1 : Int32) (x2 : Int32) (x3 : Int32) (R : Int32 × RS) (hf : f_X12_compute N σ x1 x2 x3 = some R) : Met l yX12_compute wzX12_compute ({ frames := 1, cells := 0, slots := 0, locals := 60 }) (va_Pc [.ref Q.h0, .int x1, .int x2, .int x3] (zPre dC dI sz (rW Q σ) (rT Q))) (va_Qi (fun (r : Int32) (_ : Unit) => r = R.1) (fun (_ : Unit) (t : State) => zPost dC dI (va_A (rW Q σ) sz) (rW Q R.2) (rT Q) t) (va_A (rW Q σ) sz)) 0 0 (va_A (rW Q σ) sz) := by
  refine Met.ofW (cc := cX12_compute) (maxL := 4) (ret := (some .int)) (by decide) rfl ?_
  intro p e s m args below meth c s₁ B hml hv
  obtain ⟨rfl, hsz, hZ, hP, hK, hD0⟩ := hv
  have hx := B.exec
  have hb := B.bytes
  have hr := B.returns
  have hts := atoms_spec (ws := wzX12_compute) B.pre
  have hown : s.vm.findClass RX12 = some m.cls := findClass_of_methodNamed B.named
  have hlocks := B.notSynchronized
  subst hsz
  have hD := hD0.self (sz := s.heap.size)
  generalize hAe : va_A (rW Q σ) s.heap.size = A at hD ⊢
  have hA : ∀ q : Nat, s.heap.size ≤ q → A q := fun q h => by rw [← hAe]; exact Or.inr h
  have hS : va_S A s.heap s.heap [] := va_S.rf
  have hl := lv_entry ([.ref Q.h0, .int x1, .int x2, .int x3]) (n := 4) (Nat.le_of_ble_eq_true rfl)
  rw [lg_entry_eq]
  generalize (lg_sl ([.ref Q.h0, .int x1, .int x2, .int x3]) ++ List.replicate (4 - (lg_sl ([.ref Q.h0, .int x1, .int x2, .int x3])).length) Slot.unset).toArray = ls at hl ⊢
  have hl : lv_has ls 4 [(0, .ref Q.h0), (1, .int x1), (2, .int x2), (3, .int x3)] := hl
  unfold f_X12_compute at hf
  refine lv_iload_n hx hb dX12_compute_0 rfl (lv_at hl 1 rfl) ?_
  by_cases c1 : x1 = 37
  ·
    replace hf := (if_pos c1).symm.trans hf
    refine lv_lookup (off := 107) (tgt := 108) hx hb dX12_compute_1 (by decide) (by rw [c1]; decide) (by decide) ?_
    refine lv_iload_n hx hb dX12_compute_108 rfl (lv_at hl 2 rfl) ?_
    refine lv_iload_n hx hb dX12_compute_109 rfl (lv_at hl 3 rfl) ?_
    obtain ⟨b2, hf⟩ := hf_itn hf
    refine lv_irem hx hb dX12_compute_110 b2 ?_
    obtain rfl := Option.some.inj hf
    exact W.iret (v := (x2 - x2 / x3 * x3)) hx hb hr (fun t ht hW => ⟨⟨(x2 - x2 / x3 * x3), (), rfl, rfl, by rw [ht]; exact hP, va_K.moved hW.alike hK, hD⟩, hS.F ht⟩) hS.2.2 dX12_compute_111
  replace hf := (if_neg c1).symm.trans hf
  by_cases c3 : x1 = 42
  ·
    replace hf := (if_pos c3).symm.trans hf
    refine lv_lookup (off := 99) (tgt := 100) hx hb dX12_compute_1 (by decide) (by rw [c3]; decide) (by decide) ?_
    refine lv_iload_n hx hb dX12_compute_100 rfl (lv_at hl 2 rfl) ?_
    refine lv_iload_n hx hb dX12_compute_101 rfl (lv_at hl 3 rfl) ?_
    refine lv_imul hx hb dX12_compute_102 ?_
    obtain rfl := Option.some.inj hf
    exact W.iret (v := (x2 * x3)) hx hb hr (fun t ht hW => ⟨⟨(x2 * x3), (), rfl, rfl, by rw [ht]; exact hP, va_K.moved hW.alike hK, hD⟩, hS.F ht⟩) hS.2.2 dX12_compute_103
  replace hf := (if_neg c3).symm.trans hf
  by_cases c4 : x1 = 43
  ·
    replace hf := (if_pos c4).symm.trans hf
    refine lv_lookup (off := 91) (tgt := 92) hx hb dX12_compute_1 (by decide) (by rw [c4]; decide) (by decide) ?_
    refine lv_iload_n hx hb dX12_compute_92 rfl (lv_at hl 2 rfl) ?_
    refine lv_iload_n hx hb dX12_compute_93 rfl (lv_at hl 3 rfl) ?_
    refine lv_iadd hx hb dX12_compute_94 ?_
    obtain rfl := Option.some.inj hf
    exact W.iret (v := (x2 + x3)) hx hb hr (fun t ht hW => ⟨⟨(x2 + x3), (), rfl, rfl, by rw [ht]; exact hP, va_K.moved hW.alike hK, hD⟩, hS.F ht⟩) hS.2.2 dX12_compute_95
  replace hf := (if_neg c4).symm.trans hf
  by_cases c5 : x1 = 45
  ·
    replace hf := (if_pos c5).symm.trans hf
    refine lv_lookup (off := 95) (tgt := 96) hx hb dX12_compute_1 (by decide) (by rw [c5]; decide) (by decide) ?_
    refine lv_iload_n hx hb dX12_compute_96 rfl (lv_at hl 2 rfl) ?_
    refine lv_iload_n hx hb dX12_compute_97 rfl (lv_at hl 3 rfl) ?_
    refine lv_isub hx hb dX12_compute_98 ?_
    obtain rfl := Option.some.inj hf
    exact W.iret (v := (x2 - x3)) hx hb hr (fun t ht hW => ⟨⟨(x2 - x3), (), rfl, rfl, by rw [ht]; exact hP, va_K.moved hW.alike hK, hD⟩, hS.F ht⟩) hS.2.2 dX12_compute_99
  replace hf := (if_neg c5).symm.trans hf
  by_cases c6 : x1 = 47
  ·
    replace hf := (if_pos c6).symm.trans hf
    refine lv_lookup (off := 103) (tgt := 104) hx hb dX12_compute_1 (by decide) (by rw [c6]; decide) (by decide) ?_
    refine lv_iload_n hx hb dX12_compute_104 rfl (lv_at hl 2 rfl) ?_
    refine lv_iload_n hx hb dX12_compute_105 rfl (lv_at hl 3 rfl) ?_
    obtain ⟨b7, hf⟩ := hf_itn hf
    refine lv_idiv hx hb dX12_compute_106 b7 ?_
    obtain rfl := Option.some.inj hf
    exact W.iret (v := (x2 / x3)) hx hb hr (fun t ht hW => ⟨⟨(x2 / x3), (), rfl, rfl, by rw [ht]; exact hP, va_K.moved hW.alike hK, hD⟩, hS.F ht⟩) hS.2.2 dX12_compute_107
  replace hf := (if_neg c6).symm.trans hf
  by_cases c8 : x1 = 60
  ·
    replace hf := (if_pos c8).symm.trans hf
    refine lv_lookup (off := 111) (tgt := 112) hx hb dX12_compute_1 (by decide) (by rw [c8]; decide) (by decide) ?_
    refine lv_iload_n hx hb dX12_compute_112 rfl (lv_at hl 2 rfl) ?_
    refine lv_iload_n hx hb dX12_compute_113 rfl (lv_at hl 3 rfl) ?_
    refine lv_icmp_ge (tgt := 121) hx hb dX12_compute_114 (by decide) (fun c9 => ?_) (fun c9 => ?_)
    ·
      replace hf := (if_pos c9).symm.trans hf
      refine lv_iconst (v := 0) hx hb dX12_compute_121 (by decide) ?_
      obtain rfl := Option.some.inj hf
      exact W.iret (v := 0) hx hb hr (fun t ht hW => ⟨⟨0, (), rfl, rfl, by rw [ht]; exact hP, va_K.moved hW.alike hK, hD⟩, hS.F ht⟩) hS.2.2 dX12_compute_122
    ·
      replace hf := (if_neg c9).symm.trans hf
      refine lv_iconst (v := 1) hx hb dX12_compute_117 (by decide) ?_
      refine lv_goto (tgt := 122) hx hb dX12_compute_118 (by decide) ?_
      obtain rfl := Option.some.inj hf
      exact W.iret (v := 1) hx hb hr (fun t ht hW => ⟨⟨1, (), rfl, rfl, by rw [ht]; exact hP, va_K.moved hW.alike hK, hD⟩, hS.F ht⟩) hS.2.2 dX12_compute_122
  replace hf := (if_neg c8).symm.trans hf
  by_cases c10 : x1 = 62
  ·
    replace hf := (if_pos c10).symm.trans hf
    refine lv_lookup (off := 133) (tgt := 134) hx hb dX12_compute_1 (by decide) (by rw [c10]; decide) (by decide) ?_
    refine lv_iload_n hx hb dX12_compute_134 rfl (lv_at hl 2 rfl) ?_
    refine lv_iload_n hx hb dX12_compute_135 rfl (lv_at hl 3 rfl) ?_
    refine lv_icmp_le (tgt := 143) hx hb dX12_compute_136 (by decide) (fun c11 => ?_) (fun c11 => ?_)
    ·
      replace hf := (if_pos c11).symm.trans hf
      refine lv_iconst (v := 0) hx hb dX12_compute_143 (by decide) ?_
      obtain rfl := Option.some.inj hf
      exact W.iret (v := 0) hx hb hr (fun t ht hW => ⟨⟨0, (), rfl, rfl, by rw [ht]; exact hP, va_K.moved hW.alike hK, hD⟩, hS.F ht⟩) hS.2.2 dX12_compute_144
    ·
      replace hf := (if_neg c11).symm.trans hf
      refine lv_iconst (v := 1) hx hb dX12_compute_139 (by decide) ?_
      refine lv_goto (tgt := 144) hx hb dX12_compute_140 (by decide) ?_
      obtain rfl := Option.some.inj hf
      exact W.iret (v := 1) hx hb hr (fun t ht hW => ⟨⟨1, (), rfl, rfl, by rw [ht]; exact hP, va_K.moved hW.alike hK, hD⟩, hS.F ht⟩) hS.2.2 dX12_compute_144
  replace hf := (if_neg c10).symm.trans hf
  by_cases c12 : x1 = 300
  ·
    replace hf := (if_pos c12).symm.trans hf
    refine lv_lookup (off := 122) (tgt := 123) hx hb dX12_compute_1 (by decide) (by rw [c12]; decide) (by decide) ?_
    refine lv_iload_n hx hb dX12_compute_123 rfl (lv_at hl 2 rfl) ?_
    refine lv_iload_n hx hb dX12_compute_124 rfl (lv_at hl 3 rfl) ?_
    refine lv_icmp_gt (tgt := 132) hx hb dX12_compute_125 (by decide) (fun c13 => ?_) (fun c13 => ?_)
    ·
      replace hf := (if_pos c13).symm.trans hf
      refine lv_iconst (v := 0) hx hb dX12_compute_132 (by decide) ?_
      obtain rfl := Option.some.inj hf
      exact W.iret (v := 0) hx hb hr (fun t ht hW => ⟨⟨0, (), rfl, rfl, by rw [ht]; exact hP, va_K.moved hW.alike hK, hD⟩, hS.F ht⟩) hS.2.2 dX12_compute_133
    ·
      replace hf := (if_neg c13).symm.trans hf
      refine lv_iconst (v := 1) hx hb dX12_compute_128 (by decide) ?_
      refine lv_goto (tgt := 133) hx hb dX12_compute_129 (by decide) ?_
      obtain rfl := Option.some.inj hf
      exact W.iret (v := 1) hx hb hr (fun t ht hW => ⟨⟨1, (), rfl, rfl, by rw [ht]; exact hP, va_K.moved hW.alike hK, hD⟩, hS.F ht⟩) hS.2.2 dX12_compute_133
  replace hf := (if_neg c12).symm.trans hf
  by_cases c14 : x1 = 301
  ·
    replace hf := (if_pos c14).symm.trans hf
    refine lv_lookup (off := 144) (tgt := 145) hx hb dX12_compute_1 (by decide) (by rw [c14]; decide) (by decide) ?_
    refine lv_iload_n hx hb dX12_compute_145 rfl (lv_at hl 2 rfl) ?_
    refine lv_iload_n hx hb dX12_compute_146 rfl (lv_at hl 3 rfl) ?_
    refine lv_icmp_lt (tgt := 154) hx hb dX12_compute_147 (by decide) (fun c15 => ?_) (fun c15 => ?_)
    ·
      replace hf := (if_pos c15).symm.trans hf
      refine lv_iconst (v := 0) hx hb dX12_compute_154 (by decide) ?_
      obtain rfl := Option.some.inj hf
      exact W.iret (v := 0) hx hb hr (fun t ht hW => ⟨⟨0, (), rfl, rfl, by rw [ht]; exact hP, va_K.moved hW.alike hK, hD⟩, hS.F ht⟩) hS.2.2 dX12_compute_155
    ·
      replace hf := (if_neg c15).symm.trans hf
      refine lv_iconst (v := 1) hx hb dX12_compute_150 (by decide) ?_
      refine lv_goto (tgt := 155) hx hb dX12_compute_151 (by decide) ?_
      obtain rfl := Option.some.inj hf
      exact W.iret (v := 1) hx hb hr (fun t ht hW => ⟨⟨1, (), rfl, rfl, by rw [ht]; exact hP, va_K.moved hW.alike hK, hD⟩, hS.F ht⟩) hS.2.2 dX12_compute_155
  replace hf := (if_neg c14).symm.trans hf
  by_cases c16 : x1 = 302
  ·
    replace hf := (if_pos c16).symm.trans hf
    refine lv_lookup (off := 155) (tgt := 156) hx hb dX12_compute_1 (by decide) (by rw [c16]; decide) (by decide) ?_
    refine lv_iload_n hx hb dX12_compute_156 rfl (lv_at hl 2 rfl) ?_
    refine lv_iload_n hx hb dX12_compute_157 rfl (lv_at hl 3 rfl) ?_
    refine lv_icmp_ne (tgt := 165) hx hb dX12_compute_158 (by decide) (fun c17 => ?_) (fun c17 => ?_)
    ·
      replace hf := (if_neg c17).symm.trans hf
      refine lv_iconst (v := 0) hx hb dX12_compute_165 (by decide) ?_
      obtain rfl := Option.some.inj hf
      exact W.iret (v := 0) hx hb hr (fun t ht hW => ⟨⟨0, (), rfl, rfl, by rw [ht]; exact hP, va_K.moved hW.alike hK, hD⟩, hS.F ht⟩) hS.2.2 dX12_compute_166
    ·
      replace hf := (if_pos c17).symm.trans hf
      refine lv_iconst (v := 1) hx hb dX12_compute_161 (by decide) ?_
      refine lv_goto (tgt := 166) hx hb dX12_compute_162 (by decide) ?_
      obtain rfl := Option.some.inj hf
      exact W.iret (v := 1) hx hb hr (fun t ht hW => ⟨⟨1, (), rfl, rfl, by rw [ht]; exact hP, va_K.moved hW.alike hK, hD⟩, hS.F ht⟩) hS.2.2 dX12_compute_166
  replace hf := (if_neg c16).symm.trans hf
  refine lv_lookup (off := 166) (tgt := 167) hx hb dX12_compute_1 (by decide) (by show Op.lookupswitch.offset [(37, 107), (42, 99), (43, 91), (45, 95), (47, 103), (60, 111), (62, 133), (300, 122), (301, 144), (302, 155)] 166 (x1 : Int32).toInt = 166; rw [lv_osw (k := 37) (a := 37) c1 (by decide), lv_osw (k := 42) (a := 42) c3 (by decide), lv_osw (k := 43) (a := 43) c4 (by decide), lv_osw (k := 45) (a := 45) c5 (by decide), lv_osw (k := 47) (a := 47) c6 (by decide), lv_osw (k := 60) (a := 60) c8 (by decide), lv_osw (k := 62) (a := 62) c10 (by decide), lv_osw (k := 300) (a := 300) c12 (by decide), lv_osw (k := 301) (a := 301) c14 (by decide), lv_osw (k := 302) (a := 302) c16 (by decide)]; rfl) (by decide) ?_
  refine lv_iload_n hx hb dX12_compute_167 rfl (lv_at hl 2 rfl) ?_
  refine lv_iload_n hx hb dX12_compute_168 rfl (lv_at hl 3 rfl) ?_
  refine lv_icmp_eq (tgt := 176) hx hb dX12_compute_169 (by decide) (fun c18 => ?_) (fun c18 => ?_)
  ·
    replace hf := (if_pos c18).symm.trans hf
    refine lv_iconst (v := 0) hx hb dX12_compute_176 (by decide) ?_
    obtain rfl := Option.some.inj hf
    exact W.iret (v := 0) hx hb hr (fun t ht hW => ⟨⟨0, (), rfl, rfl, by rw [ht]; exact hP, va_K.moved hW.alike hK, hD⟩, hS.F ht⟩) hS.2.2 dX12_compute_177
  ·
    replace hf := (if_neg c18).symm.trans hf
    refine lv_iconst (v := 1) hx hb dX12_compute_172 (by decide) ?_
    refine lv_goto (tgt := 177) hx hb dX12_compute_173 (by decide) ?_
    obtain rfl := Option.some.inj hf
    exact W.iret (v := 1) hx hb hr (fun t ht hW => ⟨⟨1, (), rfl, rfl, by rw [ht]; exact hP, va_K.moved hW.alike hK, hD⟩, hS.F ht⟩) hS.2.2 dX12_compute_177
theorem k_X12_caseOf_fieldLink_RX12_102_SRModel_entryElse_Z : Cond.fieldLink RX12 102 "StatementRules2Model" "entryElse" "[Z" ∈ wzX12_caseOf := List.mem_cons_of_mem _ (List.mem_append_left _ (List.mem_of_getElem? (i := 0) rfl))
theorem i_X12_caseOf_X12 : ∀ w ∈ wsX120, w ∈ wzX12_caseOf := fun _ h => List.mem_cons_of_mem _ (List.mem_append_right _ (List.mem_append_left _ (h)))
theorem k_X12_caseOf_fieldLink_RX12_99_SRModel_entryNext_I : Cond.fieldLink RX12 99 "StatementRules2Model" "entryNext" "[I" ∈ wzX12_caseOf := List.mem_cons_of_mem _ (List.mem_append_left _ (List.mem_of_getElem? (i := 1) rfl))
theorem k_X12_caseOf_fieldLink_RX12_93_SRModel_entryValue_I : Cond.fieldLink RX12 93 "StatementRules2Model" "entryValue" "[I" ∈ wzX12_caseOf := List.mem_cons_of_mem _ (List.mem_append_left _ (List.mem_of_getElem? (i := 2) rfl))
set_option maxHeartbeats 4000000 in
set_option maxRecDepth 100000 in
theorem j_X12_caseOf_5 {p : Program} {e : Env} {s : State} {m : MethodId} {args : Array Value} {below : List Frame} {meth : Method} {c : Code} {A : Nat → Prop} (l : Launch) (dC : Nat → ClassId) (dI : Nat → Nat → Nat) (Q : RQ) (N : Nat) (R : Int32 × RS) (hx : p.tables.exec = Jvm.exec) (hb : c.code = cX12_caseOf) (hr : meth.sig.returnType = (some .int)) (hml : c.maxLocals = 5) (hown : s.vm.findClass RX12 = some m.cls) (hts : ∀ w ∈ wzX12_caseOf, w.before args s = true) (hlocks : meth.locks = false) (hZ : zAMB s) (hA : ∀ q : Nat, s.heap.size ≤ q → A q) (hK : va_K (dC, dI) vwCl (rT Q) s) : ∀ (n9 : Nat), ∀ (σ : RS) (x2 : Int32) (x3 : Int32) (x4 : Int32) (H : Heap) (locs : List Loc) (ls : Array Slot), f_X12_caseOf_5 N n9 σ x2 x3 x4 = some R → va_P (dC, dI) vwCl (rW Q σ) H → va_D A (rW Q σ) → va_S A s.heap H locs → lv_has ls 5 [(0, .ref Q.h0), (2, .int x2), (3, .int x3), (4, .int x4)] → W p l e ({ frames := 1, cells := 0, slots := 0, locals := 60 }) s m args below meth c H locs 0 0 (MQ below (va_Qi (fun (r : Int32) (_ : Unit) => r = R.1) (fun (_ : Unit) (t : State) => zPost dC dI A (rW Q R.2) (rT Q) t) A) args s 0 0 A) (F0 m 5 ls []) := by
  intro n9
  induction n9 with
  | zero => intro σ x2 x3 x4 H locs ls hf; exact absurd hf (by intro h9; cases h9)
  | succ n9 ih =>
    intro σ x2 x3 x4 H locs ls hf hP hD hS hl
    replace hf : b_X12_caseOf_5 N (f_X12_caseOf_5 N n9) σ x2 x3 x4 = some R := hf
    unfold b_X12_caseOf_5 at hf
    refine lv_iload hx hb dX12_caseOf_5 (lv_at hl 3 rfl) ?_
    refine lv_if_lt (tgt := 63) hx hb dX12_caseOf_7 (by decide) (fun c1 => ?_) (fun c1 => ?_)
    ·
      replace hf := (if_pos c1).symm.trans hf
      refine lv_iload_n hx hb dX12_caseOf_63 rfl (lv_at hl 2 rfl) ?_
      obtain rfl := Option.some.inj hf
      exact W.iret (v := x3) hx hb hr (fun t ht hW => ⟨⟨x3, (), rfl, rfl, by rw [ht]; exact hP, va_K.moved hW.alike hK, hD⟩, hS.F ht⟩) hS.2.2 dX12_caseOf_64
    ·
      replace hf := (if_neg c1).symm.trans hf
      refine lv_aload_n hx hb dX12_caseOf_10 rfl (lv_at hl 0 rfl) ?_
      refine rG_28 hx hb hts i_X12_caseOf_X12 hown hK hP (hts (.fieldLink RX12 102 "StatementRules2Model" "entryElse" "[Z") k_X12_caseOf_fieldLink_RX12_102_SRModel_entryElse_Z) dX12_caseOf_11 ?_
      refine lv_iload hx hb dX12_caseOf_14 (lv_at hl 3 rfl) ?_
      obtain ⟨b2, hf⟩ := hf_ite hf
      refine rL_28 (v := (σ.a 28 ((x4 : Int32).toNatClampNeg))) hx hb hK hP b2 dX12_caseOf_16 rfl ?_
      refine lv_if_ne (tgt := 34) hx hb dX12_caseOf_17 (by decide) (fun c3 => ?_) (fun c3 => ?_)
      ·
        replace hf := (if_neg c3).symm.trans hf
        refine lv_aload_n hx hb dX12_caseOf_34 rfl (lv_at hl 0 rfl) ?_
        refine rG_28 hx hb hts i_X12_caseOf_X12 hown hK hP (hts (.fieldLink RX12 102 "StatementRules2Model" "entryElse" "[Z") k_X12_caseOf_fieldLink_RX12_102_SRModel_entryElse_Z) dX12_caseOf_35 ?_
        refine lv_iload hx hb dX12_caseOf_38 (lv_at hl 3 rfl) ?_
        refine rL_28 (v := (σ.a 28 ((x4 : Int32).toNatClampNeg))) hx hb hK hP b2 dX12_caseOf_40 rfl ?_
        refine lv_if_eq (tgt := 49) hx hb dX12_caseOf_41 (by decide) (fun c9 => absurd c9 c3) (fun _ => ?_)
        refine lv_iload hx hb dX12_caseOf_44 (lv_at hl 3 rfl) ?_
        refine lv_goto (tgt := 50) hx hb dX12_caseOf_46 (by decide) ?_
        refine lv_istore_n (lv' := [(3, .int x4), (0, .ref Q.h0), (2, .int x2), (4, .int x4)]) hx hb dX12_caseOf_50 rfl hl (by decide) rfl (fun ls hl => ?_)
        refine lv_aload_n hx hb dX12_caseOf_51 rfl (lv_at hl 1 rfl) ?_
        refine rG_27 hx hb hts i_X12_caseOf_X12 hown hK hP (hts (.fieldLink RX12 99 "StatementRules2Model" "entryNext" "[I") k_X12_caseOf_fieldLink_RX12_99_SRModel_entryNext_I) dX12_caseOf_52 ?_
        refine lv_iload hx hb dX12_caseOf_55 (lv_at hl 3 rfl) ?_
        refine rL_27 (v := (σ.a 27 ((x4 : Int32).toNatClampNeg))) hx hb hK hP b2 dX12_caseOf_57 rfl ?_
        refine lv_istore (lv' := [(4, .int (σ.a 27 ((x4 : Int32).toNatClampNeg))), (3, .int x4), (0, .ref Q.h0), (2, .int x2)]) hx hb dX12_caseOf_58 hl (by decide) rfl (fun ls hl => ?_)
        refine lv_goto (tgt := 5) hx hb dX12_caseOf_60 (by decide) ?_
        exact ih σ x2 x4 (σ.a 27 ((x4 : Int32).toNatClampNeg)) _ _ _ hf hP hD hS (lv_sub hl [2, 3, 1, 0] rfl)
      ·
        replace hf := (if_pos c3).symm.trans hf
        refine lv_aload_n hx hb dX12_caseOf_20 rfl (lv_at hl 0 rfl) ?_
        refine rG_25 hx hb hts i_X12_caseOf_X12 hown hK hP (hts (.fieldLink RX12 93 "StatementRules2Model" "entryValue" "[I") k_X12_caseOf_fieldLink_RX12_93_SRModel_entryValue_I) dX12_caseOf_21 ?_
        refine lv_iload hx hb dX12_caseOf_24 (lv_at hl 3 rfl) ?_
        refine rL_25 (v := (σ.a 25 ((x4 : Int32).toNatClampNeg))) hx hb hK hP b2 dX12_caseOf_26 rfl ?_
        refine lv_iload_n hx hb dX12_caseOf_27 rfl (lv_at hl 1 rfl) ?_
        refine lv_icmp_ne (tgt := 34) hx hb dX12_caseOf_28 (by decide) (fun c5 => ?_) (fun c5 => ?_)
        ·
          replace hf := (if_neg c5).symm.trans hf
          refine lv_aload_n hx hb dX12_caseOf_34 rfl (lv_at hl 0 rfl) ?_
          refine rG_28 hx hb hts i_X12_caseOf_X12 hown hK hP (hts (.fieldLink RX12 102 "StatementRules2Model" "entryElse" "[Z") k_X12_caseOf_fieldLink_RX12_102_SRModel_entryElse_Z) dX12_caseOf_35 ?_
          refine lv_iload hx hb dX12_caseOf_38 (lv_at hl 3 rfl) ?_
          refine rL_28 (v := (σ.a 28 ((x4 : Int32).toNatClampNeg))) hx hb hK hP b2 dX12_caseOf_40 rfl ?_
          refine lv_if_eq (tgt := 49) hx hb dX12_caseOf_41 (by decide) (fun _ => ?_) (fun c9 => absurd c3 c9)
          refine lv_iload_n hx hb dX12_caseOf_49 rfl (lv_at hl 2 rfl) ?_
          refine lv_istore_n (lv' := [(3, .int x3), (0, .ref Q.h0), (2, .int x2), (4, .int x4)]) hx hb dX12_caseOf_50 rfl hl (by decide) rfl (fun ls hl => ?_)
          refine lv_aload_n hx hb dX12_caseOf_51 rfl (lv_at hl 1 rfl) ?_
          refine rG_27 hx hb hts i_X12_caseOf_X12 hown hK hP (hts (.fieldLink RX12 99 "StatementRules2Model" "entryNext" "[I") k_X12_caseOf_fieldLink_RX12_99_SRModel_entryNext_I) dX12_caseOf_52 ?_
          refine lv_iload hx hb dX12_caseOf_55 (lv_at hl 3 rfl) ?_
          refine rL_27 (v := (σ.a 27 ((x4 : Int32).toNatClampNeg))) hx hb hK hP b2 dX12_caseOf_57 rfl ?_
          refine lv_istore (lv' := [(4, .int (σ.a 27 ((x4 : Int32).toNatClampNeg))), (3, .int x3), (0, .ref Q.h0), (2, .int x2)]) hx hb dX12_caseOf_58 hl (by decide) rfl (fun ls hl => ?_)
          refine lv_goto (tgt := 5) hx hb dX12_caseOf_60 (by decide) ?_
          exact ih σ x2 x3 (σ.a 27 ((x4 : Int32).toNatClampNeg)) _ _ _ hf hP hD hS (lv_sub hl [2, 3, 1, 0] rfl)
        ·
          replace hf := (if_pos c5).symm.trans hf
          refine lv_iload hx hb dX12_caseOf_31 (lv_at hl 3 rfl) ?_
          obtain rfl := Option.some.inj hf
          exact W.iret (v := x4) hx hb hr (fun t ht hW => ⟨⟨x4, (), rfl, rfl, by rw [ht]; exact hP, va_K.moved hW.alike hK, hD⟩, hS.F ht⟩) hS.2.2 dX12_caseOf_33
set_option maxHeartbeats 4000000 in
set_option maxRecDepth 100000 in
theorem c_X12_caseOf (l : Launch) (dC : Nat → ClassId) (dI : Nat → Nat → Nat) (sz : Nat) (Q : RQ) (N : Nat) (σ : RS) (x1 : Int32) (x2 : Int32) (R : Int32 × RS) (hf : f_X12_caseOf N σ x1 x2 = some R) : Met l yX12_caseOf wzX12_caseOf ({ frames := 1, cells := 0, slots := 0, locals := 60 }) (va_Pc [.ref Q.h0, .int x1, .int x2] (zPre dC dI sz (rW Q σ) (rT Q))) (va_Qi (fun (r : Int32) (_ : Unit) => r = R.1) (fun (_ : Unit) (t : State) => zPost dC dI (va_A (rW Q σ) sz) (rW Q R.2) (rT Q) t) (va_A (rW Q σ) sz)) 0 0 (va_A (rW Q σ) sz) := by
  refine Met.ofW (cc := cX12_caseOf) (maxL := 5) (ret := (some .int)) (by decide) rfl ?_
  intro p e s m args below meth c s₁ B hml hv
  obtain ⟨rfl, hsz, hZ, hP, hK, hD0⟩ := hv
  have hx := B.exec
  have hb := B.bytes
  have hr := B.returns
  have hts := atoms_spec (ws := wzX12_caseOf) B.pre
  have hown : s.vm.findClass RX12 = some m.cls := findClass_of_methodNamed B.named
  have hlocks := B.notSynchronized
  subst hsz
  have hD := hD0.self (sz := s.heap.size)
  generalize hAe : va_A (rW Q σ) s.heap.size = A at hD ⊢
  have hA : ∀ q : Nat, s.heap.size ≤ q → A q := fun q h => by rw [← hAe]; exact Or.inr h
  have hS : va_S A s.heap s.heap [] := va_S.rf
  have hl := lv_entry ([.ref Q.h0, .int x1, .int x2]) (n := 5) (Nat.le_of_ble_eq_true rfl)
  rw [lg_entry_eq]
  generalize (lg_sl ([.ref Q.h0, .int x1, .int x2]) ++ List.replicate (5 - (lg_sl ([.ref Q.h0, .int x1, .int x2])).length) Slot.unset).toArray = ls at hl ⊢
  have hl : lv_has ls 5 [(0, .ref Q.h0), (1, .int x1), (2, .int x2)] := hl
  unfold f_X12_caseOf at hf
  refine lv_iconst (v := (-1)) hx hb dX12_caseOf_0 (by decide) ?_
  refine lv_istore_n (lv' := [(3, .int (-1)), (0, .ref Q.h0), (1, .int x1), (2, .int x2)]) hx hb dX12_caseOf_1 rfl hl (by decide) rfl (fun ls hl => ?_)
  refine lv_iload_n hx hb dX12_caseOf_2 rfl (lv_at hl 2 rfl) ?_
  refine lv_istore (lv' := [(4, .int x1), (3, .int (-1)), (0, .ref Q.h0), (1, .int x1), (2, .int x2)]) hx hb dX12_caseOf_3 hl (by decide) rfl (fun ls hl => ?_)
  exact j_X12_caseOf_5 l dC dI Q N R hx hb hr hml hown hts hlocks hZ hA hK N σ x2 (-1) x1 _ _ _ hf hP hD hS (lv_sub hl [2, 4, 1, 0] rfl)
theorem k_X12_goOn_fieldLink_RX12_586_SRModel_recs_I : Cond.fieldLink RX12 586 "StatementRules2Model" "recs" "I" ∈ wzX12_goOn := List.mem_cons_of_mem _ (List.mem_append_left _ (List.mem_of_getElem? (i := 0) rfl))
theorem i_X12_goOn_X12 : ∀ w ∈ wsX120, w ∈ wzX12_goOn := fun _ h => List.mem_cons_of_mem _ (List.mem_append_right _ (List.mem_append_left _ (h)))
theorem k_X12_goOn_fieldLink_RX12_111_SRModel_tryEnd_I : Cond.fieldLink RX12 111 "StatementRules2Model" "tryEnd" "[I" ∈ wzX12_goOn := List.mem_cons_of_mem _ (List.mem_append_left _ (List.mem_of_getElem? (i := 1) rfl))
theorem k_X12_goOn_fieldLink_RX12_246_SRModel_ra_I : Cond.fieldLink RX12 246 "StatementRules2Model" "ra" "[I" ∈ wzX12_goOn := List.mem_cons_of_mem _ (List.mem_append_left _ (List.mem_of_getElem? (i := 2) rfl))
theorem k_X12_goOn_fieldLink_RX12_618_SRModel_pc_I : Cond.fieldLink RX12 618 "StatementRules2Model" "pc" "I" ∈ wzX12_goOn := List.mem_cons_of_mem _ (List.mem_append_left _ (List.mem_of_getElem? (i := 3) rfl))
set_option maxHeartbeats 4000000 in
set_option maxRecDepth 100000 in
theorem c_X12_goOn (l : Launch) (dC : Nat → ClassId) (dI : Nat → Nat → Nat) (sz : Nat) (Q : RQ) (N : Nat) (σ : RS) (x1 : Int32) (R : RS) (hf : f_X12_goOn N σ x1 = some R) : Met l yX12_goOn wzX12_goOn ({ frames := 2, cells := 0, slots := 0, locals := 120 }) (va_Pc [.ref Q.h0, .int x1] (zPre dC dI sz (rW Q σ) (rT Q))) (va_Qv (fun (_ : Unit) => True) (fun (_ : Unit) (t : State) => zPost dC dI (va_A (rW Q σ) sz) (rW Q R) (rT Q) t) (va_A (rW Q σ) sz)) 0 0 (va_A (rW Q σ) sz) := by
  refine Met.ofW (cc := cX12_goOn) (maxL := 2) (ret := none) (by decide) rfl ?_
  intro p e s m args below meth c s₁ B hml hv
  obtain ⟨rfl, hsz, hZ, hP, hK, hD0⟩ := hv
  have hx := B.exec
  have hb := B.bytes
  have hr := B.returns
  have hts := atoms_spec (ws := wzX12_goOn) B.pre
  have hown : s.vm.findClass RX12 = some m.cls := findClass_of_methodNamed B.named
  have hlocks := B.notSynchronized
  subst hsz
  have hD := hD0.self (sz := s.heap.size)
  generalize hAe : va_A (rW Q σ) s.heap.size = A at hD ⊢
  have hA : ∀ q : Nat, s.heap.size ≤ q → A q := fun q h => by rw [← hAe]; exact Or.inr h
  have hS : va_S A s.heap s.heap [] := va_S.rf
  have hl := lv_entry ([.ref Q.h0, .int x1]) (n := 2) (Nat.le_of_ble_eq_true rfl)
  rw [lg_entry_eq]
  generalize (lg_sl ([.ref Q.h0, .int x1]) ++ List.replicate (2 - (lg_sl ([.ref Q.h0, .int x1])).length) Slot.unset).toArray = ls at hl ⊢
  have hl : lv_has ls 2 [(0, .ref Q.h0), (1, .int x1)] := hl
  unfold f_X12_goOn at hf
  refine lv_aload_n hx hb dX12_goOn_0 rfl (lv_at hl 0 rfl) ?_
  refine lv_iload_n hx hb dX12_goOn_1 rfl (lv_at hl 1 rfl) ?_
  obtain ⟨p1, hcp1, hf⟩ := hf_bind hf
  have hFc := r_free hD hS hA
  refine va_calli (va_runV (As := [.int x1]) (rest := []) ⟨hx, hb, hml, hown, hts⟩ (c_X12_finals l dC dI _ Q N σ x1 p1 hcp1) (cwV 1 hts hX12_goOn_X12_finals_v630 rfl rfl rfl (by decide +kernel) ⟨Nat.le_of_ble_eq_true rfl, Nat.le_of_ble_eq_true rfl⟩) ⟨zPre.blind, va_recv hK hP (ci := 11) (q0 := 0) rfl rfl, zPre.go hZ hP hK hD⟩ rfl rfl hl.1 rfl (lv_room (Nat.le_of_ble_eq_true rfl)) dX12_goOn_2 ⟨Nat.le_of_ble_eq_true rfl, Nat.le_of_ble_eq_true rfl⟩) hS (fun q _ h => hFc q h) hFc (fun r2 u9 t9 H1 locs ht hvm hw hB hz1 hk1 hS => ?_)
  obtain ⟨hP, hK1, hD1⟩ := hB
  rw [ht] at hP
  have hD := hD1.weaken (fun _ _ _ h => hFc _ h)
  generalize H1 = H at hP hS ⊢
  obtain rfl : r2 = p1.1 := hw
  refine lv_if_ne (tgt := 33) hx hb dX12_goOn_5 (by decide) (fun c3 => ?_) (fun c3 => ?_)
  ·
    replace hf := (if_neg c3).symm.trans hf
    obtain rfl := Option.some.inj hf
    exact W.vret hx hb hr (fun t ht hW => ⟨⟨(), rfl, trivial, by rw [ht]; exact hP, va_K.moved hW.alike hK, hD⟩, hS.F ht⟩) hS.2.2 dX12_goOn_33
  ·
    replace hf := (if_pos c3).symm.trans hf
    refine lv_aload_n hx hb dX12_goOn_8 rfl (lv_at hl 0 rfl) ?_
    refine lv_dup hx hb dX12_goOn_9 rfl ?_
    refine rG_99 (v := (p1.2.i 99)) hx hb hts i_X12_goOn_X12 hown hK hP (hts (.fieldLink RX12 586 "StatementRules2Model" "recs" "I") k_X12_goOn_fieldLink_RX12_586_SRModel_recs_I) dX12_goOn_10 rfl ?_
    refine lv_iconst (v := 1) hx hb dX12_goOn_13 (by decide) ?_
    refine lv_isub hx hb dX12_goOn_14 ?_
    refine rP_99 hx hb hts i_X12_goOn_X12 hown hK hP hD hS (hts (.fieldLink RX12 586 "StatementRules2Model" "recs" "I") k_X12_goOn_fieldLink_RX12_586_SRModel_recs_I) dX12_goOn_15 (fun H locs hP hD hS => ?_)
    refine lv_aload_n hx hb dX12_goOn_18 rfl (lv_at hl 0 rfl) ?_
    refine lv_aload_n hx hb dX12_goOn_19 rfl (lv_at hl 0 rfl) ?_
    refine rG_32 hx hb hts i_X12_goOn_X12 hown hK hP (hts (.fieldLink RX12 111 "StatementRules2Model" "tryEnd" "[I") k_X12_goOn_fieldLink_RX12_111_SRModel_tryEnd_I) dX12_goOn_20 ?_
    refine lv_aload_n hx hb dX12_goOn_23 rfl (lv_at hl 0 rfl) ?_
    refine rG_101 hx hb hts i_X12_goOn_X12 hown hK hP (hts (.fieldLink RX12 246 "StatementRules2Model" "ra" "[I") k_X12_goOn_fieldLink_RX12_246_SRModel_ra_I) dX12_goOn_24 ?_
    refine lv_iload_n hx hb dX12_goOn_27 rfl (lv_at hl 1 rfl) ?_
    obtain ⟨b4, hf⟩ := hf_ite hf
    refine rL_101 (v := (p1.2.a 101 ((x1 : Int32).toNatClampNeg))) hx hb hK hP b4 dX12_goOn_28 rfl ?_
    obtain ⟨b5, hf⟩ := hf_ite hf
    refine rL_32 (v := (p1.2.a 32 (((p1.2.a 101 ((x1 : Int32).toNatClampNeg)) : Int32).toNatClampNeg))) hx hb hK hP b5 dX12_goOn_29 rfl ?_
    refine rP_92 hx hb hts i_X12_goOn_X12 hown hK hP hD hS (hts (.fieldLink RX12 618 "StatementRules2Model" "pc" "I") k_X12_goOn_fieldLink_RX12_618_SRModel_pc_I) dX12_goOn_30 (fun H locs hP hD hS => ?_)
    obtain rfl := Option.some.inj hf
    exact W.vret hx hb hr (fun t ht hW => ⟨⟨(), rfl, trivial, by rw [ht]; exact hP, va_K.moved hW.alike hK, hD⟩, hS.F ht⟩) hS.2.2 dX12_goOn_33
theorem k_X12_others_fieldLink_RX12_586_SRModel_recs_I : Cond.fieldLink RX12 586 "StatementRules2Model" "recs" "I" ∈ wzX12_others := List.mem_cons_of_mem _ (List.mem_append_left _ (List.mem_of_getElem? (i := 0) rfl))
theorem i_X12_others_X12 : ∀ w ∈ wsX120, w ∈ wzX12_others := fun _ h => List.mem_cons_of_mem _ (List.mem_append_right _ (List.mem_append_left _ (h)))
theorem k_X12_others_fieldLink_RX12_84_SRModel_op_I : Cond.fieldLink RX12 84 "StatementRules2Model" "op" "[I" ∈ wzX12_others := List.mem_cons_of_mem _ (List.mem_append_left _ (List.mem_of_getElem? (i := 1) rfl))
theorem k_X12_others_fieldLink_RX12_621_SRModel_waiting_I : Cond.fieldLink RX12 621 "StatementRules2Model" "waiting" "I" ∈ wzX12_others := List.mem_cons_of_mem _ (List.mem_append_left _ (List.mem_of_getElem? (i := 2) rfl))
theorem k_X12_others_fieldLink_RX12_589_SRModel_high_I : Cond.fieldLink RX12 589 "StatementRules2Model" "high" "I" ∈ wzX12_others := List.mem_cons_of_mem _ (List.mem_append_left _ (List.mem_of_getElem? (i := 3) rfl))
theorem k_X12_others_fieldLink_RX12_240_SRModel_waits_I : Cond.fieldLink RX12 240 "StatementRules2Model" "waits" "[I" ∈ wzX12_others := List.mem_cons_of_mem _ (List.mem_append_left _ (List.mem_of_getElem? (i := 4) rfl))
theorem k_X12_others_fieldLink_RX12_234_SRModel_vs_I : Cond.fieldLink RX12 234 "StatementRules2Model" "vs" "[I" ∈ wzX12_others := List.mem_cons_of_mem _ (List.mem_append_left _ (List.mem_of_getElem? (i := 5) rfl))
theorem k_X12_others_fieldLink_RX12_249_SRModel_rb_I : Cond.fieldLink RX12 249 "StatementRules2Model" "rb" "[I" ∈ wzX12_others := List.mem_cons_of_mem _ (List.mem_append_left _ (List.mem_of_getElem? (i := 6) rfl))
theorem k_X12_others_fieldLink_RX12_252_SRModel_rc_I : Cond.fieldLink RX12 252 "StatementRules2Model" "rc" "[I" ∈ wzX12_others := List.mem_cons_of_mem _ (List.mem_append_left _ (List.mem_of_getElem? (i := 7) rfl))
theorem k_X12_others_fieldLink_RX12_213_SRModel_vals_I : Cond.fieldLink RX12 213 "StatementRules2Model" "vals" "[I" ∈ wzX12_others := List.mem_cons_of_mem _ (List.mem_append_left _ (List.mem_of_getElem? (i := 8) rfl))
theorem k_X12_others_fieldLink_RX12_90_SRModel_iy_I : Cond.fieldLink RX12 90 "StatementRules2Model" "iy" "[I" ∈ wzX12_others := List.mem_cons_of_mem _ (List.mem_append_left _ (List.mem_of_getElem? (i := 9) rfl))
theorem k_X12_others_fieldLink_RX12_618_SRModel_pc_I : Cond.fieldLink RX12 618 "StatementRules2Model" "pc" "I" ∈ wzX12_others := List.mem_cons_of_mem _ (List.mem_append_left _ (List.mem_of_getElem? (i := 10) rfl))
theorem k_X12_others_fieldLink_RX12_246_SRModel_ra_I : Cond.fieldLink RX12 246 "StatementRules2Model" "ra" "[I" ∈ wzX12_others := List.mem_cons_of_mem _ (List.mem_append_left _ (List.mem_of_getElem? (i := 11) rfl))
theorem k_X12_others_fieldLink_RX12_258_SRModel_rHow_I : Cond.fieldLink RX12 258 "StatementRules2Model" "rHow" "[I" ∈ wzX12_others := List.mem_cons_of_mem _ (List.mem_append_left _ (List.mem_of_getElem? (i := 12) rfl))
theorem k_X12_others_fieldLink_RX12_597_SRModel_how_I : Cond.fieldLink RX12 597 "StatementRules2Model" "how" "I" ∈ wzX12_others := List.mem_cons_of_mem _ (List.mem_append_left _ (List.mem_of_getElem? (i := 13) rfl))
theorem k_X12_others_fieldLink_RX12_261_SRModel_rTo_I : Cond.fieldLink RX12 261 "StatementRules2Model" "rTo" "[I" ∈ wzX12_others := List.mem_cons_of_mem _ (List.mem_append_left _ (List.mem_of_getElem? (i := 14) rfl))
theorem k_X12_others_fieldLink_RX12_609_SRModel_goTo_I : Cond.fieldLink RX12 609 "StatementRules2Model" "goTo" "I" ∈ wzX12_others := List.mem_cons_of_mem _ (List.mem_append_left _ (List.mem_of_getElem? (i := 15) rfl))
theorem k_X12_others_fieldLink_RX12_264_SRModel_rDepth_I : Cond.fieldLink RX12 264 "StatementRules2Model" "rDepth" "[I" ∈ wzX12_others := List.mem_cons_of_mem _ (List.mem_append_left _ (List.mem_of_getElem? (i := 16) rfl))
theorem k_X12_others_fieldLink_RX12_612_SRModel_goDepth_I : Cond.fieldLink RX12 612 "StatementRules2Model" "goDepth" "I" ∈ wzX12_others := List.mem_cons_of_mem _ (List.mem_append_left _ (List.mem_of_getElem? (i := 17) rfl))
theorem k_X12_others_fieldLink_RX12_267_SRModel_rValue_I : Cond.fieldLink RX12 267 "StatementRules2Model" "rValue" "[I" ∈ wzX12_others := List.mem_cons_of_mem _ (List.mem_append_left _ (List.mem_of_getElem? (i := 18) rfl))
theorem k_X12_others_fieldLink_RX12_615_SRModel_value_I : Cond.fieldLink RX12 615 "StatementRules2Model" "value" "I" ∈ wzX12_others := List.mem_cons_of_mem _ (List.mem_append_left _ (List.mem_of_getElem? (i := 19) rfl))
theorem k_X12_others_fieldLink_RX12_270_SRModel_rThing_I : Cond.fieldLink RX12 270 "StatementRules2Model" "rThing" "[I" ∈ wzX12_others := List.mem_cons_of_mem _ (List.mem_append_left _ (List.mem_of_getElem? (i := 20) rfl))
theorem k_X12_others_fieldLink_RX12_595_SRModel_thing_I : Cond.fieldLink RX12 595 "StatementRules2Model" "thing" "I" ∈ wzX12_others := List.mem_cons_of_mem _ (List.mem_append_left _ (List.mem_of_getElem? (i := 21) rfl))
theorem k_X12_others_fieldLink_RX12_600_SRModel_openMany_I : Cond.fieldLink RX12 600 "StatementRules2Model" "openMany" "I" ∈ wzX12_others := List.mem_cons_of_mem _ (List.mem_append_left _ (List.mem_of_getElem? (i := 22) rfl))
theorem k_X12_others_fieldLink_RX12_24_SRModel_opening_I : Cond.fieldLink RX12 24 "StatementRules2Model" "opening" "[I" ∈ wzX12_others := List.mem_cons_of_mem _ (List.mem_append_left _ (List.mem_of_getElem? (i := 23) rfl))
theorem k_X12_others_fieldLink_RX12_20_SRModel_isNull_Z : Cond.fieldLink RX12 20 "StatementRules2Model" "isNull" "[Z" ∈ wzX12_others := List.mem_cons_of_mem _ (List.mem_append_left _ (List.mem_of_getElem? (i := 24) rfl))
theorem k_X12_others_fieldLink_RX12_237_SRModel_openOf_I : Cond.fieldLink RX12 237 "StatementRules2Model" "openOf" "[I" ∈ wzX12_others := List.mem_cons_of_mem _ (List.mem_append_left _ (List.mem_of_getElem? (i := 25) rfl))
set_option maxHeartbeats 4000000 in
set_option maxRecDepth 100000 in
theorem j_X12_others_85 {p : Program} {e : Env} {s : State} {m : MethodId} {args : Array Value} {below : List Frame} {meth : Method} {c : Code} {A : Nat → Prop} (l : Launch) (dC : Nat → ClassId) (dI : Nat → Nat → Nat) (Q : RQ) (N : Nat) (R : RS) (hx : p.tables.exec = Jvm.exec) (hb : c.code = cX12_others) (hr : meth.sig.returnType = none) (hml : c.maxLocals = 6) (hown : s.vm.findClass RX12 = some m.cls) (hts : ∀ w ∈ wzX12_others, w.before args s = true) (hlocks : meth.locks = false) (hZ : zAMB s) (hA : ∀ q : Nat, s.heap.size ≤ q → A q) (hK : va_K (dC, dI) vwCl (rT Q) s) : ∀ (n9 : Nat), ∀ (σ : RS) (x2 : Int32) (x4 : Int32) (x5 : Int32) (H : Heap) (locs : List Loc) (ls : Array Slot), f_X12_others_85 N n9 σ x2 x4 x5 = some R → va_P (dC, dI) vwCl (rW Q σ) H → va_D A (rW Q σ) → va_S A s.heap H locs → lv_has ls 6 [(0, .ref Q.h0), (2, .int x2), (4, .int x4), (5, .int x5)] → W p l e ({ frames := 4, cells := 0, slots := 0, locals := 240 }) s m args below meth c H locs 0 0 (MQ below (va_Qv (fun (_ : Unit) => True) (fun (_ : Unit) (t : State) => zPost dC dI A (rW Q R) (rT Q) t) A) args s 0 0 A) (F0 m 85 ls []) := by
  intro n9
  induction n9 with
  | zero => intro σ x2 x4 x5 H locs ls hf; exact absurd hf (by intro h9; cases h9)
  | succ n9 ih =>
    intro σ x2 x4 x5 H locs ls hf hP hD hS hl
    replace hf : b_X12_others_85 N (f_X12_others_85 N n9) σ x2 x4 x5 = some R := hf
    unfold b_X12_others_85 at hf
    refine lv_iload hx hb dX12_others_85 (lv_at hl 3 rfl) ?_
    refine lv_iload_n hx hb dX12_others_87 rfl (lv_at hl 1 rfl) ?_
    refine lv_icmp_ge (tgt := 130) hx hb dX12_others_88 (by decide) (fun c3 => ?_) (fun c3 => ?_)
    ·
      replace hf := (if_pos c3).symm.trans hf
      refine lv_aload_n hx hb dX12_others_130 rfl (lv_at hl 0 rfl) ?_
      refine lv_dup hx hb dX12_others_131 rfl ?_
      refine rG_93 (v := (σ.i 93)) hx hb hts i_X12_others_X12 hown hK hP (hts (.fieldLink RX12 589 "StatementRules2Model" "high" "I") k_X12_others_fieldLink_RX12_589_SRModel_high_I) dX12_others_132 rfl ?_
      refine lv_iload_n hx hb dX12_others_135 rfl (lv_at hl 1 rfl) ?_
      refine lv_isub hx hb dX12_others_136 ?_
      refine rP_93 hx hb hts i_X12_others_X12 hown hK hP hD hS (hts (.fieldLink RX12 589 "StatementRules2Model" "high" "I") k_X12_others_fieldLink_RX12_589_SRModel_high_I) dX12_others_137 (fun H locs hP hD hS => ?_)
      refine lv_aload_n hx hb dX12_others_140 rfl (lv_at hl 0 rfl) ?_
      refine lv_iconst (v := 2) hx hb dX12_others_141 (by decide) ?_
      refine lv_iload hx hb dX12_others_142 (lv_at hl 2 rfl) ?_
      refine lv_iload hx hb dX12_others_144 (lv_at hl 2 rfl) ?_
      refine lv_aload_n hx hb dX12_others_146 rfl (lv_at hl 0 rfl) ?_
      refine rG_97 (v := (σ.i 97)) hx hb hts i_X12_others_X12 hown hK hP (hts (.fieldLink RX12 621 "StatementRules2Model" "waiting" "I") k_X12_others_fieldLink_RX12_621_SRModel_waiting_I) dX12_others_147 rfl ?_
      obtain ⟨p4, hcp4, hf⟩ := hf_bind hf
      have hFc := r_free hD hS hA
      refine va_calli (va_runV (As := [.int 2, .int x4, .int x4, .int (σ.i 97)]) (rest := []) ⟨hx, hb, hml, hown, hts⟩ (c_X12_record l dC dI _ Q N (RS.setI σ 93 ((σ.i 93) - x2)) 2 x4 x4 (σ.i 97) p4 hcp4) (cwV 4 hts hX12_others_X12_record_v658 rfl rfl rfl (by decide +kernel) ⟨Nat.le_of_ble_eq_true rfl, Nat.le_of_ble_eq_true rfl⟩) ⟨zPre.blind, va_recv hK hP (ci := 11) (q0 := 0) rfl rfl, zPre.go hZ hP hK hD⟩ rfl rfl hl.1 rfl (lv_room (Nat.le_of_ble_eq_true rfl)) dX12_others_150 ⟨Nat.le_of_ble_eq_true rfl, Nat.le_of_ble_eq_true rfl⟩) hS (fun q _ h => hFc q h) hFc (fun r5 u9 t9 H1 locs ht hvm hw hB hz1 hk1 hS => ?_)
      obtain ⟨hP, hK1, hD1⟩ := hB
      rw [ht] at hP
      have hD := hD1.weaken (fun _ _ _ h => hFc _ h)
      generalize H1 = H at hP hS ⊢
      obtain rfl : r5 = p4.1 := hw
      refine lv_pop hx hb dX12_others_153 rfl ?_
      refine lv_goto (tgt := 441) hx hb dX12_others_154 (by decide) ?_
      obtain rfl := Option.some.inj hf
      exact W.vret hx hb hr (fun t ht hW => ⟨⟨(), rfl, trivial, by rw [ht]; exact hP, va_K.moved hW.alike hK, hD⟩, hS.F ht⟩) hS.2.2 dX12_others_441
    ·
      replace hf := (if_neg c3).symm.trans hf
      refine lv_aload_n hx hb dX12_others_91 rfl (lv_at hl 0 rfl) ?_
      refine rG_98 hx hb hts i_X12_others_X12 hown hK hP (hts (.fieldLink RX12 240 "StatementRules2Model" "waits" "[I") k_X12_others_fieldLink_RX12_240_SRModel_waits_I) dX12_others_92 ?_
      refine lv_aload_n hx hb dX12_others_95 rfl (lv_at hl 0 rfl) ?_
      refine rG_97 (v := (σ.i 97)) hx hb hts i_X12_others_X12 hown hK hP (hts (.fieldLink RX12 621 "StatementRules2Model" "waiting" "I") k_X12_others_fieldLink_RX12_621_SRModel_waiting_I) dX12_others_96 rfl ?_
      refine lv_aload_n hx hb dX12_others_99 rfl (lv_at hl 0 rfl) ?_
      refine rG_94 hx hb hts i_X12_others_X12 hown hK hP (hts (.fieldLink RX12 234 "StatementRules2Model" "vs" "[I") k_X12_others_fieldLink_RX12_234_SRModel_vs_I) dX12_others_100 ?_
      refine lv_aload_n hx hb dX12_others_103 rfl (lv_at hl 0 rfl) ?_
      refine rG_93 (v := (σ.i 93)) hx hb hts i_X12_others_X12 hown hK hP (hts (.fieldLink RX12 589 "StatementRules2Model" "high" "I") k_X12_others_fieldLink_RX12_589_SRModel_high_I) dX12_others_104 rfl ?_
      refine lv_iload_n hx hb dX12_others_107 rfl (lv_at hl 1 rfl) ?_
      refine lv_isub hx hb dX12_others_108 ?_
      refine lv_iload hx hb dX12_others_109 (lv_at hl 3 rfl) ?_
      refine lv_iadd hx hb dX12_others_111 ?_
      obtain ⟨b6, hf⟩ := hf_ite hf
      refine rL_94 (v := (σ.a 94 (((((σ.i 93) - x2) + x5) : Int32).toNatClampNeg))) hx hb hK hP b6 dX12_others_112 rfl ?_
      obtain ⟨b7, hf⟩ := hf_ite hf
      refine rS_98 hx hb hK hP hD hS b7 dX12_others_113 (fun H locs hP hD hS => ?_)
      refine lv_aload_n hx hb dX12_others_114 rfl (lv_at hl 0 rfl) ?_
      refine lv_dup hx hb dX12_others_115 rfl ?_
      refine rG_97 (v := (σ.i 97)) hx hb hts i_X12_others_X12 hown hK hP (hts (.fieldLink RX12 621 "StatementRules2Model" "waiting" "I") k_X12_others_fieldLink_RX12_621_SRModel_waiting_I) dX12_others_116 rfl ?_
      refine lv_iconst (v := 1) hx hb dX12_others_119 (by decide) ?_
      refine lv_iadd hx hb dX12_others_120 ?_
      refine rP_97 hx hb hts i_X12_others_X12 hown hK hP hD hS (hts (.fieldLink RX12 621 "StatementRules2Model" "waiting" "I") k_X12_others_fieldLink_RX12_621_SRModel_waiting_I) dX12_others_121 (fun H locs hP hD hS => ?_)
      refine lv_iinc (v := (x5 + 1)) (lv' := [(5, .int (x5 + 1)), (0, .ref Q.h0), (2, .int x2), (4, .int x4)]) hx hb dX12_others_124 hl (k := 3) rfl rfl (by decide) rfl (fun ls hl => ?_)
      refine lv_goto (tgt := 85) hx hb dX12_others_127 (by decide) ?_
      exact ih (RS.setI (RS.setA σ 98 (((σ.i 97) : Int32).toNatClampNeg) (σ.a 94 (((((σ.i 93) - x2) + x5) : Int32).toNatClampNeg))) 97 ((σ.i 97) + 1)) x2 x4 (x5 + 1) _ _ _ hf hP hD hS (lv_sub hl [1, 2, 3, 0] rfl)
set_option maxHeartbeats 4000000 in
set_option maxRecDepth 100000 in
theorem c_X12_others (l : Launch) (dC : Nat → ClassId) (dI : Nat → Nat → Nat) (sz : Nat) (Q : RQ) (N : Nat) (σ : RS) (x1 : Int32) (x2 : Int32) (R : RS) (hf : f_X12_others N σ x1 x2 = some R) : Met l yX12_others wzX12_others ({ frames := 4, cells := 0, slots := 0, locals := 240 }) (va_Pc [.ref Q.h0, .int x1, .int x2] (zPre dC dI sz (rW Q σ) (rT Q))) (va_Qv (fun (_ : Unit) => True) (fun (_ : Unit) (t : State) => zPost dC dI (va_A (rW Q σ) sz) (rW Q R) (rT Q) t) (va_A (rW Q σ) sz)) 0 0 (va_A (rW Q σ) sz) := by
  refine Met.ofW (cc := cX12_others) (maxL := 6) (ret := none) (by decide) rfl ?_
  intro p e s m args below meth c s₁ B hml hv
  obtain ⟨rfl, hsz, hZ, hP, hK, hD0⟩ := hv
  have hx := B.exec
  have hb := B.bytes
  have hr := B.returns
  have hts := atoms_spec (ws := wzX12_others) B.pre
  have hown : s.vm.findClass RX12 = some m.cls := findClass_of_methodNamed B.named
  have hlocks := B.notSynchronized
  subst hsz
  have hD := hD0.self (sz := s.heap.size)
  generalize hAe : va_A (rW Q σ) s.heap.size = A at hD ⊢
  have hA : ∀ q : Nat, s.heap.size ≤ q → A q := fun q h => by rw [← hAe]; exact Or.inr h
  have hS : va_S A s.heap s.heap [] := va_S.rf
  have hl := lv_entry ([.ref Q.h0, .int x1, .int x2]) (n := 6) (Nat.le_of_ble_eq_true rfl)
  rw [lg_entry_eq]
  generalize (lg_sl ([.ref Q.h0, .int x1, .int x2]) ++ List.replicate (6 - (lg_sl ([.ref Q.h0, .int x1, .int x2])).length) Slot.unset).toArray = ls at hl ⊢
  have hl : lv_has ls 6 [(0, .ref Q.h0), (1, .int x1), (2, .int x2)] := hl
  unfold f_X12_others at hf
  refine lv_aload_n hx hb dX12_others_0 rfl (lv_at hl 0 rfl) ?_
  refine rG_99 (v := (σ.i 99)) hx hb hts i_X12_others_X12 hown hK hP (hts (.fieldLink RX12 586 "StatementRules2Model" "recs" "I") k_X12_others_fieldLink_RX12_586_SRModel_recs_I) dX12_others_1 rfl ?_
  refine lv_iconst (v := 1) hx hb dX12_others_4 (by decide) ?_
  refine lv_isub hx hb dX12_others_5 ?_
  refine lv_istore_n (lv' := [(3, .int ((σ.i 99) - 1)), (0, .ref Q.h0), (1, .int x1), (2, .int x2)]) hx hb dX12_others_6 rfl hl (by decide) rfl (fun ls hl => ?_)
  refine lv_aload_n hx hb dX12_others_7 rfl (lv_at hl 1 rfl) ?_
  refine rG_21 hx hb hts i_X12_others_X12 hown hK hP (hts (.fieldLink RX12 84 "StatementRules2Model" "op" "[I") k_X12_others_fieldLink_RX12_84_SRModel_op_I) dX12_others_8 ?_
  refine lv_iload_n hx hb dX12_others_11 rfl (lv_at hl 2 rfl) ?_
  obtain ⟨b1, hf⟩ := hf_ite hf
  refine rL_21 (v := (σ.a 21 ((x1 : Int32).toNatClampNeg))) hx hb hK hP b1 dX12_others_12 rfl ?_
  by_cases c2 : (σ.a 21 ((x1 : Int32).toNatClampNeg)) = 23
  ·
    replace hf := (if_pos c2).symm.trans hf
    refine lv_tableIn (off := 63) (tgt := 76) hx hb dX12_others_13 (by rw [c2]; decide) (by rw [c2]; decide) (by rw [c2]; decide) (by decide) ?_
    refine lv_aload_n hx hb dX12_others_76 rfl (lv_at hl 1 rfl) ?_
    refine rG_97 (v := (σ.i 97)) hx hb hts i_X12_others_X12 hown hK hP (hts (.fieldLink RX12 621 "StatementRules2Model" "waiting" "I") k_X12_others_fieldLink_RX12_621_SRModel_waiting_I) dX12_others_77 rfl ?_
    refine lv_istore (lv' := [(4, .int (σ.i 97)), (3, .int ((σ.i 99) - 1)), (0, .ref Q.h0), (1, .int x1), (2, .int x2)]) hx hb dX12_others_80 hl (by decide) rfl (fun ls hl => ?_)
    refine lv_iconst (v := 0) hx hb dX12_others_82 (by decide) ?_
    refine lv_istore (lv' := [(5, .int 0), (4, .int (σ.i 97)), (3, .int ((σ.i 99) - 1)), (0, .ref Q.h0), (1, .int x1), (2, .int x2)]) hx hb dX12_others_83 hl (by decide) rfl (fun ls hl => ?_)
    exact j_X12_others_85 l dC dI Q N R hx hb hr hml hown hts hlocks hZ hA hK N σ x2 (σ.i 97) 0 _ _ _ hf hP hD hS (lv_sub hl [3, 5, 1, 0] rfl)
  replace hf := (if_neg c2).symm.trans hf
  by_cases c8 : (σ.a 21 ((x1 : Int32).toNatClampNeg)) = 24
  ·
    replace hf := (if_pos c8).symm.trans hf
    refine lv_tableIn (off := 144) (tgt := 157) hx hb dX12_others_13 (by rw [c8]; decide) (by rw [c8]; decide) (by rw [c8]; decide) (by decide) ?_
    refine lv_aload_n hx hb dX12_others_157 rfl (lv_at hl 1 rfl) ?_
    refine rG_102 hx hb hts i_X12_others_X12 hown hK hP (hts (.fieldLink RX12 249 "StatementRules2Model" "rb" "[I") k_X12_others_fieldLink_RX12_249_SRModel_rb_I) dX12_others_158 ?_
    refine lv_iload_n hx hb dX12_others_161 rfl (lv_at hl 0 rfl) ?_
    obtain ⟨b9, hf⟩ := hf_ite hf
    refine rL_102 (v := (σ.a 102 ((((σ.i 99) - 1) : Int32).toNatClampNeg))) hx hb hK hP b9 dX12_others_162 rfl ?_
    refine lv_aload_n hx hb dX12_others_163 rfl (lv_at hl 1 rfl) ?_
    refine rG_103 hx hb hts i_X12_others_X12 hown hK hP (hts (.fieldLink RX12 252 "StatementRules2Model" "rc" "[I") k_X12_others_fieldLink_RX12_252_SRModel_rc_I) dX12_others_164 ?_
    refine lv_iload_n hx hb dX12_others_167 rfl (lv_at hl 0 rfl) ?_
    refine rL_103 (v := (σ.a 103 ((((σ.i 99) - 1) : Int32).toNatClampNeg))) hx hb hK hP b9 dX12_others_168 rfl ?_
    refine lv_icmp_ne (tgt := 180) hx hb dX12_others_169 (by decide) (fun c10 => ?_) (fun c10 => ?_)
    ·
      replace hf := (if_neg c10).symm.trans hf
      refine lv_aload_n hx hb dX12_others_180 rfl (lv_at hl 1 rfl) ?_
      obtain ⟨p11, hcp11, hf⟩ := hf_bind hf
      have hFc := r_free hD hS hA
      refine va_callv (va_runV (As := []) (rest := []) ⟨hx, hb, hml, hown, hts⟩ (c_X12_step l dC dI _ Q N σ p11 hcp11) (cwV 0 hts hX12_others_X12_step_v642 rfl rfl rfl (by decide +kernel) ⟨Nat.le_of_ble_eq_true rfl, Nat.le_of_ble_eq_true rfl⟩) ⟨zPre.blind, va_recv hK hP (ci := 11) (q0 := 0) rfl rfl, zPre.go hZ hP hK hD⟩ rfl rfl hl.1 rfl (lv_room (Nat.le_of_ble_eq_true rfl)) dX12_others_181 ⟨Nat.le_of_ble_eq_true rfl, Nat.le_of_ble_eq_true rfl⟩) hS (fun q _ h => hFc q h) hFc (fun u9 t9 H1 locs ht hvm hw hB hz1 hk1 hS => ?_)
      obtain ⟨hP, hK1, hD1⟩ := hB
      rw [ht] at hP
      have hD := hD1.weaken (fun _ _ _ h => hFc _ h)
      generalize H1 = H at hP hS ⊢
      refine lv_aload_n hx hb dX12_others_184 rfl (lv_at hl 1 rfl) ?_
      refine rG_84 hx hb hts i_X12_others_X12 hown hK hP (hts (.fieldLink RX12 213 "StatementRules2Model" "vals" "[I") k_X12_others_fieldLink_RX12_213_SRModel_vals_I) dX12_others_185 ?_
      refine lv_aload_n hx hb dX12_others_188 rfl (lv_at hl 1 rfl) ?_
      refine rG_23 hx hb hts i_X12_others_X12 hown hK hP (hts (.fieldLink RX12 90 "StatementRules2Model" "iy" "[I") k_X12_others_fieldLink_RX12_90_SRModel_iy_I) dX12_others_189 ?_
      refine lv_iload_n hx hb dX12_others_192 rfl (lv_at hl 2 rfl) ?_
      refine rL_23 (v := (p11.a 23 ((x1 : Int32).toNatClampNeg))) hx hb hK hP b1 dX12_others_193 rfl ?_
      refine lv_aload_n hx hb dX12_others_194 rfl (lv_at hl 1 rfl) ?_
      refine rG_98 hx hb hts i_X12_others_X12 hown hK hP (hts (.fieldLink RX12 240 "StatementRules2Model" "waits" "[I") k_X12_others_fieldLink_RX12_240_SRModel_waits_I) dX12_others_195 ?_
      refine lv_aload_n hx hb dX12_others_198 rfl (lv_at hl 1 rfl) ?_
      refine rG_102 hx hb hts i_X12_others_X12 hown hK hP (hts (.fieldLink RX12 249 "StatementRules2Model" "rb" "[I") k_X12_others_fieldLink_RX12_249_SRModel_rb_I) dX12_others_199 ?_
      refine lv_iload_n hx hb dX12_others_202 rfl (lv_at hl 0 rfl) ?_
      refine rL_102 (v := (p11.a 102 ((((σ.i 99) - 1) : Int32).toNatClampNeg))) hx hb hK hP b9 dX12_others_203 rfl ?_
      obtain ⟨b13, hf⟩ := hf_ite hf
      refine rL_98 (v := (p11.a 98 (((p11.a 102 ((((σ.i 99) - 1) : Int32).toNatClampNeg)) : Int32).toNatClampNeg))) hx hb hK hP b13 dX12_others_204 rfl ?_
      obtain ⟨b14, hf⟩ := hf_ite hf
      refine rS_84 hx hb hK hP hD hS b14 dX12_others_205 (fun H locs hP hD hS => ?_)
      refine lv_aload_n hx hb dX12_others_206 rfl (lv_at hl 1 rfl) ?_
      refine rG_102 hx hb hts i_X12_others_X12 hown hK hP (hts (.fieldLink RX12 249 "StatementRules2Model" "rb" "[I") k_X12_others_fieldLink_RX12_249_SRModel_rb_I) dX12_others_207 ?_
      refine lv_iload_n hx hb dX12_others_210 rfl (lv_at hl 0 rfl) ?_
      refine lv_dup2_11 hx hb dX12_others_211 rfl rfl ?_
      refine rL_102 (v := (p11.a 102 ((((σ.i 99) - 1) : Int32).toNatClampNeg))) hx hb hK hP b9 dX12_others_212 rfl ?_
      refine lv_iconst (v := 1) hx hb dX12_others_213 (by decide) ?_
      refine lv_iadd hx hb dX12_others_214 ?_
      refine rS_102 hx hb hK hP hD hS b9 dX12_others_215 (fun H locs hP hD hS => ?_)
      refine lv_goto (tgt := 441) hx hb dX12_others_216 (by decide) ?_
      obtain rfl := Option.some.inj hf
      exact W.vret hx hb hr (fun t ht hW => ⟨⟨(), rfl, trivial, by rw [ht]; exact hP, va_K.moved hW.alike hK, hD⟩, hS.F ht⟩) hS.2.2 dX12_others_441
    ·
      replace hf := (if_pos c10).symm.trans hf
      refine lv_aload_n hx hb dX12_others_172 rfl (lv_at hl 1 rfl) ?_
      refine lv_iload_n hx hb dX12_others_173 rfl (lv_at hl 3 rfl) ?_
      refine rP_92 hx hb hts i_X12_others_X12 hown hK hP hD hS (hts (.fieldLink RX12 618 "StatementRules2Model" "pc" "I") k_X12_others_fieldLink_RX12_618_SRModel_pc_I) dX12_others_174 (fun H locs hP hD hS => ?_)
      refine lv_goto (tgt := 441) hx hb dX12_others_177 (by decide) ?_
      obtain rfl := Option.some.inj hf
      exact W.vret hx hb hr (fun t ht hW => ⟨⟨(), rfl, trivial, by rw [ht]; exact hP, va_K.moved hW.alike hK, hD⟩, hS.F ht⟩) hS.2.2 dX12_others_441
  replace hf := (if_neg c8).symm.trans hf
  by_cases c15 : (σ.a 21 ((x1 : Int32).toNatClampNeg)) = 25
  ·
    replace hf := (if_pos c15).symm.trans hf
    refine lv_tableIn (off := 206) (tgt := 219) hx hb dX12_others_13 (by rw [c15]; decide) (by rw [c15]; decide) (by rw [c15]; decide) (by decide) ?_
    refine lv_aload_n hx hb dX12_others_219 rfl (lv_at hl 1 rfl) ?_
    refine lv_aload_n hx hb dX12_others_220 rfl (lv_at hl 1 rfl) ?_
    refine rG_101 hx hb hts i_X12_others_X12 hown hK hP (hts (.fieldLink RX12 246 "StatementRules2Model" "ra" "[I") k_X12_others_fieldLink_RX12_246_SRModel_ra_I) dX12_others_221 ?_
    refine lv_iload_n hx hb dX12_others_224 rfl (lv_at hl 0 rfl) ?_
    obtain ⟨b16, hf⟩ := hf_ite hf
    refine rL_101 (v := (σ.a 101 ((((σ.i 99) - 1) : Int32).toNatClampNeg))) hx hb hK hP b16 dX12_others_225 rfl ?_
    refine rP_97 hx hb hts i_X12_others_X12 hown hK hP hD hS (hts (.fieldLink RX12 621 "StatementRules2Model" "waiting" "I") k_X12_others_fieldLink_RX12_621_SRModel_waiting_I) dX12_others_226 (fun H locs hP hD hS => ?_)
    refine lv_aload_n hx hb dX12_others_229 rfl (lv_at hl 1 rfl) ?_
    refine lv_dup hx hb dX12_others_230 rfl ?_
    refine rG_99 (v := (σ.i 99)) hx hb hts i_X12_others_X12 hown hK hP (hts (.fieldLink RX12 586 "StatementRules2Model" "recs" "I") k_X12_others_fieldLink_RX12_586_SRModel_recs_I) dX12_others_231 rfl ?_
    refine lv_iconst (v := 1) hx hb dX12_others_234 (by decide) ?_
    refine lv_isub hx hb dX12_others_235 ?_
    refine rP_99 hx hb hts i_X12_others_X12 hown hK hP hD hS (hts (.fieldLink RX12 586 "StatementRules2Model" "recs" "I") k_X12_others_fieldLink_RX12_586_SRModel_recs_I) dX12_others_236 (fun H locs hP hD hS => ?_)
    refine lv_goto (tgt := 441) hx hb dX12_others_239 (by decide) ?_
    obtain rfl := Option.some.inj hf
    exact W.vret hx hb hr (fun t ht hW => ⟨⟨(), rfl, trivial, by rw [ht]; exact hP, va_K.moved hW.alike hK, hD⟩, hS.F ht⟩) hS.2.2 dX12_others_441
  replace hf := (if_neg c15).symm.trans hf
  by_cases c17 : (σ.a 21 ((x1 : Int32).toNatClampNeg)) = 26
  ·
    replace hf := (if_pos c17).symm.trans hf
    refine lv_tableIn (off := 357) (tgt := 370) hx hb dX12_others_13 (by rw [c17]; decide) (by rw [c17]; decide) (by rw [c17]; decide) (by decide) ?_
    refine lv_aload_n hx hb dX12_others_370 rfl (lv_at hl 1 rfl) ?_
    refine lv_aload_n hx hb dX12_others_371 rfl (lv_at hl 1 rfl) ?_
    refine rG_105 hx hb hts i_X12_others_X12 hown hK hP (hts (.fieldLink RX12 258 "StatementRules2Model" "rHow" "[I") k_X12_others_fieldLink_RX12_258_SRModel_rHow_I) dX12_others_372 ?_
    refine lv_iload_n hx hb dX12_others_375 rfl (lv_at hl 0 rfl) ?_
    obtain ⟨b18, hf⟩ := hf_ite hf
    refine rL_105 (v := (σ.a 105 ((((σ.i 99) - 1) : Int32).toNatClampNeg))) hx hb hK hP b18 dX12_others_376 rfl ?_
    refine rP_110 hx hb hts i_X12_others_X12 hown hK hP hD hS (hts (.fieldLink RX12 597 "StatementRules2Model" "how" "I") k_X12_others_fieldLink_RX12_597_SRModel_how_I) dX12_others_377 (fun H locs hP hD hS => ?_)
    refine lv_aload_n hx hb dX12_others_380 rfl (lv_at hl 1 rfl) ?_
    refine lv_aload_n hx hb dX12_others_381 rfl (lv_at hl 1 rfl) ?_
    refine rG_106 hx hb hts i_X12_others_X12 hown hK hP (hts (.fieldLink RX12 261 "StatementRules2Model" "rTo" "[I") k_X12_others_fieldLink_RX12_261_SRModel_rTo_I) dX12_others_382 ?_
    refine lv_iload_n hx hb dX12_others_385 rfl (lv_at hl 0 rfl) ?_
    refine rL_106 (v := (σ.a 106 ((((σ.i 99) - 1) : Int32).toNatClampNeg))) hx hb hK hP b18 dX12_others_386 rfl ?_
    refine rP_111 hx hb hts i_X12_others_X12 hown hK hP hD hS (hts (.fieldLink RX12 609 "StatementRules2Model" "goTo" "I") k_X12_others_fieldLink_RX12_609_SRModel_goTo_I) dX12_others_387 (fun H locs hP hD hS => ?_)
    refine lv_aload_n hx hb dX12_others_390 rfl (lv_at hl 1 rfl) ?_
    refine lv_aload_n hx hb dX12_others_391 rfl (lv_at hl 1 rfl) ?_
    refine rG_107 hx hb hts i_X12_others_X12 hown hK hP (hts (.fieldLink RX12 264 "StatementRules2Model" "rDepth" "[I") k_X12_others_fieldLink_RX12_264_SRModel_rDepth_I) dX12_others_392 ?_
    refine lv_iload_n hx hb dX12_others_395 rfl (lv_at hl 0 rfl) ?_
    refine rL_107 (v := (σ.a 107 ((((σ.i 99) - 1) : Int32).toNatClampNeg))) hx hb hK hP b18 dX12_others_396 rfl ?_
    refine rP_112 hx hb hts i_X12_others_X12 hown hK hP hD hS (hts (.fieldLink RX12 612 "StatementRules2Model" "goDepth" "I") k_X12_others_fieldLink_RX12_612_SRModel_goDepth_I) dX12_others_397 (fun H locs hP hD hS => ?_)
    refine lv_aload_n hx hb dX12_others_400 rfl (lv_at hl 1 rfl) ?_
    refine lv_aload_n hx hb dX12_others_401 rfl (lv_at hl 1 rfl) ?_
    refine rG_108 hx hb hts i_X12_others_X12 hown hK hP (hts (.fieldLink RX12 267 "StatementRules2Model" "rValue" "[I") k_X12_others_fieldLink_RX12_267_SRModel_rValue_I) dX12_others_402 ?_
    refine lv_iload_n hx hb dX12_others_405 rfl (lv_at hl 0 rfl) ?_
    refine rL_108 (v := (σ.a 108 ((((σ.i 99) - 1) : Int32).toNatClampNeg))) hx hb hK hP b18 dX12_others_406 rfl ?_
    refine rP_113 hx hb hts i_X12_others_X12 hown hK hP hD hS (hts (.fieldLink RX12 615 "StatementRules2Model" "value" "I") k_X12_others_fieldLink_RX12_615_SRModel_value_I) dX12_others_407 (fun H locs hP hD hS => ?_)
    refine lv_aload_n hx hb dX12_others_410 rfl (lv_at hl 1 rfl) ?_
    refine lv_aload_n hx hb dX12_others_411 rfl (lv_at hl 1 rfl) ?_
    refine rG_109 hx hb hts i_X12_others_X12 hown hK hP (hts (.fieldLink RX12 270 "StatementRules2Model" "rThing" "[I") k_X12_others_fieldLink_RX12_270_SRModel_rThing_I) dX12_others_412 ?_
    refine lv_iload_n hx hb dX12_others_415 rfl (lv_at hl 0 rfl) ?_
    refine rL_109 (v := (σ.a 109 ((((σ.i 99) - 1) : Int32).toNatClampNeg))) hx hb hK hP b18 dX12_others_416 rfl ?_
    refine rP_114 hx hb hts i_X12_others_X12 hown hK hP hD hS (hts (.fieldLink RX12 595 "StatementRules2Model" "thing" "I") k_X12_others_fieldLink_RX12_595_SRModel_thing_I) dX12_others_417 (fun H locs hP hD hS => ?_)
    refine lv_aload_n hx hb dX12_others_420 rfl (lv_at hl 1 rfl) ?_
    refine lv_dup hx hb dX12_others_421 rfl ?_
    refine rG_99 (v := (σ.i 99)) hx hb hts i_X12_others_X12 hown hK hP (hts (.fieldLink RX12 586 "StatementRules2Model" "recs" "I") k_X12_others_fieldLink_RX12_586_SRModel_recs_I) dX12_others_422 rfl ?_
    refine lv_iconst (v := 1) hx hb dX12_others_425 (by decide) ?_
    refine lv_isub hx hb dX12_others_426 ?_
    refine rP_99 hx hb hts i_X12_others_X12 hown hK hP hD hS (hts (.fieldLink RX12 586 "StatementRules2Model" "recs" "I") k_X12_others_fieldLink_RX12_586_SRModel_recs_I) dX12_others_427 (fun H locs hP hD hS => ?_)
    refine lv_aload_n hx hb dX12_others_430 rfl (lv_at hl 1 rfl) ?_
    refine rG_110 (v := (σ.a 105 ((((σ.i 99) - 1) : Int32).toNatClampNeg))) hx hb hts i_X12_others_X12 hown hK hP (hts (.fieldLink RX12 597 "StatementRules2Model" "how" "I") k_X12_others_fieldLink_RX12_597_SRModel_how_I) dX12_others_431 rfl ?_
    refine lv_if_eq (tgt := 441) hx hb dX12_others_434 (by decide) (fun c19 => ?_) (fun c19 => ?_)
    ·
      replace hf := (if_pos c19).symm.trans hf
      obtain rfl := Option.some.inj hf
      exact W.vret hx hb hr (fun t ht hW => ⟨⟨(), rfl, trivial, by rw [ht]; exact hP, va_K.moved hW.alike hK, hD⟩, hS.F ht⟩) hS.2.2 dX12_others_441
    ·
      replace hf := (if_neg c19).symm.trans hf
      refine lv_aload_n hx hb dX12_others_437 rfl (lv_at hl 1 rfl) ?_
      obtain ⟨p20, hcp20, hf⟩ := hf_bind hf
      have hFc := r_free hD hS hA
      refine va_callv (va_runV (As := []) (rest := []) ⟨hx, hb, hml, hown, hts⟩ (c_X12_leave l dC dI _ Q N (RS.setI (RS.setI (RS.setI (RS.setI (RS.setI (RS.setI σ 110 (σ.a 105 ((((σ.i 99) - 1) : Int32).toNatClampNeg))) 111 (σ.a 106 ((((σ.i 99) - 1) : Int32).toNatClampNeg))) 112 (σ.a 107 ((((σ.i 99) - 1) : Int32).toNatClampNeg))) 113 (σ.a 108 ((((σ.i 99) - 1) : Int32).toNatClampNeg))) 114 (σ.a 109 ((((σ.i 99) - 1) : Int32).toNatClampNeg))) 99 ((σ.i 99) - 1)) p20 hcp20) (cwV 0 hts hX12_others_X12_leave_v648 rfl rfl rfl (by decide +kernel) ⟨Nat.le_of_ble_eq_true rfl, Nat.le_of_ble_eq_true rfl⟩) ⟨zPre.blind, va_recv hK hP (ci := 11) (q0 := 0) rfl rfl, zPre.go hZ hP hK hD⟩ rfl rfl hl.1 rfl (lv_room (Nat.le_of_ble_eq_true rfl)) dX12_others_438 ⟨Nat.le_of_ble_eq_true rfl, Nat.le_of_ble_eq_true rfl⟩) hS (fun q _ h => hFc q h) hFc (fun u9 t9 H1 locs ht hvm hw hB hz1 hk1 hS => ?_)
      obtain ⟨hP, hK1, hD1⟩ := hB
      rw [ht] at hP
      have hD := hD1.weaken (fun _ _ _ h => hFc _ h)
      generalize H1 = H at hP hS ⊢
      obtain rfl := Option.some.inj hf
      exact W.vret hx hb hr (fun t ht hW => ⟨⟨(), rfl, trivial, by rw [ht]; exact hP, va_K.moved hW.alike hK, hD⟩, hS.F ht⟩) hS.2.2 dX12_others_441
  replace hf := (if_neg c17).symm.trans hf
  by_cases c22 : (σ.a 21 ((x1 : Int32).toNatClampNeg)) = 27
  ·
    replace hf := (if_pos c22).symm.trans hf
    refine lv_tableIn (off := 357) (tgt := 370) hx hb dX12_others_13 (by rw [c22]; decide) (by rw [c22]; decide) (by rw [c22]; decide) (by decide) ?_
    refine lv_aload_n hx hb dX12_others_370 rfl (lv_at hl 1 rfl) ?_
    refine lv_aload_n hx hb dX12_others_371 rfl (lv_at hl 1 rfl) ?_
    refine rG_105 hx hb hts i_X12_others_X12 hown hK hP (hts (.fieldLink RX12 258 "StatementRules2Model" "rHow" "[I") k_X12_others_fieldLink_RX12_258_SRModel_rHow_I) dX12_others_372 ?_
    refine lv_iload_n hx hb dX12_others_375 rfl (lv_at hl 0 rfl) ?_
    obtain ⟨b23, hf⟩ := hf_ite hf
    refine rL_105 (v := (σ.a 105 ((((σ.i 99) - 1) : Int32).toNatClampNeg))) hx hb hK hP b23 dX12_others_376 rfl ?_
    refine rP_110 hx hb hts i_X12_others_X12 hown hK hP hD hS (hts (.fieldLink RX12 597 "StatementRules2Model" "how" "I") k_X12_others_fieldLink_RX12_597_SRModel_how_I) dX12_others_377 (fun H locs hP hD hS => ?_)
    refine lv_aload_n hx hb dX12_others_380 rfl (lv_at hl 1 rfl) ?_
    refine lv_aload_n hx hb dX12_others_381 rfl (lv_at hl 1 rfl) ?_
    refine rG_106 hx hb hts i_X12_others_X12 hown hK hP (hts (.fieldLink RX12 261 "StatementRules2Model" "rTo" "[I") k_X12_others_fieldLink_RX12_261_SRModel_rTo_I) dX12_others_382 ?_
    refine lv_iload_n hx hb dX12_others_385 rfl (lv_at hl 0 rfl) ?_
    refine rL_106 (v := (σ.a 106 ((((σ.i 99) - 1) : Int32).toNatClampNeg))) hx hb hK hP b23 dX12_others_386 rfl ?_
    refine rP_111 hx hb hts i_X12_others_X12 hown hK hP hD hS (hts (.fieldLink RX12 609 "StatementRules2Model" "goTo" "I") k_X12_others_fieldLink_RX12_609_SRModel_goTo_I) dX12_others_387 (fun H locs hP hD hS => ?_)
    refine lv_aload_n hx hb dX12_others_390 rfl (lv_at hl 1 rfl) ?_
    refine lv_aload_n hx hb dX12_others_391 rfl (lv_at hl 1 rfl) ?_
    refine rG_107 hx hb hts i_X12_others_X12 hown hK hP (hts (.fieldLink RX12 264 "StatementRules2Model" "rDepth" "[I") k_X12_others_fieldLink_RX12_264_SRModel_rDepth_I) dX12_others_392 ?_
    refine lv_iload_n hx hb dX12_others_395 rfl (lv_at hl 0 rfl) ?_
    refine rL_107 (v := (σ.a 107 ((((σ.i 99) - 1) : Int32).toNatClampNeg))) hx hb hK hP b23 dX12_others_396 rfl ?_
    refine rP_112 hx hb hts i_X12_others_X12 hown hK hP hD hS (hts (.fieldLink RX12 612 "StatementRules2Model" "goDepth" "I") k_X12_others_fieldLink_RX12_612_SRModel_goDepth_I) dX12_others_397 (fun H locs hP hD hS => ?_)
    refine lv_aload_n hx hb dX12_others_400 rfl (lv_at hl 1 rfl) ?_
    refine lv_aload_n hx hb dX12_others_401 rfl (lv_at hl 1 rfl) ?_
    refine rG_108 hx hb hts i_X12_others_X12 hown hK hP (hts (.fieldLink RX12 267 "StatementRules2Model" "rValue" "[I") k_X12_others_fieldLink_RX12_267_SRModel_rValue_I) dX12_others_402 ?_
    refine lv_iload_n hx hb dX12_others_405 rfl (lv_at hl 0 rfl) ?_
    refine rL_108 (v := (σ.a 108 ((((σ.i 99) - 1) : Int32).toNatClampNeg))) hx hb hK hP b23 dX12_others_406 rfl ?_
    refine rP_113 hx hb hts i_X12_others_X12 hown hK hP hD hS (hts (.fieldLink RX12 615 "StatementRules2Model" "value" "I") k_X12_others_fieldLink_RX12_615_SRModel_value_I) dX12_others_407 (fun H locs hP hD hS => ?_)
    refine lv_aload_n hx hb dX12_others_410 rfl (lv_at hl 1 rfl) ?_
    refine lv_aload_n hx hb dX12_others_411 rfl (lv_at hl 1 rfl) ?_
    refine rG_109 hx hb hts i_X12_others_X12 hown hK hP (hts (.fieldLink RX12 270 "StatementRules2Model" "rThing" "[I") k_X12_others_fieldLink_RX12_270_SRModel_rThing_I) dX12_others_412 ?_
    refine lv_iload_n hx hb dX12_others_415 rfl (lv_at hl 0 rfl) ?_
    refine rL_109 (v := (σ.a 109 ((((σ.i 99) - 1) : Int32).toNatClampNeg))) hx hb hK hP b23 dX12_others_416 rfl ?_
    refine rP_114 hx hb hts i_X12_others_X12 hown hK hP hD hS (hts (.fieldLink RX12 595 "StatementRules2Model" "thing" "I") k_X12_others_fieldLink_RX12_595_SRModel_thing_I) dX12_others_417 (fun H locs hP hD hS => ?_)
    refine lv_aload_n hx hb dX12_others_420 rfl (lv_at hl 1 rfl) ?_
    refine lv_dup hx hb dX12_others_421 rfl ?_
    refine rG_99 (v := (σ.i 99)) hx hb hts i_X12_others_X12 hown hK hP (hts (.fieldLink RX12 586 "StatementRules2Model" "recs" "I") k_X12_others_fieldLink_RX12_586_SRModel_recs_I) dX12_others_422 rfl ?_
    refine lv_iconst (v := 1) hx hb dX12_others_425 (by decide) ?_
    refine lv_isub hx hb dX12_others_426 ?_
    refine rP_99 hx hb hts i_X12_others_X12 hown hK hP hD hS (hts (.fieldLink RX12 586 "StatementRules2Model" "recs" "I") k_X12_others_fieldLink_RX12_586_SRModel_recs_I) dX12_others_427 (fun H locs hP hD hS => ?_)
    refine lv_aload_n hx hb dX12_others_430 rfl (lv_at hl 1 rfl) ?_
    refine rG_110 (v := (σ.a 105 ((((σ.i 99) - 1) : Int32).toNatClampNeg))) hx hb hts i_X12_others_X12 hown hK hP (hts (.fieldLink RX12 597 "StatementRules2Model" "how" "I") k_X12_others_fieldLink_RX12_597_SRModel_how_I) dX12_others_431 rfl ?_
    refine lv_if_eq (tgt := 441) hx hb dX12_others_434 (by decide) (fun c24 => ?_) (fun c24 => ?_)
    ·
      replace hf := (if_pos c24).symm.trans hf
      obtain rfl := Option.some.inj hf
      exact W.vret hx hb hr (fun t ht hW => ⟨⟨(), rfl, trivial, by rw [ht]; exact hP, va_K.moved hW.alike hK, hD⟩, hS.F ht⟩) hS.2.2 dX12_others_441
    ·
      replace hf := (if_neg c24).symm.trans hf
      refine lv_aload_n hx hb dX12_others_437 rfl (lv_at hl 1 rfl) ?_
      obtain ⟨p25, hcp25, hf⟩ := hf_bind hf
      have hFc := r_free hD hS hA
      refine va_callv (va_runV (As := []) (rest := []) ⟨hx, hb, hml, hown, hts⟩ (c_X12_leave l dC dI _ Q N (RS.setI (RS.setI (RS.setI (RS.setI (RS.setI (RS.setI σ 110 (σ.a 105 ((((σ.i 99) - 1) : Int32).toNatClampNeg))) 111 (σ.a 106 ((((σ.i 99) - 1) : Int32).toNatClampNeg))) 112 (σ.a 107 ((((σ.i 99) - 1) : Int32).toNatClampNeg))) 113 (σ.a 108 ((((σ.i 99) - 1) : Int32).toNatClampNeg))) 114 (σ.a 109 ((((σ.i 99) - 1) : Int32).toNatClampNeg))) 99 ((σ.i 99) - 1)) p25 hcp25) (cwV 0 hts hX12_others_X12_leave_v648 rfl rfl rfl (by decide +kernel) ⟨Nat.le_of_ble_eq_true rfl, Nat.le_of_ble_eq_true rfl⟩) ⟨zPre.blind, va_recv hK hP (ci := 11) (q0 := 0) rfl rfl, zPre.go hZ hP hK hD⟩ rfl rfl hl.1 rfl (lv_room (Nat.le_of_ble_eq_true rfl)) dX12_others_438 ⟨Nat.le_of_ble_eq_true rfl, Nat.le_of_ble_eq_true rfl⟩) hS (fun q _ h => hFc q h) hFc (fun u9 t9 H1 locs ht hvm hw hB hz1 hk1 hS => ?_)
      obtain ⟨hP, hK1, hD1⟩ := hB
      rw [ht] at hP
      have hD := hD1.weaken (fun _ _ _ h => hFc _ h)
      generalize H1 = H at hP hS ⊢
      obtain rfl := Option.some.inj hf
      exact W.vret hx hb hr (fun t ht hW => ⟨⟨(), rfl, trivial, by rw [ht]; exact hP, va_K.moved hW.alike hK, hD⟩, hS.F ht⟩) hS.2.2 dX12_others_441
  replace hf := (if_neg c22).symm.trans hf
  by_cases c27 : (σ.a 21 ((x1 : Int32).toNatClampNeg)) = 28
  ·
    replace hf := (if_pos c27).symm.trans hf
    refine lv_tableIn (off := 357) (tgt := 370) hx hb dX12_others_13 (by rw [c27]; decide) (by rw [c27]; decide) (by rw [c27]; decide) (by decide) ?_
    refine lv_aload_n hx hb dX12_others_370 rfl (lv_at hl 1 rfl) ?_
    refine lv_aload_n hx hb dX12_others_371 rfl (lv_at hl 1 rfl) ?_
    refine rG_105 hx hb hts i_X12_others_X12 hown hK hP (hts (.fieldLink RX12 258 "StatementRules2Model" "rHow" "[I") k_X12_others_fieldLink_RX12_258_SRModel_rHow_I) dX12_others_372 ?_
    refine lv_iload_n hx hb dX12_others_375 rfl (lv_at hl 0 rfl) ?_
    obtain ⟨b28, hf⟩ := hf_ite hf
    refine rL_105 (v := (σ.a 105 ((((σ.i 99) - 1) : Int32).toNatClampNeg))) hx hb hK hP b28 dX12_others_376 rfl ?_
    refine rP_110 hx hb hts i_X12_others_X12 hown hK hP hD hS (hts (.fieldLink RX12 597 "StatementRules2Model" "how" "I") k_X12_others_fieldLink_RX12_597_SRModel_how_I) dX12_others_377 (fun H locs hP hD hS => ?_)
    refine lv_aload_n hx hb dX12_others_380 rfl (lv_at hl 1 rfl) ?_
    refine lv_aload_n hx hb dX12_others_381 rfl (lv_at hl 1 rfl) ?_
    refine rG_106 hx hb hts i_X12_others_X12 hown hK hP (hts (.fieldLink RX12 261 "StatementRules2Model" "rTo" "[I") k_X12_others_fieldLink_RX12_261_SRModel_rTo_I) dX12_others_382 ?_
    refine lv_iload_n hx hb dX12_others_385 rfl (lv_at hl 0 rfl) ?_
    refine rL_106 (v := (σ.a 106 ((((σ.i 99) - 1) : Int32).toNatClampNeg))) hx hb hK hP b28 dX12_others_386 rfl ?_
    refine rP_111 hx hb hts i_X12_others_X12 hown hK hP hD hS (hts (.fieldLink RX12 609 "StatementRules2Model" "goTo" "I") k_X12_others_fieldLink_RX12_609_SRModel_goTo_I) dX12_others_387 (fun H locs hP hD hS => ?_)
    refine lv_aload_n hx hb dX12_others_390 rfl (lv_at hl 1 rfl) ?_
    refine lv_aload_n hx hb dX12_others_391 rfl (lv_at hl 1 rfl) ?_
    refine rG_107 hx hb hts i_X12_others_X12 hown hK hP (hts (.fieldLink RX12 264 "StatementRules2Model" "rDepth" "[I") k_X12_others_fieldLink_RX12_264_SRModel_rDepth_I) dX12_others_392 ?_
    refine lv_iload_n hx hb dX12_others_395 rfl (lv_at hl 0 rfl) ?_
    refine rL_107 (v := (σ.a 107 ((((σ.i 99) - 1) : Int32).toNatClampNeg))) hx hb hK hP b28 dX12_others_396 rfl ?_
    refine rP_112 hx hb hts i_X12_others_X12 hown hK hP hD hS (hts (.fieldLink RX12 612 "StatementRules2Model" "goDepth" "I") k_X12_others_fieldLink_RX12_612_SRModel_goDepth_I) dX12_others_397 (fun H locs hP hD hS => ?_)
    refine lv_aload_n hx hb dX12_others_400 rfl (lv_at hl 1 rfl) ?_
    refine lv_aload_n hx hb dX12_others_401 rfl (lv_at hl 1 rfl) ?_
    refine rG_108 hx hb hts i_X12_others_X12 hown hK hP (hts (.fieldLink RX12 267 "StatementRules2Model" "rValue" "[I") k_X12_others_fieldLink_RX12_267_SRModel_rValue_I) dX12_others_402 ?_
    refine lv_iload_n hx hb dX12_others_405 rfl (lv_at hl 0 rfl) ?_
    refine rL_108 (v := (σ.a 108 ((((σ.i 99) - 1) : Int32).toNatClampNeg))) hx hb hK hP b28 dX12_others_406 rfl ?_
    refine rP_113 hx hb hts i_X12_others_X12 hown hK hP hD hS (hts (.fieldLink RX12 615 "StatementRules2Model" "value" "I") k_X12_others_fieldLink_RX12_615_SRModel_value_I) dX12_others_407 (fun H locs hP hD hS => ?_)
    refine lv_aload_n hx hb dX12_others_410 rfl (lv_at hl 1 rfl) ?_
    refine lv_aload_n hx hb dX12_others_411 rfl (lv_at hl 1 rfl) ?_
    refine rG_109 hx hb hts i_X12_others_X12 hown hK hP (hts (.fieldLink RX12 270 "StatementRules2Model" "rThing" "[I") k_X12_others_fieldLink_RX12_270_SRModel_rThing_I) dX12_others_412 ?_
    refine lv_iload_n hx hb dX12_others_415 rfl (lv_at hl 0 rfl) ?_
    refine rL_109 (v := (σ.a 109 ((((σ.i 99) - 1) : Int32).toNatClampNeg))) hx hb hK hP b28 dX12_others_416 rfl ?_
    refine rP_114 hx hb hts i_X12_others_X12 hown hK hP hD hS (hts (.fieldLink RX12 595 "StatementRules2Model" "thing" "I") k_X12_others_fieldLink_RX12_595_SRModel_thing_I) dX12_others_417 (fun H locs hP hD hS => ?_)
    refine lv_aload_n hx hb dX12_others_420 rfl (lv_at hl 1 rfl) ?_
    refine lv_dup hx hb dX12_others_421 rfl ?_
    refine rG_99 (v := (σ.i 99)) hx hb hts i_X12_others_X12 hown hK hP (hts (.fieldLink RX12 586 "StatementRules2Model" "recs" "I") k_X12_others_fieldLink_RX12_586_SRModel_recs_I) dX12_others_422 rfl ?_
    refine lv_iconst (v := 1) hx hb dX12_others_425 (by decide) ?_
    refine lv_isub hx hb dX12_others_426 ?_
    refine rP_99 hx hb hts i_X12_others_X12 hown hK hP hD hS (hts (.fieldLink RX12 586 "StatementRules2Model" "recs" "I") k_X12_others_fieldLink_RX12_586_SRModel_recs_I) dX12_others_427 (fun H locs hP hD hS => ?_)
    refine lv_aload_n hx hb dX12_others_430 rfl (lv_at hl 1 rfl) ?_
    refine rG_110 (v := (σ.a 105 ((((σ.i 99) - 1) : Int32).toNatClampNeg))) hx hb hts i_X12_others_X12 hown hK hP (hts (.fieldLink RX12 597 "StatementRules2Model" "how" "I") k_X12_others_fieldLink_RX12_597_SRModel_how_I) dX12_others_431 rfl ?_
    refine lv_if_eq (tgt := 441) hx hb dX12_others_434 (by decide) (fun c29 => ?_) (fun c29 => ?_)
    ·
      replace hf := (if_pos c29).symm.trans hf
      obtain rfl := Option.some.inj hf
      exact W.vret hx hb hr (fun t ht hW => ⟨⟨(), rfl, trivial, by rw [ht]; exact hP, va_K.moved hW.alike hK, hD⟩, hS.F ht⟩) hS.2.2 dX12_others_441
    ·
      replace hf := (if_neg c29).symm.trans hf
      refine lv_aload_n hx hb dX12_others_437 rfl (lv_at hl 1 rfl) ?_
      obtain ⟨p30, hcp30, hf⟩ := hf_bind hf
      have hFc := r_free hD hS hA
      refine va_callv (va_runV (As := []) (rest := []) ⟨hx, hb, hml, hown, hts⟩ (c_X12_leave l dC dI _ Q N (RS.setI (RS.setI (RS.setI (RS.setI (RS.setI (RS.setI σ 110 (σ.a 105 ((((σ.i 99) - 1) : Int32).toNatClampNeg))) 111 (σ.a 106 ((((σ.i 99) - 1) : Int32).toNatClampNeg))) 112 (σ.a 107 ((((σ.i 99) - 1) : Int32).toNatClampNeg))) 113 (σ.a 108 ((((σ.i 99) - 1) : Int32).toNatClampNeg))) 114 (σ.a 109 ((((σ.i 99) - 1) : Int32).toNatClampNeg))) 99 ((σ.i 99) - 1)) p30 hcp30) (cwV 0 hts hX12_others_X12_leave_v648 rfl rfl rfl (by decide +kernel) ⟨Nat.le_of_ble_eq_true rfl, Nat.le_of_ble_eq_true rfl⟩) ⟨zPre.blind, va_recv hK hP (ci := 11) (q0 := 0) rfl rfl, zPre.go hZ hP hK hD⟩ rfl rfl hl.1 rfl (lv_room (Nat.le_of_ble_eq_true rfl)) dX12_others_438 ⟨Nat.le_of_ble_eq_true rfl, Nat.le_of_ble_eq_true rfl⟩) hS (fun q _ h => hFc q h) hFc (fun u9 t9 H1 locs ht hvm hw hB hz1 hk1 hS => ?_)
      obtain ⟨hP, hK1, hD1⟩ := hB
      rw [ht] at hP
      have hD := hD1.weaken (fun _ _ _ h => hFc _ h)
      generalize H1 = H at hP hS ⊢
      obtain rfl := Option.some.inj hf
      exact W.vret hx hb hr (fun t ht hW => ⟨⟨(), rfl, trivial, by rw [ht]; exact hP, va_K.moved hW.alike hK, hD⟩, hS.F ht⟩) hS.2.2 dX12_others_441
  replace hf := (if_neg c27).symm.trans hf
  by_cases c32 : (σ.a 21 ((x1 : Int32).toNatClampNeg)) = 29
  ·
    replace hf := (if_pos c32).symm.trans hf
    refine lv_tableIn (off := 357) (tgt := 370) hx hb dX12_others_13 (by rw [c32]; decide) (by rw [c32]; decide) (by rw [c32]; decide) (by decide) ?_
    refine lv_aload_n hx hb dX12_others_370 rfl (lv_at hl 1 rfl) ?_
    refine lv_aload_n hx hb dX12_others_371 rfl (lv_at hl 1 rfl) ?_
    refine rG_105 hx hb hts i_X12_others_X12 hown hK hP (hts (.fieldLink RX12 258 "StatementRules2Model" "rHow" "[I") k_X12_others_fieldLink_RX12_258_SRModel_rHow_I) dX12_others_372 ?_
    refine lv_iload_n hx hb dX12_others_375 rfl (lv_at hl 0 rfl) ?_
    obtain ⟨b33, hf⟩ := hf_ite hf
    refine rL_105 (v := (σ.a 105 ((((σ.i 99) - 1) : Int32).toNatClampNeg))) hx hb hK hP b33 dX12_others_376 rfl ?_
    refine rP_110 hx hb hts i_X12_others_X12 hown hK hP hD hS (hts (.fieldLink RX12 597 "StatementRules2Model" "how" "I") k_X12_others_fieldLink_RX12_597_SRModel_how_I) dX12_others_377 (fun H locs hP hD hS => ?_)
    refine lv_aload_n hx hb dX12_others_380 rfl (lv_at hl 1 rfl) ?_
    refine lv_aload_n hx hb dX12_others_381 rfl (lv_at hl 1 rfl) ?_
    refine rG_106 hx hb hts i_X12_others_X12 hown hK hP (hts (.fieldLink RX12 261 "StatementRules2Model" "rTo" "[I") k_X12_others_fieldLink_RX12_261_SRModel_rTo_I) dX12_others_382 ?_
    refine lv_iload_n hx hb dX12_others_385 rfl (lv_at hl 0 rfl) ?_
    refine rL_106 (v := (σ.a 106 ((((σ.i 99) - 1) : Int32).toNatClampNeg))) hx hb hK hP b33 dX12_others_386 rfl ?_
    refine rP_111 hx hb hts i_X12_others_X12 hown hK hP hD hS (hts (.fieldLink RX12 609 "StatementRules2Model" "goTo" "I") k_X12_others_fieldLink_RX12_609_SRModel_goTo_I) dX12_others_387 (fun H locs hP hD hS => ?_)
    refine lv_aload_n hx hb dX12_others_390 rfl (lv_at hl 1 rfl) ?_
    refine lv_aload_n hx hb dX12_others_391 rfl (lv_at hl 1 rfl) ?_
    refine rG_107 hx hb hts i_X12_others_X12 hown hK hP (hts (.fieldLink RX12 264 "StatementRules2Model" "rDepth" "[I") k_X12_others_fieldLink_RX12_264_SRModel_rDepth_I) dX12_others_392 ?_
    refine lv_iload_n hx hb dX12_others_395 rfl (lv_at hl 0 rfl) ?_
    refine rL_107 (v := (σ.a 107 ((((σ.i 99) - 1) : Int32).toNatClampNeg))) hx hb hK hP b33 dX12_others_396 rfl ?_
    refine rP_112 hx hb hts i_X12_others_X12 hown hK hP hD hS (hts (.fieldLink RX12 612 "StatementRules2Model" "goDepth" "I") k_X12_others_fieldLink_RX12_612_SRModel_goDepth_I) dX12_others_397 (fun H locs hP hD hS => ?_)
    refine lv_aload_n hx hb dX12_others_400 rfl (lv_at hl 1 rfl) ?_
    refine lv_aload_n hx hb dX12_others_401 rfl (lv_at hl 1 rfl) ?_
    refine rG_108 hx hb hts i_X12_others_X12 hown hK hP (hts (.fieldLink RX12 267 "StatementRules2Model" "rValue" "[I") k_X12_others_fieldLink_RX12_267_SRModel_rValue_I) dX12_others_402 ?_
    refine lv_iload_n hx hb dX12_others_405 rfl (lv_at hl 0 rfl) ?_
    refine rL_108 (v := (σ.a 108 ((((σ.i 99) - 1) : Int32).toNatClampNeg))) hx hb hK hP b33 dX12_others_406 rfl ?_
    refine rP_113 hx hb hts i_X12_others_X12 hown hK hP hD hS (hts (.fieldLink RX12 615 "StatementRules2Model" "value" "I") k_X12_others_fieldLink_RX12_615_SRModel_value_I) dX12_others_407 (fun H locs hP hD hS => ?_)
    refine lv_aload_n hx hb dX12_others_410 rfl (lv_at hl 1 rfl) ?_
    refine lv_aload_n hx hb dX12_others_411 rfl (lv_at hl 1 rfl) ?_
    refine rG_109 hx hb hts i_X12_others_X12 hown hK hP (hts (.fieldLink RX12 270 "StatementRules2Model" "rThing" "[I") k_X12_others_fieldLink_RX12_270_SRModel_rThing_I) dX12_others_412 ?_
    refine lv_iload_n hx hb dX12_others_415 rfl (lv_at hl 0 rfl) ?_
    refine rL_109 (v := (σ.a 109 ((((σ.i 99) - 1) : Int32).toNatClampNeg))) hx hb hK hP b33 dX12_others_416 rfl ?_
    refine rP_114 hx hb hts i_X12_others_X12 hown hK hP hD hS (hts (.fieldLink RX12 595 "StatementRules2Model" "thing" "I") k_X12_others_fieldLink_RX12_595_SRModel_thing_I) dX12_others_417 (fun H locs hP hD hS => ?_)
    refine lv_aload_n hx hb dX12_others_420 rfl (lv_at hl 1 rfl) ?_
    refine lv_dup hx hb dX12_others_421 rfl ?_
    refine rG_99 (v := (σ.i 99)) hx hb hts i_X12_others_X12 hown hK hP (hts (.fieldLink RX12 586 "StatementRules2Model" "recs" "I") k_X12_others_fieldLink_RX12_586_SRModel_recs_I) dX12_others_422 rfl ?_
    refine lv_iconst (v := 1) hx hb dX12_others_425 (by decide) ?_
    refine lv_isub hx hb dX12_others_426 ?_
    refine rP_99 hx hb hts i_X12_others_X12 hown hK hP hD hS (hts (.fieldLink RX12 586 "StatementRules2Model" "recs" "I") k_X12_others_fieldLink_RX12_586_SRModel_recs_I) dX12_others_427 (fun H locs hP hD hS => ?_)
    refine lv_aload_n hx hb dX12_others_430 rfl (lv_at hl 1 rfl) ?_
    refine rG_110 (v := (σ.a 105 ((((σ.i 99) - 1) : Int32).toNatClampNeg))) hx hb hts i_X12_others_X12 hown hK hP (hts (.fieldLink RX12 597 "StatementRules2Model" "how" "I") k_X12_others_fieldLink_RX12_597_SRModel_how_I) dX12_others_431 rfl ?_
    refine lv_if_eq (tgt := 441) hx hb dX12_others_434 (by decide) (fun c34 => ?_) (fun c34 => ?_)
    ·
      replace hf := (if_pos c34).symm.trans hf
      obtain rfl := Option.some.inj hf
      exact W.vret hx hb hr (fun t ht hW => ⟨⟨(), rfl, trivial, by rw [ht]; exact hP, va_K.moved hW.alike hK, hD⟩, hS.F ht⟩) hS.2.2 dX12_others_441
    ·
      replace hf := (if_neg c34).symm.trans hf
      refine lv_aload_n hx hb dX12_others_437 rfl (lv_at hl 1 rfl) ?_
      obtain ⟨p35, hcp35, hf⟩ := hf_bind hf
      have hFc := r_free hD hS hA
      refine va_callv (va_runV (As := []) (rest := []) ⟨hx, hb, hml, hown, hts⟩ (c_X12_leave l dC dI _ Q N (RS.setI (RS.setI (RS.setI (RS.setI (RS.setI (RS.setI σ 110 (σ.a 105 ((((σ.i 99) - 1) : Int32).toNatClampNeg))) 111 (σ.a 106 ((((σ.i 99) - 1) : Int32).toNatClampNeg))) 112 (σ.a 107 ((((σ.i 99) - 1) : Int32).toNatClampNeg))) 113 (σ.a 108 ((((σ.i 99) - 1) : Int32).toNatClampNeg))) 114 (σ.a 109 ((((σ.i 99) - 1) : Int32).toNatClampNeg))) 99 ((σ.i 99) - 1)) p35 hcp35) (cwV 0 hts hX12_others_X12_leave_v648 rfl rfl rfl (by decide +kernel) ⟨Nat.le_of_ble_eq_true rfl, Nat.le_of_ble_eq_true rfl⟩) ⟨zPre.blind, va_recv hK hP (ci := 11) (q0 := 0) rfl rfl, zPre.go hZ hP hK hD⟩ rfl rfl hl.1 rfl (lv_room (Nat.le_of_ble_eq_true rfl)) dX12_others_438 ⟨Nat.le_of_ble_eq_true rfl, Nat.le_of_ble_eq_true rfl⟩) hS (fun q _ h => hFc q h) hFc (fun u9 t9 H1 locs ht hvm hw hB hz1 hk1 hS => ?_)
      obtain ⟨hP, hK1, hD1⟩ := hB
      rw [ht] at hP
      have hD := hD1.weaken (fun _ _ _ h => hFc _ h)
      generalize H1 = H at hP hS ⊢
      obtain rfl := Option.some.inj hf
      exact W.vret hx hb hr (fun t ht hW => ⟨⟨(), rfl, trivial, by rw [ht]; exact hP, va_K.moved hW.alike hK, hD⟩, hS.F ht⟩) hS.2.2 dX12_others_441
  replace hf := (if_neg c32).symm.trans hf
  by_cases c37 : (σ.a 21 ((x1 : Int32).toNatClampNeg)) = 30
  ·
    replace hf := (if_pos c37).symm.trans hf
    refine lv_tableIn (off := 357) (tgt := 370) hx hb dX12_others_13 (by rw [c37]; decide) (by rw [c37]; decide) (by rw [c37]; decide) (by decide) ?_
    refine lv_aload_n hx hb dX12_others_370 rfl (lv_at hl 1 rfl) ?_
    refine lv_aload_n hx hb dX12_others_371 rfl (lv_at hl 1 rfl) ?_
    refine rG_105 hx hb hts i_X12_others_X12 hown hK hP (hts (.fieldLink RX12 258 "StatementRules2Model" "rHow" "[I") k_X12_others_fieldLink_RX12_258_SRModel_rHow_I) dX12_others_372 ?_
    refine lv_iload_n hx hb dX12_others_375 rfl (lv_at hl 0 rfl) ?_
    obtain ⟨b38, hf⟩ := hf_ite hf
    refine rL_105 (v := (σ.a 105 ((((σ.i 99) - 1) : Int32).toNatClampNeg))) hx hb hK hP b38 dX12_others_376 rfl ?_
    refine rP_110 hx hb hts i_X12_others_X12 hown hK hP hD hS (hts (.fieldLink RX12 597 "StatementRules2Model" "how" "I") k_X12_others_fieldLink_RX12_597_SRModel_how_I) dX12_others_377 (fun H locs hP hD hS => ?_)
    refine lv_aload_n hx hb dX12_others_380 rfl (lv_at hl 1 rfl) ?_
    refine lv_aload_n hx hb dX12_others_381 rfl (lv_at hl 1 rfl) ?_
    refine rG_106 hx hb hts i_X12_others_X12 hown hK hP (hts (.fieldLink RX12 261 "StatementRules2Model" "rTo" "[I") k_X12_others_fieldLink_RX12_261_SRModel_rTo_I) dX12_others_382 ?_
    refine lv_iload_n hx hb dX12_others_385 rfl (lv_at hl 0 rfl) ?_
    refine rL_106 (v := (σ.a 106 ((((σ.i 99) - 1) : Int32).toNatClampNeg))) hx hb hK hP b38 dX12_others_386 rfl ?_
    refine rP_111 hx hb hts i_X12_others_X12 hown hK hP hD hS (hts (.fieldLink RX12 609 "StatementRules2Model" "goTo" "I") k_X12_others_fieldLink_RX12_609_SRModel_goTo_I) dX12_others_387 (fun H locs hP hD hS => ?_)
    refine lv_aload_n hx hb dX12_others_390 rfl (lv_at hl 1 rfl) ?_
    refine lv_aload_n hx hb dX12_others_391 rfl (lv_at hl 1 rfl) ?_
    refine rG_107 hx hb hts i_X12_others_X12 hown hK hP (hts (.fieldLink RX12 264 "StatementRules2Model" "rDepth" "[I") k_X12_others_fieldLink_RX12_264_SRModel_rDepth_I) dX12_others_392 ?_
    refine lv_iload_n hx hb dX12_others_395 rfl (lv_at hl 0 rfl) ?_
    refine rL_107 (v := (σ.a 107 ((((σ.i 99) - 1) : Int32).toNatClampNeg))) hx hb hK hP b38 dX12_others_396 rfl ?_
    refine rP_112 hx hb hts i_X12_others_X12 hown hK hP hD hS (hts (.fieldLink RX12 612 "StatementRules2Model" "goDepth" "I") k_X12_others_fieldLink_RX12_612_SRModel_goDepth_I) dX12_others_397 (fun H locs hP hD hS => ?_)
    refine lv_aload_n hx hb dX12_others_400 rfl (lv_at hl 1 rfl) ?_
    refine lv_aload_n hx hb dX12_others_401 rfl (lv_at hl 1 rfl) ?_
    refine rG_108 hx hb hts i_X12_others_X12 hown hK hP (hts (.fieldLink RX12 267 "StatementRules2Model" "rValue" "[I") k_X12_others_fieldLink_RX12_267_SRModel_rValue_I) dX12_others_402 ?_
    refine lv_iload_n hx hb dX12_others_405 rfl (lv_at hl 0 rfl) ?_
    refine rL_108 (v := (σ.a 108 ((((σ.i 99) - 1) : Int32).toNatClampNeg))) hx hb hK hP b38 dX12_others_406 rfl ?_
    refine rP_113 hx hb hts i_X12_others_X12 hown hK hP hD hS (hts (.fieldLink RX12 615 "StatementRules2Model" "value" "I") k_X12_others_fieldLink_RX12_615_SRModel_value_I) dX12_others_407 (fun H locs hP hD hS => ?_)
    refine lv_aload_n hx hb dX12_others_410 rfl (lv_at hl 1 rfl) ?_
    refine lv_aload_n hx hb dX12_others_411 rfl (lv_at hl 1 rfl) ?_
    refine rG_109 hx hb hts i_X12_others_X12 hown hK hP (hts (.fieldLink RX12 270 "StatementRules2Model" "rThing" "[I") k_X12_others_fieldLink_RX12_270_SRModel_rThing_I) dX12_others_412 ?_
    refine lv_iload_n hx hb dX12_others_415 rfl (lv_at hl 0 rfl) ?_
    refine rL_109 (v := (σ.a 109 ((((σ.i 99) - 1) : Int32).toNatClampNeg))) hx hb hK hP b38 dX12_others_416 rfl ?_
    refine rP_114 hx hb hts i_X12_others_X12 hown hK hP hD hS (hts (.fieldLink RX12 595 "StatementRules2Model" "thing" "I") k_X12_others_fieldLink_RX12_595_SRModel_thing_I) dX12_others_417 (fun H locs hP hD hS => ?_)
    refine lv_aload_n hx hb dX12_others_420 rfl (lv_at hl 1 rfl) ?_
    refine lv_dup hx hb dX12_others_421 rfl ?_
    refine rG_99 (v := (σ.i 99)) hx hb hts i_X12_others_X12 hown hK hP (hts (.fieldLink RX12 586 "StatementRules2Model" "recs" "I") k_X12_others_fieldLink_RX12_586_SRModel_recs_I) dX12_others_422 rfl ?_
    refine lv_iconst (v := 1) hx hb dX12_others_425 (by decide) ?_
    refine lv_isub hx hb dX12_others_426 ?_
    refine rP_99 hx hb hts i_X12_others_X12 hown hK hP hD hS (hts (.fieldLink RX12 586 "StatementRules2Model" "recs" "I") k_X12_others_fieldLink_RX12_586_SRModel_recs_I) dX12_others_427 (fun H locs hP hD hS => ?_)
    refine lv_aload_n hx hb dX12_others_430 rfl (lv_at hl 1 rfl) ?_
    refine rG_110 (v := (σ.a 105 ((((σ.i 99) - 1) : Int32).toNatClampNeg))) hx hb hts i_X12_others_X12 hown hK hP (hts (.fieldLink RX12 597 "StatementRules2Model" "how" "I") k_X12_others_fieldLink_RX12_597_SRModel_how_I) dX12_others_431 rfl ?_
    refine lv_if_eq (tgt := 441) hx hb dX12_others_434 (by decide) (fun c39 => ?_) (fun c39 => ?_)
    ·
      replace hf := (if_pos c39).symm.trans hf
      obtain rfl := Option.some.inj hf
      exact W.vret hx hb hr (fun t ht hW => ⟨⟨(), rfl, trivial, by rw [ht]; exact hP, va_K.moved hW.alike hK, hD⟩, hS.F ht⟩) hS.2.2 dX12_others_441
    ·
      replace hf := (if_neg c39).symm.trans hf
      refine lv_aload_n hx hb dX12_others_437 rfl (lv_at hl 1 rfl) ?_
      obtain ⟨p40, hcp40, hf⟩ := hf_bind hf
      have hFc := r_free hD hS hA
      refine va_callv (va_runV (As := []) (rest := []) ⟨hx, hb, hml, hown, hts⟩ (c_X12_leave l dC dI _ Q N (RS.setI (RS.setI (RS.setI (RS.setI (RS.setI (RS.setI σ 110 (σ.a 105 ((((σ.i 99) - 1) : Int32).toNatClampNeg))) 111 (σ.a 106 ((((σ.i 99) - 1) : Int32).toNatClampNeg))) 112 (σ.a 107 ((((σ.i 99) - 1) : Int32).toNatClampNeg))) 113 (σ.a 108 ((((σ.i 99) - 1) : Int32).toNatClampNeg))) 114 (σ.a 109 ((((σ.i 99) - 1) : Int32).toNatClampNeg))) 99 ((σ.i 99) - 1)) p40 hcp40) (cwV 0 hts hX12_others_X12_leave_v648 rfl rfl rfl (by decide +kernel) ⟨Nat.le_of_ble_eq_true rfl, Nat.le_of_ble_eq_true rfl⟩) ⟨zPre.blind, va_recv hK hP (ci := 11) (q0 := 0) rfl rfl, zPre.go hZ hP hK hD⟩ rfl rfl hl.1 rfl (lv_room (Nat.le_of_ble_eq_true rfl)) dX12_others_438 ⟨Nat.le_of_ble_eq_true rfl, Nat.le_of_ble_eq_true rfl⟩) hS (fun q _ h => hFc q h) hFc (fun u9 t9 H1 locs ht hvm hw hB hz1 hk1 hS => ?_)
      obtain ⟨hP, hK1, hD1⟩ := hB
      rw [ht] at hP
      have hD := hD1.weaken (fun _ _ _ h => hFc _ h)
      generalize H1 = H at hP hS ⊢
      obtain rfl := Option.some.inj hf
      exact W.vret hx hb hr (fun t ht hW => ⟨⟨(), rfl, trivial, by rw [ht]; exact hP, va_K.moved hW.alike hK, hD⟩, hS.F ht⟩) hS.2.2 dX12_others_441
  replace hf := (if_neg c37).symm.trans hf
  by_cases c42 : (σ.a 21 ((x1 : Int32).toNatClampNeg)) = 31
  ·
    replace hf := (if_pos c42).symm.trans hf
    refine lv_tableIn (off := 229) (tgt := 242) hx hb dX12_others_13 (by rw [c42]; decide) (by rw [c42]; decide) (by rw [c42]; decide) (by decide) ?_
    refine lv_aload_n hx hb dX12_others_242 rfl (lv_at hl 1 rfl) ?_
    refine lv_iconst (v := 4) hx hb dX12_others_243 (by decide) ?_
    refine lv_iload_n hx hb dX12_others_244 rfl (lv_at hl 3 rfl) ?_
    refine lv_iconst (v := 0) hx hb dX12_others_245 (by decide) ?_
    refine lv_aload_n hx hb dX12_others_246 rfl (lv_at hl 1 rfl) ?_
    refine rG_95 (v := (σ.i 95)) hx hb hts i_X12_others_X12 hown hK hP (hts (.fieldLink RX12 600 "StatementRules2Model" "openMany" "I") k_X12_others_fieldLink_RX12_600_SRModel_openMany_I) dX12_others_247 rfl ?_
    obtain ⟨p43, hcp43, hf⟩ := hf_bind hf
    have hFc := r_free hD hS hA
    refine va_calli (va_runV (As := [.int 4, .int x2, .int 0, .int (σ.i 95)]) (rest := []) ⟨hx, hb, hml, hown, hts⟩ (c_X12_record l dC dI _ Q N σ 4 x2 0 (σ.i 95) p43 hcp43) (cwV 4 hts hX12_others_X12_record_v658 rfl rfl rfl (by decide +kernel) ⟨Nat.le_of_ble_eq_true rfl, Nat.le_of_ble_eq_true rfl⟩) ⟨zPre.blind, va_recv hK hP (ci := 11) (q0 := 0) rfl rfl, zPre.go hZ hP hK hD⟩ rfl rfl hl.1 rfl (lv_room (Nat.le_of_ble_eq_true rfl)) dX12_others_250 ⟨Nat.le_of_ble_eq_true rfl, Nat.le_of_ble_eq_true rfl⟩) hS (fun q _ h => hFc q h) hFc (fun r44 u9 t9 H1 locs ht hvm hw hB hz1 hk1 hS => ?_)
    obtain ⟨hP, hK1, hD1⟩ := hB
    rw [ht] at hP
    have hD := hD1.weaken (fun _ _ _ h => hFc _ h)
    generalize H1 = H at hP hS ⊢
    obtain rfl : r44 = p43.1 := hw
    refine lv_pop hx hb dX12_others_253 rfl ?_
    refine lv_goto (tgt := 441) hx hb dX12_others_254 (by decide) ?_
    obtain rfl := Option.some.inj hf
    exact W.vret hx hb hr (fun t ht hW => ⟨⟨(), rfl, trivial, by rw [ht]; exact hP, va_K.moved hW.alike hK, hD⟩, hS.F ht⟩) hS.2.2 dX12_others_441
  replace hf := (if_neg c42).symm.trans hf
  by_cases c45 : (σ.a 21 ((x1 : Int32).toNatClampNeg)) = 32
  ·
    replace hf := (if_pos c45).symm.trans hf
    refine lv_tableIn (off := 244) (tgt := 257) hx hb dX12_others_13 (by rw [c45]; decide) (by rw [c45]; decide) (by rw [c45]; decide) (by decide) ?_
    refine lv_aload_n hx hb dX12_others_257 rfl (lv_at hl 1 rfl) ?_
    refine rG_6 hx hb hts i_X12_others_X12 hown hK hP (hts (.fieldLink RX12 24 "StatementRules2Model" "opening" "[I") k_X12_others_fieldLink_RX12_24_SRModel_opening_I) dX12_others_258 ?_
    refine lv_iload_n hx hb dX12_others_261 rfl (lv_at hl 3 rfl) ?_
    obtain ⟨b46, hf⟩ := hf_ite hf
    refine rL_6 (v := (σ.a 6 ((x2 : Int32).toNatClampNeg))) hx hb hK hP b46 dX12_others_262 rfl ?_
    refine lv_if_le (tgt := 286) hx hb dX12_others_263 (by decide) (fun c47 => ?_) (fun c47 => ?_)
    ·
      replace hf := (if_pos c47).symm.trans hf
      refine lv_aload_n hx hb dX12_others_286 rfl (lv_at hl 1 rfl) ?_
      refine rG_5 hx hb hts i_X12_others_X12 hown hK hP (hts (.fieldLink RX12 20 "StatementRules2Model" "isNull" "[Z") k_X12_others_fieldLink_RX12_20_SRModel_isNull_Z) dX12_others_287 ?_
      refine lv_iload_n hx hb dX12_others_290 rfl (lv_at hl 3 rfl) ?_
      refine rL_5 (v := (σ.a 5 ((x2 : Int32).toNatClampNeg))) hx hb hK hP b46 dX12_others_291 rfl ?_
      refine lv_if_ne (tgt := 441) hx hb dX12_others_292 (by decide) (fun c48 => ?_) (fun c48 => ?_)
      ·
        replace hf := (if_neg c48).symm.trans hf
        obtain rfl := Option.some.inj hf
        exact W.vret hx hb hr (fun t ht hW => ⟨⟨(), rfl, trivial, by rw [ht]; exact hP, va_K.moved hW.alike hK, hD⟩, hS.F ht⟩) hS.2.2 dX12_others_441
      ·
        replace hf := (if_pos c48).symm.trans hf
        refine lv_aload_n hx hb dX12_others_295 rfl (lv_at hl 1 rfl) ?_
        refine lv_iconst (v := 1) hx hb dX12_others_296 (by decide) ?_
        refine lv_iload_n hx hb dX12_others_297 rfl (lv_at hl 3 rfl) ?_
        obtain ⟨p49, hcp49, hf⟩ := hf_bind hf
        have hFc := r_free hD hS hA
        refine va_callv (va_runV (As := [.int 1, .int x2]) (rest := []) ⟨hx, hb, hml, hown, hts⟩ (c_X12_row l dC dI _ Q N σ 1 x2 p49 hcp49) (cwV 2 hts hX12_others_X12_row_v603 rfl rfl rfl (by decide +kernel) ⟨Nat.le_of_ble_eq_true rfl, Nat.le_of_ble_eq_true rfl⟩) ⟨zPre.blind, va_recv hK hP (ci := 11) (q0 := 0) rfl rfl, zPre.go hZ hP hK hD⟩ rfl rfl hl.1 rfl (lv_room (Nat.le_of_ble_eq_true rfl)) dX12_others_298 ⟨Nat.le_of_ble_eq_true rfl, Nat.le_of_ble_eq_true rfl⟩) hS (fun q _ h => hFc q h) hFc (fun u9 t9 H1 locs ht hvm hw hB hz1 hk1 hS => ?_)
        obtain ⟨hP, hK1, hD1⟩ := hB
        rw [ht] at hP
        have hD := hD1.weaken (fun _ _ _ h => hFc _ h)
        generalize H1 = H at hP hS ⊢
        refine lv_aload_n hx hb dX12_others_301 rfl (lv_at hl 1 rfl) ?_
        refine rG_96 hx hb hts i_X12_others_X12 hown hK hP (hts (.fieldLink RX12 237 "StatementRules2Model" "openOf" "[I") k_X12_others_fieldLink_RX12_237_SRModel_openOf_I) dX12_others_302 ?_
        refine lv_aload_n hx hb dX12_others_305 rfl (lv_at hl 1 rfl) ?_
        refine rG_95 (v := (p49.i 95)) hx hb hts i_X12_others_X12 hown hK hP (hts (.fieldLink RX12 600 "StatementRules2Model" "openMany" "I") k_X12_others_fieldLink_RX12_600_SRModel_openMany_I) dX12_others_306 rfl ?_
        refine lv_iload_n hx hb dX12_others_309 rfl (lv_at hl 3 rfl) ?_
        obtain ⟨b51, hf⟩ := hf_ite hf
        refine rS_96 hx hb hK hP hD hS b51 dX12_others_310 (fun H locs hP hD hS => ?_)
        refine lv_aload_n hx hb dX12_others_311 rfl (lv_at hl 1 rfl) ?_
        refine lv_dup hx hb dX12_others_312 rfl ?_
        refine rG_95 (v := (p49.i 95)) hx hb hts i_X12_others_X12 hown hK hP (hts (.fieldLink RX12 600 "StatementRules2Model" "openMany" "I") k_X12_others_fieldLink_RX12_600_SRModel_openMany_I) dX12_others_313 rfl ?_
        refine lv_iconst (v := 1) hx hb dX12_others_316 (by decide) ?_
        refine lv_iadd hx hb dX12_others_317 ?_
        refine rP_95 hx hb hts i_X12_others_X12 hown hK hP hD hS (hts (.fieldLink RX12 600 "StatementRules2Model" "openMany" "I") k_X12_others_fieldLink_RX12_600_SRModel_openMany_I) dX12_others_318 (fun H locs hP hD hS => ?_)
        refine lv_goto (tgt := 441) hx hb dX12_others_321 (by decide) ?_
        obtain rfl := Option.some.inj hf
        exact W.vret hx hb hr (fun t ht hW => ⟨⟨(), rfl, trivial, by rw [ht]; exact hP, va_K.moved hW.alike hK, hD⟩, hS.F ht⟩) hS.2.2 dX12_others_441
    ·
      replace hf := (if_neg c47).symm.trans hf
      refine lv_aload_n hx hb dX12_others_266 rfl (lv_at hl 1 rfl) ?_
      refine lv_aload_n hx hb dX12_others_267 rfl (lv_at hl 1 rfl) ?_
      refine rG_6 hx hb hts i_X12_others_X12 hown hK hP (hts (.fieldLink RX12 24 "StatementRules2Model" "opening" "[I") k_X12_others_fieldLink_RX12_24_SRModel_opening_I) dX12_others_268 ?_
      refine lv_iload_n hx hb dX12_others_271 rfl (lv_at hl 3 rfl) ?_
      refine rL_6 (v := (σ.a 6 ((x2 : Int32).toNatClampNeg))) hx hb hK hP b46 dX12_others_272 rfl ?_
      refine lv_iconst (v := 1) hx hb dX12_others_273 (by decide) ?_
      refine lv_isub hx hb dX12_others_274 ?_
      refine lv_iload_n hx hb dX12_others_275 rfl (lv_at hl 3 rfl) ?_
      obtain ⟨p52, hcp52, hf⟩ := hf_bind hf
      have hFc := r_free hD hS hA
      refine va_callv (va_runV (As := [.int ((σ.a 6 ((x2 : Int32).toNatClampNeg)) - 1), .int x2]) (rest := []) ⟨hx, hb, hml, hown, hts⟩ (c_X12_raise l dC dI _ Q N σ ((σ.a 6 ((x2 : Int32).toNatClampNeg)) - 1) x2 p52 hcp52) (cwV 2 hts hX12_others_X12_raise_v606 rfl rfl rfl (by decide +kernel) ⟨Nat.le_of_ble_eq_true rfl, Nat.le_of_ble_eq_true rfl⟩) ⟨zPre.blind, va_recv hK hP (ci := 11) (q0 := 0) rfl rfl, zPre.go hZ hP hK hD⟩ rfl rfl hl.1 rfl (lv_room (Nat.le_of_ble_eq_true rfl)) dX12_others_276 ⟨Nat.le_of_ble_eq_true rfl, Nat.le_of_ble_eq_true rfl⟩) hS (fun q _ h => hFc q h) hFc (fun u9 t9 H1 locs ht hvm hw hB hz1 hk1 hS => ?_)
      obtain ⟨hP, hK1, hD1⟩ := hB
      rw [ht] at hP
      have hD := hD1.weaken (fun _ _ _ h => hFc _ h)
      generalize H1 = H at hP hS ⊢
      refine lv_aload_n hx hb dX12_others_279 rfl (lv_at hl 1 rfl) ?_
      obtain ⟨p54, hcp54, hf⟩ := hf_bind hf
      have hFc := r_free hD hS hA
      refine va_callv (va_runV (As := []) (rest := []) ⟨hx, hb, hml, hown, hts⟩ (c_X12_leave l dC dI _ Q N p52 p54 hcp54) (cwV 0 hts hX12_others_X12_leave_v648 rfl rfl rfl (by decide +kernel) ⟨Nat.le_of_ble_eq_true rfl, Nat.le_of_ble_eq_true rfl⟩) ⟨zPre.blind, va_recv hK hP (ci := 11) (q0 := 0) rfl rfl, zPre.go hZ hP hK hD⟩ rfl rfl hl.1 rfl (lv_room (Nat.le_of_ble_eq_true rfl)) dX12_others_280 ⟨Nat.le_of_ble_eq_true rfl, Nat.le_of_ble_eq_true rfl⟩) hS (fun q _ h => hFc q h) hFc (fun u9 t9 H1 locs ht hvm hw hB hz1 hk1 hS => ?_)
      obtain ⟨hP, hK1, hD1⟩ := hB
      rw [ht] at hP
      have hD := hD1.weaken (fun _ _ _ h => hFc _ h)
      generalize H1 = H at hP hS ⊢
      refine lv_goto (tgt := 441) hx hb dX12_others_283 (by decide) ?_
      obtain rfl := Option.some.inj hf
      exact W.vret hx hb hr (fun t ht hW => ⟨⟨(), rfl, trivial, by rw [ht]; exact hP, va_K.moved hW.alike hK, hD⟩, hS.F ht⟩) hS.2.2 dX12_others_441
  replace hf := (if_neg c45).symm.trans hf
  by_cases c56 : (σ.a 21 ((x1 : Int32).toNatClampNeg)) = 33
  ·
    replace hf := (if_pos c56).symm.trans hf
    refine lv_tableIn (off := 311) (tgt := 324) hx hb dX12_others_13 (by rw [c56]; decide) (by rw [c56]; decide) (by rw [c56]; decide) (by decide) ?_
    refine lv_aload_n hx hb dX12_others_324 rfl (lv_at hl 1 rfl) ?_
    refine lv_iconst (v := 0) hx hb dX12_others_325 (by decide) ?_
    refine rP_110 hx hb hts i_X12_others_X12 hown hK hP hD hS (hts (.fieldLink RX12 597 "StatementRules2Model" "how" "I") k_X12_others_fieldLink_RX12_597_SRModel_how_I) dX12_others_326 (fun H locs hP hD hS => ?_)
    refine lv_aload_n hx hb dX12_others_329 rfl (lv_at hl 1 rfl) ?_
    refine lv_iload_n hx hb dX12_others_330 rfl (lv_at hl 0 rfl) ?_
    obtain ⟨p57, hcp57, hf⟩ := hf_bind hf
    have hFc := r_free hD hS hA
    refine va_callv (va_runV (As := [.int ((σ.i 99) - 1)]) (rest := []) ⟨hx, hb, hml, hown, hts⟩ (c_X12_closeAll l dC dI _ Q N (RS.setI σ 110 0) ((σ.i 99) - 1) p57 hcp57) (cwV 1 hts hX12_others_X12_closeAll_v624 rfl rfl rfl (by decide +kernel) ⟨Nat.le_of_ble_eq_true rfl, Nat.le_of_ble_eq_true rfl⟩) ⟨zPre.blind, va_recv hK hP (ci := 11) (q0 := 0) rfl rfl, zPre.go hZ hP hK hD⟩ rfl rfl hl.1 rfl (lv_room (Nat.le_of_ble_eq_true rfl)) dX12_others_331 ⟨Nat.le_of_ble_eq_true rfl, Nat.le_of_ble_eq_true rfl⟩) hS (fun q _ h => hFc q h) hFc (fun u9 t9 H1 locs ht hvm hw hB hz1 hk1 hS => ?_)
    obtain ⟨hP, hK1, hD1⟩ := hB
    rw [ht] at hP
    have hD := hD1.weaken (fun _ _ _ h => hFc _ h)
    generalize H1 = H at hP hS ⊢
    refine lv_aload_n hx hb dX12_others_334 rfl (lv_at hl 1 rfl) ?_
    refine rG_110 (v := (p57.i 110)) hx hb hts i_X12_others_X12 hown hK hP (hts (.fieldLink RX12 597 "StatementRules2Model" "how" "I") k_X12_others_fieldLink_RX12_597_SRModel_how_I) dX12_others_335 rfl ?_
    refine lv_iconst (v := 3) hx hb dX12_others_338 (by decide) ?_
    refine lv_icmp_ne (tgt := 349) hx hb dX12_others_339 (by decide) (fun c59 => ?_) (fun c59 => ?_)
    ·
      replace hf := (if_neg c59).symm.trans hf
      refine lv_aload_n hx hb dX12_others_349 rfl (lv_at hl 1 rfl) ?_
      refine lv_iload_n hx hb dX12_others_350 rfl (lv_at hl 0 rfl) ?_
      obtain ⟨p60, hcp60, hf⟩ := hf_bind hf
      have hFc := r_free hD hS hA
      refine va_callv (va_runV (As := [.int ((σ.i 99) - 1)]) (rest := []) ⟨hx, hb, hml, hown, hts⟩ (c_X12_goOn l dC dI _ Q N p57 ((σ.i 99) - 1) p60 hcp60) (cwV 1 hts hX12_others_X12_goOn_v668 rfl rfl rfl (by decide +kernel) ⟨Nat.le_of_ble_eq_true rfl, Nat.le_of_ble_eq_true rfl⟩) ⟨zPre.blind, va_recv hK hP (ci := 11) (q0 := 0) rfl rfl, zPre.go hZ hP hK hD⟩ rfl rfl hl.1 rfl (lv_room (Nat.le_of_ble_eq_true rfl)) dX12_others_351 ⟨Nat.le_of_ble_eq_true rfl, Nat.le_of_ble_eq_true rfl⟩) hS (fun q _ h => hFc q h) hFc (fun u9 t9 H1 locs ht hvm hw hB hz1 hk1 hS => ?_)
      obtain ⟨hP, hK1, hD1⟩ := hB
      rw [ht] at hP
      have hD := hD1.weaken (fun _ _ _ h => hFc _ h)
      generalize H1 = H at hP hS ⊢
      refine lv_goto (tgt := 441) hx hb dX12_others_354 (by decide) ?_
      obtain rfl := Option.some.inj hf
      exact W.vret hx hb hr (fun t ht hW => ⟨⟨(), rfl, trivial, by rw [ht]; exact hP, va_K.moved hW.alike hK, hD⟩, hS.F ht⟩) hS.2.2 dX12_others_441
    ·
      replace hf := (if_pos c59).symm.trans hf
      refine lv_aload_n hx hb dX12_others_342 rfl (lv_at hl 1 rfl) ?_
      obtain ⟨p62, hcp62, hf⟩ := hf_bind hf
      have hFc := r_free hD hS hA
      refine va_callv (va_runV (As := []) (rest := []) ⟨hx, hb, hml, hown, hts⟩ (c_X12_leave l dC dI _ Q N p57 p62 hcp62) (cwV 0 hts hX12_others_X12_leave_v648 rfl rfl rfl (by decide +kernel) ⟨Nat.le_of_ble_eq_true rfl, Nat.le_of_ble_eq_true rfl⟩) ⟨zPre.blind, va_recv hK hP (ci := 11) (q0 := 0) rfl rfl, zPre.go hZ hP hK hD⟩ rfl rfl hl.1 rfl (lv_room (Nat.le_of_ble_eq_true rfl)) dX12_others_343 ⟨Nat.le_of_ble_eq_true rfl, Nat.le_of_ble_eq_true rfl⟩) hS (fun q _ h => hFc q h) hFc (fun u9 t9 H1 locs ht hvm hw hB hz1 hk1 hS => ?_)
      obtain ⟨hP, hK1, hD1⟩ := hB
      rw [ht] at hP
      have hD := hD1.weaken (fun _ _ _ h => hFc _ h)
      generalize H1 = H at hP hS ⊢
      refine lv_goto (tgt := 441) hx hb dX12_others_346 (by decide) ?_
      obtain rfl := Option.some.inj hf
      exact W.vret hx hb hr (fun t ht hW => ⟨⟨(), rfl, trivial, by rw [ht]; exact hP, va_K.moved hW.alike hK, hD⟩, hS.F ht⟩) hS.2.2 dX12_others_441
  replace hf := (if_neg c56).symm.trans hf
  by_cases c64 : (σ.a 21 ((x1 : Int32).toNatClampNeg)) = 34
  ·
    replace hf := (if_pos c64).symm.trans hf
    refine lv_tableIn (off := 344) (tgt := 357) hx hb dX12_others_13 (by rw [c64]; decide) (by rw [c64]; decide) (by rw [c64]; decide) (by decide) ?_
    refine lv_aload_n hx hb dX12_others_357 rfl (lv_at hl 1 rfl) ?_
    refine lv_iconst (v := 0) hx hb dX12_others_358 (by decide) ?_
    refine rP_110 hx hb hts i_X12_others_X12 hown hK hP hD hS (hts (.fieldLink RX12 597 "StatementRules2Model" "how" "I") k_X12_others_fieldLink_RX12_597_SRModel_how_I) dX12_others_359 (fun H locs hP hD hS => ?_)
    refine lv_aload_n hx hb dX12_others_362 rfl (lv_at hl 1 rfl) ?_
    refine lv_iload_n hx hb dX12_others_363 rfl (lv_at hl 0 rfl) ?_
    obtain ⟨p65, hcp65, hf⟩ := hf_bind hf
    have hFc := r_free hD hS hA
    refine va_callv (va_runV (As := [.int ((σ.i 99) - 1)]) (rest := []) ⟨hx, hb, hml, hown, hts⟩ (c_X12_goOn l dC dI _ Q N (RS.setI σ 110 0) ((σ.i 99) - 1) p65 hcp65) (cwV 1 hts hX12_others_X12_goOn_v668 rfl rfl rfl (by decide +kernel) ⟨Nat.le_of_ble_eq_true rfl, Nat.le_of_ble_eq_true rfl⟩) ⟨zPre.blind, va_recv hK hP (ci := 11) (q0 := 0) rfl rfl, zPre.go hZ hP hK hD⟩ rfl rfl hl.1 rfl (lv_room (Nat.le_of_ble_eq_true rfl)) dX12_others_364 ⟨Nat.le_of_ble_eq_true rfl, Nat.le_of_ble_eq_true rfl⟩) hS (fun q _ h => hFc q h) hFc (fun u9 t9 H1 locs ht hvm hw hB hz1 hk1 hS => ?_)
    obtain ⟨hP, hK1, hD1⟩ := hB
    rw [ht] at hP
    have hD := hD1.weaken (fun _ _ _ h => hFc _ h)
    generalize H1 = H at hP hS ⊢
    refine lv_goto (tgt := 441) hx hb dX12_others_367 (by decide) ?_
    obtain rfl := Option.some.inj hf
    exact W.vret hx hb hr (fun t ht hW => ⟨⟨(), rfl, trivial, by rw [ht]; exact hP, va_K.moved hW.alike hK, hD⟩, hS.F ht⟩) hS.2.2 dX12_others_441
  replace hf := (if_neg c64).symm.trans hf
  refine lv_tableOut (tgt := 370) hx hb dX12_others_13 (by have := z_ton (a := 23) c2 (by decide); have := z_ton (a := 24) c8 (by decide); have := z_ton (a := 25) c15 (by decide); have := z_ton (a := 26) c17 (by decide); have := z_ton (a := 27) c22 (by decide); have := z_ton (a := 28) c27 (by decide); have := z_ton (a := 29) c32 (by decide); have := z_ton (a := 30) c37 (by decide); have := z_ton (a := 31) c42 (by decide); have := z_ton (a := 32) c45 (by decide); have := z_ton (a := 33) c56 (by decide); have := z_ton (a := 34) c64 (by decide); omega) (by decide) ?_
  refine lv_aload_n hx hb dX12_others_370 rfl (lv_at hl 1 rfl) ?_
  refine lv_aload_n hx hb dX12_others_371 rfl (lv_at hl 1 rfl) ?_
  refine rG_105 hx hb hts i_X12_others_X12 hown hK hP (hts (.fieldLink RX12 258 "StatementRules2Model" "rHow" "[I") k_X12_others_fieldLink_RX12_258_SRModel_rHow_I) dX12_others_372 ?_
  refine lv_iload_n hx hb dX12_others_375 rfl (lv_at hl 0 rfl) ?_
  obtain ⟨b67, hf⟩ := hf_ite hf
  refine rL_105 (v := (σ.a 105 ((((σ.i 99) - 1) : Int32).toNatClampNeg))) hx hb hK hP b67 dX12_others_376 rfl ?_
  refine rP_110 hx hb hts i_X12_others_X12 hown hK hP hD hS (hts (.fieldLink RX12 597 "StatementRules2Model" "how" "I") k_X12_others_fieldLink_RX12_597_SRModel_how_I) dX12_others_377 (fun H locs hP hD hS => ?_)
  refine lv_aload_n hx hb dX12_others_380 rfl (lv_at hl 1 rfl) ?_
  refine lv_aload_n hx hb dX12_others_381 rfl (lv_at hl 1 rfl) ?_
  refine rG_106 hx hb hts i_X12_others_X12 hown hK hP (hts (.fieldLink RX12 261 "StatementRules2Model" "rTo" "[I") k_X12_others_fieldLink_RX12_261_SRModel_rTo_I) dX12_others_382 ?_
  refine lv_iload_n hx hb dX12_others_385 rfl (lv_at hl 0 rfl) ?_
  refine rL_106 (v := (σ.a 106 ((((σ.i 99) - 1) : Int32).toNatClampNeg))) hx hb hK hP b67 dX12_others_386 rfl ?_
  refine rP_111 hx hb hts i_X12_others_X12 hown hK hP hD hS (hts (.fieldLink RX12 609 "StatementRules2Model" "goTo" "I") k_X12_others_fieldLink_RX12_609_SRModel_goTo_I) dX12_others_387 (fun H locs hP hD hS => ?_)
  refine lv_aload_n hx hb dX12_others_390 rfl (lv_at hl 1 rfl) ?_
  refine lv_aload_n hx hb dX12_others_391 rfl (lv_at hl 1 rfl) ?_
  refine rG_107 hx hb hts i_X12_others_X12 hown hK hP (hts (.fieldLink RX12 264 "StatementRules2Model" "rDepth" "[I") k_X12_others_fieldLink_RX12_264_SRModel_rDepth_I) dX12_others_392 ?_
  refine lv_iload_n hx hb dX12_others_395 rfl (lv_at hl 0 rfl) ?_
  refine rL_107 (v := (σ.a 107 ((((σ.i 99) - 1) : Int32).toNatClampNeg))) hx hb hK hP b67 dX12_others_396 rfl ?_
  refine rP_112 hx hb hts i_X12_others_X12 hown hK hP hD hS (hts (.fieldLink RX12 612 "StatementRules2Model" "goDepth" "I") k_X12_others_fieldLink_RX12_612_SRModel_goDepth_I) dX12_others_397 (fun H locs hP hD hS => ?_)
  refine lv_aload_n hx hb dX12_others_400 rfl (lv_at hl 1 rfl) ?_
  refine lv_aload_n hx hb dX12_others_401 rfl (lv_at hl 1 rfl) ?_
  refine rG_108 hx hb hts i_X12_others_X12 hown hK hP (hts (.fieldLink RX12 267 "StatementRules2Model" "rValue" "[I") k_X12_others_fieldLink_RX12_267_SRModel_rValue_I) dX12_others_402 ?_
  refine lv_iload_n hx hb dX12_others_405 rfl (lv_at hl 0 rfl) ?_
  refine rL_108 (v := (σ.a 108 ((((σ.i 99) - 1) : Int32).toNatClampNeg))) hx hb hK hP b67 dX12_others_406 rfl ?_
  refine rP_113 hx hb hts i_X12_others_X12 hown hK hP hD hS (hts (.fieldLink RX12 615 "StatementRules2Model" "value" "I") k_X12_others_fieldLink_RX12_615_SRModel_value_I) dX12_others_407 (fun H locs hP hD hS => ?_)
  refine lv_aload_n hx hb dX12_others_410 rfl (lv_at hl 1 rfl) ?_
  refine lv_aload_n hx hb dX12_others_411 rfl (lv_at hl 1 rfl) ?_
  refine rG_109 hx hb hts i_X12_others_X12 hown hK hP (hts (.fieldLink RX12 270 "StatementRules2Model" "rThing" "[I") k_X12_others_fieldLink_RX12_270_SRModel_rThing_I) dX12_others_412 ?_
  refine lv_iload_n hx hb dX12_others_415 rfl (lv_at hl 0 rfl) ?_
  refine rL_109 (v := (σ.a 109 ((((σ.i 99) - 1) : Int32).toNatClampNeg))) hx hb hK hP b67 dX12_others_416 rfl ?_
  refine rP_114 hx hb hts i_X12_others_X12 hown hK hP hD hS (hts (.fieldLink RX12 595 "StatementRules2Model" "thing" "I") k_X12_others_fieldLink_RX12_595_SRModel_thing_I) dX12_others_417 (fun H locs hP hD hS => ?_)
  refine lv_aload_n hx hb dX12_others_420 rfl (lv_at hl 1 rfl) ?_
  refine lv_dup hx hb dX12_others_421 rfl ?_
  refine rG_99 (v := (σ.i 99)) hx hb hts i_X12_others_X12 hown hK hP (hts (.fieldLink RX12 586 "StatementRules2Model" "recs" "I") k_X12_others_fieldLink_RX12_586_SRModel_recs_I) dX12_others_422 rfl ?_
  refine lv_iconst (v := 1) hx hb dX12_others_425 (by decide) ?_
  refine lv_isub hx hb dX12_others_426 ?_
  refine rP_99 hx hb hts i_X12_others_X12 hown hK hP hD hS (hts (.fieldLink RX12 586 "StatementRules2Model" "recs" "I") k_X12_others_fieldLink_RX12_586_SRModel_recs_I) dX12_others_427 (fun H locs hP hD hS => ?_)
  refine lv_aload_n hx hb dX12_others_430 rfl (lv_at hl 1 rfl) ?_
  refine rG_110 (v := (σ.a 105 ((((σ.i 99) - 1) : Int32).toNatClampNeg))) hx hb hts i_X12_others_X12 hown hK hP (hts (.fieldLink RX12 597 "StatementRules2Model" "how" "I") k_X12_others_fieldLink_RX12_597_SRModel_how_I) dX12_others_431 rfl ?_
  refine lv_if_eq (tgt := 441) hx hb dX12_others_434 (by decide) (fun c68 => ?_) (fun c68 => ?_)
  ·
    replace hf := (if_pos c68).symm.trans hf
    obtain rfl := Option.some.inj hf
    exact W.vret hx hb hr (fun t ht hW => ⟨⟨(), rfl, trivial, by rw [ht]; exact hP, va_K.moved hW.alike hK, hD⟩, hS.F ht⟩) hS.2.2 dX12_others_441
  ·
    replace hf := (if_neg c68).symm.trans hf
    refine lv_aload_n hx hb dX12_others_437 rfl (lv_at hl 1 rfl) ?_
    obtain ⟨p69, hcp69, hf⟩ := hf_bind hf
    have hFc := r_free hD hS hA
    refine va_callv (va_runV (As := []) (rest := []) ⟨hx, hb, hml, hown, hts⟩ (c_X12_leave l dC dI _ Q N (RS.setI (RS.setI (RS.setI (RS.setI (RS.setI (RS.setI σ 110 (σ.a 105 ((((σ.i 99) - 1) : Int32).toNatClampNeg))) 111 (σ.a 106 ((((σ.i 99) - 1) : Int32).toNatClampNeg))) 112 (σ.a 107 ((((σ.i 99) - 1) : Int32).toNatClampNeg))) 113 (σ.a 108 ((((σ.i 99) - 1) : Int32).toNatClampNeg))) 114 (σ.a 109 ((((σ.i 99) - 1) : Int32).toNatClampNeg))) 99 ((σ.i 99) - 1)) p69 hcp69) (cwV 0 hts hX12_others_X12_leave_v648 rfl rfl rfl (by decide +kernel) ⟨Nat.le_of_ble_eq_true rfl, Nat.le_of_ble_eq_true rfl⟩) ⟨zPre.blind, va_recv hK hP (ci := 11) (q0 := 0) rfl rfl, zPre.go hZ hP hK hD⟩ rfl rfl hl.1 rfl (lv_room (Nat.le_of_ble_eq_true rfl)) dX12_others_438 ⟨Nat.le_of_ble_eq_true rfl, Nat.le_of_ble_eq_true rfl⟩) hS (fun q _ h => hFc q h) hFc (fun u9 t9 H1 locs ht hvm hw hB hz1 hk1 hS => ?_)
    obtain ⟨hP, hK1, hD1⟩ := hB
    rw [ht] at hP
    have hD := hD1.weaken (fun _ _ _ h => hFc _ h)
    generalize H1 = H at hP hS ⊢
    obtain rfl := Option.some.inj hf
    exact W.vret hx hb hr (fun t ht hW => ⟨⟨(), rfl, trivial, by rw [ht]; exact hP, va_K.moved hW.alike hK, hD⟩, hS.F ht⟩) hS.2.2 dX12_others_441
end
