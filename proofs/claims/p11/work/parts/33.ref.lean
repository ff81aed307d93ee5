theorem k_X12_read_fieldLink_RX12_273_SRModel_thrown_I : Cond.fieldLink RX12 273 "StatementRules2Model" "thrown" "I" ∈ wzX12_read := List.mem_cons_of_mem _ (List.mem_append_left _ (List.mem_of_getElem? (i := 0) rfl))
theorem i_X12_read_X12 : ∀ w ∈ wsX120, w ∈ wzX12_read := fun _ h => List.mem_cons_of_mem _ (List.mem_append_right _ (List.mem_append_left _ (h)))
theorem k_X12_read_fieldLink_RX12_361_SRModel_seen_I : Cond.fieldLink RX12 361 "StatementRules2Model" "seen" "I" ∈ wzX12_read := List.mem_cons_of_mem _ (List.mem_append_left _ (List.mem_of_getElem? (i := 1) rfl))
theorem k_X12_read_fieldLink_RX12_364_SRModel_slots_I : Cond.fieldLink RX12 364 "StatementRules2Model" "slots" "I" ∈ wzX12_read := List.mem_cons_of_mem _ (List.mem_append_left _ (List.mem_of_getElem? (i := 2) rfl))
theorem k_X12_read_fieldLink_RX12_367_SRModel_goals_I : Cond.fieldLink RX12 367 "StatementRules2Model" "goals" "I" ∈ wzX12_read := List.mem_cons_of_mem _ (List.mem_append_left _ (List.mem_of_getElem? (i := 3) rfl))
theorem k_X12_read_fieldLink_RX12_348_SRModel_opened_I : Cond.fieldLink RX12 348 "StatementRules2Model" "opened" "I" ∈ wzX12_read := List.mem_cons_of_mem _ (List.mem_append_left _ (List.mem_of_getElem? (i := 4) rfl))
theorem k_X12_read_fieldLink_RX12_494_SRModel_statements_I : Cond.fieldLink RX12 494 "StatementRules2Model" "statements" "I" ∈ wzX12_read := List.mem_cons_of_mem _ (List.mem_append_left _ (List.mem_of_getElem? (i := 5) rfl))
theorem k_X12_read_fieldLink_RX12_500_SRModel_tellings_I : Cond.fieldLink RX12 500 "StatementRules2Model" "tellings" "I" ∈ wzX12_read := List.mem_cons_of_mem _ (List.mem_append_left _ (List.mem_of_getElem? (i := 6) rfl))
theorem k_X12_read_fieldLink_RX12_527_SRModel_jumps_I : Cond.fieldLink RX12 527 "StatementRules2Model" "jumps" "I" ∈ wzX12_read := List.mem_cons_of_mem _ (List.mem_append_left _ (List.mem_of_getElem? (i := 7) rfl))
theorem k_X12_read_fieldLink_RX12_358_SRModel_codes_I : Cond.fieldLink RX12 358 "StatementRules2Model" "codes" "I" ∈ wzX12_read := List.mem_cons_of_mem _ (List.mem_append_left _ (List.mem_of_getElem? (i := 8) rfl))
theorem k_X12_read_fieldLink_RX12_478_SRModel_entries_I : Cond.fieldLink RX12 478 "StatementRules2Model" "entries" "I" ∈ wzX12_read := List.mem_cons_of_mem _ (List.mem_append_left _ (List.mem_of_getElem? (i := 9) rfl))
theorem k_X12_read_fieldLink_RX12_549_SRModel_tries_I : Cond.fieldLink RX12 549 "StatementRules2Model" "tries" "I" ∈ wzX12_read := List.mem_cons_of_mem _ (List.mem_append_left _ (List.mem_of_getElem? (i := 10) rfl))
theorem k_X12_read_fieldLink_RX12_561_SRModel_catches_I : Cond.fieldLink RX12 561 "StatementRules2Model" "catches" "I" ∈ wzX12_read := List.mem_cons_of_mem _ (List.mem_append_left _ (List.mem_of_getElem? (i := 11) rfl))
theorem k_X12_read_fieldLink_RX12_377_SRModel_walls_I : Cond.fieldLink RX12 377 "StatementRules2Model" "walls" "I" ∈ wzX12_read := List.mem_cons_of_mem _ (List.mem_append_left _ (List.mem_of_getElem? (i := 12) rfl))
theorem k_X12_read_fieldLink_RX12_384_SRModel_pends_I : Cond.fieldLink RX12 384 "StatementRules2Model" "pends" "I" ∈ wzX12_read := List.mem_cons_of_mem _ (List.mem_append_left _ (List.mem_of_getElem? (i := 13) rfl))
theorem k_X12_read_fieldLink_RX12_370_SRModel_depth_I : Cond.fieldLink RX12 370 "StatementRules2Model" "depth" "I" ∈ wzX12_read := List.mem_cons_of_mem _ (List.mem_append_left _ (List.mem_of_getElem? (i := 14) rfl))
theorem k_X12_read_fieldLink_RX12_297_SRModel_to_I : Cond.fieldLink RX12 297 "StatementRules2Model" "to" "I" ∈ wzX12_read := List.mem_cons_of_mem _ (List.mem_append_left _ (List.mem_of_getElem? (i := 15) rfl))
theorem k_X12_read_fieldLink_RX12_291_SRModel_fault_I : Cond.fieldLink RX12 291 "StatementRules2Model" "fault" "I" ∈ wzX12_read := List.mem_cons_of_mem _ (List.mem_append_left _ (List.mem_of_getElem? (i := 16) rfl))
theorem k_X12_read_fieldLink_RX12_334_SRModel_late_I : Cond.fieldLink RX12 334 "StatementRules2Model" "late" "I" ∈ wzX12_read := List.mem_cons_of_mem _ (List.mem_append_left _ (List.mem_of_getElem? (i := 17) rfl))
theorem k_X12_read_fieldLink_RX12_294_SRModel_tokens_I : Cond.fieldLink RX12 294 "StatementRules2Model" "tokens" "I" ∈ wzX12_read := List.mem_cons_of_mem _ (List.mem_append_left _ (List.mem_of_getElem? (i := 18) rfl))
theorem k_X12_read_constantLong_RX12_564_97 : Cond.constantLong RX12 564 (97) ∈ wzX12_read := List.mem_cons_of_mem _ (List.mem_append_left _ (List.mem_of_getElem? (i := 19) rfl))
theorem k_X12_read_constantLong_RX12_566_98 : Cond.constantLong RX12 566 (98) ∈ wzX12_read := List.mem_cons_of_mem _ (List.mem_append_left _ (List.mem_of_getElem? (i := 20) rfl))
theorem k_X12_read_fieldLink_RX12_307_SRModel_tok_I : Cond.fieldLink RX12 307 "StatementRules2Model" "tok" "I" ∈ wzX12_read := List.mem_cons_of_mem _ (List.mem_append_left _ (List.mem_of_getElem? (i := 21) rfl))
theorem k_X12_read_fieldLink_RX12_276_SRModel_taped_I : Cond.fieldLink RX12 276 "StatementRules2Model" "taped" "I" ∈ wzX12_read := List.mem_cons_of_mem _ (List.mem_append_left _ (List.mem_of_getElem? (i := 22) rfl))
theorem k_X12_read_fieldLink_RX12_396_SRModel_res_Z : Cond.fieldLink RX12 396 "StatementRules2Model" "res" "Z" ∈ wzX12_read := List.mem_cons_of_mem _ (List.mem_append_left _ (List.mem_of_getElem? (i := 23) rfl))
theorem k_X12_read_fieldLink_RX12_571_SRModel_endsWell_Z : Cond.fieldLink RX12 571 "StatementRules2Model" "endsWell" "Z" ∈ wzX12_read := List.mem_cons_of_mem _ (List.mem_append_left _ (List.mem_of_getElem? (i := 24) rfl))
theorem k_X12_read_fieldLink_RX12_574_SRModel_lastFault_I : Cond.fieldLink RX12 574 "StatementRules2Model" "lastFault" "I" ∈ wzX12_read := List.mem_cons_of_mem _ (List.mem_append_left _ (List.mem_of_getElem? (i := 25) rfl))
theorem k_X12_read_fieldLink_RX12_577_SRModel_hasProgram_Z : Cond.fieldLink RX12 577 "StatementRules2Model" "hasProgram" "Z" ∈ wzX12_read := List.mem_cons_of_mem _ (List.mem_append_left _ (List.mem_of_getElem? (i := 26) rfl))
theorem k_X12_read_fieldLink_RX12_580_SRModel_hasRun_Z : Cond.fieldLink RX12 580 "StatementRules2Model" "hasRun" "Z" ∈ wzX12_read := List.mem_cons_of_mem _ (List.mem_append_left _ (List.mem_of_getElem? (i := 27) rfl))
theorem k_X12_read_fieldLink_RX12_583_SRModel_rowMany_I : Cond.fieldLink RX12 583 "StatementRules2Model" "rowMany" "I" ∈ wzX12_read := List.mem_cons_of_mem _ (List.mem_append_left _ (List.mem_of_getElem? (i := 28) rfl))
theorem k_X12_read_fieldLink_RX12_331_SRModel_faultAt_I : Cond.fieldLink RX12 331 "StatementRules2Model" "faultAt" "I" ∈ wzX12_read := List.mem_cons_of_mem _ (List.mem_append_left _ (List.mem_of_getElem? (i := 29) rfl))
set_option maxHeartbeats 4000000 in
set_option maxRecDepth 100000 in
theorem j_X12_read_199 {p : Program} {e : Env} {s : State} {m : MethodId} {args : Array Value} {below : List Frame} {meth : Method} {c : Code} {A : Nat → Prop} (l : Launch) (dC : Nat → ClassId) (dI : Nat → Nat → Nat) (Q : RQ) (N : Nat) (R : Int32 × RS) (hx : p.tables.exec = Jvm.exec) (hb : c.code = cX12_read) (hr : meth.sig.returnType = (some .int)) (hml : c.maxLocals = 1) (hown : s.vm.findClass RX12 = some m.cls) (hts : ∀ w ∈ wzX12_read, w.before args s = true) (hlocks : meth.locks = false) (hZ : zAMB s) (hA : ∀ q : Nat, s.heap.size ≤ q → A q) (hK : va_K (dC, dI) vwCl (rT Q) s) : ∀ (σ : RS) (H : Heap) (locs : List Loc) (ls : Array Slot), f_X12_read_199 N σ = some R → va_P (dC, dI) vwCl (rW Q σ) H → va_D A (rW Q σ) → va_S A s.heap H locs → lv_has ls 1 [(0, .ref Q.h0)] → W p l e ({ frames := 9, cells := 0, slots := 0, locals := 540 }) s m args below meth c H locs 0 0 (MQ below (va_Qi (fun (r : Int32) (_ : Unit) => r = R.1) (fun (_ : Unit) (t : State) => zPost dC dI A (rW Q R.2) (rT Q) t) A) args s 0 0 A) (F0 m 199 ls []) := by
  intro σ  H locs ls hf hP hD hS hl
  unfold f_X12_read_199 at hf
  refine lv_aload_n hx hb dX12_read_199 rfl (lv_at hl 0 rfl) ?_
  refine lv_iconst (v := 0) hx hb dX12_read_200 (by decide) ?_
  refine rP_79 hx hb hts i_X12_read_X12 hown hK hP hD hS (hts (.fieldLink RX12 580 "StatementRules2Model" "hasRun" "Z") k_X12_read_fieldLink_RX12_580_SRModel_hasRun_Z) dX12_read_201 (by decide) (fun H locs hP hD hS => ?_)
  refine lv_aload_n hx hb dX12_read_204 rfl (lv_at hl 0 rfl) ?_
  refine lv_iconst (v := 0) hx hb dX12_read_205 (by decide) ?_
  refine rP_81 hx hb hts i_X12_read_X12 hown hK hP hD hS (hts (.fieldLink RX12 583 "StatementRules2Model" "rowMany" "I") k_X12_read_fieldLink_RX12_583_SRModel_rowMany_I) dX12_read_206 (fun H locs hP hD hS => ?_)
  refine lv_aload_n hx hb dX12_read_209 rfl (lv_at hl 0 rfl) ?_
  refine rG_15 (v := (σ.i 15)) hx hb hts i_X12_read_X12 hown hK hP (hts (.fieldLink RX12 291 "StatementRules2Model" "fault" "I") k_X12_read_fieldLink_RX12_291_SRModel_fault_I) dX12_read_210 rfl ?_
  refine lv_if_eq (tgt := 226) hx hb dX12_read_213 (by decide) (fun c15 => ?_) (fun c15 => ?_)
  ·
    replace hf := (if_pos c15).symm.trans hf
    refine lv_aload_n hx hb dX12_read_226 rfl (lv_at hl 0 rfl) ?_
    refine rG_53 (v := (σ.i 53)) hx hb hts i_X12_read_X12 hown hK hP (hts (.fieldLink RX12 494 "StatementRules2Model" "statements" "I") k_X12_read_fieldLink_RX12_494_SRModel_statements_I) dX12_read_227 rfl ?_
    obtain rfl := Option.some.inj hf
    exact W.iret (v := (σ.i 53)) hx hb hr (fun t ht hW => ⟨⟨(σ.i 53), (), rfl, rfl, by rw [ht]; exact hP, va_K.moved hW.alike hK, hD⟩, hS.F ht⟩) hS.2.2 dX12_read_230
  ·
    replace hf := (if_neg c15).symm.trans hf
    refine lv_bipush (v := (-10)) hx hb dX12_read_216 (by decide) ?_
    refine lv_aload_n hx hb dX12_read_218 rfl (lv_at hl 0 rfl) ?_
    refine rG_16 (v := (σ.i 16)) hx hb hts i_X12_read_X12 hown hK hP (hts (.fieldLink RX12 331 "StatementRules2Model" "faultAt" "I") k_X12_read_fieldLink_RX12_331_SRModel_faultAt_I) dX12_read_219 rfl ?_
    refine lv_isub hx hb dX12_read_222 ?_
    refine lv_goto (tgt := 230) hx hb dX12_read_223 (by decide) ?_
    obtain rfl := Option.some.inj hf
    exact W.iret (v := ((-10) - (σ.i 16))) hx hb hr (fun t ht hW => ⟨⟨((-10) - (σ.i 16)), (), rfl, rfl, by rw [ht]; exact hP, va_K.moved hW.alike hK, hD⟩, hS.F ht⟩) hS.2.2 dX12_read_230
set_option maxHeartbeats 4000000 in
set_option maxRecDepth 100000 in
theorem j_X12_read_167 {p : Program} {e : Env} {s : State} {m : MethodId} {args : Array Value} {below : List Frame} {meth : Method} {c : Code} {A : Nat → Prop} (l : Launch) (dC : Nat → ClassId) (dI : Nat → Nat → Nat) (Q : RQ) (N : Nat) (R : Int32 × RS) (hx : p.tables.exec = Jvm.exec) (hb : c.code = cX12_read) (hr : meth.sig.returnType = (some .int)) (hml : c.maxLocals = 1) (hown : s.vm.findClass RX12 = some m.cls) (hts : ∀ w ∈ wzX12_read, w.before args s = true) (hlocks : meth.locks = false) (hZ : zAMB s) (hA : ∀ q : Nat, s.heap.size ≤ q → A q) (hK : va_K (dC, dI) vwCl (rT Q) s) : ∀ (σ : RS) (H : Heap) (locs : List Loc) (ls : Array Slot), f_X12_read_167 N σ = some R → va_P (dC, dI) vwCl (rW Q σ) H → va_D A (rW Q σ) → va_S A s.heap H locs → lv_has ls 1 [(0, .ref Q.h0)] → W p l e ({ frames := 9, cells := 0, slots := 0, locals := 540 }) s m args below meth c H locs 0 0 (MQ below (va_Qi (fun (r : Int32) (_ : Unit) => r = R.1) (fun (_ : Unit) (t : State) => zPost dC dI A (rW Q R.2) (rT Q) t) A) args s 0 0 A) (F0 m 167 ls []) := by
  intro σ  H locs ls hf hP hD hS hl
  unfold f_X12_read_167 at hf
  refine lv_aload_n hx hb dX12_read_167 rfl (lv_at hl 0 rfl) ?_
  refine lv_aload_n hx hb dX12_read_168 rfl (lv_at hl 0 rfl) ?_
  refine rG_75 (v := (σ.i 75)) hx hb hts i_X12_read_X12 hown hK hP (hts (.fieldLink RX12 396 "StatementRules2Model" "res" "Z") k_X12_read_fieldLink_RX12_396_SRModel_res_Z) dX12_read_169 rfl ?_
  obtain ⟨b13, hf⟩ := hf_ite hf
  refine rP_78 hx hb hts i_X12_read_X12 hown hK hP hD hS (hts (.fieldLink RX12 571 "StatementRules2Model" "endsWell" "Z") k_X12_read_fieldLink_RX12_571_SRModel_endsWell_Z) dX12_read_172 b13 (fun H locs hP hD hS => ?_)
  refine lv_aload_n hx hb dX12_read_175 rfl (lv_at hl 0 rfl) ?_
  refine lv_aload_n hx hb dX12_read_176 rfl (lv_at hl 0 rfl) ?_
  refine rG_15 (v := (σ.i 15)) hx hb hts i_X12_read_X12 hown hK hP (hts (.fieldLink RX12 291 "StatementRules2Model" "fault" "I") k_X12_read_fieldLink_RX12_291_SRModel_fault_I) dX12_read_177 rfl ?_
  refine rP_76 hx hb hts i_X12_read_X12 hown hK hP hD hS (hts (.fieldLink RX12 574 "StatementRules2Model" "lastFault" "I") k_X12_read_fieldLink_RX12_574_SRModel_lastFault_I) dX12_read_180 (fun H locs hP hD hS => ?_)
  refine lv_aload_n hx hb dX12_read_183 rfl (lv_at hl 0 rfl) ?_
  refine lv_aload_n hx hb dX12_read_184 rfl (lv_at hl 0 rfl) ?_
  refine rG_15 (v := (σ.i 15)) hx hb hts i_X12_read_X12 hown hK hP (hts (.fieldLink RX12 291 "StatementRules2Model" "fault" "I") k_X12_read_fieldLink_RX12_291_SRModel_fault_I) dX12_read_185 rfl ?_
  refine lv_if_ne (tgt := 195) hx hb dX12_read_188 (by decide) (fun c14 => ?_) (fun c14 => ?_)
  ·
    replace hf := (if_neg c14).symm.trans hf
    refine lv_iconst (v := 0) hx hb dX12_read_195 (by decide) ?_
    refine rP_77 hx hb hts i_X12_read_X12 hown hK hP hD hS (hts (.fieldLink RX12 577 "StatementRules2Model" "hasProgram" "Z") k_X12_read_fieldLink_RX12_577_SRModel_hasProgram_Z) dX12_read_196 (by decide) (fun H locs hP hD hS => ?_)
    exact j_X12_read_199 l dC dI Q N R hx hb hr hml hown hts hlocks hZ hA hK (RS.setI (RS.setI (RS.setI σ 78 (σ.i 75)) 76 (σ.i 15)) 77 0) _ _ _ hf hP hD hS (lv_sub hl [0] rfl)
  ·
    replace hf := (if_pos c14).symm.trans hf
    refine lv_iconst (v := 1) hx hb dX12_read_191 (by decide) ?_
    refine lv_goto (tgt := 196) hx hb dX12_read_192 (by decide) ?_
    refine rP_77 hx hb hts i_X12_read_X12 hown hK hP hD hS (hts (.fieldLink RX12 577 "StatementRules2Model" "hasProgram" "Z") k_X12_read_fieldLink_RX12_577_SRModel_hasProgram_Z) dX12_read_196 (by decide) (fun H locs hP hD hS => ?_)
    exact j_X12_read_199 l dC dI Q N R hx hb hr hml hown hts hlocks hZ hA hK (RS.setI (RS.setI (RS.setI σ 78 (σ.i 75)) 76 (σ.i 15)) 77 1) _ _ _ hf hP hD hS (lv_sub hl [0] rfl)
set_option maxHeartbeats 4000000 in
set_option maxRecDepth 100000 in
theorem j_X12_read_138 {p : Program} {e : Env} {s : State} {m : MethodId} {args : Array Value} {below : List Frame} {meth : Method} {c : Code} {A : Nat → Prop} (l : Launch) (dC : Nat → ClassId) (dI : Nat → Nat → Nat) (Q : RQ) (N : Nat) (R : Int32 × RS) (hx : p.tables.exec = Jvm.exec) (hb : c.code = cX12_read) (hr : meth.sig.returnType = (some .int)) (hml : c.maxLocals = 1) (hown : s.vm.findClass RX12 = some m.cls) (hts : ∀ w ∈ wzX12_read, w.before args s = true) (hlocks : meth.locks = false) (hZ : zAMB s) (hA : ∀ q : Nat, s.heap.size ≤ q → A q) (hK : va_K (dC, dI) vwCl (rT Q) s) : ∀ (σ : RS) (H : Heap) (locs : List Loc) (ls : Array Slot), f_X12_read_138 N σ = some R → va_P (dC, dI) vwCl (rW Q σ) H → va_D A (rW Q σ) → va_S A s.heap H locs → lv_has ls 1 [(0, .ref Q.h0)] → W p l e ({ frames := 9, cells := 0, slots := 0, locals := 540 }) s m args below meth c H locs 0 0 (MQ below (va_Qi (fun (r : Int32) (_ : Unit) => r = R.1) (fun (_ : Unit) (t : State) => zPost dC dI A (rW Q R.2) (rT Q) t) A) args s 0 0 A) (F0 m 138 ls []) := by
  intro σ  H locs ls hf hP hD hS hl
  unfold f_X12_read_138 at hf
  refine lv_aload_n hx hb dX12_read_138 rfl (lv_at hl 0 rfl) ?_
  refine lv_iconst (v := 0) hx hb dX12_read_139 (by decide) ?_
  refine rP_2 hx hb hts i_X12_read_X12 hown hK hP hD hS (hts (.fieldLink RX12 276 "StatementRules2Model" "taped" "I") k_X12_read_fieldLink_RX12_276_SRModel_taped_I) dX12_read_140 (fun H locs hP hD hS => ?_)
  refine lv_aload_n hx hb dX12_read_143 rfl (lv_at hl 0 rfl) ?_
  refine rG_15 (v := (σ.i 15)) hx hb hts i_X12_read_X12 hown hK hP (hts (.fieldLink RX12 291 "StatementRules2Model" "fault" "I") k_X12_read_fieldLink_RX12_291_SRModel_fault_I) dX12_read_144 rfl ?_
  refine lv_if_ne (tgt := 167) hx hb dX12_read_147 (by decide) (fun c12 => ?_) (fun c12 => ?_)
  ·
    replace hf := (if_neg c12).symm.trans hf
    exact j_X12_read_167 l dC dI Q N R hx hb hr hml hown hts hlocks hZ hA hK (RS.setI σ 2 0) _ _ _ hf hP hD hS (lv_sub hl [0] rfl)
  ·
    replace hf := (if_pos c12).symm.trans hf
    refine lv_aload_n hx hb dX12_read_150 rfl (lv_at hl 0 rfl) ?_
    refine rG_18 (v := (σ.i 18)) hx hb hts i_X12_read_X12 hown hK hP (hts (.fieldLink RX12 334 "StatementRules2Model" "late" "I") k_X12_read_fieldLink_RX12_334_SRModel_late_I) dX12_read_151 rfl ?_
    refine lv_if_lt (tgt := 167) hx hb dX12_read_154 (by decide) (fun c16 => ?_) (fun c16 => ?_)
    ·
      replace hf := (if_pos c16).symm.trans hf
      exact j_X12_read_167 l dC dI Q N R hx hb hr hml hown hts hlocks hZ hA hK (RS.setI σ 2 0) _ _ _ hf hP hD hS (lv_sub hl [0] rfl)
    ·
      replace hf := (if_neg c16).symm.trans hf
      refine lv_aload_n hx hb dX12_read_157 rfl (lv_at hl 0 rfl) ?_
      refine lv_bipush (v := 7) hx hb dX12_read_158 (by decide) ?_
      refine lv_aload_n hx hb dX12_read_160 rfl (lv_at hl 0 rfl) ?_
      refine rG_18 (v := (σ.i 18)) hx hb hts i_X12_read_X12 hown hK hP (hts (.fieldLink RX12 334 "StatementRules2Model" "late" "I") k_X12_read_fieldLink_RX12_334_SRModel_late_I) dX12_read_161 rfl ?_
      obtain ⟨p17, hcp17, hf⟩ := hf_bind hf
      have hFc := r_free hD hS hA
      refine va_callv (va_runV (As := [.int 7, .int (σ.i 18)]) (rest := []) ⟨hx, hb, hml, hown, hts⟩ (c_X12_fail l dC dI _ Q N (RS.setI σ 2 0) 7 (σ.i 18) p17 hcp17) (cwV 2 hts hX12_read_X12_fail_v337 rfl rfl rfl (by decide +kernel) ⟨Nat.le_of_ble_eq_true rfl, Nat.le_of_ble_eq_true rfl⟩) ⟨zPre.blind, va_recv hK hP (ci := 11) (q0 := 0) rfl rfl, zPre.go hZ hP hK hD⟩ rfl rfl hl.1 rfl (lv_room (Nat.le_of_ble_eq_true rfl)) dX12_read_164 ⟨Nat.le_of_ble_eq_true rfl, Nat.le_of_ble_eq_true rfl⟩) hS (fun q _ h => hFc q h) hFc (fun u9 t9 H1 locs ht hvm hw hB hz1 hk1 hS => ?_)
      obtain ⟨hP, hK1, hD1⟩ := hB
      rw [ht] at hP
      have hD := hD1.weaken (fun _ _ _ h => hFc _ h)
      generalize H1 = H at hP hS ⊢
      exact j_X12_read_167 l dC dI Q N R hx hb hr hml hown hts hlocks hZ hA hK p17 _ _ _ hf hP hD hS (lv_sub hl [0] rfl)
set_option maxHeartbeats 4000000 in
set_option maxRecDepth 100000 in
theorem c_X12_read (l : Launch) (dC : Nat → ClassId) (dI : Nat → Nat → Nat) (sz : Nat) (Q : RQ) (N : Nat) (σ : RS) (R : Int32 × RS) (hf : f_X12_read N σ = some R) : Met l yX12_read wzX12_read ({ frames := 9, cells := 0, slots := 0, locals := 540 }) (va_Pc [.ref Q.h0] (zPre dC dI sz (rW Q σ) (rT Q))) (va_Qi (fun (r : Int32) (_ : Unit) => r = R.1) (fun (_ : Unit) (t : State) => zPost dC dI (va_A (rW Q σ) sz) (rW Q R.2) (rT Q) t) (va_A (rW Q σ) sz)) 0 0 (va_A (rW Q σ) sz) := by
  refine Met.ofW (cc := cX12_read) (maxL := 1) (ret := (some .int)) (by decide) rfl ?_
  intro p e s m args below meth c s₁ B hml hv
  obtain ⟨rfl, hsz, hZ, hP, hK, hD0⟩ := hv
  have hx := B.exec
  have hb := B.bytes
  have hr := B.returns
  have hts := atoms_spec (ws := wzX12_read) B.pre
  have hown : s.vm.findClass RX12 = some m.cls := findClass_of_methodNamed B.named
  have hlocks := B.notSynchronized
  subst hsz
  have hD := hD0.self (sz := s.heap.size)
  generalize hAe : va_A (rW Q σ) s.heap.size = A at hD ⊢
  have hA : ∀ q : Nat, s.heap.size ≤ q → A q := fun q h => by rw [← hAe]; exact Or.inr h
  have hS : va_S A s.heap s.heap [] := va_S.rf
  have hl := lv_entry ([.ref Q.h0]) (n := 1) (Nat.le_of_ble_eq_true rfl)
  rw [lg_entry_eq]
  generalize (lg_sl ([.ref Q.h0]) ++ List.replicate (1 - (lg_sl ([.ref Q.h0])).length) Slot.unset).toArray = ls at hl ⊢
  have hl : lv_has ls 1 [(0, .ref Q.h0)] := hl
  unfold f_X12_read at hf
  refine lv_aload_n hx hb dX12_read_0 rfl (lv_at hl 0 rfl) ?_
  refine lv_iconst (v := 0) hx hb dX12_read_1 (by decide) ?_
  refine rP_0 hx hb hts i_X12_read_X12 hown hK hP hD hS (hts (.fieldLink RX12 273 "StatementRules2Model" "thrown" "I") k_X12_read_fieldLink_RX12_273_SRModel_thrown_I) dX12_read_2 (fun H locs hP hD hS => ?_)
  refine lv_aload_n hx hb dX12_read_5 rfl (lv_at hl 0 rfl) ?_
  refine lv_iconst (v := 0) hx hb dX12_read_6 (by decide) ?_
  refine rP_38 hx hb hts i_X12_read_X12 hown hK hP hD hS (hts (.fieldLink RX12 361 "StatementRules2Model" "seen" "I") k_X12_read_fieldLink_RX12_361_SRModel_seen_I) dX12_read_7 (fun H locs hP hD hS => ?_)
  refine lv_aload_n hx hb dX12_read_10 rfl (lv_at hl 0 rfl) ?_
  refine lv_iconst (v := 0) hx hb dX12_read_11 (by decide) ?_
  refine rP_42 hx hb hts i_X12_read_X12 hown hK hP hD hS (hts (.fieldLink RX12 364 "StatementRules2Model" "slots" "I") k_X12_read_fieldLink_RX12_364_SRModel_slots_I) dX12_read_12 (fun H locs hP hD hS => ?_)
  refine lv_aload_n hx hb dX12_read_15 rfl (lv_at hl 0 rfl) ?_
  refine lv_iconst (v := 0) hx hb dX12_read_16 (by decide) ?_
  refine rP_43 hx hb hts i_X12_read_X12 hown hK hP hD hS (hts (.fieldLink RX12 367 "StatementRules2Model" "goals" "I") k_X12_read_fieldLink_RX12_367_SRModel_goals_I) dX12_read_17 (fun H locs hP hD hS => ?_)
  refine lv_aload_n hx hb dX12_read_20 rfl (lv_at hl 0 rfl) ?_
  refine lv_iconst (v := 0) hx hb dX12_read_21 (by decide) ?_
  refine rP_19 hx hb hts i_X12_read_X12 hown hK hP hD hS (hts (.fieldLink RX12 348 "StatementRules2Model" "opened" "I") k_X12_read_fieldLink_RX12_348_SRModel_opened_I) dX12_read_22 (fun H locs hP hD hS => ?_)
  refine lv_aload_n hx hb dX12_read_25 rfl (lv_at hl 0 rfl) ?_
  refine lv_iconst (v := 0) hx hb dX12_read_26 (by decide) ?_
  refine rP_53 hx hb hts i_X12_read_X12 hown hK hP hD hS (hts (.fieldLink RX12 494 "StatementRules2Model" "statements" "I") k_X12_read_fieldLink_RX12_494_SRModel_statements_I) dX12_read_27 (fun H locs hP hD hS => ?_)
  refine lv_aload_n hx hb dX12_read_30 rfl (lv_at hl 0 rfl) ?_
  refine lv_iconst (v := 0) hx hb dX12_read_31 (by decide) ?_
  refine rP_54 hx hb hts i_X12_read_X12 hown hK hP hD hS (hts (.fieldLink RX12 500 "StatementRules2Model" "tellings" "I") k_X12_read_fieldLink_RX12_500_SRModel_tellings_I) dX12_read_32 (fun H locs hP hD hS => ?_)
  refine lv_aload_n hx hb dX12_read_35 rfl (lv_at hl 0 rfl) ?_
  refine lv_iconst (v := 0) hx hb dX12_read_36 (by decide) ?_
  refine rP_55 hx hb hts i_X12_read_X12 hown hK hP hD hS (hts (.fieldLink RX12 527 "StatementRules2Model" "jumps" "I") k_X12_read_fieldLink_RX12_527_SRModel_jumps_I) dX12_read_37 (fun H locs hP hD hS => ?_)
  refine lv_aload_n hx hb dX12_read_40 rfl (lv_at hl 0 rfl) ?_
  refine lv_iconst (v := 0) hx hb dX12_read_41 (by decide) ?_
  refine rP_20 hx hb hts i_X12_read_X12 hown hK hP hD hS (hts (.fieldLink RX12 358 "StatementRules2Model" "codes" "I") k_X12_read_fieldLink_RX12_358_SRModel_codes_I) dX12_read_42 (fun H locs hP hD hS => ?_)
  refine lv_aload_n hx hb dX12_read_45 rfl (lv_at hl 0 rfl) ?_
  refine lv_iconst (v := 0) hx hb dX12_read_46 (by decide) ?_
  refine rP_24 hx hb hts i_X12_read_X12 hown hK hP hD hS (hts (.fieldLink RX12 478 "StatementRules2Model" "entries" "I") k_X12_read_fieldLink_RX12_478_SRModel_entries_I) dX12_read_47 (fun H locs hP hD hS => ?_)
  refine lv_aload_n hx hb dX12_read_50 rfl (lv_at hl 0 rfl) ?_
  refine lv_iconst (v := 0) hx hb dX12_read_51 (by decide) ?_
  refine rP_29 hx hb hts i_X12_read_X12 hown hK hP hD hS (hts (.fieldLink RX12 549 "StatementRules2Model" "tries" "I") k_X12_read_fieldLink_RX12_549_SRModel_tries_I) dX12_read_52 (fun H locs hP hD hS => ?_)
  refine lv_aload_n hx hb dX12_read_55 rfl (lv_at hl 0 rfl) ?_
  refine lv_iconst (v := 0) hx hb dX12_read_56 (by decide) ?_
  refine rP_33 hx hb hts i_X12_read_X12 hown hK hP hD hS (hts (.fieldLink RX12 561 "StatementRules2Model" "catches" "I") k_X12_read_fieldLink_RX12_561_SRModel_catches_I) dX12_read_57 (fun H locs hP hD hS => ?_)
  refine lv_aload_n hx hb dX12_read_60 rfl (lv_at hl 0 rfl) ?_
  refine lv_iconst (v := 0) hx hb dX12_read_61 (by decide) ?_
  refine rP_56 hx hb hts i_X12_read_X12 hown hK hP hD hS (hts (.fieldLink RX12 377 "StatementRules2Model" "walls" "I") k_X12_read_fieldLink_RX12_377_SRModel_walls_I) dX12_read_62 (fun H locs hP hD hS => ?_)
  refine lv_aload_n hx hb dX12_read_65 rfl (lv_at hl 0 rfl) ?_
  refine lv_iconst (v := 0) hx hb dX12_read_66 (by decide) ?_
  refine rP_59 hx hb hts i_X12_read_X12 hown hK hP hD hS (hts (.fieldLink RX12 384 "StatementRules2Model" "pends" "I") k_X12_read_fieldLink_RX12_384_SRModel_pends_I) dX12_read_67 (fun H locs hP hD hS => ?_)
  refine lv_aload_n hx hb dX12_read_70 rfl (lv_at hl 0 rfl) ?_
  refine lv_iconst (v := 0) hx hb dX12_read_71 (by decide) ?_
  refine rP_52 hx hb hts i_X12_read_X12 hown hK hP hD hS (hts (.fieldLink RX12 370 "StatementRules2Model" "depth" "I") k_X12_read_fieldLink_RX12_370_SRModel_depth_I) dX12_read_72 (fun H locs hP hD hS => ?_)
  refine lv_aload_n hx hb dX12_read_75 rfl (lv_at hl 0 rfl) ?_
  refine lv_iconst (v := 0) hx hb dX12_read_76 (by decide) ?_
  refine rP_12 hx hb hts i_X12_read_X12 hown hK hP hD hS (hts (.fieldLink RX12 297 "StatementRules2Model" "to" "I") k_X12_read_fieldLink_RX12_297_SRModel_to_I) dX12_read_77 (fun H locs hP hD hS => ?_)
  refine lv_aload_n hx hb dX12_read_80 rfl (lv_at hl 0 rfl) ?_
  refine lv_iconst (v := 0) hx hb dX12_read_81 (by decide) ?_
  refine rP_15 hx hb hts i_X12_read_X12 hown hK hP hD hS (hts (.fieldLink RX12 291 "StatementRules2Model" "fault" "I") k_X12_read_fieldLink_RX12_291_SRModel_fault_I) dX12_read_82 (fun H locs hP hD hS => ?_)
  refine lv_aload_n hx hb dX12_read_85 rfl (lv_at hl 0 rfl) ?_
  refine lv_iconst (v := (-1)) hx hb dX12_read_86 (by decide) ?_
  refine rP_18 hx hb hts i_X12_read_X12 hown hK hP hD hS (hts (.fieldLink RX12 334 "StatementRules2Model" "late" "I") k_X12_read_fieldLink_RX12_334_SRModel_late_I) dX12_read_87 (fun H locs hP hD hS => ?_)
  refine lv_aload_n hx hb dX12_read_90 rfl (lv_at hl 0 rfl) ?_
  refine lv_iconst (v := 0) hx hb dX12_read_91 (by decide) ?_
  refine rP_17 hx hb hts i_X12_read_X12 hown hK hP hD hS (hts (.fieldLink RX12 294 "StatementRules2Model" "tokens" "I") k_X12_read_fieldLink_RX12_294_SRModel_tokens_I) dX12_read_92 (fun H locs hP hD hS => ?_)
  refine lv_aload_n hx hb dX12_read_95 rfl (lv_at hl 0 rfl) ?_
  refine lv_ldc2 (v := 97) hx hb hown (hts (.constantLong RX12 564 (97)) k_X12_read_constantLong_RX12_564_97) dX12_read_96 ?_
  refine lv_iconst (v := 0) hx hb dX12_read_99 (by decide) ?_
  obtain ⟨p1, hcp1, hf⟩ := hf_bind hf
  have hFc := r_free hD hS hA
  refine va_calli (va_runV (As := [.long 97, .int 0]) (rest := []) ⟨hx, hb, hml, hown, hts⟩ (c_X12_see l dC dI _ Q N (RS.setI (RS.setI (RS.setI (RS.setI (RS.setI (RS.setI (RS.setI (RS.setI (RS.setI (RS.setI (RS.setI (RS.setI (RS.setI (RS.setI (RS.setI (RS.setI (RS.setI (RS.setI (RS.setI σ 0 0) 38 0) 42 0) 43 0) 19 0) 53 0) 54 0) 55 0) 20 0) 24 0) 29 0) 33 0) 56 0) 59 0) 52 0) 12 0) 15 0) 18 (-1)) 17 0) 97 0 p1 hcp1) (cwV 2 hts hX12_read_X12_see_v506 rfl rfl rfl (by decide +kernel) ⟨Nat.le_of_ble_eq_true rfl, Nat.le_of_ble_eq_true rfl⟩) ⟨zPre.blind, va_recv hK hP (ci := 11) (q0 := 0) rfl rfl, zPre.go hZ hP hK hD⟩ rfl rfl hl.1 rfl (lv_room (Nat.le_of_ble_eq_true rfl)) dX12_read_100 ⟨Nat.le_of_ble_eq_true rfl, Nat.le_of_ble_eq_true rfl⟩) hS (fun q _ h => hFc q h) hFc (fun r2 u9 t9 H1 locs ht hvm hw hB hz1 hk1 hS => ?_)
  obtain ⟨hP, hK1, hD1⟩ := hB
  rw [ht] at hP
  have hD := hD1.weaken (fun _ _ _ h => hFc _ h)
  generalize H1 = H at hP hS ⊢
  obtain rfl : r2 = p1.1 := hw
  refine lv_pop hx hb dX12_read_103 rfl ?_
  refine lv_aload_n hx hb dX12_read_104 rfl (lv_at hl 0 rfl) ?_
  refine lv_ldc2 (v := 98) hx hb hown (hts (.constantLong RX12 566 (98)) k_X12_read_constantLong_RX12_566_98) dX12_read_105 ?_
  refine lv_iconst (v := 0) hx hb dX12_read_108 (by decide) ?_
  obtain ⟨p3, hcp3, hf⟩ := hf_bind hf
  have hFc := r_free hD hS hA
  refine va_calli (va_runV (As := [.long 98, .int 0]) (rest := []) ⟨hx, hb, hml, hown, hts⟩ (c_X12_see l dC dI _ Q N p1.2 98 0 p3 hcp3) (cwV 2 hts hX12_read_X12_see_v506 rfl rfl rfl (by decide +kernel) ⟨Nat.le_of_ble_eq_true rfl, Nat.le_of_ble_eq_true rfl⟩) ⟨zPre.blind, va_recv hK hP (ci := 11) (q0 := 0) rfl rfl, zPre.go hZ hP hK hD⟩ rfl rfl hl.1 rfl (lv_room (Nat.le_of_ble_eq_true rfl)) dX12_read_109 ⟨Nat.le_of_ble_eq_true rfl, Nat.le_of_ble_eq_true rfl⟩) hS (fun q _ h => hFc q h) hFc (fun r4 u9 t9 H1 locs ht hvm hw hB hz1 hk1 hS => ?_)
  obtain ⟨hP, hK1, hD1⟩ := hB
  rw [ht] at hP
  have hD := hD1.weaken (fun _ _ _ h => hFc _ h)
  generalize H1 = H at hP hS ⊢
  obtain rfl : r4 = p3.1 := hw
  refine lv_pop hx hb dX12_read_112 rfl ?_
  refine lv_aload_n hx hb dX12_read_113 rfl (lv_at hl 0 rfl) ?_
  obtain ⟨p5, hcp5, hf⟩ := hf_bind hf
  have hFc := r_free hD hS hA
  refine va_callv (va_runV (As := []) (rest := []) ⟨hx, hb, hml, hown, hts⟩ (c_X12_next l dC dI _ Q N p3.2 p5 hcp5) (cwV 0 hts hX12_read_X12_next_v345 rfl rfl rfl (by decide +kernel) ⟨Nat.le_of_ble_eq_true rfl, Nat.le_of_ble_eq_true rfl⟩) ⟨zPre.blind, va_recv hK hP (ci := 11) (q0 := 0) rfl rfl, zPre.go hZ hP hK hD⟩ rfl rfl hl.1 rfl (lv_room (Nat.le_of_ble_eq_true rfl)) dX12_read_114 ⟨Nat.le_of_ble_eq_true rfl, Nat.le_of_ble_eq_true rfl⟩) hS (fun q _ h => hFc q h) hFc (fun u9 t9 H1 locs ht hvm hw hB hz1 hk1 hS => ?_)
  obtain ⟨hP, hK1, hD1⟩ := hB
  rw [ht] at hP
  have hD := hD1.weaken (fun _ _ _ h => hFc _ h)
  generalize H1 = H at hP hS ⊢
  refine lv_aload_n hx hb dX12_read_117 rfl (lv_at hl 0 rfl) ?_
  obtain ⟨p7, hcp7, hf⟩ := hf_bind hf
  have hFc := r_free hD hS hA
  refine va_callv (va_runV (As := []) (rest := []) ⟨hx, hb, hml, hown, hts⟩ (c_X12_parse l dC dI _ Q N p5 p7 hcp7) (cwV 0 hts hX12_read_X12_parse_v568 rfl rfl rfl (by decide +kernel) ⟨Nat.le_of_ble_eq_true rfl, Nat.le_of_ble_eq_true rfl⟩) ⟨zPre.blind, va_recv hK hP (ci := 11) (q0 := 0) rfl rfl, zPre.go hZ hP hK hD⟩ rfl rfl hl.1 rfl (lv_room (Nat.le_of_ble_eq_true rfl)) dX12_read_118 ⟨Nat.le_of_ble_eq_true rfl, Nat.le_of_ble_eq_true rfl⟩) hS (fun q _ h => hFc q h) hFc (fun u9 t9 H1 locs ht hvm hw hB hz1 hk1 hS => ?_)
  obtain ⟨hP, hK1, hD1⟩ := hB
  rw [ht] at hP
  have hD := hD1.weaken (fun _ _ _ h => hFc _ h)
  generalize H1 = H at hP hS ⊢
  refine lv_aload_n hx hb dX12_read_121 rfl (lv_at hl 0 rfl) ?_
  refine lv_aload_n hx hb dX12_read_122 rfl (lv_at hl 0 rfl) ?_
  refine rG_10 (v := (p7.i 10)) hx hb hts i_X12_read_X12 hown hK hP (hts (.fieldLink RX12 307 "StatementRules2Model" "tok" "I") k_X12_read_fieldLink_RX12_307_SRModel_tok_I) dX12_read_123 rfl ?_
  refine lv_if_ne (tgt := 133) hx hb dX12_read_126 (by decide) (fun c9 => ?_) (fun c9 => ?_)
  ·
    replace hf := (if_neg c9).symm.trans hf
    refine lv_iconst (v := 0) hx hb dX12_read_133 (by decide) ?_
    obtain ⟨p10, hcp10, hf⟩ := hf_bind hf
    have hFc := r_free hD hS hA
    refine va_calli (va_runV (As := [.int 0]) (rest := []) ⟨hx, hb, hml, hown, hts⟩ (c_X12_can l dC dI _ Q N p7 0 p10 hcp10) (cwV 1 hts hX12_read_X12_can_v341 rfl rfl rfl (by decide +kernel) ⟨Nat.le_of_ble_eq_true rfl, Nat.le_of_ble_eq_true rfl⟩) ⟨zPre.blind, va_recv hK hP (ci := 11) (q0 := 0) rfl rfl, zPre.go hZ hP hK hD⟩ rfl rfl hl.1 rfl (lv_room (Nat.le_of_ble_eq_true rfl)) dX12_read_134 ⟨Nat.le_of_ble_eq_true rfl, Nat.le_of_ble_eq_true rfl⟩) hS (fun q _ h => hFc q h) hFc (fun r11 u9 t9 H1 locs ht hvm hw hB hz1 hk1 hS => ?_)
    obtain ⟨hP, hK1, hD1⟩ := hB
    rw [ht] at hP
    have hD := hD1.weaken (fun _ _ _ h => hFc _ h)
    generalize H1 = H at hP hS ⊢
    obtain rfl : r11 = p10.1 := hw
    refine lv_pop hx hb dX12_read_137 rfl ?_
    exact j_X12_read_138 l dC dI Q N R hx hb hr hml hown hts hlocks hZ hA hK p10.2 _ _ _ hf hP hD hS (lv_sub hl [0] rfl)
  ·
    replace hf := (if_pos c9).symm.trans hf
    refine lv_iconst (v := 1) hx hb dX12_read_129 (by decide) ?_
    refine lv_goto (tgt := 134) hx hb dX12_read_130 (by decide) ?_
    obtain ⟨p19, hcp19, hf⟩ := hf_bind hf
    have hFc := r_free hD hS hA
    refine va_calli (va_runV (As := [.int 1]) (rest := []) ⟨hx, hb, hml, hown, hts⟩ (c_X12_can l dC dI _ Q N p7 1 p19 hcp19) (cwV 1 hts hX12_read_X12_can_v341 rfl rfl rfl (by decide +kernel) ⟨Nat.le_of_ble_eq_true rfl, Nat.le_of_ble_eq_true rfl⟩) ⟨zPre.blind, va_recv hK hP (ci := 11) (q0 := 0) rfl rfl, zPre.go hZ hP hK hD⟩ rfl rfl hl.1 rfl (lv_room (Nat.le_of_ble_eq_true rfl)) dX12_read_134 ⟨Nat.le_of_ble_eq_true rfl, Nat.le_of_ble_eq_true rfl⟩) hS (fun q _ h => hFc q h) hFc (fun r20 u9 t9 H1 locs ht hvm hw hB hz1 hk1 hS => ?_)
    obtain ⟨hP, hK1, hD1⟩ := hB
    rw [ht] at hP
    have hD := hD1.weaken (fun _ _ _ h => hFc _ h)
    generalize H1 = H at hP hS ⊢
    obtain rfl : r20 = p19.1 := hw
    refine lv_pop hx hb dX12_read_137 rfl ?_
    exact j_X12_read_138 l dC dI Q N R hx hb hr hml hown hts hlocks hZ hA hK p19.2 _ _ _ hf hP hD hS (lv_sub hl [0] rfl)
theorem k_X12_fault_fieldLink_RX12_273_SRModel_thrown_I : Cond.fieldLink RX12 273 "StatementRules2Model" "thrown" "I" ∈ wzX12_fault := List.mem_cons_of_mem _ (List.mem_append_left _ (List.mem_of_getElem? (i := 0) rfl))
theorem i_X12_fault_X12 : ∀ w ∈ wsX120, w ∈ wzX12_fault := fun _ h => List.mem_cons_of_mem _ (List.mem_append_right _ (List.mem_append_left _ (h)))
theorem k_X12_fault_fieldLink_RX12_574_SRModel_lastFault_I : Cond.fieldLink RX12 574 "StatementRules2Model" "lastFault" "I" ∈ wzX12_fault := List.mem_cons_of_mem _ (List.mem_append_left _ (List.mem_of_getElem? (i := 1) rfl))
set_option maxHeartbeats 4000000 in
set_option maxRecDepth 100000 in
theorem c_X12_fault (l : Launch) (dC : Nat → ClassId) (dI : Nat → Nat → Nat) (sz : Nat) (Q : RQ) (N : Nat) (σ : RS) (R : Int32 × RS) (hf : f_X12_fault N σ = some R) : Met l yX12_fault wzX12_fault ({ frames := 1, cells := 0, slots := 0, locals := 60 }) (va_Pc [.ref Q.h0] (zPre dC dI sz (rW Q σ) (rT Q))) (va_Qi (fun (r : Int32) (_ : Unit) => r = R.1) (fun (_ : Unit) (t : State) => zPost dC dI (va_A (rW Q σ) sz) (rW Q R.2) (rT Q) t) (va_A (rW Q σ) sz)) 0 0 (va_A (rW Q σ) sz) := by
  refine Met.ofW (cc := cX12_fault) (maxL := 1) (ret := (some .int)) (by decide) rfl ?_
  intro p e s m args below meth c s₁ B hml hv
  obtain ⟨rfl, hsz, hZ, hP, hK, hD0⟩ := hv
  have hx := B.exec
  have hb := B.bytes
  have hr := B.returns
  have hts := atoms_spec (ws := wzX12_fault) B.pre
  have hown : s.vm.findClass RX12 = some m.cls := findClass_of_methodNamed B.named
  have hlocks := B.notSynchronized
  subst hsz
  have hD := hD0.self (sz := s.heap.size)
  generalize hAe : va_A (rW Q σ) s.heap.size = A at hD ⊢
  have hA : ∀ q : Nat, s.heap.size ≤ q → A q := fun q h => by rw [← hAe]; exact Or.inr h
  have hS : va_S A s.heap s.heap [] := va_S.rf
  have hl := lv_entry ([.ref Q.h0]) (n := 1) (Nat.le_of_ble_eq_true rfl)
  rw [lg_entry_eq]
  generalize (lg_sl ([.ref Q.h0]) ++ List.replicate (1 - (lg_sl ([.ref Q.h0])).length) Slot.unset).toArray = ls at hl ⊢
  have hl : lv_has ls 1 [(0, .ref Q.h0)] := hl
  unfold f_X12_fault at hf
  refine lv_aload_n hx hb dX12_fault_0 rfl (lv_at hl 0 rfl) ?_
  refine lv_iconst (v := 0) hx hb dX12_fault_1 (by decide) ?_
  refine rP_0 hx hb hts i_X12_fault_X12 hown hK hP hD hS (hts (.fieldLink RX12 273 "StatementRules2Model" "thrown" "I") k_X12_fault_fieldLink_RX12_273_SRModel_thrown_I) dX12_fault_2 (fun H locs hP hD hS => ?_)
  refine lv_aload_n hx hb dX12_fault_5 rfl (lv_at hl 0 rfl) ?_
  refine rG_76 (v := (σ.i 76)) hx hb hts i_X12_fault_X12 hown hK hP (hts (.fieldLink RX12 574 "StatementRules2Model" "lastFault" "I") k_X12_fault_fieldLink_RX12_574_SRModel_lastFault_I) dX12_fault_6 rfl ?_
  obtain rfl := Option.some.inj hf
  exact W.iret (v := (σ.i 76)) hx hb hr (fun t ht hW => ⟨⟨(σ.i 76), (), rfl, rfl, by rw [ht]; exact hP, va_K.moved hW.alike hK, hD⟩, hS.F ht⟩) hS.2.2 dX12_fault_9
theorem k_X12_program_fieldLink_RX12_273_SRModel_thrown_I : Cond.fieldLink RX12 273 "StatementRules2Model" "thrown" "I" ∈ wzX12_program := List.mem_cons_of_mem _ (List.mem_append_left _ (List.mem_of_getElem? (i := 0) rfl))
theorem i_X12_program_X12 : ∀ w ∈ wsX120, w ∈ wzX12_program := fun _ h => List.mem_cons_of_mem _ (List.mem_append_right _ (List.mem_append_left _ (h)))
theorem k_X12_program_fieldLink_RX12_577_SRModel_hasProgram_Z : Cond.fieldLink RX12 577 "StatementRules2Model" "hasProgram" "Z" ∈ wzX12_program := List.mem_cons_of_mem _ (List.mem_append_left _ (List.mem_of_getElem? (i := 1) rfl))
theorem k_X12_program_fieldLink_RX12_527_SRModel_jumps_I : Cond.fieldLink RX12 527 "StatementRules2Model" "jumps" "I" ∈ wzX12_program := List.mem_cons_of_mem _ (List.mem_append_left _ (List.mem_of_getElem? (i := 2) rfl))
theorem k_X12_program_fieldLink_RX12_500_SRModel_tellings_I : Cond.fieldLink RX12 500 "StatementRules2Model" "tellings" "I" ∈ wzX12_program := List.mem_cons_of_mem _ (List.mem_append_left _ (List.mem_of_getElem? (i := 3) rfl))
theorem k_X12_program_fieldLink_RX12_571_SRModel_endsWell_Z : Cond.fieldLink RX12 571 "StatementRules2Model" "endsWell" "Z" ∈ wzX12_program := List.mem_cons_of_mem _ (List.mem_append_left _ (List.mem_of_getElem? (i := 4) rfl))
theorem k_X12_program_fieldLink_RX12_494_SRModel_statements_I : Cond.fieldLink RX12 494 "StatementRules2Model" "statements" "I" ∈ wzX12_program := List.mem_cons_of_mem _ (List.mem_append_left _ (List.mem_of_getElem? (i := 5) rfl))
set_option maxHeartbeats 4000000 in
set_option maxRecDepth 100000 in
theorem c_X12_program (l : Launch) (dC : Nat → ClassId) (dI : Nat → Nat → Nat) (sz : Nat) (Q : RQ) (N : Nat) (σ : RS) (x1 : Int32) (R : Int32 × RS) (hf : f_X12_program N σ x1 = some R) : Met l yX12_program wzX12_program ({ frames := 2, cells := 0, slots := 0, locals := 120 }) (va_Pc [.ref Q.h0, .int x1] (zPre dC dI sz (rW Q σ) (rT Q))) (va_Qi (fun (r : Int32) (_ : Unit) => r = R.1) (fun (_ : Unit) (t : State) => zPost dC dI (va_A (rW Q σ) sz) (rW Q R.2) (rT Q) t) (va_A (rW Q σ) sz)) 0 0 (va_A (rW Q σ) sz) := by
  refine Met.ofW (cc := cX12_program) (maxL := 2) (ret := (some .int)) (by decide) rfl ?_
  intro p e s m args below meth c s₁ B hml hv
  obtain ⟨rfl, hsz, hZ, hP, hK, hD0⟩ := hv
  have hx := B.exec
  have hb := B.bytes
  have hr := B.returns
  have hts := atoms_spec (ws := wzX12_program) B.pre
  have hown : s.vm.findClass RX12 = some m.cls := findClass_of_methodNamed B.named
  have hlocks := B.notSynchronized
  subst hsz
  have hD := hD0.self (sz := s.heap.size)
  generalize hAe : va_A (rW Q σ) s.heap.size = A at hD ⊢
  have hA : ∀ q : Nat, s.heap.size ≤ q → A q := fun q h => by rw [← hAe]; exact Or.inr h
  have hS : va_S A s.heap s.heap [] := va_S.rf
  have hl := lv_entry ([.ref Q.h0, .int x1]) (n := 2) (Nat.le_of_ble_eq_true rfl)
  rw [lg_entry_eq]
  generalize (lg_sl ([.ref Q.h0, .int x1]) ++ List.replicate (2 - (lg_sl ([.ref Q.h0, .int x1])).length) Slot.unset).toArray = ls at hl ⊢
  have hl : lv_has ls 2 [(0, .ref Q.h0), (1, .int x1)] := hl
  unfold f_X12_program at hf
  refine lv_aload_n hx hb dX12_program_0 rfl (lv_at hl 0 rfl) ?_
  refine lv_iconst (v := 0) hx hb dX12_program_1 (by decide) ?_
  refine rP_0 hx hb hts i_X12_program_X12 hown hK hP hD hS (hts (.fieldLink RX12 273 "StatementRules2Model" "thrown" "I") k_X12_program_fieldLink_RX12_273_SRModel_thrown_I) dX12_program_2 (fun H locs hP hD hS => ?_)
  refine lv_iload_n hx hb dX12_program_5 rfl (lv_at hl 1 rfl) ?_
  refine lv_iconst (v := 0) hx hb dX12_program_6 (by decide) ?_
  refine lv_iconst (v := 3) hx hb dX12_program_7 (by decide) ?_
  obtain ⟨p1, hcp1, hf⟩ := hf_bind hf
  have hFc := r_free hD hS hA
  refine va_calli (va_runS (As := [.int x1, .int 0, .int 3]) (rest := []) ⟨hx, hb, hml, hown, hts⟩ (c_X12_in l dC dI _ Q N (RS.setI σ 0 0) x1 0 3 p1 hcp1) (va_cwS 3 hts hX12_program_X12_in_s279 rfl rfl rfl (by decide +kernel) ⟨Nat.le_of_ble_eq_true rfl, Nat.le_of_ble_eq_true rfl⟩) ⟨zPre.blind, zPre.go hZ hP hK hD⟩ rfl rfl hl.1 rfl (lv_room (Nat.le_of_ble_eq_true rfl)) dX12_program_8 ⟨Nat.le_of_ble_eq_true rfl, Nat.le_of_ble_eq_true rfl⟩) hS (fun q _ h => hFc q h) hFc (fun r2 u9 t9 H1 locs ht hvm hw hB hz1 hk1 hS => ?_)
  obtain ⟨hP, hK1, hD1⟩ := hB
  rw [ht] at hP
  have hD := hD1.weaken (fun _ _ _ h => hFc _ h)
  generalize H1 = H at hP hS ⊢
  obtain rfl : r2 = p1.1 := hw
  refine lv_if_ne (tgt := 16) hx hb dX12_program_11 (by decide) (fun c3 => ?_) (fun c3 => ?_)
  ·
    replace hf := (if_neg c3).symm.trans hf
    refine lv_aload_n hx hb dX12_program_16 rfl (lv_at hl 0 rfl) ?_
    refine rG_77 (v := (p1.2.i 77)) hx hb hts i_X12_program_X12 hown hK hP (hts (.fieldLink RX12 577 "StatementRules2Model" "hasProgram" "Z") k_X12_program_fieldLink_RX12_577_SRModel_hasProgram_Z) dX12_program_17 rfl ?_
    refine lv_if_ne (tgt := 26) hx hb dX12_program_20 (by decide) (fun c4 => ?_) (fun c4 => ?_)
    ·
      replace hf := (if_neg c4).symm.trans hf
      refine lv_iload_n hx hb dX12_program_26 rfl (lv_at hl 1 rfl) ?_
      refine lv_if_ne (tgt := 37) hx hb dX12_program_27 (by decide) (fun c5 => ?_) (fun c5 => ?_)
      ·
        replace hf := (if_neg c5).symm.trans hf
        refine lv_iload_n hx hb dX12_program_37 rfl (lv_at hl 1 rfl) ?_
        refine lv_iconst (v := 1) hx hb dX12_program_38 (by decide) ?_
        refine lv_icmp_ne (tgt := 57) hx hb dX12_program_39 (by decide) (fun c6 => ?_) (fun c6 => ?_)
        ·
          replace hf := (if_neg c6).symm.trans hf
          refine lv_iload_n hx hb dX12_program_57 rfl (lv_at hl 1 rfl) ?_
          refine lv_iconst (v := 2) hx hb dX12_program_58 (by decide) ?_
          refine lv_icmp_ne (tgt := 69) hx hb dX12_program_59 (by decide) (fun c7 => ?_) (fun c7 => ?_)
          ·
            replace hf := (if_neg c7).symm.trans hf
            refine lv_aload_n hx hb dX12_program_69 rfl (lv_at hl 0 rfl) ?_
            refine rG_55 (v := (p1.2.i 55)) hx hb hts i_X12_program_X12 hown hK hP (hts (.fieldLink RX12 527 "StatementRules2Model" "jumps" "I") k_X12_program_fieldLink_RX12_527_SRModel_jumps_I) dX12_program_70 rfl ?_
            obtain rfl := Option.some.inj hf
            exact W.iret (v := (p1.2.i 55)) hx hb hr (fun t ht hW => ⟨⟨(p1.2.i 55), (), rfl, rfl, by rw [ht]; exact hP, va_K.moved hW.alike hK, hD⟩, hS.F ht⟩) hS.2.2 dX12_program_73
          ·
            replace hf := (if_pos c7).symm.trans hf
            refine lv_aload_n hx hb dX12_program_62 rfl (lv_at hl 0 rfl) ?_
            refine rG_54 (v := (p1.2.i 54)) hx hb hts i_X12_program_X12 hown hK hP (hts (.fieldLink RX12 500 "StatementRules2Model" "tellings" "I") k_X12_program_fieldLink_RX12_500_SRModel_tellings_I) dX12_program_63 rfl ?_
            refine lv_goto (tgt := 73) hx hb dX12_program_66 (by decide) ?_
            obtain rfl := Option.some.inj hf
            exact W.iret (v := (p1.2.i 54)) hx hb hr (fun t ht hW => ⟨⟨(p1.2.i 54), (), rfl, rfl, by rw [ht]; exact hP, va_K.moved hW.alike hK, hD⟩, hS.F ht⟩) hS.2.2 dX12_program_73
        ·
          replace hf := (if_pos c6).symm.trans hf
          refine lv_aload_n hx hb dX12_program_42 rfl (lv_at hl 0 rfl) ?_
          refine rG_78 (v := (p1.2.i 78)) hx hb hts i_X12_program_X12 hown hK hP (hts (.fieldLink RX12 571 "StatementRules2Model" "endsWell" "Z") k_X12_program_fieldLink_RX12_571_SRModel_endsWell_Z) dX12_program_43 rfl ?_
          refine lv_if_eq (tgt := 53) hx hb dX12_program_46 (by decide) (fun c8 => ?_) (fun c8 => ?_)
          ·
            replace hf := (if_pos c8).symm.trans hf
            refine lv_iconst (v := 0) hx hb dX12_program_53 (by decide) ?_
            refine lv_goto (tgt := 73) hx hb dX12_program_54 (by decide) ?_
            obtain rfl := Option.some.inj hf
            exact W.iret (v := 0) hx hb hr (fun t ht hW => ⟨⟨0, (), rfl, rfl, by rw [ht]; exact hP, va_K.moved hW.alike hK, hD⟩, hS.F ht⟩) hS.2.2 dX12_program_73
          ·
            replace hf := (if_neg c8).symm.trans hf
            refine lv_iconst (v := 1) hx hb dX12_program_49 (by decide) ?_
            refine lv_goto (tgt := 73) hx hb dX12_program_50 (by decide) ?_
            obtain rfl := Option.some.inj hf
            exact W.iret (v := 1) hx hb hr (fun t ht hW => ⟨⟨1, (), rfl, rfl, by rw [ht]; exact hP, va_K.moved hW.alike hK, hD⟩, hS.F ht⟩) hS.2.2 dX12_program_73
      ·
        replace hf := (if_pos c5).symm.trans hf
        refine lv_aload_n hx hb dX12_program_30 rfl (lv_at hl 0 rfl) ?_
        refine rG_53 (v := (p1.2.i 53)) hx hb hts i_X12_program_X12 hown hK hP (hts (.fieldLink RX12 494 "StatementRules2Model" "statements" "I") k_X12_program_fieldLink_RX12_494_SRModel_statements_I) dX12_program_31 rfl ?_
        refine lv_goto (tgt := 73) hx hb dX12_program_34 (by decide) ?_
        obtain rfl := Option.some.inj hf
        exact W.iret (v := (p1.2.i 53)) hx hb hr (fun t ht hW => ⟨⟨(p1.2.i 53), (), rfl, rfl, by rw [ht]; exact hP, va_K.moved hW.alike hK, hD⟩, hS.F ht⟩) hS.2.2 dX12_program_73
    ·
      replace hf := (if_pos c4).symm.trans hf
      refine lv_bipush (v := (-3)) hx hb dX12_program_23 (by decide) ?_
      obtain rfl := Option.some.inj hf
      exact W.iret (v := (-3)) hx hb hr (fun t ht hW => ⟨⟨(-3), (), rfl, rfl, by rw [ht]; exact hP, va_K.moved hW.alike hK, hD⟩, hS.F ht⟩) hS.2.2 dX12_program_25
  ·
    replace hf := (if_pos c3).symm.trans hf
    refine lv_iconst (v := (-1)) hx hb dX12_program_14 (by decide) ?_
    obtain rfl := Option.some.inj hf
    exact W.iret (v := (-1)) hx hb hr (fun t ht hW => ⟨⟨(-1), (), rfl, rfl, by rw [ht]; exact hP, va_K.moved hW.alike hK, hD⟩, hS.F ht⟩) hS.2.2 dX12_program_15
theorem k_X12_row_fieldLink_RX12_583_SRModel_rowMany_I : Cond.fieldLink RX12 583 "StatementRules2Model" "rowMany" "I" ∈ wzX12_row := List.mem_cons_of_mem _ (List.mem_append_left _ (List.mem_of_getElem? (i := 0) rfl))
theorem i_X12_row_X12 : ∀ w ∈ wsX120, w ∈ wzX12_row := fun _ h => List.mem_cons_of_mem _ (List.mem_append_right _ (List.mem_append_left _ (h)))
theorem k_X12_row_fieldLink_RX12_207_SRModel_rowSort_I : Cond.fieldLink RX12 207 "StatementRules2Model" "rowSort" "[I" ∈ wzX12_row := List.mem_cons_of_mem _ (List.mem_append_left _ (List.mem_of_getElem? (i := 1) rfl))
theorem k_X12_row_fieldLink_RX12_210_SRModel_rowNumber_I : Cond.fieldLink RX12 210 "StatementRules2Model" "rowNumber" "[I" ∈ wzX12_row := List.mem_cons_of_mem _ (List.mem_append_left _ (List.mem_of_getElem? (i := 2) rfl))
set_option maxHeartbeats 4000000 in
set_option maxRecDepth 100000 in
theorem c_X12_row (l : Launch) (dC : Nat → ClassId) (dI : Nat → Nat → Nat) (sz : Nat) (Q : RQ) (N : Nat) (σ : RS) (x1 : Int32) (x2 : Int32) (R : RS) (hf : f_X12_row N σ x1 x2 = some R) : Met l yX12_row wzX12_row ({ frames := 1, cells := 0, slots := 0, locals := 60 }) (va_Pc [.ref Q.h0, .int x1, .int x2] (zPre dC dI sz (rW Q σ) (rT Q))) (va_Qv (fun (_ : Unit) => True) (fun (_ : Unit) (t : State) => zPost dC dI (va_A (rW Q σ) sz) (rW Q R) (rT Q) t) (va_A (rW Q σ) sz)) 0 0 (va_A (rW Q σ) sz) := by
  refine Met.ofW (cc := cX12_row) (maxL := 3) (ret := none) (by decide) rfl ?_
  intro p e s m args below meth c s₁ B hml hv
  obtain ⟨rfl, hsz, hZ, hP, hK, hD0⟩ := hv
  have hx := B.exec
  have hb := B.bytes
  have hr := B.returns
  have hts := atoms_spec (ws := wzX12_row) B.pre
  have hown : s.vm.findClass RX12 = some m.cls := findClass_of_methodNamed B.named
  have hlocks := B.notSynchronized
  subst hsz
  have hD := hD0.self (sz := s.heap.size)
  generalize hAe : va_A (rW Q σ) s.heap.size = A at hD ⊢
  have hA : ∀ q : Nat, s.heap.size ≤ q → A q := fun q h => by rw [← hAe]; exact Or.inr h
  have hS : va_S A s.heap s.heap [] := va_S.rf
  have hl := lv_entry ([.ref Q.h0, .int x1, .int x2]) (n := 3) (Nat.le_of_ble_eq_true rfl)
  rw [lg_entry_eq]
  generalize (lg_sl ([.ref Q.h0, .int x1, .int x2]) ++ List.replicate (3 - (lg_sl ([.ref Q.h0, .int x1, .int x2])).length) Slot.unset).toArray = ls at hl ⊢
  have hl : lv_has ls 3 [(0, .ref Q.h0), (1, .int x1), (2, .int x2)] := hl
  unfold f_X12_row at hf
  refine lv_aload_n hx hb dX12_row_0 rfl (lv_at hl 0 rfl) ?_
  refine rG_81 (v := (σ.i 81)) hx hb hts i_X12_row_X12 hown hK hP (hts (.fieldLink RX12 583 "StatementRules2Model" "rowMany" "I") k_X12_row_fieldLink_RX12_583_SRModel_rowMany_I) dX12_row_1 rfl ?_
  refine lv_sipush (v := 200) hx hb dX12_row_4 (by decide) ?_
  refine lv_icmp_ge (tgt := 40) hx hb dX12_row_7 (by decide) (fun c1 => ?_) (fun c1 => ?_)
  ·
    replace hf := (if_pos c1).symm.trans hf
    obtain rfl := Option.some.inj hf
    exact W.vret hx hb hr (fun t ht hW => ⟨⟨(), rfl, trivial, by rw [ht]; exact hP, va_K.moved hW.alike hK, hD⟩, hS.F ht⟩) hS.2.2 dX12_row_40
  ·
    replace hf := (if_neg c1).symm.trans hf
    refine lv_aload_n hx hb dX12_row_10 rfl (lv_at hl 0 rfl) ?_
    refine rG_82 hx hb hts i_X12_row_X12 hown hK hP (hts (.fieldLink RX12 207 "StatementRules2Model" "rowSort" "[I") k_X12_row_fieldLink_RX12_207_SRModel_rowSort_I) dX12_row_11 ?_
    refine lv_aload_n hx hb dX12_row_14 rfl (lv_at hl 0 rfl) ?_
    refine rG_81 (v := (σ.i 81)) hx hb hts i_X12_row_X12 hown hK hP (hts (.fieldLink RX12 583 "StatementRules2Model" "rowMany" "I") k_X12_row_fieldLink_RX12_583_SRModel_rowMany_I) dX12_row_15 rfl ?_
    refine lv_iload_n hx hb dX12_row_18 rfl (lv_at hl 1 rfl) ?_
    obtain ⟨b2, hf⟩ := hf_ite hf
    refine rS_82 hx hb hK hP hD hS b2 dX12_row_19 (fun H locs hP hD hS => ?_)
    refine lv_aload_n hx hb dX12_row_20 rfl (lv_at hl 0 rfl) ?_
    refine rG_83 hx hb hts i_X12_row_X12 hown hK hP (hts (.fieldLink RX12 210 "StatementRules2Model" "rowNumber" "[I") k_X12_row_fieldLink_RX12_210_SRModel_rowNumber_I) dX12_row_21 ?_
    refine lv_aload_n hx hb dX12_row_24 rfl (lv_at hl 0 rfl) ?_
    refine rG_81 (v := (σ.i 81)) hx hb hts i_X12_row_X12 hown hK hP (hts (.fieldLink RX12 583 "StatementRules2Model" "rowMany" "I") k_X12_row_fieldLink_RX12_583_SRModel_rowMany_I) dX12_row_25 rfl ?_
    refine lv_iload_n hx hb dX12_row_28 rfl (lv_at hl 2 rfl) ?_
    refine rS_83 hx hb hK hP hD hS b2 dX12_row_29 (fun H locs hP hD hS => ?_)
    refine lv_aload_n hx hb dX12_row_30 rfl (lv_at hl 0 rfl) ?_
    refine lv_dup hx hb dX12_row_31 rfl ?_
    refine rG_81 (v := (σ.i 81)) hx hb hts i_X12_row_X12 hown hK hP (hts (.fieldLink RX12 583 "StatementRules2Model" "rowMany" "I") k_X12_row_fieldLink_RX12_583_SRModel_rowMany_I) dX12_row_32 rfl ?_
    refine lv_iconst (v := 1) hx hb dX12_row_35 (by decide) ?_
    refine lv_iadd hx hb dX12_row_36 ?_
    refine rP_81 hx hb hts i_X12_row_X12 hown hK hP hD hS (hts (.fieldLink RX12 583 "StatementRules2Model" "rowMany" "I") k_X12_row_fieldLink_RX12_583_SRModel_rowMany_I) dX12_row_37 (fun H locs hP hD hS => ?_)
    obtain rfl := Option.some.inj hf
    exact W.vret hx hb hr (fun t ht hW => ⟨⟨(), rfl, trivial, by rw [ht]; exact hP, va_K.moved hW.alike hK, hD⟩, hS.F ht⟩) hS.2.2 dX12_row_40
theorem k_X12_record_fieldLink_RX12_586_SRModel_recs_I : Cond.fieldLink RX12 586 "StatementRules2Model" "recs" "I" ∈ wzX12_record := List.mem_cons_of_mem _ (List.mem_append_left _ (List.mem_of_getElem? (i := 0) rfl))
theorem i_X12_record_X12 : ∀ w ∈ wsX120, w ∈ wzX12_record := fun _ h => List.mem_cons_of_mem _ (List.mem_append_right _ (List.mem_append_left _ (h)))
theorem k_X12_record_fieldLink_RX12_243_SRModel_rk_I : Cond.fieldLink RX12 243 "StatementRules2Model" "rk" "[I" ∈ wzX12_record := List.mem_cons_of_mem _ (List.mem_append_left _ (List.mem_of_getElem? (i := 1) rfl))
theorem k_X12_record_fieldLink_RX12_246_SRModel_ra_I : Cond.fieldLink RX12 246 "StatementRules2Model" "ra" "[I" ∈ wzX12_record := List.mem_cons_of_mem _ (List.mem_append_left _ (List.mem_of_getElem? (i := 2) rfl))
theorem k_X12_record_fieldLink_RX12_249_SRModel_rb_I : Cond.fieldLink RX12 249 "StatementRules2Model" "rb" "[I" ∈ wzX12_record := List.mem_cons_of_mem _ (List.mem_append_left _ (List.mem_of_getElem? (i := 3) rfl))
theorem k_X12_record_fieldLink_RX12_252_SRModel_rc_I : Cond.fieldLink RX12 252 "StatementRules2Model" "rc" "[I" ∈ wzX12_record := List.mem_cons_of_mem _ (List.mem_append_left _ (List.mem_of_getElem? (i := 4) rfl))
theorem k_X12_record_fieldLink_RX12_255_SRModel_rHigh_I : Cond.fieldLink RX12 255 "StatementRules2Model" "rHigh" "[I" ∈ wzX12_record := List.mem_cons_of_mem _ (List.mem_append_left _ (List.mem_of_getElem? (i := 5) rfl))
theorem k_X12_record_fieldLink_RX12_589_SRModel_high_I : Cond.fieldLink RX12 589 "StatementRules2Model" "high" "I" ∈ wzX12_record := List.mem_cons_of_mem _ (List.mem_append_left _ (List.mem_of_getElem? (i := 6) rfl))
set_option maxHeartbeats 4000000 in
set_option maxRecDepth 100000 in
theorem c_X12_record (l : Launch) (dC : Nat → ClassId) (dI : Nat → Nat → Nat) (sz : Nat) (Q : RQ) (N : Nat) (σ : RS) (x1 : Int32) (x2 : Int32) (x3 : Int32) (x4 : Int32) (R : Int32 × RS) (hf : f_X12_record N σ x1 x2 x3 x4 = some R) : Met l yX12_record wzX12_record ({ frames := 1, cells := 0, slots := 0, locals := 60 }) (va_Pc [.ref Q.h0, .int x1, .int x2, .int x3, .int x4] (zPre dC dI sz (rW Q σ) (rT Q))) (va_Qi (fun (r : Int32) (_ : Unit) => r = R.1) (fun (_ : Unit) (t : State) => zPost dC dI (va_A (rW Q σ) sz) (rW Q R.2) (rT Q) t) (va_A (rW Q σ) sz)) 0 0 (va_A (rW Q σ) sz) := by
  refine Met.ofW (cc := cX12_record) (maxL := 6) (ret := (some .int)) (by decide) rfl ?_
  intro p e s m args below meth c s₁ B hml hv
  obtain ⟨rfl, hsz, hZ, hP, hK, hD0⟩ := hv
  have hx := B.exec
  have hb := B.bytes
  have hr := B.returns
  have hts := atoms_spec (ws := wzX12_record) B.pre
  have hown : s.vm.findClass RX12 = some m.cls := findClass_of_methodNamed B.named
  have hlocks := B.notSynchronized
  subst hsz
  have hD := hD0.self (sz := s.heap.size)
  generalize hAe : va_A (rW Q σ) s.heap.size = A at hD ⊢
  have hA : ∀ q : Nat, s.heap.size ≤ q → A q := fun q h => by rw [← hAe]; exact Or.inr h
  have hS : va_S A s.heap s.heap [] := va_S.rf
  have hl := lv_entry ([.ref Q.h0, .int x1, .int x2, .int x3, .int x4]) (n := 6) (Nat.le_of_ble_eq_true rfl)
  rw [lg_entry_eq]
  generalize (lg_sl ([.ref Q.h0, .int x1, .int x2, .int x3, .int x4]) ++ List.replicate (6 - (lg_sl ([.ref Q.h0, .int x1, .int x2, .int x3, .int x4])).length) Slot.unset).toArray = ls at hl ⊢
  have hl : lv_has ls 6 [(0, .ref Q.h0), (1, .int x1), (2, .int x2), (3, .int x3), (4, .int x4)] := hl
  unfold f_X12_record at hf
  refine lv_aload_n hx hb dX12_record_0 rfl (lv_at hl 0 rfl) ?_
  refine rG_99 (v := (σ.i 99)) hx hb hts i_X12_record_X12 hown hK hP (hts (.fieldLink RX12 586 "StatementRules2Model" "recs" "I") k_X12_record_fieldLink_RX12_586_SRModel_recs_I) dX12_record_1 rfl ?_
  refine lv_istore (lv' := [(5, .int (σ.i 99)), (0, .ref Q.h0), (1, .int x1), (2, .int x2), (3, .int x3), (4, .int x4)]) hx hb dX12_record_4 hl (by decide) rfl (fun ls hl => ?_)
  refine lv_aload_n hx hb dX12_record_6 rfl (lv_at hl 1 rfl) ?_
  refine rG_100 hx hb hts i_X12_record_X12 hown hK hP (hts (.fieldLink RX12 243 "StatementRules2Model" "rk" "[I") k_X12_record_fieldLink_RX12_243_SRModel_rk_I) dX12_record_7 ?_
  refine lv_iload hx hb dX12_record_10 (lv_at hl 0 rfl) ?_
  refine lv_iload_n hx hb dX12_record_12 rfl (lv_at hl 2 rfl) ?_
  obtain ⟨b1, hf⟩ := hf_ite hf
  refine rS_100 hx hb hK hP hD hS b1 dX12_record_13 (fun H locs hP hD hS => ?_)
  refine lv_aload_n hx hb dX12_record_14 rfl (lv_at hl 1 rfl) ?_
  refine rG_101 hx hb hts i_X12_record_X12 hown hK hP (hts (.fieldLink RX12 246 "StatementRules2Model" "ra" "[I") k_X12_record_fieldLink_RX12_246_SRModel_ra_I) dX12_record_15 ?_
  refine lv_iload hx hb dX12_record_18 (lv_at hl 0 rfl) ?_
  refine lv_iload_n hx hb dX12_record_20 rfl (lv_at hl 3 rfl) ?_
  refine rS_101 hx hb hK hP hD hS b1 dX12_record_21 (fun H locs hP hD hS => ?_)
  refine lv_aload_n hx hb dX12_record_22 rfl (lv_at hl 1 rfl) ?_
  refine rG_102 hx hb hts i_X12_record_X12 hown hK hP (hts (.fieldLink RX12 249 "StatementRules2Model" "rb" "[I") k_X12_record_fieldLink_RX12_249_SRModel_rb_I) dX12_record_23 ?_
  refine lv_iload hx hb dX12_record_26 (lv_at hl 0 rfl) ?_
  refine lv_iload_n hx hb dX12_record_28 rfl (lv_at hl 4 rfl) ?_
  refine rS_102 hx hb hK hP hD hS b1 dX12_record_29 (fun H locs hP hD hS => ?_)
  refine lv_aload_n hx hb dX12_record_30 rfl (lv_at hl 1 rfl) ?_
  refine rG_103 hx hb hts i_X12_record_X12 hown hK hP (hts (.fieldLink RX12 252 "StatementRules2Model" "rc" "[I") k_X12_record_fieldLink_RX12_252_SRModel_rc_I) dX12_record_31 ?_
  refine lv_iload hx hb dX12_record_34 (lv_at hl 0 rfl) ?_
  refine lv_iload hx hb dX12_record_36 (lv_at hl 5 rfl) ?_
  refine rS_103 hx hb hK hP hD hS b1 dX12_record_38 (fun H locs hP hD hS => ?_)
  refine lv_aload_n hx hb dX12_record_39 rfl (lv_at hl 1 rfl) ?_
  refine rG_104 hx hb hts i_X12_record_X12 hown hK hP (hts (.fieldLink RX12 255 "StatementRules2Model" "rHigh" "[I") k_X12_record_fieldLink_RX12_255_SRModel_rHigh_I) dX12_record_40 ?_
  refine lv_iload hx hb dX12_record_43 (lv_at hl 0 rfl) ?_
  refine lv_aload_n hx hb dX12_record_45 rfl (lv_at hl 1 rfl) ?_
  refine rG_93 (v := (σ.i 93)) hx hb hts i_X12_record_X12 hown hK hP (hts (.fieldLink RX12 589 "StatementRules2Model" "high" "I") k_X12_record_fieldLink_RX12_589_SRModel_high_I) dX12_record_46 rfl ?_
  refine rS_104 hx hb hK hP hD hS b1 dX12_record_49 (fun H locs hP hD hS => ?_)
  refine lv_aload_n hx hb dX12_record_50 rfl (lv_at hl 1 rfl) ?_
  refine lv_dup hx hb dX12_record_51 rfl ?_
  refine rG_99 (v := (σ.i 99)) hx hb hts i_X12_record_X12 hown hK hP (hts (.fieldLink RX12 586 "StatementRules2Model" "recs" "I") k_X12_record_fieldLink_RX12_586_SRModel_recs_I) dX12_record_52 rfl ?_
  refine lv_iconst (v := 1) hx hb dX12_record_55 (by decide) ?_
  refine lv_iadd hx hb dX12_record_56 ?_
  refine rP_99 hx hb hts i_X12_record_X12 hown hK hP hD hS (hts (.fieldLink RX12 586 "StatementRules2Model" "recs" "I") k_X12_record_fieldLink_RX12_586_SRModel_recs_I) dX12_record_57 (fun H locs hP hD hS => ?_)
  refine lv_iload hx hb dX12_record_60 (lv_at hl 0 rfl) ?_
  obtain rfl := Option.some.inj hf
  exact W.iret (v := (σ.i 99)) hx hb hr (fun t ht hW => ⟨⟨(σ.i 99), (), rfl, rfl, by rw [ht]; exact hP, va_K.moved hW.alike hK, hD⟩, hS.F ht⟩) hS.2.2 dX12_record_62
theorem k_X12_put_fieldLink_RX12_234_SRModel_vs_I : Cond.fieldLink RX12 234 "StatementRules2Model" "vs" "[I" ∈ wzX12_put := List.mem_cons_of_mem _ (List.mem_append_left _ (List.mem_of_getElem? (i := 0) rfl))
theorem i_X12_put_X12 : ∀ w ∈ wsX120, w ∈ wzX12_put := fun _ h => List.mem_cons_of_mem _ (List.mem_append_right _ (List.mem_append_left _ (h)))
theorem k_X12_put_fieldLink_RX12_589_SRModel_high_I : Cond.fieldLink RX12 589 "StatementRules2Model" "high" "I" ∈ wzX12_put := List.mem_cons_of_mem _ (List.mem_append_left _ (List.mem_of_getElem? (i := 1) rfl))
set_option maxHeartbeats 4000000 in
set_option maxRecDepth 100000 in
theorem c_X12_put (l : Launch) (dC : Nat → ClassId) (dI : Nat → Nat → Nat) (sz : Nat) (Q : RQ) (N : Nat) (σ : RS) (x1 : Int32) (R : RS) (hf : f_X12_put N σ x1 = some R) : Met l yX12_put wzX12_put ({ frames := 1, cells := 0, slots := 0, locals := 60 }) (va_Pc [.ref Q.h0, .int x1] (zPre dC dI sz (rW Q σ) (rT Q))) (va_Qv (fun (_ : Unit) => True) (fun (_ : Unit) (t : State) => zPost dC dI (va_A (rW Q σ) sz) (rW Q R) (rT Q) t) (va_A (rW Q σ) sz)) 0 0 (va_A (rW Q σ) sz) := by
  refine Met.ofW (cc := cX12_put) (maxL := 2) (ret := none) (by decide) rfl ?_
  intro p e s m args below meth c s₁ B hml hv
  obtain ⟨rfl, hsz, hZ, hP, hK, hD0⟩ := hv
  have hx := B.exec
  have hb := B.bytes
  have hr := B.returns
  have hts := atoms_spec (ws := wzX12_put) B.pre
  have hown : s.vm.findClass RX12 = some m.cls := findClass_of_methodNamed B.named
  have hlocks := B.notSynchronized
  subst hsz
  have hD := hD0.self (sz := s.heap.size)
  generalize hAe : va_A (rW Q σ) s.heap.size = A at hD ⊢
  have hA : ∀ q : Nat, s.heap.size ≤ q → A q := fun q h => by rw [← hAe]; exact Or.inr h
  have hS : va_S A s.heap s.heap [] := va_S.rf
  have hl := lv_entry ([.ref Q.h0, .int x1]) (n := 2) (Nat.le_of_ble_eq_true rfl)
  rw [lg_entry_eq]
  generalize (lg_sl ([.ref Q.h0, .int x1]) ++ List.replicate (2 - (lg_sl ([.ref Q.h0, .int x1])).length) Slot.unset).toArray = ls at hl ⊢
  have hl : lv_has ls 2 [(0, .ref Q.h0), (1, .int x1)] := hl
  unfold f_X12_put at hf
  refine lv_aload_n hx hb dX12_put_0 rfl (lv_at hl 0 rfl) ?_
  refine rG_94 hx hb hts i_X12_put_X12 hown hK hP (hts (.fieldLink RX12 234 "StatementRules2Model" "vs" "[I") k_X12_put_fieldLink_RX12_234_SRModel_vs_I) dX12_put_1 ?_
  refine lv_aload_n hx hb dX12_put_4 rfl (lv_at hl 0 rfl) ?_
  refine rG_93 (v := (σ.i 93)) hx hb hts i_X12_put_X12 hown hK hP (hts (.fieldLink RX12 589 "StatementRules2Model" "high" "I") k_X12_put_fieldLink_RX12_589_SRModel_high_I) dX12_put_5 rfl ?_
  refine lv_iload_n hx hb dX12_put_8 rfl (lv_at hl 1 rfl) ?_
  obtain ⟨b1, hf⟩ := hf_ite hf
  refine rS_94 hx hb hK hP hD hS b1 dX12_put_9 (fun H locs hP hD hS => ?_)
  refine lv_aload_n hx hb dX12_put_10 rfl (lv_at hl 0 rfl) ?_
  refine lv_dup hx hb dX12_put_11 rfl ?_
  refine rG_93 (v := (σ.i 93)) hx hb hts i_X12_put_X12 hown hK hP (hts (.fieldLink RX12 589 "StatementRules2Model" "high" "I") k_X12_put_fieldLink_RX12_589_SRModel_high_I) dX12_put_12 rfl ?_
  refine lv_iconst (v := 1) hx hb dX12_put_15 (by decide) ?_
  refine lv_iadd hx hb dX12_put_16 ?_
  refine rP_93 hx hb hts i_X12_put_X12 hown hK hP hD hS (hts (.fieldLink RX12 589 "StatementRules2Model" "high" "I") k_X12_put_fieldLink_RX12_589_SRModel_high_I) dX12_put_17 (fun H locs hP hD hS => ?_)
  obtain rfl := Option.some.inj hf
  exact W.vret hx hb hr (fun t ht hW => ⟨⟨(), rfl, trivial, by rw [ht]; exact hP, va_K.moved hW.alike hK, hD⟩, hS.F ht⟩) hS.2.2 dX12_put_20
theorem k_X12_take_fieldLink_RX12_589_SRModel_high_I : Cond.fieldLink RX12 589 "StatementRules2Model" "high" "I" ∈ wzX12_take := List.mem_cons_of_mem _ (List.mem_append_left _ (List.mem_of_getElem? (i := 0) rfl))
theorem i_X12_take_X12 : ∀ w ∈ wsX120, w ∈ wzX12_take := fun _ h => List.mem_cons_of_mem _ (List.mem_append_right _ (List.mem_append_left _ (h)))
theorem k_X12_take_fieldLink_RX12_234_SRModel_vs_I : Cond.fieldLink RX12 234 "StatementRules2Model" "vs" "[I" ∈ wzX12_take := List.mem_cons_of_mem _ (List.mem_append_left _ (List.mem_of_getElem? (i := 1) rfl))
set_option maxHeartbeats 4000000 in
set_option maxRecDepth 100000 in
theorem c_X12_take (l : Launch) (dC : Nat → ClassId) (dI : Nat → Nat → Nat) (sz : Nat) (Q : RQ) (N : Nat) (σ : RS) (R : Int32 × RS) (hf : f_X12_take N σ = some R) : Met l yX12_take wzX12_take ({ frames := 1, cells := 0, slots := 0, locals := 60 }) (va_Pc [.ref Q.h0] (zPre dC dI sz (rW Q σ) (rT Q))) (va_Qi (fun (r : Int32) (_ : Unit) => r = R.1) (fun (_ : Unit) (t : State) => zPost dC dI (va_A (rW Q σ) sz) (rW Q R.2) (rT Q) t) (va_A (rW Q σ) sz)) 0 0 (va_A (rW Q σ) sz) := by
  refine Met.ofW (cc := cX12_take) (maxL := 1) (ret := (some .int)) (by decide) rfl ?_
  intro p e s m args below meth c s₁ B hml hv
  obtain ⟨rfl, hsz, hZ, hP, hK, hD0⟩ := hv
  have hx := B.exec
  have hb := B.bytes
  have hr := B.returns
  have hts := atoms_spec (ws := wzX12_take) B.pre
  have hown : s.vm.findClass RX12 = some m.cls := findClass_of_methodNamed B.named
  have hlocks := B.notSynchronized
  subst hsz
  have hD := hD0.self (sz := s.heap.size)
  generalize hAe : va_A (rW Q σ) s.heap.size = A at hD ⊢
  have hA : ∀ q : Nat, s.heap.size ≤ q → A q := fun q h => by rw [← hAe]; exact Or.inr h
  have hS : va_S A s.heap s.heap [] := va_S.rf
  have hl := lv_entry ([.ref Q.h0]) (n := 1) (Nat.le_of_ble_eq_true rfl)
  rw [lg_entry_eq]
  generalize (lg_sl ([.ref Q.h0]) ++ List.replicate (1 - (lg_sl ([.ref Q.h0])).length) Slot.unset).toArray = ls at hl ⊢
  have hl : lv_has ls 1 [(0, .ref Q.h0)] := hl
  unfold f_X12_take at hf
  refine lv_aload_n hx hb dX12_take_0 rfl (lv_at hl 0 rfl) ?_
  refine lv_dup hx hb dX12_take_1 rfl ?_
  refine rG_93 (v := (σ.i 93)) hx hb hts i_X12_take_X12 hown hK hP (hts (.fieldLink RX12 589 "StatementRules2Model" "high" "I") k_X12_take_fieldLink_RX12_589_SRModel_high_I) dX12_take_2 rfl ?_
  refine lv_iconst (v := 1) hx hb dX12_take_5 (by decide) ?_
  refine lv_isub hx hb dX12_take_6 ?_
  refine rP_93 hx hb hts i_X12_take_X12 hown hK hP hD hS (hts (.fieldLink RX12 589 "StatementRules2Model" "high" "I") k_X12_take_fieldLink_RX12_589_SRModel_high_I) dX12_take_7 (fun H locs hP hD hS => ?_)
  refine lv_aload_n hx hb dX12_take_10 rfl (lv_at hl 0 rfl) ?_
  refine rG_94 hx hb hts i_X12_take_X12 hown hK hP (hts (.fieldLink RX12 234 "StatementRules2Model" "vs" "[I") k_X12_take_fieldLink_RX12_234_SRModel_vs_I) dX12_take_11 ?_
  refine lv_aload_n hx hb dX12_take_14 rfl (lv_at hl 0 rfl) ?_
  refine rG_93 (v := ((σ.i 93) - 1)) hx hb hts i_X12_take_X12 hown hK hP (hts (.fieldLink RX12 589 "StatementRules2Model" "high" "I") k_X12_take_fieldLink_RX12_589_SRModel_high_I) dX12_take_15 rfl ?_
  obtain ⟨b1, hf⟩ := hf_ite hf
  refine rL_94 (v := (σ.a 94 ((((σ.i 93) - 1) : Int32).toNatClampNeg))) hx hb hK hP b1 dX12_take_18 rfl ?_
  obtain rfl := Option.some.inj hf
  exact W.iret (v := (σ.a 94 ((((σ.i 93) - 1) : Int32).toNatClampNeg))) hx hb hr (fun t ht hW => ⟨⟨(σ.a 94 ((((σ.i 93) - 1) : Int32).toNatClampNeg)), (), rfl, rfl, by rw [ht]; exact hP, va_K.moved hW.alike hK, hD⟩, hS.F ht⟩) hS.2.2 dX12_take_19
theorem k_X12_raise_fieldLink_RX12_592_SRModel_things_I : Cond.fieldLink RX12 592 "StatementRules2Model" "things" "I" ∈ wzX12_raise := List.mem_cons_of_mem _ (List.mem_append_left _ (List.mem_of_getElem? (i := 0) rfl))
theorem i_X12_raise_X12 : ∀ w ∈ wsX120, w ∈ wzX12_raise := fun _ h => List.mem_cons_of_mem _ (List.mem_append_right _ (List.mem_append_left _ (h)))
theorem k_X12_raise_fieldLink_RX12_595_SRModel_thing_I : Cond.fieldLink RX12 595 "StatementRules2Model" "thing" "I" ∈ wzX12_raise := List.mem_cons_of_mem _ (List.mem_append_left _ (List.mem_of_getElem? (i := 1) rfl))
theorem k_X12_raise_fieldLink_RX12_216_SRModel_thingKind_I : Cond.fieldLink RX12 216 "StatementRules2Model" "thingKind" "[I" ∈ wzX12_raise := List.mem_cons_of_mem _ (List.mem_append_left _ (List.mem_of_getElem? (i := 2) rfl))
theorem k_X12_raise_fieldLink_RX12_219_SRModel_thingNumber_I : Cond.fieldLink RX12 219 "StatementRules2Model" "thingNumber" "[I" ∈ wzX12_raise := List.mem_cons_of_mem _ (List.mem_append_left _ (List.mem_of_getElem? (i := 3) rfl))
theorem k_X12_raise_fieldLink_RX12_222_SRModel_suppressedMany_I : Cond.fieldLink RX12 222 "StatementRules2Model" "suppressedMany" "[I" ∈ wzX12_raise := List.mem_cons_of_mem _ (List.mem_append_left _ (List.mem_of_getElem? (i := 4) rfl))
theorem k_X12_raise_fieldLink_RX12_597_SRModel_how_I : Cond.fieldLink RX12 597 "StatementRules2Model" "how" "I" ∈ wzX12_raise := List.mem_cons_of_mem _ (List.mem_append_left _ (List.mem_of_getElem? (i := 5) rfl))
set_option maxHeartbeats 4000000 in
set_option maxRecDepth 100000 in
theorem j_X12_raise_24 {p : Program} {e : Env} {s : State} {m : MethodId} {args : Array Value} {below : List Frame} {meth : Method} {c : Code} {A : Nat → Prop} (l : Launch) (dC : Nat → ClassId) (dI : Nat → Nat → Nat) (Q : RQ) (N : Nat) (R : RS) (hx : p.tables.exec = Jvm.exec) (hb : c.code = cX12_raise) (hr : meth.sig.returnType = none) (hml : c.maxLocals = 3) (hown : s.vm.findClass RX12 = some m.cls) (hts : ∀ w ∈ wzX12_raise, w.before args s = true) (hlocks : meth.locks = false) (hZ : zAMB s) (hA : ∀ q : Nat, s.heap.size ≤ q → A q) (hK : va_K (dC, dI) vwCl (rT Q) s) : ∀ (σ : RS) (x1 : Int32) (x2 : Int32) (H : Heap) (locs : List Loc) (ls : Array Slot), f_X12_raise_24 N σ x1 x2 = some R → va_P (dC, dI) vwCl (rW Q σ) H → va_D A (rW Q σ) → va_S A s.heap H locs → lv_has ls 3 [(0, .ref Q.h0), (1, .int x1), (2, .int x2)] → W p l e ({ frames := 1, cells := 0, slots := 0, locals := 60 }) s m args below meth c H locs 0 0 (MQ below (va_Qv (fun (_ : Unit) => True) (fun (_ : Unit) (t : State) => zPost dC dI A (rW Q R) (rT Q) t) A) args s 0 0 A) (F0 m 24 ls []) := by
  intro σ x1 x2 H locs ls hf hP hD hS hl
  unfold f_X12_raise_24 at hf
  refine lv_aload_n hx hb dX12_raise_24 rfl (lv_at hl 0 rfl) ?_
  refine lv_aload_n hx hb dX12_raise_25 rfl (lv_at hl 0 rfl) ?_
  refine rG_114 (v := (σ.i 114)) hx hb hts i_X12_raise_X12 hown hK hP (hts (.fieldLink RX12 595 "StatementRules2Model" "thing" "I") k_X12_raise_fieldLink_RX12_595_SRModel_thing_I) dX12_raise_26 rfl ?_
  refine lv_iconst (v := 1) hx hb dX12_raise_29 (by decide) ?_
  refine lv_iadd hx hb dX12_raise_30 ?_
  refine rP_85 hx hb hts i_X12_raise_X12 hown hK hP hD hS (hts (.fieldLink RX12 592 "StatementRules2Model" "things" "I") k_X12_raise_fieldLink_RX12_592_SRModel_things_I) dX12_raise_31 (fun H locs hP hD hS => ?_)
  refine lv_aload_n hx hb dX12_raise_34 rfl (lv_at hl 0 rfl) ?_
  refine rG_86 hx hb hts i_X12_raise_X12 hown hK hP (hts (.fieldLink RX12 216 "StatementRules2Model" "thingKind" "[I") k_X12_raise_fieldLink_RX12_216_SRModel_thingKind_I) dX12_raise_35 ?_
  refine lv_aload_n hx hb dX12_raise_38 rfl (lv_at hl 0 rfl) ?_
  refine rG_114 (v := (σ.i 114)) hx hb hts i_X12_raise_X12 hown hK hP (hts (.fieldLink RX12 595 "StatementRules2Model" "thing" "I") k_X12_raise_fieldLink_RX12_595_SRModel_thing_I) dX12_raise_39 rfl ?_
  refine lv_iload_n hx hb dX12_raise_42 rfl (lv_at hl 1 rfl) ?_
  obtain ⟨b2, hf⟩ := hf_ite hf
  refine rS_86 hx hb hK hP hD hS b2 dX12_raise_43 (fun H locs hP hD hS => ?_)
  refine lv_aload_n hx hb dX12_raise_44 rfl (lv_at hl 0 rfl) ?_
  refine rG_87 hx hb hts i_X12_raise_X12 hown hK hP (hts (.fieldLink RX12 219 "StatementRules2Model" "thingNumber" "[I") k_X12_raise_fieldLink_RX12_219_SRModel_thingNumber_I) dX12_raise_45 ?_
  refine lv_aload_n hx hb dX12_raise_48 rfl (lv_at hl 0 rfl) ?_
  refine rG_114 (v := (σ.i 114)) hx hb hts i_X12_raise_X12 hown hK hP (hts (.fieldLink RX12 595 "StatementRules2Model" "thing" "I") k_X12_raise_fieldLink_RX12_595_SRModel_thing_I) dX12_raise_49 rfl ?_
  refine lv_iload_n hx hb dX12_raise_52 rfl (lv_at hl 2 rfl) ?_
  refine rS_87 hx hb hK hP hD hS b2 dX12_raise_53 (fun H locs hP hD hS => ?_)
  refine lv_aload_n hx hb dX12_raise_54 rfl (lv_at hl 0 rfl) ?_
  refine rG_88 hx hb hts i_X12_raise_X12 hown hK hP (hts (.fieldLink RX12 222 "StatementRules2Model" "suppressedMany" "[I") k_X12_raise_fieldLink_RX12_222_SRModel_suppressedMany_I) dX12_raise_55 ?_
  refine lv_aload_n hx hb dX12_raise_58 rfl (lv_at hl 0 rfl) ?_
  refine rG_114 (v := (σ.i 114)) hx hb hts i_X12_raise_X12 hown hK hP (hts (.fieldLink RX12 595 "StatementRules2Model" "thing" "I") k_X12_raise_fieldLink_RX12_595_SRModel_thing_I) dX12_raise_59 rfl ?_
  refine lv_iconst (v := 0) hx hb dX12_raise_62 (by decide) ?_
  refine rS_88 hx hb hK hP hD hS b2 dX12_raise_63 (fun H locs hP hD hS => ?_)
  refine lv_aload_n hx hb dX12_raise_64 rfl (lv_at hl 0 rfl) ?_
  refine lv_iconst (v := 3) hx hb dX12_raise_65 (by decide) ?_
  refine rP_110 hx hb hts i_X12_raise_X12 hown hK hP hD hS (hts (.fieldLink RX12 597 "StatementRules2Model" "how" "I") k_X12_raise_fieldLink_RX12_597_SRModel_how_I) dX12_raise_66 (fun H locs hP hD hS => ?_)
  obtain rfl := Option.some.inj hf
  exact W.vret hx hb hr (fun t ht hW => ⟨⟨(), rfl, trivial, by rw [ht]; exact hP, va_K.moved hW.alike hK, hD⟩, hS.F ht⟩) hS.2.2 dX12_raise_69
set_option maxHeartbeats 4000000 in
set_option maxRecDepth 100000 in
theorem c_X12_raise (l : Launch) (dC : Nat → ClassId) (dI : Nat → Nat → Nat) (sz : Nat) (Q : RQ) (N : Nat) (σ : RS) (x1 : Int32) (x2 : Int32) (R : RS) (hf : f_X12_raise N σ x1 x2 = some R) : Met l yX12_raise wzX12_raise ({ frames := 1, cells := 0, slots := 0, locals := 60 }) (va_Pc [.ref Q.h0, .int x1, .int x2] (zPre dC dI sz (rW Q σ) (rT Q))) (va_Qv (fun (_ : Unit) => True) (fun (_ : Unit) (t : State) => zPost dC dI (va_A (rW Q σ) sz) (rW Q R) (rT Q) t) (va_A (rW Q σ) sz)) 0 0 (va_A (rW Q σ) sz) := by
  refine Met.ofW (cc := cX12_raise) (maxL := 3) (ret := none) (by decide) rfl ?_
  intro p e s m args below meth c s₁ B hml hv
  obtain ⟨rfl, hsz, hZ, hP, hK, hD0⟩ := hv
  have hx := B.exec
  have hb := B.bytes
  have hr := B.returns
  have hts := atoms_spec (ws := wzX12_raise) B.pre
  have hown : s.vm.findClass RX12 = some m.cls := findClass_of_methodNamed B.named
  have hlocks := B.notSynchronized
  subst hsz
  have hD := hD0.self (sz := s.heap.size)
  generalize hAe : va_A (rW Q σ) s.heap.size = A at hD ⊢
  have hA : ∀ q : Nat, s.heap.size ≤ q → A q := fun q h => by rw [← hAe]; exact Or.inr h
  have hS : va_S A s.heap s.heap [] := va_S.rf
  have hl := lv_entry ([.ref Q.h0, .int x1, .int x2]) (n := 3) (Nat.le_of_ble_eq_true rfl)
  rw [lg_entry_eq]
  generalize (lg_sl ([.ref Q.h0, .int x1, .int x2]) ++ List.replicate (3 - (lg_sl ([.ref Q.h0, .int x1, .int x2])).length) Slot.unset).toArray = ls at hl ⊢
  have hl : lv_has ls 3 [(0, .ref Q.h0), (1, .int x1), (2, .int x2)] := hl
  unfold f_X12_raise at hf
  refine lv_aload_n hx hb dX12_raise_0 rfl (lv_at hl 0 rfl) ?_
  refine lv_aload_n hx hb dX12_raise_1 rfl (lv_at hl 0 rfl) ?_
  refine rG_85 (v := (σ.i 85)) hx hb hts i_X12_raise_X12 hown hK hP (hts (.fieldLink RX12 592 "StatementRules2Model" "things" "I") k_X12_raise_fieldLink_RX12_592_SRModel_things_I) dX12_raise_2 rfl ?_
  refine lv_sipush (v := 3200) hx hb dX12_raise_5 (by decide) ?_
  refine lv_icmp_ge (tgt := 18) hx hb dX12_raise_8 (by decide) (fun c1 => ?_) (fun c1 => ?_)
  ·
    replace hf := (if_pos c1).symm.trans hf
    refine lv_sipush (v := 3199) hx hb dX12_raise_18 (by decide) ?_
    refine rP_114 hx hb hts i_X12_raise_X12 hown hK hP hD hS (hts (.fieldLink RX12 595 "StatementRules2Model" "thing" "I") k_X12_raise_fieldLink_RX12_595_SRModel_thing_I) dX12_raise_21 (fun H locs hP hD hS => ?_)
    exact j_X12_raise_24 l dC dI Q N R hx hb hr hml hown hts hlocks hZ hA hK (RS.setI σ 114 3199) x1 x2 _ _ _ hf hP hD hS (lv_sub hl [0, 1, 2] rfl)
  ·
    replace hf := (if_neg c1).symm.trans hf
    refine lv_aload_n hx hb dX12_raise_11 rfl (lv_at hl 0 rfl) ?_
    refine rG_85 (v := (σ.i 85)) hx hb hts i_X12_raise_X12 hown hK hP (hts (.fieldLink RX12 592 "StatementRules2Model" "things" "I") k_X12_raise_fieldLink_RX12_592_SRModel_things_I) dX12_raise_12 rfl ?_
    refine lv_goto (tgt := 21) hx hb dX12_raise_15 (by decide) ?_
    refine rP_114 hx hb hts i_X12_raise_X12 hown hK hP hD hS (hts (.fieldLink RX12 595 "StatementRules2Model" "thing" "I") k_X12_raise_fieldLink_RX12_595_SRModel_thing_I) dX12_raise_21 (fun H locs hP hD hS => ?_)
    exact j_X12_raise_24 l dC dI Q N R hx hb hr hml hown hts hlocks hZ hA hK (RS.setI σ 114 (σ.i 85)) x1 x2 _ _ _ hf hP hD hS (lv_sub hl [0, 1, 2] rfl)
theorem k_X12_closeAll_fieldLink_RX12_600_SRModel_openMany_I : Cond.fieldLink RX12 600 "StatementRules2Model" "openMany" "I" ∈ wzX12_closeAll := List.mem_cons_of_mem _ (List.mem_append_left _ (List.mem_of_getElem? (i := 0) rfl))
theorem i_X12_closeAll_X12 : ∀ w ∈ wsX120, w ∈ wzX12_closeAll := fun _ h => List.mem_cons_of_mem _ (List.mem_append_right _ (List.mem_append_left _ (h)))
theorem k_X12_closeAll_fieldLink_RX12_252_SRModel_rc_I : Cond.fieldLink RX12 252 "StatementRules2Model" "rc" "[I" ∈ wzX12_closeAll := List.mem_cons_of_mem _ (List.mem_append_left _ (List.mem_of_getElem? (i := 1) rfl))
theorem k_X12_closeAll_fieldLink_RX12_237_SRModel_openOf_I : Cond.fieldLink RX12 237 "StatementRules2Model" "openOf" "[I" ∈ wzX12_closeAll := List.mem_cons_of_mem _ (List.mem_append_left _ (List.mem_of_getElem? (i := 2) rfl))
theorem k_X12_closeAll_fieldLink_RX12_27_SRModel_closing_I : Cond.fieldLink RX12 27 "StatementRules2Model" "closing" "[I" ∈ wzX12_closeAll := List.mem_cons_of_mem _ (List.mem_append_left _ (List.mem_of_getElem? (i := 3) rfl))
theorem k_X12_closeAll_fieldLink_RX12_597_SRModel_how_I : Cond.fieldLink RX12 597 "StatementRules2Model" "how" "I" ∈ wzX12_closeAll := List.mem_cons_of_mem _ (List.mem_append_left _ (List.mem_of_getElem? (i := 4) rfl))
theorem k_X12_closeAll_fieldLink_RX12_222_SRModel_suppressedMany_I : Cond.fieldLink RX12 222 "StatementRules2Model" "suppressedMany" "[I" ∈ wzX12_closeAll := List.mem_cons_of_mem _ (List.mem_append_left _ (List.mem_of_getElem? (i := 5) rfl))
theorem k_X12_closeAll_fieldLink_RX12_595_SRModel_thing_I : Cond.fieldLink RX12 595 "StatementRules2Model" "thing" "I" ∈ wzX12_closeAll := List.mem_cons_of_mem _ (List.mem_append_left _ (List.mem_of_getElem? (i := 6) rfl))
theorem k_X12_closeAll_fieldLink_RX12_225_SRModel_suppressedKind_I : Cond.fieldLink RX12 225 "StatementRules2Model" "suppressedKind" "[I" ∈ wzX12_closeAll := List.mem_cons_of_mem _ (List.mem_append_left _ (List.mem_of_getElem? (i := 7) rfl))
theorem k_X12_closeAll_fieldLink_RX12_228_SRModel_suppressedNumber_I : Cond.fieldLink RX12 228 "StatementRules2Model" "suppressedNumber" "[I" ∈ wzX12_closeAll := List.mem_cons_of_mem _ (List.mem_append_left _ (List.mem_of_getElem? (i := 8) rfl))
set_option maxHeartbeats 4000000 in
set_option maxRecDepth 100000 in
theorem j_X12_closeAll_0 {p : Program} {e : Env} {s : State} {m : MethodId} {args : Array Value} {below : List Frame} {meth : Method} {c : Code} {A : Nat → Prop} (l : Launch) (dC : Nat → ClassId) (dI : Nat → Nat → Nat) (Q : RQ) (N : Nat) (R : RS) (hx : p.tables.exec = Jvm.exec) (hb : c.code = cX12_closeAll) (hr : meth.sig.returnType = none) (hml : c.maxLocals = 5) (hown : s.vm.findClass RX12 = some m.cls) (hts : ∀ w ∈ wzX12_closeAll, w.before args s = true) (hlocks : meth.locks = false) (hZ : zAMB s) (hA : ∀ q : Nat, s.heap.size ≤ q → A q) (hK : va_K (dC, dI) vwCl (rT Q) s) : ∀ (n9 : Nat), ∀ (σ : RS) (x1 : Int32) (H : Heap) (locs : List Loc) (ls : Array Slot), f_X12_closeAll_0 N n9 σ x1 = some R → va_P (dC, dI) vwCl (rW Q σ) H → va_D A (rW Q σ) → va_S A s.heap H locs → lv_has ls 5 [(0, .ref Q.h0), (1, .int x1)] → W p l e ({ frames := 2, cells := 0, slots := 0, locals := 120 }) s m args below meth c H locs 0 0 (MQ below (va_Qv (fun (_ : Unit) => True) (fun (_ : Unit) (t : State) => zPost dC dI A (rW Q R) (rT Q) t) A) args s 0 0 A) (F0 m 0 ls []) := by
  intro n9
  induction n9 with
  | zero => intro σ x1 H locs ls hf; exact absurd hf (by intro h9; cases h9)
  | succ n9 ih =>
    intro σ x1 H locs ls hf hP hD hS hl
    replace hf : b_X12_closeAll_0 N (f_X12_closeAll_0 N n9) σ x1 = some R := hf
    unfold b_X12_closeAll_0 at hf
    refine lv_aload_n hx hb dX12_closeAll_0 rfl (lv_at hl 0 rfl) ?_
    refine rG_95 (v := (σ.i 95)) hx hb hts i_X12_closeAll_X12 hown hK hP (hts (.fieldLink RX12 600 "StatementRules2Model" "openMany" "I") k_X12_closeAll_fieldLink_RX12_600_SRModel_openMany_I) dX12_closeAll_1 rfl ?_
    refine lv_aload_n hx hb dX12_closeAll_4 rfl (lv_at hl 0 rfl) ?_
    refine rG_103 hx hb hts i_X12_closeAll_X12 hown hK hP (hts (.fieldLink RX12 252 "StatementRules2Model" "rc" "[I") k_X12_closeAll_fieldLink_RX12_252_SRModel_rc_I) dX12_closeAll_5 ?_
    refine lv_iload_n hx hb dX12_closeAll_8 rfl (lv_at hl 1 rfl) ?_
    obtain ⟨b1, hf⟩ := hf_ite hf
    refine rL_103 (v := (σ.a 103 ((x1 : Int32).toNatClampNeg))) hx hb hK hP b1 dX12_closeAll_9 rfl ?_
    refine lv_icmp_le (tgt := 138) hx hb dX12_closeAll_10 (by decide) (fun c2 => ?_) (fun c2 => ?_)
    ·
      replace hf := (if_pos c2).symm.trans hf
      obtain rfl := Option.some.inj hf
      exact W.vret hx hb hr (fun t ht hW => ⟨⟨(), rfl, trivial, by rw [ht]; exact hP, va_K.moved hW.alike hK, hD⟩, hS.F ht⟩) hS.2.2 dX12_closeAll_138
    ·
      replace hf := (if_neg c2).symm.trans hf
      refine lv_aload_n hx hb dX12_closeAll_13 rfl (lv_at hl 0 rfl) ?_
      refine lv_dup hx hb dX12_closeAll_14 rfl ?_
      refine rG_95 (v := (σ.i 95)) hx hb hts i_X12_closeAll_X12 hown hK hP (hts (.fieldLink RX12 600 "StatementRules2Model" "openMany" "I") k_X12_closeAll_fieldLink_RX12_600_SRModel_openMany_I) dX12_closeAll_15 rfl ?_
      refine lv_iconst (v := 1) hx hb dX12_closeAll_18 (by decide) ?_
      refine lv_isub hx hb dX12_closeAll_19 ?_
      refine rP_95 hx hb hts i_X12_closeAll_X12 hown hK hP hD hS (hts (.fieldLink RX12 600 "StatementRules2Model" "openMany" "I") k_X12_closeAll_fieldLink_RX12_600_SRModel_openMany_I) dX12_closeAll_20 (fun H locs hP hD hS => ?_)
      refine lv_aload_n hx hb dX12_closeAll_23 rfl (lv_at hl 0 rfl) ?_
      refine rG_96 hx hb hts i_X12_closeAll_X12 hown hK hP (hts (.fieldLink RX12 237 "StatementRules2Model" "openOf" "[I") k_X12_closeAll_fieldLink_RX12_237_SRModel_openOf_I) dX12_closeAll_24 ?_
      refine lv_aload_n hx hb dX12_closeAll_27 rfl (lv_at hl 0 rfl) ?_
      refine rG_95 (v := ((σ.i 95) - 1)) hx hb hts i_X12_closeAll_X12 hown hK hP (hts (.fieldLink RX12 600 "StatementRules2Model" "openMany" "I") k_X12_closeAll_fieldLink_RX12_600_SRModel_openMany_I) dX12_closeAll_28 rfl ?_
      obtain ⟨b3, hf⟩ := hf_ite hf
      refine rL_96 (v := (σ.a 96 ((((σ.i 95) - 1) : Int32).toNatClampNeg))) hx hb hK hP b3 dX12_closeAll_31 rfl ?_
      refine lv_istore_n (lv' := [(2, .int (σ.a 96 ((((σ.i 95) - 1) : Int32).toNatClampNeg))), (0, .ref Q.h0), (1, .int x1)]) hx hb dX12_closeAll_32 rfl hl (by decide) rfl (fun ls hl => ?_)
      refine lv_aload_n hx hb dX12_closeAll_33 rfl (lv_at hl 1 rfl) ?_
      refine lv_iconst (v := 2) hx hb dX12_closeAll_34 (by decide) ?_
      refine lv_iload_n hx hb dX12_closeAll_35 rfl (lv_at hl 0 rfl) ?_
      obtain ⟨p4, hcp4, hf⟩ := hf_bind hf
      have hFc := r_free hD hS hA
      refine va_callv (va_runV (As := [.int 2, .int (σ.a 96 ((((σ.i 95) - 1) : Int32).toNatClampNeg))]) (rest := []) ⟨hx, hb, hml, hown, hts⟩ (c_X12_row l dC dI _ Q N (RS.setI σ 95 ((σ.i 95) - 1)) 2 (σ.a 96 ((((σ.i 95) - 1) : Int32).toNatClampNeg)) p4 hcp4) (cwV 2 hts hX12_closeAll_X12_row_v603 rfl rfl rfl (by decide +kernel) ⟨Nat.le_of_ble_eq_true rfl, Nat.le_of_ble_eq_true rfl⟩) ⟨zPre.blind, va_recv hK hP (ci := 11) (q0 := 0) rfl rfl, zPre.go hZ hP hK hD⟩ rfl rfl hl.1 rfl (lv_room (Nat.le_of_ble_eq_true rfl)) dX12_closeAll_36 ⟨Nat.le_of_ble_eq_true rfl, Nat.le_of_ble_eq_true rfl⟩) hS (fun q _ h => hFc q h) hFc (fun u9 t9 H1 locs ht hvm hw hB hz1 hk1 hS => ?_)
      obtain ⟨hP, hK1, hD1⟩ := hB
      rw [ht] at hP
      have hD := hD1.weaken (fun _ _ _ h => hFc _ h)
      generalize H1 = H at hP hS ⊢
      refine lv_aload_n hx hb dX12_closeAll_39 rfl (lv_at hl 1 rfl) ?_
      refine rG_7 hx hb hts i_X12_closeAll_X12 hown hK hP (hts (.fieldLink RX12 27 "StatementRules2Model" "closing" "[I") k_X12_closeAll_fieldLink_RX12_27_SRModel_closing_I) dX12_closeAll_40 ?_
      refine lv_iload_n hx hb dX12_closeAll_43 rfl (lv_at hl 0 rfl) ?_
      obtain ⟨b6, hf⟩ := hf_ite hf
      refine rL_7 (v := (p4.a 7 (((σ.a 96 ((((σ.i 95) - 1) : Int32).toNatClampNeg)) : Int32).toNatClampNeg))) hx hb hK hP b6 dX12_closeAll_44 rfl ?_
      refine lv_iconst (v := 1) hx hb dX12_closeAll_45 (by decide) ?_
      refine lv_isub hx hb dX12_closeAll_46 ?_
      refine lv_istore_n (lv' := [(3, .int ((p4.a 7 (((σ.a 96 ((((σ.i 95) - 1) : Int32).toNatClampNeg)) : Int32).toNatClampNeg)) - 1)), (2, .int (σ.a 96 ((((σ.i 95) - 1) : Int32).toNatClampNeg))), (0, .ref Q.h0), (1, .int x1)]) hx hb dX12_closeAll_47 rfl hl (by decide) rfl (fun ls hl => ?_)
      refine lv_iload_n hx hb dX12_closeAll_48 rfl (lv_at hl 0 rfl) ?_
      refine lv_if_lt (tgt := 69) hx hb dX12_closeAll_49 (by decide) (fun c7 => ?_) (fun c7 => ?_)
      ·
        replace hf := (if_pos c7).symm.trans hf
        refine lv_iload_n hx hb dX12_closeAll_69 rfl (lv_at hl 0 rfl) ?_
        refine lv_if_lt (tgt := 135) hx hb dX12_closeAll_70 (by decide) (fun _ => ?_) (fun c9 => absurd c7 c9)
        refine lv_goto (tgt := 0) hx hb dX12_closeAll_135 (by decide) ?_
        exact ih p4 x1 _ _ _ hf hP hD hS (lv_sub hl [2, 3] rfl)
      ·
        replace hf := (if_neg c7).symm.trans hf
        refine lv_aload_n hx hb dX12_closeAll_52 rfl (lv_at hl 2 rfl) ?_
        refine rG_110 (v := (p4.i 110)) hx hb hts i_X12_closeAll_X12 hown hK hP (hts (.fieldLink RX12 597 "StatementRules2Model" "how" "I") k_X12_closeAll_fieldLink_RX12_597_SRModel_how_I) dX12_closeAll_53 rfl ?_
        refine lv_iconst (v := 3) hx hb dX12_closeAll_56 (by decide) ?_
        refine lv_icmp_eq (tgt := 69) hx hb dX12_closeAll_57 (by decide) (fun c9 => ?_) (fun c9 => ?_)
        ·
          replace hf := (if_pos c9).symm.trans hf
          refine lv_iload_n hx hb dX12_closeAll_69 rfl (lv_at hl 0 rfl) ?_
          refine lv_if_lt (tgt := 135) hx hb dX12_closeAll_70 (by decide) (fun c9 => absurd c9 c7) (fun _ => ?_)
          refine lv_aload_n hx hb dX12_closeAll_73 rfl (lv_at hl 2 rfl) ?_
          refine rG_88 hx hb hts i_X12_closeAll_X12 hown hK hP (hts (.fieldLink RX12 222 "StatementRules2Model" "suppressedMany" "[I") k_X12_closeAll_fieldLink_RX12_222_SRModel_suppressedMany_I) dX12_closeAll_74 ?_
          refine lv_aload_n hx hb dX12_closeAll_77 rfl (lv_at hl 2 rfl) ?_
          refine rG_114 (v := (p4.i 114)) hx hb hts i_X12_closeAll_X12 hown hK hP (hts (.fieldLink RX12 595 "StatementRules2Model" "thing" "I") k_X12_closeAll_fieldLink_RX12_595_SRModel_thing_I) dX12_closeAll_78 rfl ?_
          obtain ⟨b11, hf⟩ := hf_ite hf
          refine rL_88 (v := (p4.a 88 (((p4.i 114) : Int32).toNatClampNeg))) hx hb hK hP b11 dX12_closeAll_81 rfl ?_
          refine lv_bipush (v := 8) hx hb dX12_closeAll_82 (by decide) ?_
          refine lv_icmp_ge (tgt := 135) hx hb dX12_closeAll_84 (by decide) (fun c12 => ?_) (fun c12 => ?_)
          ·
            replace hf := (if_pos c12).symm.trans hf
            refine lv_goto (tgt := 0) hx hb dX12_closeAll_135 (by decide) ?_
            exact ih p4 x1 _ _ _ hf hP hD hS (lv_sub hl [2, 3] rfl)
          ·
            replace hf := (if_neg c12).symm.trans hf
            refine lv_bipush (v := 8) hx hb dX12_closeAll_87 (by decide) ?_
            refine lv_aload_n hx hb dX12_closeAll_89 rfl (lv_at hl 2 rfl) ?_
            refine rG_114 (v := (p4.i 114)) hx hb hts i_X12_closeAll_X12 hown hK hP (hts (.fieldLink RX12 595 "StatementRules2Model" "thing" "I") k_X12_closeAll_fieldLink_RX12_595_SRModel_thing_I) dX12_closeAll_90 rfl ?_
            refine lv_imul hx hb dX12_closeAll_93 ?_
            refine lv_aload_n hx hb dX12_closeAll_94 rfl (lv_at hl 2 rfl) ?_
            refine rG_88 hx hb hts i_X12_closeAll_X12 hown hK hP (hts (.fieldLink RX12 222 "StatementRules2Model" "suppressedMany" "[I") k_X12_closeAll_fieldLink_RX12_222_SRModel_suppressedMany_I) dX12_closeAll_95 ?_
            refine lv_aload_n hx hb dX12_closeAll_98 rfl (lv_at hl 2 rfl) ?_
            refine rG_114 (v := (p4.i 114)) hx hb hts i_X12_closeAll_X12 hown hK hP (hts (.fieldLink RX12 595 "StatementRules2Model" "thing" "I") k_X12_closeAll_fieldLink_RX12_595_SRModel_thing_I) dX12_closeAll_99 rfl ?_
            refine rL_88 (v := (p4.a 88 (((p4.i 114) : Int32).toNatClampNeg))) hx hb hK hP b11 dX12_closeAll_102 rfl ?_
            refine lv_iadd hx hb dX12_closeAll_103 ?_
            refine lv_istore (lv' := [(4, .int ((8 * (p4.i 114)) + (p4.a 88 (((p4.i 114) : Int32).toNatClampNeg)))), (3, .int ((p4.a 7 (((σ.a 96 ((((σ.i 95) - 1) : Int32).toNatClampNeg)) : Int32).toNatClampNeg)) - 1)), (2, .int (σ.a 96 ((((σ.i 95) - 1) : Int32).toNatClampNeg))), (0, .ref Q.h0), (1, .int x1)]) hx hb dX12_closeAll_104 hl (by decide) rfl (fun ls hl => ?_)
            refine lv_aload_n hx hb dX12_closeAll_106 rfl (lv_at hl 3 rfl) ?_
            refine rG_89 hx hb hts i_X12_closeAll_X12 hown hK hP (hts (.fieldLink RX12 225 "StatementRules2Model" "suppressedKind" "[I") k_X12_closeAll_fieldLink_RX12_225_SRModel_suppressedKind_I) dX12_closeAll_107 ?_
            refine lv_iload hx hb dX12_closeAll_110 (lv_at hl 0 rfl) ?_
            refine lv_iload_n hx hb dX12_closeAll_112 rfl (lv_at hl 1 rfl) ?_
            obtain ⟨b13, hf⟩ := hf_ite hf
            refine rS_89 hx hb hK hP hD hS b13 dX12_closeAll_113 (fun H locs hP hD hS => ?_)
            refine lv_aload_n hx hb dX12_closeAll_114 rfl (lv_at hl 3 rfl) ?_
            refine rG_90 hx hb hts i_X12_closeAll_X12 hown hK hP (hts (.fieldLink RX12 228 "StatementRules2Model" "suppressedNumber" "[I") k_X12_closeAll_fieldLink_RX12_228_SRModel_suppressedNumber_I) dX12_closeAll_115 ?_
            refine lv_iload hx hb dX12_closeAll_118 (lv_at hl 0 rfl) ?_
            refine lv_iload_n hx hb dX12_closeAll_120 rfl (lv_at hl 2 rfl) ?_
            refine rS_90 hx hb hK hP hD hS b13 dX12_closeAll_121 (fun H locs hP hD hS => ?_)
            refine lv_aload_n hx hb dX12_closeAll_122 rfl (lv_at hl 3 rfl) ?_
            refine rG_88 hx hb hts i_X12_closeAll_X12 hown hK hP (hts (.fieldLink RX12 222 "StatementRules2Model" "suppressedMany" "[I") k_X12_closeAll_fieldLink_RX12_222_SRModel_suppressedMany_I) dX12_closeAll_123 ?_
            refine lv_aload_n hx hb dX12_closeAll_126 rfl (lv_at hl 3 rfl) ?_
            refine rG_114 (v := (p4.i 114)) hx hb hts i_X12_closeAll_X12 hown hK hP (hts (.fieldLink RX12 595 "StatementRules2Model" "thing" "I") k_X12_closeAll_fieldLink_RX12_595_SRModel_thing_I) dX12_closeAll_127 rfl ?_
            refine lv_dup2_11 hx hb dX12_closeAll_130 rfl rfl ?_
            refine rL_88 (v := (p4.a 88 (((p4.i 114) : Int32).toNatClampNeg))) hx hb hK hP b11 dX12_closeAll_131 rfl ?_
            refine lv_iconst (v := 1) hx hb dX12_closeAll_132 (by decide) ?_
            refine lv_iadd hx hb dX12_closeAll_133 ?_
            refine rS_88 hx hb hK hP hD hS b11 dX12_closeAll_134 (fun H locs hP hD hS => ?_)
            refine lv_goto (tgt := 0) hx hb dX12_closeAll_135 (by decide) ?_
            exact ih (RS.setA (RS.setA (RS.setA p4 89 ((((8 * (p4.i 114)) + (p4.a 88 (((p4.i 114) : Int32).toNatClampNeg))) : Int32).toNatClampNeg) ((p4.a 7 (((σ.a 96 ((((σ.i 95) - 1) : Int32).toNatClampNeg)) : Int32).toNatClampNeg)) - 1)) 90 ((((8 * (p4.i 114)) + (p4.a 88 (((p4.i 114) : Int32).toNatClampNeg))) : Int32).toNatClampNeg) (σ.a 96 ((((σ.i 95) - 1) : Int32).toNatClampNeg))) 88 (((p4.i 114) : Int32).toNatClampNeg) ((p4.a 88 (((p4.i 114) : Int32).toNatClampNeg)) + 1)) x1 _ _ _ hf hP hD hS (lv_sub hl [3, 4] rfl)
        ·
          replace hf := (if_neg c9).symm.trans hf
          refine lv_aload_n hx hb dX12_closeAll_60 rfl (lv_at hl 2 rfl) ?_
          refine lv_iload_n hx hb dX12_closeAll_61 rfl (lv_at hl 0 rfl) ?_
          refine lv_iload_n hx hb dX12_closeAll_62 rfl (lv_at hl 1 rfl) ?_
          obtain ⟨p14, hcp14, hf⟩ := hf_bind hf
          have hFc := r_free hD hS hA
          refine va_callv (va_runV (As := [.int ((p4.a 7 (((σ.a 96 ((((σ.i 95) - 1) : Int32).toNatClampNeg)) : Int32).toNatClampNeg)) - 1), .int (σ.a 96 ((((σ.i 95) - 1) : Int32).toNatClampNeg))]) (rest := []) ⟨hx, hb, hml, hown, hts⟩ (c_X12_raise l dC dI _ Q N p4 ((p4.a 7 (((σ.a 96 ((((σ.i 95) - 1) : Int32).toNatClampNeg)) : Int32).toNatClampNeg)) - 1) (σ.a 96 ((((σ.i 95) - 1) : Int32).toNatClampNeg)) p14 hcp14) (cwV 2 hts hX12_closeAll_X12_raise_v606 rfl rfl rfl (by decide +kernel) ⟨Nat.le_of_ble_eq_true rfl, Nat.le_of_ble_eq_true rfl⟩) ⟨zPre.blind, va_recv hK hP (ci := 11) (q0 := 0) rfl rfl, zPre.go hZ hP hK hD⟩ rfl rfl hl.1 rfl (lv_room (Nat.le_of_ble_eq_true rfl)) dX12_closeAll_63 ⟨Nat.le_of_ble_eq_true rfl, Nat.le_of_ble_eq_true rfl⟩) hS (fun q _ h => hFc q h) hFc (fun u9 t9 H1 locs ht hvm hw hB hz1 hk1 hS => ?_)
          obtain ⟨hP, hK1, hD1⟩ := hB
          rw [ht] at hP
          have hD := hD1.weaken (fun _ _ _ h => hFc _ h)
          generalize H1 = H at hP hS ⊢
          refine lv_goto (tgt := 135) hx hb dX12_closeAll_66 (by decide) ?_
          refine lv_goto (tgt := 0) hx hb dX12_closeAll_135 (by decide) ?_
          exact ih p14 x1 _ _ _ hf hP hD hS (lv_sub hl [2, 3] rfl)
set_option maxHeartbeats 4000000 in
set_option maxRecDepth 100000 in
theorem c_X12_closeAll (l : Launch) (dC : Nat → ClassId) (dI : Nat → Nat → Nat) (sz : Nat) (Q : RQ) (N : Nat) (σ : RS) (x1 : Int32) (R : RS) (hf : f_X12_closeAll N σ x1 = some R) : Met l yX12_closeAll wzX12_closeAll ({ frames := 2, cells := 0, slots := 0, locals := 120 }) (va_Pc [.ref Q.h0, .int x1] (zPre dC dI sz (rW Q σ) (rT Q))) (va_Qv (fun (_ : Unit) => True) (fun (_ : Unit) (t : State) => zPost dC dI (va_A (rW Q σ) sz) (rW Q R) (rT Q) t) (va_A (rW Q σ) sz)) 0 0 (va_A (rW Q σ) sz) := by
  refine Met.ofW (cc := cX12_closeAll) (maxL := 5) (ret := none) (by decide) rfl ?_
  intro p e s m args below meth c s₁ B hml hv
  obtain ⟨rfl, hsz, hZ, hP, hK, hD0⟩ := hv
  have hx := B.exec
  have hb := B.bytes
  have hr := B.returns
  have hts := atoms_spec (ws := wzX12_closeAll) B.pre
  have hown : s.vm.findClass RX12 = some m.cls := findClass_of_methodNamed B.named
  have hlocks := B.notSynchronized
  subst hsz
  have hD := hD0.self (sz := s.heap.size)
  generalize hAe : va_A (rW Q σ) s.heap.size = A at hD ⊢
  have hA : ∀ q : Nat, s.heap.size ≤ q → A q := fun q h => by rw [← hAe]; exact Or.inr h
  have hS : va_S A s.heap s.heap [] := va_S.rf
  have hl := lv_entry ([.ref Q.h0, .int x1]) (n := 5) (Nat.le_of_ble_eq_true rfl)
  rw [lg_entry_eq]
  generalize (lg_sl ([.ref Q.h0, .int x1]) ++ List.replicate (5 - (lg_sl ([.ref Q.h0, .int x1])).length) Slot.unset).toArray = ls at hl ⊢
  have hl : lv_has ls 5 [(0, .ref Q.h0), (1, .int x1)] := hl
  unfold f_X12_closeAll at hf
  exact j_X12_closeAll_0 l dC dI Q N R hx hb hr hml hown hts hlocks hZ hA hK N σ x1 _ _ _ hf hP hD hS (lv_sub hl [0, 1] rfl)
