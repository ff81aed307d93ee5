theorem k_X12_factor_fieldLink_RX12_177_SRModel_fs_I : Cond.fieldLink RX12 177 "StatementRules2Model" "fs" "[I" ∈ wzX12_factor := List.mem_cons_of_mem _ (List.mem_append_left _ (List.mem_of_getElem? (i := 0) rfl))
theorem i_X12_factor_X12 : ∀ w ∈ wsX120, w ∈ wzX12_factor := fun _ h => List.mem_cons_of_mem _ (List.mem_append_right _ (List.mem_append_left _ (h)))
theorem k_X12_factor_fieldLink_RX12_307_SRModel_tok_I : Cond.fieldLink RX12 307 "StatementRules2Model" "tok" "I" ∈ wzX12_factor := List.mem_cons_of_mem _ (List.mem_append_left _ (List.mem_of_getElem? (i := 1) rfl))
theorem k_X12_factor_fieldLink_RX12_174_SRModel_fk_I : Cond.fieldLink RX12 174 "StatementRules2Model" "fk" "[I" ∈ wzX12_factor := List.mem_cons_of_mem _ (List.mem_append_left _ (List.mem_of_getElem? (i := 2) rfl))
theorem k_X12_factor_fieldLink_RX12_327_SRModel_name_J : Cond.fieldLink RX12 327 "StatementRules2Model" "name" "J" ∈ wzX12_factor := List.mem_cons_of_mem _ (List.mem_append_left _ (List.mem_of_getElem? (i := 3) rfl))
theorem k_X12_factor_fieldLink_RX12_132_SRModel_seenCaught_Z : Cond.fieldLink RX12 132 "StatementRules2Model" "seenCaught" "[Z" ∈ wzX12_factor := List.mem_cons_of_mem _ (List.mem_append_left _ (List.mem_of_getElem? (i := 4) rfl))
theorem k_X12_factor_fieldLink_RX12_129_SRModel_seenSlot_I : Cond.fieldLink RX12 129 "StatementRules2Model" "seenSlot" "[I" ∈ wzX12_factor := List.mem_cons_of_mem _ (List.mem_append_left _ (List.mem_of_getElem? (i := 5) rfl))
theorem k_X12_factor_fieldLink_RX12_387_SRModel_top_I : Cond.fieldLink RX12 387 "StatementRules2Model" "top" "I" ∈ wzX12_factor := List.mem_cons_of_mem _ (List.mem_append_left _ (List.mem_of_getElem? (i := 6) rfl))
theorem k_X12_factor_fieldLink_RX12_304_SRModel_from_I : Cond.fieldLink RX12 304 "StatementRules2Model" "from" "I" ∈ wzX12_factor := List.mem_cons_of_mem _ (List.mem_append_left _ (List.mem_of_getElem? (i := 7) rfl))
theorem k_X12_factor_fieldLink_RX12_314_SRModel_number_I : Cond.fieldLink RX12 314 "StatementRules2Model" "number" "I" ∈ wzX12_factor := List.mem_cons_of_mem _ (List.mem_append_left _ (List.mem_of_getElem? (i := 8) rfl))
theorem k_X12_factor_fieldLink_RX12_348_SRModel_opened_I : Cond.fieldLink RX12 348 "StatementRules2Model" "opened" "I" ∈ wzX12_factor := List.mem_cons_of_mem _ (List.mem_append_left _ (List.mem_of_getElem? (i := 9) rfl))
set_option maxHeartbeats 4000000 in
set_option maxRecDepth 100000 in
theorem j_X12_factor_215 {p : Program} {e : Env} {s : State} {m : MethodId} {args : Array Value} {below : List Frame} {meth : Method} {c : Code} {A : Nat → Prop} (l : Launch) (dC : Nat → ClassId) (dI : Nat → Nat → Nat) (Q : RQ) (N : Nat) (R : RS) (hx : p.tables.exec = Jvm.exec) (hb : c.code = cX12_factor) (hr : meth.sig.returnType = none) (hml : c.maxLocals = 3) (hown : s.vm.findClass RX12 = some m.cls) (hts : ∀ w ∈ wzX12_factor, w.before args s = true) (hlocks : meth.locks = false) (hZ : zAMB s) (hA : ∀ q : Nat, s.heap.size ≤ q → A q) (hK : va_K (dC, dI) vwCl (rT Q) s) : ∀ (σ : RS) (H : Heap) (locs : List Loc) (ls : Array Slot), f_X12_factor_215 N σ = some R → va_P (dC, dI) vwCl (rW Q σ) H → va_D A (rW Q σ) → va_S A s.heap H locs → lv_has ls 3 [(0, .ref Q.h0)] → W p l e ({ frames := 6, cells := 0, slots := 0, locals := 360 }) s m args below meth c H locs 0 0 (MQ below (va_Qv (fun (_ : Unit) => True) (fun (_ : Unit) (t : State) => zPost dC dI A (rW Q R) (rT Q) t) A) args s 0 0 A) (F0 m 215 ls []) := by
  intro σ  H locs ls hf hP hD hS hl
  unfold f_X12_factor_215 at hf
  refine lv_aload_n hx hb dX12_factor_215 rfl (lv_at hl 0 rfl) ?_
  obtain ⟨p31, hcp31, hf⟩ := hf_bind hf
  have hFc := r_free hD hS hA
  refine va_callv (va_runV (As := []) (rest := []) ⟨hx, hb, hml, hown, hts⟩ (c_X12_next l dC dI _ Q N σ p31 hcp31) (cwV 0 hts hX12_factor_X12_next_v345 rfl rfl rfl (by decide +kernel) ⟨Nat.le_of_ble_eq_true rfl, Nat.le_of_ble_eq_true rfl⟩) ⟨zPre.blind, va_recv hK hP (ci := 11) (q0 := 0) rfl rfl, zPre.go hZ hP hK hD⟩ rfl rfl hl.1 rfl (lv_room (Nat.le_of_ble_eq_true rfl)) dX12_factor_216 ⟨Nat.le_of_ble_eq_true rfl, Nat.le_of_ble_eq_true rfl⟩) hS (fun q _ h => hFc q h) hFc (fun u9 t9 H1 locs ht hvm hw hB hz1 hk1 hS => ?_)
  obtain ⟨hP, hK1, hD1⟩ := hB
  rw [ht] at hP
  have hD := hD1.weaken (fun _ _ _ h => hFc _ h)
  generalize H1 = H at hP hS ⊢
  refine lv_aload_n hx hb dX12_factor_219 rfl (lv_at hl 0 rfl) ?_
  refine lv_dup hx hb dX12_factor_220 rfl ?_
  refine rG_63 (v := (p31.i 63)) hx hb hts i_X12_factor_X12 hown hK hP (hts (.fieldLink RX12 387 "StatementRules2Model" "top" "I") k_X12_factor_fieldLink_RX12_387_SRModel_top_I) dX12_factor_221 rfl ?_
  refine lv_iconst (v := 1) hx hb dX12_factor_224 (by decide) ?_
  refine lv_isub hx hb dX12_factor_225 ?_
  refine rP_63 hx hb hts i_X12_factor_X12 hown hK hP hD hS (hts (.fieldLink RX12 387 "StatementRules2Model" "top" "I") k_X12_factor_fieldLink_RX12_387_SRModel_top_I) dX12_factor_226 (fun H locs hP hD hS => ?_)
  refine lv_goto (tgt := 296) hx hb dX12_factor_229 (by decide) ?_
  obtain rfl := Option.some.inj hf
  exact W.vret hx hb hr (fun t ht hW => ⟨⟨(), rfl, trivial, by rw [ht]; exact hP, va_K.moved hW.alike hK, hD⟩, hS.F ht⟩) hS.2.2 dX12_factor_296
set_option maxHeartbeats 4000000 in
set_option maxRecDepth 100000 in
theorem j_X12_factor_124 {p : Program} {e : Env} {s : State} {m : MethodId} {args : Array Value} {below : List Frame} {meth : Method} {c : Code} {A : Nat → Prop} (l : Launch) (dC : Nat → ClassId) (dI : Nat → Nat → Nat) (Q : RQ) (N : Nat) (R : RS) (hx : p.tables.exec = Jvm.exec) (hb : c.code = cX12_factor) (hr : meth.sig.returnType = none) (hml : c.maxLocals = 3) (hown : s.vm.findClass RX12 = some m.cls) (hts : ∀ w ∈ wzX12_factor, w.before args s = true) (hlocks : meth.locks = false) (hZ : zAMB s) (hA : ∀ q : Nat, s.heap.size ≤ q → A q) (hK : va_K (dC, dI) vwCl (rT Q) s) : ∀ (σ : RS) (x1 : Int32) (H : Heap) (locs : List Loc) (ls : Array Slot), f_X12_factor_124 N σ x1 = some R → va_P (dC, dI) vwCl (rW Q σ) H → va_D A (rW Q σ) → va_S A s.heap H locs → lv_has ls 3 [(0, .ref Q.h0), (1, .int x1)] → W p l e ({ frames := 6, cells := 0, slots := 0, locals := 360 }) s m args below meth c H locs 0 0 (MQ below (va_Qv (fun (_ : Unit) => True) (fun (_ : Unit) (t : State) => zPost dC dI A (rW Q R) (rT Q) t) A) args s 0 0 A) (F0 m 124 ls []) := by
  intro σ x1 H locs ls hf hP hD hS hl
  unfold f_X12_factor_124 at hf
  refine lv_aload_n hx hb dX12_factor_124 rfl (lv_at hl 0 rfl) ?_
  refine rG_10 (v := (σ.i 10)) hx hb hts i_X12_factor_X12 hown hK hP (hts (.fieldLink RX12 307 "StatementRules2Model" "tok" "I") k_X12_factor_fieldLink_RX12_307_SRModel_tok_I) dX12_factor_125 rfl ?_
  refine lv_iconst (v := 1) hx hb dX12_factor_128 (by decide) ?_
  refine lv_icmp_ne (tgt := 159) hx hb dX12_factor_129 (by decide) (fun c8 => ?_) (fun c8 => ?_)
  ·
    replace hf := (if_neg c8).symm.trans hf
    refine lv_aload_n hx hb dX12_factor_159 rfl (lv_at hl 0 rfl) ?_
    refine rG_10 (v := (σ.i 10)) hx hb hts i_X12_factor_X12 hown hK hP (hts (.fieldLink RX12 307 "StatementRules2Model" "tok" "I") k_X12_factor_fieldLink_RX12_307_SRModel_tok_I) dX12_factor_160 rfl ?_
    refine lv_iconst (v := 2) hx hb dX12_factor_163 (by decide) ?_
    refine lv_icmp_ne (tgt := 232) hx hb dX12_factor_164 (by decide) (fun c9 => ?_) (fun c9 => ?_)
    ·
      replace hf := (if_neg c9).symm.trans hf
      refine lv_aload_n hx hb dX12_factor_232 rfl (lv_at hl 0 rfl) ?_
      refine rG_10 (v := (σ.i 10)) hx hb hts i_X12_factor_X12 hown hK hP (hts (.fieldLink RX12 307 "StatementRules2Model" "tok" "I") k_X12_factor_fieldLink_RX12_307_SRModel_tok_I) dX12_factor_233 rfl ?_
      refine lv_bipush (v := 45) hx hb dX12_factor_236 (by decide) ?_
      refine lv_icmp_ne (tgt := 262) hx hb dX12_factor_238 (by decide) (fun c10 => ?_) (fun c10 => ?_)
      ·
        replace hf := (if_neg c10).symm.trans hf
        refine lv_aload_n hx hb dX12_factor_262 rfl (lv_at hl 0 rfl) ?_
        refine rG_10 (v := (σ.i 10)) hx hb hts i_X12_factor_X12 hown hK hP (hts (.fieldLink RX12 307 "StatementRules2Model" "tok" "I") k_X12_factor_fieldLink_RX12_307_SRModel_tok_I) dX12_factor_263 rfl ?_
        refine lv_bipush (v := 40) hx hb dX12_factor_266 (by decide) ?_
        refine lv_icmp_ne (tgt := 288) hx hb dX12_factor_268 (by decide) (fun c11 => ?_) (fun c11 => ?_)
        ·
          replace hf := (if_neg c11).symm.trans hf
          refine lv_aload_n hx hb dX12_factor_288 rfl (lv_at hl 0 rfl) ?_
          refine rG_64 hx hb hts i_X12_factor_X12 hown hK hP (hts (.fieldLink RX12 174 "StatementRules2Model" "fk" "[I") k_X12_factor_fieldLink_RX12_174_SRModel_fk_I) dX12_factor_289 ?_
          refine lv_iload_n hx hb dX12_factor_292 rfl (lv_at hl 1 rfl) ?_
          refine lv_bipush (v := 19) hx hb dX12_factor_293 (by decide) ?_
          obtain ⟨b12, hf⟩ := hf_ite hf
          refine rS_64 hx hb hK hP hD hS b12 dX12_factor_295 (fun H locs hP hD hS => ?_)
          obtain rfl := Option.some.inj hf
          exact W.vret hx hb hr (fun t ht hW => ⟨⟨(), rfl, trivial, by rw [ht]; exact hP, va_K.moved hW.alike hK, hD⟩, hS.F ht⟩) hS.2.2 dX12_factor_296
        ·
          replace hf := (if_pos c11).symm.trans hf
          refine lv_aload_n hx hb dX12_factor_271 rfl (lv_at hl 0 rfl) ?_
          refine lv_bipush (v := 40) hx hb dX12_factor_272 (by decide) ?_
          obtain ⟨p13, hcp13, hf⟩ := hf_bind hf
          have hFc := r_free hD hS hA
          refine va_calli (va_runV (As := [.int 40]) (rest := []) ⟨hx, hb, hml, hown, hts⟩ (c_X12_open l dC dI _ Q N σ 40 p13 hcp13) (cwV 1 hts hX12_factor_X12_open_v475 rfl rfl rfl (by decide +kernel) ⟨Nat.le_of_ble_eq_true rfl, Nat.le_of_ble_eq_true rfl⟩) ⟨zPre.blind, va_recv hK hP (ci := 11) (q0 := 0) rfl rfl, zPre.go hZ hP hK hD⟩ rfl rfl hl.1 rfl (lv_room (Nat.le_of_ble_eq_true rfl)) dX12_factor_274 ⟨Nat.le_of_ble_eq_true rfl, Nat.le_of_ble_eq_true rfl⟩) hS (fun q _ h => hFc q h) hFc (fun r14 u9 t9 H1 locs ht hvm hw hB hz1 hk1 hS => ?_)
          obtain ⟨hP, hK1, hD1⟩ := hB
          rw [ht] at hP
          have hD := hD1.weaken (fun _ _ _ h => hFc _ h)
          generalize H1 = H at hP hS ⊢
          obtain rfl : r14 = p13.1 := hw
          refine lv_pop hx hb dX12_factor_277 rfl ?_
          refine lv_aload_n hx hb dX12_factor_278 rfl (lv_at hl 0 rfl) ?_
          refine lv_iconst (v := 2) hx hb dX12_factor_279 (by decide) ?_
          refine lv_bipush (v := 16) hx hb dX12_factor_280 (by decide) ?_
          obtain ⟨p15, hcp15, hf⟩ := hf_bind hf
          have hFc := r_free hD hS hA
          refine va_callv (va_runV (As := [.int 2, .int 16]) (rest := []) ⟨hx, hb, hml, hown, hts⟩ (c_X12_then l dC dI _ Q N p13.2 2 16 p15 hcp15) (cwV 2 hts hX12_factor_X12_then_v393 rfl rfl rfl (by decide +kernel) ⟨Nat.le_of_ble_eq_true rfl, Nat.le_of_ble_eq_true rfl⟩) ⟨zPre.blind, va_recv hK hP (ci := 11) (q0 := 0) rfl rfl, zPre.go hZ hP hK hD⟩ rfl rfl hl.1 rfl (lv_room (Nat.le_of_ble_eq_true rfl)) dX12_factor_282 ⟨Nat.le_of_ble_eq_true rfl, Nat.le_of_ble_eq_true rfl⟩) hS (fun q _ h => hFc q h) hFc (fun u9 t9 H1 locs ht hvm hw hB hz1 hk1 hS => ?_)
          obtain ⟨hP, hK1, hD1⟩ := hB
          rw [ht] at hP
          have hD := hD1.weaken (fun _ _ _ h => hFc _ h)
          generalize H1 = H at hP hS ⊢
          refine lv_goto (tgt := 296) hx hb dX12_factor_285 (by decide) ?_
          obtain rfl := Option.some.inj hf
          exact W.vret hx hb hr (fun t ht hW => ⟨⟨(), rfl, trivial, by rw [ht]; exact hP, va_K.moved hW.alike hK, hD⟩, hS.F ht⟩) hS.2.2 dX12_factor_296
      ·
        replace hf := (if_pos c10).symm.trans hf
        refine lv_aload_n hx hb dX12_factor_241 rfl (lv_at hl 0 rfl) ?_
        obtain ⟨p17, hcp17, hf⟩ := hf_bind hf
        have hFc := r_free hD hS hA
        refine va_calli (va_runV (As := []) (rest := []) ⟨hx, hb, hml, hown, hts⟩ (c_X12_opens l dC dI _ Q N σ p17 hcp17) (cwV 0 hts hX12_factor_X12_opens_v351 rfl rfl rfl (by decide +kernel) ⟨Nat.le_of_ble_eq_true rfl, Nat.le_of_ble_eq_true rfl⟩) ⟨zPre.blind, va_recv hK hP (ci := 11) (q0 := 0) rfl rfl, zPre.go hZ hP hK hD⟩ rfl rfl hl.1 rfl (lv_room (Nat.le_of_ble_eq_true rfl)) dX12_factor_242 ⟨Nat.le_of_ble_eq_true rfl, Nat.le_of_ble_eq_true rfl⟩) hS (fun q _ h => hFc q h) hFc (fun r18 u9 t9 H1 locs ht hvm hw hB hz1 hk1 hS => ?_)
        obtain ⟨hP, hK1, hD1⟩ := hB
        rw [ht] at hP
        have hD := hD1.weaken (fun _ _ _ h => hFc _ h)
        generalize H1 = H at hP hS ⊢
        obtain rfl : r18 = p17.1 := hw
        refine lv_if_eq (tgt := 296) hx hb dX12_factor_245 (by decide) (fun c19 => ?_) (fun c19 => ?_)
        ·
          replace hf := (if_pos c19).symm.trans hf
          obtain rfl := Option.some.inj hf
          exact W.vret hx hb hr (fun t ht hW => ⟨⟨(), rfl, trivial, by rw [ht]; exact hP, va_K.moved hW.alike hK, hD⟩, hS.F ht⟩) hS.2.2 dX12_factor_296
        ·
          replace hf := (if_neg c19).symm.trans hf
          refine lv_aload_n hx hb dX12_factor_248 rfl (lv_at hl 0 rfl) ?_
          obtain ⟨p20, hcp20, hf⟩ := hf_bind hf
          have hFc := r_free hD hS hA
          refine va_callv (va_runV (As := []) (rest := []) ⟨hx, hb, hml, hown, hts⟩ (c_X12_next l dC dI _ Q N p17.2 p20 hcp20) (cwV 0 hts hX12_factor_X12_next_v345 rfl rfl rfl (by decide +kernel) ⟨Nat.le_of_ble_eq_true rfl, Nat.le_of_ble_eq_true rfl⟩) ⟨zPre.blind, va_recv hK hP (ci := 11) (q0 := 0) rfl rfl, zPre.go hZ hP hK hD⟩ rfl rfl hl.1 rfl (lv_room (Nat.le_of_ble_eq_true rfl)) dX12_factor_249 ⟨Nat.le_of_ble_eq_true rfl, Nat.le_of_ble_eq_true rfl⟩) hS (fun q _ h => hFc q h) hFc (fun u9 t9 H1 locs ht hvm hw hB hz1 hk1 hS => ?_)
          obtain ⟨hP, hK1, hD1⟩ := hB
          rw [ht] at hP
          have hD := hD1.weaken (fun _ _ _ h => hFc _ h)
          generalize H1 = H at hP hS ⊢
          refine lv_aload_n hx hb dX12_factor_252 rfl (lv_at hl 0 rfl) ?_
          refine lv_iconst (v := 1) hx hb dX12_factor_253 (by decide) ?_
          refine lv_bipush (v := 18) hx hb dX12_factor_254 (by decide) ?_
          obtain ⟨p22, hcp22, hf⟩ := hf_bind hf
          have hFc := r_free hD hS hA
          refine va_callv (va_runV (As := [.int 1, .int 18]) (rest := []) ⟨hx, hb, hml, hown, hts⟩ (c_X12_then l dC dI _ Q N p20 1 18 p22 hcp22) (cwV 2 hts hX12_factor_X12_then_v393 rfl rfl rfl (by decide +kernel) ⟨Nat.le_of_ble_eq_true rfl, Nat.le_of_ble_eq_true rfl⟩) ⟨zPre.blind, va_recv hK hP (ci := 11) (q0 := 0) rfl rfl, zPre.go hZ hP hK hD⟩ rfl rfl hl.1 rfl (lv_room (Nat.le_of_ble_eq_true rfl)) dX12_factor_256 ⟨Nat.le_of_ble_eq_true rfl, Nat.le_of_ble_eq_true rfl⟩) hS (fun q _ h => hFc q h) hFc (fun u9 t9 H1 locs ht hvm hw hB hz1 hk1 hS => ?_)
          obtain ⟨hP, hK1, hD1⟩ := hB
          rw [ht] at hP
          have hD := hD1.weaken (fun _ _ _ h => hFc _ h)
          generalize H1 = H at hP hS ⊢
          refine lv_goto (tgt := 296) hx hb dX12_factor_259 (by decide) ?_
          obtain rfl := Option.some.inj hf
          exact W.vret hx hb hr (fun t ht hW => ⟨⟨(), rfl, trivial, by rw [ht]; exact hP, va_K.moved hW.alike hK, hD⟩, hS.F ht⟩) hS.2.2 dX12_factor_296
    ·
      replace hf := (if_pos c9).symm.trans hf
      refine lv_aload_n hx hb dX12_factor_167 rfl (lv_at hl 0 rfl) ?_
      refine lv_aload_n hx hb dX12_factor_168 rfl (lv_at hl 0 rfl) ?_
      refine rG_13 (v := σ.l) hx hb hts i_X12_factor_X12 hown hK hP (hts (.fieldLink RX12 327 "StatementRules2Model" "name" "J") k_X12_factor_fieldLink_RX12_327_SRModel_name_J) dX12_factor_169 rfl ?_
      obtain ⟨p24, hcp24, hf⟩ := hf_bind hf
      have hFc := r_free hD hS hA
      refine va_calli (va_runV (As := [.long σ.l]) (rest := []) ⟨hx, hb, hml, hown, hts⟩ (c_X12_seenAs l dC dI _ Q N σ σ.l p24 hcp24) (cwV 1 hts hX12_factor_X12_seenAs_v471 rfl rfl rfl (by decide +kernel) ⟨Nat.le_of_ble_eq_true rfl, Nat.le_of_ble_eq_true rfl⟩) ⟨zPre.blind, va_recv hK hP (ci := 11) (q0 := 0) rfl rfl, zPre.go hZ hP hK hD⟩ rfl rfl hl.1 rfl (lv_room (Nat.le_of_ble_eq_true rfl)) dX12_factor_172 ⟨Nat.le_of_ble_eq_true rfl, Nat.le_of_ble_eq_true rfl⟩) hS (fun q _ h => hFc q h) hFc (fun r25 u9 t9 H1 locs ht hvm hw hB hz1 hk1 hS => ?_)
      obtain ⟨hP, hK1, hD1⟩ := hB
      rw [ht] at hP
      have hD := hD1.weaken (fun _ _ _ h => hFc _ h)
      generalize H1 = H at hP hS ⊢
      obtain rfl : r25 = p24.1 := hw
      refine lv_istore_n (lv' := [(2, .int p24.1), (0, .ref Q.h0), (1, .int x1)]) hx hb dX12_factor_175 rfl hl (by decide) rfl (fun ls hl => ?_)
      refine lv_iload_n hx hb dX12_factor_176 rfl (lv_at hl 0 rfl) ?_
      refine lv_if_ge (tgt := 190) hx hb dX12_factor_177 (by decide) (fun c26 => ?_) (fun c26 => ?_)
      ·
        replace hf := (if_pos c26).symm.trans hf
        refine lv_aload_n hx hb dX12_factor_190 rfl (lv_at hl 1 rfl) ?_
        refine lv_aload_n hx hb dX12_factor_191 rfl (lv_at hl 1 rfl) ?_
        refine rG_41 hx hb hts i_X12_factor_X12 hown hK hP (hts (.fieldLink RX12 132 "StatementRules2Model" "seenCaught" "[Z") k_X12_factor_fieldLink_RX12_132_SRModel_seenCaught_Z) dX12_factor_192 ?_
        refine lv_iload_n hx hb dX12_factor_195 rfl (lv_at hl 0 rfl) ?_
        obtain ⟨b27, hf⟩ := hf_ite hf
        refine rL_41 (v := (p24.2.a 41 ((p24.1 : Int32).toNatClampNeg))) hx hb hK hP b27 dX12_factor_196 rfl ?_
        refine lv_if_eq (tgt := 204) hx hb dX12_factor_197 (by decide) (fun c28 => ?_) (fun c28 => ?_)
        ·
          replace hf := (if_pos c28).symm.trans hf
          refine lv_iconst (v := 3) hx hb dX12_factor_204 (by decide) ?_
          refine lv_aload_n hx hb dX12_factor_205 rfl (lv_at hl 1 rfl) ?_
          refine rG_40 hx hb hts i_X12_factor_X12 hown hK hP (hts (.fieldLink RX12 129 "StatementRules2Model" "seenSlot" "[I") k_X12_factor_fieldLink_RX12_129_SRModel_seenSlot_I) dX12_factor_206 ?_
          refine lv_iload_n hx hb dX12_factor_209 rfl (lv_at hl 0 rfl) ?_
          refine rL_40 (v := (p24.2.a 40 ((p24.1 : Int32).toNatClampNeg))) hx hb hK hP b27 dX12_factor_210 rfl ?_
          obtain ⟨p29, hcp29, hf⟩ := hf_bind hf
          have hFc := r_free hD hS hA
          refine va_calli (va_runV (As := [.int 3, .int (p24.2.a 40 ((p24.1 : Int32).toNatClampNeg))]) (rest := []) ⟨hx, hb, hml, hown, hts⟩ (c_X12_emit l dC dI _ Q N p24.2 3 (p24.2.a 40 ((p24.1 : Int32).toNatClampNeg)) p29 hcp29) (cwV 2 hts hX12_factor_X12_emit_v464 rfl rfl rfl (by decide +kernel) ⟨Nat.le_of_ble_eq_true rfl, Nat.le_of_ble_eq_true rfl⟩) ⟨zPre.blind, va_recv hK hP (ci := 11) (q0 := 0) rfl rfl, zPre.go hZ hP hK hD⟩ rfl rfl hl.1 rfl (lv_room (Nat.le_of_ble_eq_true rfl)) dX12_factor_211 ⟨Nat.le_of_ble_eq_true rfl, Nat.le_of_ble_eq_true rfl⟩) hS (fun q _ h => hFc q h) hFc (fun r30 u9 t9 H1 locs ht hvm hw hB hz1 hk1 hS => ?_)
          obtain ⟨hP, hK1, hD1⟩ := hB
          rw [ht] at hP
          have hD := hD1.weaken (fun _ _ _ h => hFc _ h)
          generalize H1 = H at hP hS ⊢
          obtain rfl : r30 = p29.1 := hw
          refine lv_pop hx hb dX12_factor_214 rfl ?_
          exact j_X12_factor_215 l dC dI Q N R hx hb hr hml hown hts hlocks hZ hA hK p29.2 _ _ _ hf hP hD hS (lv_sub hl [1] rfl)
        ·
          replace hf := (if_neg c28).symm.trans hf
          refine lv_iconst (v := 4) hx hb dX12_factor_200 (by decide) ?_
          refine lv_goto (tgt := 205) hx hb dX12_factor_201 (by decide) ?_
          refine lv_aload_n hx hb dX12_factor_205 rfl (lv_at hl 1 rfl) ?_
          refine rG_40 hx hb hts i_X12_factor_X12 hown hK hP (hts (.fieldLink RX12 129 "StatementRules2Model" "seenSlot" "[I") k_X12_factor_fieldLink_RX12_129_SRModel_seenSlot_I) dX12_factor_206 ?_
          refine lv_iload_n hx hb dX12_factor_209 rfl (lv_at hl 0 rfl) ?_
          refine rL_40 (v := (p24.2.a 40 ((p24.1 : Int32).toNatClampNeg))) hx hb hK hP b27 dX12_factor_210 rfl ?_
          obtain ⟨p33, hcp33, hf⟩ := hf_bind hf
          have hFc := r_free hD hS hA
          refine va_calli (va_runV (As := [.int 4, .int (p24.2.a 40 ((p24.1 : Int32).toNatClampNeg))]) (rest := []) ⟨hx, hb, hml, hown, hts⟩ (c_X12_emit l dC dI _ Q N p24.2 4 (p24.2.a 40 ((p24.1 : Int32).toNatClampNeg)) p33 hcp33) (cwV 2 hts hX12_factor_X12_emit_v464 rfl rfl rfl (by decide +kernel) ⟨Nat.le_of_ble_eq_true rfl, Nat.le_of_ble_eq_true rfl⟩) ⟨zPre.blind, va_recv hK hP (ci := 11) (q0 := 0) rfl rfl, zPre.go hZ hP hK hD⟩ rfl rfl hl.1 rfl (lv_room (Nat.le_of_ble_eq_true rfl)) dX12_factor_211 ⟨Nat.le_of_ble_eq_true rfl, Nat.le_of_ble_eq_true rfl⟩) hS (fun q _ h => hFc q h) hFc (fun r34 u9 t9 H1 locs ht hvm hw hB hz1 hk1 hS => ?_)
          obtain ⟨hP, hK1, hD1⟩ := hB
          rw [ht] at hP
          have hD := hD1.weaken (fun _ _ _ h => hFc _ h)
          generalize H1 = H at hP hS ⊢
          obtain rfl : r34 = p33.1 := hw
          refine lv_pop hx hb dX12_factor_214 rfl ?_
          exact j_X12_factor_215 l dC dI Q N R hx hb hr hml hown hts hlocks hZ hA hK p33.2 _ _ _ hf hP hD hS (lv_sub hl [1] rfl)
      ·
        replace hf := (if_neg c26).symm.trans hf
        refine lv_aload_n hx hb dX12_factor_180 rfl (lv_at hl 1 rfl) ?_
        refine lv_iconst (v := 3) hx hb dX12_factor_181 (by decide) ?_
        refine lv_aload_n hx hb dX12_factor_182 rfl (lv_at hl 1 rfl) ?_
        refine rG_11 (v := (p24.2.i 11)) hx hb hts i_X12_factor_X12 hown hK hP (hts (.fieldLink RX12 304 "StatementRules2Model" "from" "I") k_X12_factor_fieldLink_RX12_304_SRModel_from_I) dX12_factor_183 rfl ?_
        obtain ⟨p35, hcp35, hf⟩ := hf_bind hf
        have hFc := r_free hD hS hA
        refine va_callv (va_runV (As := [.int 3, .int (p24.2.i 11)]) (rest := []) ⟨hx, hb, hml, hown, hts⟩ (c_X12_fail l dC dI _ Q N p24.2 3 (p24.2.i 11) p35 hcp35) (cwV 2 hts hX12_factor_X12_fail_v337 rfl rfl rfl (by decide +kernel) ⟨Nat.le_of_ble_eq_true rfl, Nat.le_of_ble_eq_true rfl⟩) ⟨zPre.blind, va_recv hK hP (ci := 11) (q0 := 0) rfl rfl, zPre.go hZ hP hK hD⟩ rfl rfl hl.1 rfl (lv_room (Nat.le_of_ble_eq_true rfl)) dX12_factor_186 ⟨Nat.le_of_ble_eq_true rfl, Nat.le_of_ble_eq_true rfl⟩) hS (fun q _ h => hFc q h) hFc (fun u9 t9 H1 locs ht hvm hw hB hz1 hk1 hS => ?_)
        obtain ⟨hP, hK1, hD1⟩ := hB
        rw [ht] at hP
        have hD := hD1.weaken (fun _ _ _ h => hFc _ h)
        generalize H1 = H at hP hS ⊢
        obtain rfl := Option.some.inj hf
        exact W.vret hx hb hr (fun t ht hW => ⟨⟨(), rfl, trivial, by rw [ht]; exact hP, va_K.moved hW.alike hK, hD⟩, hS.F ht⟩) hS.2.2 dX12_factor_189
  ·
    replace hf := (if_pos c8).symm.trans hf
    refine lv_aload_n hx hb dX12_factor_132 rfl (lv_at hl 0 rfl) ?_
    refine lv_iconst (v := 2) hx hb dX12_factor_133 (by decide) ?_
    refine lv_aload_n hx hb dX12_factor_134 rfl (lv_at hl 0 rfl) ?_
    refine rG_14 (v := (σ.i 14)) hx hb hts i_X12_factor_X12 hown hK hP (hts (.fieldLink RX12 314 "StatementRules2Model" "number" "I") k_X12_factor_fieldLink_RX12_314_SRModel_number_I) dX12_factor_135 rfl ?_
    obtain ⟨p37, hcp37, hf⟩ := hf_bind hf
    have hFc := r_free hD hS hA
    refine va_calli (va_runV (As := [.int 2, .int (σ.i 14)]) (rest := []) ⟨hx, hb, hml, hown, hts⟩ (c_X12_emit l dC dI _ Q N σ 2 (σ.i 14) p37 hcp37) (cwV 2 hts hX12_factor_X12_emit_v464 rfl rfl rfl (by decide +kernel) ⟨Nat.le_of_ble_eq_true rfl, Nat.le_of_ble_eq_true rfl⟩) ⟨zPre.blind, va_recv hK hP (ci := 11) (q0 := 0) rfl rfl, zPre.go hZ hP hK hD⟩ rfl rfl hl.1 rfl (lv_room (Nat.le_of_ble_eq_true rfl)) dX12_factor_138 ⟨Nat.le_of_ble_eq_true rfl, Nat.le_of_ble_eq_true rfl⟩) hS (fun q _ h => hFc q h) hFc (fun r38 u9 t9 H1 locs ht hvm hw hB hz1 hk1 hS => ?_)
    obtain ⟨hP, hK1, hD1⟩ := hB
    rw [ht] at hP
    have hD := hD1.weaken (fun _ _ _ h => hFc _ h)
    generalize H1 = H at hP hS ⊢
    obtain rfl : r38 = p37.1 := hw
    refine lv_pop hx hb dX12_factor_141 rfl ?_
    refine lv_aload_n hx hb dX12_factor_142 rfl (lv_at hl 0 rfl) ?_
    obtain ⟨p39, hcp39, hf⟩ := hf_bind hf
    have hFc := r_free hD hS hA
    refine va_callv (va_runV (As := []) (rest := []) ⟨hx, hb, hml, hown, hts⟩ (c_X12_next l dC dI _ Q N p37.2 p39 hcp39) (cwV 0 hts hX12_factor_X12_next_v345 rfl rfl rfl (by decide +kernel) ⟨Nat.le_of_ble_eq_true rfl, Nat.le_of_ble_eq_true rfl⟩) ⟨zPre.blind, va_recv hK hP (ci := 11) (q0 := 0) rfl rfl, zPre.go hZ hP hK hD⟩ rfl rfl hl.1 rfl (lv_room (Nat.le_of_ble_eq_true rfl)) dX12_factor_143 ⟨Nat.le_of_ble_eq_true rfl, Nat.le_of_ble_eq_true rfl⟩) hS (fun q _ h => hFc q h) hFc (fun u9 t9 H1 locs ht hvm hw hB hz1 hk1 hS => ?_)
    obtain ⟨hP, hK1, hD1⟩ := hB
    rw [ht] at hP
    have hD := hD1.weaken (fun _ _ _ h => hFc _ h)
    generalize H1 = H at hP hS ⊢
    refine lv_aload_n hx hb dX12_factor_146 rfl (lv_at hl 0 rfl) ?_
    refine lv_dup hx hb dX12_factor_147 rfl ?_
    refine rG_63 (v := (p39.i 63)) hx hb hts i_X12_factor_X12 hown hK hP (hts (.fieldLink RX12 387 "StatementRules2Model" "top" "I") k_X12_factor_fieldLink_RX12_387_SRModel_top_I) dX12_factor_148 rfl ?_
    refine lv_iconst (v := 1) hx hb dX12_factor_151 (by decide) ?_
    refine lv_isub hx hb dX12_factor_152 ?_
    refine rP_63 hx hb hts i_X12_factor_X12 hown hK hP hD hS (hts (.fieldLink RX12 387 "StatementRules2Model" "top" "I") k_X12_factor_fieldLink_RX12_387_SRModel_top_I) dX12_factor_153 (fun H locs hP hD hS => ?_)
    refine lv_goto (tgt := 296) hx hb dX12_factor_156 (by decide) ?_
    obtain rfl := Option.some.inj hf
    exact W.vret hx hb hr (fun t ht hW => ⟨⟨(), rfl, trivial, by rw [ht]; exact hP, va_K.moved hW.alike hK, hD⟩, hS.F ht⟩) hS.2.2 dX12_factor_296
set_option maxHeartbeats 4000000 in
set_option maxRecDepth 100000 in
theorem c_X12_factor (l : Launch) (dC : Nat → ClassId) (dI : Nat → Nat → Nat) (sz : Nat) (Q : RQ) (N : Nat) (σ : RS) (x1 : Int32) (R : RS) (hf : f_X12_factor N σ x1 = some R) : Met l yX12_factor wzX12_factor ({ frames := 6, cells := 0, slots := 0, locals := 360 }) (va_Pc [.ref Q.h0, .int x1] (zPre dC dI sz (rW Q σ) (rT Q))) (va_Qv (fun (_ : Unit) => True) (fun (_ : Unit) (t : State) => zPost dC dI (va_A (rW Q σ) sz) (rW Q R) (rT Q) t) (va_A (rW Q σ) sz)) 0 0 (va_A (rW Q σ) sz) := by
  refine Met.ofW (cc := cX12_factor) (maxL := 3) (ret := none) (by decide) rfl ?_
  intro p e s m args below meth c s₁ B hml hv
  obtain ⟨rfl, hsz, hZ, hP, hK, hD0⟩ := hv
  have hx := B.exec
  have hb := B.bytes
  have hr := B.returns
  have hts := atoms_spec (ws := wzX12_factor) B.pre
  have hown : s.vm.findClass RX12 = some m.cls := findClass_of_methodNamed B.named
  have hlocks := B.notSynchronized
  subst hsz
  have hD := hD0.self (sz := s.heap.size)
  generalize hAe : va_A (rW Q σ) s.heap.size = A at hD ⊢
  have hA : ∀ q : Nat, s.heap.size ≤ q → A q := fun q h => by rw [← hAe]; exact Or.inr h
  have hS : va_S A s.heap s.heap [] := va_S.rf
  have hl := lv_entry ([.ref Q.h0, .int x1]) (n := 3) (Nat.le_of_ble_eq_true rfl)
  rw [lg_entry_eq]
  generalize (lg_sl ([.ref Q.h0, .int x1]) ++ List.replicate (3 - (lg_sl ([.ref Q.h0, .int x1])).length) Slot.unset).toArray = ls at hl ⊢
  have hl : lv_has ls 3 [(0, .ref Q.h0), (1, .int x1)] := hl
  unfold f_X12_factor at hf
  refine lv_aload_n hx hb dX12_factor_0 rfl (lv_at hl 0 rfl) ?_
  refine rG_65 hx hb hts i_X12_factor_X12 hown hK hP (hts (.fieldLink RX12 177 "StatementRules2Model" "fs" "[I") k_X12_factor_fieldLink_RX12_177_SRModel_fs_I) dX12_factor_1 ?_
  refine lv_iload_n hx hb dX12_factor_4 rfl (lv_at hl 1 rfl) ?_
  obtain ⟨b1, hf⟩ := hf_ite hf
  refine rL_65 (v := (σ.a 65 ((x1 : Int32).toNatClampNeg))) hx hb hK hP b1 dX12_factor_5 rfl ?_
  refine lv_iconst (v := 1) hx hb dX12_factor_6 (by decide) ?_
  refine lv_icmp_ne (tgt := 39) hx hb dX12_factor_7 (by decide) (fun c2 => ?_) (fun c2 => ?_)
  ·
    replace hf := (if_neg c2).symm.trans hf
    refine lv_aload_n hx hb dX12_factor_39 rfl (lv_at hl 0 rfl) ?_
    refine rG_65 hx hb hts i_X12_factor_X12 hown hK hP (hts (.fieldLink RX12 177 "StatementRules2Model" "fs" "[I") k_X12_factor_fieldLink_RX12_177_SRModel_fs_I) dX12_factor_40 ?_
    refine lv_iload_n hx hb dX12_factor_43 rfl (lv_at hl 1 rfl) ?_
    refine rL_65 (v := (σ.a 65 ((x1 : Int32).toNatClampNeg))) hx hb hK hP b1 dX12_factor_44 rfl ?_
    refine lv_iconst (v := 2) hx hb dX12_factor_45 (by decide) ?_
    refine lv_icmp_ne (tgt := 67) hx hb dX12_factor_46 (by decide) (fun c3 => ?_) (fun c3 => ?_)
    ·
      replace hf := (if_neg c3).symm.trans hf
      refine lv_aload_n hx hb dX12_factor_67 rfl (lv_at hl 0 rfl) ?_
      refine lv_aload_n hx hb dX12_factor_68 rfl (lv_at hl 0 rfl) ?_
      refine rG_10 (v := (σ.i 10)) hx hb hts i_X12_factor_X12 hown hK hP (hts (.fieldLink RX12 307 "StatementRules2Model" "tok" "I") k_X12_factor_fieldLink_RX12_307_SRModel_tok_I) dX12_factor_69 rfl ?_
      refine lv_iconst (v := 1) hx hb dX12_factor_72 (by decide) ?_
      refine lv_icmp_eq (tgt := 112) hx hb dX12_factor_73 (by decide) (fun c4 => ?_) (fun c4 => ?_)
      ·
        replace hf := (if_pos c4).symm.trans hf
        refine lv_iconst (v := 1) hx hb dX12_factor_112 (by decide) ?_
        refine lv_goto (tgt := 117) hx hb dX12_factor_113 (by decide) ?_
        obtain ⟨p5, hcp5, hf⟩ := hf_bind hf
        have hFc := r_free hD hS hA
        refine va_calli (va_runV (As := [.int 1]) (rest := []) ⟨hx, hb, hml, hown, hts⟩ (c_X12_can l dC dI _ Q N σ 1 p5 hcp5) (cwV 1 hts hX12_factor_X12_can_v341 rfl rfl rfl (by decide +kernel) ⟨Nat.le_of_ble_eq_true rfl, Nat.le_of_ble_eq_true rfl⟩) ⟨zPre.blind, va_recv hK hP (ci := 11) (q0 := 0) rfl rfl, zPre.go hZ hP hK hD⟩ rfl rfl hl.1 rfl (lv_room (Nat.le_of_ble_eq_true rfl)) dX12_factor_117 ⟨Nat.le_of_ble_eq_true rfl, Nat.le_of_ble_eq_true rfl⟩) hS (fun q _ h => hFc q h) hFc (fun r6 u9 t9 H1 locs ht hvm hw hB hz1 hk1 hS => ?_)
        obtain ⟨hP, hK1, hD1⟩ := hB
        rw [ht] at hP
        have hD := hD1.weaken (fun _ _ _ h => hFc _ h)
        generalize H1 = H at hP hS ⊢
        obtain rfl : r6 = p5.1 := hw
        refine lv_if_ne (tgt := 124) hx hb dX12_factor_120 (by decide) (fun c7 => ?_) (fun c7 => ?_)
        ·
          replace hf := (if_neg c7).symm.trans hf
          exact j_X12_factor_124 l dC dI Q N R hx hb hr hml hown hts hlocks hZ hA hK p5.2 x1 _ _ _ hf hP hD hS (lv_sub hl [0, 1] rfl)
        ·
          replace hf := (if_pos c7).symm.trans hf
          obtain rfl := Option.some.inj hf
          exact W.vret hx hb hr (fun t ht hW => ⟨⟨(), rfl, trivial, by rw [ht]; exact hP, va_K.moved hW.alike hK, hD⟩, hS.F ht⟩) hS.2.2 dX12_factor_123
      ·
        replace hf := (if_neg c4).symm.trans hf
        refine lv_aload_n hx hb dX12_factor_76 rfl (lv_at hl 0 rfl) ?_
        refine rG_10 (v := (σ.i 10)) hx hb hts i_X12_factor_X12 hown hK hP (hts (.fieldLink RX12 307 "StatementRules2Model" "tok" "I") k_X12_factor_fieldLink_RX12_307_SRModel_tok_I) dX12_factor_77 rfl ?_
        refine lv_iconst (v := 2) hx hb dX12_factor_80 (by decide) ?_
        refine lv_icmp_eq (tgt := 112) hx hb dX12_factor_81 (by decide) (fun c41 => ?_) (fun c41 => ?_)
        ·
          replace hf := (if_pos c41).symm.trans hf
          refine lv_iconst (v := 1) hx hb dX12_factor_112 (by decide) ?_
          refine lv_goto (tgt := 117) hx hb dX12_factor_113 (by decide) ?_
          obtain ⟨p42, hcp42, hf⟩ := hf_bind hf
          have hFc := r_free hD hS hA
          refine va_calli (va_runV (As := [.int 1]) (rest := []) ⟨hx, hb, hml, hown, hts⟩ (c_X12_can l dC dI _ Q N σ 1 p42 hcp42) (cwV 1 hts hX12_factor_X12_can_v341 rfl rfl rfl (by decide +kernel) ⟨Nat.le_of_ble_eq_true rfl, Nat.le_of_ble_eq_true rfl⟩) ⟨zPre.blind, va_recv hK hP (ci := 11) (q0 := 0) rfl rfl, zPre.go hZ hP hK hD⟩ rfl rfl hl.1 rfl (lv_room (Nat.le_of_ble_eq_true rfl)) dX12_factor_117 ⟨Nat.le_of_ble_eq_true rfl, Nat.le_of_ble_eq_true rfl⟩) hS (fun q _ h => hFc q h) hFc (fun r43 u9 t9 H1 locs ht hvm hw hB hz1 hk1 hS => ?_)
          obtain ⟨hP, hK1, hD1⟩ := hB
          rw [ht] at hP
          have hD := hD1.weaken (fun _ _ _ h => hFc _ h)
          generalize H1 = H at hP hS ⊢
          obtain rfl : r43 = p42.1 := hw
          refine lv_if_ne (tgt := 124) hx hb dX12_factor_120 (by decide) (fun c44 => ?_) (fun c44 => ?_)
          ·
            replace hf := (if_neg c44).symm.trans hf
            exact j_X12_factor_124 l dC dI Q N R hx hb hr hml hown hts hlocks hZ hA hK p42.2 x1 _ _ _ hf hP hD hS (lv_sub hl [0, 1] rfl)
          ·
            replace hf := (if_pos c44).symm.trans hf
            obtain rfl := Option.some.inj hf
            exact W.vret hx hb hr (fun t ht hW => ⟨⟨(), rfl, trivial, by rw [ht]; exact hP, va_K.moved hW.alike hK, hD⟩, hS.F ht⟩) hS.2.2 dX12_factor_123
        ·
          replace hf := (if_neg c41).symm.trans hf
          refine lv_aload_n hx hb dX12_factor_84 rfl (lv_at hl 0 rfl) ?_
          refine rG_10 (v := (σ.i 10)) hx hb hts i_X12_factor_X12 hown hK hP (hts (.fieldLink RX12 307 "StatementRules2Model" "tok" "I") k_X12_factor_fieldLink_RX12_307_SRModel_tok_I) dX12_factor_85 rfl ?_
          refine lv_bipush (v := 45) hx hb dX12_factor_88 (by decide) ?_
          refine lv_icmp_eq (tgt := 112) hx hb dX12_factor_90 (by decide) (fun c45 => ?_) (fun c45 => ?_)
          ·
            replace hf := (if_pos c45).symm.trans hf
            refine lv_iconst (v := 1) hx hb dX12_factor_112 (by decide) ?_
            refine lv_goto (tgt := 117) hx hb dX12_factor_113 (by decide) ?_
            obtain ⟨p46, hcp46, hf⟩ := hf_bind hf
            have hFc := r_free hD hS hA
            refine va_calli (va_runV (As := [.int 1]) (rest := []) ⟨hx, hb, hml, hown, hts⟩ (c_X12_can l dC dI _ Q N σ 1 p46 hcp46) (cwV 1 hts hX12_factor_X12_can_v341 rfl rfl rfl (by decide +kernel) ⟨Nat.le_of_ble_eq_true rfl, Nat.le_of_ble_eq_true rfl⟩) ⟨zPre.blind, va_recv hK hP (ci := 11) (q0 := 0) rfl rfl, zPre.go hZ hP hK hD⟩ rfl rfl hl.1 rfl (lv_room (Nat.le_of_ble_eq_true rfl)) dX12_factor_117 ⟨Nat.le_of_ble_eq_true rfl, Nat.le_of_ble_eq_true rfl⟩) hS (fun q _ h => hFc q h) hFc (fun r47 u9 t9 H1 locs ht hvm hw hB hz1 hk1 hS => ?_)
            obtain ⟨hP, hK1, hD1⟩ := hB
            rw [ht] at hP
            have hD := hD1.weaken (fun _ _ _ h => hFc _ h)
            generalize H1 = H at hP hS ⊢
            obtain rfl : r47 = p46.1 := hw
            refine lv_if_ne (tgt := 124) hx hb dX12_factor_120 (by decide) (fun c48 => ?_) (fun c48 => ?_)
            ·
              replace hf := (if_neg c48).symm.trans hf
              exact j_X12_factor_124 l dC dI Q N R hx hb hr hml hown hts hlocks hZ hA hK p46.2 x1 _ _ _ hf hP hD hS (lv_sub hl [0, 1] rfl)
            ·
              replace hf := (if_pos c48).symm.trans hf
              obtain rfl := Option.some.inj hf
              exact W.vret hx hb hr (fun t ht hW => ⟨⟨(), rfl, trivial, by rw [ht]; exact hP, va_K.moved hW.alike hK, hD⟩, hS.F ht⟩) hS.2.2 dX12_factor_123
          ·
            replace hf := (if_neg c45).symm.trans hf
            refine lv_aload_n hx hb dX12_factor_93 rfl (lv_at hl 0 rfl) ?_
            refine rG_10 (v := (σ.i 10)) hx hb hts i_X12_factor_X12 hown hK hP (hts (.fieldLink RX12 307 "StatementRules2Model" "tok" "I") k_X12_factor_fieldLink_RX12_307_SRModel_tok_I) dX12_factor_94 rfl ?_
            refine lv_bipush (v := 40) hx hb dX12_factor_97 (by decide) ?_
            refine lv_icmp_eq (tgt := 112) hx hb dX12_factor_99 (by decide) (fun c49 => ?_) (fun c49 => ?_)
            ·
              replace hf := (if_pos c49).symm.trans hf
              refine lv_iconst (v := 1) hx hb dX12_factor_112 (by decide) ?_
              refine lv_goto (tgt := 117) hx hb dX12_factor_113 (by decide) ?_
              obtain ⟨p50, hcp50, hf⟩ := hf_bind hf
              have hFc := r_free hD hS hA
              refine va_calli (va_runV (As := [.int 1]) (rest := []) ⟨hx, hb, hml, hown, hts⟩ (c_X12_can l dC dI _ Q N σ 1 p50 hcp50) (cwV 1 hts hX12_factor_X12_can_v341 rfl rfl rfl (by decide +kernel) ⟨Nat.le_of_ble_eq_true rfl, Nat.le_of_ble_eq_true rfl⟩) ⟨zPre.blind, va_recv hK hP (ci := 11) (q0 := 0) rfl rfl, zPre.go hZ hP hK hD⟩ rfl rfl hl.1 rfl (lv_room (Nat.le_of_ble_eq_true rfl)) dX12_factor_117 ⟨Nat.le_of_ble_eq_true rfl, Nat.le_of_ble_eq_true rfl⟩) hS (fun q _ h => hFc q h) hFc (fun r51 u9 t9 H1 locs ht hvm hw hB hz1 hk1 hS => ?_)
              obtain ⟨hP, hK1, hD1⟩ := hB
              rw [ht] at hP
              have hD := hD1.weaken (fun _ _ _ h => hFc _ h)
              generalize H1 = H at hP hS ⊢
              obtain rfl : r51 = p50.1 := hw
              refine lv_if_ne (tgt := 124) hx hb dX12_factor_120 (by decide) (fun c52 => ?_) (fun c52 => ?_)
              ·
                replace hf := (if_neg c52).symm.trans hf
                exact j_X12_factor_124 l dC dI Q N R hx hb hr hml hown hts hlocks hZ hA hK p50.2 x1 _ _ _ hf hP hD hS (lv_sub hl [0, 1] rfl)
              ·
                replace hf := (if_pos c52).symm.trans hf
                obtain rfl := Option.some.inj hf
                exact W.vret hx hb hr (fun t ht hW => ⟨⟨(), rfl, trivial, by rw [ht]; exact hP, va_K.moved hW.alike hK, hD⟩, hS.F ht⟩) hS.2.2 dX12_factor_123
            ·
              replace hf := (if_neg c49).symm.trans hf
              refine lv_aload_n hx hb dX12_factor_102 rfl (lv_at hl 0 rfl) ?_
              refine rG_10 (v := (σ.i 10)) hx hb hts i_X12_factor_X12 hown hK hP (hts (.fieldLink RX12 307 "StatementRules2Model" "tok" "I") k_X12_factor_fieldLink_RX12_307_SRModel_tok_I) dX12_factor_103 rfl ?_
              refine lv_sipush (v := 428) hx hb dX12_factor_106 (by decide) ?_
              refine lv_icmp_ne (tgt := 116) hx hb dX12_factor_109 (by decide) (fun c53 => ?_) (fun c53 => ?_)
              ·
                replace hf := (if_neg c53).symm.trans hf
                refine lv_iconst (v := 0) hx hb dX12_factor_116 (by decide) ?_
                obtain ⟨p54, hcp54, hf⟩ := hf_bind hf
                have hFc := r_free hD hS hA
                refine va_calli (va_runV (As := [.int 0]) (rest := []) ⟨hx, hb, hml, hown, hts⟩ (c_X12_can l dC dI _ Q N σ 0 p54 hcp54) (cwV 1 hts hX12_factor_X12_can_v341 rfl rfl rfl (by decide +kernel) ⟨Nat.le_of_ble_eq_true rfl, Nat.le_of_ble_eq_true rfl⟩) ⟨zPre.blind, va_recv hK hP (ci := 11) (q0 := 0) rfl rfl, zPre.go hZ hP hK hD⟩ rfl rfl hl.1 rfl (lv_room (Nat.le_of_ble_eq_true rfl)) dX12_factor_117 ⟨Nat.le_of_ble_eq_true rfl, Nat.le_of_ble_eq_true rfl⟩) hS (fun q _ h => hFc q h) hFc (fun r55 u9 t9 H1 locs ht hvm hw hB hz1 hk1 hS => ?_)
                obtain ⟨hP, hK1, hD1⟩ := hB
                rw [ht] at hP
                have hD := hD1.weaken (fun _ _ _ h => hFc _ h)
                generalize H1 = H at hP hS ⊢
                obtain rfl : r55 = p54.1 := hw
                refine lv_if_ne (tgt := 124) hx hb dX12_factor_120 (by decide) (fun c56 => ?_) (fun c56 => ?_)
                ·
                  replace hf := (if_neg c56).symm.trans hf
                  exact j_X12_factor_124 l dC dI Q N R hx hb hr hml hown hts hlocks hZ hA hK p54.2 x1 _ _ _ hf hP hD hS (lv_sub hl [0, 1] rfl)
                ·
                  replace hf := (if_pos c56).symm.trans hf
                  obtain rfl := Option.some.inj hf
                  exact W.vret hx hb hr (fun t ht hW => ⟨⟨(), rfl, trivial, by rw [ht]; exact hP, va_K.moved hW.alike hK, hD⟩, hS.F ht⟩) hS.2.2 dX12_factor_123
              ·
                replace hf := (if_pos c53).symm.trans hf
                refine lv_iconst (v := 1) hx hb dX12_factor_112 (by decide) ?_
                refine lv_goto (tgt := 117) hx hb dX12_factor_113 (by decide) ?_
                obtain ⟨p57, hcp57, hf⟩ := hf_bind hf
                have hFc := r_free hD hS hA
                refine va_calli (va_runV (As := [.int 1]) (rest := []) ⟨hx, hb, hml, hown, hts⟩ (c_X12_can l dC dI _ Q N σ 1 p57 hcp57) (cwV 1 hts hX12_factor_X12_can_v341 rfl rfl rfl (by decide +kernel) ⟨Nat.le_of_ble_eq_true rfl, Nat.le_of_ble_eq_true rfl⟩) ⟨zPre.blind, va_recv hK hP (ci := 11) (q0 := 0) rfl rfl, zPre.go hZ hP hK hD⟩ rfl rfl hl.1 rfl (lv_room (Nat.le_of_ble_eq_true rfl)) dX12_factor_117 ⟨Nat.le_of_ble_eq_true rfl, Nat.le_of_ble_eq_true rfl⟩) hS (fun q _ h => hFc q h) hFc (fun r58 u9 t9 H1 locs ht hvm hw hB hz1 hk1 hS => ?_)
                obtain ⟨hP, hK1, hD1⟩ := hB
                rw [ht] at hP
                have hD := hD1.weaken (fun _ _ _ h => hFc _ h)
                generalize H1 = H at hP hS ⊢
                obtain rfl : r58 = p57.1 := hw
                refine lv_if_ne (tgt := 124) hx hb dX12_factor_120 (by decide) (fun c59 => ?_) (fun c59 => ?_)
                ·
                  replace hf := (if_neg c59).symm.trans hf
                  exact j_X12_factor_124 l dC dI Q N R hx hb hr hml hown hts hlocks hZ hA hK p57.2 x1 _ _ _ hf hP hD hS (lv_sub hl [0, 1] rfl)
                ·
                  replace hf := (if_pos c59).symm.trans hf
                  obtain rfl := Option.some.inj hf
                  exact W.vret hx hb hr (fun t ht hW => ⟨⟨(), rfl, trivial, by rw [ht]; exact hP, va_K.moved hW.alike hK, hD⟩, hS.F ht⟩) hS.2.2 dX12_factor_123
    ·
      replace hf := (if_pos c3).symm.trans hf
      refine lv_aload_n hx hb dX12_factor_49 rfl (lv_at hl 0 rfl) ?_
      refine lv_bipush (v := 41) hx hb dX12_factor_50 (by decide) ?_
      obtain ⟨p60, hcp60, hf⟩ := hf_bind hf
      have hFc := r_free hD hS hA
      refine va_calli (va_runV (As := [.int 41]) (rest := []) ⟨hx, hb, hml, hown, hts⟩ (c_X12_shut l dC dI _ Q N σ 41 p60 hcp60) (cwV 1 hts hX12_factor_X12_shut_v468 rfl rfl rfl (by decide +kernel) ⟨Nat.le_of_ble_eq_true rfl, Nat.le_of_ble_eq_true rfl⟩) ⟨zPre.blind, va_recv hK hP (ci := 11) (q0 := 0) rfl rfl, zPre.go hZ hP hK hD⟩ rfl rfl hl.1 rfl (lv_room (Nat.le_of_ble_eq_true rfl)) dX12_factor_52 ⟨Nat.le_of_ble_eq_true rfl, Nat.le_of_ble_eq_true rfl⟩) hS (fun q _ h => hFc q h) hFc (fun r61 u9 t9 H1 locs ht hvm hw hB hz1 hk1 hS => ?_)
      obtain ⟨hP, hK1, hD1⟩ := hB
      rw [ht] at hP
      have hD := hD1.weaken (fun _ _ _ h => hFc _ h)
      generalize H1 = H at hP hS ⊢
      obtain rfl : r61 = p60.1 := hw
      refine lv_pop hx hb dX12_factor_55 rfl ?_
      refine lv_aload_n hx hb dX12_factor_56 rfl (lv_at hl 0 rfl) ?_
      refine lv_dup hx hb dX12_factor_57 rfl ?_
      refine rG_63 (v := (p60.2.i 63)) hx hb hts i_X12_factor_X12 hown hK hP (hts (.fieldLink RX12 387 "StatementRules2Model" "top" "I") k_X12_factor_fieldLink_RX12_387_SRModel_top_I) dX12_factor_58 rfl ?_
      refine lv_iconst (v := 1) hx hb dX12_factor_61 (by decide) ?_
      refine lv_isub hx hb dX12_factor_62 ?_
      refine rP_63 hx hb hts i_X12_factor_X12 hown hK hP hD hS (hts (.fieldLink RX12 387 "StatementRules2Model" "top" "I") k_X12_factor_fieldLink_RX12_387_SRModel_top_I) dX12_factor_63 (fun H locs hP hD hS => ?_)
      obtain rfl := Option.some.inj hf
      exact W.vret hx hb hr (fun t ht hW => ⟨⟨(), rfl, trivial, by rw [ht]; exact hP, va_K.moved hW.alike hK, hD⟩, hS.F ht⟩) hS.2.2 dX12_factor_66
  ·
    replace hf := (if_pos c2).symm.trans hf
    refine lv_aload_n hx hb dX12_factor_10 rfl (lv_at hl 0 rfl) ?_
    refine lv_dup hx hb dX12_factor_11 rfl ?_
    refine rG_19 (v := (σ.i 19)) hx hb hts i_X12_factor_X12 hown hK hP (hts (.fieldLink RX12 348 "StatementRules2Model" "opened" "I") k_X12_factor_fieldLink_RX12_348_SRModel_opened_I) dX12_factor_12 rfl ?_
    refine lv_iconst (v := 1) hx hb dX12_factor_15 (by decide) ?_
    refine lv_isub hx hb dX12_factor_16 ?_
    refine rP_19 hx hb hts i_X12_factor_X12 hown hK hP hD hS (hts (.fieldLink RX12 348 "StatementRules2Model" "opened" "I") k_X12_factor_fieldLink_RX12_348_SRModel_opened_I) dX12_factor_17 (fun H locs hP hD hS => ?_)
    refine lv_aload_n hx hb dX12_factor_20 rfl (lv_at hl 0 rfl) ?_
    refine lv_bipush (v := 7) hx hb dX12_factor_21 (by decide) ?_
    refine lv_iconst (v := 0) hx hb dX12_factor_23 (by decide) ?_
    obtain ⟨p62, hcp62, hf⟩ := hf_bind hf
    have hFc := r_free hD hS hA
    refine va_calli (va_runV (As := [.int 7, .int 0]) (rest := []) ⟨hx, hb, hml, hown, hts⟩ (c_X12_emit l dC dI _ Q N (RS.setI σ 19 ((σ.i 19) - 1)) 7 0 p62 hcp62) (cwV 2 hts hX12_factor_X12_emit_v464 rfl rfl rfl (by decide +kernel) ⟨Nat.le_of_ble_eq_true rfl, Nat.le_of_ble_eq_true rfl⟩) ⟨zPre.blind, va_recv hK hP (ci := 11) (q0 := 0) rfl rfl, zPre.go hZ hP hK hD⟩ rfl rfl hl.1 rfl (lv_room (Nat.le_of_ble_eq_true rfl)) dX12_factor_24 ⟨Nat.le_of_ble_eq_true rfl, Nat.le_of_ble_eq_true rfl⟩) hS (fun q _ h => hFc q h) hFc (fun r63 u9 t9 H1 locs ht hvm hw hB hz1 hk1 hS => ?_)
    obtain ⟨hP, hK1, hD1⟩ := hB
    rw [ht] at hP
    have hD := hD1.weaken (fun _ _ _ h => hFc _ h)
    generalize H1 = H at hP hS ⊢
    obtain rfl : r63 = p62.1 := hw
    refine lv_pop hx hb dX12_factor_27 rfl ?_
    refine lv_aload_n hx hb dX12_factor_28 rfl (lv_at hl 0 rfl) ?_
    refine lv_dup hx hb dX12_factor_29 rfl ?_
    refine rG_63 (v := (p62.2.i 63)) hx hb hts i_X12_factor_X12 hown hK hP (hts (.fieldLink RX12 387 "StatementRules2Model" "top" "I") k_X12_factor_fieldLink_RX12_387_SRModel_top_I) dX12_factor_30 rfl ?_
    refine lv_iconst (v := 1) hx hb dX12_factor_33 (by decide) ?_
    refine lv_isub hx hb dX12_factor_34 ?_
    refine rP_63 hx hb hts i_X12_factor_X12 hown hK hP hD hS (hts (.fieldLink RX12 387 "StatementRules2Model" "top" "I") k_X12_factor_fieldLink_RX12_387_SRModel_top_I) dX12_factor_35 (fun H locs hP hD hS => ?_)
    obtain rfl := Option.some.inj hf
    exact W.vret hx hb hr (fun t ht hW => ⟨⟨(), rfl, trivial, by rw [ht]; exact hP, va_K.moved hW.alike hK, hD⟩, hS.F ht⟩) hS.2.2 dX12_factor_38
theorem k_X12_arms_fieldLink_RX12_177_SRModel_fs_I : Cond.fieldLink RX12 177 "StatementRules2Model" "fs" "[I" ∈ wzX12_arms := List.mem_cons_of_mem _ (List.mem_append_left _ (List.mem_of_getElem? (i := 0) rfl))
theorem i_X12_arms_X12 : ∀ w ∈ wsX120, w ∈ wzX12_arms := fun _ h => List.mem_cons_of_mem _ (List.mem_append_right _ (List.mem_append_left _ (h)))
theorem k_X12_arms_fieldLink_RX12_180_SRModel_fp_I : Cond.fieldLink RX12 180 "StatementRules2Model" "fp" "[I" ∈ wzX12_arms := List.mem_cons_of_mem _ (List.mem_append_left _ (List.mem_of_getElem? (i := 1) rfl))
theorem k_X12_arms_fieldLink_RX12_183_SRModel_fq_I : Cond.fieldLink RX12 183 "StatementRules2Model" "fq" "[I" ∈ wzX12_arms := List.mem_cons_of_mem _ (List.mem_append_left _ (List.mem_of_getElem? (i := 2) rfl))
theorem k_X12_arms_fieldLink_RX12_186_SRModel_fr_I : Cond.fieldLink RX12 186 "StatementRules2Model" "fr" "[I" ∈ wzX12_arms := List.mem_cons_of_mem _ (List.mem_append_left _ (List.mem_of_getElem? (i := 3) rfl))
theorem k_X12_arms_fieldLink_RX12_370_SRModel_depth_I : Cond.fieldLink RX12 370 "StatementRules2Model" "depth" "I" ∈ wzX12_arms := List.mem_cons_of_mem _ (List.mem_append_left _ (List.mem_of_getElem? (i := 4) rfl))
theorem k_X12_arms_fieldLink_RX12_307_SRModel_tok_I : Cond.fieldLink RX12 307 "StatementRules2Model" "tok" "I" ∈ wzX12_arms := List.mem_cons_of_mem _ (List.mem_append_left _ (List.mem_of_getElem? (i := 5) rfl))
theorem k_X12_arms_fieldLink_RX12_367_SRModel_goals_I : Cond.fieldLink RX12 367 "StatementRules2Model" "goals" "I" ∈ wzX12_arms := List.mem_cons_of_mem _ (List.mem_append_left _ (List.mem_of_getElem? (i := 6) rfl))
theorem k_X12_arms_fieldLink_RX12_90_SRModel_iy_I : Cond.fieldLink RX12 90 "StatementRules2Model" "iy" "[I" ∈ wzX12_arms := List.mem_cons_of_mem _ (List.mem_append_left _ (List.mem_of_getElem? (i := 7) rfl))
theorem k_X12_arms_fieldLink_RX12_358_SRModel_codes_I : Cond.fieldLink RX12 358 "StatementRules2Model" "codes" "I" ∈ wzX12_arms := List.mem_cons_of_mem _ (List.mem_append_left _ (List.mem_of_getElem? (i := 8) rfl))
theorem k_X12_arms_fieldLink_RX12_387_SRModel_top_I : Cond.fieldLink RX12 387 "StatementRules2Model" "top" "I" ∈ wzX12_arms := List.mem_cons_of_mem _ (List.mem_append_left _ (List.mem_of_getElem? (i := 9) rfl))
theorem k_X12_arms_fieldLink_RX12_304_SRModel_from_I : Cond.fieldLink RX12 304 "StatementRules2Model" "from" "I" ∈ wzX12_arms := List.mem_cons_of_mem _ (List.mem_append_left _ (List.mem_of_getElem? (i := 10) rfl))
theorem k_X12_arms_fieldLink_RX12_291_SRModel_fault_I : Cond.fieldLink RX12 291 "StatementRules2Model" "fault" "I" ∈ wzX12_arms := List.mem_cons_of_mem _ (List.mem_append_left _ (List.mem_of_getElem? (i := 11) rfl))
theorem k_X12_arms_fieldLink_RX12_195_SRModel_fx_I : Cond.fieldLink RX12 195 "StatementRules2Model" "fx" "[I" ∈ wzX12_arms := List.mem_cons_of_mem _ (List.mem_append_left _ (List.mem_of_getElem? (i := 12) rfl))
theorem k_X12_arms_fieldLink_RX12_361_SRModel_seen_I : Cond.fieldLink RX12 361 "StatementRules2Model" "seen" "I" ∈ wzX12_arms := List.mem_cons_of_mem _ (List.mem_append_left _ (List.mem_of_getElem? (i := 13) rfl))
theorem k_X12_arms_fieldLink_RX12_396_SRModel_res_Z : Cond.fieldLink RX12 396 "StatementRules2Model" "res" "Z" ∈ wzX12_arms := List.mem_cons_of_mem _ (List.mem_append_left _ (List.mem_of_getElem? (i := 14) rfl))
set_option maxHeartbeats 4000000 in
set_option maxRecDepth 100000 in
theorem j_X12_arms_250 {p : Program} {e : Env} {s : State} {m : MethodId} {args : Array Value} {below : List Frame} {meth : Method} {c : Code} {A : Nat → Prop} (l : Launch) (dC : Nat → ClassId) (dI : Nat → Nat → Nat) (Q : RQ) (N : Nat) (R : RS) (hx : p.tables.exec = Jvm.exec) (hb : c.code = cX12_arms) (hr : meth.sig.returnType = none) (hml : c.maxLocals = 2) (hown : s.vm.findClass RX12 = some m.cls) (hts : ∀ w ∈ wzX12_arms, w.before args s = true) (hlocks : meth.locks = false) (hZ : zAMB s) (hA : ∀ q : Nat, s.heap.size ≤ q → A q) (hK : va_K (dC, dI) vwCl (rT Q) s) : ∀ (σ : RS) (x1 : Int32) (H : Heap) (locs : List Loc) (ls : Array Slot), f_X12_arms_250 N σ x1 = some R → va_P (dC, dI) vwCl (rW Q σ) H → va_D A (rW Q σ) → va_S A s.heap H locs → lv_has ls 2 [(0, .ref Q.h0), (1, .int x1)] → W p l e ({ frames := 6, cells := 0, slots := 0, locals := 360 }) s m args below meth c H locs 0 0 (MQ below (va_Qv (fun (_ : Unit) => True) (fun (_ : Unit) (t : State) => zPost dC dI A (rW Q R) (rT Q) t) A) args s 0 0 A) (F0 m 250 ls []) := by
  intro σ x1 H locs ls hf hP hD hS hl
  unfold f_X12_arms_250 at hf
  refine lv_aload_n hx hb dX12_arms_250 rfl (lv_at hl 0 rfl) ?_
  refine lv_bipush (v := 125) hx hb dX12_arms_251 (by decide) ?_
  obtain ⟨p25, hcp25, hf⟩ := hf_bind hf
  have hFc := r_free hD hS hA
  refine va_calli (va_runV (As := [.int 125]) (rest := []) ⟨hx, hb, hml, hown, hts⟩ (c_X12_shut l dC dI _ Q N σ 125 p25 hcp25) (cwV 1 hts hX12_arms_X12_shut_v468 rfl rfl rfl (by decide +kernel) ⟨Nat.le_of_ble_eq_true rfl, Nat.le_of_ble_eq_true rfl⟩) ⟨zPre.blind, va_recv hK hP (ci := 11) (q0 := 0) rfl rfl, zPre.go hZ hP hK hD⟩ rfl rfl hl.1 rfl (lv_room (Nat.le_of_ble_eq_true rfl)) dX12_arms_253 ⟨Nat.le_of_ble_eq_true rfl, Nat.le_of_ble_eq_true rfl⟩) hS (fun q _ h => hFc q h) hFc (fun r26 u9 t9 H1 locs ht hvm hw hB hz1 hk1 hS => ?_)
  obtain ⟨hP, hK1, hD1⟩ := hB
  rw [ht] at hP
  have hD := hD1.weaken (fun _ _ _ h => hFc _ h)
  generalize H1 = H at hP hS ⊢
  obtain rfl : r26 = p25.1 := hw
  refine lv_pop hx hb dX12_arms_256 rfl ?_
  refine lv_aload_n hx hb dX12_arms_257 rfl (lv_at hl 0 rfl) ?_
  refine lv_dup hx hb dX12_arms_258 rfl ?_
  refine rG_43 (v := (p25.2.i 43)) hx hb hts i_X12_arms_X12 hown hK hP (hts (.fieldLink RX12 367 "StatementRules2Model" "goals" "I") k_X12_arms_fieldLink_RX12_367_SRModel_goals_I) dX12_arms_259 rfl ?_
  refine lv_iconst (v := 1) hx hb dX12_arms_262 (by decide) ?_
  refine lv_isub hx hb dX12_arms_263 ?_
  refine rP_43 hx hb hts i_X12_arms_X12 hown hK hP hD hS (hts (.fieldLink RX12 367 "StatementRules2Model" "goals" "I") k_X12_arms_fieldLink_RX12_367_SRModel_goals_I) dX12_arms_264 (fun H locs hP hD hS => ?_)
  refine lv_aload_n hx hb dX12_arms_267 rfl (lv_at hl 0 rfl) ?_
  refine lv_dup hx hb dX12_arms_268 rfl ?_
  refine rG_52 (v := (p25.2.i 52)) hx hb hts i_X12_arms_X12 hown hK hP (hts (.fieldLink RX12 370 "StatementRules2Model" "depth" "I") k_X12_arms_fieldLink_RX12_370_SRModel_depth_I) dX12_arms_269 rfl ?_
  refine lv_iconst (v := 1) hx hb dX12_arms_272 (by decide) ?_
  refine lv_isub hx hb dX12_arms_273 ?_
  refine rP_52 hx hb hts i_X12_arms_X12 hown hK hP hD hS (hts (.fieldLink RX12 370 "StatementRules2Model" "depth" "I") k_X12_arms_fieldLink_RX12_370_SRModel_depth_I) dX12_arms_274 (fun H locs hP hD hS => ?_)
  refine lv_aload_n hx hb dX12_arms_277 rfl (lv_at hl 0 rfl) ?_
  refine rG_23 hx hb hts i_X12_arms_X12 hown hK hP (hts (.fieldLink RX12 90 "StatementRules2Model" "iy" "[I") k_X12_arms_fieldLink_RX12_90_SRModel_iy_I) dX12_arms_278 ?_
  refine lv_aload_n hx hb dX12_arms_281 rfl (lv_at hl 0 rfl) ?_
  refine rG_66 hx hb hts i_X12_arms_X12 hown hK hP (hts (.fieldLink RX12 180 "StatementRules2Model" "fp" "[I") k_X12_arms_fieldLink_RX12_180_SRModel_fp_I) dX12_arms_282 ?_
  refine lv_iload_n hx hb dX12_arms_285 rfl (lv_at hl 1 rfl) ?_
  obtain ⟨b27, hf⟩ := hf_ite hf
  refine rL_66 (v := (p25.2.a 66 ((x1 : Int32).toNatClampNeg))) hx hb hK hP b27 dX12_arms_286 rfl ?_
  refine lv_aload_n hx hb dX12_arms_287 rfl (lv_at hl 0 rfl) ?_
  refine rG_20 (v := (p25.2.i 20)) hx hb hts i_X12_arms_X12 hown hK hP (hts (.fieldLink RX12 358 "StatementRules2Model" "codes" "I") k_X12_arms_fieldLink_RX12_358_SRModel_codes_I) dX12_arms_288 rfl ?_
  obtain ⟨b28, hf⟩ := hf_ite hf
  refine rS_23 hx hb hK hP hD hS b28 dX12_arms_291 (fun H locs hP hD hS => ?_)
  refine lv_aload_n hx hb dX12_arms_292 rfl (lv_at hl 0 rfl) ?_
  refine lv_dup hx hb dX12_arms_293 rfl ?_
  refine rG_63 (v := (p25.2.i 63)) hx hb hts i_X12_arms_X12 hown hK hP (hts (.fieldLink RX12 387 "StatementRules2Model" "top" "I") k_X12_arms_fieldLink_RX12_387_SRModel_top_I) dX12_arms_294 rfl ?_
  refine lv_iconst (v := 1) hx hb dX12_arms_297 (by decide) ?_
  refine lv_isub hx hb dX12_arms_298 ?_
  refine rP_63 hx hb hts i_X12_arms_X12 hown hK hP hD hS (hts (.fieldLink RX12 387 "StatementRules2Model" "top" "I") k_X12_arms_fieldLink_RX12_387_SRModel_top_I) dX12_arms_299 (fun H locs hP hD hS => ?_)
  refine lv_goto (tgt := 484) hx hb dX12_arms_302 (by decide) ?_
  obtain rfl := Option.some.inj hf
  exact W.vret hx hb hr (fun t ht hW => ⟨⟨(), rfl, trivial, by rw [ht]; exact hP, va_K.moved hW.alike hK, hD⟩, hS.F ht⟩) hS.2.2 dX12_arms_484
set_option maxHeartbeats 4000000 in
set_option maxRecDepth 100000 in
theorem j_X12_arms_333 {p : Program} {e : Env} {s : State} {m : MethodId} {args : Array Value} {below : List Frame} {meth : Method} {c : Code} {A : Nat → Prop} (l : Launch) (dC : Nat → ClassId) (dI : Nat → Nat → Nat) (Q : RQ) (N : Nat) (R : RS) (hx : p.tables.exec = Jvm.exec) (hb : c.code = cX12_arms) (hr : meth.sig.returnType = none) (hml : c.maxLocals = 2) (hown : s.vm.findClass RX12 = some m.cls) (hts : ∀ w ∈ wzX12_arms, w.before args s = true) (hlocks : meth.locks = false) (hZ : zAMB s) (hA : ∀ q : Nat, s.heap.size ≤ q → A q) (hK : va_K (dC, dI) vwCl (rT Q) s) : ∀ (σ : RS) (H : Heap) (locs : List Loc) (ls : Array Slot), f_X12_arms_333 N σ = some R → va_P (dC, dI) vwCl (rW Q σ) H → va_D A (rW Q σ) → va_S A s.heap H locs → lv_has ls 2 [(0, .ref Q.h0)] → W p l e ({ frames := 6, cells := 0, slots := 0, locals := 360 }) s m args below meth c H locs 0 0 (MQ below (va_Qv (fun (_ : Unit) => True) (fun (_ : Unit) (t : State) => zPost dC dI A (rW Q R) (rT Q) t) A) args s 0 0 A) (F0 m 333 ls []) := by
  intro σ  H locs ls hf hP hD hS hl
  unfold f_X12_arms_333 at hf
  refine lv_aload_n hx hb dX12_arms_333 rfl (lv_at hl 0 rfl) ?_
  refine rG_10 (v := (σ.i 10)) hx hb hts i_X12_arms_X12 hown hK hP (hts (.fieldLink RX12 307 "StatementRules2Model" "tok" "I") k_X12_arms_fieldLink_RX12_307_SRModel_tok_I) dX12_arms_334 rfl ?_
  refine lv_bipush (v := 44) hx hb dX12_arms_337 (by decide) ?_
  refine lv_icmp_ne (tgt := 484) hx hb dX12_arms_339 (by decide) (fun c50 => ?_) (fun c50 => ?_)
  ·
    replace hf := (if_neg c50).symm.trans hf
    obtain rfl := Option.some.inj hf
    exact W.vret hx hb hr (fun t ht hW => ⟨⟨(), rfl, trivial, by rw [ht]; exact hP, va_K.moved hW.alike hK, hD⟩, hS.F ht⟩) hS.2.2 dX12_arms_484
  ·
    replace hf := (if_pos c50).symm.trans hf
    refine lv_aload_n hx hb dX12_arms_342 rfl (lv_at hl 0 rfl) ?_
    obtain ⟨p51, hcp51, hf⟩ := hf_bind hf
    have hFc := r_free hD hS hA
    refine va_callv (va_runV (As := []) (rest := []) ⟨hx, hb, hml, hown, hts⟩ (c_X12_next l dC dI _ Q N σ p51 hcp51) (cwV 0 hts hX12_arms_X12_next_v345 rfl rfl rfl (by decide +kernel) ⟨Nat.le_of_ble_eq_true rfl, Nat.le_of_ble_eq_true rfl⟩) ⟨zPre.blind, va_recv hK hP (ci := 11) (q0 := 0) rfl rfl, zPre.go hZ hP hK hD⟩ rfl rfl hl.1 rfl (lv_room (Nat.le_of_ble_eq_true rfl)) dX12_arms_343 ⟨Nat.le_of_ble_eq_true rfl, Nat.le_of_ble_eq_true rfl⟩) hS (fun q _ h => hFc q h) hFc (fun u9 t9 H1 locs ht hvm hw hB hz1 hk1 hS => ?_)
    obtain ⟨hP, hK1, hD1⟩ := hB
    rw [ht] at hP
    have hD := hD1.weaken (fun _ _ _ h => hFc _ h)
    generalize H1 = H at hP hS ⊢
    refine lv_goto (tgt := 484) hx hb dX12_arms_346 (by decide) ?_
    obtain rfl := Option.some.inj hf
    exact W.vret hx hb hr (fun t ht hW => ⟨⟨(), rfl, trivial, by rw [ht]; exact hP, va_K.moved hW.alike hK, hD⟩, hS.F ht⟩) hS.2.2 dX12_arms_484
set_option maxHeartbeats 4000000 in
set_option maxRecDepth 100000 in
theorem j_X12_arms_400 {p : Program} {e : Env} {s : State} {m : MethodId} {args : Array Value} {below : List Frame} {meth : Method} {c : Code} {A : Nat → Prop} (l : Launch) (dC : Nat → ClassId) (dI : Nat → Nat → Nat) (Q : RQ) (N : Nat) (R : RS) (hx : p.tables.exec = Jvm.exec) (hb : c.code = cX12_arms) (hr : meth.sig.returnType = none) (hml : c.maxLocals = 2) (hown : s.vm.findClass RX12 = some m.cls) (hts : ∀ w ∈ wzX12_arms, w.before args s = true) (hlocks : meth.locks = false) (hZ : zAMB s) (hA : ∀ q : Nat, s.heap.size ≤ q → A q) (hK : va_K (dC, dI) vwCl (rT Q) s) : ∀ (σ : RS) (H : Heap) (locs : List Loc) (ls : Array Slot), f_X12_arms_400 N σ = some R → va_P (dC, dI) vwCl (rW Q σ) H → va_D A (rW Q σ) → va_S A s.heap H locs → lv_has ls 2 [(0, .ref Q.h0)] → W p l e ({ frames := 6, cells := 0, slots := 0, locals := 360 }) s m args below meth c H locs 0 0 (MQ below (va_Qv (fun (_ : Unit) => True) (fun (_ : Unit) (t : State) => zPost dC dI A (rW Q R) (rT Q) t) A) args s 0 0 A) (F0 m 400 ls []) := by
  intro σ  H locs ls hf hP hD hS hl
  unfold f_X12_arms_400 at hf
  refine lv_aload_n hx hb dX12_arms_400 rfl (lv_at hl 0 rfl) ?_
  refine lv_bipush (v := 7) hx hb dX12_arms_401 (by decide) ?_
  refine lv_bipush (v := 16) hx hb dX12_arms_403 (by decide) ?_
  obtain ⟨p62, hcp62, hf⟩ := hf_bind hf
  have hFc := r_free hD hS hA
  refine va_callv (va_runV (As := [.int 7, .int 16]) (rest := []) ⟨hx, hb, hml, hown, hts⟩ (c_X12_then l dC dI _ Q N σ 7 16 p62 hcp62) (cwV 2 hts hX12_arms_X12_then_v393 rfl rfl rfl (by decide +kernel) ⟨Nat.le_of_ble_eq_true rfl, Nat.le_of_ble_eq_true rfl⟩) ⟨zPre.blind, va_recv hK hP (ci := 11) (q0 := 0) rfl rfl, zPre.go hZ hP hK hD⟩ rfl rfl hl.1 rfl (lv_room (Nat.le_of_ble_eq_true rfl)) dX12_arms_405 ⟨Nat.le_of_ble_eq_true rfl, Nat.le_of_ble_eq_true rfl⟩) hS (fun q _ h => hFc q h) hFc (fun u9 t9 H1 locs ht hvm hw hB hz1 hk1 hS => ?_)
  obtain ⟨hP, hK1, hD1⟩ := hB
  rw [ht] at hP
  have hD := hD1.weaken (fun _ _ _ h => hFc _ h)
  generalize H1 = H at hP hS ⊢
  refine lv_goto (tgt := 484) hx hb dX12_arms_408 (by decide) ?_
  obtain rfl := Option.some.inj hf
  exact W.vret hx hb hr (fun t ht hW => ⟨⟨(), rfl, trivial, by rw [ht]; exact hP, va_K.moved hW.alike hK, hD⟩, hS.F ht⟩) hS.2.2 dX12_arms_484
set_option maxHeartbeats 4000000 in
set_option maxRecDepth 100000 in
theorem j_X12_arms_435 {p : Program} {e : Env} {s : State} {m : MethodId} {args : Array Value} {below : List Frame} {meth : Method} {c : Code} {A : Nat → Prop} (l : Launch) (dC : Nat → ClassId) (dI : Nat → Nat → Nat) (Q : RQ) (N : Nat) (R : RS) (hx : p.tables.exec = Jvm.exec) (hb : c.code = cX12_arms) (hr : meth.sig.returnType = none) (hml : c.maxLocals = 2) (hown : s.vm.findClass RX12 = some m.cls) (hts : ∀ w ∈ wzX12_arms, w.before args s = true) (hlocks : meth.locks = false) (hZ : zAMB s) (hA : ∀ q : Nat, s.heap.size ≤ q → A q) (hK : va_K (dC, dI) vwCl (rT Q) s) : ∀ (σ : RS) (x1 : Int32) (H : Heap) (locs : List Loc) (ls : Array Slot), f_X12_arms_435 N σ x1 = some R → va_P (dC, dI) vwCl (rW Q σ) H → va_D A (rW Q σ) → va_S A s.heap H locs → lv_has ls 2 [(0, .ref Q.h0), (1, .int x1)] → W p l e ({ frames := 6, cells := 0, slots := 0, locals := 360 }) s m args below meth c H locs 0 0 (MQ below (va_Qv (fun (_ : Unit) => True) (fun (_ : Unit) (t : State) => zPost dC dI A (rW Q R) (rT Q) t) A) args s 0 0 A) (F0 m 435 ls []) := by
  intro σ x1 H locs ls hf hP hD hS hl
  unfold f_X12_arms_435 at hf
  refine lv_aload_n hx hb dX12_arms_435 rfl (lv_at hl 0 rfl) ?_
  refine lv_bipush (v := 125) hx hb dX12_arms_436 (by decide) ?_
  obtain ⟨p71, hcp71, hf⟩ := hf_bind hf
  have hFc := r_free hD hS hA
  refine va_calli (va_runV (As := [.int 125]) (rest := []) ⟨hx, hb, hml, hown, hts⟩ (c_X12_shut l dC dI _ Q N σ 125 p71 hcp71) (cwV 1 hts hX12_arms_X12_shut_v468 rfl rfl rfl (by decide +kernel) ⟨Nat.le_of_ble_eq_true rfl, Nat.le_of_ble_eq_true rfl⟩) ⟨zPre.blind, va_recv hK hP (ci := 11) (q0 := 0) rfl rfl, zPre.go hZ hP hK hD⟩ rfl rfl hl.1 rfl (lv_room (Nat.le_of_ble_eq_true rfl)) dX12_arms_438 ⟨Nat.le_of_ble_eq_true rfl, Nat.le_of_ble_eq_true rfl⟩) hS (fun q _ h => hFc q h) hFc (fun r72 u9 t9 H1 locs ht hvm hw hB hz1 hk1 hS => ?_)
  obtain ⟨hP, hK1, hD1⟩ := hB
  rw [ht] at hP
  have hD := hD1.weaken (fun _ _ _ h => hFc _ h)
  generalize H1 = H at hP hS ⊢
  obtain rfl : r72 = p71.1 := hw
  refine lv_pop hx hb dX12_arms_441 rfl ?_
  refine lv_aload_n hx hb dX12_arms_442 rfl (lv_at hl 0 rfl) ?_
  refine lv_aload_n hx hb dX12_arms_443 rfl (lv_at hl 0 rfl) ?_
  refine rG_71 hx hb hts i_X12_arms_X12 hown hK hP (hts (.fieldLink RX12 195 "StatementRules2Model" "fx" "[I") k_X12_arms_fieldLink_RX12_195_SRModel_fx_I) dX12_arms_444 ?_
  refine lv_iload_n hx hb dX12_arms_447 rfl (lv_at hl 1 rfl) ?_
  obtain ⟨b73, hf⟩ := hf_ite hf
  refine rL_71 (v := (p71.2.a 71 ((x1 : Int32).toNatClampNeg))) hx hb hK hP b73 dX12_arms_448 rfl ?_
  refine rP_38 hx hb hts i_X12_arms_X12 hown hK hP hD hS (hts (.fieldLink RX12 361 "StatementRules2Model" "seen" "I") k_X12_arms_fieldLink_RX12_361_SRModel_seen_I) dX12_arms_449 (fun H locs hP hD hS => ?_)
  refine lv_aload_n hx hb dX12_arms_452 rfl (lv_at hl 0 rfl) ?_
  refine rG_65 hx hb hts i_X12_arms_X12 hown hK hP (hts (.fieldLink RX12 177 "StatementRules2Model" "fs" "[I") k_X12_arms_fieldLink_RX12_177_SRModel_fs_I) dX12_arms_453 ?_
  refine lv_iload_n hx hb dX12_arms_456 rfl (lv_at hl 1 rfl) ?_
  refine lv_iconst (v := 2) hx hb dX12_arms_457 (by decide) ?_
  refine rS_65 hx hb hK hP hD hS b73 dX12_arms_458 (fun H locs hP hD hS => ?_)
  refine lv_goto (tgt := 484) hx hb dX12_arms_459 (by decide) ?_
  obtain rfl := Option.some.inj hf
  exact W.vret hx hb hr (fun t ht hW => ⟨⟨(), rfl, trivial, by rw [ht]; exact hP, va_K.moved hW.alike hK, hD⟩, hS.F ht⟩) hS.2.2 dX12_arms_484
set_option maxHeartbeats 4000000 in
set_option maxRecDepth 100000 in
theorem c_X12_arms (l : Launch) (dC : Nat → ClassId) (dI : Nat → Nat → Nat) (sz : Nat) (Q : RQ) (N : Nat) (σ : RS) (x1 : Int32) (R : RS) (hf : f_X12_arms N σ x1 = some R) : Met l yX12_arms wzX12_arms ({ frames := 6, cells := 0, slots := 0, locals := 360 }) (va_Pc [.ref Q.h0, .int x1] (zPre dC dI sz (rW Q σ) (rT Q))) (va_Qv (fun (_ : Unit) => True) (fun (_ : Unit) (t : State) => zPost dC dI (va_A (rW Q σ) sz) (rW Q R) (rT Q) t) (va_A (rW Q σ) sz)) 0 0 (va_A (rW Q σ) sz) := by
  refine Met.ofW (cc := cX12_arms) (maxL := 2) (ret := none) (by decide) rfl ?_
  intro p e s m args below meth c s₁ B hml hv
  obtain ⟨rfl, hsz, hZ, hP, hK, hD0⟩ := hv
  have hx := B.exec
  have hb := B.bytes
  have hr := B.returns
  have hts := atoms_spec (ws := wzX12_arms) B.pre
  have hown : s.vm.findClass RX12 = some m.cls := findClass_of_methodNamed B.named
  have hlocks := B.notSynchronized
  subst hsz
  have hD := hD0.self (sz := s.heap.size)
  generalize hAe : va_A (rW Q σ) s.heap.size = A at hD ⊢
  have hA : ∀ q : Nat, s.heap.size ≤ q → A q := fun q h => by rw [← hAe]; exact Or.inr h
  have hS : va_S A s.heap s.heap [] := va_S.rf
  have hl := lv_entry ([.ref Q.h0, .int x1]) (n := 2) (Nat.le_of_ble_eq_true rfl)
  rw [lg_entry_eq]
  generalize (lg_sl ([.ref Q.h0, .int x1]) ++ List.replicate (2 - (lg_sl ([.ref Q.h0, .int x1])).length) Slot.unset).toArray = ls at hl ⊢
  have hl : lv_has ls 2 [(0, .ref Q.h0), (1, .int x1)] := hl
  unfold f_X12_arms at hf
  refine lv_aload_n hx hb dX12_arms_0 rfl (lv_at hl 0 rfl) ?_
  refine rG_65 hx hb hts i_X12_arms_X12 hown hK hP (hts (.fieldLink RX12 177 "StatementRules2Model" "fs" "[I") k_X12_arms_fieldLink_RX12_177_SRModel_fs_I) dX12_arms_1 ?_
  refine lv_iload_n hx hb dX12_arms_4 rfl (lv_at hl 1 rfl) ?_
  obtain ⟨b1, hf⟩ := hf_ite hf
  refine rL_65 (v := (σ.a 65 ((x1 : Int32).toNatClampNeg))) hx hb hK hP b1 dX12_arms_5 rfl ?_
  by_cases c2 : (σ.a 65 ((x1 : Int32).toNatClampNeg)) = 0
  ·
    replace hf := (if_pos c2).symm.trans hf
    refine lv_tableIn (off := 42) (tgt := 48) hx hb dX12_arms_6 (by rw [c2]; decide) (by rw [c2]; decide) (by rw [c2]; decide) (by decide) ?_
    refine lv_aload_n hx hb dX12_arms_48 rfl (lv_at hl 0 rfl) ?_
    obtain ⟨p3, hcp3, hf⟩ := hf_bind hf
    have hFc := r_free hD hS hA
    refine va_callv (va_runV (As := []) (rest := []) ⟨hx, hb, hml, hown, hts⟩ (c_X12_next l dC dI _ Q N σ p3 hcp3) (cwV 0 hts hX12_arms_X12_next_v345 rfl rfl rfl (by decide +kernel) ⟨Nat.le_of_ble_eq_true rfl, Nat.le_of_ble_eq_true rfl⟩) ⟨zPre.blind, va_recv hK hP (ci := 11) (q0 := 0) rfl rfl, zPre.go hZ hP hK hD⟩ rfl rfl hl.1 rfl (lv_room (Nat.le_of_ble_eq_true rfl)) dX12_arms_49 ⟨Nat.le_of_ble_eq_true rfl, Nat.le_of_ble_eq_true rfl⟩) hS (fun q _ h => hFc q h) hFc (fun u9 t9 H1 locs ht hvm hw hB hz1 hk1 hS => ?_)
    obtain ⟨hP, hK1, hD1⟩ := hB
    rw [ht] at hP
    have hD := hD1.weaken (fun _ _ _ h => hFc _ h)
    generalize H1 = H at hP hS ⊢
    refine lv_aload_n hx hb dX12_arms_52 rfl (lv_at hl 0 rfl) ?_
    refine lv_bipush (v := 40) hx hb dX12_arms_53 (by decide) ?_
    obtain ⟨p5, hcp5, hf⟩ := hf_bind hf
    have hFc := r_free hD hS hA
    refine va_calli (va_runV (As := [.int 40]) (rest := []) ⟨hx, hb, hml, hown, hts⟩ (c_X12_open l dC dI _ Q N p3 40 p5 hcp5) (cwV 1 hts hX12_arms_X12_open_v475 rfl rfl rfl (by decide +kernel) ⟨Nat.le_of_ble_eq_true rfl, Nat.le_of_ble_eq_true rfl⟩) ⟨zPre.blind, va_recv hK hP (ci := 11) (q0 := 0) rfl rfl, zPre.go hZ hP hK hD⟩ rfl rfl hl.1 rfl (lv_room (Nat.le_of_ble_eq_true rfl)) dX12_arms_55 ⟨Nat.le_of_ble_eq_true rfl, Nat.le_of_ble_eq_true rfl⟩) hS (fun q _ h => hFc q h) hFc (fun r6 u9 t9 H1 locs ht hvm hw hB hz1 hk1 hS => ?_)
    obtain ⟨hP, hK1, hD1⟩ := hB
    rw [ht] at hP
    have hD := hD1.weaken (fun _ _ _ h => hFc _ h)
    generalize H1 = H at hP hS ⊢
    obtain rfl : r6 = p5.1 := hw
    refine lv_pop hx hb dX12_arms_58 rfl ?_
    refine lv_aload_n hx hb dX12_arms_59 rfl (lv_at hl 0 rfl) ?_
    refine lv_iconst (v := 1) hx hb dX12_arms_60 (by decide) ?_
    refine lv_bipush (v := 16) hx hb dX12_arms_61 (by decide) ?_
    obtain ⟨p7, hcp7, hf⟩ := hf_bind hf
    have hFc := r_free hD hS hA
    refine va_callv (va_runV (As := [.int 1, .int 16]) (rest := []) ⟨hx, hb, hml, hown, hts⟩ (c_X12_then l dC dI _ Q N p5.2 1 16 p7 hcp7) (cwV 2 hts hX12_arms_X12_then_v393 rfl rfl rfl (by decide +kernel) ⟨Nat.le_of_ble_eq_true rfl, Nat.le_of_ble_eq_true rfl⟩) ⟨zPre.blind, va_recv hK hP (ci := 11) (q0 := 0) rfl rfl, zPre.go hZ hP hK hD⟩ rfl rfl hl.1 rfl (lv_room (Nat.le_of_ble_eq_true rfl)) dX12_arms_63 ⟨Nat.le_of_ble_eq_true rfl, Nat.le_of_ble_eq_true rfl⟩) hS (fun q _ h => hFc q h) hFc (fun u9 t9 H1 locs ht hvm hw hB hz1 hk1 hS => ?_)
    obtain ⟨hP, hK1, hD1⟩ := hB
    rw [ht] at hP
    have hD := hD1.weaken (fun _ _ _ h => hFc _ h)
    generalize H1 = H at hP hS ⊢
    refine lv_goto (tgt := 484) hx hb dX12_arms_66 (by decide) ?_
    obtain rfl := Option.some.inj hf
    exact W.vret hx hb hr (fun t ht hW => ⟨⟨(), rfl, trivial, by rw [ht]; exact hP, va_K.moved hW.alike hK, hD⟩, hS.F ht⟩) hS.2.2 dX12_arms_484
  replace hf := (if_neg c2).symm.trans hf
  by_cases c9 : (σ.a 65 ((x1 : Int32).toNatClampNeg)) = 1
  ·
    replace hf := (if_pos c9).symm.trans hf
    refine lv_tableIn (off := 63) (tgt := 69) hx hb dX12_arms_6 (by rw [c9]; decide) (by rw [c9]; decide) (by rw [c9]; decide) (by decide) ?_
    refine lv_aload_n hx hb dX12_arms_69 rfl (lv_at hl 0 rfl) ?_
    refine lv_bipush (v := 41) hx hb dX12_arms_70 (by decide) ?_
    obtain ⟨p10, hcp10, hf⟩ := hf_bind hf
    have hFc := r_free hD hS hA
    refine va_calli (va_runV (As := [.int 41]) (rest := []) ⟨hx, hb, hml, hown, hts⟩ (c_X12_shut l dC dI _ Q N σ 41 p10 hcp10) (cwV 1 hts hX12_arms_X12_shut_v468 rfl rfl rfl (by decide +kernel) ⟨Nat.le_of_ble_eq_true rfl, Nat.le_of_ble_eq_true rfl⟩) ⟨zPre.blind, va_recv hK hP (ci := 11) (q0 := 0) rfl rfl, zPre.go hZ hP hK hD⟩ rfl rfl hl.1 rfl (lv_room (Nat.le_of_ble_eq_true rfl)) dX12_arms_72 ⟨Nat.le_of_ble_eq_true rfl, Nat.le_of_ble_eq_true rfl⟩) hS (fun q _ h => hFc q h) hFc (fun r11 u9 t9 H1 locs ht hvm hw hB hz1 hk1 hS => ?_)
    obtain ⟨hP, hK1, hD1⟩ := hB
    rw [ht] at hP
    have hD := hD1.weaken (fun _ _ _ h => hFc _ h)
    generalize H1 = H at hP hS ⊢
    obtain rfl : r11 = p10.1 := hw
    refine lv_pop hx hb dX12_arms_75 rfl ?_
    refine lv_aload_n hx hb dX12_arms_76 rfl (lv_at hl 0 rfl) ?_
    refine rG_66 hx hb hts i_X12_arms_X12 hown hK hP (hts (.fieldLink RX12 180 "StatementRules2Model" "fp" "[I") k_X12_arms_fieldLink_RX12_180_SRModel_fp_I) dX12_arms_77 ?_
    refine lv_iload_n hx hb dX12_arms_80 rfl (lv_at hl 1 rfl) ?_
    refine lv_aload_n hx hb dX12_arms_81 rfl (lv_at hl 0 rfl) ?_
    refine lv_bipush (v := 29) hx hb dX12_arms_82 (by decide) ?_
    refine lv_iconst (v := (-1)) hx hb dX12_arms_84 (by decide) ?_
    obtain ⟨p12, hcp12, hf⟩ := hf_bind hf
    have hFc := r_free hD hS hA
    refine va_calli (va_runV (As := [.int 29, .int (-1)]) (rest := [.int x1, .ref (Q.q 66)]) ⟨hx, hb, hml, hown, hts⟩ (c_X12_emit l dC dI _ Q N p10.2 29 (-1) p12 hcp12) (cwV 2 hts hX12_arms_X12_emit_v464 rfl rfl rfl (by decide +kernel) ⟨Nat.le_of_ble_eq_true rfl, Nat.le_of_ble_eq_true rfl⟩) ⟨zPre.blind, va_recv hK hP (ci := 11) (q0 := 0) rfl rfl, zPre.go hZ hP hK hD⟩ rfl rfl hl.1 rfl (lv_room (Nat.le_of_ble_eq_true rfl)) dX12_arms_85 ⟨Nat.le_of_ble_eq_true rfl, Nat.le_of_ble_eq_true rfl⟩) hS (fun q _ h => hFc q h) hFc (fun r13 u9 t9 H1 locs ht hvm hw hB hz1 hk1 hS => ?_)
    obtain ⟨hP, hK1, hD1⟩ := hB
    rw [ht] at hP
    have hD := hD1.weaken (fun _ _ _ h => hFc _ h)
    generalize H1 = H at hP hS ⊢
    obtain rfl : r13 = p12.1 := hw
    refine rS_66 hx hb hK hP hD hS b1 dX12_arms_88 (fun H locs hP hD hS => ?_)
    refine lv_aload_n hx hb dX12_arms_89 rfl (lv_at hl 0 rfl) ?_
    refine rG_67 hx hb hts i_X12_arms_X12 hown hK hP (hts (.fieldLink RX12 183 "StatementRules2Model" "fq" "[I") k_X12_arms_fieldLink_RX12_183_SRModel_fq_I) dX12_arms_90 ?_
    refine lv_iload_n hx hb dX12_arms_93 rfl (lv_at hl 1 rfl) ?_
    refine lv_iconst (v := (-1)) hx hb dX12_arms_94 (by decide) ?_
    refine rS_67 hx hb hK hP hD hS b1 dX12_arms_95 (fun H locs hP hD hS => ?_)
    refine lv_aload_n hx hb dX12_arms_96 rfl (lv_at hl 0 rfl) ?_
    refine rG_68 hx hb hts i_X12_arms_X12 hown hK hP (hts (.fieldLink RX12 186 "StatementRules2Model" "fr" "[I") k_X12_arms_fieldLink_RX12_186_SRModel_fr_I) dX12_arms_97 ?_
    refine lv_iload_n hx hb dX12_arms_100 rfl (lv_at hl 1 rfl) ?_
    refine lv_iconst (v := 0) hx hb dX12_arms_101 (by decide) ?_
    refine rS_68 hx hb hK hP hD hS b1 dX12_arms_102 (fun H locs hP hD hS => ?_)
    refine lv_aload_n hx hb dX12_arms_103 rfl (lv_at hl 0 rfl) ?_
    refine lv_dup hx hb dX12_arms_104 rfl ?_
    refine rG_52 (v := (p12.2.i 52)) hx hb hts i_X12_arms_X12 hown hK hP (hts (.fieldLink RX12 370 "StatementRules2Model" "depth" "I") k_X12_arms_fieldLink_RX12_370_SRModel_depth_I) dX12_arms_105 rfl ?_
    refine lv_iconst (v := 1) hx hb dX12_arms_108 (by decide) ?_
    refine lv_iadd hx hb dX12_arms_109 ?_
    refine rP_52 hx hb hts i_X12_arms_X12 hown hK hP hD hS (hts (.fieldLink RX12 370 "StatementRules2Model" "depth" "I") k_X12_arms_fieldLink_RX12_370_SRModel_depth_I) dX12_arms_110 (fun H locs hP hD hS => ?_)
    refine lv_aload_n hx hb dX12_arms_113 rfl (lv_at hl 0 rfl) ?_
    refine lv_iconst (v := 3) hx hb dX12_arms_114 (by decide) ?_
    refine lv_lconst (v := 0) hx hb dX12_arms_115 (by decide) ?_
    obtain ⟨p14, hcp14, hf⟩ := hf_bind hf
    have hFc := r_free hD hS hA
    refine va_calli (va_runV (As := [.int 3, .long 0]) (rest := []) ⟨hx, hb, hml, hown, hts⟩ (c_X12_goal l dC dI _ Q N (RS.setI (RS.setA (RS.setA (RS.setA p12.2 66 ((x1 : Int32).toNatClampNeg) p12.1) 67 ((x1 : Int32).toNatClampNeg) (-1)) 68 ((x1 : Int32).toNatClampNeg) 0) 52 ((p12.2.i 52) + 1)) 3 0 p14 hcp14) (cwV 2 hts hX12_arms_X12_goal_v373 rfl rfl rfl (by decide +kernel) ⟨Nat.le_of_ble_eq_true rfl, Nat.le_of_ble_eq_true rfl⟩) ⟨zPre.blind, va_recv hK hP (ci := 11) (q0 := 0) rfl rfl, zPre.go hZ hP hK hD⟩ rfl rfl hl.1 rfl (lv_room (Nat.le_of_ble_eq_true rfl)) dX12_arms_116 ⟨Nat.le_of_ble_eq_true rfl, Nat.le_of_ble_eq_true rfl⟩) hS (fun q _ h => hFc q h) hFc (fun r15 u9 t9 H1 locs ht hvm hw hB hz1 hk1 hS => ?_)
    obtain ⟨hP, hK1, hD1⟩ := hB
    rw [ht] at hP
    have hD := hD1.weaken (fun _ _ _ h => hFc _ h)
    generalize H1 = H at hP hS ⊢
    obtain rfl : r15 = p14.1 := hw
    refine lv_pop hx hb dX12_arms_119 rfl ?_
    refine lv_aload_n hx hb dX12_arms_120 rfl (lv_at hl 0 rfl) ?_
    refine lv_bipush (v := 123) hx hb dX12_arms_121 (by decide) ?_
    obtain ⟨p16, hcp16, hf⟩ := hf_bind hf
    have hFc := r_free hD hS hA
    refine va_calli (va_runV (As := [.int 123]) (rest := []) ⟨hx, hb, hml, hown, hts⟩ (c_X12_open l dC dI _ Q N p14.2 123 p16 hcp16) (cwV 1 hts hX12_arms_X12_open_v475 rfl rfl rfl (by decide +kernel) ⟨Nat.le_of_ble_eq_true rfl, Nat.le_of_ble_eq_true rfl⟩) ⟨zPre.blind, va_recv hK hP (ci := 11) (q0 := 0) rfl rfl, zPre.go hZ hP hK hD⟩ rfl rfl hl.1 rfl (lv_room (Nat.le_of_ble_eq_true rfl)) dX12_arms_123 ⟨Nat.le_of_ble_eq_true rfl, Nat.le_of_ble_eq_true rfl⟩) hS (fun q _ h => hFc q h) hFc (fun r17 u9 t9 H1 locs ht hvm hw hB hz1 hk1 hS => ?_)
    obtain ⟨hP, hK1, hD1⟩ := hB
    rw [ht] at hP
    have hD := hD1.weaken (fun _ _ _ h => hFc _ h)
    generalize H1 = H at hP hS ⊢
    obtain rfl : r17 = p16.1 := hw
    refine lv_pop hx hb dX12_arms_126 rfl ?_
    refine lv_aload_n hx hb dX12_arms_127 rfl (lv_at hl 0 rfl) ?_
    refine rG_65 hx hb hts i_X12_arms_X12 hown hK hP (hts (.fieldLink RX12 177 "StatementRules2Model" "fs" "[I") k_X12_arms_fieldLink_RX12_177_SRModel_fs_I) dX12_arms_128 ?_
    refine lv_iload_n hx hb dX12_arms_131 rfl (lv_at hl 1 rfl) ?_
    refine lv_iconst (v := 2) hx hb dX12_arms_132 (by decide) ?_
    refine rS_65 hx hb hK hP hD hS b1 dX12_arms_133 (fun H locs hP hD hS => ?_)
    refine lv_goto (tgt := 484) hx hb dX12_arms_134 (by decide) ?_
    obtain rfl := Option.some.inj hf
    exact W.vret hx hb hr (fun t ht hW => ⟨⟨(), rfl, trivial, by rw [ht]; exact hP, va_K.moved hW.alike hK, hD⟩, hS.F ht⟩) hS.2.2 dX12_arms_484
  replace hf := (if_neg c9).symm.trans hf
  by_cases c18 : (σ.a 65 ((x1 : Int32).toNatClampNeg)) = 2
  ·
    replace hf := (if_pos c18).symm.trans hf
    refine lv_tableIn (off := 131) (tgt := 137) hx hb dX12_arms_6 (by rw [c18]; decide) (by rw [c18]; decide) (by rw [c18]; decide) (by decide) ?_
    refine lv_aload_n hx hb dX12_arms_137 rfl (lv_at hl 0 rfl) ?_
    refine rG_10 (v := (σ.i 10)) hx hb hts i_X12_arms_X12 hown hK hP (hts (.fieldLink RX12 307 "StatementRules2Model" "tok" "I") k_X12_arms_fieldLink_RX12_307_SRModel_tok_I) dX12_arms_138 rfl ?_
    refine lv_sipush (v := 429) hx hb dX12_arms_141 (by decide) ?_
    refine lv_icmp_ne (tgt := 161) hx hb dX12_arms_144 (by decide) (fun c19 => ?_) (fun c19 => ?_)
    ·
      replace hf := (if_neg c19).symm.trans hf
      refine lv_aload_n hx hb dX12_arms_161 rfl (lv_at hl 0 rfl) ?_
      refine rG_10 (v := (σ.i 10)) hx hb hts i_X12_arms_X12 hown hK hP (hts (.fieldLink RX12 307 "StatementRules2Model" "tok" "I") k_X12_arms_fieldLink_RX12_307_SRModel_tok_I) dX12_arms_162 rfl ?_
      refine lv_sipush (v := 430) hx hb dX12_arms_165 (by decide) ?_
      refine lv_icmp_ne (tgt := 219) hx hb dX12_arms_168 (by decide) (fun c20 => ?_) (fun c20 => ?_)
      ·
        replace hf := (if_neg c20).symm.trans hf
        refine lv_aload_n hx hb dX12_arms_219 rfl (lv_at hl 0 rfl) ?_
        refine lv_aload_n hx hb dX12_arms_220 rfl (lv_at hl 0 rfl) ?_
        refine rG_10 (v := (σ.i 10)) hx hb hts i_X12_arms_X12 hown hK hP (hts (.fieldLink RX12 307 "StatementRules2Model" "tok" "I") k_X12_arms_fieldLink_RX12_307_SRModel_tok_I) dX12_arms_221 rfl ?_
        refine lv_bipush (v := 125) hx hb dX12_arms_224 (by decide) ?_
        refine lv_icmp_ne (tgt := 243) hx hb dX12_arms_226 (by decide) (fun c21 => ?_) (fun c21 => ?_)
        ·
          replace hf := (if_neg c21).symm.trans hf
          refine lv_iconst (v := 0) hx hb dX12_arms_243 (by decide) ?_
          obtain ⟨p22, hcp22, hf⟩ := hf_bind hf
          have hFc := r_free hD hS hA
          refine va_calli (va_runV (As := [.int 0]) (rest := []) ⟨hx, hb, hml, hown, hts⟩ (c_X12_can l dC dI _ Q N σ 0 p22 hcp22) (cwV 1 hts hX12_arms_X12_can_v341 rfl rfl rfl (by decide +kernel) ⟨Nat.le_of_ble_eq_true rfl, Nat.le_of_ble_eq_true rfl⟩) ⟨zPre.blind, va_recv hK hP (ci := 11) (q0 := 0) rfl rfl, zPre.go hZ hP hK hD⟩ rfl rfl hl.1 rfl (lv_room (Nat.le_of_ble_eq_true rfl)) dX12_arms_244 ⟨Nat.le_of_ble_eq_true rfl, Nat.le_of_ble_eq_true rfl⟩) hS (fun q _ h => hFc q h) hFc (fun r23 u9 t9 H1 locs ht hvm hw hB hz1 hk1 hS => ?_)
          obtain ⟨hP, hK1, hD1⟩ := hB
          rw [ht] at hP
          have hD := hD1.weaken (fun _ _ _ h => hFc _ h)
          generalize H1 = H at hP hS ⊢
          obtain rfl : r23 = p22.1 := hw
          refine lv_if_eq (tgt := 484) hx hb dX12_arms_247 (by decide) (fun c24 => ?_) (fun c24 => ?_)
          ·
            replace hf := (if_pos c24).symm.trans hf
            obtain rfl := Option.some.inj hf
            exact W.vret hx hb hr (fun t ht hW => ⟨⟨(), rfl, trivial, by rw [ht]; exact hP, va_K.moved hW.alike hK, hD⟩, hS.F ht⟩) hS.2.2 dX12_arms_484
          ·
            replace hf := (if_neg c24).symm.trans hf
            exact j_X12_arms_250 l dC dI Q N R hx hb hr hml hown hts hlocks hZ hA hK p22.2 x1 _ _ _ hf hP hD hS (lv_sub hl [0, 1] rfl)
        ·
          replace hf := (if_pos c21).symm.trans hf
          refine lv_aload_n hx hb dX12_arms_229 rfl (lv_at hl 0 rfl) ?_
          refine rG_68 hx hb hts i_X12_arms_X12 hown hK hP (hts (.fieldLink RX12 186 "StatementRules2Model" "fr" "[I") k_X12_arms_fieldLink_RX12_186_SRModel_fr_I) dX12_arms_230 ?_
          refine lv_iload_n hx hb dX12_arms_233 rfl (lv_at hl 1 rfl) ?_
          refine rL_68 (v := (σ.a 68 ((x1 : Int32).toNatClampNeg))) hx hb hK hP b1 dX12_arms_234 rfl ?_
          refine lv_iconst (v := 1) hx hb dX12_arms_235 (by decide) ?_
          refine lv_icmp_ne (tgt := 243) hx hb dX12_arms_236 (by decide) (fun c29 => ?_) (fun c29 => ?_)
          ·
            replace hf := (if_neg c29).symm.trans hf
            refine lv_iconst (v := 0) hx hb dX12_arms_243 (by decide) ?_
            obtain ⟨p30, hcp30, hf⟩ := hf_bind hf
            have hFc := r_free hD hS hA
            refine va_calli (va_runV (As := [.int 0]) (rest := []) ⟨hx, hb, hml, hown, hts⟩ (c_X12_can l dC dI _ Q N σ 0 p30 hcp30) (cwV 1 hts hX12_arms_X12_can_v341 rfl rfl rfl (by decide +kernel) ⟨Nat.le_of_ble_eq_true rfl, Nat.le_of_ble_eq_true rfl⟩) ⟨zPre.blind, va_recv hK hP (ci := 11) (q0 := 0) rfl rfl, zPre.go hZ hP hK hD⟩ rfl rfl hl.1 rfl (lv_room (Nat.le_of_ble_eq_true rfl)) dX12_arms_244 ⟨Nat.le_of_ble_eq_true rfl, Nat.le_of_ble_eq_true rfl⟩) hS (fun q _ h => hFc q h) hFc (fun r31 u9 t9 H1 locs ht hvm hw hB hz1 hk1 hS => ?_)
            obtain ⟨hP, hK1, hD1⟩ := hB
            rw [ht] at hP
            have hD := hD1.weaken (fun _ _ _ h => hFc _ h)
            generalize H1 = H at hP hS ⊢
            obtain rfl : r31 = p30.1 := hw
            refine lv_if_eq (tgt := 484) hx hb dX12_arms_247 (by decide) (fun c32 => ?_) (fun c32 => ?_)
            ·
              replace hf := (if_pos c32).symm.trans hf
              obtain rfl := Option.some.inj hf
              exact W.vret hx hb hr (fun t ht hW => ⟨⟨(), rfl, trivial, by rw [ht]; exact hP, va_K.moved hW.alike hK, hD⟩, hS.F ht⟩) hS.2.2 dX12_arms_484
            ·
              replace hf := (if_neg c32).symm.trans hf
              exact j_X12_arms_250 l dC dI Q N R hx hb hr hml hown hts hlocks hZ hA hK p30.2 x1 _ _ _ hf hP hD hS (lv_sub hl [0, 1] rfl)
          ·
            replace hf := (if_pos c29).symm.trans hf
            refine lv_iconst (v := 1) hx hb dX12_arms_239 (by decide) ?_
            refine lv_goto (tgt := 244) hx hb dX12_arms_240 (by decide) ?_
            obtain ⟨p33, hcp33, hf⟩ := hf_bind hf
            have hFc := r_free hD hS hA
            refine va_calli (va_runV (As := [.int 1]) (rest := []) ⟨hx, hb, hml, hown, hts⟩ (c_X12_can l dC dI _ Q N σ 1 p33 hcp33) (cwV 1 hts hX12_arms_X12_can_v341 rfl rfl rfl (by decide +kernel) ⟨Nat.le_of_ble_eq_true rfl, Nat.le_of_ble_eq_true rfl⟩) ⟨zPre.blind, va_recv hK hP (ci := 11) (q0 := 0) rfl rfl, zPre.go hZ hP hK hD⟩ rfl rfl hl.1 rfl (lv_room (Nat.le_of_ble_eq_true rfl)) dX12_arms_244 ⟨Nat.le_of_ble_eq_true rfl, Nat.le_of_ble_eq_true rfl⟩) hS (fun q _ h => hFc q h) hFc (fun r34 u9 t9 H1 locs ht hvm hw hB hz1 hk1 hS => ?_)
            obtain ⟨hP, hK1, hD1⟩ := hB
            rw [ht] at hP
            have hD := hD1.weaken (fun _ _ _ h => hFc _ h)
            generalize H1 = H at hP hS ⊢
            obtain rfl : r34 = p33.1 := hw
            refine lv_if_eq (tgt := 484) hx hb dX12_arms_247 (by decide) (fun c35 => ?_) (fun c35 => ?_)
            ·
              replace hf := (if_pos c35).symm.trans hf
              obtain rfl := Option.some.inj hf
              exact W.vret hx hb hr (fun t ht hW => ⟨⟨(), rfl, trivial, by rw [ht]; exact hP, va_K.moved hW.alike hK, hD⟩, hS.F ht⟩) hS.2.2 dX12_arms_484
            ·
              replace hf := (if_neg c35).symm.trans hf
              exact j_X12_arms_250 l dC dI Q N R hx hb hr hml hown hts hlocks hZ hA hK p33.2 x1 _ _ _ hf hP hD hS (lv_sub hl [0, 1] rfl)
      ·
        replace hf := (if_pos c20).symm.trans hf
        refine lv_aload_n hx hb dX12_arms_171 rfl (lv_at hl 0 rfl) ?_
        refine rG_68 hx hb hts i_X12_arms_X12 hown hK hP (hts (.fieldLink RX12 186 "StatementRules2Model" "fr" "[I") k_X12_arms_fieldLink_RX12_186_SRModel_fr_I) dX12_arms_172 ?_
        refine lv_iload_n hx hb dX12_arms_175 rfl (lv_at hl 1 rfl) ?_
        refine rL_68 (v := (σ.a 68 ((x1 : Int32).toNatClampNeg))) hx hb hK hP b1 dX12_arms_176 rfl ?_
        refine lv_iconst (v := 1) hx hb dX12_arms_177 (by decide) ?_
        refine lv_icmp_ne (tgt := 191) hx hb dX12_arms_178 (by decide) (fun c36 => ?_) (fun c36 => ?_)
        ·
          replace hf := (if_neg c36).symm.trans hf
          refine lv_aload_n hx hb dX12_arms_191 rfl (lv_at hl 0 rfl) ?_
          refine rG_68 hx hb hts i_X12_arms_X12 hown hK hP (hts (.fieldLink RX12 186 "StatementRules2Model" "fr" "[I") k_X12_arms_fieldLink_RX12_186_SRModel_fr_I) dX12_arms_192 ?_
          refine lv_iload_n hx hb dX12_arms_195 rfl (lv_at hl 1 rfl) ?_
          refine lv_iconst (v := 1) hx hb dX12_arms_196 (by decide) ?_
          refine rS_68 hx hb hK hP hD hS b1 dX12_arms_197 (fun H locs hP hD hS => ?_)
          refine lv_aload_n hx hb dX12_arms_198 rfl (lv_at hl 0 rfl) ?_
          refine lv_iload_n hx hb dX12_arms_199 rfl (lv_at hl 1 rfl) ?_
          refine lv_iconst (v := 0) hx hb dX12_arms_200 (by decide) ?_
          refine lv_iconst (v := 1) hx hb dX12_arms_201 (by decide) ?_
          obtain ⟨p37, hcp37, hf⟩ := hf_bind hf
          have hFc := r_free hD hS hA
          refine va_callv (va_runV (As := [.int x1, .int 0, .int 1]) (rest := []) ⟨hx, hb, hml, hown, hts⟩ (c_X12_entry l dC dI _ Q N (RS.setA σ 68 ((x1 : Int32).toNatClampNeg) 1) x1 0 1 p37 hcp37) (cwV 3 hts hX12_arms_X12_entry_v481 rfl rfl rfl (by decide +kernel) ⟨Nat.le_of_ble_eq_true rfl, Nat.le_of_ble_eq_true rfl⟩) ⟨zPre.blind, va_recv hK hP (ci := 11) (q0 := 0) rfl rfl, zPre.go hZ hP hK hD⟩ rfl rfl hl.1 rfl (lv_room (Nat.le_of_ble_eq_true rfl)) dX12_arms_202 ⟨Nat.le_of_ble_eq_true rfl, Nat.le_of_ble_eq_true rfl⟩) hS (fun q _ h => hFc q h) hFc (fun u9 t9 H1 locs ht hvm hw hB hz1 hk1 hS => ?_)
          obtain ⟨hP, hK1, hD1⟩ := hB
          rw [ht] at hP
          have hD := hD1.weaken (fun _ _ _ h => hFc _ h)
          generalize H1 = H at hP hS ⊢
          refine lv_aload_n hx hb dX12_arms_205 rfl (lv_at hl 0 rfl) ?_
          obtain ⟨p39, hcp39, hf⟩ := hf_bind hf
          have hFc := r_free hD hS hA
          refine va_callv (va_runV (As := []) (rest := []) ⟨hx, hb, hml, hown, hts⟩ (c_X12_next l dC dI _ Q N p37 p39 hcp39) (cwV 0 hts hX12_arms_X12_next_v345 rfl rfl rfl (by decide +kernel) ⟨Nat.le_of_ble_eq_true rfl, Nat.le_of_ble_eq_true rfl⟩) ⟨zPre.blind, va_recv hK hP (ci := 11) (q0 := 0) rfl rfl, zPre.go hZ hP hK hD⟩ rfl rfl hl.1 rfl (lv_room (Nat.le_of_ble_eq_true rfl)) dX12_arms_206 ⟨Nat.le_of_ble_eq_true rfl, Nat.le_of_ble_eq_true rfl⟩) hS (fun q _ h => hFc q h) hFc (fun u9 t9 H1 locs ht hvm hw hB hz1 hk1 hS => ?_)
          obtain ⟨hP, hK1, hD1⟩ := hB
          rw [ht] at hP
          have hD := hD1.weaken (fun _ _ _ h => hFc _ h)
          generalize H1 = H at hP hS ⊢
          refine lv_aload_n hx hb dX12_arms_209 rfl (lv_at hl 0 rfl) ?_
          refine rG_65 hx hb hts i_X12_arms_X12 hown hK hP (hts (.fieldLink RX12 177 "StatementRules2Model" "fs" "[I") k_X12_arms_fieldLink_RX12_177_SRModel_fs_I) dX12_arms_210 ?_
          refine lv_iload_n hx hb dX12_arms_213 rfl (lv_at hl 1 rfl) ?_
          refine lv_iconst (v := 5) hx hb dX12_arms_214 (by decide) ?_
          refine rS_65 hx hb hK hP hD hS b1 dX12_arms_215 (fun H locs hP hD hS => ?_)
          refine lv_goto (tgt := 484) hx hb dX12_arms_216 (by decide) ?_
          obtain rfl := Option.some.inj hf
          exact W.vret hx hb hr (fun t ht hW => ⟨⟨(), rfl, trivial, by rw [ht]; exact hP, va_K.moved hW.alike hK, hD⟩, hS.F ht⟩) hS.2.2 dX12_arms_484
        ·
          replace hf := (if_pos c36).symm.trans hf
          refine lv_aload_n hx hb dX12_arms_181 rfl (lv_at hl 0 rfl) ?_
          refine lv_iconst (v := 4) hx hb dX12_arms_182 (by decide) ?_
          refine lv_aload_n hx hb dX12_arms_183 rfl (lv_at hl 0 rfl) ?_
          refine rG_11 (v := (σ.i 11)) hx hb hts i_X12_arms_X12 hown hK hP (hts (.fieldLink RX12 304 "StatementRules2Model" "from" "I") k_X12_arms_fieldLink_RX12_304_SRModel_from_I) dX12_arms_184 rfl ?_
          obtain ⟨p41, hcp41, hf⟩ := hf_bind hf
          have hFc := r_free hD hS hA
          refine va_callv (va_runV (As := [.int 4, .int (σ.i 11)]) (rest := []) ⟨hx, hb, hml, hown, hts⟩ (c_X12_fail l dC dI _ Q N σ 4 (σ.i 11) p41 hcp41) (cwV 2 hts hX12_arms_X12_fail_v337 rfl rfl rfl (by decide +kernel) ⟨Nat.le_of_ble_eq_true rfl, Nat.le_of_ble_eq_true rfl⟩) ⟨zPre.blind, va_recv hK hP (ci := 11) (q0 := 0) rfl rfl, zPre.go hZ hP hK hD⟩ rfl rfl hl.1 rfl (lv_room (Nat.le_of_ble_eq_true rfl)) dX12_arms_187 ⟨Nat.le_of_ble_eq_true rfl, Nat.le_of_ble_eq_true rfl⟩) hS (fun q _ h => hFc q h) hFc (fun u9 t9 H1 locs ht hvm hw hB hz1 hk1 hS => ?_)
          obtain ⟨hP, hK1, hD1⟩ := hB
          rw [ht] at hP
          have hD := hD1.weaken (fun _ _ _ h => hFc _ h)
          generalize H1 = H at hP hS ⊢
          obtain rfl := Option.some.inj hf
          exact W.vret hx hb hr (fun t ht hW => ⟨⟨(), rfl, trivial, by rw [ht]; exact hP, va_K.moved hW.alike hK, hD⟩, hS.F ht⟩) hS.2.2 dX12_arms_190
    ·
      replace hf := (if_pos c19).symm.trans hf
      refine lv_aload_n hx hb dX12_arms_147 rfl (lv_at hl 0 rfl) ?_
      obtain ⟨p43, hcp43, hf⟩ := hf_bind hf
      have hFc := r_free hD hS hA
      refine va_callv (va_runV (As := []) (rest := []) ⟨hx, hb, hml, hown, hts⟩ (c_X12_next l dC dI _ Q N σ p43 hcp43) (cwV 0 hts hX12_arms_X12_next_v345 rfl rfl rfl (by decide +kernel) ⟨Nat.le_of_ble_eq_true rfl, Nat.le_of_ble_eq_true rfl⟩) ⟨zPre.blind, va_recv hK hP (ci := 11) (q0 := 0) rfl rfl, zPre.go hZ hP hK hD⟩ rfl rfl hl.1 rfl (lv_room (Nat.le_of_ble_eq_true rfl)) dX12_arms_148 ⟨Nat.le_of_ble_eq_true rfl, Nat.le_of_ble_eq_true rfl⟩) hS (fun q _ h => hFc q h) hFc (fun u9 t9 H1 locs ht hvm hw hB hz1 hk1 hS => ?_)
      obtain ⟨hP, hK1, hD1⟩ := hB
      rw [ht] at hP
      have hD := hD1.weaken (fun _ _ _ h => hFc _ h)
      generalize H1 = H at hP hS ⊢
      refine lv_aload_n hx hb dX12_arms_151 rfl (lv_at hl 0 rfl) ?_
      refine rG_65 hx hb hts i_X12_arms_X12 hown hK hP (hts (.fieldLink RX12 177 "StatementRules2Model" "fs" "[I") k_X12_arms_fieldLink_RX12_177_SRModel_fs_I) dX12_arms_152 ?_
      refine lv_iload_n hx hb dX12_arms_155 rfl (lv_at hl 1 rfl) ?_
      refine lv_iconst (v := 3) hx hb dX12_arms_156 (by decide) ?_
      refine rS_65 hx hb hK hP hD hS b1 dX12_arms_157 (fun H locs hP hD hS => ?_)
      refine lv_goto (tgt := 484) hx hb dX12_arms_158 (by decide) ?_
      obtain rfl := Option.some.inj hf
      exact W.vret hx hb hr (fun t ht hW => ⟨⟨(), rfl, trivial, by rw [ht]; exact hP, va_K.moved hW.alike hK, hD⟩, hS.F ht⟩) hS.2.2 dX12_arms_484
  replace hf := (if_neg c18).symm.trans hf
  by_cases c45 : (σ.a 65 ((x1 : Int32).toNatClampNeg)) = 3
  ·
    replace hf := (if_pos c45).symm.trans hf
    refine lv_tableIn (off := 299) (tgt := 305) hx hb dX12_arms_6 (by rw [c45]; decide) (by rw [c45]; decide) (by rw [c45]; decide) (by decide) ?_
    refine lv_aload_n hx hb dX12_arms_305 rfl (lv_at hl 0 rfl) ?_
    refine lv_iload_n hx hb dX12_arms_306 rfl (lv_at hl 1 rfl) ?_
    obtain ⟨p46, hcp46, hf⟩ := hf_bind hf
    have hFc := r_free hD hS hA
    refine va_calli (va_runV (As := [.int x1]) (rest := []) ⟨hx, hb, hml, hown, hts⟩ (c_X12_caseNumber l dC dI _ Q N σ x1 p46 hcp46) (cwV 1 hts hX12_arms_X12_caseNumber_v484 rfl rfl rfl (by decide +kernel) ⟨Nat.le_of_ble_eq_true rfl, Nat.le_of_ble_eq_true rfl⟩) ⟨zPre.blind, va_recv hK hP (ci := 11) (q0 := 0) rfl rfl, zPre.go hZ hP hK hD⟩ rfl rfl hl.1 rfl (lv_room (Nat.le_of_ble_eq_true rfl)) dX12_arms_307 ⟨Nat.le_of_ble_eq_true rfl, Nat.le_of_ble_eq_true rfl⟩) hS (fun q _ h => hFc q h) hFc (fun r47 u9 t9 H1 locs ht hvm hw hB hz1 hk1 hS => ?_)
    obtain ⟨hP, hK1, hD1⟩ := hB
    rw [ht] at hP
    have hD := hD1.weaken (fun _ _ _ h => hFc _ h)
    generalize H1 = H at hP hS ⊢
    obtain rfl : r47 = p46.1 := hw
    refine lv_if_eq (tgt := 484) hx hb dX12_arms_310 (by decide) (fun c48 => ?_) (fun c48 => ?_)
    ·
      replace hf := (if_pos c48).symm.trans hf
      obtain rfl := Option.some.inj hf
      exact W.vret hx hb hr (fun t ht hW => ⟨⟨(), rfl, trivial, by rw [ht]; exact hP, va_K.moved hW.alike hK, hD⟩, hS.F ht⟩) hS.2.2 dX12_arms_484
    ·
      replace hf := (if_neg c48).symm.trans hf
      refine lv_aload_n hx hb dX12_arms_313 rfl (lv_at hl 0 rfl) ?_
      refine rG_65 hx hb hts i_X12_arms_X12 hown hK hP (hts (.fieldLink RX12 177 "StatementRules2Model" "fs" "[I") k_X12_arms_fieldLink_RX12_177_SRModel_fs_I) dX12_arms_314 ?_
      refine lv_iload_n hx hb dX12_arms_317 rfl (lv_at hl 1 rfl) ?_
      refine lv_aload_n hx hb dX12_arms_318 rfl (lv_at hl 0 rfl) ?_
      refine rG_10 (v := (p46.2.i 10)) hx hb hts i_X12_arms_X12 hown hK hP (hts (.fieldLink RX12 307 "StatementRules2Model" "tok" "I") k_X12_arms_fieldLink_RX12_307_SRModel_tok_I) dX12_arms_319 rfl ?_
      refine lv_bipush (v := 44) hx hb dX12_arms_322 (by decide) ?_
      refine lv_icmp_ne (tgt := 331) hx hb dX12_arms_324 (by decide) (fun c49 => ?_) (fun c49 => ?_)
      ·
        replace hf := (if_neg c49).symm.trans hf
        refine lv_iconst (v := 5) hx hb dX12_arms_331 (by decide) ?_
        refine rS_65 hx hb hK hP hD hS b1 dX12_arms_332 (fun H locs hP hD hS => ?_)
        exact j_X12_arms_333 l dC dI Q N R hx hb hr hml hown hts hlocks hZ hA hK (RS.setA p46.2 65 ((x1 : Int32).toNatClampNeg) 5) _ _ _ hf hP hD hS (lv_sub hl [0] rfl)
      ·
        replace hf := (if_pos c49).symm.trans hf
        refine lv_iconst (v := 3) hx hb dX12_arms_327 (by decide) ?_
        refine lv_goto (tgt := 332) hx hb dX12_arms_328 (by decide) ?_
        refine rS_65 hx hb hK hP hD hS b1 dX12_arms_332 (fun H locs hP hD hS => ?_)
        exact j_X12_arms_333 l dC dI Q N R hx hb hr hml hown hts hlocks hZ hA hK (RS.setA p46.2 65 ((x1 : Int32).toNatClampNeg) 3) _ _ _ hf hP hD hS (lv_sub hl [0] rfl)
  replace hf := (if_neg c45).symm.trans hf
  by_cases c53 : (σ.a 65 ((x1 : Int32).toNatClampNeg)) = 4
  ·
    replace hf := (if_pos c53).symm.trans hf
    refine lv_tableIn (off := 456) (tgt := 462) hx hb dX12_arms_6 (by rw [c53]; decide) (by rw [c53]; decide) (by rw [c53]; decide) (by decide) ?_
    refine lv_aload_n hx hb dX12_arms_462 rfl (lv_at hl 0 rfl) ?_
    refine lv_bipush (v := 59) hx hb dX12_arms_463 (by decide) ?_
    obtain ⟨p54, hcp54, hf⟩ := hf_bind hf
    have hFc := r_free hD hS hA
    refine va_calli (va_runV (As := [.int 59]) (rest := []) ⟨hx, hb, hml, hown, hts⟩ (c_X12_need l dC dI _ Q N σ 59 p54 hcp54) (cwV 1 hts hX12_arms_X12_need_v355 rfl rfl rfl (by decide +kernel) ⟨Nat.le_of_ble_eq_true rfl, Nat.le_of_ble_eq_true rfl⟩) ⟨zPre.blind, va_recv hK hP (ci := 11) (q0 := 0) rfl rfl, zPre.go hZ hP hK hD⟩ rfl rfl hl.1 rfl (lv_room (Nat.le_of_ble_eq_true rfl)) dX12_arms_465 ⟨Nat.le_of_ble_eq_true rfl, Nat.le_of_ble_eq_true rfl⟩) hS (fun q _ h => hFc q h) hFc (fun r55 u9 t9 H1 locs ht hvm hw hB hz1 hk1 hS => ?_)
    obtain ⟨hP, hK1, hD1⟩ := hB
    rw [ht] at hP
    have hD := hD1.weaken (fun _ _ _ h => hFc _ h)
    generalize H1 = H at hP hS ⊢
    obtain rfl : r55 = p54.1 := hw
    refine lv_pop hx hb dX12_arms_468 rfl ?_
    refine lv_aload_n hx hb dX12_arms_469 rfl (lv_at hl 0 rfl) ?_
    refine lv_bipush (v := 30) hx hb dX12_arms_470 (by decide) ?_
    refine lv_iconst (v := 0) hx hb dX12_arms_472 (by decide) ?_
    obtain ⟨p56, hcp56, hf⟩ := hf_bind hf
    have hFc := r_free hD hS hA
    refine va_calli (va_runV (As := [.int 30, .int 0]) (rest := []) ⟨hx, hb, hml, hown, hts⟩ (c_X12_emit l dC dI _ Q N p54.2 30 0 p56 hcp56) (cwV 2 hts hX12_arms_X12_emit_v464 rfl rfl rfl (by decide +kernel) ⟨Nat.le_of_ble_eq_true rfl, Nat.le_of_ble_eq_true rfl⟩) ⟨zPre.blind, va_recv hK hP (ci := 11) (q0 := 0) rfl rfl, zPre.go hZ hP hK hD⟩ rfl rfl hl.1 rfl (lv_room (Nat.le_of_ble_eq_true rfl)) dX12_arms_473 ⟨Nat.le_of_ble_eq_true rfl, Nat.le_of_ble_eq_true rfl⟩) hS (fun q _ h => hFc q h) hFc (fun r57 u9 t9 H1 locs ht hvm hw hB hz1 hk1 hS => ?_)
    obtain ⟨hP, hK1, hD1⟩ := hB
    rw [ht] at hP
    have hD := hD1.weaken (fun _ _ _ h => hFc _ h)
    generalize H1 = H at hP hS ⊢
    obtain rfl : r57 = p56.1 := hw
    refine lv_pop hx hb dX12_arms_476 rfl ?_
    refine lv_aload_n hx hb dX12_arms_477 rfl (lv_at hl 0 rfl) ?_
    refine rG_65 hx hb hts i_X12_arms_X12 hown hK hP (hts (.fieldLink RX12 177 "StatementRules2Model" "fs" "[I") k_X12_arms_fieldLink_RX12_177_SRModel_fs_I) dX12_arms_478 ?_
    refine lv_iload_n hx hb dX12_arms_481 rfl (lv_at hl 1 rfl) ?_
    refine lv_iconst (v := 2) hx hb dX12_arms_482 (by decide) ?_
    refine rS_65 hx hb hK hP hD hS b1 dX12_arms_483 (fun H locs hP hD hS => ?_)
    obtain rfl := Option.some.inj hf
    exact W.vret hx hb hr (fun t ht hW => ⟨⟨(), rfl, trivial, by rw [ht]; exact hP, va_K.moved hW.alike hK, hD⟩, hS.F ht⟩) hS.2.2 dX12_arms_484
  replace hf := (if_neg c53).symm.trans hf
  by_cases c58 : (σ.a 65 ((x1 : Int32).toNatClampNeg)) = 5
  ·
    replace hf := (if_pos c58).symm.trans hf
    refine lv_tableIn (off := 343) (tgt := 349) hx hb dX12_arms_6 (by rw [c58]; decide) (by rw [c58]; decide) (by rw [c58]; decide) (by decide) ?_
    refine lv_aload_n hx hb dX12_arms_349 rfl (lv_at hl 0 rfl) ?_
    refine lv_sipush (v := 306) hx hb dX12_arms_350 (by decide) ?_
    obtain ⟨p59, hcp59, hf⟩ := hf_bind hf
    have hFc := r_free hD hS hA
    refine va_calli (va_runV (As := [.int 306]) (rest := []) ⟨hx, hb, hml, hown, hts⟩ (c_X12_need l dC dI _ Q N σ 306 p59 hcp59) (cwV 1 hts hX12_arms_X12_need_v355 rfl rfl rfl (by decide +kernel) ⟨Nat.le_of_ble_eq_true rfl, Nat.le_of_ble_eq_true rfl⟩) ⟨zPre.blind, va_recv hK hP (ci := 11) (q0 := 0) rfl rfl, zPre.go hZ hP hK hD⟩ rfl rfl hl.1 rfl (lv_room (Nat.le_of_ble_eq_true rfl)) dX12_arms_353 ⟨Nat.le_of_ble_eq_true rfl, Nat.le_of_ble_eq_true rfl⟩) hS (fun q _ h => hFc q h) hFc (fun r60 u9 t9 H1 locs ht hvm hw hB hz1 hk1 hS => ?_)
    obtain ⟨hP, hK1, hD1⟩ := hB
    rw [ht] at hP
    have hD := hD1.weaken (fun _ _ _ h => hFc _ h)
    generalize H1 = H at hP hS ⊢
    obtain rfl : r60 = p59.1 := hw
    refine lv_pop hx hb dX12_arms_356 rfl ?_
    refine lv_aload_n hx hb dX12_arms_357 rfl (lv_at hl 0 rfl) ?_
    refine rG_15 (v := (p59.2.i 15)) hx hb hts i_X12_arms_X12 hown hK hP (hts (.fieldLink RX12 291 "StatementRules2Model" "fault" "I") k_X12_arms_fieldLink_RX12_291_SRModel_fault_I) dX12_arms_358 rfl ?_
    refine lv_if_ne (tgt := 400) hx hb dX12_arms_361 (by decide) (fun c61 => ?_) (fun c61 => ?_)
    ·
      replace hf := (if_neg c61).symm.trans hf
      exact j_X12_arms_400 l dC dI Q N R hx hb hr hml hown hts hlocks hZ hA hK p59.2 _ _ _ hf hP hD hS (lv_sub hl [0] rfl)
    ·
      replace hf := (if_pos c61).symm.trans hf
      refine lv_aload_n hx hb dX12_arms_364 rfl (lv_at hl 0 rfl) ?_
      refine rG_10 (v := (p59.2.i 10)) hx hb hts i_X12_arms_X12 hown hK hP (hts (.fieldLink RX12 307 "StatementRules2Model" "tok" "I") k_X12_arms_fieldLink_RX12_307_SRModel_tok_I) dX12_arms_365 rfl ?_
      refine lv_bipush (v := 123) hx hb dX12_arms_368 (by decide) ?_
      refine lv_icmp_ne (tgt := 400) hx hb dX12_arms_370 (by decide) (fun c64 => ?_) (fun c64 => ?_)
      ·
        replace hf := (if_neg c64).symm.trans hf
        exact j_X12_arms_400 l dC dI Q N R hx hb hr hml hown hts hlocks hZ hA hK p59.2 _ _ _ hf hP hD hS (lv_sub hl [0] rfl)
      ·
        replace hf := (if_pos c64).symm.trans hf
        refine lv_aload_n hx hb dX12_arms_373 rfl (lv_at hl 0 rfl) ?_
        refine lv_bipush (v := 123) hx hb dX12_arms_374 (by decide) ?_
        obtain ⟨p65, hcp65, hf⟩ := hf_bind hf
        have hFc := r_free hD hS hA
        refine va_calli (va_runV (As := [.int 123]) (rest := []) ⟨hx, hb, hml, hown, hts⟩ (c_X12_open l dC dI _ Q N p59.2 123 p65 hcp65) (cwV 1 hts hX12_arms_X12_open_v475 rfl rfl rfl (by decide +kernel) ⟨Nat.le_of_ble_eq_true rfl, Nat.le_of_ble_eq_true rfl⟩) ⟨zPre.blind, va_recv hK hP (ci := 11) (q0 := 0) rfl rfl, zPre.go hZ hP hK hD⟩ rfl rfl hl.1 rfl (lv_room (Nat.le_of_ble_eq_true rfl)) dX12_arms_376 ⟨Nat.le_of_ble_eq_true rfl, Nat.le_of_ble_eq_true rfl⟩) hS (fun q _ h => hFc q h) hFc (fun r66 u9 t9 H1 locs ht hvm hw hB hz1 hk1 hS => ?_)
        obtain ⟨hP, hK1, hD1⟩ := hB
        rw [ht] at hP
        have hD := hD1.weaken (fun _ _ _ h => hFc _ h)
        generalize H1 = H at hP hS ⊢
        obtain rfl : r66 = p65.1 := hw
        refine lv_pop hx hb dX12_arms_379 rfl ?_
        refine lv_aload_n hx hb dX12_arms_380 rfl (lv_at hl 0 rfl) ?_
        refine rG_71 hx hb hts i_X12_arms_X12 hown hK hP (hts (.fieldLink RX12 195 "StatementRules2Model" "fx" "[I") k_X12_arms_fieldLink_RX12_195_SRModel_fx_I) dX12_arms_381 ?_
        refine lv_iload_n hx hb dX12_arms_384 rfl (lv_at hl 1 rfl) ?_
        refine lv_aload_n hx hb dX12_arms_385 rfl (lv_at hl 0 rfl) ?_
        refine rG_38 (v := (p65.2.i 38)) hx hb hts i_X12_arms_X12 hown hK hP (hts (.fieldLink RX12 361 "StatementRules2Model" "seen" "I") k_X12_arms_fieldLink_RX12_361_SRModel_seen_I) dX12_arms_386 rfl ?_
        refine rS_71 hx hb hK hP hD hS b1 dX12_arms_389 (fun H locs hP hD hS => ?_)
        refine lv_aload_n hx hb dX12_arms_390 rfl (lv_at hl 0 rfl) ?_
        refine lv_bipush (v := 6) hx hb dX12_arms_391 (by decide) ?_
        refine lv_iconst (v := 1) hx hb dX12_arms_393 (by decide) ?_
        obtain ⟨p67, hcp67, hf⟩ := hf_bind hf
        have hFc := r_free hD hS hA
        refine va_callv (va_runV (As := [.int 6, .int 1]) (rest := []) ⟨hx, hb, hml, hown, hts⟩ (c_X12_then l dC dI _ Q N (RS.setA p65.2 71 ((x1 : Int32).toNatClampNeg) (p65.2.i 38)) 6 1 p67 hcp67) (cwV 2 hts hX12_arms_X12_then_v393 rfl rfl rfl (by decide +kernel) ⟨Nat.le_of_ble_eq_true rfl, Nat.le_of_ble_eq_true rfl⟩) ⟨zPre.blind, va_recv hK hP (ci := 11) (q0 := 0) rfl rfl, zPre.go hZ hP hK hD⟩ rfl rfl hl.1 rfl (lv_room (Nat.le_of_ble_eq_true rfl)) dX12_arms_394 ⟨Nat.le_of_ble_eq_true rfl, Nat.le_of_ble_eq_true rfl⟩) hS (fun q _ h => hFc q h) hFc (fun u9 t9 H1 locs ht hvm hw hB hz1 hk1 hS => ?_)
        obtain ⟨hP, hK1, hD1⟩ := hB
        rw [ht] at hP
        have hD := hD1.weaken (fun _ _ _ h => hFc _ h)
        generalize H1 = H at hP hS ⊢
        refine lv_goto (tgt := 484) hx hb dX12_arms_397 (by decide) ?_
        obtain rfl := Option.some.inj hf
        exact W.vret hx hb hr (fun t ht hW => ⟨⟨(), rfl, trivial, by rw [ht]; exact hP, va_K.moved hW.alike hK, hD⟩, hS.F ht⟩) hS.2.2 dX12_arms_484
  replace hf := (if_neg c58).symm.trans hf
  by_cases c69 : (σ.a 65 ((x1 : Int32).toNatClampNeg)) = 6
  ·
    replace hf := (if_pos c69).symm.trans hf
    refine lv_tableIn (off := 405) (tgt := 411) hx hb dX12_arms_6 (by rw [c69]; decide) (by rw [c69]; decide) (by rw [c69]; decide) (by decide) ?_
    refine lv_aload_n hx hb dX12_arms_411 rfl (lv_at hl 0 rfl) ?_
    refine rG_75 (v := (σ.i 75)) hx hb hts i_X12_arms_X12 hown hK hP (hts (.fieldLink RX12 396 "StatementRules2Model" "res" "Z") k_X12_arms_fieldLink_RX12_396_SRModel_res_Z) dX12_arms_412 rfl ?_
    refine lv_if_eq (tgt := 435) hx hb dX12_arms_415 (by decide) (fun c70 => ?_) (fun c70 => ?_)
    ·
      replace hf := (if_pos c70).symm.trans hf
      exact j_X12_arms_435 l dC dI Q N R hx hb hr hml hown hts hlocks hZ hA hK σ x1 _ _ _ hf hP hD hS (lv_sub hl [0, 1] rfl)
    ·
      replace hf := (if_neg c70).symm.trans hf
      refine lv_aload_n hx hb dX12_arms_418 rfl (lv_at hl 0 rfl) ?_
      refine rG_10 (v := (σ.i 10)) hx hb hts i_X12_arms_X12 hown hK hP (hts (.fieldLink RX12 307 "StatementRules2Model" "tok" "I") k_X12_arms_fieldLink_RX12_307_SRModel_tok_I) dX12_arms_419 rfl ?_
      refine lv_bipush (v := 125) hx hb dX12_arms_422 (by decide) ?_
      refine lv_icmp_ne (tgt := 435) hx hb dX12_arms_424 (by decide) (fun c74 => ?_) (fun c74 => ?_)
      ·
        replace hf := (if_neg c74).symm.trans hf
        exact j_X12_arms_435 l dC dI Q N R hx hb hr hml hown hts hlocks hZ hA hK σ x1 _ _ _ hf hP hD hS (lv_sub hl [0, 1] rfl)
      ·
        replace hf := (if_pos c74).symm.trans hf
        refine lv_aload_n hx hb dX12_arms_427 rfl (lv_at hl 0 rfl) ?_
        refine lv_aload_n hx hb dX12_arms_428 rfl (lv_at hl 0 rfl) ?_
        refine rG_11 (v := (σ.i 11)) hx hb hts i_X12_arms_X12 hown hK hP (hts (.fieldLink RX12 304 "StatementRules2Model" "from" "I") k_X12_arms_fieldLink_RX12_304_SRModel_from_I) dX12_arms_429 rfl ?_
        obtain ⟨p75, hcp75, hf⟩ := hf_bind hf
        have hFc := r_free hD hS hA
        refine va_callv (va_runV (As := [.int (σ.i 11)]) (rest := []) ⟨hx, hb, hml, hown, hts⟩ (c_X12_note l dC dI _ Q N σ (σ.i 11) p75 hcp75) (cwV 1 hts hX12_arms_X12_note_v487 rfl rfl rfl (by decide +kernel) ⟨Nat.le_of_ble_eq_true rfl, Nat.le_of_ble_eq_true rfl⟩) ⟨zPre.blind, va_recv hK hP (ci := 11) (q0 := 0) rfl rfl, zPre.go hZ hP hK hD⟩ rfl rfl hl.1 rfl (lv_room (Nat.le_of_ble_eq_true rfl)) dX12_arms_432 ⟨Nat.le_of_ble_eq_true rfl, Nat.le_of_ble_eq_true rfl⟩) hS (fun q _ h => hFc q h) hFc (fun u9 t9 H1 locs ht hvm hw hB hz1 hk1 hS => ?_)
        obtain ⟨hP, hK1, hD1⟩ := hB
        rw [ht] at hP
        have hD := hD1.weaken (fun _ _ _ h => hFc _ h)
        generalize H1 = H at hP hS ⊢
        exact j_X12_arms_435 l dC dI Q N R hx hb hr hml hown hts hlocks hZ hA hK p75 x1 _ _ _ hf hP hD hS (lv_sub hl [0, 1] rfl)
  replace hf := (if_neg c69).symm.trans hf
  refine lv_tableOut (tgt := 462) hx hb dX12_arms_6 (by have := z_ton (a := 0) c2 (by decide); have := z_ton (a := 1) c9 (by decide); have := z_ton (a := 2) c18 (by decide); have := z_ton (a := 3) c45 (by decide); have := z_ton (a := 4) c53 (by decide); have := z_ton (a := 5) c58 (by decide); have := z_ton (a := 6) c69 (by decide); omega) (by decide) ?_
  refine lv_aload_n hx hb dX12_arms_462 rfl (lv_at hl 0 rfl) ?_
  refine lv_bipush (v := 59) hx hb dX12_arms_463 (by decide) ?_
  obtain ⟨p77, hcp77, hf⟩ := hf_bind hf
  have hFc := r_free hD hS hA
  refine va_calli (va_runV (As := [.int 59]) (rest := []) ⟨hx, hb, hml, hown, hts⟩ (c_X12_need l dC dI _ Q N σ 59 p77 hcp77) (cwV 1 hts hX12_arms_X12_need_v355 rfl rfl rfl (by decide +kernel) ⟨Nat.le_of_ble_eq_true rfl, Nat.le_of_ble_eq_true rfl⟩) ⟨zPre.blind, va_recv hK hP (ci := 11) (q0 := 0) rfl rfl, zPre.go hZ hP hK hD⟩ rfl rfl hl.1 rfl (lv_room (Nat.le_of_ble_eq_true rfl)) dX12_arms_465 ⟨Nat.le_of_ble_eq_true rfl, Nat.le_of_ble_eq_true rfl⟩) hS (fun q _ h => hFc q h) hFc (fun r78 u9 t9 H1 locs ht hvm hw hB hz1 hk1 hS => ?_)
  obtain ⟨hP, hK1, hD1⟩ := hB
  rw [ht] at hP
  have hD := hD1.weaken (fun _ _ _ h => hFc _ h)
  generalize H1 = H at hP hS ⊢
  obtain rfl : r78 = p77.1 := hw
  refine lv_pop hx hb dX12_arms_468 rfl ?_
  refine lv_aload_n hx hb dX12_arms_469 rfl (lv_at hl 0 rfl) ?_
  refine lv_bipush (v := 30) hx hb dX12_arms_470 (by decide) ?_
  refine lv_iconst (v := 0) hx hb dX12_arms_472 (by decide) ?_
  obtain ⟨p79, hcp79, hf⟩ := hf_bind hf
  have hFc := r_free hD hS hA
  refine va_calli (va_runV (As := [.int 30, .int 0]) (rest := []) ⟨hx, hb, hml, hown, hts⟩ (c_X12_emit l dC dI _ Q N p77.2 30 0 p79 hcp79) (cwV 2 hts hX12_arms_X12_emit_v464 rfl rfl rfl (by decide +kernel) ⟨Nat.le_of_ble_eq_true rfl, Nat.le_of_ble_eq_true rfl⟩) ⟨zPre.blind, va_recv hK hP (ci := 11) (q0 := 0) rfl rfl, zPre.go hZ hP hK hD⟩ rfl rfl hl.1 rfl (lv_room (Nat.le_of_ble_eq_true rfl)) dX12_arms_473 ⟨Nat.le_of_ble_eq_true rfl, Nat.le_of_ble_eq_true rfl⟩) hS (fun q _ h => hFc q h) hFc (fun r80 u9 t9 H1 locs ht hvm hw hB hz1 hk1 hS => ?_)
  obtain ⟨hP, hK1, hD1⟩ := hB
  rw [ht] at hP
  have hD := hD1.weaken (fun _ _ _ h => hFc _ h)
  generalize H1 = H at hP hS ⊢
  obtain rfl : r80 = p79.1 := hw
  refine lv_pop hx hb dX12_arms_476 rfl ?_
  refine lv_aload_n hx hb dX12_arms_477 rfl (lv_at hl 0 rfl) ?_
  refine rG_65 hx hb hts i_X12_arms_X12 hown hK hP (hts (.fieldLink RX12 177 "StatementRules2Model" "fs" "[I") k_X12_arms_fieldLink_RX12_177_SRModel_fs_I) dX12_arms_478 ?_
  refine lv_iload_n hx hb dX12_arms_481 rfl (lv_at hl 1 rfl) ?_
  refine lv_iconst (v := 2) hx hb dX12_arms_482 (by decide) ?_
  refine rS_65 hx hb hK hP hD hS b1 dX12_arms_483 (fun H locs hP hD hS => ?_)
  obtain rfl := Option.some.inj hf
  exact W.vret hx hb hr (fun t ht hW => ⟨⟨(), rfl, trivial, by rw [ht]; exact hP, va_K.moved hW.alike hK, hD⟩, hS.F ht⟩) hS.2.2 dX12_arms_484
